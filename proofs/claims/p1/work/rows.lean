section
/-! My own rows over the kit's: one for a contract's start, one for a call with its frame, one for an end, joins and loops in place. -/
section VXA
variable {p : Program} {l : Launch} {e : Env} {R : Room} {s : State} {m : MethodId} {args : Array Value} {below : List Frame} {meth : Method} {c : Code} {H : Heap} {locs : List Loc} {cells slots : Nat} {Q : State → Prop}
/-- two ways meet: the heap is the same on both -/
theorem vx_join {α : Type} (I : α → Prop) (g1 : α → JFrame) {g : JFrame} (k : ∀ a, I a → W p l e R s m args below meth c H locs cells slots Q (g1 a)) (b : (∀ a, I a → W p l e R s m args below meth c H locs cells slots Q (g1 a)) → W p l e R s m args below meth c H locs cells slots Q g) : W p l e R s m args below meth c H locs cells slots Q g := b k
/-- two ways meet: with the heap -/
theorem vx_joinH {α : Type} (I : α → Heap → List Loc → Array Slot → Prop) (pc : Nat) (st : α → List Value) {g : JFrame} (k : ∀ a H locs ls, I a H locs ls → W p l e R s m args below meth c H locs cells slots Q (F0 m pc ls (st a))) (b : (∀ a H locs ls, I a H locs ls → W p l e R s m args below meth c H locs cells slots Q (F0 m pc ls (st a))) → W p l e R s m args below meth c H locs cells slots Q g) : W p l e R s m args below meth c H locs cells slots Q g := b k
/-- a loop: from every state with the invariant, if from every such state with a smaller measure -/
theorem vx_loop {α : Type} (I : α → Heap → List Loc → Array Slot → Prop) (mu : α → Nat) (pc : Nat) (st : List Value)
    (body : ∀ a H locs ls, I a H locs ls → (∀ a1 H1 locs1 ls1, I a1 H1 locs1 ls1 → mu a1 < mu a → W p l e R s m args below meth c H1 locs1 cells slots Q (F0 m pc ls1 st)) → W p l e R s m args below meth c H locs cells slots Q (F0 m pc ls st))
    (a : α) {H : Heap} {locs : List Loc} {ls : Array Slot} (h : I a H locs ls) : W p l e R s m args below meth c H locs cells slots Q (F0 m pc ls st) := by
  have key : ∀ n a H locs ls, mu a < n → I a H locs ls → W p l e R s m args below meth c H locs cells slots Q (F0 m pc ls st) := by
    intro n
    induction n with
    | zero => intro a H locs ls h; exact absurd h (Nat.not_lt_zero _)
    | succ n ih => intro a H locs ls hn hI; exact body a H locs ls hI (fun a1 H1 locs1 ls1 hI1 hm => ih a1 H1 locs1 ls1 (by omega) hI1)
  exact key (mu a + 1) a H locs ls (Nat.lt_succ_self _) h
end VXA
/-- a contract's start: the arguments, the cells of the world, the tables -/
def vx_Pc (D : va_G) (cl : List vw_C) (tys : List (ClassId × FieldType)) (av : List Value) (ws : va_W) (sz : Nat) : Array Value → State → Prop := va_Pc av (fun U => U.heap.size = sz ∧ va_P D cl ws U.heap ∧ va_K D cl tys U ∧ va_D (fun _ => True) ws)
/-- a contract's end: the cells of the world that is left, apart, in A -/
def vx_B (D : va_G) (cl : List vw_C) (tys : List (ClassId × FieldType)) (A : Nat → Prop) : va_W → State → Prop := fun w t => va_P D cl w t.heap ∧ va_K D cl tys t ∧ va_D A w
def vx_Br (D : va_G) (cl : List vw_C) (tys : List (ClassId × FieldType)) (A : Nat → Prop) : va_W × Nat → Nat → State → Prop := fun u a t => a = u.2 ∧ vx_B D cl tys A u.1 t
theorem vx_blind {D : va_G} {cl : List vw_C} {tys : List (ClassId × FieldType)} {av : List Value} {ws : va_W} {sz : Nat} : FrameBlind (vx_Pc D cl tys av ws sz) := fun a U g mk q => by
  obtain ⟨q0, q1, qP, qK, qD⟩ := q
  exact ⟨q0, q1, qP, va_K.moved (u := U) (U := U.calling g mk a) (Vm.Alike.refl U.vm) qK, qD⟩
/-- contracts: an int (or boolean) answer, none, a reference. 'post' is of the answer and of the cells that are left -/
def vx_Mi (l : Launch) (y : MethodName) (wy : List Cond) (rm : Room) (D : va_G) (cl : List vw_C) (tys : List (ClassId × FieldType)) (av : List Value) (ws : va_W) (post : Int32 → va_W → Prop) : Prop := ∀ sz : Nat, Met l y wy rm (vx_Pc D cl tys av ws sz) (va_Qi post (vx_B D cl tys (va_A ws sz)) (va_A ws sz)) rm.cells rm.slots (va_A ws sz)
def vx_Mv (l : Launch) (y : MethodName) (wy : List Cond) (rm : Room) (D : va_G) (cl : List vw_C) (tys : List (ClassId × FieldType)) (av : List Value) (ws : va_W) (post : va_W → Prop) : Prop := ∀ sz : Nat, Met l y wy rm (vx_Pc D cl tys av ws sz) (va_Qv post (vx_B D cl tys (va_A ws sz)) (va_A ws sz)) rm.cells rm.slots (va_A ws sz)
def vx_Mr (l : Launch) (y : MethodName) (wy : List Cond) (rm : Room) (D : va_G) (cl : List vw_C) (tys : List (ClassId × FieldType)) (av : List Value) (ws : va_W) (post : va_W × Nat → Prop) : Prop := ∀ sz : Nat, Met l y wy rm (vx_Pc D cl tys av ws sz) (va_Qr post (vx_Br D cl tys (va_A ws sz)) (va_A ws sz)) rm.cells rm.slots (va_A ws sz)
/-- what a walk stands on -/
def vx_C (p : Program) (s : State) (m : MethodId) (args : Array Value) (meth : Method) (c : Code) (cc : ByteArray) (nL : Nat) (y : MethodName) (ret : Option FieldType) (wy : List Cond) : Prop :=
  p.tables.exec = Jvm.exec ∧ c.code = cc ∧ meth.sig.returnType = ret ∧ c.maxLocals = nL ∧ s.vm.findClass y.cls = some m.cls ∧ (∀ w ∈ wy, w.before args s = true) ∧ meth.locks = false ∧ meth.name = y.name
section VXS
variable {l : Launch} {y : MethodName} {wy wy' : List Cond} {rm : Room} {D : va_G} {cl : List vw_C} {tys : List (ClassId × FieldType)} {av : List Value} {ws : va_W} {cc : ByteArray} {maxL : Nat} {ret : Option FieldType}
theorem vx_start {Qc : Nat → Array Value → State → Outcome → State → Prop} (hy : plainName y.cls = true) (hw : wy = Cond.code y cc maxL ret :: wy') (hlen : (lg_sl av).length ≤ maxL)
    (body : ∀ (p : Program) (e : Env) (s : State) (m : MethodId) (below : List Frame) (meth : Method) (c : Code) (ls : Array Slot), vx_C p s m av.toArray meth c cc maxL y ret wy → va_K D cl tys s → va_P D cl ws s.heap → va_D (va_A ws s.heap.size) ws → lv_has ls maxL (lv_args 0 av) →
      W p l e rm s m av.toArray below meth c s.heap [] 0 0 (MQ below (Qc s.heap.size) av.toArray s rm.cells rm.slots (va_A ws s.heap.size)) (F0 m 0 ls [])) :
    ∀ sz : Nat, Met l y wy rm (vx_Pc D cl tys av ws sz) (Qc sz) rm.cells rm.slots (va_A ws sz) := by
  intro sz
  refine Met.ofW (cc := cc) (maxL := maxL) (ret := ret) hy hw ?_
  intro p e s m args below meth c s₁ B hml hv
  obtain ⟨rfl, hsz, hP, hK, hD0⟩ := hv
  subst hsz
  have hl := lv_entry av (n := maxL) hlen
  rw [lg_entry_eq]
  exact body p e s m below meth c _ ⟨B.exec, B.bytes, B.returns, hml, findClass_of_methodNamed B.named, atoms_spec (ws := wy) B.pre, B.notSynchronized, (name_of_methodNamed B.named B.method).1⟩ hK hP hD0.self hl
theorem vx_startI {post : Int32 → va_W → Prop} (hy : plainName y.cls = true) (hw : wy = Cond.code y cc maxL ret :: wy') (hlen : (lg_sl av).length ≤ maxL)
    (body : ∀ (p : Program) (e : Env) (s : State) (m : MethodId) (below : List Frame) (meth : Method) (c : Code) (A : Nat → Prop) (ls : Array Slot), vx_C p s m av.toArray meth c cc maxL y ret wy → va_K D cl tys s → va_P D cl ws s.heap → va_D A ws → va_S A s.heap s.heap [] → (∀ q : Nat, s.heap.size ≤ q → A q) → lv_has ls maxL (lv_args 0 av) →
      W p l e rm s m av.toArray below meth c s.heap [] 0 0 (MQ below (va_Qi post (vx_B D cl tys A) A) av.toArray s rm.cells rm.slots A) (F0 m 0 ls [])) : vx_Mi l y wy rm D cl tys av ws post :=
  vx_start (Qc := fun sz => va_Qi post (vx_B D cl tys (va_A ws sz)) (va_A ws sz)) hy hw hlen (fun p e s m below meth c ls C hK hP hD hl => body p e s m below meth c _ ls C hK hP hD va_S.rf (fun _ h => Or.inr h) hl)
theorem vx_startV {post : va_W → Prop} (hy : plainName y.cls = true) (hw : wy = Cond.code y cc maxL ret :: wy') (hlen : (lg_sl av).length ≤ maxL)
    (body : ∀ (p : Program) (e : Env) (s : State) (m : MethodId) (below : List Frame) (meth : Method) (c : Code) (A : Nat → Prop) (ls : Array Slot), vx_C p s m av.toArray meth c cc maxL y ret wy → va_K D cl tys s → va_P D cl ws s.heap → va_D A ws → va_S A s.heap s.heap [] → (∀ q : Nat, s.heap.size ≤ q → A q) → lv_has ls maxL (lv_args 0 av) →
      W p l e rm s m av.toArray below meth c s.heap [] 0 0 (MQ below (va_Qv post (vx_B D cl tys A) A) av.toArray s rm.cells rm.slots A) (F0 m 0 ls [])) : vx_Mv l y wy rm D cl tys av ws post :=
  vx_start (Qc := fun sz => va_Qv post (vx_B D cl tys (va_A ws sz)) (va_A ws sz)) hy hw hlen (fun p e s m below meth c ls C hK hP hD hl => body p e s m below meth c _ ls C hK hP hD va_S.rf (fun _ h => Or.inr h) hl)
theorem vx_startR {post : va_W × Nat → Prop} (hy : plainName y.cls = true) (hw : wy = Cond.code y cc maxL ret :: wy') (hlen : (lg_sl av).length ≤ maxL)
    (body : ∀ (p : Program) (e : Env) (s : State) (m : MethodId) (below : List Frame) (meth : Method) (c : Code) (A : Nat → Prop) (ls : Array Slot), vx_C p s m av.toArray meth c cc maxL y ret wy → va_K D cl tys s → va_P D cl ws s.heap → va_D A ws → va_S A s.heap s.heap [] → (∀ q : Nat, s.heap.size ≤ q → A q) → lv_has ls maxL (lv_args 0 av) →
      W p l e rm s m av.toArray below meth c s.heap [] 0 0 (MQ below (va_Qr post (vx_Br D cl tys A) A) av.toArray s rm.cells rm.slots A) (F0 m 0 ls [])) : vx_Mr l y wy rm D cl tys av ws post :=
  vx_start (Qc := fun sz => va_Qr post (vx_Br D cl tys (va_A ws sz)) (va_A ws sz)) hy hw hlen (fun p e s m below meth c ls C hK hP hD hl => body p e s m below meth c _ ls C hK hP hD va_S.rf (fun _ h => Or.inr h) hl)
end VXS
section VXE
variable {p : Program} {l : Launch} {e : Env} {R : Room} {s : State} {m : MethodId} {args : Array Value} {below : List Frame} {meth : Method} {c : Code} {H : Heap} {locs : List Loc} {cells slots : Nat}
variable {y : MethodName} {wy : List Cond} {D : va_G} {cl : List vw_C} {tys : List (ClassId × FieldType)} {cc : ByteArray} {nL mc ms pc : Nat} {A : Nat → Prop} {w : va_W} {ls : Array Slot}
theorem vx_iret {post : Int32 → va_W → Prop} {v : Int32} (C : vx_C p s m args meth c cc nL y (some .int) wy) (hK : va_K D cl tys s) (hP : va_P D cl w H) (hD : va_D A w) (hS : va_S A s.heap H locs) (hdg : decode cc pc = .ok (.ireturn, 1)) (hc : cells ≤ mc) (hs : slots ≤ ms) (hpost : post v w) :
    W p l e R s m args below meth c H locs cells slots (MQ below (va_Qi post (vx_B D cl tys A) A) args s mc ms A) (F0 m pc ls [.int v]) := by
  obtain ⟨hx, hb, hr, hml, hown, hts, hlocks, hnm⟩ := C
  refine W.widen hc hs ?_
  exact W.iret hx hb hr (fun t ht hW => ⟨⟨v, w, rfl, hpost, by rw [ht]; exact hP, va_K.moved hW.alike hK, hD⟩, hS.F ht⟩) hS.2.2 hdg hlocks
theorem vx_zret {post : Int32 → va_W → Prop} {v : Int32} (C : vx_C p s m args meth c cc nL y (some .boolean) wy) (hK : va_K D cl tys s) (hP : va_P D cl w H) (hD : va_D A w) (hS : va_S A s.heap H locs) (hdg : decode cc pc = .ok (.ireturn, 1)) (hc : cells ≤ mc) (hs : slots ≤ ms) (hv : narrow .boolean (.int v) = .int v) (hpost : post v w) :
    W p l e R s m args below meth c H locs cells slots (MQ below (va_Qi post (vx_B D cl tys A) A) args s mc ms A) (F0 m pc ls [.int v]) := by
  obtain ⟨hx, hb, hr, hml, hown, hts, hlocks, hnm⟩ := C
  refine W.widen hc hs ?_
  exact W.zret hx hb hr hv (fun t ht hW => ⟨⟨v, w, rfl, hpost, by rw [ht]; exact hP, va_K.moved hW.alike hK, hD⟩, hS.F ht⟩) hS.2.2 hdg hlocks
theorem vx_vret {post : va_W → Prop} (C : vx_C p s m args meth c cc nL y none wy) (hK : va_K D cl tys s) (hP : va_P D cl w H) (hD : va_D A w) (hS : va_S A s.heap H locs) (hdg : decode cc pc = .ok (.return_, 1)) (hc : cells ≤ mc) (hs : slots ≤ ms) (hpost : post w) :
    W p l e R s m args below meth c H locs cells slots (MQ below (va_Qv post (vx_B D cl tys A) A) args s mc ms A) (F0 m pc ls []) := by
  obtain ⟨hx, hb, hr, hml, hown, hts, hlocks, hnm⟩ := C
  refine W.widen hc hs ?_
  exact W.vret hx hb hr (fun t ht hW => ⟨⟨w, rfl, hpost, by rw [ht]; exact hP, va_K.moved hW.alike hK, hD⟩, hS.F ht⟩) hS.2.2 hdg hlocks
theorem vx_aret {post : va_W × Nat → Prop} {v : Nat} {cn : String} (C : vx_C p s m args meth c cc nL y (some (.object cn)) wy) (hK : va_K D cl tys s) (hP : va_P D cl w H) (hD : va_D A w) (hS : va_S A s.heap H locs) (hdg : decode cc pc = .ok (.areturn, 1)) (hc : cells ≤ mc) (hs : slots ≤ ms) (hpost : post (w, v)) :
    W p l e R s m args below meth c H locs cells slots (MQ below (va_Qr post (vx_Br D cl tys A) A) args s mc ms A) (F0 m pc ls [.ref v]) := by
  obtain ⟨hx, hb, hr, hml, hown, hts, hlocks, hnm⟩ := C
  refine W.widen hc hs ?_
  exact W.aret hx hb hr (Or.inl ⟨_, rfl⟩) (Or.inr ⟨_, rfl⟩) (fun t ht hW => ⟨⟨(w, v), v, rfl, hpost, rfl, by rw [ht]; exact hP, va_K.moved hW.alike hK, hD⟩, hS.F ht⟩) hS.2.2 hdg hlocks
/-- behind a call: the world is what came back and what the callee didn't have -/
theorem vx_calli {rest st0 : List Value} {a : Array Value} {post : Int32 → va_W → Prop} {ws wc wr : va_W} {Q : State → Prop} (isC isR : List Nat) (hK : va_K D cl tys s) (hP : va_P D cl ws H) (hD : va_D A ws) (hS : va_S A s.heap H locs) (hA : ∀ q : Nat, s.heap.size ≤ q → A q) (hC : isC.map (fun i => ws[i]?) = wc.map some) (hR : isR.map (fun i => ws[i]?) = wr.map some) (hn : va_nd isR = true) (hdis : ∀ i ∈ isR, i ∉ isC)
    (hr : va_Run p l e R s m args below meth c H locs cells slots mc ms (F0 m pc ls st0) rest (va_Qi post (vx_B D cl tys (va_A wc H.size)) (va_A wc H.size) a) (va_A wc H.size))
    (kk : ∀ (r : Int32) (w1 : va_W) (H1 : Heap) (locs1 : List Loc), post r w1 → va_P D cl (wr ++ w1) H1 → va_D A (wr ++ w1) → va_S A s.heap H1 locs1 → W p l e R s m args below meth c H1 locs1 (cells + mc) (slots + ms) Q (F0 m (pc + 3) ls (.int r :: rest))) :
    W p l e R s m args below meth c H locs cells slots Q (F0 m pc ls st0) := by
  have hF := va_free (wc := wc) hD hS hA isC hC
  refine va_calli hr hS (fun q _ h => hF q h) hF (fun r u t H1 locs1 ht hvm hw hB hz1 hk1 hS1 => ?_)
  obtain ⟨hP1, hK1, hD1⟩ := hB
  rw [ht] at hP1
  obtain ⟨hP2, hD2⟩ := va_join hP hD isC isR hC hR hn hdis hk1 hF hP1 hD1
  exact kk r u H1 locs1 hw hP2 hD2 hS1
theorem vx_callv {rest st0 : List Value} {a : Array Value} {post : va_W → Prop} {ws wc wr : va_W} {Q : State → Prop} (isC isR : List Nat) (hK : va_K D cl tys s) (hP : va_P D cl ws H) (hD : va_D A ws) (hS : va_S A s.heap H locs) (hA : ∀ q : Nat, s.heap.size ≤ q → A q) (hC : isC.map (fun i => ws[i]?) = wc.map some) (hR : isR.map (fun i => ws[i]?) = wr.map some) (hn : va_nd isR = true) (hdis : ∀ i ∈ isR, i ∉ isC)
    (hr : va_Run p l e R s m args below meth c H locs cells slots mc ms (F0 m pc ls st0) rest (va_Qv post (vx_B D cl tys (va_A wc H.size)) (va_A wc H.size) a) (va_A wc H.size))
    (kk : ∀ (w1 : va_W) (H1 : Heap) (locs1 : List Loc), post w1 → va_P D cl (wr ++ w1) H1 → va_D A (wr ++ w1) → va_S A s.heap H1 locs1 → W p l e R s m args below meth c H1 locs1 (cells + mc) (slots + ms) Q (F0 m (pc + 3) ls rest)) :
    W p l e R s m args below meth c H locs cells slots Q (F0 m pc ls st0) := by
  have hF := va_free (wc := wc) hD hS hA isC hC
  refine va_callv hr hS (fun q _ h => hF q h) hF (fun u t H1 locs1 ht hvm hw hB hz1 hk1 hS1 => ?_)
  obtain ⟨hP1, hK1, hD1⟩ := hB
  rw [ht] at hP1
  obtain ⟨hP2, hD2⟩ := va_join hP hD isC isR hC hR hn hdis hk1 hF hP1 hD1
  exact kk u H1 locs1 hw hP2 hD2 hS1
theorem vx_callr {rest st0 : List Value} {a : Array Value} {post : va_W × Nat → Prop} {ws wc wr : va_W} {Q : State → Prop} (isC isR : List Nat) (hK : va_K D cl tys s) (hP : va_P D cl ws H) (hD : va_D A ws) (hS : va_S A s.heap H locs) (hA : ∀ q : Nat, s.heap.size ≤ q → A q) (hC : isC.map (fun i => ws[i]?) = wc.map some) (hR : isR.map (fun i => ws[i]?) = wr.map some) (hn : va_nd isR = true) (hdis : ∀ i ∈ isR, i ∉ isC)
    (hr : va_Run p l e R s m args below meth c H locs cells slots mc ms (F0 m pc ls st0) rest (va_Qr post (vx_Br D cl tys (va_A wc H.size)) (va_A wc H.size) a) (va_A wc H.size))
    (kk : ∀ (r : Nat) (w1 : va_W) (H1 : Heap) (locs1 : List Loc), post (w1, r) → va_P D cl (wr ++ w1) H1 → va_D A (wr ++ w1) → va_S A s.heap H1 locs1 → W p l e R s m args below meth c H1 locs1 (cells + mc) (slots + ms) Q (F0 m (pc + 3) ls (.ref r :: rest))) :
    W p l e R s m args below meth c H locs cells slots Q (F0 m pc ls st0) := by
  have hF := va_free (wc := wc) hD hS hA isC hC
  refine va_callr hr hS (fun q _ h => hF q h) hF (fun u ra t H1 locs1 ht hvm hw hB hz1 hk1 hS1 => ?_)
  obtain ⟨e1, hP1, hK1, hD1⟩ := hB
  rw [ht] at hP1
  obtain ⟨hP2, hD2⟩ := va_join hP hD isC isR hC hR hn hdis hk1 hF hP1 hD1
  subst e1
  exact kk u.2 u.1 H1 locs1 hw hP2 hD2 hS1
/-- what a call asks of the world: the callee's cells -/
theorem vx_preV {ws wc : va_W} {C : String} {b : Nat} {As : List Value} {T : u_T} {N ci : Nat} {fs : List Value} (isC : List Nat) (hK : va_K D cl tys s) (hP : va_P D cl ws H) (hD : va_D A ws) (hn : va_nd isC = true) (hC : isC.map (fun i => ws[i]?) = wc.map some) (hc : cl[ci]? = some (C, T, N)) (q0 : Nat) (hq : ws[q0]? = some (b, .inr (ci, fs))) : PreV s H C b (vx_Pc D cl tys (.ref b :: As) wc H.size) As := by
  refine ⟨vx_blind, va_recv hK hP hc hq, fun U hU hW => ⟨rfl, by rw [hU], ?_, va_K.moved hW.alike hK, (hD.sub isC hn hC).weaken (fun _ _ _ _ => trivial)⟩⟩
  rw [hU]
  refine hP.sub isC ?_
  have h2 := congrArg (List.filterMap id) hC
  simpa [List.filterMap_map, Function.comp_def] using h2
theorem vx_preS {ws wc : va_W} {As : List Value} (isC : List Nat) (hK : va_K D cl tys s) (hP : va_P D cl ws H) (hD : va_D A ws) (hn : va_nd isC = true) (hC : isC.map (fun i => ws[i]?) = wc.map some) : PreS s H (vx_Pc D cl tys As wc H.size) As := by
  refine ⟨vx_blind, fun U hU hW => ⟨rfl, by rw [hU], ?_, va_K.moved hW.alike hK, (hD.sub isC hn hC).weaken (fun _ _ _ _ => trivial)⟩⟩
  rw [hU]
  refine hP.sub isC ?_
  have h2 := congrArg (List.filterMap id) hC
  simpa [List.filterMap_map, Function.comp_def] using h2
end VXE
end
section
/-! Rows in natural numbers: an int that is nI n, an array of such (ni f), a boolean (zi b), an array of such (zb f). -/
def ni (f : Nat → Nat) : Nat → Int32 := fun j => nI (f j)
def zi (b : Bool) : Int32 := if b = true then 1 else 0
def zb (f : Nat → Bool) : Nat → Int32 := fun j => zi (f j)
def un (f : Nat → Nat) (k v : Nat) : Nat → Nat := fun j => if j = k then v else f j
def ub (f : Nat → Bool) (k : Nat) (v : Bool) : Nat → Bool := fun j => if j = k then v else f j
theorem un_s {f : Nat → Nat} {k v : Nat} : un f k v k = v := by simp [un]
theorem un_n {f : Nat → Nat} {k v j : Nat} (h : j ≠ k) : un f k v j = f j := by simp [un, h]
theorem ub_s {f : Nat → Bool} {k : Nat} {v : Bool} : ub f k v k = v := by simp [ub]
theorem ub_n {f : Nat → Bool} {k j : Nat} {v : Bool} (h : j ≠ k) : ub f k v j = f j := by simp [ub, h]
theorem ni_un (f : Nat → Nat) (k v : Nat) : upd (ni f) k (nI v) = ni (un f k v) := by
  funext j; simp only [upd, ni, un]; split <;> rfl
theorem zb_ub (f : Nat → Bool) (k : Nat) (v : Bool) : upd (zb f) k (zi v) = zb (ub f k v) := by
  funext j; simp only [upd, zb, ub]; split <;> rfl
theorem zi_nar (v : Bool) : vp_nar .boolean (zi v) = zi v := by cases v <;> rfl
theorem zi_nar2 (v : Bool) : narrow .boolean (.int (zi v)) = .int (zi v) := by cases v <;> rfl
theorem zi_0 {b : Bool} : zi b = 0 ↔ b = false := by cases b <;> decide
theorem zi_eq {a b : Bool} : zi a = zi b ↔ a = b := by cases a <;> cases b <;> decide
section XNR
variable {p : Program} {l : Launch} {e : Env} {R : Room} {s : State} {m : MethodId} {args : Array Value} {below : List Frame} {meth : Method} {c : Code} {H : Heap} {locs : List Loc} {cells slots : Nat} {Q : State → Prop}
variable {cc : ByteArray} {pc : Nat} {ls : Array Slot} {rest : List Value} {D : va_G} {cl : List vw_C} {A : Nat → Prop} {a : Nat} {tys : List (ClassId × FieldType)} {ws : va_W} {H0 : Heap}
theorem xn_add (hx : p.tables.exec = Jvm.exec) (hb : c.code = cc) {x y : Nat} (hdg : decode cc pc = .ok (.iadd, 1)) (k : W p l e R s m args below meth c H locs cells slots Q (F0 m (pc + 1) ls (.int (nI (x + y)) :: rest))) : W p l e R s m args below meth c H locs cells slots Q (F0 m pc ls (.int (nI y) :: .int (nI x) :: rest)) :=
  lv_iadd hx hb hdg (by rw [nI_add]; exact k)
theorem xn_sub (hx : p.tables.exec = Jvm.exec) (hb : c.code = cc) {x y : Nat} (hdg : decode cc pc = .ok (.isub, 1)) (h : y ≤ x) (k : W p l e R s m args below meth c H locs cells slots Q (F0 m (pc + 1) ls (.int (nI (x - y)) :: rest))) : W p l e R s m args below meth c H locs cells slots Q (F0 m pc ls (.int (nI y) :: .int (nI x) :: rest)) :=
  lv_isub hx hb hdg (by rw [pk_sub h]; exact k)
theorem xn_mul (hx : p.tables.exec = Jvm.exec) (hb : c.code = cc) {x y : Nat} (hdg : decode cc pc = .ok (.imul, 1)) (k : W p l e R s m args below meth c H locs cells slots Q (F0 m (pc + 1) ls (.int (nI (x * y)) :: rest))) : W p l e R s m args below meth c H locs cells slots Q (F0 m pc ls (.int (nI y) :: .int (nI x) :: rest)) :=
  lv_imul hx hb hdg (by rw [pk_mul]; exact k)
theorem xn_div (hx : p.tables.exec = Jvm.exec) (hb : c.code = cc) {x y : Nat} (hdg : decode cc pc = .ok (.idiv, 1)) (h1 : x < 2 ^ 31) (h2 : 0 < y) (h3 : y < 2 ^ 31) (k : W p l e R s m args below meth c H locs cells slots Q (F0 m (pc + 1) ls (.int (nI (x / y)) :: rest))) : W p l e R s m args below meth c H locs cells slots Q (F0 m pc ls (.int (nI y) :: .int (nI x) :: rest)) :=
  lv_idiv hx hb hdg (nI_ne0 h2 h3) (by rw [pk_div h1 h2 h3]; exact k)
theorem xn_rem (hx : p.tables.exec = Jvm.exec) (hb : c.code = cc) {x y : Nat} (hdg : decode cc pc = .ok (.irem, 1)) (h1 : x < 2 ^ 31) (h2 : 0 < y) (h3 : y < 2 ^ 31) (k : W p l e R s m args below meth c H locs cells slots Q (F0 m (pc + 1) ls (.int (nI (x % y)) :: rest))) : W p l e R s m args below meth c H locs cells slots Q (F0 m pc ls (.int (nI y) :: .int (nI x) :: rest)) :=
  lv_irem hx hb hdg (nI_ne0 h2 h3) (by rw [pk_rem h1 h2 h3]; exact k)
theorem xi_ald (hx : p.tables.exec = Jvm.exec) (hb : c.code = cc) (hK : va_K D cl tys s) (hP : va_P D cl ws H) (q0 t0 : Nat) {cA : ClassId} {n : Nat} {f : Nat → Int32} (ha : ws[q0]? = some (a, .inl (cA, n, .inl f))) (ht : tys[t0]? = some (cA, .int)) {i : Nat} (hdg : decode cc pc = .ok (.iaload, 1)) (hi : i < n) (hn : n < 2 ^ 31)
    (k : W p l e R s m args below meth c H locs cells slots Q (F0 m (pc + 1) ls (.int (f i) :: rest))) : W p l e R s m args below meth c H locs cells slots Q (F0 m pc ls (.int (nI i) :: .ref a :: rest)) :=
  va_iald hx hb hK hP q0 t0 ha ht (vp_in_nI hi hn) hdg (by rw [nI_clamp (by omega)]; exact k)
theorem xn_ald (hx : p.tables.exec = Jvm.exec) (hb : c.code = cc) (hK : va_K D cl tys s) (hP : va_P D cl ws H) (q0 t0 : Nat) {cA : ClassId} {n : Nat} {f : Nat → Nat} (ha : ws[q0]? = some (a, .inl (cA, n, .inl (ni f)))) (ht : tys[t0]? = some (cA, .int)) {i : Nat} (hdg : decode cc pc = .ok (.iaload, 1)) (hi : i < n) (hn : n < 2 ^ 31)
    (k : W p l e R s m args below meth c H locs cells slots Q (F0 m (pc + 1) ls (.int (nI (f i)) :: rest))) : W p l e R s m args below meth c H locs cells slots Q (F0 m pc ls (.int (nI i) :: .ref a :: rest)) :=
  xi_ald hx hb hK hP q0 t0 ha ht hdg hi hn k
theorem xz_ald (hx : p.tables.exec = Jvm.exec) (hb : c.code = cc) (hK : va_K D cl tys s) (hP : va_P D cl ws H) (q0 t0 : Nat) {cA : ClassId} {n : Nat} {f : Nat → Bool} (ha : ws[q0]? = some (a, .inl (cA, n, .inl (zb f)))) (ht : tys[t0]? = some (cA, .boolean)) {i : Nat} (hdg : decode cc pc = .ok (.baload, 1)) (hi : i < n) (hn : n < 2 ^ 31)
    (k : W p l e R s m args below meth c H locs cells slots Q (F0 m (pc + 1) ls (.int (zi (f i)) :: rest))) : W p l e R s m args below meth c H locs cells slots Q (F0 m pc ls (.int (nI i) :: .ref a :: rest)) :=
  va_zald hx hb hK hP q0 t0 ha ht (vp_in_nI hi hn) hdg (by rw [nI_clamp (by omega)]; exact k)
theorem xi_ast (hx : p.tables.exec = Jvm.exec) (hb : c.code = cc) (hK : va_K D cl tys s) (hP : va_P D cl ws H) (hD : va_D A ws) (hS : va_S A H0 H locs) (q0 t0 : Nat) {cA : ClassId} {n : Nat} {f : Nat → Int32} (ha : ws[q0]? = some (a, .inl (cA, n, .inl f))) (ht : tys[t0]? = some (cA, .int)) {i : Nat} {x : Int32} (hdg : decode cc pc = .ok (.iastore, 1)) (hi : i < n) (hn : n < 2 ^ 31)
    (kk : ∀ (H1 : Heap) (locs1 : List Loc), va_P D cl (ws.set q0 (a, .inl (cA, n, .inl (upd f i x)))) H1 → va_D A (ws.set q0 (a, .inl (cA, n, .inl (upd f i x)))) → va_S A H0 H1 locs1 → W p l e R s m args below meth c H1 locs1 cells slots Q (F0 m (pc + 1) ls rest)) : W p l e R s m args below meth c H locs cells slots Q (F0 m pc ls (.int x :: .int (nI i) :: .ref a :: rest)) :=
  va_iast hx hb hK hP hD hS q0 t0 ha ht (vp_in_nI hi hn) hdg (by rw [nI_clamp (by omega)]; exact kk)
theorem xn_ast (hx : p.tables.exec = Jvm.exec) (hb : c.code = cc) (hK : va_K D cl tys s) (hP : va_P D cl ws H) (hD : va_D A ws) (hS : va_S A H0 H locs) (q0 t0 : Nat) {cA : ClassId} {n : Nat} {f : Nat → Nat} (ha : ws[q0]? = some (a, .inl (cA, n, .inl (ni f)))) (ht : tys[t0]? = some (cA, .int)) {i x : Nat} (hdg : decode cc pc = .ok (.iastore, 1)) (hi : i < n) (hn : n < 2 ^ 31)
    (kk : ∀ (H1 : Heap) (locs1 : List Loc), va_P D cl (ws.set q0 (a, .inl (cA, n, .inl (ni (un f i x))))) H1 → va_D A (ws.set q0 (a, .inl (cA, n, .inl (ni (un f i x))))) → va_S A H0 H1 locs1 → W p l e R s m args below meth c H1 locs1 cells slots Q (F0 m (pc + 1) ls rest)) : W p l e R s m args below meth c H locs cells slots Q (F0 m pc ls (.int (nI x) :: .int (nI i) :: .ref a :: rest)) :=
  xi_ast hx hb hK hP hD hS q0 t0 ha ht hdg hi hn (by rw [ni_un]; exact kk)
theorem xz_ast (hx : p.tables.exec = Jvm.exec) (hb : c.code = cc) (hK : va_K D cl tys s) (hP : va_P D cl ws H) (hD : va_D A ws) (hS : va_S A H0 H locs) (q0 t0 : Nat) {cA : ClassId} {n : Nat} {f : Nat → Bool} (ha : ws[q0]? = some (a, .inl (cA, n, .inl (zb f)))) (ht : tys[t0]? = some (cA, .boolean)) {i : Nat} {x : Bool} (hdg : decode cc pc = .ok (.bastore, 1)) (hi : i < n) (hn : n < 2 ^ 31)
    (kk : ∀ (H1 : Heap) (locs1 : List Loc), va_P D cl (ws.set q0 (a, .inl (cA, n, .inl (zb (ub f i x))))) H1 → va_D A (ws.set q0 (a, .inl (cA, n, .inl (zb (ub f i x))))) → va_S A H0 H1 locs1 → W p l e R s m args below meth c H1 locs1 cells slots Q (F0 m (pc + 1) ls rest)) : W p l e R s m args below meth c H locs cells slots Q (F0 m pc ls (.int (zi x) :: .int (nI i) :: .ref a :: rest)) :=
  va_zast hx hb hK hP hD hS q0 t0 ha ht (vp_in_nI hi hn) hdg (by rw [nI_clamp (by omega), zi_nar, zb_ub]; exact kk)
theorem xn_eq (hx : p.tables.exec = Jvm.exec) (hb : c.code = cc) {x y : Nat} {off : Int} {tgt : Nat} (hdg : decode cc pc = .ok (.if_icmp .eq off, 3)) (ht : (pc : Int) + off = (tgt : Int)) (h1 : x < 2 ^ 31) (h2 : y < 2 ^ 31)
    (kt : x = y → W p l e R s m args below meth c H locs cells slots Q (F0 m tgt ls rest)) (kf : x ≠ y → W p l e R s m args below meth c H locs cells slots Q (F0 m (pc + 3) ls rest)) : W p l e R s m args below meth c H locs cells slots Q (F0 m pc ls (.int (nI y) :: .int (nI x) :: rest)) :=
  lv_icmp_eq hx hb hdg ht (fun h => kt ((nI_eq h1 h2).mp h)) (fun h => kf (fun q => h ((nI_eq h1 h2).mpr q)))
theorem xn_ne (hx : p.tables.exec = Jvm.exec) (hb : c.code = cc) {x y : Nat} {off : Int} {tgt : Nat} (hdg : decode cc pc = .ok (.if_icmp .ne off, 3)) (ht : (pc : Int) + off = (tgt : Int)) (h1 : x < 2 ^ 31) (h2 : y < 2 ^ 31)
    (kt : x ≠ y → W p l e R s m args below meth c H locs cells slots Q (F0 m tgt ls rest)) (kf : x = y → W p l e R s m args below meth c H locs cells slots Q (F0 m (pc + 3) ls rest)) : W p l e R s m args below meth c H locs cells slots Q (F0 m pc ls (.int (nI y) :: .int (nI x) :: rest)) :=
  lv_icmp_ne hx hb hdg ht (fun h => kt (fun q => h ((nI_eq h1 h2).mpr q))) (fun h => kf ((nI_eq h1 h2).mp h))
theorem xn_lt (hx : p.tables.exec = Jvm.exec) (hb : c.code = cc) {x y : Nat} {off : Int} {tgt : Nat} (hdg : decode cc pc = .ok (.if_icmp .lt off, 3)) (ht : (pc : Int) + off = (tgt : Int)) (h1 : x < 2 ^ 31) (h2 : y < 2 ^ 31)
    (kt : x < y → W p l e R s m args below meth c H locs cells slots Q (F0 m tgt ls rest)) (kf : y ≤ x → W p l e R s m args below meth c H locs cells slots Q (F0 m (pc + 3) ls rest)) : W p l e R s m args below meth c H locs cells slots Q (F0 m pc ls (.int (nI y) :: .int (nI x) :: rest)) :=
  lv_icmp_lt hx hb hdg ht (fun h => kt ((nI_ltI h1 h2).mp h)) (fun h => kf (Nat.not_lt.mp (fun q => h ((nI_ltI h1 h2).mpr q))))
theorem xn_ge (hx : p.tables.exec = Jvm.exec) (hb : c.code = cc) {x y : Nat} {off : Int} {tgt : Nat} (hdg : decode cc pc = .ok (.if_icmp .ge off, 3)) (ht : (pc : Int) + off = (tgt : Int)) (h1 : x < 2 ^ 31) (h2 : y < 2 ^ 31)
    (kt : y ≤ x → W p l e R s m args below meth c H locs cells slots Q (F0 m tgt ls rest)) (kf : x < y → W p l e R s m args below meth c H locs cells slots Q (F0 m (pc + 3) ls rest)) : W p l e R s m args below meth c H locs cells slots Q (F0 m pc ls (.int (nI y) :: .int (nI x) :: rest)) :=
  lv_icmp_ge hx hb hdg ht (fun h => kt ((nI_leI h2 h1).mp h)) (fun h => kf (Nat.not_le.mp (fun q => h ((nI_leI h2 h1).mpr q))))
theorem xn_gt (hx : p.tables.exec = Jvm.exec) (hb : c.code = cc) {x y : Nat} {off : Int} {tgt : Nat} (hdg : decode cc pc = .ok (.if_icmp .gt off, 3)) (ht : (pc : Int) + off = (tgt : Int)) (h1 : x < 2 ^ 31) (h2 : y < 2 ^ 31)
    (kt : y < x → W p l e R s m args below meth c H locs cells slots Q (F0 m tgt ls rest)) (kf : x ≤ y → W p l e R s m args below meth c H locs cells slots Q (F0 m (pc + 3) ls rest)) : W p l e R s m args below meth c H locs cells slots Q (F0 m pc ls (.int (nI y) :: .int (nI x) :: rest)) :=
  lv_icmp_gt hx hb hdg ht (fun h => kt ((nI_ltI h2 h1).mp h)) (fun h => kf (Nat.not_lt.mp (fun q => h ((nI_ltI h2 h1).mpr q))))
theorem xn_le (hx : p.tables.exec = Jvm.exec) (hb : c.code = cc) {x y : Nat} {off : Int} {tgt : Nat} (hdg : decode cc pc = .ok (.if_icmp .le off, 3)) (ht : (pc : Int) + off = (tgt : Int)) (h1 : x < 2 ^ 31) (h2 : y < 2 ^ 31)
    (kt : x ≤ y → W p l e R s m args below meth c H locs cells slots Q (F0 m tgt ls rest)) (kf : y < x → W p l e R s m args below meth c H locs cells slots Q (F0 m (pc + 3) ls rest)) : W p l e R s m args below meth c H locs cells slots Q (F0 m pc ls (.int (nI y) :: .int (nI x) :: rest)) :=
  lv_icmp_le hx hb hdg ht (fun h => kt ((nI_leI h1 h2).mp h)) (fun h => kf (Nat.not_le.mp (fun q => h ((nI_leI h1 h2).mpr q))))
theorem xn_eq0 (hx : p.tables.exec = Jvm.exec) (hb : c.code = cc) {x : Nat} {off : Int} {tgt : Nat} (hdg : decode cc pc = .ok (.ifCond .eq off, 3)) (ht : (pc : Int) + off = (tgt : Int)) (h1 : x < 2 ^ 31)
    (kt : x = 0 → W p l e R s m args below meth c H locs cells slots Q (F0 m tgt ls rest)) (kf : x ≠ 0 → W p l e R s m args below meth c H locs cells slots Q (F0 m (pc + 3) ls rest)) : W p l e R s m args below meth c H locs cells slots Q (F0 m pc ls (.int (nI x) :: rest)) :=
  lv_if_eq hx hb hdg ht (fun h => kt ((nI_eq h1 (by omega)).mp (h.trans nI_0.symm))) (fun h => kf (fun q => h (by rw [q, nI_0])))
theorem xn_ne0 (hx : p.tables.exec = Jvm.exec) (hb : c.code = cc) {x : Nat} {off : Int} {tgt : Nat} (hdg : decode cc pc = .ok (.ifCond .ne off, 3)) (ht : (pc : Int) + off = (tgt : Int)) (h1 : x < 2 ^ 31)
    (kt : x ≠ 0 → W p l e R s m args below meth c H locs cells slots Q (F0 m tgt ls rest)) (kf : x = 0 → W p l e R s m args below meth c H locs cells slots Q (F0 m (pc + 3) ls rest)) : W p l e R s m args below meth c H locs cells slots Q (F0 m pc ls (.int (nI x) :: rest)) :=
  lv_if_ne hx hb hdg ht (fun h => kt (fun q => h (by rw [q, nI_0]))) (fun h => kf ((nI_eq h1 (by omega)).mp (h.trans nI_0.symm)))
theorem xn_lt0 (hx : p.tables.exec = Jvm.exec) (hb : c.code = cc) {x : Nat} {off : Int} {tgt : Nat} (hdg : decode cc pc = .ok (.ifCond .lt off, 3)) (ht : (pc : Int) + off = (tgt : Int)) (h1 : x < 2 ^ 31)
    (kf : W p l e R s m args below meth c H locs cells slots Q (F0 m (pc + 3) ls rest)) : W p l e R s m args below meth c H locs cells slots Q (F0 m pc ls (.int (nI x) :: rest)) :=
  lv_if_lt hx hb hdg ht (fun h => absurd h (nI_pos h1)) (fun _ => kf)
theorem xn_ge0 (hx : p.tables.exec = Jvm.exec) (hb : c.code = cc) {x : Nat} {off : Int} {tgt : Nat} (hdg : decode cc pc = .ok (.ifCond .ge off, 3)) (ht : (pc : Int) + off = (tgt : Int)) (h1 : x < 2 ^ 31)
    (kt : W p l e R s m args below meth c H locs cells slots Q (F0 m tgt ls rest)) : W p l e R s m args below meth c H locs cells slots Q (F0 m pc ls (.int (nI x) :: rest)) :=
  lv_if_ge hx hb hdg ht (fun _ => kt) (fun h => absurd (nI_pos' h1) h)
theorem xn_gt0 (hx : p.tables.exec = Jvm.exec) (hb : c.code = cc) {x : Nat} {off : Int} {tgt : Nat} (hdg : decode cc pc = .ok (.ifCond .gt off, 3)) (ht : (pc : Int) + off = (tgt : Int)) (h1 : x < 2 ^ 31)
    (kt : 0 < x → W p l e R s m args below meth c H locs cells slots Q (F0 m tgt ls rest)) (kf : x = 0 → W p l e R s m args below meth c H locs cells slots Q (F0 m (pc + 3) ls rest)) : W p l e R s m args below meth c H locs cells slots Q (F0 m pc ls (.int (nI x) :: rest)) :=
  lv_if_gt hx hb hdg ht (fun h => kt (by rw [← nI_0] at h; exact (nI_ltI (by omega) h1).mp h)) (fun h => kf (by rw [← nI_0] at h; exact Nat.eq_zero_of_not_pos (fun q => h ((nI_ltI (by omega) h1).mpr q))))
theorem xn_le0 (hx : p.tables.exec = Jvm.exec) (hb : c.code = cc) {x : Nat} {off : Int} {tgt : Nat} (hdg : decode cc pc = .ok (.ifCond .le off, 3)) (ht : (pc : Int) + off = (tgt : Int)) (h1 : x < 2 ^ 31)
    (kt : x = 0 → W p l e R s m args below meth c H locs cells slots Q (F0 m tgt ls rest)) (kf : 0 < x → W p l e R s m args below meth c H locs cells slots Q (F0 m (pc + 3) ls rest)) : W p l e R s m args below meth c H locs cells slots Q (F0 m pc ls (.int (nI x) :: rest)) :=
  lv_if_le hx hb hdg ht (fun h => kt (by rw [← nI_0] at h; have := (nI_leI h1 (by omega)).mp h; omega)) (fun h => kf (by rw [← nI_0] at h; exact Nat.not_le.mp (fun q => h ((nI_leI h1 (by omega)).mpr q))))
theorem xz_eq0 (hx : p.tables.exec = Jvm.exec) (hb : c.code = cc) {x : Bool} {off : Int} {tgt : Nat} (hdg : decode cc pc = .ok (.ifCond .eq off, 3)) (ht : (pc : Int) + off = (tgt : Int))
    (kt : x = false → W p l e R s m args below meth c H locs cells slots Q (F0 m tgt ls rest)) (kf : x = true → W p l e R s m args below meth c H locs cells slots Q (F0 m (pc + 3) ls rest)) : W p l e R s m args below meth c H locs cells slots Q (F0 m pc ls (.int (zi x) :: rest)) :=
  lv_if_eq hx hb hdg ht (fun h => kt (zi_0.mp h)) (fun h => kf (by cases x with | true => rfl | false => exact absurd rfl h))
theorem xz_ne0 (hx : p.tables.exec = Jvm.exec) (hb : c.code = cc) {x : Bool} {off : Int} {tgt : Nat} (hdg : decode cc pc = .ok (.ifCond .ne off, 3)) (ht : (pc : Int) + off = (tgt : Int))
    (kt : x = true → W p l e R s m args below meth c H locs cells slots Q (F0 m tgt ls rest)) (kf : x = false → W p l e R s m args below meth c H locs cells slots Q (F0 m (pc + 3) ls rest)) : W p l e R s m args below meth c H locs cells slots Q (F0 m pc ls (.int (zi x) :: rest)) :=
  lv_if_ne hx hb hdg ht (fun h => kt (by cases x with | true => rfl | false => exact absurd rfl h)) (fun h => kf (zi_0.mp h))
/-- a new array of ints, of the class that is known -/
theorem xi_new (hx : p.tables.exec = Jvm.exec) (hb : c.code = cc) (harr : (Cond.arrayClass .int).before args s = true) (hK : va_K D cl tys s) (hP : va_P D cl ws H) (hD : va_D A ws) (hS : va_S A H0 H locs) (hA : ∀ q, H0.size ≤ q → A q) (t0 : Nat) {cI : ClassId} (ht : tys[t0]? = some (cI, .int)) {n : Nat} (hdg : decode cc pc = .ok (.newarray .int, 2)) (hn : n < 100000000) (hcells : cells + 1 ≤ R.cells) (hslots : slots + n ≤ R.slots)
    (kk : ∀ (q : Nat) (H1 : Heap), va_P D cl (ws ++ [(q, .inl (cI, n, .inl (fun _ => 0)))]) H1 → va_D A (ws ++ [(q, .inl (cI, n, .inl (fun _ => 0)))]) → va_S A H0 H1 locs → W p l e R s m args below meth c H1 locs (cells + 1) (slots + n) Q (F0 m (pc + 2) ls (.ref q :: rest))) : W p l e R s m args below meth c H locs cells slots Q (F0 m pc ls (.int (nI n) :: rest)) := by
  refine va_newa (atype := .int) (a0 := (n, .inl (fun _ => 0))) (ty := .int) (N' := n) hx hb harr rfl hK hP hD hS hA (fun cA => rfl) (nI_pos (by omega)) (nI_clamp (by omega)) (by simp [componentBytes]; omega) hcells hslots hdg (fun q cA H1 hK1 hP1 hD1 hS1 => ?_)
  have e : cA = cI := by
    have h1 := (hK1.2 tys.length (cA, .int) (by simp)).2
    have h2 := (hK.2 t0 (cI, .int) ht).2
    exact Option.some.inj (h1.symm.trans h2)
  subst e
  exact kk q H1 hP1 hD1 hS1
theorem xz_new (hx : p.tables.exec = Jvm.exec) (hb : c.code = cc) (harr : (Cond.arrayClass .boolean).before args s = true) (hK : va_K D cl tys s) (hP : va_P D cl ws H) (hD : va_D A ws) (hS : va_S A H0 H locs) (hA : ∀ q, H0.size ≤ q → A q) (t0 : Nat) {cI : ClassId} (ht : tys[t0]? = some (cI, .boolean)) {n : Nat} (hdg : decode cc pc = .ok (.newarray .boolean, 2)) (hn : n < 100000000) (hcells : cells + 1 ≤ R.cells) (hslots : slots + n ≤ R.slots)
    (kk : ∀ (q : Nat) (H1 : Heap), va_P D cl (ws ++ [(q, .inl (cI, n, .inl (fun _ => 0)))]) H1 → va_D A (ws ++ [(q, .inl (cI, n, .inl (fun _ => 0)))]) → va_S A H0 H1 locs → W p l e R s m args below meth c H1 locs (cells + 1) (slots + n) Q (F0 m (pc + 2) ls (.ref q :: rest))) : W p l e R s m args below meth c H locs cells slots Q (F0 m pc ls (.int (nI n) :: rest)) := by
  refine va_newa (atype := .boolean) (a0 := (n, .inl (fun _ => 0))) (ty := .boolean) (N' := n) hx hb harr rfl hK hP hD hS hA (fun cA => rfl) (nI_pos (by omega)) (nI_clamp (by omega)) (by simp [componentBytes]; omega) hcells hslots hdg (fun q cA H1 hK1 hP1 hD1 hS1 => ?_)
  have e : cA = cI := by
    have h1 := (hK1.2 tys.length (cA, .boolean) (by simp)).2
    have h2 := (hK.2 t0 (cI, .boolean) ht).2
    exact Option.some.inj (h1.symm.trans h2)
  subst e
  exact kk q H1 hP1 hD1 hS1
end XNR
abbrev tyN (cI cZ cJ : ClassId) : List (ClassId × FieldType) := [(cI, .int), (cZ, .boolean), (cJ, .long)]
theorem zb_0 : zb (fun _ => false) = fun _ => 0 := rfl
theorem zi_fit (v : Bool) : fits .boolean (.int (zi v)) = true := by cases v <;> rfl
section XNT
variable {p : Program} {l : Launch} {e : Env} {R : Room} {s : State} {m : MethodId} {args : Array Value} {below : List Frame} {meth : Method} {c : Code} {H : Heap} {locs : List Loc} {cells slots : Nat} {Q : State → Prop}
variable {cc : ByteArray} {pc : Nat} {ls : Array Slot} {rest : List Value}
theorem xn_top {x y : Int32} (h : x = y) (k : W p l e R s m args below meth c H locs cells slots Q (F0 m pc ls (.int y :: rest))) : W p l e R s m args below meth c H locs cells slots Q (F0 m pc ls (.int x :: rest)) := h ▸ k
theorem xn_name {x : Nat} (k : ∀ y : Nat, y = x → W p l e R s m args below meth c H locs cells slots Q (F0 m pc ls (.int (nI y) :: rest))) : W p l e R s m args below meth c H locs cells slots Q (F0 m pc ls (.int (nI x) :: rest)) := k x rfl
theorem xn_tin (hx : p.tables.exec = Jvm.exec) (hb : c.code = cc) {dflt lo hi : Int} {offs : Array Int} {len : Nat} {x k : Nat} {off : Int} {tgt : Nat} (hdg : decode cc pc = .ok (.tableswitch dflt lo hi offs, len)) (h : x = k) (hk : k < 2 ^ 31 ∧ lo ≤ (k : Int) ∧ (k : Int) ≤ hi) (ho : offs[((k : Int) - lo).toNat]? = some off) (ht : (pc : Int) + off = (tgt : Int))
    (kk : W p l e R s m args below meth c H locs cells slots Q (F0 m tgt ls rest)) : W p l e R s m args below meth c H locs cells slots Q (F0 m pc ls (.int (nI x) :: rest)) := by
  subst h
  have e1 : (nI x).toInt = (x : Int) := nI_toInt hk.1
  exact lv_tableIn hx hb hdg (by rw [e1]; omega) (by rw [e1]; omega) (by rw [e1]; exact ho) ht kk
theorem xn_tout (hx : p.tables.exec = Jvm.exec) (hb : c.code = cc) {dflt lo hi : Int} {offs : Array Int} {len : Nat} {x : Nat} {tgt : Nat} (hdg : decode cc pc = .ok (.tableswitch dflt lo hi offs, len)) (h1 : x < 2 ^ 31) (h2 : (x : Int) < lo ∨ hi < (x : Int)) (ht : (pc : Int) + dflt = (tgt : Int))
    (kk : W p l e R s m args below meth c H locs cells slots Q (F0 m tgt ls rest)) : W p l e R s m args below meth c H locs cells slots Q (F0 m pc ls (.int (nI x) :: rest)) :=
  lv_tableOut hx hb hdg (by rw [nI_toInt h1]; exact h2) ht kk
end XNT
end
section
-- ===== PART A: goes FIRST, ahead of the names: the tables' words, and 'selects' of the private methods out of them =====
/-- a private method of a class that the tables say can be made, by its rows of tables_1 -/
def lw_okq (q : MethodName × Nat) : Prop := (q.1.cls ≠ "java/lang/invoke/MethodHandle" ∧ q.1.cls ≠ "java/lang/invoke/VarHandle") ∧ Cond.instantiable q.1.cls q.2 ∈ tables_1 ∧ Cond.privateMethod q.1 ∈ tables_1 ∧ Cond.instanceMethod q.1 ∈ tables_1
theorem lw_p0 : lw_okq (⟨"StepMachines", "readyTable", "()LStepMachines$Table;"⟩, 9) := ⟨⟨by decide +kernel, by decide +kernel⟩, List.mem_of_getElem? (i := 22) (by decide +kernel), List.mem_of_getElem? (i := 162) (by decide +kernel), List.mem_of_getElem? (i := 163) (by decide +kernel)⟩
theorem lw_p1 : lw_okq (⟨"StepMachines$Table", "make", "()V"⟩, 15) := ⟨⟨by decide +kernel, by decide +kernel⟩, List.mem_of_getElem? (i := 166) (by decide +kernel), List.mem_of_getElem? (i := 259) (by decide +kernel), List.mem_of_getElem? (i := 260) (by decide +kernel)⟩
theorem lw_p2 : lw_okq (⟨"StepMachines$Table", "rowFor", "(I)I"⟩, 15) := ⟨⟨by decide +kernel, by decide +kernel⟩, List.mem_of_getElem? (i := 166) (by decide +kernel), List.mem_of_getElem? (i := 264) (by decide +kernel), List.mem_of_getElem? (i := 265) (by decide +kernel)⟩
theorem lw_p3 : lw_okq (⟨"StepMachines$Table", "makeRow", "(I)Z"⟩, 15) := ⟨⟨by decide +kernel, by decide +kernel⟩, List.mem_of_getElem? (i := 166) (by decide +kernel), List.mem_of_getElem? (i := 268) (by decide +kernel), List.mem_of_getElem? (i := 269) (by decide +kernel)⟩
theorem lw_p4 : lw_okq (⟨"StepMachines$Table", "later", "(II)V"⟩, 15) := ⟨⟨by decide +kernel, by decide +kernel⟩, List.mem_of_getElem? (i := 166) (by decide +kernel), List.mem_of_getElem? (i := 280) (by decide +kernel), List.mem_of_getElem? (i := 281) (by decide +kernel)⟩
theorem lw_p5 : lw_okq (⟨"StepMachines$Table", "walk", "(III)Z"⟩, 15) := ⟨⟨by decide +kernel, by decide +kernel⟩, List.mem_of_getElem? (i := 166) (by decide +kernel), List.mem_of_getElem? (i := 305) (by decide +kernel), List.mem_of_getElem? (i := 306) (by decide +kernel)⟩
theorem lw_p6 : lw_okq (⟨"StepMachines$Table", "takeBytes", "(III)Z"⟩, 15) := ⟨⟨by decide +kernel, by decide +kernel⟩, List.mem_of_getElem? (i := 166) (by decide +kernel), List.mem_of_getElem? (i := 309) (by decide +kernel), List.mem_of_getElem? (i := 310) (by decide +kernel)⟩
theorem lw_p7 : lw_okq (⟨"java/lang/Throwable", "fillInStackTrace", "(I)Ljava/lang/Throwable;"⟩, 6) := ⟨⟨by decide +kernel, by decide +kernel⟩, List.mem_of_getElem? (i := 366) (by decide +kernel), List.mem_of_getElem? (i := 364) (by decide +kernel), List.mem_of_getElem? (i := 365) (by decide +kernel)⟩
theorem lw_p8 : lw_okq (⟨"StepMachines", "forgetWhatWasMade", "()V"⟩, 9) := ⟨⟨by decide +kernel, by decide +kernel⟩, List.mem_of_getElem? (i := 22) (by decide +kernel), List.mem_of_getElem? (i := 404) (by decide +kernel), List.mem_of_getElem? (i := 405) (by decide +kernel)⟩
theorem lw_p9 : lw_okq (⟨"StepMachines", "isQuestion", "(II)Z"⟩, 9) := ⟨⟨by decide +kernel, by decide +kernel⟩, List.mem_of_getElem? (i := 22) (by decide +kernel), List.mem_of_getElem? (i := 473) (by decide +kernel), List.mem_of_getElem? (i := 474) (by decide +kernel)⟩
theorem lw_p10 : lw_okq (⟨"StepMachines", "readyMarks", "()LStepMachines$Marks;"⟩, 9) := ⟨⟨by decide +kernel, by decide +kernel⟩, List.mem_of_getElem? (i := 22) (by decide +kernel), List.mem_of_getElem? (i := 482) (by decide +kernel), List.mem_of_getElem? (i := 483) (by decide +kernel)⟩
theorem lw_p11 : lw_okq (⟨"StepMachines$Marks", "wipe", "()V"⟩, 7) := ⟨⟨by decide +kernel, by decide +kernel⟩, List.mem_of_getElem? (i := 486) (by decide +kernel), List.mem_of_getElem? (i := 520) (by decide +kernel), List.mem_of_getElem? (i := 521) (by decide +kernel)⟩
theorem lw_p12 : lw_okq (⟨"StepMachines$Marks", "tryFrom", "(IIZ)V"⟩, 7) := ⟨⟨by decide +kernel, by decide +kernel⟩, List.mem_of_getElem? (i := 486) (by decide +kernel), List.mem_of_getElem? (i := 533) (by decide +kernel), List.mem_of_getElem? (i := 534) (by decide +kernel)⟩
theorem lw_p13 : lw_okq (⟨"StepMachines$Marks", "visit", "(III)V"⟩, 7) := ⟨⟨by decide +kernel, by decide +kernel⟩, List.mem_of_getElem? (i := 486) (by decide +kernel), List.mem_of_getElem? (i := 557) (by decide +kernel), List.mem_of_getElem? (i := 558) (by decide +kernel)⟩
theorem lw_p14 : lw_okq (⟨"StepMachines$Marks", "isNew", "(II)Z"⟩, 7) := ⟨⟨by decide +kernel, by decide +kernel⟩, List.mem_of_getElem? (i := 486) (by decide +kernel), List.mem_of_getElem? (i := 562) (by decide +kernel), List.mem_of_getElem? (i := 563) (by decide +kernel)⟩
theorem lw_p15 : lw_okq (⟨"StepMachines$Marks", "end", "(II)V"⟩, 7) := ⟨⟨by decide +kernel, by decide +kernel⟩, List.mem_of_getElem? (i := 486) (by decide +kernel), List.mem_of_getElem? (i := 566) (by decide +kernel), List.mem_of_getElem? (i := 567) (by decide +kernel)⟩
def lw_privs_1 : List (MethodName × Nat) := [(⟨"StepMachines", "readyTable", "()LStepMachines$Table;"⟩, 9), (⟨"StepMachines$Table", "make", "()V"⟩, 15), (⟨"StepMachines$Table", "rowFor", "(I)I"⟩, 15), (⟨"StepMachines$Table", "makeRow", "(I)Z"⟩, 15), (⟨"StepMachines$Table", "later", "(II)V"⟩, 15), (⟨"StepMachines$Table", "walk", "(III)Z"⟩, 15), (⟨"StepMachines$Table", "takeBytes", "(III)Z"⟩, 15), (⟨"java/lang/Throwable", "fillInStackTrace", "(I)Ljava/lang/Throwable;"⟩, 6), (⟨"StepMachines", "forgetWhatWasMade", "()V"⟩, 9), (⟨"StepMachines", "isQuestion", "(II)Z"⟩, 9), (⟨"StepMachines", "readyMarks", "()LStepMachines$Marks;"⟩, 9), (⟨"StepMachines$Marks", "wipe", "()V"⟩, 7), (⟨"StepMachines$Marks", "tryFrom", "(IIZ)V"⟩, 7), (⟨"StepMachines$Marks", "visit", "(III)V"⟩, 7), (⟨"StepMachines$Marks", "isNew", "(II)Z"⟩, 7), (⟨"StepMachines$Marks", "end", "(II)V"⟩, 7)]
theorem lw_r1 : ∀ q ∈ lw_privs_1, lw_okq q := List.forall_mem_cons.mpr ⟨lw_p0, List.forall_mem_cons.mpr ⟨lw_p1, List.forall_mem_cons.mpr ⟨lw_p2, List.forall_mem_cons.mpr ⟨lw_p3, List.forall_mem_cons.mpr ⟨lw_p4, List.forall_mem_cons.mpr ⟨lw_p5, List.forall_mem_cons.mpr ⟨lw_p6, List.forall_mem_cons.mpr ⟨lw_p7, List.forall_mem_cons.mpr ⟨lw_p8, List.forall_mem_cons.mpr ⟨lw_p9, List.forall_mem_cons.mpr ⟨lw_p10, List.forall_mem_cons.mpr ⟨lw_p11, List.forall_mem_cons.mpr ⟨lw_p12, List.forall_mem_cons.mpr ⟨lw_p13, List.forall_mem_cons.mpr ⟨lw_p14, List.forall_mem_cons.mpr ⟨lw_p15, fun _ h => absurd h List.not_mem_nil⟩⟩⟩⟩⟩⟩⟩⟩⟩⟩⟩⟩⟩⟩⟩⟩
theorem lw_p16 : lw_okq (⟨"StepMachines", "canTable", "(I)Z"⟩, 9) := ⟨⟨by decide +kernel, by decide +kernel⟩, List.mem_of_getElem? (i := 22) (by decide +kernel), List.mem_of_getElem? (i := 596) (by decide +kernel), List.mem_of_getElem? (i := 597) (by decide +kernel)⟩
theorem lw_p17 : lw_okq (⟨"StepMachines$Table", "endHere", "(III)Z"⟩, 15) := ⟨⟨by decide +kernel, by decide +kernel⟩, List.mem_of_getElem? (i := 166) (by decide +kernel), List.mem_of_getElem? (i := 604) (by decide +kernel), List.mem_of_getElem? (i := 605) (by decide +kernel)⟩
theorem lw_p18 : lw_okq (⟨"StepMachines$Table", "allHold", "(II)Z"⟩, 15) := ⟨⟨by decide +kernel, by decide +kernel⟩, List.mem_of_getElem? (i := 166) (by decide +kernel), List.mem_of_getElem? (i := 609) (by decide +kernel), List.mem_of_getElem? (i := 610) (by decide +kernel)⟩
theorem lw_p19 : lw_okq (⟨"StepMachines", "readyThreads", "()LStepMachines$Threads;"⟩, 9) := ⟨⟨by decide +kernel, by decide +kernel⟩, List.mem_of_getElem? (i := 22) (by decide +kernel), List.mem_of_getElem? (i := 619) (by decide +kernel), List.mem_of_getElem? (i := 620) (by decide +kernel)⟩
theorem lw_p20 : lw_okq (⟨"StepMachines$Threads", "beginThread", "(I)V"⟩, 11) := ⟨⟨by decide +kernel, by decide +kernel⟩, List.mem_of_getElem? (i := 623) (by decide +kernel), List.mem_of_getElem? (i := 672) (by decide +kernel), List.mem_of_getElem? (i := 673) (by decide +kernel)⟩
theorem lw_p21 : lw_okq (⟨"StepMachines$Threads", "comeTo", "(IILStepMachines$Row;[I)V"⟩, 11) := ⟨⟨by decide +kernel, by decide +kernel⟩, List.mem_of_getElem? (i := 623) (by decide +kernel), List.mem_of_getElem? (i := 678) (by decide +kernel), List.mem_of_getElem? (i := 679) (by decide +kernel)⟩
theorem lw_p22 : lw_okq (⟨"StepMachines$Threads", "visit", "(IILStepMachines$Row;[I)V"⟩, 11) := ⟨⟨by decide +kernel, by decide +kernel⟩, List.mem_of_getElem? (i := 623) (by decide +kernel), List.mem_of_getElem? (i := 689) (by decide +kernel), List.mem_of_getElem? (i := 690) (by decide +kernel)⟩
theorem lw_p23 : lw_okq (⟨"StepMachines$Threads", "goOverByte", "(IZI)V"⟩, 11) := ⟨⟨by decide +kernel, by decide +kernel⟩, List.mem_of_getElem? (i := 623) (by decide +kernel), List.mem_of_getElem? (i := 701) (by decide +kernel), List.mem_of_getElem? (i := 702) (by decide +kernel)⟩
theorem lw_p24 : lw_okq (⟨"StepMachines$Threads", "swapRows", "()V"⟩, 11) := ⟨⟨by decide +kernel, by decide +kernel⟩, List.mem_of_getElem? (i := 623) (by decide +kernel), List.mem_of_getElem? (i := 708) (by decide +kernel), List.mem_of_getElem? (i := 709) (by decide +kernel)⟩
theorem lw_p25 : lw_okq (⟨"StepMachines", "mostTaken", "()I"⟩, 9) := ⟨⟨by decide +kernel, by decide +kernel⟩, List.mem_of_getElem? (i := 22) (by decide +kernel), List.mem_of_getElem? (i := 712) (by decide +kernel), List.mem_of_getElem? (i := 713) (by decide +kernel)⟩
theorem lw_p26 : lw_okq (⟨"StepMachines$Kept", "makeRoom", "(I)V"⟩, 7) := ⟨⟨by decide +kernel, by decide +kernel⟩, List.mem_of_getElem? (i := 738) (by decide +kernel), List.mem_of_getElem? (i := 744) (by decide +kernel), List.mem_of_getElem? (i := 745) (by decide +kernel)⟩
theorem lw_p27 : lw_okq (⟨"StepMachines$States", "firstState", "(II)I"⟩, 8) := ⟨⟨by decide +kernel, by decide +kernel⟩, List.mem_of_getElem? (i := 728) (by decide +kernel), List.mem_of_getElem? (i := 804) (by decide +kernel), List.mem_of_getElem? (i := 805) (by decide +kernel)⟩
theorem lw_p28 : lw_okq (⟨"StepMachines$Kept", "isSame", "(ILStepMachines$Row;I)Z"⟩, 7) := ⟨⟨by decide +kernel, by decide +kernel⟩, List.mem_of_getElem? (i := 738) (by decide +kernel), List.mem_of_getElem? (i := 823) (by decide +kernel), List.mem_of_getElem? (i := 824) (by decide +kernel)⟩
theorem lw_p29 : lw_okq (⟨"StepMachines$Kept", "add", "(LStepMachines$Row;II)V"⟩, 7) := ⟨⟨by decide +kernel, by decide +kernel⟩, List.mem_of_getElem? (i := 738) (by decide +kernel), List.mem_of_getElem? (i := 832) (by decide +kernel), List.mem_of_getElem? (i := 833) (by decide +kernel)⟩
theorem lw_p30 : lw_okq (⟨"StepMachines$States", "moveFrom", "(II)I"⟩, 8) := ⟨⟨by decide +kernel, by decide +kernel⟩, List.mem_of_getElem? (i := 728) (by decide +kernel), List.mem_of_getElem? (i := 841) (by decide +kernel), List.mem_of_getElem? (i := 842) (by decide +kernel)⟩
theorem lw_p31 : lw_okq (⟨"StepMachines$States", "goOver", "(III)Z"⟩, 8) := ⟨⟨by decide +kernel, by decide +kernel⟩, List.mem_of_getElem? (i := 728) (by decide +kernel), List.mem_of_getElem? (i := 854) (by decide +kernel), List.mem_of_getElem? (i := 855) (by decide +kernel)⟩
def lw_privs_2 : List (MethodName × Nat) := [(⟨"StepMachines", "canTable", "(I)Z"⟩, 9), (⟨"StepMachines$Table", "endHere", "(III)Z"⟩, 15), (⟨"StepMachines$Table", "allHold", "(II)Z"⟩, 15), (⟨"StepMachines", "readyThreads", "()LStepMachines$Threads;"⟩, 9), (⟨"StepMachines$Threads", "beginThread", "(I)V"⟩, 11), (⟨"StepMachines$Threads", "comeTo", "(IILStepMachines$Row;[I)V"⟩, 11), (⟨"StepMachines$Threads", "visit", "(IILStepMachines$Row;[I)V"⟩, 11), (⟨"StepMachines$Threads", "goOverByte", "(IZI)V"⟩, 11), (⟨"StepMachines$Threads", "swapRows", "()V"⟩, 11), (⟨"StepMachines", "mostTaken", "()I"⟩, 9), (⟨"StepMachines$Kept", "makeRoom", "(I)V"⟩, 7), (⟨"StepMachines$States", "firstState", "(II)I"⟩, 8), (⟨"StepMachines$Kept", "isSame", "(ILStepMachines$Row;I)Z"⟩, 7), (⟨"StepMachines$Kept", "add", "(LStepMachines$Row;II)V"⟩, 7), (⟨"StepMachines$States", "moveFrom", "(II)I"⟩, 8), (⟨"StepMachines$States", "goOver", "(III)Z"⟩, 8)]
theorem lw_r2 : ∀ q ∈ lw_privs_2, lw_okq q := List.forall_mem_cons.mpr ⟨lw_p16, List.forall_mem_cons.mpr ⟨lw_p17, List.forall_mem_cons.mpr ⟨lw_p18, List.forall_mem_cons.mpr ⟨lw_p19, List.forall_mem_cons.mpr ⟨lw_p20, List.forall_mem_cons.mpr ⟨lw_p21, List.forall_mem_cons.mpr ⟨lw_p22, List.forall_mem_cons.mpr ⟨lw_p23, List.forall_mem_cons.mpr ⟨lw_p24, List.forall_mem_cons.mpr ⟨lw_p25, List.forall_mem_cons.mpr ⟨lw_p26, List.forall_mem_cons.mpr ⟨lw_p27, List.forall_mem_cons.mpr ⟨lw_p28, List.forall_mem_cons.mpr ⟨lw_p29, List.forall_mem_cons.mpr ⟨lw_p30, List.forall_mem_cons.mpr ⟨lw_p31, fun _ h => absurd h List.not_mem_nil⟩⟩⟩⟩⟩⟩⟩⟩⟩⟩⟩⟩⟩⟩⟩⟩
theorem lw_p32 : lw_okq (⟨"StepMachines$States", "follow", "(III)Z"⟩, 8) := ⟨⟨by decide +kernel, by decide +kernel⟩, List.mem_of_getElem? (i := 728) (by decide +kernel), List.mem_of_getElem? (i := 864) (by decide +kernel), List.mem_of_getElem? (i := 865) (by decide +kernel)⟩
theorem lw_p33 : lw_okq (⟨"StepMachines$States", "visit", "(II)V"⟩, 8) := ⟨⟨by decide +kernel, by decide +kernel⟩, List.mem_of_getElem? (i := 728) (by decide +kernel), List.mem_of_getElem? (i := 874) (by decide +kernel), List.mem_of_getElem? (i := 875) (by decide +kernel)⟩
theorem lw_p34 : lw_okq (⟨"StepMachinesModel", "isStep", "(I)Z"⟩, 25) := ⟨⟨by decide +kernel, by decide +kernel⟩, List.mem_of_getElem? (i := 900) (by decide +kernel), List.mem_of_getElem? (i := 996) (by decide +kernel), List.mem_of_getElem? (i := 997) (by decide +kernel)⟩
theorem lw_p35 : lw_okq (⟨"StepMachinesModel", "isGood", "(II)Z"⟩, 25) := ⟨⟨by decide +kernel, by decide +kernel⟩, List.mem_of_getElem? (i := 900) (by decide +kernel), List.mem_of_getElem? (i := 1018) (by decide +kernel), List.mem_of_getElem? (i := 1019) (by decide +kernel)⟩
theorem lw_p36 : lw_okq (⟨"StepMachinesModel", "find", "(IZI)I"⟩, 25) := ⟨⟨by decide +kernel, by decide +kernel⟩, List.mem_of_getElem? (i := 900) (by decide +kernel), List.mem_of_getElem? (i := 1022) (by decide +kernel), List.mem_of_getElem? (i := 1023) (by decide +kernel)⟩
theorem lw_p37 : lw_okq (⟨"StepMachinesModel", "note", "(IIZ)V"⟩, 25) := ⟨⟨by decide +kernel, by decide +kernel⟩, List.mem_of_getElem? (i := 900) (by decide +kernel), List.mem_of_getElem? (i := 1026) (by decide +kernel), List.mem_of_getElem? (i := 1027) (by decide +kernel)⟩
theorem lw_p38 : lw_okq (⟨"StepMachinesModel", "takes", "(II)Z"⟩, 25) := ⟨⟨by decide +kernel, by decide +kernel⟩, List.mem_of_getElem? (i := 900) (by decide +kernel), List.mem_of_getElem? (i := 1030) (by decide +kernel), List.mem_of_getElem? (i := 1031) (by decide +kernel)⟩
theorem lw_p39 : lw_okq (⟨"StepMachinesModel", "passes", "(II)Z"⟩, 25) := ⟨⟨by decide +kernel, by decide +kernel⟩, List.mem_of_getElem? (i := 900) (by decide +kernel), List.mem_of_getElem? (i := 1034) (by decide +kernel), List.mem_of_getElem? (i := 1035) (by decide +kernel)⟩
theorem lw_p40 : lw_okq (⟨"StepMachinesModel", "isSo", "(II)Z"⟩, 25) := ⟨⟨by decide +kernel, by decide +kernel⟩, List.mem_of_getElem? (i := 900) (by decide +kernel), List.mem_of_getElem? (i := 1038) (by decide +kernel), List.mem_of_getElem? (i := 1039) (by decide +kernel)⟩
theorem lw_p41 : lw_okq (⟨"StepMachinesModel", "wordAt", "(I)Z"⟩, 25) := ⟨⟨by decide +kernel, by decide +kernel⟩, List.mem_of_getElem? (i := 900) (by decide +kernel), List.mem_of_getElem? (i := 1042) (by decide +kernel), List.mem_of_getElem? (i := 1043) (by decide +kernel)⟩
theorem lw_p42 : lw_okq (⟨"StepMachinesModel", "lastEnd", "(I)I"⟩, 25) := ⟨⟨by decide +kernel, by decide +kernel⟩, List.mem_of_getElem? (i := 900) (by decide +kernel), List.mem_of_getElem? (i := 1046) (by decide +kernel), List.mem_of_getElem? (i := 1047) (by decide +kernel)⟩
theorem lw_p43 : lw_okq (⟨"StepMachinesModel", "walk", "(II)I"⟩, 25) := ⟨⟨by decide +kernel, by decide +kernel⟩, List.mem_of_getElem? (i := 900) (by decide +kernel), List.mem_of_getElem? (i := 1050) (by decide +kernel), List.mem_of_getElem? (i := 1051) (by decide +kernel)⟩
theorem lw_p44 : lw_okq (⟨"StepMachinesModel", "heap", "(I)V"⟩, 25) := ⟨⟨by decide +kernel, by decide +kernel⟩, List.mem_of_getElem? (i := 900) (by decide +kernel), List.mem_of_getElem? (i := 1054) (by decide +kernel), List.mem_of_getElem? (i := 1055) (by decide +kernel)⟩
theorem lw_p45 : lw_okq (⟨"StepMachinesModel", "undo", "(I)V"⟩, 25) := ⟨⟨by decide +kernel, by decide +kernel⟩, List.mem_of_getElem? (i := 900) (by decide +kernel), List.mem_of_getElem? (i := 1058) (by decide +kernel), List.mem_of_getElem? (i := 1059) (by decide +kernel)⟩
theorem lw_p46 : lw_okq (⟨"StepMachinesModel", "start", "(I)V"⟩, 25) := ⟨⟨by decide +kernel, by decide +kernel⟩, List.mem_of_getElem? (i := 900) (by decide +kernel), List.mem_of_getElem? (i := 1078) (by decide +kernel), List.mem_of_getElem? (i := 1079) (by decide +kernel)⟩
theorem lw_p47 : lw_okq (⟨"StepMachinesModel", "spreads", "(I)Z"⟩, 25) := ⟨⟨by decide +kernel, by decide +kernel⟩, List.mem_of_getElem? (i := 900) (by decide +kernel), List.mem_of_getElem? (i := 1082) (by decide +kernel), List.mem_of_getElem? (i := 1083) (by decide +kernel)⟩
def lw_privs_3 : List (MethodName × Nat) := [(⟨"StepMachines$States", "follow", "(III)Z"⟩, 8), (⟨"StepMachines$States", "visit", "(II)V"⟩, 8), (⟨"StepMachinesModel", "isStep", "(I)Z"⟩, 25), (⟨"StepMachinesModel", "isGood", "(II)Z"⟩, 25), (⟨"StepMachinesModel", "find", "(IZI)I"⟩, 25), (⟨"StepMachinesModel", "note", "(IIZ)V"⟩, 25), (⟨"StepMachinesModel", "takes", "(II)Z"⟩, 25), (⟨"StepMachinesModel", "passes", "(II)Z"⟩, 25), (⟨"StepMachinesModel", "isSo", "(II)Z"⟩, 25), (⟨"StepMachinesModel", "wordAt", "(I)Z"⟩, 25), (⟨"StepMachinesModel", "lastEnd", "(I)I"⟩, 25), (⟨"StepMachinesModel", "walk", "(II)I"⟩, 25), (⟨"StepMachinesModel", "heap", "(I)V"⟩, 25), (⟨"StepMachinesModel", "undo", "(I)V"⟩, 25), (⟨"StepMachinesModel", "start", "(I)V"⟩, 25), (⟨"StepMachinesModel", "spreads", "(I)Z"⟩, 25)]
theorem lw_r3 : ∀ q ∈ lw_privs_3, lw_okq q := List.forall_mem_cons.mpr ⟨lw_p32, List.forall_mem_cons.mpr ⟨lw_p33, List.forall_mem_cons.mpr ⟨lw_p34, List.forall_mem_cons.mpr ⟨lw_p35, List.forall_mem_cons.mpr ⟨lw_p36, List.forall_mem_cons.mpr ⟨lw_p37, List.forall_mem_cons.mpr ⟨lw_p38, List.forall_mem_cons.mpr ⟨lw_p39, List.forall_mem_cons.mpr ⟨lw_p40, List.forall_mem_cons.mpr ⟨lw_p41, List.forall_mem_cons.mpr ⟨lw_p42, List.forall_mem_cons.mpr ⟨lw_p43, List.forall_mem_cons.mpr ⟨lw_p44, List.forall_mem_cons.mpr ⟨lw_p45, List.forall_mem_cons.mpr ⟨lw_p46, List.forall_mem_cons.mpr ⟨lw_p47, fun _ h => absurd h List.not_mem_nil⟩⟩⟩⟩⟩⟩⟩⟩⟩⟩⟩⟩⟩⟩⟩⟩
theorem lw_p48 : lw_okq (⟨"StepMachinesModel", "isWaiting", "(I)Z"⟩, 25) := ⟨⟨by decide +kernel, by decide +kernel⟩, List.mem_of_getElem? (i := 900) (by decide +kernel), List.mem_of_getElem? (i := 1086) (by decide +kernel), List.mem_of_getElem? (i := 1087) (by decide +kernel)⟩
theorem lw_p49 : lw_okq (⟨"StepMachinesModel", "hold", "(III)V"⟩, 25) := ⟨⟨by decide +kernel, by decide +kernel⟩, List.mem_of_getElem? (i := 900) (by decide +kernel), List.mem_of_getElem? (i := 1090) (by decide +kernel), List.mem_of_getElem? (i := 1091) (by decide +kernel)⟩
theorem lw_p50 : lw_okq (⟨"StepMachinesModel", "areAlike", "(II)Z"⟩, 25) := ⟨⟨by decide +kernel, by decide +kernel⟩, List.mem_of_getElem? (i := 900) (by decide +kernel), List.mem_of_getElem? (i := 1097) (by decide +kernel), List.mem_of_getElem? (i := 1098) (by decide +kernel)⟩
def lw_privs_4 : List (MethodName × Nat) := [(⟨"StepMachinesModel", "isWaiting", "(I)Z"⟩, 25), (⟨"StepMachinesModel", "hold", "(III)V"⟩, 25), (⟨"StepMachinesModel", "areAlike", "(II)Z"⟩, 25)]
theorem lw_r4 : ∀ q ∈ lw_privs_4, lw_okq q := List.forall_mem_cons.mpr ⟨lw_p48, List.forall_mem_cons.mpr ⟨lw_p49, List.forall_mem_cons.mpr ⟨lw_p50, fun _ h => absurd h List.not_mem_nil⟩⟩⟩
def lw_privs : List (MethodName × Nat) := lw_privs_1 ++ (lw_privs_2 ++ (lw_privs_3 ++ (lw_privs_4)))
def lw_tbl : List Cond := k2_sels lw_privs ++ tables_1
theorem lw_privs_ok : ∀ q ∈ lw_privs, lw_okq q := by
  show ∀ q ∈ lw_privs_1 ++ (lw_privs_2 ++ (lw_privs_3 ++ (lw_privs_4))), lw_okq q
  exact List.forall_mem_append.mpr ⟨lw_r1, List.forall_mem_append.mpr ⟨lw_r2, List.forall_mem_append.mpr ⟨lw_r3, lw_r4⟩⟩⟩
-- ===== names: classes, their fields in one order, methods
def RN_Jobs : String := "StepMachines$Jobs"
def FN_Jobs : u_T := fun k => match k with
  | 0 => ("StepMachines$Jobs", "jobs", "[I", false)
  | _ => ("StepMachines$Jobs", "count", "I", false)
def tN_Jobs : Nat → FieldType := fun k => match k with
  | 0 => .array .int
  | _ => .int
theorem nN_Jobs : ∀ a, a < 2 → ∀ b, b < 2 → a ≠ b → (FN_Jobs a).2.1 ≠ (FN_Jobs b).2.1 := by decide +kernel
theorem oN_Jobs : ∀ k, k < 2 → parseFieldDescriptor (FN_Jobs k).2.2.1 = some (tN_Jobs k) := by decide +kernel
def RN_Kept : String := "StepMachines$Kept"
def FN_Kept : u_T := fun k => match k with
  | 0 => ("StepMachines$Kept", "steps", "[I", false)
  | 1 => ("StepMachines$Kept", "counts", "[I", false)
  | 2 => ("StepMachines$Kept", "labels", "[I", false)
  | 3 => ("StepMachines$Kept", "sums", "[I", false)
  | 4 => ("StepMachines$Kept", "moves", "[I", false)
  | 5 => ("StepMachines$Kept", "most", "I", false)
  | _ => ("StepMachines$Kept", "kept", "I", false)
def tN_Kept : Nat → FieldType := fun k => match k with
  | 0 => .array .int
  | 1 => .array .int
  | 2 => .array .int
  | 3 => .array .int
  | 4 => .array .int
  | 5 => .int
  | _ => .int
theorem nN_Kept : ∀ a, a < 7 → ∀ b, b < 7 → a ≠ b → (FN_Kept a).2.1 ≠ (FN_Kept b).2.1 := by decide +kernel
theorem oN_Kept : ∀ k, k < 7 → parseFieldDescriptor (FN_Kept k).2.2.1 = some (tN_Kept k) := by decide +kernel
def RN_Marks : String := "StepMachines$Marks"
def FN_Marks : u_T := fun k => match k with
  | 0 => ("StepMachines$Marks", "program", "LStepMachines$Program;", true)
  | 1 => ("StepMachines$Marks", "subject", "LStepMachines$Subject;", true)
  | 2 => ("StepMachines$Marks", "tally", "LStepMachines$Tally;", true)
  | 3 => ("StepMachines$Marks", "best", "[I", true)
  | 4 => ("StepMachines$Marks", "now", "[I", true)
  | 5 => ("StepMachines$Marks", "jobs", "LStepMachines$Jobs;", true)
  | _ => ("StepMachines$Marks", "tried", "[I", false)
def tN_Marks : Nat → FieldType := fun k => match k with
  | 0 => .object "StepMachines$Program"
  | 1 => .object "StepMachines$Subject"
  | 2 => .object "StepMachines$Tally"
  | 3 => .array .int
  | 4 => .array .int
  | 5 => .object "StepMachines$Jobs"
  | _ => .array .int
theorem nN_Marks : ∀ a, a < 7 → ∀ b, b < 7 → a ≠ b → (FN_Marks a).2.1 ≠ (FN_Marks b).2.1 := by decide +kernel
theorem oN_Marks : ∀ k, k < 7 → parseFieldDescriptor (FN_Marks k).2.2.1 = some (tN_Marks k) := by decide +kernel
def RN_Program : String := "StepMachines$Program"
def FN_Program : u_T := fun k => match k with
  | 0 => ("StepMachines$Program", "kinds", "[I", true)
  | 1 => ("StepMachines$Program", "values", "[I", true)
  | 2 => ("StepMachines$Program", "firsts", "[I", true)
  | 3 => ("StepMachines$Program", "seconds", "[I", true)
  | 4 => ("StepMachines$Program", "size", "I", false)
  | _ => ("StepMachines$Program", "beginning", "I", false)
def tN_Program : Nat → FieldType := fun k => match k with
  | 0 => .array .int
  | 1 => .array .int
  | 2 => .array .int
  | 3 => .array .int
  | 4 => .int
  | _ => .int
theorem nN_Program : ∀ a, a < 6 → ∀ b, b < 6 → a ≠ b → (FN_Program a).2.1 ≠ (FN_Program b).2.1 := by decide +kernel
theorem oN_Program : ∀ k, k < 6 → parseFieldDescriptor (FN_Program k).2.2.1 = some (tN_Program k) := by decide +kernel
def RN_Row : String := "StepMachines$Row"
def FN_Row : u_T := fun k => match k with
  | 0 => ("StepMachines$Row", "steps", "[I", true)
  | 1 => ("StepMachines$Row", "count", "I", false)
  | 2 => ("StepMachines$Row", "met", "[I", true)
  | _ => ("StepMachines$Row", "turn", "I", false)
def tN_Row : Nat → FieldType := fun k => match k with
  | 0 => .array .int
  | 1 => .int
  | 2 => .array .int
  | _ => .int
theorem nN_Row : ∀ a, a < 4 → ∀ b, b < 4 → a ≠ b → (FN_Row a).2.1 ≠ (FN_Row b).2.1 := by decide +kernel
theorem oN_Row : ∀ k, k < 4 → parseFieldDescriptor (FN_Row k).2.2.1 = some (tN_Row k) := by decide +kernel
def RN_States : String := "StepMachines$States"
def FN_States : u_T := fun k => match k with
  | 0 => ("StepMachines$States", "program", "LStepMachines$Program;", true)
  | 1 => ("StepMachines$States", "subject", "LStepMachines$Subject;", true)
  | 2 => ("StepMachines$States", "tally", "LStepMachines$Tally;", true)
  | 3 => ("StepMachines$States", "kept", "LStepMachines$Kept;", true)
  | 4 => ("StepMachines$States", "walked", "LStepMachines$Row;", true)
  | 5 => ("StepMachines$States", "onward", "LStepMachines$Row;", true)
  | 6 => ("StepMachines$States", "jobs", "LStepMachines$Jobs;", true)
  | _ => ("StepMachines$States", "so", "I", false)
def tN_States : Nat → FieldType := fun k => match k with
  | 0 => .object "StepMachines$Program"
  | 1 => .object "StepMachines$Subject"
  | 2 => .object "StepMachines$Tally"
  | 3 => .object "StepMachines$Kept"
  | 4 => .object "StepMachines$Row"
  | 5 => .object "StepMachines$Row"
  | 6 => .object "StepMachines$Jobs"
  | _ => .int
theorem nN_States : ∀ a, a < 8 → ∀ b, b < 8 → a ≠ b → (FN_States a).2.1 ≠ (FN_States b).2.1 := by decide +kernel
theorem oN_States : ∀ k, k < 8 → parseFieldDescriptor (FN_States k).2.2.1 = some (tN_States k) := by decide +kernel
def RN_Subject : String := "StepMachines$Subject"
def FN_Subject : u_T := fun k => match k with
  | 0 => ("StepMachines$Subject", "bytes", "[I", true)
  | _ => ("StepMachines$Subject", "length", "I", false)
def tN_Subject : Nat → FieldType := fun k => match k with
  | 0 => .array .int
  | _ => .int
theorem nN_Subject : ∀ a, a < 2 → ∀ b, b < 2 → a ≠ b → (FN_Subject a).2.1 ≠ (FN_Subject b).2.1 := by decide +kernel
theorem oN_Subject : ∀ k, k < 2 → parseFieldDescriptor (FN_Subject k).2.2.1 = some (tN_Subject k) := by decide +kernel
def RN_Table : String := "StepMachines$Table"
def FN_Table : u_T := fun k => match k with
  | 0 => ("StepMachines$Table", "program", "LStepMachines$Program;", true)
  | 1 => ("StepMachines$Table", "subject", "LStepMachines$Subject;", true)
  | 2 => ("StepMachines$Table", "tally", "LStepMachines$Tally;", true)
  | 3 => ("StepMachines$Table", "best", "[I", true)
  | 4 => ("StepMachines$Table", "now", "[I", true)
  | 5 => ("StepMachines$Table", "actions", "[I", true)
  | 6 => ("StepMachines$Table", "endings", "[I", true)
  | 7 => ("StepMachines$Table", "stepOfRow", "[I", true)
  | 8 => ("StepMachines$Table", "rowOfStep", "[I", true)
  | 9 => ("StepMachines$Table", "since", "[I", true)
  | 10 => ("StepMachines$Table", "walked", "LStepMachines$Row;", true)
  | 11 => ("StepMachines$Table", "jobs", "LStepMachines$Jobs;", true)
  | 12 => ("StepMachines$Table", "rows", "I", false)
  | 13 => ("StepMachines$Table", "made", "Z", false)
  | _ => ("StepMachines$Table", "single", "Z", false)
def tN_Table : Nat → FieldType := fun k => match k with
  | 0 => .object "StepMachines$Program"
  | 1 => .object "StepMachines$Subject"
  | 2 => .object "StepMachines$Tally"
  | 3 => .array .int
  | 4 => .array .int
  | 5 => .array .int
  | 6 => .array .int
  | 7 => .array .int
  | 8 => .array .int
  | 9 => .array .int
  | 10 => .object "StepMachines$Row"
  | 11 => .object "StepMachines$Jobs"
  | 12 => .int
  | 13 => .boolean
  | _ => .boolean
theorem nN_Table : ∀ a, a < 15 → ∀ b, b < 15 → a ≠ b → (FN_Table a).2.1 ≠ (FN_Table b).2.1 := by decide +kernel
theorem oN_Table : ∀ k, k < 15 → parseFieldDescriptor (FN_Table k).2.2.1 = some (tN_Table k) := by decide +kernel
def RN_Tally : String := "StepMachines$Tally"
def FN_Tally : u_T := fun k => match k with
  | 0 => ("StepMachines$Tally", "taken", "I", false)
  | _ => ("StepMachines$Tally", "overruns", "I", false)
def tN_Tally : Nat → FieldType := fun k => match k with
  | 0 => .int
  | _ => .int
theorem nN_Tally : ∀ a, a < 2 → ∀ b, b < 2 → a ≠ b → (FN_Tally a).2.1 ≠ (FN_Tally b).2.1 := by decide +kernel
theorem oN_Tally : ∀ k, k < 2 → parseFieldDescriptor (FN_Tally k).2.2.1 = some (tN_Tally k) := by decide +kernel
def RN_Threads : String := "StepMachines$Threads"
def FN_Threads : u_T := fun k => match k with
  | 0 => ("StepMachines$Threads", "program", "LStepMachines$Program;", true)
  | 1 => ("StepMachines$Threads", "subject", "LStepMachines$Subject;", true)
  | 2 => ("StepMachines$Threads", "tally", "LStepMachines$Tally;", true)
  | 3 => ("StepMachines$Threads", "best", "[I", true)
  | 4 => ("StepMachines$Threads", "now", "[I", true)
  | 5 => ("StepMachines$Threads", "jobs", "LStepMachines$Jobs;", true)
  | 6 => ("StepMachines$Threads", "here", "LStepMachines$Row;", false)
  | 7 => ("StepMachines$Threads", "next", "LStepMachines$Row;", false)
  | 8 => ("StepMachines$Threads", "savedHere", "[I", false)
  | 9 => ("StepMachines$Threads", "savedNext", "[I", false)
  | _ => ("StepMachines$Threads", "so", "I", false)
def tN_Threads : Nat → FieldType := fun k => match k with
  | 0 => .object "StepMachines$Program"
  | 1 => .object "StepMachines$Subject"
  | 2 => .object "StepMachines$Tally"
  | 3 => .array .int
  | 4 => .array .int
  | 5 => .object "StepMachines$Jobs"
  | 6 => .object "StepMachines$Row"
  | 7 => .object "StepMachines$Row"
  | 8 => .array .int
  | 9 => .array .int
  | _ => .int
theorem nN_Threads : ∀ a, a < 11 → ∀ b, b < 11 → a ≠ b → (FN_Threads a).2.1 ≠ (FN_Threads b).2.1 := by decide +kernel
theorem oN_Threads : ∀ k, k < 11 → parseFieldDescriptor (FN_Threads k).2.2.1 = some (tN_Threads k) := by decide +kernel
def RN_Mach : String := "StepMachines"
def FN_Mach : u_T := fun k => match k with
  | 0 => ("StepMachines", "program", "LStepMachines$Program;", true)
  | 1 => ("StepMachines", "subject", "LStepMachines$Subject;", true)
  | 2 => ("StepMachines", "tally", "LStepMachines$Tally;", true)
  | 3 => ("StepMachines", "latest", "[I", true)
  | 4 => ("StepMachines", "mostStates", "I", false)
  | 5 => ("StepMachines", "threads", "LStepMachines$Threads;", false)
  | 6 => ("StepMachines", "marks", "LStepMachines$Marks;", false)
  | 7 => ("StepMachines", "table", "LStepMachines$Table;", false)
  | _ => ("StepMachines", "states", "LStepMachines$States;", false)
def tN_Mach : Nat → FieldType := fun k => match k with
  | 0 => .object "StepMachines$Program"
  | 1 => .object "StepMachines$Subject"
  | 2 => .object "StepMachines$Tally"
  | 3 => .array .int
  | 4 => .int
  | 5 => .object "StepMachines$Threads"
  | 6 => .object "StepMachines$Marks"
  | 7 => .object "StepMachines$Table"
  | _ => .object "StepMachines$States"
theorem nN_Mach : ∀ a, a < 9 → ∀ b, b < 9 → a ≠ b → (FN_Mach a).2.1 ≠ (FN_Mach b).2.1 := by decide +kernel
theorem oN_Mach : ∀ k, k < 9 → parseFieldDescriptor (FN_Mach k).2.2.1 = some (tN_Mach k) := by decide +kernel
def RN_Mod : String := "StepMachinesModel"
def FN_Mod : u_T := fun k => match k with
  | 0 => ("StepMachinesModel", "thrown", "I", false)
  | 1 => ("StepMachinesModel", "steps", "I", false)
  | 2 => ("StepMachinesModel", "begin", "I", false)
  | 3 => ("StepMachinesModel", "kinds", "[I", true)
  | 4 => ("StepMachinesModel", "values", "[I", true)
  | 5 => ("StepMachinesModel", "first", "[I", true)
  | 6 => ("StepMachinesModel", "second", "[I", true)
  | 7 => ("StepMachinesModel", "subject", "[I", true)
  | 8 => ("StepMachinesModel", "length", "I", false)
  | 9 => ("StepMachinesModel", "can", "[Z", true)
  | 10 => ("StepMachinesModel", "come", "[Z", true)
  | 11 => ("StepMachinesModel", "saves", "[I", true)
  | 12 => ("StepMachinesModel", "kept", "[I", true)
  | 13 => ("StepMachinesModel", "pile", "[I", true)
  | 14 => ("StepMachinesModel", "pileTrail", "[I", true)
  | 15 => ("StepMachinesModel", "trailPlace", "[I", true)
  | 16 => ("StepMachinesModel", "trailOld", "[I", true)
  | 17 => ("StepMachinesModel", "seen", "[Z", true)
  | 18 => ("StepMachinesModel", "trail", "I", false)
  | 19 => ("StepMachinesModel", "high", "I", false)
  | 20 => ("StepMachinesModel", "starts", "[I", true)
  | 21 => ("StepMachinesModel", "bySaves", "[I", true)
  | 22 => ("StepMachinesModel", "byAsserts", "[I", true)
  | 23 => ("StepMachinesModel", "byTime", "[I", true)
  | _ => ("StepMachinesModel", "many", "I", false)
def tN_Mod : Nat → FieldType := fun k => match k with
  | 0 => .int
  | 1 => .int
  | 2 => .int
  | 3 => .array .int
  | 4 => .array .int
  | 5 => .array .int
  | 6 => .array .int
  | 7 => .array .int
  | 8 => .int
  | 9 => .array .boolean
  | 10 => .array .boolean
  | 11 => .array .int
  | 12 => .array .int
  | 13 => .array .int
  | 14 => .array .int
  | 15 => .array .int
  | 16 => .array .int
  | 17 => .array .boolean
  | 18 => .int
  | 19 => .int
  | 20 => .array .int
  | 21 => .array .int
  | 22 => .array .int
  | 23 => .array .int
  | _ => .int
theorem nN_Mod : ∀ a, a < 25 → ∀ b, b < 25 → a ≠ b → (FN_Mod a).2.1 ≠ (FN_Mod b).2.1 := by decide +kernel
theorem oN_Mod : ∀ k, k < 25 → parseFieldDescriptor (FN_Mod k).2.2.1 = some (tN_Mod k) := by decide +kernel
def RN_Law : String := "StepMachinesLaw"
abbrev clN : List vw_C := [(RN_Jobs, FN_Jobs, 2), (RN_Kept, FN_Kept, 7), (RN_Marks, FN_Marks, 7), (RN_Program, FN_Program, 6), (RN_Row, FN_Row, 4), (RN_States, FN_States, 8), (RN_Subject, FN_Subject, 2), (RN_Table, FN_Table, 15), (RN_Tally, FN_Tally, 2), (RN_Threads, FN_Threads, 11), (RN_Mach, FN_Mach, 9), (RN_Mod, FN_Mod, 25)]
def TB : List Cond := lw_tbl.filter goodWord
theorem TB_tab {i : Nat} {w : Cond} (h : tables_1[i]? = some w) (hg : goodWord w = true) : w ∈ TB := List.mem_filter.mpr ⟨List.mem_append_right _ (List.mem_of_getElem? h), hg⟩
theorem TB_sel {i : Nat} {w : Cond} (h : (k2_sels lw_privs)[i]? = some w) (hg : goodWord w = true) : w ∈ TB := List.mem_filter.mpr ⟨List.mem_append_left _ (List.mem_of_getElem? h), hg⟩
theorem TB_good {w : Cond} (h : w ∈ TB) : (w.onTables && w.keeps) = true ∨ ∃ ty, w = .arrayClass ty := good_of_word (List.mem_filter.mp h).2
theorem TB_lw {w : Cond} (h : w ∈ TB) : w ∈ lw_tbl := (List.mem_filter.mp h).1
/-- a callee's words among the caller's: both are a code row ahead of TB -/
theorem TB_in {k c : Cond} (h : c ∈ TB) : GoodIn (k :: TB) (c :: TB) := fun w hw => by
  rcases List.mem_cons.mp hw with rfl | hw
  · exact ⟨List.mem_cons_of_mem _ h, TB_good h⟩
  · exact ⟨List.mem_cons_of_mem _ hw, TB_good hw⟩
theorem TB_in2 {c : Cond} (h : c ∈ TB) : GoodIn TB (c :: TB) := fun w hw => by
  rcases List.mem_cons.mp hw with rfl | hw
  · exact ⟨h, TB_good h⟩
  · exact ⟨hw, TB_good hw⟩
theorem TB_inl {c : Cond} (h : c ∈ TB) : GoodIn lw_tbl (c :: TB) := fun w hw => by
  rcases List.mem_cons.mp hw with rfl | hw
  · exact ⟨TB_lw h, TB_good h⟩
  · exact ⟨TB_lw hw, TB_good hw⟩
abbrev cN_Mach_init : ByteArray := prog_1_method_1_code
def yN_Mach_init : MethodName := ⟨RN_Mach, "<init>", "()V"⟩
abbrev kN_Mach_init : Cond := Cond.code yN_Mach_init cN_Mach_init 1 none
abbrev wN_Mach_init : List Cond := kN_Mach_init :: TB
theorem gN_Mach_init : kN_Mach_init ∈ TB := TB_tab (i := 25) (by decide +kernel) rfl
abbrev cN_Program_init : ByteArray := prog_5_method_1_code
def yN_Program_init : MethodName := ⟨RN_Program, "<init>", "()V"⟩
abbrev kN_Program_init : Cond := Cond.code yN_Program_init cN_Program_init 1 none
abbrev wN_Program_init : List Cond := kN_Program_init :: TB
theorem gN_Program_init : kN_Program_init ∈ TB := TB_tab (i := 33) (by decide +kernel) rfl
abbrev cN_Subject_init : ByteArray := prog_8_method_1_code
def yN_Subject_init : MethodName := ⟨RN_Subject, "<init>", "()V"⟩
abbrev kN_Subject_init : Cond := Cond.code yN_Subject_init cN_Subject_init 1 none
abbrev wN_Subject_init : List Cond := kN_Subject_init :: TB
theorem gN_Subject_init : kN_Subject_init ∈ TB := TB_tab (i := 82) (by decide +kernel) rfl
abbrev cN_Tally_init : ByteArray := prog_10_method_1_code
def yN_Tally_init : MethodName := ⟨RN_Tally, "<init>", "()V"⟩
abbrev kN_Tally_init : Cond := Cond.code yN_Tally_init cN_Tally_init 1 none
abbrev wN_Tally_init : List Cond := kN_Tally_init :: TB
theorem gN_Tally_init : kN_Tally_init ∈ TB := TB_tab (i := 100) (by decide +kernel) rfl
abbrev cN_Arrays_fill : ByteArray := prog_22_method_103_code
def yN_Arrays_fill : MethodName := ⟨"java/util/Arrays", "fill", "([II)V"⟩
abbrev kN_Arrays_fill : Cond := Cond.code yN_Arrays_fill cN_Arrays_fill 4 none
abbrev wN_Arrays_fill : List Cond := kN_Arrays_fill :: TB
theorem gN_Arrays_fill : kN_Arrays_fill ∈ TB := TB_tab (i := 112) (by decide +kernel) rfl
abbrev cN_Mach_put : ByteArray := prog_1_method_5_code
def yN_Mach_put : MethodName := ⟨RN_Mach, "put", "(JI)Z"⟩
abbrev kN_Mach_put : Cond := Cond.code yN_Mach_put cN_Mach_put 5 (some .boolean)
abbrev wN_Mach_put : List Cond := kN_Mach_put :: TB
theorem gN_Mach_put : kN_Mach_put ∈ TB := TB_tab (i := 144) (by decide +kernel) rfl
abbrev cN_Subject_append : ByteArray := prog_8_method_4_code
def yN_Subject_append : MethodName := ⟨RN_Subject, "append", "(I)V"⟩
abbrev kN_Subject_append : Cond := Cond.code yN_Subject_append cN_Subject_append 2 none
abbrev wN_Subject_append : List Cond := kN_Subject_append :: TB
theorem gN_Subject_append : kN_Subject_append ∈ TB := TB_tab (i := 148) (by decide +kernel) rfl
abbrev cN_Mach_clear : ByteArray := prog_1_method_6_code
def yN_Mach_clear : MethodName := ⟨RN_Mach, "clear", "()V"⟩
abbrev kN_Mach_clear : Cond := Cond.code yN_Mach_clear cN_Mach_clear 1 none
abbrev wN_Mach_clear : List Cond := kN_Mach_clear :: TB
theorem gN_Mach_clear : kN_Mach_clear ∈ TB := TB_tab (i := 152) (by decide +kernel) rfl
abbrev cN_Mach_saved : ByteArray := prog_1_method_8_code
def yN_Mach_saved : MethodName := ⟨RN_Mach, "saved", "(I)I"⟩
abbrev kN_Mach_saved : Cond := Cond.code yN_Mach_saved cN_Mach_saved 2 (some .int)
abbrev wN_Mach_saved : List Cond := kN_Mach_saved :: TB
theorem gN_Mach_saved : kN_Mach_saved ∈ TB := TB_tab (i := 156) (by decide +kernel) rfl
abbrev cN_Mach_isOneWay : ByteArray := prog_1_method_11_code
def yN_Mach_isOneWay : MethodName := ⟨RN_Mach, "isOneWay", "()Z"⟩
abbrev kN_Mach_isOneWay : Cond := Cond.code yN_Mach_isOneWay cN_Mach_isOneWay 1 (some .boolean)
abbrev wN_Mach_isOneWay : List Cond := kN_Mach_isOneWay :: TB
theorem gN_Mach_isOneWay : kN_Mach_isOneWay ∈ TB := TB_tab (i := 160) (by decide +kernel) rfl
abbrev cN_Mach_readyTable : ByteArray := prog_1_method_19_code
def yN_Mach_readyTable : MethodName := ⟨RN_Mach, "readyTable", "()LStepMachines$Table;"⟩
abbrev kN_Mach_readyTable : Cond := Cond.code yN_Mach_readyTable cN_Mach_readyTable 1 (some (.object "StepMachines$Table"))
abbrev wN_Mach_readyTable : List Cond := kN_Mach_readyTable :: TB
theorem gN_Mach_readyTable : kN_Mach_readyTable ∈ TB := TB_tab (i := 164) (by decide +kernel) rfl
abbrev cN_Table_init : ByteArray := prog_9_method_1_code
def yN_Table_init : MethodName := ⟨RN_Table, "<init>", "(LStepMachines$Program;LStepMachines$Subject;LStepMachines$Tally;[I)V"⟩
abbrev kN_Table_init : Cond := Cond.code yN_Table_init cN_Table_init 5 none
abbrev wN_Table_init : List Cond := kN_Table_init :: TB
theorem gN_Table_init : kN_Table_init ∈ TB := TB_tab (i := 169) (by decide +kernel) rfl
abbrev cN_Row_init : ByteArray := prog_6_method_1_code
def yN_Row_init : MethodName := ⟨RN_Row, "<init>", "()V"⟩
abbrev kN_Row_init : Cond := Cond.code yN_Row_init cN_Row_init 1 none
abbrev wN_Row_init : List Cond := kN_Row_init :: TB
theorem gN_Row_init : kN_Row_init ∈ TB := TB_tab (i := 175) (by decide +kernel) rfl
abbrev cN_Jobs_init : ByteArray := prog_2_method_1_code
def yN_Jobs_init : MethodName := ⟨RN_Jobs, "<init>", "(I)V"⟩
abbrev kN_Jobs_init : Cond := Cond.code yN_Jobs_init cN_Jobs_init 2 none
abbrev wN_Jobs_init : List Cond := kN_Jobs_init :: TB
theorem gN_Jobs_init : kN_Jobs_init ∈ TB := TB_tab (i := 199) (by decide +kernel) rfl
abbrev cN_Table_isSingleMinded : ByteArray := prog_9_method_3_code
def yN_Table_isSingleMinded : MethodName := ⟨RN_Table, "isSingleMinded", "()Z"⟩
abbrev kN_Table_isSingleMinded : Cond := Cond.code yN_Table_isSingleMinded cN_Table_isSingleMinded 1 (some .boolean)
abbrev wN_Table_isSingleMinded : List Cond := kN_Table_isSingleMinded :: TB
theorem gN_Table_isSingleMinded : kN_Table_isSingleMinded ∈ TB := TB_tab (i := 257) (by decide +kernel) rfl
abbrev cN_Table_make : ByteArray := prog_9_method_4_code
def yN_Table_make : MethodName := ⟨RN_Table, "make", "()V"⟩
abbrev kN_Table_make : Cond := Cond.code yN_Table_make cN_Table_make 2 none
abbrev wN_Table_make : List Cond := kN_Table_make :: TB
theorem gN_Table_make : kN_Table_make ∈ TB := TB_tab (i := 261) (by decide +kernel) rfl
abbrev cN_Table_rowFor : ByteArray := prog_9_method_5_code
def yN_Table_rowFor : MethodName := ⟨RN_Table, "rowFor", "(I)I"⟩
abbrev kN_Table_rowFor : Cond := Cond.code yN_Table_rowFor cN_Table_rowFor 2 (some .int)
abbrev wN_Table_rowFor : List Cond := kN_Table_rowFor :: TB
theorem gN_Table_rowFor : kN_Table_rowFor ∈ TB := TB_tab (i := 266) (by decide +kernel) rfl
abbrev cN_Table_makeRow : ByteArray := prog_9_method_6_code
def yN_Table_makeRow : MethodName := ⟨RN_Table, "makeRow", "(I)Z"⟩
abbrev kN_Table_makeRow : Cond := Cond.code yN_Table_makeRow cN_Table_makeRow 5 (some .boolean)
abbrev wN_Table_makeRow : List Cond := kN_Table_makeRow :: TB
theorem gN_Table_makeRow : kN_Table_makeRow ∈ TB := TB_tab (i := 270) (by decide +kernel) rfl
abbrev cN_Row_empty : ByteArray := prog_6_method_2_code
def yN_Row_empty : MethodName := ⟨RN_Row, "empty", "()V"⟩
abbrev kN_Row_empty : Cond := Cond.code yN_Row_empty cN_Row_empty 1 none
abbrev wN_Row_empty : List Cond := kN_Row_empty :: TB
theorem gN_Row_empty : kN_Row_empty ∈ TB := TB_tab (i := 274) (by decide +kernel) rfl
abbrev cN_Jobs_drop : ByteArray := prog_2_method_8_code
def yN_Jobs_drop : MethodName := ⟨RN_Jobs, "drop", "()V"⟩
abbrev kN_Jobs_drop : Cond := Cond.code yN_Jobs_drop cN_Jobs_drop 1 none
abbrev wN_Jobs_drop : List Cond := kN_Jobs_drop :: TB
theorem gN_Jobs_drop : kN_Jobs_drop ∈ TB := TB_tab (i := 278) (by decide +kernel) rfl
abbrev cN_Table_later : ByteArray := prog_9_method_7_code
def yN_Table_later : MethodName := ⟨RN_Table, "later", "(II)V"⟩
abbrev kN_Table_later : Cond := Cond.code yN_Table_later cN_Table_later 3 none
abbrev wN_Table_later : List Cond := kN_Table_later :: TB
theorem gN_Table_later : kN_Table_later ∈ TB := TB_tab (i := 282) (by decide +kernel) rfl
abbrev cN_Jobs_add : ByteArray := prog_2_method_11_code
def yN_Jobs_add : MethodName := ⟨RN_Jobs, "add", "(I)V"⟩
abbrev kN_Jobs_add : Cond := Cond.code yN_Jobs_add cN_Jobs_add 2 none
abbrev wN_Jobs_add : List Cond := kN_Jobs_add :: TB
theorem gN_Jobs_add : kN_Jobs_add ∈ TB := TB_tab (i := 286) (by decide +kernel) rfl
abbrev cN_Jobs_isEmpty : ByteArray := prog_2_method_10_code
def yN_Jobs_isEmpty : MethodName := ⟨RN_Jobs, "isEmpty", "()Z"⟩
abbrev kN_Jobs_isEmpty : Cond := Cond.code yN_Jobs_isEmpty cN_Jobs_isEmpty 1 (some .boolean)
abbrev wN_Jobs_isEmpty : List Cond := kN_Jobs_isEmpty :: TB
theorem gN_Jobs_isEmpty : kN_Jobs_isEmpty ∈ TB := TB_tab (i := 291) (by decide +kernel) rfl
abbrev cN_Jobs_take : ByteArray := prog_2_method_12_code
def yN_Jobs_take : MethodName := ⟨RN_Jobs, "take", "()I"⟩
abbrev kN_Jobs_take : Cond := Cond.code yN_Jobs_take cN_Jobs_take 1 (some .int)
abbrev wN_Jobs_take : List Cond := kN_Jobs_take :: TB
theorem gN_Jobs_take : kN_Jobs_take ∈ TB := TB_tab (i := 295) (by decide +kernel) rfl
abbrev cN_Tally_count : ByteArray := prog_10_method_3_code
def yN_Tally_count : MethodName := ⟨RN_Tally, "count", "()V"⟩
abbrev kN_Tally_count : Cond := Cond.code yN_Tally_count cN_Tally_count 1 none
abbrev wN_Tally_count : List Cond := kN_Tally_count :: TB
theorem gN_Tally_count : kN_Tally_count ∈ TB := TB_tab (i := 299) (by decide +kernel) rfl
abbrev cN_Row_meets : ByteArray := prog_6_method_3_code
def yN_Row_meets : MethodName := ⟨RN_Row, "meets", "(I)Z"⟩
abbrev kN_Row_meets : Cond := Cond.code yN_Row_meets cN_Row_meets 2 (some .boolean)
abbrev wN_Row_meets : List Cond := kN_Row_meets :: TB
theorem gN_Row_meets : kN_Row_meets ∈ TB := TB_tab (i := 303) (by decide +kernel) rfl
abbrev cN_Table_walk : ByteArray := prog_9_method_8_code
def yN_Table_walk : MethodName := ⟨RN_Table, "walk", "(III)Z"⟩
abbrev kN_Table_walk : Cond := Cond.code yN_Table_walk cN_Table_walk 5 (some .boolean)
abbrev wN_Table_walk : List Cond := kN_Table_walk :: TB
theorem gN_Table_walk : kN_Table_walk ∈ TB := TB_tab (i := 307) (by decide +kernel) rfl
abbrev cN_Table_takeBytes : ByteArray := prog_9_method_9_code
def yN_Table_takeBytes : MethodName := ⟨RN_Table, "takeBytes", "(III)Z"⟩
abbrev kN_Table_takeBytes : Cond := Cond.code yN_Table_takeBytes cN_Table_takeBytes 9 (some .boolean)
abbrev wN_Table_takeBytes : List Cond := kN_Table_takeBytes :: TB
theorem gN_Table_takeBytes : kN_Table_takeBytes ∈ TB := TB_tab (i := 311) (by decide +kernel) rfl
abbrev cN_Program_takes : ByteArray := prog_5_method_6_code
def yN_Program_takes : MethodName := ⟨RN_Program, "takes", "(II)Z"⟩
abbrev kN_Program_takes : Cond := Cond.code yN_Program_takes cN_Program_takes 3 (some .boolean)
abbrev wN_Program_takes : List Cond := kN_Program_takes :: TB
theorem gN_Program_takes : kN_Program_takes ∈ TB := TB_tab (i := 315) (by decide +kernel) rfl
abbrev cN_Mach_over : ByteArray := prog_1_method_12_code
def yN_Mach_over : MethodName := ⟨RN_Mach, "over", "()I"⟩
abbrev kN_Mach_over : Cond := Cond.code yN_Mach_over cN_Mach_over 1 (some .int)
abbrev wN_Mach_over : List Cond := kN_Mach_over :: TB
theorem gN_Mach_over : kN_Mach_over ∈ TB := TB_tab (i := 319) (by decide +kernel) rfl
abbrev cN_Law_lay : ByteArray := method_3_code
def yN_Law_lay : MethodName := ⟨RN_Law, "lay", "(LStepMachines;I)I"⟩
abbrev kN_Law_lay : Cond := Cond.codeWith yN_Law_lay cN_Law_lay 3 (some .int) [(0, 5, 8, 13)]
abbrev wN_Law_lay : List Cond := kN_Law_lay :: TB
theorem gN_Law_lay : kN_Law_lay ∈ TB := TB_tab (i := 322) (by decide +kernel) rfl
abbrev cN_Mach_lay : ByteArray := prog_1_method_2_code
def yN_Mach_lay : MethodName := ⟨RN_Mach, "lay", "(I)V"⟩
abbrev kN_Mach_lay : Cond := Cond.code yN_Mach_lay cN_Mach_lay 2 none
abbrev wN_Mach_lay : List Cond := kN_Mach_lay :: TB
theorem gN_Mach_lay : kN_Mach_lay ∈ TB := TB_tab (i := 327) (by decide +kernel) rfl
abbrev cN_Program_layOut : ByteArray := prog_5_method_3_code
def yN_Program_layOut : MethodName := ⟨RN_Program, "layOut", "(I)V"⟩
abbrev kN_Program_layOut : Cond := Cond.code yN_Program_layOut cN_Program_layOut 3 none
abbrev wN_Program_layOut : List Cond := kN_Program_layOut :: TB
theorem gN_Program_layOut : kN_Program_layOut ∈ TB := TB_tab (i := 398) (by decide +kernel) rfl
abbrev cN_Program_change : ByteArray := prog_5_method_4_code
def yN_Program_change : MethodName := ⟨RN_Program, "change", "(IIIII)V"⟩
abbrev kN_Program_change : Cond := Cond.code yN_Program_change cN_Program_change 6 none
abbrev wN_Program_change : List Cond := kN_Program_change :: TB
theorem gN_Program_change : kN_Program_change ∈ TB := TB_tab (i := 402) (by decide +kernel) rfl
abbrev cN_Mach_forgetWhatWasMade : ByteArray := prog_1_method_15_code
def yN_Mach_forgetWhatWasMade : MethodName := ⟨RN_Mach, "forgetWhatWasMade", "()V"⟩
abbrev kN_Mach_forgetWhatWasMade : Cond := Cond.code yN_Mach_forgetWhatWasMade cN_Mach_forgetWhatWasMade 1 none
abbrev wN_Mach_forgetWhatWasMade : List Cond := kN_Mach_forgetWhatWasMade :: TB
theorem gN_Mach_forgetWhatWasMade : kN_Mach_forgetWhatWasMade ∈ TB := TB_tab (i := 406) (by decide +kernel) rfl
abbrev cN_Table_forget : ByteArray := prog_9_method_2_code
def yN_Table_forget : MethodName := ⟨RN_Table, "forget", "()V"⟩
abbrev kN_Table_forget : Cond := Cond.code yN_Table_forget cN_Table_forget 1 none
abbrev wN_Table_forget : List Cond := kN_Table_forget :: TB
theorem gN_Table_forget : kN_Table_forget ∈ TB := TB_tab (i := 410) (by decide +kernel) rfl
abbrev cN_States_forget : ByteArray := prog_7_method_3_code
def yN_States_forget : MethodName := ⟨RN_States, "forget", "()V"⟩
abbrev kN_States_forget : Cond := Cond.code yN_States_forget cN_States_forget 1 none
abbrev wN_States_forget : List Cond := kN_States_forget :: TB
theorem gN_States_forget : kN_States_forget ∈ TB := TB_tab (i := 414) (by decide +kernel) rfl
abbrev cN_Kept_forget : ByteArray := prog_3_method_4_code
def yN_Kept_forget : MethodName := ⟨RN_Kept, "forget", "()V"⟩
abbrev kN_Kept_forget : Cond := Cond.code yN_Kept_forget cN_Kept_forget 1 none
abbrev wN_Kept_forget : List Cond := kN_Kept_forget :: TB
theorem gN_Kept_forget : kN_Kept_forget ∈ TB := TB_tab (i := 418) (by decide +kernel) rfl
abbrev cN_Law_step : ByteArray := method_4_code
def yN_Law_step : MethodName := ⟨RN_Law, "step", "(LStepMachines;IIIII)I"⟩
abbrev kN_Law_step : Cond := Cond.codeWith yN_Law_step cN_Law_step 7 (some .int) [(0, 11, 14, 19), (0, 11, 18, 13)]
abbrev wN_Law_step : List Cond := kN_Law_step :: TB
theorem gN_Law_step : kN_Law_step ∈ TB := TB_tab (i := 421) (by decide +kernel) rfl
abbrev cN_Mach_step : ByteArray := prog_1_method_3_code
def yN_Mach_step : MethodName := ⟨RN_Mach, "step", "(IIIII)V"⟩
abbrev kN_Mach_step : Cond := Cond.code yN_Mach_step cN_Mach_step 6 none
abbrev wN_Mach_step : List Cond := kN_Mach_step :: TB
theorem gN_Mach_step : kN_Mach_step ∈ TB := TB_tab (i := 426) (by decide +kernel) rfl
abbrev cN_Program_has : ByteArray := prog_5_method_5_code
def yN_Program_has : MethodName := ⟨RN_Program, "has", "(I)Z"⟩
abbrev kN_Program_has : Cond := Cond.code yN_Program_has cN_Program_has 2 (some .boolean)
abbrev wN_Program_has : List Cond := kN_Program_has :: TB
theorem gN_Program_has : kN_Program_has ∈ TB := TB_tab (i := 430) (by decide +kernel) rfl
abbrev cN_Program_isValue : ByteArray := prog_5_method_2_code
def yN_Program_isValue : MethodName := ⟨RN_Program, "isValue", "(II)Z"⟩
abbrev kN_Program_isValue : Cond := Cond.code yN_Program_isValue cN_Program_isValue 2 (some .boolean)
abbrev wN_Program_isValue : List Cond := kN_Program_isValue :: TB
theorem gN_Program_isValue : kN_Program_isValue ∈ TB := TB_tab (i := 452) (by decide +kernel) rfl
abbrev cN_Law_begin : ByteArray := method_5_code
def yN_Law_begin : MethodName := ⟨RN_Law, "begin", "(LStepMachines;I)I"⟩
abbrev kN_Law_begin : Cond := Cond.codeWith yN_Law_begin cN_Law_begin 3 (some .int) [(0, 5, 8, 19)]
abbrev wN_Law_begin : List Cond := kN_Law_begin :: TB
theorem gN_Law_begin : kN_Law_begin ∈ TB := TB_tab (i := 458) (by decide +kernel) rfl
abbrev cN_Mach_begin : ByteArray := prog_1_method_4_code
def yN_Mach_begin : MethodName := ⟨RN_Mach, "begin", "(I)V"⟩
abbrev kN_Mach_begin : Cond := Cond.code yN_Mach_begin cN_Mach_begin 2 none
abbrev wN_Mach_begin : List Cond := kN_Mach_begin :: TB
theorem gN_Mach_begin : kN_Mach_begin ∈ TB := TB_tab (i := 462) (by decide +kernel) rfl
abbrev cN_Law_match : ByteArray := method_6_code
def yN_Law_match : MethodName := ⟨RN_Law, "match", "(LStepMachines;IZII[J)I"⟩
abbrev kN_Law_match : Cond := Cond.codeWith yN_Law_match cN_Law_match 7 (some .int) [(0, 14, 17, 13)]
abbrev wN_Law_match : List Cond := kN_Law_match :: TB
theorem gN_Law_match : kN_Law_match ∈ TB := TB_tab (i := 466) (by decide +kernel) rfl
abbrev cN_Mach_match : ByteArray := prog_1_method_7_code
def yN_Mach_match : MethodName := ⟨RN_Mach, "match", "(IZII)I"⟩
abbrev kN_Mach_match : Cond := Cond.code yN_Mach_match cN_Mach_match 5 (some .int)
abbrev wN_Mach_match : List Cond := kN_Mach_match :: TB
theorem gN_Mach_match : kN_Mach_match ∈ TB := TB_tab (i := 470) (by decide +kernel) rfl
abbrev cN_Mach_isQuestion : ByteArray := prog_1_method_13_code
def yN_Mach_isQuestion : MethodName := ⟨RN_Mach, "isQuestion", "(II)Z"⟩
abbrev kN_Mach_isQuestion : Cond := Cond.code yN_Mach_isQuestion cN_Mach_isQuestion 3 (some .boolean)
abbrev wN_Mach_isQuestion : List Cond := kN_Mach_isQuestion :: TB
theorem gN_Mach_isQuestion : kN_Mach_isQuestion ∈ TB := TB_tab (i := 475) (by decide +kernel) rfl
abbrev cN_Tally_open : ByteArray := prog_10_method_2_code
def yN_Tally_open : MethodName := ⟨RN_Tally, "open", "()V"⟩
abbrev kN_Tally_open : Cond := Cond.code yN_Tally_open cN_Tally_open 1 none
abbrev wN_Tally_open : List Cond := kN_Tally_open :: TB
theorem gN_Tally_open : kN_Tally_open ∈ TB := TB_tab (i := 480) (by decide +kernel) rfl
abbrev cN_Mach_readyMarks : ByteArray := prog_1_method_18_code
def yN_Mach_readyMarks : MethodName := ⟨RN_Mach, "readyMarks", "()LStepMachines$Marks;"⟩
abbrev kN_Mach_readyMarks : Cond := Cond.code yN_Mach_readyMarks cN_Mach_readyMarks 1 (some (.object "StepMachines$Marks"))
abbrev wN_Mach_readyMarks : List Cond := kN_Mach_readyMarks :: TB
theorem gN_Mach_readyMarks : kN_Mach_readyMarks ∈ TB := TB_tab (i := 484) (by decide +kernel) rfl
abbrev cN_Marks_init : ByteArray := prog_4_method_1_code
def yN_Marks_init : MethodName := ⟨RN_Marks, "<init>", "(LStepMachines$Program;LStepMachines$Subject;LStepMachines$Tally;[I)V"⟩
abbrev kN_Marks_init : Cond := Cond.code yN_Marks_init cN_Marks_init 5 none
abbrev wN_Marks_init : List Cond := kN_Marks_init :: TB
theorem gN_Marks_init : kN_Marks_init ∈ TB := TB_tab (i := 489) (by decide +kernel) rfl
abbrev cN_Marks_run : ByteArray := prog_4_method_2_code
def yN_Marks_run : MethodName := ⟨RN_Marks, "run", "(IZI)V"⟩
abbrev kN_Marks_run : Cond := Cond.code yN_Marks_run cN_Marks_run 6 none
abbrev wN_Marks_run : List Cond := kN_Marks_run :: TB
theorem gN_Marks_run : kN_Marks_run ∈ TB := TB_tab (i := 518) (by decide +kernel) rfl
abbrev cN_Marks_wipe : ByteArray := prog_4_method_3_code
def yN_Marks_wipe : MethodName := ⟨RN_Marks, "wipe", "()V"⟩
abbrev kN_Marks_wipe : Cond := Cond.code yN_Marks_wipe cN_Marks_wipe 3 none
abbrev wN_Marks_wipe : List Cond := kN_Marks_wipe :: TB
theorem gN_Marks_wipe : kN_Marks_wipe ∈ TB := TB_tab (i := 522) (by decide +kernel) rfl
abbrev cN_Jobs_makeRoom : ByteArray := prog_2_method_9_code
def yN_Jobs_makeRoom : MethodName := ⟨RN_Jobs, "makeRoom", "(I)V"⟩
abbrev kN_Jobs_makeRoom : Cond := Cond.code yN_Jobs_makeRoom cN_Jobs_makeRoom 2 none
abbrev wN_Jobs_makeRoom : List Cond := kN_Jobs_makeRoom :: TB
theorem gN_Jobs_makeRoom : kN_Jobs_makeRoom ∈ TB := TB_tab (i := 526) (by decide +kernel) rfl
abbrev cN_Marks_tryFrom : ByteArray := prog_4_method_4_code
def yN_Marks_tryFrom : MethodName := ⟨RN_Marks, "tryFrom", "(IIZ)V"⟩
abbrev kN_Marks_tryFrom : Cond := Cond.code yN_Marks_tryFrom cN_Marks_tryFrom 6 none
abbrev wN_Marks_tryFrom : List Cond := kN_Marks_tryFrom :: TB
theorem gN_Marks_tryFrom : kN_Marks_tryFrom ∈ TB := TB_tab (i := 535) (by decide +kernel) rfl
abbrev cN_Jobs_stepAt : ByteArray := prog_2_method_2_code
def yN_Jobs_stepAt : MethodName := ⟨RN_Jobs, "stepAt", "(II)I"⟩
abbrev kN_Jobs_stepAt : Cond := Cond.code yN_Jobs_stepAt cN_Jobs_stepAt 2 (some .int)
abbrev wN_Jobs_stepAt : List Cond := kN_Jobs_stepAt :: TB
theorem gN_Jobs_stepAt : kN_Jobs_stepAt ∈ TB := TB_tab (i := 539) (by decide +kernel) rfl
abbrev cN_Jobs_isPutBack : ByteArray := prog_2_method_6_code
def yN_Jobs_isPutBack : MethodName := ⟨RN_Jobs, "isPutBack", "(I)Z"⟩
abbrev kN_Jobs_isPutBack : Cond := Cond.code yN_Jobs_isPutBack cN_Jobs_isPutBack 1 (some .boolean)
abbrev wN_Jobs_isPutBack : List Cond := kN_Jobs_isPutBack :: TB
theorem gN_Jobs_isPutBack : kN_Jobs_isPutBack ∈ TB := TB_tab (i := 546) (by decide +kernel) rfl
abbrev cN_Jobs_putBack : ByteArray := prog_2_method_7_code
def yN_Jobs_putBack : MethodName := ⟨RN_Jobs, "putBack", "(I[I)V"⟩
abbrev kN_Jobs_putBack : Cond := Cond.code yN_Jobs_putBack cN_Jobs_putBack 3 none
abbrev wN_Jobs_putBack : List Cond := kN_Jobs_putBack :: TB
theorem gN_Jobs_putBack : kN_Jobs_putBack ∈ TB := TB_tab (i := 549) (by decide +kernel) rfl
abbrev cN_Jobs_stepOf : ByteArray := prog_2_method_3_code
def yN_Jobs_stepOf : MethodName := ⟨RN_Jobs, "stepOf", "(I)I"⟩
abbrev kN_Jobs_stepOf : Cond := Cond.code yN_Jobs_stepOf cN_Jobs_stepOf 1 (some .int)
abbrev wN_Jobs_stepOf : List Cond := kN_Jobs_stepOf :: TB
theorem gN_Jobs_stepOf : kN_Jobs_stepOf ∈ TB := TB_tab (i := 552) (by decide +kernel) rfl
abbrev cN_Jobs_placeOf : ByteArray := prog_2_method_4_code
def yN_Jobs_placeOf : MethodName := ⟨RN_Jobs, "placeOf", "(I)I"⟩
abbrev kN_Jobs_placeOf : Cond := Cond.code yN_Jobs_placeOf cN_Jobs_placeOf 1 (some .int)
abbrev wN_Jobs_placeOf : List Cond := kN_Jobs_placeOf :: TB
theorem gN_Jobs_placeOf : kN_Jobs_placeOf ∈ TB := TB_tab (i := 555) (by decide +kernel) rfl
abbrev cN_Marks_visit : ByteArray := prog_4_method_6_code
def yN_Marks_visit : MethodName := ⟨RN_Marks, "visit", "(III)V"⟩
abbrev kN_Marks_visit : Cond := Cond.code yN_Marks_visit cN_Marks_visit 5 none
abbrev wN_Marks_visit : List Cond := kN_Marks_visit :: TB
theorem gN_Marks_visit : kN_Marks_visit ∈ TB := TB_tab (i := 559) (by decide +kernel) rfl
abbrev cN_Marks_isNew : ByteArray := prog_4_method_5_code
def yN_Marks_isNew : MethodName := ⟨RN_Marks, "isNew", "(II)Z"⟩
abbrev kN_Marks_isNew : Cond := Cond.code yN_Marks_isNew cN_Marks_isNew 6 (some .boolean)
abbrev wN_Marks_isNew : List Cond := kN_Marks_isNew :: TB
theorem gN_Marks_isNew : kN_Marks_isNew ∈ TB := TB_tab (i := 564) (by decide +kernel) rfl
abbrev cN_Marks_end : ByteArray := prog_4_method_7_code
def yN_Marks_end : MethodName := ⟨RN_Marks, "end", "(II)V"⟩
abbrev kN_Marks_end : Cond := Cond.code yN_Marks_end cN_Marks_end 3 none
abbrev wN_Marks_end : List Cond := kN_Marks_end :: TB
theorem gN_Marks_end : kN_Marks_end ∈ TB := TB_tab (i := 568) (by decide +kernel) rfl
abbrev cN_Subject_mayEnd : ByteArray := prog_8_method_7_code
def yN_Subject_mayEnd : MethodName := ⟨RN_Subject, "mayEnd", "(II)Z"⟩
abbrev kN_Subject_mayEnd : Cond := Cond.code yN_Subject_mayEnd cN_Subject_mayEnd 3 (some .boolean)
abbrev wN_Subject_mayEnd : List Cond := kN_Subject_mayEnd :: TB
theorem gN_Subject_mayEnd : kN_Subject_mayEnd ∈ TB := TB_tab (i := 572) (by decide +kernel) rfl
abbrev cN_Subject_byteBehind : ByteArray := prog_8_method_5_code
def yN_Subject_byteBehind : MethodName := ⟨RN_Subject, "byteBehind", "(I)I"⟩
abbrev kN_Subject_byteBehind : Cond := Cond.code yN_Subject_byteBehind cN_Subject_byteBehind 2 (some .int)
abbrev wN_Subject_byteBehind : List Cond := kN_Subject_byteBehind :: TB
theorem gN_Subject_byteBehind : kN_Subject_byteBehind ∈ TB := TB_tab (i := 579) (by decide +kernel) rfl
abbrev cN_Jobs_putBackOf : ByteArray := prog_2_method_5_code
def yN_Jobs_putBackOf : MethodName := ⟨RN_Jobs, "putBackOf", "(II)I"⟩
abbrev kN_Jobs_putBackOf : Cond := Cond.code yN_Jobs_putBackOf cN_Jobs_putBackOf 2 (some .int)
abbrev wN_Jobs_putBackOf : List Cond := kN_Jobs_putBackOf :: TB
theorem gN_Jobs_putBackOf : kN_Jobs_putBackOf ∈ TB := TB_tab (i := 583) (by decide +kernel) rfl
abbrev cN_Subject_whatIsSoAt : ByteArray := prog_8_method_6_code
def yN_Subject_whatIsSoAt : MethodName := ⟨RN_Subject, "whatIsSoAt", "(I)I"⟩
abbrev kN_Subject_whatIsSoAt : Cond := Cond.code yN_Subject_whatIsSoAt cN_Subject_whatIsSoAt 2 (some .int)
abbrev wN_Subject_whatIsSoAt : List Cond := kN_Subject_whatIsSoAt :: TB
theorem gN_Subject_whatIsSoAt : kN_Subject_whatIsSoAt ∈ TB := TB_tab (i := 587) (by decide +kernel) rfl
abbrev cN_Subject_whatIsSo : ByteArray := prog_8_method_2_code
def yN_Subject_whatIsSo : MethodName := ⟨RN_Subject, "whatIsSo", "(II)I"⟩
abbrev kN_Subject_whatIsSo : Cond := Cond.code yN_Subject_whatIsSo cN_Subject_whatIsSo 3 (some .int)
abbrev wN_Subject_whatIsSo : List Cond := kN_Subject_whatIsSo :: TB
theorem gN_Subject_whatIsSo : kN_Subject_whatIsSo ∈ TB := TB_tab (i := 591) (by decide +kernel) rfl
abbrev cN_Subject_isWord : ByteArray := prog_8_method_3_code
def yN_Subject_isWord : MethodName := ⟨RN_Subject, "isWord", "(I)Z"⟩
abbrev kN_Subject_isWord : Cond := Cond.code yN_Subject_isWord cN_Subject_isWord 1 (some .boolean)
abbrev wN_Subject_isWord : List Cond := kN_Subject_isWord :: TB
theorem gN_Subject_isWord : kN_Subject_isWord ∈ TB := TB_tab (i := 594) (by decide +kernel) rfl
abbrev cN_Mach_canTable : ByteArray := prog_1_method_16_code
def yN_Mach_canTable : MethodName := ⟨RN_Mach, "canTable", "(I)Z"⟩
abbrev kN_Mach_canTable : Cond := Cond.code yN_Mach_canTable cN_Mach_canTable 2 (some .boolean)
abbrev wN_Mach_canTable : List Cond := kN_Mach_canTable :: TB
theorem gN_Mach_canTable : kN_Mach_canTable ∈ TB := TB_tab (i := 598) (by decide +kernel) rfl
abbrev cN_Table_run : ByteArray := prog_9_method_10_code
def yN_Table_run : MethodName := ⟨RN_Table, "run", "(IZI)V"⟩
abbrev kN_Table_run : Cond := Cond.code yN_Table_run cN_Table_run 10 none
abbrev wN_Table_run : List Cond := kN_Table_run :: TB
theorem gN_Table_run : kN_Table_run ∈ TB := TB_tab (i := 602) (by decide +kernel) rfl
abbrev cN_Table_endHere : ByteArray := prog_9_method_11_code
def yN_Table_endHere : MethodName := ⟨RN_Table, "endHere", "(III)Z"⟩
abbrev kN_Table_endHere : Cond := Cond.code yN_Table_endHere cN_Table_endHere 5 (some .boolean)
abbrev wN_Table_endHere : List Cond := kN_Table_endHere :: TB
theorem gN_Table_endHere : kN_Table_endHere ∈ TB := TB_tab (i := 606) (by decide +kernel) rfl
abbrev cN_Table_allHold : ByteArray := prog_9_method_12_code
def yN_Table_allHold : MethodName := ⟨RN_Table, "allHold", "(II)Z"⟩
abbrev kN_Table_allHold : Cond := Cond.code yN_Table_allHold cN_Table_allHold 4 (some .boolean)
abbrev wN_Table_allHold : List Cond := kN_Table_allHold :: TB
theorem gN_Table_allHold : kN_Table_allHold ∈ TB := TB_tab (i := 611) (by decide +kernel) rfl
abbrev cN_Table_save : ByteArray := prog_9_method_13_code
def yN_Table_save : MethodName := ⟨RN_Table, "save", "(II[I)V"⟩
abbrev kN_Table_save : Cond := Cond.code yN_Table_save cN_Table_save 4 none
abbrev wN_Table_save : List Cond := kN_Table_save :: TB
theorem gN_Table_save : kN_Table_save ∈ TB := TB_tab (i := 616) (by decide +kernel) rfl
abbrev cN_Mach_readyThreads : ByteArray := prog_1_method_17_code
def yN_Mach_readyThreads : MethodName := ⟨RN_Mach, "readyThreads", "()LStepMachines$Threads;"⟩
abbrev kN_Mach_readyThreads : Cond := Cond.code yN_Mach_readyThreads cN_Mach_readyThreads 1 (some (.object "StepMachines$Threads"))
abbrev wN_Mach_readyThreads : List Cond := kN_Mach_readyThreads :: TB
theorem gN_Mach_readyThreads : kN_Mach_readyThreads ∈ TB := TB_tab (i := 621) (by decide +kernel) rfl
abbrev cN_Threads_init : ByteArray := prog_11_method_1_code
def yN_Threads_init : MethodName := ⟨RN_Threads, "<init>", "(LStepMachines$Program;LStepMachines$Subject;LStepMachines$Tally;[I)V"⟩
abbrev kN_Threads_init : Cond := Cond.code yN_Threads_init cN_Threads_init 5 none
abbrev wN_Threads_init : List Cond := kN_Threads_init :: TB
theorem gN_Threads_init : kN_Threads_init ∈ TB := TB_tab (i := 626) (by decide +kernel) rfl
abbrev cN_Threads_run : ByteArray := prog_11_method_2_code
def yN_Threads_run : MethodName := ⟨RN_Threads, "run", "(IZI)V"⟩
abbrev kN_Threads_run : Cond := Cond.code yN_Threads_run cN_Threads_run 5 none
abbrev wN_Threads_run : List Cond := kN_Threads_run :: TB
theorem gN_Threads_run : kN_Threads_run ∈ TB := TB_tab (i := 669) (by decide +kernel) rfl
abbrev cN_Threads_beginThread : ByteArray := prog_11_method_3_code
def yN_Threads_beginThread : MethodName := ⟨RN_Threads, "beginThread", "(I)V"⟩
abbrev kN_Threads_beginThread : Cond := Cond.code yN_Threads_beginThread cN_Threads_beginThread 2 none
abbrev wN_Threads_beginThread : List Cond := kN_Threads_beginThread :: TB
theorem gN_Threads_beginThread : kN_Threads_beginThread ∈ TB := TB_tab (i := 674) (by decide +kernel) rfl
abbrev cN_Threads_comeTo : ByteArray := prog_11_method_6_code
def yN_Threads_comeTo : MethodName := ⟨RN_Threads, "comeTo", "(IILStepMachines$Row;[I)V"⟩
abbrev kN_Threads_comeTo : Cond := Cond.code yN_Threads_comeTo cN_Threads_comeTo 7 none
abbrev wN_Threads_comeTo : List Cond := kN_Threads_comeTo :: TB
theorem gN_Threads_comeTo : kN_Threads_comeTo ∈ TB := TB_tab (i := 680) (by decide +kernel) rfl
abbrev cN_Threads_visit : ByteArray := prog_11_method_7_code
def yN_Threads_visit : MethodName := ⟨RN_Threads, "visit", "(IILStepMachines$Row;[I)V"⟩
abbrev kN_Threads_visit : Cond := Cond.code yN_Threads_visit cN_Threads_visit 6 none
abbrev wN_Threads_visit : List Cond := kN_Threads_visit :: TB
theorem gN_Threads_visit : kN_Threads_visit ∈ TB := TB_tab (i := 691) (by decide +kernel) rfl
abbrev cN_Row_add : ByteArray := prog_6_method_4_code
def yN_Row_add : MethodName := ⟨RN_Row, "add", "(I)V"⟩
abbrev kN_Row_add : Cond := Cond.code yN_Row_add cN_Row_add 2 none
abbrev wN_Row_add : List Cond := kN_Row_add :: TB
theorem gN_Row_add : kN_Row_add ∈ TB := TB_tab (i := 697) (by decide +kernel) rfl
abbrev cN_Threads_goOverByte : ByteArray := prog_11_method_4_code
def yN_Threads_goOverByte : MethodName := ⟨RN_Threads, "goOverByte", "(IZI)V"⟩
abbrev kN_Threads_goOverByte : Cond := Cond.code yN_Threads_goOverByte cN_Threads_goOverByte 7 none
abbrev wN_Threads_goOverByte : List Cond := kN_Threads_goOverByte :: TB
theorem gN_Threads_goOverByte : kN_Threads_goOverByte ∈ TB := TB_tab (i := 703) (by decide +kernel) rfl
abbrev cN_Threads_swapRows : ByteArray := prog_11_method_5_code
def yN_Threads_swapRows : MethodName := ⟨RN_Threads, "swapRows", "()V"⟩
abbrev kN_Threads_swapRows : Cond := Cond.code yN_Threads_swapRows cN_Threads_swapRows 3 none
abbrev wN_Threads_swapRows : List Cond := kN_Threads_swapRows :: TB
theorem gN_Threads_swapRows : kN_Threads_swapRows ∈ TB := TB_tab (i := 710) (by decide +kernel) rfl
abbrev cN_Mach_mostTaken : ByteArray := prog_1_method_14_code
def yN_Mach_mostTaken : MethodName := ⟨RN_Mach, "mostTaken", "()I"⟩
abbrev kN_Mach_mostTaken : Cond := Cond.code yN_Mach_mostTaken cN_Mach_mostTaken 1 (some .int)
abbrev wN_Mach_mostTaken : List Cond := kN_Mach_mostTaken :: TB
theorem gN_Mach_mostTaken : kN_Mach_mostTaken ∈ TB := TB_tab (i := 714) (by decide +kernel) rfl
abbrev cN_Tally_close : ByteArray := prog_10_method_4_code
def yN_Tally_close : MethodName := ⟨RN_Tally, "close", "(I)V"⟩
abbrev kN_Tally_close : Cond := Cond.code yN_Tally_close cN_Tally_close 2 none
abbrev wN_Tally_close : List Cond := kN_Tally_close :: TB
theorem gN_Tally_close : kN_Tally_close ∈ TB := TB_tab (i := 718) (by decide +kernel) rfl
abbrev cN_Law_ends : ByteArray := method_7_code
def yN_Law_ends : MethodName := ⟨RN_Law, "ends", "(LStepMachines;IZI[J)I"⟩
abbrev kN_Law_ends : Cond := Cond.codeWith yN_Law_ends cN_Law_ends 6 (some .int) [(0, 12, 15, 13)]
abbrev wN_Law_ends : List Cond := kN_Law_ends :: TB
theorem gN_Law_ends : kN_Law_ends ∈ TB := TB_tab (i := 721) (by decide +kernel) rfl
abbrev cN_Mach_ends : ByteArray := prog_1_method_9_code
def yN_Mach_ends : MethodName := ⟨RN_Mach, "ends", "(IZI)I"⟩
abbrev kN_Mach_ends : Cond := Cond.code yN_Mach_ends cN_Mach_ends 5 (some .int)
abbrev wN_Mach_ends : List Cond := kN_Mach_ends :: TB
theorem gN_Mach_ends : kN_Mach_ends ∈ TB := TB_tab (i := 725) (by decide +kernel) rfl
abbrev cN_States_init : ByteArray := prog_7_method_1_code
def yN_States_init : MethodName := ⟨RN_States, "<init>", "(LStepMachines$Program;LStepMachines$Subject;LStepMachines$Tally;I)V"⟩
abbrev kN_States_init : Cond := Cond.code yN_States_init cN_States_init 5 none
abbrev wN_States_init : List Cond := kN_States_init :: TB
theorem gN_States_init : kN_States_init ∈ TB := TB_tab (i := 731) (by decide +kernel) rfl
abbrev cN_Kept_init : ByteArray := prog_3_method_1_code
def yN_Kept_init : MethodName := ⟨RN_Kept, "<init>", "(I)V"⟩
abbrev kN_Kept_init : Cond := Cond.code yN_Kept_init cN_Kept_init 2 none
abbrev wN_Kept_init : List Cond := kN_Kept_init :: TB
theorem gN_Kept_init : kN_Kept_init ∈ TB := TB_tab (i := 741) (by decide +kernel) rfl
abbrev cN_Kept_makeRoom : ByteArray := prog_3_method_3_code
def yN_Kept_makeRoom : MethodName := ⟨RN_Kept, "makeRoom", "(I)V"⟩
abbrev kN_Kept_makeRoom : Cond := Cond.code yN_Kept_makeRoom cN_Kept_makeRoom 3 none
abbrev wN_Kept_makeRoom : List Cond := kN_Kept_makeRoom :: TB
theorem gN_Kept_makeRoom : kN_Kept_makeRoom ∈ TB := TB_tab (i := 746) (by decide +kernel) rfl
abbrev cN_States_run : ByteArray := prog_7_method_4_code
def yN_States_run : MethodName := ⟨RN_States, "run", "(IZI)I"⟩
abbrev kN_States_run : Cond := Cond.code yN_States_run cN_States_run 9 (some .int)
abbrev wN_States_run : List Cond := kN_States_run :: TB
theorem gN_States_run : kN_States_run ∈ TB := TB_tab (i := 798) (by decide +kernel) rfl
abbrev cN_States_goalOf : ByteArray := prog_7_method_5_code
def yN_States_goalOf : MethodName := ⟨RN_States, "goalOf", "(IZ)I"⟩
abbrev kN_States_goalOf : Cond := Cond.code yN_States_goalOf cN_States_goalOf 2 (some .int)
abbrev wN_States_goalOf : List Cond := kN_States_goalOf :: TB
theorem gN_States_goalOf : kN_States_goalOf ∈ TB := TB_tab (i := 801) (by decide +kernel) rfl
abbrev cN_States_firstState : ByteArray := prog_7_method_7_code
def yN_States_firstState : MethodName := ⟨RN_States, "firstState", "(II)I"⟩
abbrev kN_States_firstState : Cond := Cond.code yN_States_firstState cN_States_firstState 3 (some .int)
abbrev wN_States_firstState : List Cond := kN_States_firstState :: TB
theorem gN_States_firstState : kN_States_firstState ∈ TB := TB_tab (i := 806) (by decide +kernel) rfl
abbrev cN_States_labelOf : ByteArray := prog_7_method_6_code
def yN_States_labelOf : MethodName := ⟨RN_States, "labelOf", "(II)I"⟩
abbrev kN_States_labelOf : Cond := Cond.code yN_States_labelOf cN_States_labelOf 3 (some .int)
abbrev wN_States_labelOf : List Cond := kN_States_labelOf :: TB
theorem gN_States_labelOf : kN_States_labelOf ∈ TB := TB_tab (i := 811) (by decide +kernel) rfl
abbrev cN_Kept_numberOf : ByteArray := prog_3_method_11_code
def yN_Kept_numberOf : MethodName := ⟨RN_Kept, "numberOf", "(LStepMachines$Row;I)I"⟩
abbrev kN_Kept_numberOf : Cond := Cond.code yN_Kept_numberOf cN_Kept_numberOf 5 (some .int)
abbrev wN_Kept_numberOf : List Cond := kN_Kept_numberOf :: TB
theorem gN_Kept_numberOf : kN_Kept_numberOf ∈ TB := TB_tab (i := 818) (by decide +kernel) rfl
abbrev cN_Kept_sumOf : ByteArray := prog_3_method_12_code
def yN_Kept_sumOf : MethodName := ⟨RN_Kept, "sumOf", "(LStepMachines$Row;I)I"⟩
abbrev kN_Kept_sumOf : Cond := Cond.code yN_Kept_sumOf cN_Kept_sumOf 4 (some .int)
abbrev wN_Kept_sumOf : List Cond := kN_Kept_sumOf :: TB
theorem gN_Kept_sumOf : kN_Kept_sumOf ∈ TB := TB_tab (i := 821) (by decide +kernel) rfl
abbrev cN_Kept_isSame : ByteArray := prog_3_method_13_code
def yN_Kept_isSame : MethodName := ⟨RN_Kept, "isSame", "(ILStepMachines$Row;I)Z"⟩
abbrev kN_Kept_isSame : Cond := Cond.code yN_Kept_isSame cN_Kept_isSame 5 (some .boolean)
abbrev wN_Kept_isSame : List Cond := kN_Kept_isSame :: TB
theorem gN_Kept_isSame : kN_Kept_isSame ∈ TB := TB_tab (i := 825) (by decide +kernel) rfl
abbrev cN_Kept_stepOf : ByteArray := prog_3_method_8_code
def yN_Kept_stepOf : MethodName := ⟨RN_Kept, "stepOf", "(II)I"⟩
abbrev kN_Kept_stepOf : Cond := Cond.code yN_Kept_stepOf cN_Kept_stepOf 3 (some .int)
abbrev wN_Kept_stepOf : List Cond := kN_Kept_stepOf :: TB
theorem gN_Kept_stepOf : kN_Kept_stepOf ∈ TB := TB_tab (i := 829) (by decide +kernel) rfl
abbrev cN_Kept_add : ByteArray := prog_3_method_14_code
def yN_Kept_add : MethodName := ⟨RN_Kept, "add", "(LStepMachines$Row;II)V"⟩
abbrev kN_Kept_add : Cond := Cond.code yN_Kept_add cN_Kept_add 5 none
abbrev wN_Kept_add : List Cond := kN_Kept_add :: TB
theorem gN_Kept_add : kN_Kept_add ∈ TB := TB_tab (i := 834) (by decide +kernel) rfl
abbrev cN_Kept_know : ByteArray := prog_3_method_10_code
def yN_Kept_know : MethodName := ⟨RN_Kept, "know", "(III)V"⟩
abbrev kN_Kept_know : Cond := Cond.code yN_Kept_know cN_Kept_know 4 none
abbrev wN_Kept_know : List Cond := kN_Kept_know :: TB
theorem gN_Kept_know : kN_Kept_know ∈ TB := TB_tab (i := 839) (by decide +kernel) rfl
abbrev cN_States_moveFrom : ByteArray := prog_7_method_8_code
def yN_States_moveFrom : MethodName := ⟨RN_States, "moveFrom", "(II)I"⟩
abbrev kN_States_moveFrom : Cond := Cond.code yN_States_moveFrom cN_States_moveFrom 10 (some .int)
abbrev wN_States_moveFrom : List Cond := kN_States_moveFrom :: TB
theorem gN_States_moveFrom : kN_States_moveFrom ∈ TB := TB_tab (i := 843) (by decide +kernel) rfl
abbrev cN_Kept_moveOf : ByteArray := prog_3_method_9_code
def yN_Kept_moveOf : MethodName := ⟨RN_Kept, "moveOf", "(II)I"⟩
abbrev kN_Kept_moveOf : Cond := Cond.code yN_Kept_moveOf cN_Kept_moveOf 3 (some .int)
abbrev wN_Kept_moveOf : List Cond := kN_Kept_moveOf :: TB
theorem gN_Kept_moveOf : kN_Kept_moveOf ∈ TB := TB_tab (i := 848) (by decide +kernel) rfl
abbrev cN_Kept_labelOf : ByteArray := prog_3_method_6_code
def yN_Kept_labelOf : MethodName := ⟨RN_Kept, "labelOf", "(I)I"⟩
abbrev kN_Kept_labelOf : Cond := Cond.code yN_Kept_labelOf cN_Kept_labelOf 2 (some .int)
abbrev wN_Kept_labelOf : List Cond := kN_Kept_labelOf :: TB
theorem gN_Kept_labelOf : kN_Kept_labelOf ∈ TB := TB_tab (i := 852) (by decide +kernel) rfl
abbrev cN_States_goOver : ByteArray := prog_7_method_9_code
def yN_States_goOver : MethodName := ⟨RN_States, "goOver", "(III)Z"⟩
abbrev kN_States_goOver : Cond := Cond.code yN_States_goOver cN_States_goOver 8 (some .boolean)
abbrev wN_States_goOver : List Cond := kN_States_goOver :: TB
theorem gN_States_goOver : kN_States_goOver ∈ TB := TB_tab (i := 856) (by decide +kernel) rfl
abbrev cN_Kept_countOf : ByteArray := prog_3_method_7_code
def yN_Kept_countOf : MethodName := ⟨RN_Kept, "countOf", "(I)I"⟩
abbrev kN_Kept_countOf : Cond := Cond.code yN_Kept_countOf cN_Kept_countOf 2 (some .int)
abbrev wN_Kept_countOf : List Cond := kN_Kept_countOf :: TB
theorem gN_Kept_countOf : kN_Kept_countOf ∈ TB := TB_tab (i := 861) (by decide +kernel) rfl
abbrev cN_States_follow : ByteArray := prog_7_method_10_code
def yN_States_follow : MethodName := ⟨RN_States, "follow", "(III)Z"⟩
abbrev kN_States_follow : Cond := Cond.code yN_States_follow cN_States_follow 7 (some .boolean)
abbrev wN_States_follow : List Cond := kN_States_follow :: TB
theorem gN_States_follow : kN_States_follow ∈ TB := TB_tab (i := 866) (by decide +kernel) rfl
abbrev cN_States_visit : ByteArray := prog_7_method_11_code
def yN_States_visit : MethodName := ⟨RN_States, "visit", "(II)V"⟩
abbrev kN_States_visit : Cond := Cond.code yN_States_visit cN_States_visit 3 none
abbrev wN_States_visit : List Cond := kN_States_visit :: TB
theorem gN_States_visit : kN_States_visit ∈ TB := TB_tab (i := 876) (by decide +kernel) rfl
abbrev cN_Kept_count : ByteArray := prog_3_method_5_code
def yN_Kept_count : MethodName := ⟨RN_Kept, "count", "()I"⟩
abbrev kN_Kept_count : Cond := Cond.code yN_Kept_count cN_Kept_count 1 (some .int)
abbrev wN_Kept_count : List Cond := kN_Kept_count :: TB
theorem gN_Kept_count : kN_Kept_count ∈ TB := TB_tab (i := 881) (by decide +kernel) rfl
abbrev cN_Law_keep : ByteArray := method_8_code
def yN_Law_keep : MethodName := ⟨RN_Law, "keep", "(LStepMachines;I)I"⟩
abbrev kN_Law_keep : Cond := Cond.codeWith yN_Law_keep cN_Law_keep 3 (some .int) [(0, 5, 8, 13)]
abbrev wN_Law_keep : List Cond := kN_Law_keep :: TB
theorem gN_Law_keep : kN_Law_keep ∈ TB := TB_tab (i := 885) (by decide +kernel) rfl
abbrev cN_Mach_keep : ByteArray := prog_1_method_10_code
def yN_Mach_keep : MethodName := ⟨RN_Mach, "keep", "(I)V"⟩
abbrev kN_Mach_keep : Cond := Cond.code yN_Mach_keep cN_Mach_keep 2 none
abbrev wN_Mach_keep : List Cond := kN_Mach_keep :: TB
theorem gN_Mach_keep : kN_Mach_keep ∈ TB := TB_tab (i := 889) (by decide +kernel) rfl
abbrev cN_States_allow : ByteArray := prog_7_method_2_code
def yN_States_allow : MethodName := ⟨RN_States, "allow", "(I)V"⟩
abbrev kN_States_allow : Cond := Cond.code yN_States_allow cN_States_allow 2 none
abbrev wN_States_allow : List Cond := kN_States_allow :: TB
theorem gN_States_allow : kN_States_allow ∈ TB := TB_tab (i := 894) (by decide +kernel) rfl
abbrev cN_Kept_allow : ByteArray := prog_3_method_2_code
def yN_Kept_allow : MethodName := ⟨RN_Kept, "allow", "(I)V"⟩
abbrev kN_Kept_allow : Cond := Cond.code yN_Kept_allow cN_Kept_allow 2 none
abbrev wN_Kept_allow : List Cond := kN_Kept_allow :: TB
theorem gN_Kept_allow : kN_Kept_allow ∈ TB := TB_tab (i := 898) (by decide +kernel) rfl
abbrev cN_Mod_init : ByteArray := prog_13_method_1_code
def yN_Mod_init : MethodName := ⟨RN_Mod, "<init>", "()V"⟩
abbrev kN_Mod_init : Cond := Cond.code yN_Mod_init cN_Mod_init 2 none
abbrev wN_Mod_init : List Cond := kN_Mod_init :: TB
theorem gN_Mod_init : kN_Mod_init ∈ TB := TB_tab (i := 903) (by decide +kernel) rfl
abbrev cN_Mod_thrown : ByteArray := prog_13_method_2_code
def yN_Mod_thrown : MethodName := ⟨RN_Mod, "thrown", "()I"⟩
abbrev kN_Mod_thrown : Cond := Cond.code yN_Mod_thrown cN_Mod_thrown 1 (some .int)
abbrev wN_Mod_thrown : List Cond := kN_Mod_thrown :: TB
theorem gN_Mod_thrown : kN_Mod_thrown ∈ TB := TB_tab (i := 986) (by decide +kernel) rfl
abbrev cN_Mod_lay : ByteArray := prog_13_method_4_code
def yN_Mod_lay : MethodName := ⟨RN_Mod, "lay", "(I)V"⟩
abbrev kN_Mod_lay : Cond := Cond.code yN_Mod_lay cN_Mod_lay 3 none
abbrev wN_Mod_lay : List Cond := kN_Mod_lay :: TB
theorem gN_Mod_lay : kN_Mod_lay ∈ TB := TB_tab (i := 990) (by decide +kernel) rfl
abbrev cN_Mod_step : ByteArray := prog_13_method_5_code
def yN_Mod_step : MethodName := ⟨RN_Mod, "step", "(IIIII)V"⟩
abbrev kN_Mod_step : Cond := Cond.code yN_Mod_step cN_Mod_step 7 none
abbrev wN_Mod_step : List Cond := kN_Mod_step :: TB
theorem gN_Mod_step : kN_Mod_step ∈ TB := TB_tab (i := 994) (by decide +kernel) rfl
abbrev cN_Mod_isStep : ByteArray := prog_13_method_3_code
def yN_Mod_isStep : MethodName := ⟨RN_Mod, "isStep", "(I)Z"⟩
abbrev kN_Mod_isStep : Cond := Cond.code yN_Mod_isStep cN_Mod_isStep 2 (some .boolean)
abbrev wN_Mod_isStep : List Cond := kN_Mod_isStep :: TB
theorem gN_Mod_isStep : kN_Mod_isStep ∈ TB := TB_tab (i := 998) (by decide +kernel) rfl
abbrev cN_Mod_begin : ByteArray := prog_13_method_6_code
def yN_Mod_begin : MethodName := ⟨RN_Mod, "begin", "(I)V"⟩
abbrev kN_Mod_begin : Cond := Cond.code yN_Mod_begin cN_Mod_begin 2 none
abbrev wN_Mod_begin : List Cond := kN_Mod_begin :: TB
theorem gN_Mod_begin : kN_Mod_begin ∈ TB := TB_tab (i := 1003) (by decide +kernel) rfl
abbrev cN_Mod_put : ByteArray := prog_13_method_7_code
def yN_Mod_put : MethodName := ⟨RN_Mod, "put", "(JI)Z"⟩
abbrev kN_Mod_put : Cond := Cond.code yN_Mod_put cN_Mod_put 5 (some .boolean)
abbrev wN_Mod_put : List Cond := kN_Mod_put :: TB
theorem gN_Mod_put : kN_Mod_put ∈ TB := TB_tab (i := 1007) (by decide +kernel) rfl
abbrev cN_Mod_clear : ByteArray := prog_13_method_8_code
def yN_Mod_clear : MethodName := ⟨RN_Mod, "clear", "()V"⟩
abbrev kN_Mod_clear : Cond := Cond.code yN_Mod_clear cN_Mod_clear 1 none
abbrev wN_Mod_clear : List Cond := kN_Mod_clear :: TB
theorem gN_Mod_clear : kN_Mod_clear ∈ TB := TB_tab (i := 1012) (by decide +kernel) rfl
abbrev cN_Mod_match : ByteArray := prog_13_method_20_code
def yN_Mod_match : MethodName := ⟨RN_Mod, "match", "(IZII)I"⟩
abbrev kN_Mod_match : Cond := Cond.code yN_Mod_match cN_Mod_match 7 (some .int)
abbrev wN_Mod_match : List Cond := kN_Mod_match :: TB
theorem gN_Mod_match : kN_Mod_match ∈ TB := TB_tab (i := 1016) (by decide +kernel) rfl
abbrev cN_Mod_isGood : ByteArray := prog_13_method_19_code
def yN_Mod_isGood : MethodName := ⟨RN_Mod, "isGood", "(II)Z"⟩
abbrev kN_Mod_isGood : Cond := Cond.code yN_Mod_isGood cN_Mod_isGood 3 (some .boolean)
abbrev wN_Mod_isGood : List Cond := kN_Mod_isGood :: TB
theorem gN_Mod_isGood : kN_Mod_isGood ∈ TB := TB_tab (i := 1020) (by decide +kernel) rfl
abbrev cN_Mod_find : ByteArray := prog_13_method_18_code
def yN_Mod_find : MethodName := ⟨RN_Mod, "find", "(IZI)I"⟩
abbrev kN_Mod_find : Cond := Cond.code yN_Mod_find cN_Mod_find 7 (some .int)
abbrev wN_Mod_find : List Cond := kN_Mod_find :: TB
theorem gN_Mod_find : kN_Mod_find ∈ TB := TB_tab (i := 1024) (by decide +kernel) rfl
abbrev cN_Mod_note : ByteArray := prog_13_method_13_code
def yN_Mod_note : MethodName := ⟨RN_Mod, "note", "(IIZ)V"⟩
abbrev kN_Mod_note : Cond := Cond.code yN_Mod_note cN_Mod_note 8 none
abbrev wN_Mod_note : List Cond := kN_Mod_note :: TB
theorem gN_Mod_note : kN_Mod_note ∈ TB := TB_tab (i := 1028) (by decide +kernel) rfl
abbrev cN_Mod_takes : ByteArray := prog_13_method_11_code
def yN_Mod_takes : MethodName := ⟨RN_Mod, "takes", "(II)Z"⟩
abbrev kN_Mod_takes : Cond := Cond.code yN_Mod_takes cN_Mod_takes 3 (some .boolean)
abbrev wN_Mod_takes : List Cond := kN_Mod_takes :: TB
theorem gN_Mod_takes : kN_Mod_takes ∈ TB := TB_tab (i := 1032) (by decide +kernel) rfl
abbrev cN_Mod_passes : ByteArray := prog_13_method_12_code
def yN_Mod_passes : MethodName := ⟨RN_Mod, "passes", "(II)Z"⟩
abbrev kN_Mod_passes : Cond := Cond.code yN_Mod_passes cN_Mod_passes 3 (some .boolean)
abbrev wN_Mod_passes : List Cond := kN_Mod_passes :: TB
theorem gN_Mod_passes : kN_Mod_passes ∈ TB := TB_tab (i := 1036) (by decide +kernel) rfl
abbrev cN_Mod_isSo : ByteArray := prog_13_method_10_code
def yN_Mod_isSo : MethodName := ⟨RN_Mod, "isSo", "(II)Z"⟩
abbrev kN_Mod_isSo : Cond := Cond.code yN_Mod_isSo cN_Mod_isSo 3 (some .boolean)
abbrev wN_Mod_isSo : List Cond := kN_Mod_isSo :: TB
theorem gN_Mod_isSo : kN_Mod_isSo ∈ TB := TB_tab (i := 1040) (by decide +kernel) rfl
abbrev cN_Mod_wordAt : ByteArray := prog_13_method_9_code
def yN_Mod_wordAt : MethodName := ⟨RN_Mod, "wordAt", "(I)Z"⟩
abbrev kN_Mod_wordAt : Cond := Cond.code yN_Mod_wordAt cN_Mod_wordAt 3 (some .boolean)
abbrev wN_Mod_wordAt : List Cond := kN_Mod_wordAt :: TB
theorem gN_Mod_wordAt : kN_Mod_wordAt ∈ TB := TB_tab (i := 1044) (by decide +kernel) rfl
abbrev cN_Mod_lastEnd : ByteArray := prog_13_method_14_code
def yN_Mod_lastEnd : MethodName := ⟨RN_Mod, "lastEnd", "(I)I"⟩
abbrev kN_Mod_lastEnd : Cond := Cond.code yN_Mod_lastEnd cN_Mod_lastEnd 7 (some .int)
abbrev wN_Mod_lastEnd : List Cond := kN_Mod_lastEnd :: TB
theorem gN_Mod_lastEnd : kN_Mod_lastEnd ∈ TB := TB_tab (i := 1048) (by decide +kernel) rfl
abbrev cN_Mod_walk : ByteArray := prog_13_method_17_code
def yN_Mod_walk : MethodName := ⟨RN_Mod, "walk", "(II)I"⟩
abbrev kN_Mod_walk : Cond := Cond.code yN_Mod_walk cN_Mod_walk 7 (some .int)
abbrev wN_Mod_walk : List Cond := kN_Mod_walk :: TB
theorem gN_Mod_walk : kN_Mod_walk ∈ TB := TB_tab (i := 1052) (by decide +kernel) rfl
abbrev cN_Mod_heap : ByteArray := prog_13_method_15_code
def yN_Mod_heap : MethodName := ⟨RN_Mod, "heap", "(I)V"⟩
abbrev kN_Mod_heap : Cond := Cond.code yN_Mod_heap cN_Mod_heap 2 none
abbrev wN_Mod_heap : List Cond := kN_Mod_heap :: TB
theorem gN_Mod_heap : kN_Mod_heap ∈ TB := TB_tab (i := 1056) (by decide +kernel) rfl
abbrev cN_Mod_undo : ByteArray := prog_13_method_16_code
def yN_Mod_undo : MethodName := ⟨RN_Mod, "undo", "(I)V"⟩
abbrev kN_Mod_undo : Cond := Cond.code yN_Mod_undo cN_Mod_undo 2 none
abbrev wN_Mod_undo : List Cond := kN_Mod_undo :: TB
theorem gN_Mod_undo : kN_Mod_undo ∈ TB := TB_tab (i := 1060) (by decide +kernel) rfl
abbrev cN_Mod_saved : ByteArray := prog_13_method_21_code
def yN_Mod_saved : MethodName := ⟨RN_Mod, "saved", "(I)I"⟩
abbrev kN_Mod_saved : Cond := Cond.code yN_Mod_saved cN_Mod_saved 2 (some .int)
abbrev wN_Mod_saved : List Cond := kN_Mod_saved :: TB
theorem gN_Mod_saved : kN_Mod_saved ∈ TB := TB_tab (i := 1064) (by decide +kernel) rfl
abbrev cN_Mod_ends : ByteArray := prog_13_method_22_code
def yN_Mod_ends : MethodName := ⟨RN_Mod, "ends", "(IZI)I"⟩
abbrev kN_Mod_ends : Cond := Cond.code yN_Mod_ends cN_Mod_ends 4 (some .int)
abbrev wN_Mod_ends : List Cond := kN_Mod_ends :: TB
theorem gN_Mod_ends : kN_Mod_ends ∈ TB := TB_tab (i := 1068) (by decide +kernel) rfl
abbrev cN_Mod_keep : ByteArray := prog_13_method_23_code
def yN_Mod_keep : MethodName := ⟨RN_Mod, "keep", "(I)V"⟩
abbrev kN_Mod_keep : Cond := Cond.code yN_Mod_keep cN_Mod_keep 2 none
abbrev wN_Mod_keep : List Cond := kN_Mod_keep :: TB
theorem gN_Mod_keep : kN_Mod_keep ∈ TB := TB_tab (i := 1072) (by decide +kernel) rfl
abbrev cN_Mod_isOneWay : ByteArray := prog_13_method_30_code
def yN_Mod_isOneWay : MethodName := ⟨RN_Mod, "isOneWay", "()Z"⟩
abbrev kN_Mod_isOneWay : Cond := Cond.code yN_Mod_isOneWay cN_Mod_isOneWay 5 (some .boolean)
abbrev wN_Mod_isOneWay : List Cond := kN_Mod_isOneWay :: TB
theorem gN_Mod_isOneWay : kN_Mod_isOneWay ∈ TB := TB_tab (i := 1076) (by decide +kernel) rfl
abbrev cN_Mod_start : ByteArray := prog_13_method_24_code
def yN_Mod_start : MethodName := ⟨RN_Mod, "start", "(I)V"⟩
abbrev kN_Mod_start : Cond := Cond.code yN_Mod_start cN_Mod_start 3 none
abbrev wN_Mod_start : List Cond := kN_Mod_start :: TB
theorem gN_Mod_start : kN_Mod_start ∈ TB := TB_tab (i := 1080) (by decide +kernel) rfl
abbrev cN_Mod_spreads : ByteArray := prog_13_method_25_code
def yN_Mod_spreads : MethodName := ⟨RN_Mod, "spreads", "(I)Z"⟩
abbrev kN_Mod_spreads : Cond := Cond.code yN_Mod_spreads cN_Mod_spreads 7 (some .boolean)
abbrev wN_Mod_spreads : List Cond := kN_Mod_spreads :: TB
theorem gN_Mod_spreads : kN_Mod_spreads ∈ TB := TB_tab (i := 1084) (by decide +kernel) rfl
abbrev cN_Mod_isWaiting : ByteArray := prog_13_method_26_code
def yN_Mod_isWaiting : MethodName := ⟨RN_Mod, "isWaiting", "(I)Z"⟩
abbrev kN_Mod_isWaiting : Cond := Cond.code yN_Mod_isWaiting cN_Mod_isWaiting 4 (some .boolean)
abbrev wN_Mod_isWaiting : List Cond := kN_Mod_isWaiting :: TB
theorem gN_Mod_isWaiting : kN_Mod_isWaiting ∈ TB := TB_tab (i := 1088) (by decide +kernel) rfl
abbrev cN_Mod_hold : ByteArray := prog_13_method_27_code
def yN_Mod_hold : MethodName := ⟨RN_Mod, "hold", "(III)V"⟩
abbrev kN_Mod_hold : Cond := Cond.code yN_Mod_hold cN_Mod_hold 4 none
abbrev wN_Mod_hold : List Cond := kN_Mod_hold :: TB
theorem gN_Mod_hold : kN_Mod_hold ∈ TB := TB_tab (i := 1092) (by decide +kernel) rfl
abbrev cN_Mod_meet : ByteArray := prog_13_method_28_code
def yN_Mod_meet : MethodName := ⟨RN_Mod, "meet", "(II)Z"⟩
abbrev kN_Mod_meet : Cond := Cond.code yN_Mod_meet cN_Mod_meet 2 (some .boolean)
abbrev wN_Mod_meet : List Cond := kN_Mod_meet :: TB
theorem gN_Mod_meet : kN_Mod_meet ∈ TB := TB_tab (i := 1095) (by decide +kernel) rfl
abbrev cN_Mod_areAlike : ByteArray := prog_13_method_29_code
def yN_Mod_areAlike : MethodName := ⟨RN_Mod, "areAlike", "(II)Z"⟩
abbrev kN_Mod_areAlike : Cond := Cond.code yN_Mod_areAlike cN_Mod_areAlike 4 (some .boolean)
abbrev wN_Mod_areAlike : List Cond := kN_Mod_areAlike :: TB
theorem gN_Mod_areAlike : kN_Mod_areAlike ∈ TB := TB_tab (i := 1099) (by decide +kernel) rfl
abbrev cN_Mod_over : ByteArray := prog_13_method_31_code
def yN_Mod_over : MethodName := ⟨RN_Mod, "over", "()I"⟩
abbrev kN_Mod_over : Cond := Cond.code yN_Mod_over cN_Mod_over 1 (some .int)
abbrev wN_Mod_over : List Cond := kN_Mod_over :: TB
theorem gN_Mod_over : kN_Mod_over ∈ TB := TB_tab (i := 1103) (by decide +kernel) rfl
theorem fN_Jobs : ∀ w ∈ u_ws RN_Jobs FN_Jobs 2, w ∈ TB := by
  intro w hw
  have h2 : w ∈ [203, 205].filterMap (fun i => tables_1[i]?) := by
    have h3 : u_ws RN_Jobs FN_Jobs 2 = [203, 205].filterMap (fun i => tables_1[i]?) := by decide +kernel
    rw [← h3]; exact hw
  obtain ⟨i, hi, h4⟩ := List.mem_filterMap.mp h2
  refine TB_tab h4 ?_
  have h5 : (u_ws RN_Jobs FN_Jobs 2).all goodWord = true := by decide +kernel
  exact List.all_eq_true.mp h5 w hw
theorem fN_Kept : ∀ w ∈ u_ws RN_Kept FN_Kept 7, w ∈ TB := by
  intro w hw
  have h2 : w ∈ [755, 757, 759, 761, 763, 765, 767].filterMap (fun i => tables_1[i]?) := by
    have h3 : u_ws RN_Kept FN_Kept 7 = [755, 757, 759, 761, 763, 765, 767].filterMap (fun i => tables_1[i]?) := by decide +kernel
    rw [← h3]; exact hw
  obtain ⟨i, hi, h4⟩ := List.mem_filterMap.mp h2
  refine TB_tab h4 ?_
  have h5 : (u_ws RN_Kept FN_Kept 7).all goodWord = true := by decide +kernel
  exact List.all_eq_true.mp h5 w hw
theorem fN_Marks : ∀ w ∈ u_ws RN_Marks FN_Marks 7, w ∈ TB := by
  intro w hw
  have h2 : w ∈ [500, 502, 504, 506, 508, 510, 512].filterMap (fun i => tables_1[i]?) := by
    have h3 : u_ws RN_Marks FN_Marks 7 = [500, 502, 504, 506, 508, 510, 512].filterMap (fun i => tables_1[i]?) := by decide +kernel
    rw [← h3]; exact hw
  obtain ⟨i, hi, h4⟩ := List.mem_filterMap.mp h2
  refine TB_tab h4 ?_
  have h5 : (u_ws RN_Marks FN_Marks 7).all goodWord = true := by decide +kernel
  exact List.all_eq_true.mp h5 w hw
theorem fN_Program : ∀ w ∈ u_ws RN_Program FN_Program 6, w ∈ TB := by
  intro w hw
  have h2 : w ∈ [64, 66, 68, 70, 72, 74].filterMap (fun i => tables_1[i]?) := by
    have h3 : u_ws RN_Program FN_Program 6 = [64, 66, 68, 70, 72, 74].filterMap (fun i => tables_1[i]?) := by decide +kernel
    rw [← h3]; exact hw
  obtain ⟨i, hi, h4⟩ := List.mem_filterMap.mp h2
  refine TB_tab h4 ?_
  have h5 : (u_ws RN_Program FN_Program 6).all goodWord = true := by decide +kernel
  exact List.all_eq_true.mp h5 w hw
theorem fN_Row : ∀ w ∈ u_ws RN_Row FN_Row 4, w ∈ TB := by
  intro w hw
  have h2 : w ∈ [186, 188, 190, 192].filterMap (fun i => tables_1[i]?) := by
    have h3 : u_ws RN_Row FN_Row 4 = [186, 188, 190, 192].filterMap (fun i => tables_1[i]?) := by decide +kernel
    rw [← h3]; exact hw
  obtain ⟨i, hi, h4⟩ := List.mem_filterMap.mp h2
  refine TB_tab h4 ?_
  have h5 : (u_ws RN_Row FN_Row 4).all goodWord = true := by decide +kernel
  exact List.all_eq_true.mp h5 w hw
theorem fN_States : ∀ w ∈ u_ws RN_States FN_States 8, w ∈ TB := by
  intro w hw
  have h2 : w ∈ [778, 780, 782, 784, 786, 788, 790, 792].filterMap (fun i => tables_1[i]?) := by
    have h3 : u_ws RN_States FN_States 8 = [778, 780, 782, 784, 786, 788, 790, 792].filterMap (fun i => tables_1[i]?) := by decide +kernel
    rw [← h3]; exact hw
  obtain ⟨i, hi, h4⟩ := List.mem_filterMap.mp h2
  refine TB_tab h4 ?_
  have h5 : (u_ws RN_States FN_States 8).all goodWord = true := by decide +kernel
  exact List.all_eq_true.mp h5 w hw
theorem fN_Subject : ∀ w ∈ u_ws RN_Subject FN_Subject 2, w ∈ TB := by
  intro w hw
  have h2 : w ∈ [91, 93].filterMap (fun i => tables_1[i]?) := by
    have h3 : u_ws RN_Subject FN_Subject 2 = [91, 93].filterMap (fun i => tables_1[i]?) := by decide +kernel
    rw [← h3]; exact hw
  obtain ⟨i, hi, h4⟩ := List.mem_filterMap.mp h2
  refine TB_tab h4 ?_
  have h5 : (u_ws RN_Subject FN_Subject 2).all goodWord = true := by decide +kernel
  exact List.all_eq_true.mp h5 w hw
theorem fN_Table : ∀ w ∈ u_ws RN_Table FN_Table 15, w ∈ TB := by
  intro w hw
  have h2 : w ∈ [223, 225, 227, 229, 231, 233, 235, 237, 239, 241, 243, 245, 247, 249, 251].filterMap (fun i => tables_1[i]?) := by
    have h3 : u_ws RN_Table FN_Table 15 = [223, 225, 227, 229, 231, 233, 235, 237, 239, 241, 243, 245, 247, 249, 251].filterMap (fun i => tables_1[i]?) := by decide +kernel
    rw [← h3]; exact hw
  obtain ⟨i, hi, h4⟩ := List.mem_filterMap.mp h2
  refine TB_tab h4 ?_
  have h5 : (u_ws RN_Table FN_Table 15).all goodWord = true := by decide +kernel
  exact List.all_eq_true.mp h5 w hw
theorem fN_Tally : ∀ w ∈ u_ws RN_Tally FN_Tally 2, w ∈ TB := by
  intro w hw
  have h2 : w ∈ [105, 107].filterMap (fun i => tables_1[i]?) := by
    have h3 : u_ws RN_Tally FN_Tally 2 = [105, 107].filterMap (fun i => tables_1[i]?) := by decide +kernel
    rw [← h3]; exact hw
  obtain ⟨i, hi, h4⟩ := List.mem_filterMap.mp h2
  refine TB_tab h4 ?_
  have h5 : (u_ws RN_Tally FN_Tally 2).all goodWord = true := by decide +kernel
  exact List.all_eq_true.mp h5 w hw
theorem fN_Threads : ∀ w ∈ u_ws RN_Threads FN_Threads 11, w ∈ TB := by
  intro w hw
  have h2 : w ∈ [643, 645, 647, 649, 651, 653, 655, 657, 659, 661, 663].filterMap (fun i => tables_1[i]?) := by
    have h3 : u_ws RN_Threads FN_Threads 11 = [643, 645, 647, 649, 651, 653, 655, 657, 659, 661, 663].filterMap (fun i => tables_1[i]?) := by decide +kernel
    rw [← h3]; exact hw
  obtain ⟨i, hi, h4⟩ := List.mem_filterMap.mp h2
  refine TB_tab h4 ?_
  have h5 : (u_ws RN_Threads FN_Threads 11).all goodWord = true := by decide +kernel
  exact List.all_eq_true.mp h5 w hw
theorem fN_Mach : ∀ w ∈ u_ws RN_Mach FN_Mach 9, w ∈ TB := by
  intro w hw
  have h2 : w ∈ [122, 124, 126, 128, 130, 132, 134, 136, 138].filterMap (fun i => tables_1[i]?) := by
    have h3 : u_ws RN_Mach FN_Mach 9 = [122, 124, 126, 128, 130, 132, 134, 136, 138].filterMap (fun i => tables_1[i]?) := by decide +kernel
    rw [← h3]; exact hw
  obtain ⟨i, hi, h4⟩ := List.mem_filterMap.mp h2
  refine TB_tab h4 ?_
  have h5 : (u_ws RN_Mach FN_Mach 9).all goodWord = true := by decide +kernel
  exact List.all_eq_true.mp h5 w hw
theorem fN_Mod : ∀ w ∈ u_ws RN_Mod FN_Mod 25, w ∈ TB := by
  intro w hw
  have h2 : w ∈ [931, 933, 935, 937, 939, 941, 943, 945, 947, 949, 951, 953, 955, 957, 959, 961, 963, 965, 967, 969, 971, 973, 975, 977, 979].filterMap (fun i => tables_1[i]?) := by
    have h3 : u_ws RN_Mod FN_Mod 25 = [931, 933, 935, 937, 939, 941, 943, 945, 947, 949, 951, 953, 955, 957, 959, 961, 963, 965, 967, 969, 971, 973, 975, 977, 979].filterMap (fun i => tables_1[i]?) := by decide +kernel
    rw [← h3]; exact hw
  obtain ⟨i, hi, h4⟩ := List.mem_filterMap.mp h2
  refine TB_tab h4 ?_
  have h5 : (u_ws RN_Mod FN_Mod 25).all goodWord = true := by decide +kernel
  exact List.all_eq_true.mp h5 w hw
end
section
theorem mw_0 : Cond.initialized "StepMachinesLaw" ∈ TB := TB_tab (i := 0) (by decide +kernel) rfl
theorem mw_1 : Cond.initialized "StepMachines" ∈ TB := TB_tab (i := 1) (by decide +kernel) rfl
theorem mw_2 : Cond.initialized "StepMachines$Program" ∈ TB := TB_tab (i := 2) (by decide +kernel) rfl
theorem mw_3 : Cond.initialized "StepMachines$Subject" ∈ TB := TB_tab (i := 3) (by decide +kernel) rfl
theorem mw_4 : Cond.initialized "StepMachines$Tally" ∈ TB := TB_tab (i := 4) (by decide +kernel) rfl
theorem mw_5 : Cond.initialized "java/util/Arrays" ∈ TB := TB_tab (i := 5) (by decide +kernel) rfl
theorem mw_6 : Cond.initialized "StepMachinesModel" ∈ TB := TB_tab (i := 6) (by decide +kernel) rfl
theorem mw_7 : Cond.initialized "java/lang/Throwable" ∈ TB := TB_tab (i := 7) (by decide +kernel) rfl
theorem mw_8 : Cond.initialized "java/lang/Exception" ∈ TB := TB_tab (i := 8) (by decide +kernel) rfl
theorem mw_9 : Cond.initialized "java/lang/RuntimeException" ∈ TB := TB_tab (i := 9) (by decide +kernel) rfl
theorem mw_10 : Cond.initialized "java/lang/IllegalArgumentException" ∈ TB := TB_tab (i := 10) (by decide +kernel) rfl
theorem mw_11 : Cond.initialized "java/lang/IndexOutOfBoundsException" ∈ TB := TB_tab (i := 11) (by decide +kernel) rfl
theorem mw_12 : Cond.initialized "StepMachines$Marks" ∈ TB := TB_tab (i := 12) (by decide +kernel) rfl
theorem mw_13 : Cond.initialized "StepMachines$Jobs" ∈ TB := TB_tab (i := 13) (by decide +kernel) rfl
theorem mw_14 : Cond.initialized "java/lang/Math" ∈ TB := TB_tab (i := 14) (by decide +kernel) rfl
theorem mw_15 : Cond.initialized "java/lang/System" ∈ TB := TB_tab (i := 15) (by decide +kernel) rfl
theorem mw_16 : Cond.initialized "StepMachines$Table" ∈ TB := TB_tab (i := 16) (by decide +kernel) rfl
theorem mw_17 : Cond.initialized "StepMachines$Row" ∈ TB := TB_tab (i := 17) (by decide +kernel) rfl
theorem mw_18 : Cond.initialized "StepMachines$Threads" ∈ TB := TB_tab (i := 18) (by decide +kernel) rfl
theorem mw_19 : Cond.initialized "StepMachines$States" ∈ TB := TB_tab (i := 19) (by decide +kernel) rfl
theorem mw_20 : Cond.initialized "StepMachines$Kept" ∈ TB := TB_tab (i := 20) (by decide +kernel) rfl
theorem mw_21 : Cond.classLink "StepMachinesLaw" 8 "StepMachines" ∈ TB := TB_tab (i := 21) (by decide +kernel) rfl
theorem mw_22 : Cond.instantiable "StepMachines" 9 ∈ TB := TB_tab (i := 22) (by decide +kernel) rfl
theorem mw_23 : Cond.methodLink "StepMachinesLaw" 35 ⟨"StepMachines", "<init>", "()V"⟩ ∈ TB := TB_tab (i := 23) (by decide +kernel) rfl
theorem mw_24 : Cond.instanceMethod ⟨"StepMachines", "<init>", "()V"⟩ ∈ TB := TB_tab (i := 24) (by decide +kernel) rfl
theorem mw_25 : Cond.code ⟨"StepMachines", "<init>", "()V"⟩ prog_1_method_1_code 1 none ∈ TB := TB_tab (i := 25) (by decide +kernel) rfl
theorem mw_26 : Cond.methodLink "StepMachines" 1 ⟨"java/lang/Object", "<init>", "()V"⟩ ∈ TB := TB_tab (i := 26) (by decide +kernel) rfl
theorem mw_27 : Cond.instanceMethod ⟨"java/lang/Object", "<init>", "()V"⟩ ∈ TB := TB_tab (i := 27) (by decide +kernel) rfl
theorem mw_28 : Cond.code ⟨"java/lang/Object", "<init>", "()V"⟩ object_method_1_code 1 none ∈ TB := TB_tab (i := 28) (by decide +kernel) rfl
theorem mw_29 : Cond.classLink "StepMachines" 7 "StepMachines$Program" ∈ TB := TB_tab (i := 29) (by decide +kernel) rfl
theorem mw_30 : Cond.instantiable "StepMachines$Program" 6 ∈ TB := TB_tab (i := 30) (by decide +kernel) rfl
theorem mw_32 : Cond.instanceMethod ⟨"StepMachines$Program", "<init>", "()V"⟩ ∈ TB := TB_tab (i := 32) (by decide +kernel) rfl
theorem mw_33 : Cond.code ⟨"StepMachines$Program", "<init>", "()V"⟩ prog_5_method_1_code 1 none ∈ TB := TB_tab (i := 33) (by decide +kernel) rfl
theorem mw_34 : Cond.methodLink "StepMachines$Program" 3 ⟨"java/lang/Object", "<init>", "()V"⟩ ∈ TB := TB_tab (i := 34) (by decide +kernel) rfl
theorem mw_35 : Cond.fieldLink "StepMachines$Program" 9 "StepMachines$Program" "kinds" "[I" ∈ TB := TB_tab (i := 35) (by decide +kernel) rfl
theorem mw_36 : Cond.fieldLink "StepMachines$Marks" 127 "StepMachines$Program" "kinds" "[I" ∈ TB := TB_tab (i := 36) (by decide +kernel) rfl
theorem mw_37 : Cond.fieldLink "StepMachines$Threads" 157 "StepMachines$Program" "kinds" "[I" ∈ TB := TB_tab (i := 37) (by decide +kernel) rfl
theorem mw_38 : Cond.fieldLink "StepMachines$Table" 131 "StepMachines$Program" "kinds" "[I" ∈ TB := TB_tab (i := 38) (by decide +kernel) rfl
theorem mw_39 : Cond.fieldLink "StepMachines$States" 159 "StepMachines$Program" "kinds" "[I" ∈ TB := TB_tab (i := 39) (by decide +kernel) rfl
theorem mw_40 : Cond.fieldLink "StepMachines$Program" 15 "StepMachines$Program" "values" "[I" ∈ TB := TB_tab (i := 40) (by decide +kernel) rfl
theorem mw_41 : Cond.fieldLink "StepMachines$Marks" 124 "StepMachines$Program" "values" "[I" ∈ TB := TB_tab (i := 41) (by decide +kernel) rfl
theorem mw_42 : Cond.fieldLink "StepMachines$Threads" 154 "StepMachines$Program" "values" "[I" ∈ TB := TB_tab (i := 42) (by decide +kernel) rfl
theorem mw_43 : Cond.fieldLink "StepMachines$Table" 128 "StepMachines$Program" "values" "[I" ∈ TB := TB_tab (i := 43) (by decide +kernel) rfl
theorem mw_44 : Cond.fieldLink "StepMachines$States" 172 "StepMachines$Program" "values" "[I" ∈ TB := TB_tab (i := 44) (by decide +kernel) rfl
theorem mw_45 : Cond.fieldLink "StepMachines$Program" 18 "StepMachines$Program" "firsts" "[I" ∈ TB := TB_tab (i := 45) (by decide +kernel) rfl
theorem mw_46 : Cond.fieldLink "StepMachines$Threads" 118 "StepMachines$Program" "firsts" "[I" ∈ TB := TB_tab (i := 46) (by decide +kernel) rfl
theorem mw_47 : Cond.fieldLink "StepMachines$Marks" 140 "StepMachines$Program" "firsts" "[I" ∈ TB := TB_tab (i := 47) (by decide +kernel) rfl
theorem mw_48 : Cond.fieldLink "StepMachines$Table" 140 "StepMachines$Program" "firsts" "[I" ∈ TB := TB_tab (i := 48) (by decide +kernel) rfl
theorem mw_49 : Cond.fieldLink "StepMachines$States" 166 "StepMachines$Program" "firsts" "[I" ∈ TB := TB_tab (i := 49) (by decide +kernel) rfl
theorem mw_50 : Cond.fieldLink "StepMachines$Program" 21 "StepMachines$Program" "seconds" "[I" ∈ TB := TB_tab (i := 50) (by decide +kernel) rfl
theorem mw_51 : Cond.fieldLink "StepMachines$Marks" 143 "StepMachines$Program" "seconds" "[I" ∈ TB := TB_tab (i := 51) (by decide +kernel) rfl
theorem mw_52 : Cond.fieldLink "StepMachines$Threads" 161 "StepMachines$Program" "seconds" "[I" ∈ TB := TB_tab (i := 52) (by decide +kernel) rfl
theorem mw_53 : Cond.fieldLink "StepMachines$Table" 137 "StepMachines$Program" "seconds" "[I" ∈ TB := TB_tab (i := 53) (by decide +kernel) rfl
theorem mw_54 : Cond.fieldLink "StepMachines$States" 169 "StepMachines$Program" "seconds" "[I" ∈ TB := TB_tab (i := 54) (by decide +kernel) rfl
theorem mw_55 : Cond.fieldLink "StepMachines$Program" 24 "StepMachines$Program" "size" "I" ∈ TB := TB_tab (i := 55) (by decide +kernel) rfl
theorem mw_56 : Cond.fieldLink "StepMachines$Marks" 55 "StepMachines$Program" "size" "I" ∈ TB := TB_tab (i := 56) (by decide +kernel) rfl
theorem mw_57 : Cond.fieldLink "StepMachines" 176 "StepMachines$Program" "size" "I" ∈ TB := TB_tab (i := 57) (by decide +kernel) rfl
theorem mw_58 : Cond.fieldLink "StepMachines$Program" 28 "StepMachines$Program" "beginning" "I" ∈ TB := TB_tab (i := 58) (by decide +kernel) rfl
theorem mw_59 : Cond.fieldLink "StepMachines$Threads" 87 "StepMachines$Program" "beginning" "I" ∈ TB := TB_tab (i := 59) (by decide +kernel) rfl
theorem mw_60 : Cond.fieldLink "StepMachines$Table" 81 "StepMachines$Program" "beginning" "I" ∈ TB := TB_tab (i := 60) (by decide +kernel) rfl
theorem mw_61 : Cond.fieldLink "StepMachines" 101 "StepMachines$Program" "beginning" "I" ∈ TB := TB_tab (i := 61) (by decide +kernel) rfl
theorem mw_62 : Cond.fieldLink "StepMachines$Marks" 78 "StepMachines$Program" "beginning" "I" ∈ TB := TB_tab (i := 62) (by decide +kernel) rfl
theorem mw_63 : Cond.fieldLink "StepMachines$States" 90 "StepMachines$Program" "beginning" "I" ∈ TB := TB_tab (i := 63) (by decide +kernel) rfl
theorem mw_77 : Cond.arrayClass .int ∈ TB := TB_tab (i := 77) (by decide +kernel) rfl
theorem mw_78 : Cond.classLink "StepMachines" 16 "StepMachines$Subject" ∈ TB := TB_tab (i := 78) (by decide +kernel) rfl
theorem mw_79 : Cond.instantiable "StepMachines$Subject" 2 ∈ TB := TB_tab (i := 79) (by decide +kernel) rfl
theorem mw_81 : Cond.instanceMethod ⟨"StepMachines$Subject", "<init>", "()V"⟩ ∈ TB := TB_tab (i := 81) (by decide +kernel) rfl
theorem mw_82 : Cond.code ⟨"StepMachines$Subject", "<init>", "()V"⟩ prog_8_method_1_code 1 none ∈ TB := TB_tab (i := 82) (by decide +kernel) rfl
theorem mw_83 : Cond.methodLink "StepMachines$Subject" 3 ⟨"java/lang/Object", "<init>", "()V"⟩ ∈ TB := TB_tab (i := 83) (by decide +kernel) rfl
theorem mw_84 : Cond.fieldLink "StepMachines$Subject" 9 "StepMachines$Subject" "bytes" "[I" ∈ TB := TB_tab (i := 84) (by decide +kernel) rfl
theorem mw_85 : Cond.fieldLink "StepMachines$Subject" 15 "StepMachines$Subject" "length" "I" ∈ TB := TB_tab (i := 85) (by decide +kernel) rfl
theorem mw_86 : Cond.fieldLink "StepMachines$Marks" 45 "StepMachines$Subject" "length" "I" ∈ TB := TB_tab (i := 86) (by decide +kernel) rfl
theorem mw_87 : Cond.fieldLink "StepMachines$Threads" 62 "StepMachines$Subject" "length" "I" ∈ TB := TB_tab (i := 87) (by decide +kernel) rfl
theorem mw_88 : Cond.fieldLink "StepMachines$States" 73 "StepMachines$Subject" "length" "I" ∈ TB := TB_tab (i := 88) (by decide +kernel) rfl
theorem mw_89 : Cond.fieldLink "StepMachines" 104 "StepMachines$Subject" "length" "I" ∈ TB := TB_tab (i := 89) (by decide +kernel) rfl
theorem mw_90 : Cond.fieldLink "StepMachines$Table" 147 "StepMachines$Subject" "length" "I" ∈ TB := TB_tab (i := 90) (by decide +kernel) rfl
theorem mw_96 : Cond.classLink "StepMachines" 23 "StepMachines$Tally" ∈ TB := TB_tab (i := 96) (by decide +kernel) rfl
theorem mw_97 : Cond.instantiable "StepMachines$Tally" 2 ∈ TB := TB_tab (i := 97) (by decide +kernel) rfl
theorem mw_99 : Cond.instanceMethod ⟨"StepMachines$Tally", "<init>", "()V"⟩ ∈ TB := TB_tab (i := 99) (by decide +kernel) rfl
theorem mw_100 : Cond.code ⟨"StepMachines$Tally", "<init>", "()V"⟩ prog_10_method_1_code 1 none ∈ TB := TB_tab (i := 100) (by decide +kernel) rfl
theorem mw_101 : Cond.methodLink "StepMachines$Tally" 1 ⟨"java/lang/Object", "<init>", "()V"⟩ ∈ TB := TB_tab (i := 101) (by decide +kernel) rfl
theorem mw_102 : Cond.fieldLink "StepMachines$Tally" 7 "StepMachines$Tally" "taken" "I" ∈ TB := TB_tab (i := 102) (by decide +kernel) rfl
theorem mw_103 : Cond.fieldLink "StepMachines$Tally" 13 "StepMachines$Tally" "overruns" "I" ∈ TB := TB_tab (i := 103) (by decide +kernel) rfl
theorem mw_104 : Cond.fieldLink "StepMachines" 173 "StepMachines$Tally" "overruns" "I" ∈ TB := TB_tab (i := 104) (by decide +kernel) rfl
theorem mw_110 : Cond.methodLink "StepMachines" 54 ⟨"java/util/Arrays", "fill", "([II)V"⟩ ∈ TB := TB_tab (i := 110) (by decide +kernel) rfl
theorem mw_111 : Cond.static ⟨"java/util/Arrays", "fill", "([II)V"⟩ ∈ TB := TB_tab (i := 111) (by decide +kernel) rfl
theorem mw_112 : Cond.code ⟨"java/util/Arrays", "fill", "([II)V"⟩ prog_22_method_103_code 4 none ∈ TB := TB_tab (i := 112) (by decide +kernel) rfl
theorem mw_113 : Cond.fieldLink "StepMachines" 10 "StepMachines" "program" "LStepMachines$Program;" ∈ TB := TB_tab (i := 113) (by decide +kernel) rfl
theorem mw_114 : Cond.fieldLink "StepMachines" 19 "StepMachines" "subject" "LStepMachines$Subject;" ∈ TB := TB_tab (i := 114) (by decide +kernel) rfl
theorem mw_115 : Cond.fieldLink "StepMachines" 26 "StepMachines" "tally" "LStepMachines$Tally;" ∈ TB := TB_tab (i := 115) (by decide +kernel) rfl
theorem mw_116 : Cond.fieldLink "StepMachines" 30 "StepMachines" "latest" "[I" ∈ TB := TB_tab (i := 116) (by decide +kernel) rfl
theorem mw_117 : Cond.fieldLink "StepMachines" 34 "StepMachines" "mostStates" "I" ∈ TB := TB_tab (i := 117) (by decide +kernel) rfl
theorem mw_118 : Cond.fieldLink "StepMachines" 38 "StepMachines" "threads" "LStepMachines$Threads;" ∈ TB := TB_tab (i := 118) (by decide +kernel) rfl
theorem mw_119 : Cond.fieldLink "StepMachines" 42 "StepMachines" "marks" "LStepMachines$Marks;" ∈ TB := TB_tab (i := 119) (by decide +kernel) rfl
theorem mw_120 : Cond.fieldLink "StepMachines" 46 "StepMachines" "table" "LStepMachines$Table;" ∈ TB := TB_tab (i := 120) (by decide +kernel) rfl
theorem mw_121 : Cond.fieldLink "StepMachines" 50 "StepMachines" "states" "LStepMachines$States;" ∈ TB := TB_tab (i := 121) (by decide +kernel) rfl
theorem mw_141 : Cond.methodLink "StepMachinesLaw" 58 ⟨"StepMachines", "put", "(JI)Z"⟩ ∈ TB := TB_tab (i := 141) (by decide +kernel) rfl
theorem mw_142 : Cond.instanceMethod ⟨"StepMachines", "put", "(JI)Z"⟩ ∈ TB := TB_tab (i := 142) (by decide +kernel) rfl
theorem mw_143 : Cond.selects "StepMachines" ⟨"StepMachines", "put", "(JI)Z"⟩ ⟨"StepMachines", "put", "(JI)Z"⟩ ∈ TB := TB_tab (i := 143) (by decide +kernel) rfl
theorem mw_144 : Cond.code ⟨"StepMachines", "put", "(JI)Z"⟩ prog_1_method_5_code 5 (some .boolean) ∈ TB := TB_tab (i := 144) (by decide +kernel) rfl
theorem mw_145 : Cond.methodLink "StepMachines" 107 ⟨"StepMachines$Subject", "append", "(I)V"⟩ ∈ TB := TB_tab (i := 145) (by decide +kernel) rfl
theorem mw_146 : Cond.instanceMethod ⟨"StepMachines$Subject", "append", "(I)V"⟩ ∈ TB := TB_tab (i := 146) (by decide +kernel) rfl
theorem mw_147 : Cond.selects "StepMachines$Subject" ⟨"StepMachines$Subject", "append", "(I)V"⟩ ⟨"StepMachines$Subject", "append", "(I)V"⟩ ∈ TB := TB_tab (i := 147) (by decide +kernel) rfl
theorem mw_148 : Cond.code ⟨"StepMachines$Subject", "append", "(I)V"⟩ prog_8_method_4_code 2 none ∈ TB := TB_tab (i := 148) (by decide +kernel) rfl
theorem mw_149 : Cond.methodLink "StepMachinesLaw" 63 ⟨"StepMachines", "clear", "()V"⟩ ∈ TB := TB_tab (i := 149) (by decide +kernel) rfl
theorem mw_150 : Cond.instanceMethod ⟨"StepMachines", "clear", "()V"⟩ ∈ TB := TB_tab (i := 150) (by decide +kernel) rfl
theorem mw_151 : Cond.selects "StepMachines" ⟨"StepMachines", "clear", "()V"⟩ ⟨"StepMachines", "clear", "()V"⟩ ∈ TB := TB_tab (i := 151) (by decide +kernel) rfl
theorem mw_152 : Cond.code ⟨"StepMachines", "clear", "()V"⟩ prog_1_method_6_code 1 none ∈ TB := TB_tab (i := 152) (by decide +kernel) rfl
theorem mw_153 : Cond.methodLink "StepMachinesLaw" 71 ⟨"StepMachines", "saved", "(I)I"⟩ ∈ TB := TB_tab (i := 153) (by decide +kernel) rfl
theorem mw_154 : Cond.instanceMethod ⟨"StepMachines", "saved", "(I)I"⟩ ∈ TB := TB_tab (i := 154) (by decide +kernel) rfl
theorem mw_155 : Cond.selects "StepMachines" ⟨"StepMachines", "saved", "(I)I"⟩ ⟨"StepMachines", "saved", "(I)I"⟩ ∈ TB := TB_tab (i := 155) (by decide +kernel) rfl
theorem mw_156 : Cond.code ⟨"StepMachines", "saved", "(I)I"⟩ prog_1_method_8_code 2 (some .int) ∈ TB := TB_tab (i := 156) (by decide +kernel) rfl
theorem mw_157 : Cond.methodLink "StepMachinesLaw" 83 ⟨"StepMachines", "isOneWay", "()Z"⟩ ∈ TB := TB_tab (i := 157) (by decide +kernel) rfl
theorem mw_158 : Cond.instanceMethod ⟨"StepMachines", "isOneWay", "()Z"⟩ ∈ TB := TB_tab (i := 158) (by decide +kernel) rfl
theorem mw_159 : Cond.selects "StepMachines" ⟨"StepMachines", "isOneWay", "()Z"⟩ ⟨"StepMachines", "isOneWay", "()Z"⟩ ∈ TB := TB_tab (i := 159) (by decide +kernel) rfl
theorem mw_160 : Cond.code ⟨"StepMachines", "isOneWay", "()Z"⟩ prog_1_method_11_code 1 (some .boolean) ∈ TB := TB_tab (i := 160) (by decide +kernel) rfl
theorem mw_161 : Cond.methodLink "StepMachines" 133 ⟨"StepMachines", "readyTable", "()LStepMachines$Table;"⟩ ∈ TB := TB_tab (i := 161) (by decide +kernel) rfl
theorem mw_163 : Cond.instanceMethod ⟨"StepMachines", "readyTable", "()LStepMachines$Table;"⟩ ∈ TB := TB_tab (i := 163) (by decide +kernel) rfl
theorem mw_164 : Cond.code ⟨"StepMachines", "readyTable", "()LStepMachines$Table;"⟩ prog_1_method_19_code 1 (some (.object "StepMachines$Table")) ∈ TB := TB_tab (i := 164) (by decide +kernel) rfl
theorem mw_165 : Cond.classLink "StepMachines" 138 "StepMachines$Table" ∈ TB := TB_tab (i := 165) (by decide +kernel) rfl
theorem mw_166 : Cond.instantiable "StepMachines$Table" 15 ∈ TB := TB_tab (i := 166) (by decide +kernel) rfl
theorem mw_167 : Cond.methodLink "StepMachines" 187 ⟨"StepMachines$Table", "<init>", "(LStepMachines$Program;LStepMachines$Subject;LStepMachines$Tally;[I)V"⟩ ∈ TB := TB_tab (i := 167) (by decide +kernel) rfl
theorem mw_168 : Cond.instanceMethod ⟨"StepMachines$Table", "<init>", "(LStepMachines$Program;LStepMachines$Subject;LStepMachines$Tally;[I)V"⟩ ∈ TB := TB_tab (i := 168) (by decide +kernel) rfl
theorem mw_169 : Cond.code ⟨"StepMachines$Table", "<init>", "(LStepMachines$Program;LStepMachines$Subject;LStepMachines$Tally;[I)V"⟩ prog_9_method_1_code 5 none ∈ TB := TB_tab (i := 169) (by decide +kernel) rfl
theorem mw_170 : Cond.methodLink "StepMachines$Table" 5 ⟨"java/lang/Object", "<init>", "()V"⟩ ∈ TB := TB_tab (i := 170) (by decide +kernel) rfl
theorem mw_171 : Cond.classLink "StepMachines$Table" 30 "StepMachines$Row" ∈ TB := TB_tab (i := 171) (by decide +kernel) rfl
theorem mw_172 : Cond.instantiable "StepMachines$Row" 4 ∈ TB := TB_tab (i := 172) (by decide +kernel) rfl
theorem mw_174 : Cond.instanceMethod ⟨"StepMachines$Row", "<init>", "()V"⟩ ∈ TB := TB_tab (i := 174) (by decide +kernel) rfl
theorem mw_175 : Cond.code ⟨"StepMachines$Row", "<init>", "()V"⟩ prog_6_method_1_code 1 none ∈ TB := TB_tab (i := 175) (by decide +kernel) rfl
theorem mw_176 : Cond.methodLink "StepMachines$Row" 3 ⟨"java/lang/Object", "<init>", "()V"⟩ ∈ TB := TB_tab (i := 176) (by decide +kernel) rfl
theorem mw_177 : Cond.fieldLink "StepMachines$Row" 9 "StepMachines$Row" "steps" "[I" ∈ TB := TB_tab (i := 177) (by decide +kernel) rfl
theorem mw_178 : Cond.fieldLink "StepMachines$Threads" 102 "StepMachines$Row" "steps" "[I" ∈ TB := TB_tab (i := 178) (by decide +kernel) rfl
theorem mw_179 : Cond.fieldLink "StepMachines$Kept" 64 "StepMachines$Row" "steps" "[I" ∈ TB := TB_tab (i := 179) (by decide +kernel) rfl
theorem mw_180 : Cond.fieldLink "StepMachines$Row" 15 "StepMachines$Row" "count" "I" ∈ TB := TB_tab (i := 180) (by decide +kernel) rfl
theorem mw_181 : Cond.fieldLink "StepMachines$Threads" 99 "StepMachines$Row" "count" "I" ∈ TB := TB_tab (i := 181) (by decide +kernel) rfl
theorem mw_182 : Cond.fieldLink "StepMachines$States" 122 "StepMachines$Row" "count" "I" ∈ TB := TB_tab (i := 182) (by decide +kernel) rfl
theorem mw_183 : Cond.fieldLink "StepMachines$Kept" 59 "StepMachines$Row" "count" "I" ∈ TB := TB_tab (i := 183) (by decide +kernel) rfl
theorem mw_184 : Cond.fieldLink "StepMachines$Row" 19 "StepMachines$Row" "met" "[I" ∈ TB := TB_tab (i := 184) (by decide +kernel) rfl
theorem mw_185 : Cond.fieldLink "StepMachines$Row" 22 "StepMachines$Row" "turn" "I" ∈ TB := TB_tab (i := 185) (by decide +kernel) rfl
theorem mw_195 : Cond.classLink "StepMachines$Table" 37 "StepMachines$Jobs" ∈ TB := TB_tab (i := 195) (by decide +kernel) rfl
theorem mw_196 : Cond.instantiable "StepMachines$Jobs" 2 ∈ TB := TB_tab (i := 196) (by decide +kernel) rfl
theorem mw_197 : Cond.methodLink "StepMachines$Table" 39 ⟨"StepMachines$Jobs", "<init>", "(I)V"⟩ ∈ TB := TB_tab (i := 197) (by decide +kernel) rfl
theorem mw_198 : Cond.instanceMethod ⟨"StepMachines$Jobs", "<init>", "(I)V"⟩ ∈ TB := TB_tab (i := 198) (by decide +kernel) rfl
theorem mw_199 : Cond.code ⟨"StepMachines$Jobs", "<init>", "(I)V"⟩ prog_2_method_1_code 2 none ∈ TB := TB_tab (i := 199) (by decide +kernel) rfl
theorem mw_200 : Cond.methodLink "StepMachines$Jobs" 3 ⟨"java/lang/Object", "<init>", "()V"⟩ ∈ TB := TB_tab (i := 200) (by decide +kernel) rfl
theorem mw_201 : Cond.fieldLink "StepMachines$Jobs" 15 "StepMachines$Jobs" "jobs" "[I" ∈ TB := TB_tab (i := 201) (by decide +kernel) rfl
theorem mw_202 : Cond.fieldLink "StepMachines$Jobs" 9 "StepMachines$Jobs" "count" "I" ∈ TB := TB_tab (i := 202) (by decide +kernel) rfl
theorem mw_208 : Cond.fieldLink "StepMachines$Table" 57 "StepMachines$Table" "program" "LStepMachines$Program;" ∈ TB := TB_tab (i := 208) (by decide +kernel) rfl
theorem mw_209 : Cond.fieldLink "StepMachines$Table" 61 "StepMachines$Table" "subject" "LStepMachines$Subject;" ∈ TB := TB_tab (i := 209) (by decide +kernel) rfl
theorem mw_210 : Cond.fieldLink "StepMachines$Table" 65 "StepMachines$Table" "tally" "LStepMachines$Tally;" ∈ TB := TB_tab (i := 210) (by decide +kernel) rfl
theorem mw_211 : Cond.fieldLink "StepMachines$Table" 69 "StepMachines$Table" "best" "[I" ∈ TB := TB_tab (i := 211) (by decide +kernel) rfl
theorem mw_212 : Cond.fieldLink "StepMachines$Table" 11 "StepMachines$Table" "now" "[I" ∈ TB := TB_tab (i := 212) (by decide +kernel) rfl
theorem mw_213 : Cond.fieldLink "StepMachines$Table" 15 "StepMachines$Table" "actions" "[I" ∈ TB := TB_tab (i := 213) (by decide +kernel) rfl
theorem mw_214 : Cond.fieldLink "StepMachines$Table" 18 "StepMachines$Table" "endings" "[I" ∈ TB := TB_tab (i := 214) (by decide +kernel) rfl
theorem mw_215 : Cond.fieldLink "StepMachines$Table" 21 "StepMachines$Table" "stepOfRow" "[I" ∈ TB := TB_tab (i := 215) (by decide +kernel) rfl
theorem mw_216 : Cond.fieldLink "StepMachines$Table" 24 "StepMachines$Table" "rowOfStep" "[I" ∈ TB := TB_tab (i := 216) (by decide +kernel) rfl
theorem mw_217 : Cond.fieldLink "StepMachines$Table" 27 "StepMachines$Table" "since" "[I" ∈ TB := TB_tab (i := 217) (by decide +kernel) rfl
theorem mw_218 : Cond.fieldLink "StepMachines$Table" 33 "StepMachines$Table" "walked" "LStepMachines$Row;" ∈ TB := TB_tab (i := 218) (by decide +kernel) rfl
theorem mw_219 : Cond.fieldLink "StepMachines$Table" 42 "StepMachines$Table" "jobs" "LStepMachines$Jobs;" ∈ TB := TB_tab (i := 219) (by decide +kernel) rfl
theorem mw_220 : Cond.fieldLink "StepMachines$Table" 46 "StepMachines$Table" "rows" "I" ∈ TB := TB_tab (i := 220) (by decide +kernel) rfl
theorem mw_221 : Cond.fieldLink "StepMachines$Table" 50 "StepMachines$Table" "made" "Z" ∈ TB := TB_tab (i := 221) (by decide +kernel) rfl
theorem mw_222 : Cond.fieldLink "StepMachines$Table" 54 "StepMachines$Table" "single" "Z" ∈ TB := TB_tab (i := 222) (by decide +kernel) rfl
theorem mw_254 : Cond.methodLink "StepMachines" 169 ⟨"StepMachines$Table", "isSingleMinded", "()Z"⟩ ∈ TB := TB_tab (i := 254) (by decide +kernel) rfl
theorem mw_255 : Cond.instanceMethod ⟨"StepMachines$Table", "isSingleMinded", "()Z"⟩ ∈ TB := TB_tab (i := 255) (by decide +kernel) rfl
theorem mw_256 : Cond.selects "StepMachines$Table" ⟨"StepMachines$Table", "isSingleMinded", "()Z"⟩ ⟨"StepMachines$Table", "isSingleMinded", "()Z"⟩ ∈ TB := TB_tab (i := 256) (by decide +kernel) rfl
theorem mw_257 : Cond.code ⟨"StepMachines$Table", "isSingleMinded", "()Z"⟩ prog_9_method_3_code 1 (some .boolean) ∈ TB := TB_tab (i := 257) (by decide +kernel) rfl
theorem mw_258 : Cond.methodLink "StepMachines$Table" 72 ⟨"StepMachines$Table", "make", "()V"⟩ ∈ TB := TB_tab (i := 258) (by decide +kernel) rfl
theorem mw_260 : Cond.instanceMethod ⟨"StepMachines$Table", "make", "()V"⟩ ∈ TB := TB_tab (i := 260) (by decide +kernel) rfl
theorem mw_261 : Cond.code ⟨"StepMachines$Table", "make", "()V"⟩ prog_9_method_4_code 2 none ∈ TB := TB_tab (i := 261) (by decide +kernel) rfl
theorem mw_262 : Cond.methodLink "StepMachines$Table" 75 ⟨"java/util/Arrays", "fill", "([II)V"⟩ ∈ TB := TB_tab (i := 262) (by decide +kernel) rfl
theorem mw_263 : Cond.methodLink "StepMachines$Table" 86 ⟨"StepMachines$Table", "rowFor", "(I)I"⟩ ∈ TB := TB_tab (i := 263) (by decide +kernel) rfl
theorem mw_265 : Cond.instanceMethod ⟨"StepMachines$Table", "rowFor", "(I)I"⟩ ∈ TB := TB_tab (i := 265) (by decide +kernel) rfl
theorem mw_266 : Cond.code ⟨"StepMachines$Table", "rowFor", "(I)I"⟩ prog_9_method_5_code 2 (some .int) ∈ TB := TB_tab (i := 266) (by decide +kernel) rfl
theorem mw_267 : Cond.methodLink "StepMachines$Table" 90 ⟨"StepMachines$Table", "makeRow", "(I)Z"⟩ ∈ TB := TB_tab (i := 267) (by decide +kernel) rfl
theorem mw_269 : Cond.instanceMethod ⟨"StepMachines$Table", "makeRow", "(I)Z"⟩ ∈ TB := TB_tab (i := 269) (by decide +kernel) rfl
theorem mw_270 : Cond.code ⟨"StepMachines$Table", "makeRow", "(I)Z"⟩ prog_9_method_6_code 5 (some .boolean) ∈ TB := TB_tab (i := 270) (by decide +kernel) rfl
theorem mw_271 : Cond.methodLink "StepMachines$Table" 94 ⟨"StepMachines$Row", "empty", "()V"⟩ ∈ TB := TB_tab (i := 271) (by decide +kernel) rfl
theorem mw_272 : Cond.instanceMethod ⟨"StepMachines$Row", "empty", "()V"⟩ ∈ TB := TB_tab (i := 272) (by decide +kernel) rfl
theorem mw_273 : Cond.selects "StepMachines$Row" ⟨"StepMachines$Row", "empty", "()V"⟩ ⟨"StepMachines$Row", "empty", "()V"⟩ ∈ TB := TB_tab (i := 273) (by decide +kernel) rfl
theorem mw_274 : Cond.code ⟨"StepMachines$Row", "empty", "()V"⟩ prog_6_method_2_code 1 none ∈ TB := TB_tab (i := 274) (by decide +kernel) rfl
theorem mw_275 : Cond.methodLink "StepMachines$Table" 97 ⟨"StepMachines$Jobs", "drop", "()V"⟩ ∈ TB := TB_tab (i := 275) (by decide +kernel) rfl
theorem mw_276 : Cond.instanceMethod ⟨"StepMachines$Jobs", "drop", "()V"⟩ ∈ TB := TB_tab (i := 276) (by decide +kernel) rfl
theorem mw_277 : Cond.selects "StepMachines$Jobs" ⟨"StepMachines$Jobs", "drop", "()V"⟩ ⟨"StepMachines$Jobs", "drop", "()V"⟩ ∈ TB := TB_tab (i := 277) (by decide +kernel) rfl
theorem mw_278 : Cond.code ⟨"StepMachines$Jobs", "drop", "()V"⟩ prog_2_method_8_code 1 none ∈ TB := TB_tab (i := 278) (by decide +kernel) rfl
theorem mw_279 : Cond.methodLink "StepMachines$Table" 100 ⟨"StepMachines$Table", "later", "(II)V"⟩ ∈ TB := TB_tab (i := 279) (by decide +kernel) rfl
theorem mw_281 : Cond.instanceMethod ⟨"StepMachines$Table", "later", "(II)V"⟩ ∈ TB := TB_tab (i := 281) (by decide +kernel) rfl
theorem mw_282 : Cond.code ⟨"StepMachines$Table", "later", "(II)V"⟩ prog_9_method_7_code 3 none ∈ TB := TB_tab (i := 282) (by decide +kernel) rfl
theorem mw_283 : Cond.methodLink "StepMachines$Table" 125 ⟨"StepMachines$Jobs", "add", "(I)V"⟩ ∈ TB := TB_tab (i := 283) (by decide +kernel) rfl
theorem mw_284 : Cond.instanceMethod ⟨"StepMachines$Jobs", "add", "(I)V"⟩ ∈ TB := TB_tab (i := 284) (by decide +kernel) rfl
theorem mw_285 : Cond.selects "StepMachines$Jobs" ⟨"StepMachines$Jobs", "add", "(I)V"⟩ ⟨"StepMachines$Jobs", "add", "(I)V"⟩ ∈ TB := TB_tab (i := 285) (by decide +kernel) rfl
theorem mw_286 : Cond.code ⟨"StepMachines$Jobs", "add", "(I)V"⟩ prog_2_method_11_code 2 none ∈ TB := TB_tab (i := 286) (by decide +kernel) rfl
theorem mw_287 : Cond.constant "StepMachines$Table" 104 (1000000 : Int32) ∈ TB := TB_tab (i := 287) (by decide +kernel) rfl
theorem mw_288 : Cond.methodLink "StepMachines$Table" 105 ⟨"StepMachines$Jobs", "isEmpty", "()Z"⟩ ∈ TB := TB_tab (i := 288) (by decide +kernel) rfl
theorem mw_289 : Cond.instanceMethod ⟨"StepMachines$Jobs", "isEmpty", "()Z"⟩ ∈ TB := TB_tab (i := 289) (by decide +kernel) rfl
theorem mw_290 : Cond.selects "StepMachines$Jobs" ⟨"StepMachines$Jobs", "isEmpty", "()Z"⟩ ⟨"StepMachines$Jobs", "isEmpty", "()Z"⟩ ∈ TB := TB_tab (i := 290) (by decide +kernel) rfl
theorem mw_291 : Cond.code ⟨"StepMachines$Jobs", "isEmpty", "()Z"⟩ prog_2_method_10_code 1 (some .boolean) ∈ TB := TB_tab (i := 291) (by decide +kernel) rfl
theorem mw_292 : Cond.methodLink "StepMachines$Table" 109 ⟨"StepMachines$Jobs", "take", "()I"⟩ ∈ TB := TB_tab (i := 292) (by decide +kernel) rfl
theorem mw_293 : Cond.instanceMethod ⟨"StepMachines$Jobs", "take", "()I"⟩ ∈ TB := TB_tab (i := 293) (by decide +kernel) rfl
theorem mw_294 : Cond.selects "StepMachines$Jobs" ⟨"StepMachines$Jobs", "take", "()I"⟩ ⟨"StepMachines$Jobs", "take", "()I"⟩ ∈ TB := TB_tab (i := 294) (by decide +kernel) rfl
theorem mw_295 : Cond.code ⟨"StepMachines$Jobs", "take", "()I"⟩ prog_2_method_12_code 1 (some .int) ∈ TB := TB_tab (i := 295) (by decide +kernel) rfl
theorem mw_296 : Cond.methodLink "StepMachines$Table" 113 ⟨"StepMachines$Tally", "count", "()V"⟩ ∈ TB := TB_tab (i := 296) (by decide +kernel) rfl
theorem mw_297 : Cond.instanceMethod ⟨"StepMachines$Tally", "count", "()V"⟩ ∈ TB := TB_tab (i := 297) (by decide +kernel) rfl
theorem mw_298 : Cond.selects "StepMachines$Tally" ⟨"StepMachines$Tally", "count", "()V"⟩ ⟨"StepMachines$Tally", "count", "()V"⟩ ∈ TB := TB_tab (i := 298) (by decide +kernel) rfl
theorem mw_299 : Cond.code ⟨"StepMachines$Tally", "count", "()V"⟩ prog_10_method_3_code 1 none ∈ TB := TB_tab (i := 299) (by decide +kernel) rfl
theorem mw_300 : Cond.methodLink "StepMachines$Table" 118 ⟨"StepMachines$Row", "meets", "(I)Z"⟩ ∈ TB := TB_tab (i := 300) (by decide +kernel) rfl
theorem mw_301 : Cond.instanceMethod ⟨"StepMachines$Row", "meets", "(I)Z"⟩ ∈ TB := TB_tab (i := 301) (by decide +kernel) rfl
theorem mw_302 : Cond.selects "StepMachines$Row" ⟨"StepMachines$Row", "meets", "(I)Z"⟩ ⟨"StepMachines$Row", "meets", "(I)Z"⟩ ∈ TB := TB_tab (i := 302) (by decide +kernel) rfl
theorem mw_303 : Cond.code ⟨"StepMachines$Row", "meets", "(I)Z"⟩ prog_6_method_3_code 2 (some .boolean) ∈ TB := TB_tab (i := 303) (by decide +kernel) rfl
theorem mw_304 : Cond.methodLink "StepMachines$Table" 121 ⟨"StepMachines$Table", "walk", "(III)Z"⟩ ∈ TB := TB_tab (i := 304) (by decide +kernel) rfl
theorem mw_306 : Cond.instanceMethod ⟨"StepMachines$Table", "walk", "(III)Z"⟩ ∈ TB := TB_tab (i := 306) (by decide +kernel) rfl
theorem mw_307 : Cond.code ⟨"StepMachines$Table", "walk", "(III)Z"⟩ prog_9_method_8_code 5 (some .boolean) ∈ TB := TB_tab (i := 307) (by decide +kernel) rfl
theorem mw_308 : Cond.methodLink "StepMachines$Table" 134 ⟨"StepMachines$Table", "takeBytes", "(III)Z"⟩ ∈ TB := TB_tab (i := 308) (by decide +kernel) rfl
theorem mw_310 : Cond.instanceMethod ⟨"StepMachines$Table", "takeBytes", "(III)Z"⟩ ∈ TB := TB_tab (i := 310) (by decide +kernel) rfl
theorem mw_311 : Cond.code ⟨"StepMachines$Table", "takeBytes", "(III)Z"⟩ prog_9_method_9_code 9 (some .boolean) ∈ TB := TB_tab (i := 311) (by decide +kernel) rfl
theorem mw_312 : Cond.methodLink "StepMachines$Table" 143 ⟨"StepMachines$Program", "takes", "(II)Z"⟩ ∈ TB := TB_tab (i := 312) (by decide +kernel) rfl
theorem mw_313 : Cond.instanceMethod ⟨"StepMachines$Program", "takes", "(II)Z"⟩ ∈ TB := TB_tab (i := 313) (by decide +kernel) rfl
theorem mw_314 : Cond.selects "StepMachines$Program" ⟨"StepMachines$Program", "takes", "(II)Z"⟩ ⟨"StepMachines$Program", "takes", "(II)Z"⟩ ∈ TB := TB_tab (i := 314) (by decide +kernel) rfl
theorem mw_315 : Cond.code ⟨"StepMachines$Program", "takes", "(II)Z"⟩ prog_5_method_6_code 3 (some .boolean) ∈ TB := TB_tab (i := 315) (by decide +kernel) rfl
theorem mw_316 : Cond.methodLink "StepMachinesLaw" 88 ⟨"StepMachines", "over", "()I"⟩ ∈ TB := TB_tab (i := 316) (by decide +kernel) rfl
theorem mw_317 : Cond.instanceMethod ⟨"StepMachines", "over", "()I"⟩ ∈ TB := TB_tab (i := 317) (by decide +kernel) rfl
theorem mw_318 : Cond.selects "StepMachines" ⟨"StepMachines", "over", "()I"⟩ ⟨"StepMachines", "over", "()I"⟩ ∈ TB := TB_tab (i := 318) (by decide +kernel) rfl
theorem mw_319 : Cond.code ⟨"StepMachines", "over", "()I"⟩ prog_1_method_12_code 1 (some .int) ∈ TB := TB_tab (i := 319) (by decide +kernel) rfl
theorem mw_320 : Cond.methodLink "StepMachinesLaw" 39 ⟨"StepMachinesLaw", "lay", "(LStepMachines;I)I"⟩ ∈ TB := TB_tab (i := 320) (by decide +kernel) rfl
theorem mw_321 : Cond.static ⟨"StepMachinesLaw", "lay", "(LStepMachines;I)I"⟩ ∈ TB := TB_tab (i := 321) (by decide +kernel) rfl
theorem mw_323 : Cond.classLink "StepMachinesLaw" 13 "java/lang/IllegalArgumentException" ∈ TB := TB_tab (i := 323) (by decide +kernel) rfl
theorem mw_324 : Cond.methodLink "StepMachinesLaw" 7 ⟨"StepMachines", "lay", "(I)V"⟩ ∈ TB := TB_tab (i := 324) (by decide +kernel) rfl
theorem mw_325 : Cond.instanceMethod ⟨"StepMachines", "lay", "(I)V"⟩ ∈ TB := TB_tab (i := 325) (by decide +kernel) rfl
theorem mw_326 : Cond.selects "StepMachines" ⟨"StepMachines", "lay", "(I)V"⟩ ⟨"StepMachines", "lay", "(I)V"⟩ ∈ TB := TB_tab (i := 326) (by decide +kernel) rfl
theorem mw_327 : Cond.code ⟨"StepMachines", "lay", "(I)V"⟩ prog_1_method_2_code 2 none ∈ TB := TB_tab (i := 327) (by decide +kernel) rfl
theorem mw_328 : Cond.classLink "StepMachines" 60 "java/lang/IllegalArgumentException" ∈ TB := TB_tab (i := 328) (by decide +kernel) rfl
theorem mw_329 : Cond.instantiable "java/lang/IllegalArgumentException" 6 ∈ TB := TB_tab (i := 329) (by decide +kernel) rfl
theorem mw_337 : Cond.selects "java/lang/IllegalArgumentException" ⟨"java/lang/Throwable", "fillInStackTrace", "(I)Ljava/lang/Throwable;"⟩ ⟨"java/lang/Throwable", "fillInStackTrace", "(I)Ljava/lang/Throwable;"⟩ ∈ TB := TB_tab (i := 337) (by decide +kernel) rfl
theorem mw_338 : Cond.selects "java/lang/IllegalArgumentException" ⟨"java/lang/Throwable", "fillInStackTrace", "()Ljava/lang/Throwable;"⟩ ⟨"java/lang/Throwable", "fillInStackTrace", "()Ljava/lang/Throwable;"⟩ ∈ TB := TB_tab (i := 338) (by decide +kernel) rfl
theorem mw_349 : Cond.fieldLink "java/lang/Throwable" 198 "java/lang/Throwable" "backtrace" "Ljava/lang/Object;" ∈ TB := TB_tab (i := 349) (by decide +kernel) rfl
theorem mw_351 : Cond.instanceMethod ⟨"java/lang/Throwable", "<init>", "()V"⟩ ∈ TB := TB_tab (i := 351) (by decide +kernel) rfl
theorem mw_352 : Cond.code ⟨"java/lang/Throwable", "<init>", "()V"⟩ prog_21_method_1_code 1 none ∈ TB := TB_tab (i := 352) (by decide +kernel) rfl
theorem mw_353 : Cond.methodLink "java/lang/Throwable" 1 ⟨"java/lang/Object", "<init>", "()V"⟩ ∈ TB := TB_tab (i := 353) (by decide +kernel) rfl
theorem mw_354 : Cond.fieldLink "java/lang/Throwable" 13 "java/lang/Throwable" "UNASSIGNED_STACK" "[Ljava/lang/StackTraceElement;" ∈ TB := TB_tab (i := 354) (by decide +kernel) rfl
theorem mw_356 : Cond.fieldLink "java/lang/Throwable" 20 "java/lang/Throwable" "SUPPRESSED_SENTINEL" "Ljava/util/List;" ∈ TB := TB_tab (i := 356) (by decide +kernel) rfl
theorem mw_358 : Cond.methodLink "java/lang/Throwable" 27 ⟨"java/lang/Throwable", "fillInStackTrace", "()Ljava/lang/Throwable;"⟩ ∈ TB := TB_tab (i := 358) (by decide +kernel) rfl
theorem mw_359 : Cond.instanceMethod ⟨"java/lang/Throwable", "fillInStackTrace", "()Ljava/lang/Throwable;"⟩ ∈ TB := TB_tab (i := 359) (by decide +kernel) rfl
theorem mw_361 : Cond.selects "java/lang/IndexOutOfBoundsException" ⟨"java/lang/Throwable", "fillInStackTrace", "()Ljava/lang/Throwable;"⟩ ⟨"java/lang/Throwable", "fillInStackTrace", "()Ljava/lang/Throwable;"⟩ ∈ TB := TB_tab (i := 361) (by decide +kernel) rfl
theorem mw_363 : Cond.methodLink "java/lang/Throwable" 202 ⟨"java/lang/Throwable", "fillInStackTrace", "(I)Ljava/lang/Throwable;"⟩ ∈ TB := TB_tab (i := 363) (by decide +kernel) rfl
theorem mw_365 : Cond.instanceMethod ⟨"java/lang/Throwable", "fillInStackTrace", "(I)Ljava/lang/Throwable;"⟩ ∈ TB := TB_tab (i := 365) (by decide +kernel) rfl
theorem mw_366 : Cond.instantiable "java/lang/Throwable" 6 ∈ TB := TB_tab (i := 366) (by decide +kernel) rfl
theorem mw_367 : Cond.native ⟨"java/lang/Throwable", "fillInStackTrace", "(I)Ljava/lang/Throwable;"⟩ ∈ TB := TB_tab (i := 367) (by decide +kernel) rfl
theorem mw_369 : Cond.methodLink "StepMachines" 64 ⟨"java/lang/IllegalArgumentException", "<init>", "(Ljava/lang/String;)V"⟩ ∈ TB := TB_tab (i := 369) (by decide +kernel) rfl
theorem mw_370 : Cond.instanceMethod ⟨"java/lang/IllegalArgumentException", "<init>", "(Ljava/lang/String;)V"⟩ ∈ TB := TB_tab (i := 370) (by decide +kernel) rfl
theorem mw_371 : Cond.code ⟨"java/lang/IllegalArgumentException", "<init>", "(Ljava/lang/String;)V"⟩ prog_15_method_2_code 2 none ∈ TB := TB_tab (i := 371) (by decide +kernel) rfl
theorem mw_372 : Cond.methodLink "java/lang/IllegalArgumentException" 7 ⟨"java/lang/RuntimeException", "<init>", "(Ljava/lang/String;)V"⟩ ∈ TB := TB_tab (i := 372) (by decide +kernel) rfl
theorem mw_373 : Cond.instanceMethod ⟨"java/lang/RuntimeException", "<init>", "(Ljava/lang/String;)V"⟩ ∈ TB := TB_tab (i := 373) (by decide +kernel) rfl
theorem mw_374 : Cond.code ⟨"java/lang/RuntimeException", "<init>", "(Ljava/lang/String;)V"⟩ prog_18_method_2_code 2 none ∈ TB := TB_tab (i := 374) (by decide +kernel) rfl
theorem mw_375 : Cond.methodLink "java/lang/RuntimeException" 7 ⟨"java/lang/Exception", "<init>", "(Ljava/lang/String;)V"⟩ ∈ TB := TB_tab (i := 375) (by decide +kernel) rfl
theorem mw_376 : Cond.instanceMethod ⟨"java/lang/Exception", "<init>", "(Ljava/lang/String;)V"⟩ ∈ TB := TB_tab (i := 376) (by decide +kernel) rfl
theorem mw_377 : Cond.code ⟨"java/lang/Exception", "<init>", "(Ljava/lang/String;)V"⟩ prog_14_method_2_code 2 none ∈ TB := TB_tab (i := 377) (by decide +kernel) rfl
theorem mw_378 : Cond.methodLink "java/lang/Exception" 7 ⟨"java/lang/Throwable", "<init>", "(Ljava/lang/String;)V"⟩ ∈ TB := TB_tab (i := 378) (by decide +kernel) rfl
theorem mw_379 : Cond.instanceMethod ⟨"java/lang/Throwable", "<init>", "(Ljava/lang/String;)V"⟩ ∈ TB := TB_tab (i := 379) (by decide +kernel) rfl
theorem mw_380 : Cond.code ⟨"java/lang/Throwable", "<init>", "(Ljava/lang/String;)V"⟩ prog_21_method_2_code 2 none ∈ TB := TB_tab (i := 380) (by decide +kernel) rfl
theorem mw_382 : Cond.fieldLink "java/lang/Throwable" 31 "java/lang/Throwable" "detailMessage" "Ljava/lang/String;" ∈ TB := TB_tab (i := 382) (by decide +kernel) rfl
theorem mw_383 : Cond.fieldLink "java/lang/Throwable" 7 "java/lang/Throwable" "cause" "Ljava/lang/Throwable;" ∈ TB := TB_tab (i := 383) (by decide +kernel) rfl
theorem mw_384 : Cond.fieldLink "java/lang/Throwable" 17 "java/lang/Throwable" "stackTrace" "[Ljava/lang/StackTraceElement;" ∈ TB := TB_tab (i := 384) (by decide +kernel) rfl
theorem mw_385 : Cond.fieldLink "java/lang/Throwable" 24 "java/lang/Throwable" "suppressedExceptions" "Ljava/util/List;" ∈ TB := TB_tab (i := 385) (by decide +kernel) rfl
theorem mw_394 : Cond.arrayClass .byte ∈ TB := TB_tab (i := 394) (by decide +kernel) rfl
theorem mw_395 : Cond.methodLink "StepMachines" 67 ⟨"StepMachines$Program", "layOut", "(I)V"⟩ ∈ TB := TB_tab (i := 395) (by decide +kernel) rfl
theorem mw_396 : Cond.instanceMethod ⟨"StepMachines$Program", "layOut", "(I)V"⟩ ∈ TB := TB_tab (i := 396) (by decide +kernel) rfl
theorem mw_397 : Cond.selects "StepMachines$Program" ⟨"StepMachines$Program", "layOut", "(I)V"⟩ ⟨"StepMachines$Program", "layOut", "(I)V"⟩ ∈ TB := TB_tab (i := 397) (by decide +kernel) rfl
theorem mw_398 : Cond.code ⟨"StepMachines$Program", "layOut", "(I)V"⟩ prog_5_method_3_code 3 none ∈ TB := TB_tab (i := 398) (by decide +kernel) rfl
theorem mw_399 : Cond.methodLink "StepMachines$Program" 32 ⟨"StepMachines$Program", "change", "(IIIII)V"⟩ ∈ TB := TB_tab (i := 399) (by decide +kernel) rfl
theorem mw_400 : Cond.instanceMethod ⟨"StepMachines$Program", "change", "(IIIII)V"⟩ ∈ TB := TB_tab (i := 400) (by decide +kernel) rfl
theorem mw_401 : Cond.selects "StepMachines$Program" ⟨"StepMachines$Program", "change", "(IIIII)V"⟩ ⟨"StepMachines$Program", "change", "(IIIII)V"⟩ ∈ TB := TB_tab (i := 401) (by decide +kernel) rfl
theorem mw_402 : Cond.code ⟨"StepMachines$Program", "change", "(IIIII)V"⟩ prog_5_method_4_code 6 none ∈ TB := TB_tab (i := 402) (by decide +kernel) rfl
theorem mw_403 : Cond.methodLink "StepMachines" 71 ⟨"StepMachines", "forgetWhatWasMade", "()V"⟩ ∈ TB := TB_tab (i := 403) (by decide +kernel) rfl
theorem mw_405 : Cond.instanceMethod ⟨"StepMachines", "forgetWhatWasMade", "()V"⟩ ∈ TB := TB_tab (i := 405) (by decide +kernel) rfl
theorem mw_406 : Cond.code ⟨"StepMachines", "forgetWhatWasMade", "()V"⟩ prog_1_method_15_code 1 none ∈ TB := TB_tab (i := 406) (by decide +kernel) rfl
theorem mw_407 : Cond.methodLink "StepMachines" 179 ⟨"StepMachines$Table", "forget", "()V"⟩ ∈ TB := TB_tab (i := 407) (by decide +kernel) rfl
theorem mw_408 : Cond.instanceMethod ⟨"StepMachines$Table", "forget", "()V"⟩ ∈ TB := TB_tab (i := 408) (by decide +kernel) rfl
theorem mw_409 : Cond.selects "StepMachines$Table" ⟨"StepMachines$Table", "forget", "()V"⟩ ⟨"StepMachines$Table", "forget", "()V"⟩ ∈ TB := TB_tab (i := 409) (by decide +kernel) rfl
theorem mw_410 : Cond.code ⟨"StepMachines$Table", "forget", "()V"⟩ prog_9_method_2_code 1 none ∈ TB := TB_tab (i := 410) (by decide +kernel) rfl
theorem mw_411 : Cond.methodLink "StepMachines" 182 ⟨"StepMachines$States", "forget", "()V"⟩ ∈ TB := TB_tab (i := 411) (by decide +kernel) rfl
theorem mw_412 : Cond.instanceMethod ⟨"StepMachines$States", "forget", "()V"⟩ ∈ TB := TB_tab (i := 412) (by decide +kernel) rfl
theorem mw_413 : Cond.selects "StepMachines$States" ⟨"StepMachines$States", "forget", "()V"⟩ ⟨"StepMachines$States", "forget", "()V"⟩ ∈ TB := TB_tab (i := 413) (by decide +kernel) rfl
theorem mw_414 : Cond.code ⟨"StepMachines$States", "forget", "()V"⟩ prog_7_method_3_code 1 none ∈ TB := TB_tab (i := 414) (by decide +kernel) rfl
theorem mw_415 : Cond.methodLink "StepMachines$States" 56 ⟨"StepMachines$Kept", "forget", "()V"⟩ ∈ TB := TB_tab (i := 415) (by decide +kernel) rfl
theorem mw_416 : Cond.instanceMethod ⟨"StepMachines$Kept", "forget", "()V"⟩ ∈ TB := TB_tab (i := 416) (by decide +kernel) rfl
theorem mw_417 : Cond.selects "StepMachines$Kept" ⟨"StepMachines$Kept", "forget", "()V"⟩ ⟨"StepMachines$Kept", "forget", "()V"⟩ ∈ TB := TB_tab (i := 417) (by decide +kernel) rfl
theorem mw_418 : Cond.code ⟨"StepMachines$Kept", "forget", "()V"⟩ prog_3_method_4_code 1 none ∈ TB := TB_tab (i := 418) (by decide +kernel) rfl
theorem mw_419 : Cond.methodLink "StepMachinesLaw" 49 ⟨"StepMachinesLaw", "step", "(LStepMachines;IIIII)I"⟩ ∈ TB := TB_tab (i := 419) (by decide +kernel) rfl
theorem mw_420 : Cond.static ⟨"StepMachinesLaw", "step", "(LStepMachines;IIIII)I"⟩ ∈ TB := TB_tab (i := 420) (by decide +kernel) rfl
theorem mw_422 : Cond.classLink "StepMachinesLaw" 19 "java/lang/IndexOutOfBoundsException" ∈ TB := TB_tab (i := 422) (by decide +kernel) rfl
theorem mw_423 : Cond.methodLink "StepMachinesLaw" 15 ⟨"StepMachines", "step", "(IIIII)V"⟩ ∈ TB := TB_tab (i := 423) (by decide +kernel) rfl
theorem mw_424 : Cond.instanceMethod ⟨"StepMachines", "step", "(IIIII)V"⟩ ∈ TB := TB_tab (i := 424) (by decide +kernel) rfl
theorem mw_425 : Cond.selects "StepMachines" ⟨"StepMachines", "step", "(IIIII)V"⟩ ⟨"StepMachines", "step", "(IIIII)V"⟩ ∈ TB := TB_tab (i := 425) (by decide +kernel) rfl
theorem mw_426 : Cond.code ⟨"StepMachines", "step", "(IIIII)V"⟩ prog_1_method_3_code 6 none ∈ TB := TB_tab (i := 426) (by decide +kernel) rfl
theorem mw_427 : Cond.methodLink "StepMachines" 74 ⟨"StepMachines$Program", "has", "(I)Z"⟩ ∈ TB := TB_tab (i := 427) (by decide +kernel) rfl
theorem mw_428 : Cond.instanceMethod ⟨"StepMachines$Program", "has", "(I)Z"⟩ ∈ TB := TB_tab (i := 428) (by decide +kernel) rfl
theorem mw_429 : Cond.selects "StepMachines$Program" ⟨"StepMachines$Program", "has", "(I)Z"⟩ ⟨"StepMachines$Program", "has", "(I)Z"⟩ ∈ TB := TB_tab (i := 429) (by decide +kernel) rfl
theorem mw_430 : Cond.code ⟨"StepMachines$Program", "has", "(I)Z"⟩ prog_5_method_5_code 2 (some .boolean) ∈ TB := TB_tab (i := 430) (by decide +kernel) rfl
theorem mw_431 : Cond.classLink "StepMachines" 78 "java/lang/IndexOutOfBoundsException" ∈ TB := TB_tab (i := 431) (by decide +kernel) rfl
theorem mw_432 : Cond.instantiable "java/lang/IndexOutOfBoundsException" 6 ∈ TB := TB_tab (i := 432) (by decide +kernel) rfl
theorem mw_434 : Cond.selects "java/lang/IndexOutOfBoundsException" ⟨"java/lang/Throwable", "fillInStackTrace", "(I)Ljava/lang/Throwable;"⟩ ⟨"java/lang/Throwable", "fillInStackTrace", "(I)Ljava/lang/Throwable;"⟩ ∈ TB := TB_tab (i := 434) (by decide +kernel) rfl
theorem mw_441 : Cond.methodLink "StepMachines" 82 ⟨"java/lang/IndexOutOfBoundsException", "<init>", "(Ljava/lang/String;)V"⟩ ∈ TB := TB_tab (i := 441) (by decide +kernel) rfl
theorem mw_442 : Cond.instanceMethod ⟨"java/lang/IndexOutOfBoundsException", "<init>", "(Ljava/lang/String;)V"⟩ ∈ TB := TB_tab (i := 442) (by decide +kernel) rfl
theorem mw_443 : Cond.code ⟨"java/lang/IndexOutOfBoundsException", "<init>", "(Ljava/lang/String;)V"⟩ prog_16_method_2_code 2 none ∈ TB := TB_tab (i := 443) (by decide +kernel) rfl
theorem mw_444 : Cond.methodLink "java/lang/IndexOutOfBoundsException" 7 ⟨"java/lang/RuntimeException", "<init>", "(Ljava/lang/String;)V"⟩ ∈ TB := TB_tab (i := 444) (by decide +kernel) rfl
theorem mw_450 : Cond.methodLink "StepMachines" 89 ⟨"StepMachines$Program", "isValue", "(II)Z"⟩ ∈ TB := TB_tab (i := 450) (by decide +kernel) rfl
theorem mw_451 : Cond.static ⟨"StepMachines$Program", "isValue", "(II)Z"⟩ ∈ TB := TB_tab (i := 451) (by decide +kernel) rfl
theorem mw_452 : Cond.code ⟨"StepMachines$Program", "isValue", "(II)Z"⟩ prog_5_method_2_code 2 (some .boolean) ∈ TB := TB_tab (i := 452) (by decide +kernel) rfl
theorem mw_453 : Cond.constant "StepMachines$Program" 31 (65536 : Int32) ∈ TB := TB_tab (i := 453) (by decide +kernel) rfl
theorem mw_455 : Cond.methodLink "StepMachines" 95 ⟨"StepMachines$Program", "change", "(IIIII)V"⟩ ∈ TB := TB_tab (i := 455) (by decide +kernel) rfl
theorem mw_456 : Cond.methodLink "StepMachinesLaw" 53 ⟨"StepMachinesLaw", "begin", "(LStepMachines;I)I"⟩ ∈ TB := TB_tab (i := 456) (by decide +kernel) rfl
theorem mw_457 : Cond.static ⟨"StepMachinesLaw", "begin", "(LStepMachines;I)I"⟩ ∈ TB := TB_tab (i := 457) (by decide +kernel) rfl
theorem mw_459 : Cond.methodLink "StepMachinesLaw" 21 ⟨"StepMachines", "begin", "(I)V"⟩ ∈ TB := TB_tab (i := 459) (by decide +kernel) rfl
theorem mw_460 : Cond.instanceMethod ⟨"StepMachines", "begin", "(I)V"⟩ ∈ TB := TB_tab (i := 460) (by decide +kernel) rfl
theorem mw_461 : Cond.selects "StepMachines" ⟨"StepMachines", "begin", "(I)V"⟩ ⟨"StepMachines", "begin", "(I)V"⟩ ∈ TB := TB_tab (i := 461) (by decide +kernel) rfl
theorem mw_462 : Cond.code ⟨"StepMachines", "begin", "(I)V"⟩ prog_1_method_4_code 2 none ∈ TB := TB_tab (i := 462) (by decide +kernel) rfl
theorem mw_464 : Cond.methodLink "StepMachinesLaw" 67 ⟨"StepMachinesLaw", "match", "(LStepMachines;IZII[J)I"⟩ ∈ TB := TB_tab (i := 464) (by decide +kernel) rfl
theorem mw_465 : Cond.static ⟨"StepMachinesLaw", "match", "(LStepMachines;IZII[J)I"⟩ ∈ TB := TB_tab (i := 465) (by decide +kernel) rfl
theorem mw_467 : Cond.methodLink "StepMachinesLaw" 24 ⟨"StepMachines", "match", "(IZII)I"⟩ ∈ TB := TB_tab (i := 467) (by decide +kernel) rfl
theorem mw_468 : Cond.instanceMethod ⟨"StepMachines", "match", "(IZII)I"⟩ ∈ TB := TB_tab (i := 468) (by decide +kernel) rfl
theorem mw_469 : Cond.selects "StepMachines" ⟨"StepMachines", "match", "(IZII)I"⟩ ⟨"StepMachines", "match", "(IZII)I"⟩ ∈ TB := TB_tab (i := 469) (by decide +kernel) rfl
theorem mw_470 : Cond.code ⟨"StepMachines", "match", "(IZII)I"⟩ prog_1_method_7_code 5 (some .int) ∈ TB := TB_tab (i := 470) (by decide +kernel) rfl
theorem mw_472 : Cond.methodLink "StepMachines" 112 ⟨"StepMachines", "isQuestion", "(II)Z"⟩ ∈ TB := TB_tab (i := 472) (by decide +kernel) rfl
theorem mw_474 : Cond.instanceMethod ⟨"StepMachines", "isQuestion", "(II)Z"⟩ ∈ TB := TB_tab (i := 474) (by decide +kernel) rfl
theorem mw_475 : Cond.code ⟨"StepMachines", "isQuestion", "(II)Z"⟩ prog_1_method_13_code 3 (some .boolean) ∈ TB := TB_tab (i := 475) (by decide +kernel) rfl
theorem mw_477 : Cond.methodLink "StepMachines" 117 ⟨"StepMachines$Tally", "open", "()V"⟩ ∈ TB := TB_tab (i := 477) (by decide +kernel) rfl
theorem mw_478 : Cond.instanceMethod ⟨"StepMachines$Tally", "open", "()V"⟩ ∈ TB := TB_tab (i := 478) (by decide +kernel) rfl
theorem mw_479 : Cond.selects "StepMachines$Tally" ⟨"StepMachines$Tally", "open", "()V"⟩ ⟨"StepMachines$Tally", "open", "()V"⟩ ∈ TB := TB_tab (i := 479) (by decide +kernel) rfl
theorem mw_480 : Cond.code ⟨"StepMachines$Tally", "open", "()V"⟩ prog_10_method_2_code 1 none ∈ TB := TB_tab (i := 480) (by decide +kernel) rfl
theorem mw_481 : Cond.methodLink "StepMachines" 120 ⟨"StepMachines", "readyMarks", "()LStepMachines$Marks;"⟩ ∈ TB := TB_tab (i := 481) (by decide +kernel) rfl
theorem mw_483 : Cond.instanceMethod ⟨"StepMachines", "readyMarks", "()LStepMachines$Marks;"⟩ ∈ TB := TB_tab (i := 483) (by decide +kernel) rfl
theorem mw_484 : Cond.code ⟨"StepMachines", "readyMarks", "()LStepMachines$Marks;"⟩ prog_1_method_18_code 1 (some (.object "StepMachines$Marks")) ∈ TB := TB_tab (i := 484) (by decide +kernel) rfl
theorem mw_485 : Cond.classLink "StepMachines" 125 "StepMachines$Marks" ∈ TB := TB_tab (i := 485) (by decide +kernel) rfl
theorem mw_486 : Cond.instantiable "StepMachines$Marks" 7 ∈ TB := TB_tab (i := 486) (by decide +kernel) rfl
theorem mw_487 : Cond.methodLink "StepMachines" 186 ⟨"StepMachines$Marks", "<init>", "(LStepMachines$Program;LStepMachines$Subject;LStepMachines$Tally;[I)V"⟩ ∈ TB := TB_tab (i := 487) (by decide +kernel) rfl
theorem mw_488 : Cond.instanceMethod ⟨"StepMachines$Marks", "<init>", "(LStepMachines$Program;LStepMachines$Subject;LStepMachines$Tally;[I)V"⟩ ∈ TB := TB_tab (i := 488) (by decide +kernel) rfl
theorem mw_489 : Cond.code ⟨"StepMachines$Marks", "<init>", "(LStepMachines$Program;LStepMachines$Subject;LStepMachines$Tally;[I)V"⟩ prog_4_method_1_code 5 none ∈ TB := TB_tab (i := 489) (by decide +kernel) rfl
theorem mw_490 : Cond.methodLink "StepMachines$Marks" 3 ⟨"java/lang/Object", "<init>", "()V"⟩ ∈ TB := TB_tab (i := 490) (by decide +kernel) rfl
theorem mw_491 : Cond.classLink "StepMachines$Marks" 15 "StepMachines$Jobs" ∈ TB := TB_tab (i := 491) (by decide +kernel) rfl
theorem mw_492 : Cond.methodLink "StepMachines$Marks" 17 ⟨"StepMachines$Jobs", "<init>", "(I)V"⟩ ∈ TB := TB_tab (i := 492) (by decide +kernel) rfl
theorem mw_493 : Cond.fieldLink "StepMachines$Marks" 27 "StepMachines$Marks" "program" "LStepMachines$Program;" ∈ TB := TB_tab (i := 493) (by decide +kernel) rfl
theorem mw_494 : Cond.fieldLink "StepMachines$Marks" 31 "StepMachines$Marks" "subject" "LStepMachines$Subject;" ∈ TB := TB_tab (i := 494) (by decide +kernel) rfl
theorem mw_495 : Cond.fieldLink "StepMachines$Marks" 35 "StepMachines$Marks" "tally" "LStepMachines$Tally;" ∈ TB := TB_tab (i := 495) (by decide +kernel) rfl
theorem mw_496 : Cond.fieldLink "StepMachines$Marks" 39 "StepMachines$Marks" "best" "[I" ∈ TB := TB_tab (i := 496) (by decide +kernel) rfl
theorem mw_497 : Cond.fieldLink "StepMachines$Marks" 9 "StepMachines$Marks" "now" "[I" ∈ TB := TB_tab (i := 497) (by decide +kernel) rfl
theorem mw_498 : Cond.fieldLink "StepMachines$Marks" 20 "StepMachines$Marks" "jobs" "LStepMachines$Jobs;" ∈ TB := TB_tab (i := 498) (by decide +kernel) rfl
theorem mw_499 : Cond.fieldLink "StepMachines$Marks" 24 "StepMachines$Marks" "tried" "[I" ∈ TB := TB_tab (i := 499) (by decide +kernel) rfl
theorem mw_515 : Cond.methodLink "StepMachines" 124 ⟨"StepMachines$Marks", "run", "(IZI)V"⟩ ∈ TB := TB_tab (i := 515) (by decide +kernel) rfl
theorem mw_516 : Cond.instanceMethod ⟨"StepMachines$Marks", "run", "(IZI)V"⟩ ∈ TB := TB_tab (i := 516) (by decide +kernel) rfl
theorem mw_517 : Cond.selects "StepMachines$Marks" ⟨"StepMachines$Marks", "run", "(IZI)V"⟩ ⟨"StepMachines$Marks", "run", "(IZI)V"⟩ ∈ TB := TB_tab (i := 517) (by decide +kernel) rfl
theorem mw_518 : Cond.code ⟨"StepMachines$Marks", "run", "(IZI)V"⟩ prog_4_method_2_code 6 none ∈ TB := TB_tab (i := 518) (by decide +kernel) rfl
theorem mw_519 : Cond.methodLink "StepMachines$Marks" 42 ⟨"StepMachines$Marks", "wipe", "()V"⟩ ∈ TB := TB_tab (i := 519) (by decide +kernel) rfl
theorem mw_521 : Cond.instanceMethod ⟨"StepMachines$Marks", "wipe", "()V"⟩ ∈ TB := TB_tab (i := 521) (by decide +kernel) rfl
theorem mw_522 : Cond.code ⟨"StepMachines$Marks", "wipe", "()V"⟩ prog_4_method_3_code 3 none ∈ TB := TB_tab (i := 522) (by decide +kernel) rfl
theorem mw_523 : Cond.methodLink "StepMachines$Marks" 60 ⟨"StepMachines$Jobs", "makeRoom", "(I)V"⟩ ∈ TB := TB_tab (i := 523) (by decide +kernel) rfl
theorem mw_524 : Cond.instanceMethod ⟨"StepMachines$Jobs", "makeRoom", "(I)V"⟩ ∈ TB := TB_tab (i := 524) (by decide +kernel) rfl
theorem mw_525 : Cond.selects "StepMachines$Jobs" ⟨"StepMachines$Jobs", "makeRoom", "(I)V"⟩ ⟨"StepMachines$Jobs", "makeRoom", "(I)V"⟩ ∈ TB := TB_tab (i := 525) (by decide +kernel) rfl
theorem mw_526 : Cond.code ⟨"StepMachines$Jobs", "makeRoom", "(I)V"⟩ prog_2_method_9_code 2 none ∈ TB := TB_tab (i := 526) (by decide +kernel) rfl
theorem mw_527 : Cond.methodLink "StepMachines$Jobs" 19 ⟨"java/lang/Math", "max", "(II)I"⟩ ∈ TB := TB_tab (i := 527) (by decide +kernel) rfl
theorem mw_528 : Cond.static ⟨"java/lang/Math", "max", "(II)I"⟩ ∈ TB := TB_tab (i := 528) (by decide +kernel) rfl
theorem mw_529 : Cond.code ⟨"java/lang/Math", "max", "(II)I"⟩ prog_17_method_65_code 2 (some .int) ∈ TB := TB_tab (i := 529) (by decide +kernel) rfl
theorem mw_530 : Cond.methodLink "StepMachines$Marks" 63 ⟨"java/lang/Math", "max", "(II)I"⟩ ∈ TB := TB_tab (i := 530) (by decide +kernel) rfl
theorem mw_531 : Cond.methodLink "StepMachines$Marks" 69 ⟨"java/util/Arrays", "fill", "([II)V"⟩ ∈ TB := TB_tab (i := 531) (by decide +kernel) rfl
theorem mw_532 : Cond.methodLink "StepMachines$Marks" 51 ⟨"StepMachines$Marks", "tryFrom", "(IIZ)V"⟩ ∈ TB := TB_tab (i := 532) (by decide +kernel) rfl
theorem mw_534 : Cond.instanceMethod ⟨"StepMachines$Marks", "tryFrom", "(IIZ)V"⟩ ∈ TB := TB_tab (i := 534) (by decide +kernel) rfl
theorem mw_535 : Cond.code ⟨"StepMachines$Marks", "tryFrom", "(IIZ)V"⟩ prog_4_method_4_code 6 none ∈ TB := TB_tab (i := 535) (by decide +kernel) rfl
theorem mw_536 : Cond.methodLink "StepMachines$Marks" 75 ⟨"StepMachines$Jobs", "drop", "()V"⟩ ∈ TB := TB_tab (i := 536) (by decide +kernel) rfl
theorem mw_537 : Cond.methodLink "StepMachines$Marks" 81 ⟨"StepMachines$Jobs", "stepAt", "(II)I"⟩ ∈ TB := TB_tab (i := 537) (by decide +kernel) rfl
theorem mw_538 : Cond.static ⟨"StepMachines$Jobs", "stepAt", "(II)I"⟩ ∈ TB := TB_tab (i := 538) (by decide +kernel) rfl
theorem mw_539 : Cond.code ⟨"StepMachines$Jobs", "stepAt", "(II)I"⟩ prog_2_method_2_code 2 (some .int) ∈ TB := TB_tab (i := 539) (by decide +kernel) rfl
theorem mw_540 : Cond.methodLink "StepMachines$Marks" 84 ⟨"StepMachines$Jobs", "add", "(I)V"⟩ ∈ TB := TB_tab (i := 540) (by decide +kernel) rfl
theorem mw_541 : Cond.constant "StepMachines$Marks" 87 (1000000 : Int32) ∈ TB := TB_tab (i := 541) (by decide +kernel) rfl
theorem mw_542 : Cond.methodLink "StepMachines$Marks" 88 ⟨"StepMachines$Jobs", "isEmpty", "()Z"⟩ ∈ TB := TB_tab (i := 542) (by decide +kernel) rfl
theorem mw_543 : Cond.methodLink "StepMachines$Marks" 92 ⟨"StepMachines$Jobs", "take", "()I"⟩ ∈ TB := TB_tab (i := 543) (by decide +kernel) rfl
theorem mw_544 : Cond.methodLink "StepMachines$Marks" 96 ⟨"StepMachines$Jobs", "isPutBack", "(I)Z"⟩ ∈ TB := TB_tab (i := 544) (by decide +kernel) rfl
theorem mw_545 : Cond.static ⟨"StepMachines$Jobs", "isPutBack", "(I)Z"⟩ ∈ TB := TB_tab (i := 545) (by decide +kernel) rfl
theorem mw_546 : Cond.code ⟨"StepMachines$Jobs", "isPutBack", "(I)Z"⟩ prog_2_method_6_code 1 (some .boolean) ∈ TB := TB_tab (i := 546) (by decide +kernel) rfl
theorem mw_547 : Cond.methodLink "StepMachines$Marks" 100 ⟨"StepMachines$Jobs", "putBack", "(I[I)V"⟩ ∈ TB := TB_tab (i := 547) (by decide +kernel) rfl
theorem mw_548 : Cond.static ⟨"StepMachines$Jobs", "putBack", "(I[I)V"⟩ ∈ TB := TB_tab (i := 548) (by decide +kernel) rfl
theorem mw_549 : Cond.code ⟨"StepMachines$Jobs", "putBack", "(I[I)V"⟩ prog_2_method_7_code 3 none ∈ TB := TB_tab (i := 549) (by decide +kernel) rfl
theorem mw_550 : Cond.methodLink "StepMachines$Marks" 104 ⟨"StepMachines$Jobs", "stepOf", "(I)I"⟩ ∈ TB := TB_tab (i := 550) (by decide +kernel) rfl
theorem mw_551 : Cond.static ⟨"StepMachines$Jobs", "stepOf", "(I)I"⟩ ∈ TB := TB_tab (i := 551) (by decide +kernel) rfl
theorem mw_552 : Cond.code ⟨"StepMachines$Jobs", "stepOf", "(I)I"⟩ prog_2_method_3_code 1 (some .int) ∈ TB := TB_tab (i := 552) (by decide +kernel) rfl
theorem mw_553 : Cond.methodLink "StepMachines$Marks" 108 ⟨"StepMachines$Jobs", "placeOf", "(I)I"⟩ ∈ TB := TB_tab (i := 553) (by decide +kernel) rfl
theorem mw_554 : Cond.static ⟨"StepMachines$Jobs", "placeOf", "(I)I"⟩ ∈ TB := TB_tab (i := 554) (by decide +kernel) rfl
theorem mw_555 : Cond.code ⟨"StepMachines$Jobs", "placeOf", "(I)I"⟩ prog_2_method_4_code 1 (some .int) ∈ TB := TB_tab (i := 555) (by decide +kernel) rfl
theorem mw_556 : Cond.methodLink "StepMachines$Marks" 111 ⟨"StepMachines$Marks", "visit", "(III)V"⟩ ∈ TB := TB_tab (i := 556) (by decide +kernel) rfl
theorem mw_558 : Cond.instanceMethod ⟨"StepMachines$Marks", "visit", "(III)V"⟩ ∈ TB := TB_tab (i := 558) (by decide +kernel) rfl
theorem mw_559 : Cond.code ⟨"StepMachines$Marks", "visit", "(III)V"⟩ prog_4_method_6_code 5 none ∈ TB := TB_tab (i := 559) (by decide +kernel) rfl
theorem mw_560 : Cond.methodLink "StepMachines$Marks" 115 ⟨"StepMachines$Tally", "count", "()V"⟩ ∈ TB := TB_tab (i := 560) (by decide +kernel) rfl
theorem mw_561 : Cond.methodLink "StepMachines$Marks" 120 ⟨"StepMachines$Marks", "isNew", "(II)Z"⟩ ∈ TB := TB_tab (i := 561) (by decide +kernel) rfl
theorem mw_563 : Cond.instanceMethod ⟨"StepMachines$Marks", "isNew", "(II)Z"⟩ ∈ TB := TB_tab (i := 563) (by decide +kernel) rfl
theorem mw_564 : Cond.code ⟨"StepMachines$Marks", "isNew", "(II)Z"⟩ prog_4_method_5_code 6 (some .boolean) ∈ TB := TB_tab (i := 564) (by decide +kernel) rfl
theorem mw_565 : Cond.methodLink "StepMachines$Marks" 130 ⟨"StepMachines$Marks", "end", "(II)V"⟩ ∈ TB := TB_tab (i := 565) (by decide +kernel) rfl
theorem mw_567 : Cond.instanceMethod ⟨"StepMachines$Marks", "end", "(II)V"⟩ ∈ TB := TB_tab (i := 567) (by decide +kernel) rfl
theorem mw_568 : Cond.code ⟨"StepMachines$Marks", "end", "(II)V"⟩ prog_4_method_7_code 3 none ∈ TB := TB_tab (i := 568) (by decide +kernel) rfl
theorem mw_569 : Cond.methodLink "StepMachines$Marks" 152 ⟨"StepMachines$Subject", "mayEnd", "(II)Z"⟩ ∈ TB := TB_tab (i := 569) (by decide +kernel) rfl
theorem mw_570 : Cond.instanceMethod ⟨"StepMachines$Subject", "mayEnd", "(II)Z"⟩ ∈ TB := TB_tab (i := 570) (by decide +kernel) rfl
theorem mw_571 : Cond.selects "StepMachines$Subject" ⟨"StepMachines$Subject", "mayEnd", "(II)Z"⟩ ⟨"StepMachines$Subject", "mayEnd", "(II)Z"⟩ ∈ TB := TB_tab (i := 571) (by decide +kernel) rfl
theorem mw_572 : Cond.code ⟨"StepMachines$Subject", "mayEnd", "(II)Z"⟩ prog_8_method_7_code 3 (some .boolean) ∈ TB := TB_tab (i := 572) (by decide +kernel) rfl
theorem mw_573 : Cond.methodLink "StepMachines$Marks" 155 ⟨"java/lang/System", "arraycopy", "(Ljava/lang/Object;ILjava/lang/Object;II)V"⟩ ∈ TB := TB_tab (i := 573) (by decide +kernel) rfl
theorem mw_574 : Cond.static ⟨"java/lang/System", "arraycopy", "(Ljava/lang/Object;ILjava/lang/Object;II)V"⟩ ∈ TB := TB_tab (i := 574) (by decide +kernel) rfl
theorem mw_575 : Cond.native ⟨"java/lang/System", "arraycopy", "(Ljava/lang/Object;ILjava/lang/Object;II)V"⟩ ∈ TB := TB_tab (i := 575) (by decide +kernel) rfl
theorem mw_576 : Cond.methodLink "StepMachines$Marks" 134 ⟨"StepMachines$Subject", "byteBehind", "(I)I"⟩ ∈ TB := TB_tab (i := 576) (by decide +kernel) rfl
theorem mw_577 : Cond.instanceMethod ⟨"StepMachines$Subject", "byteBehind", "(I)I"⟩ ∈ TB := TB_tab (i := 577) (by decide +kernel) rfl
theorem mw_578 : Cond.selects "StepMachines$Subject" ⟨"StepMachines$Subject", "byteBehind", "(I)I"⟩ ⟨"StepMachines$Subject", "byteBehind", "(I)I"⟩ ∈ TB := TB_tab (i := 578) (by decide +kernel) rfl
theorem mw_579 : Cond.code ⟨"StepMachines$Subject", "byteBehind", "(I)I"⟩ prog_8_method_5_code 2 (some .int) ∈ TB := TB_tab (i := 579) (by decide +kernel) rfl
theorem mw_580 : Cond.methodLink "StepMachines$Marks" 137 ⟨"StepMachines$Program", "takes", "(II)Z"⟩ ∈ TB := TB_tab (i := 580) (by decide +kernel) rfl
theorem mw_581 : Cond.methodLink "StepMachines$Marks" 146 ⟨"StepMachines$Jobs", "putBackOf", "(II)I"⟩ ∈ TB := TB_tab (i := 581) (by decide +kernel) rfl
theorem mw_582 : Cond.static ⟨"StepMachines$Jobs", "putBackOf", "(II)I"⟩ ∈ TB := TB_tab (i := 582) (by decide +kernel) rfl
theorem mw_583 : Cond.code ⟨"StepMachines$Jobs", "putBackOf", "(II)I"⟩ prog_2_method_5_code 2 (some .int) ∈ TB := TB_tab (i := 583) (by decide +kernel) rfl
theorem mw_584 : Cond.methodLink "StepMachines$Marks" 149 ⟨"StepMachines$Subject", "whatIsSoAt", "(I)I"⟩ ∈ TB := TB_tab (i := 584) (by decide +kernel) rfl
theorem mw_585 : Cond.instanceMethod ⟨"StepMachines$Subject", "whatIsSoAt", "(I)I"⟩ ∈ TB := TB_tab (i := 585) (by decide +kernel) rfl
theorem mw_586 : Cond.selects "StepMachines$Subject" ⟨"StepMachines$Subject", "whatIsSoAt", "(I)I"⟩ ⟨"StepMachines$Subject", "whatIsSoAt", "(I)I"⟩ ∈ TB := TB_tab (i := 586) (by decide +kernel) rfl
theorem mw_587 : Cond.code ⟨"StepMachines$Subject", "whatIsSoAt", "(I)I"⟩ prog_8_method_6_code 2 (some .int) ∈ TB := TB_tab (i := 587) (by decide +kernel) rfl
theorem mw_588 : Cond.methodLink "StepMachines$Subject" 23 ⟨"StepMachines$Subject", "byteBehind", "(I)I"⟩ ∈ TB := TB_tab (i := 588) (by decide +kernel) rfl
theorem mw_589 : Cond.methodLink "StepMachines$Subject" 27 ⟨"StepMachines$Subject", "whatIsSo", "(II)I"⟩ ∈ TB := TB_tab (i := 589) (by decide +kernel) rfl
theorem mw_590 : Cond.static ⟨"StepMachines$Subject", "whatIsSo", "(II)I"⟩ ∈ TB := TB_tab (i := 590) (by decide +kernel) rfl
theorem mw_591 : Cond.code ⟨"StepMachines$Subject", "whatIsSo", "(II)I"⟩ prog_8_method_2_code 3 (some .int) ∈ TB := TB_tab (i := 591) (by decide +kernel) rfl
theorem mw_592 : Cond.methodLink "StepMachines$Subject" 19 ⟨"StepMachines$Subject", "isWord", "(I)Z"⟩ ∈ TB := TB_tab (i := 592) (by decide +kernel) rfl
theorem mw_593 : Cond.static ⟨"StepMachines$Subject", "isWord", "(I)Z"⟩ ∈ TB := TB_tab (i := 593) (by decide +kernel) rfl
theorem mw_594 : Cond.code ⟨"StepMachines$Subject", "isWord", "(I)Z"⟩ prog_8_method_3_code 1 (some .boolean) ∈ TB := TB_tab (i := 594) (by decide +kernel) rfl
theorem mw_595 : Cond.methodLink "StepMachines" 130 ⟨"StepMachines", "canTable", "(I)Z"⟩ ∈ TB := TB_tab (i := 595) (by decide +kernel) rfl
theorem mw_597 : Cond.instanceMethod ⟨"StepMachines", "canTable", "(I)Z"⟩ ∈ TB := TB_tab (i := 597) (by decide +kernel) rfl
theorem mw_598 : Cond.code ⟨"StepMachines", "canTable", "(I)Z"⟩ prog_1_method_16_code 2 (some .boolean) ∈ TB := TB_tab (i := 598) (by decide +kernel) rfl
theorem mw_599 : Cond.methodLink "StepMachines" 137 ⟨"StepMachines$Table", "run", "(IZI)V"⟩ ∈ TB := TB_tab (i := 599) (by decide +kernel) rfl
theorem mw_600 : Cond.instanceMethod ⟨"StepMachines$Table", "run", "(IZI)V"⟩ ∈ TB := TB_tab (i := 600) (by decide +kernel) rfl
theorem mw_601 : Cond.selects "StepMachines$Table" ⟨"StepMachines$Table", "run", "(IZI)V"⟩ ⟨"StepMachines$Table", "run", "(IZI)V"⟩ ∈ TB := TB_tab (i := 601) (by decide +kernel) rfl
theorem mw_602 : Cond.code ⟨"StepMachines$Table", "run", "(IZI)V"⟩ prog_9_method_10_code 10 none ∈ TB := TB_tab (i := 602) (by decide +kernel) rfl
theorem mw_603 : Cond.methodLink "StepMachines$Table" 152 ⟨"StepMachines$Table", "endHere", "(III)Z"⟩ ∈ TB := TB_tab (i := 603) (by decide +kernel) rfl
theorem mw_605 : Cond.instanceMethod ⟨"StepMachines$Table", "endHere", "(III)Z"⟩ ∈ TB := TB_tab (i := 605) (by decide +kernel) rfl
theorem mw_606 : Cond.code ⟨"StepMachines$Table", "endHere", "(III)Z"⟩ prog_9_method_11_code 5 (some .boolean) ∈ TB := TB_tab (i := 606) (by decide +kernel) rfl
theorem mw_607 : Cond.methodLink "StepMachines$Table" 165 ⟨"StepMachines$Subject", "mayEnd", "(II)Z"⟩ ∈ TB := TB_tab (i := 607) (by decide +kernel) rfl
theorem mw_608 : Cond.methodLink "StepMachines$Table" 158 ⟨"StepMachines$Table", "allHold", "(II)Z"⟩ ∈ TB := TB_tab (i := 608) (by decide +kernel) rfl
theorem mw_610 : Cond.instanceMethod ⟨"StepMachines$Table", "allHold", "(II)Z"⟩ ∈ TB := TB_tab (i := 610) (by decide +kernel) rfl
theorem mw_611 : Cond.code ⟨"StepMachines$Table", "allHold", "(II)Z"⟩ prog_9_method_12_code 4 (some .boolean) ∈ TB := TB_tab (i := 611) (by decide +kernel) rfl
theorem mw_612 : Cond.methodLink "StepMachines$Table" 174 ⟨"StepMachines$Subject", "whatIsSoAt", "(I)I"⟩ ∈ TB := TB_tab (i := 612) (by decide +kernel) rfl
theorem mw_613 : Cond.methodLink "StepMachines$Table" 168 ⟨"java/lang/System", "arraycopy", "(Ljava/lang/Object;ILjava/lang/Object;II)V"⟩ ∈ TB := TB_tab (i := 613) (by decide +kernel) rfl
theorem mw_614 : Cond.methodLink "StepMachines$Table" 161 ⟨"StepMachines$Table", "save", "(II[I)V"⟩ ∈ TB := TB_tab (i := 614) (by decide +kernel) rfl
theorem mw_615 : Cond.static ⟨"StepMachines$Table", "save", "(II[I)V"⟩ ∈ TB := TB_tab (i := 615) (by decide +kernel) rfl
theorem mw_616 : Cond.code ⟨"StepMachines$Table", "save", "(II[I)V"⟩ prog_9_method_13_code 4 none ∈ TB := TB_tab (i := 616) (by decide +kernel) rfl
theorem mw_617 : Cond.methodLink "StepMachines$Table" 155 ⟨"StepMachines$Subject", "byteBehind", "(I)I"⟩ ∈ TB := TB_tab (i := 617) (by decide +kernel) rfl
theorem mw_618 : Cond.methodLink "StepMachines" 140 ⟨"StepMachines", "readyThreads", "()LStepMachines$Threads;"⟩ ∈ TB := TB_tab (i := 618) (by decide +kernel) rfl
theorem mw_620 : Cond.instanceMethod ⟨"StepMachines", "readyThreads", "()LStepMachines$Threads;"⟩ ∈ TB := TB_tab (i := 620) (by decide +kernel) rfl
theorem mw_621 : Cond.code ⟨"StepMachines", "readyThreads", "()LStepMachines$Threads;"⟩ prog_1_method_17_code 1 (some (.object "StepMachines$Threads")) ∈ TB := TB_tab (i := 621) (by decide +kernel) rfl
theorem mw_622 : Cond.classLink "StepMachines" 145 "StepMachines$Threads" ∈ TB := TB_tab (i := 622) (by decide +kernel) rfl
theorem mw_623 : Cond.instantiable "StepMachines$Threads" 11 ∈ TB := TB_tab (i := 623) (by decide +kernel) rfl
theorem mw_624 : Cond.methodLink "StepMachines" 183 ⟨"StepMachines$Threads", "<init>", "(LStepMachines$Program;LStepMachines$Subject;LStepMachines$Tally;[I)V"⟩ ∈ TB := TB_tab (i := 624) (by decide +kernel) rfl
theorem mw_625 : Cond.instanceMethod ⟨"StepMachines$Threads", "<init>", "(LStepMachines$Program;LStepMachines$Subject;LStepMachines$Tally;[I)V"⟩ ∈ TB := TB_tab (i := 625) (by decide +kernel) rfl
theorem mw_626 : Cond.code ⟨"StepMachines$Threads", "<init>", "(LStepMachines$Program;LStepMachines$Subject;LStepMachines$Tally;[I)V"⟩ prog_11_method_1_code 5 none ∈ TB := TB_tab (i := 626) (by decide +kernel) rfl
theorem mw_627 : Cond.methodLink "StepMachines$Threads" 3 ⟨"java/lang/Object", "<init>", "()V"⟩ ∈ TB := TB_tab (i := 627) (by decide +kernel) rfl
theorem mw_628 : Cond.classLink "StepMachines$Threads" 15 "StepMachines$Jobs" ∈ TB := TB_tab (i := 628) (by decide +kernel) rfl
theorem mw_629 : Cond.methodLink "StepMachines$Threads" 17 ⟨"StepMachines$Jobs", "<init>", "(I)V"⟩ ∈ TB := TB_tab (i := 629) (by decide +kernel) rfl
theorem mw_630 : Cond.classLink "StepMachines$Threads" 24 "StepMachines$Row" ∈ TB := TB_tab (i := 630) (by decide +kernel) rfl
theorem mw_632 : Cond.fieldLink "StepMachines$Threads" 44 "StepMachines$Threads" "program" "LStepMachines$Program;" ∈ TB := TB_tab (i := 632) (by decide +kernel) rfl
theorem mw_633 : Cond.fieldLink "StepMachines$Threads" 48 "StepMachines$Threads" "subject" "LStepMachines$Subject;" ∈ TB := TB_tab (i := 633) (by decide +kernel) rfl
theorem mw_634 : Cond.fieldLink "StepMachines$Threads" 52 "StepMachines$Threads" "tally" "LStepMachines$Tally;" ∈ TB := TB_tab (i := 634) (by decide +kernel) rfl
theorem mw_635 : Cond.fieldLink "StepMachines$Threads" 56 "StepMachines$Threads" "best" "[I" ∈ TB := TB_tab (i := 635) (by decide +kernel) rfl
theorem mw_636 : Cond.fieldLink "StepMachines$Threads" 9 "StepMachines$Threads" "now" "[I" ∈ TB := TB_tab (i := 636) (by decide +kernel) rfl
theorem mw_637 : Cond.fieldLink "StepMachines$Threads" 20 "StepMachines$Threads" "jobs" "LStepMachines$Jobs;" ∈ TB := TB_tab (i := 637) (by decide +kernel) rfl
theorem mw_638 : Cond.fieldLink "StepMachines$Threads" 27 "StepMachines$Threads" "here" "LStepMachines$Row;" ∈ TB := TB_tab (i := 638) (by decide +kernel) rfl
theorem mw_639 : Cond.fieldLink "StepMachines$Threads" 31 "StepMachines$Threads" "next" "LStepMachines$Row;" ∈ TB := TB_tab (i := 639) (by decide +kernel) rfl
theorem mw_640 : Cond.fieldLink "StepMachines$Threads" 34 "StepMachines$Threads" "savedHere" "[I" ∈ TB := TB_tab (i := 640) (by decide +kernel) rfl
theorem mw_641 : Cond.fieldLink "StepMachines$Threads" 37 "StepMachines$Threads" "savedNext" "[I" ∈ TB := TB_tab (i := 641) (by decide +kernel) rfl
theorem mw_642 : Cond.fieldLink "StepMachines$Threads" 40 "StepMachines$Threads" "so" "I" ∈ TB := TB_tab (i := 642) (by decide +kernel) rfl
theorem mw_666 : Cond.methodLink "StepMachines" 144 ⟨"StepMachines$Threads", "run", "(IZI)V"⟩ ∈ TB := TB_tab (i := 666) (by decide +kernel) rfl
theorem mw_667 : Cond.instanceMethod ⟨"StepMachines$Threads", "run", "(IZI)V"⟩ ∈ TB := TB_tab (i := 667) (by decide +kernel) rfl
theorem mw_668 : Cond.selects "StepMachines$Threads" ⟨"StepMachines$Threads", "run", "(IZI)V"⟩ ⟨"StepMachines$Threads", "run", "(IZI)V"⟩ ∈ TB := TB_tab (i := 668) (by decide +kernel) rfl
theorem mw_669 : Cond.code ⟨"StepMachines$Threads", "run", "(IZI)V"⟩ prog_11_method_2_code 5 none ∈ TB := TB_tab (i := 669) (by decide +kernel) rfl
theorem mw_670 : Cond.methodLink "StepMachines$Threads" 59 ⟨"StepMachines$Row", "empty", "()V"⟩ ∈ TB := TB_tab (i := 670) (by decide +kernel) rfl
theorem mw_671 : Cond.methodLink "StepMachines$Threads" 67 ⟨"StepMachines$Threads", "beginThread", "(I)V"⟩ ∈ TB := TB_tab (i := 671) (by decide +kernel) rfl
theorem mw_673 : Cond.instanceMethod ⟨"StepMachines$Threads", "beginThread", "(I)V"⟩ ∈ TB := TB_tab (i := 673) (by decide +kernel) rfl
theorem mw_674 : Cond.code ⟨"StepMachines$Threads", "beginThread", "(I)V"⟩ prog_11_method_3_code 2 none ∈ TB := TB_tab (i := 674) (by decide +kernel) rfl
theorem mw_675 : Cond.methodLink "StepMachines$Threads" 77 ⟨"java/util/Arrays", "fill", "([II)V"⟩ ∈ TB := TB_tab (i := 675) (by decide +kernel) rfl
theorem mw_676 : Cond.methodLink "StepMachines$Threads" 83 ⟨"StepMachines$Subject", "whatIsSoAt", "(I)I"⟩ ∈ TB := TB_tab (i := 676) (by decide +kernel) rfl
theorem mw_677 : Cond.methodLink "StepMachines$Threads" 92 ⟨"StepMachines$Threads", "comeTo", "(IILStepMachines$Row;[I)V"⟩ ∈ TB := TB_tab (i := 677) (by decide +kernel) rfl
theorem mw_679 : Cond.instanceMethod ⟨"StepMachines$Threads", "comeTo", "(IILStepMachines$Row;[I)V"⟩ ∈ TB := TB_tab (i := 679) (by decide +kernel) rfl
theorem mw_680 : Cond.code ⟨"StepMachines$Threads", "comeTo", "(IILStepMachines$Row;[I)V"⟩ prog_11_method_6_code 7 none ∈ TB := TB_tab (i := 680) (by decide +kernel) rfl
theorem mw_681 : Cond.methodLink "StepMachines$Threads" 121 ⟨"StepMachines$Jobs", "drop", "()V"⟩ ∈ TB := TB_tab (i := 681) (by decide +kernel) rfl
theorem mw_682 : Cond.methodLink "StepMachines$Threads" 124 ⟨"StepMachines$Jobs", "add", "(I)V"⟩ ∈ TB := TB_tab (i := 682) (by decide +kernel) rfl
theorem mw_683 : Cond.constant "StepMachines$Threads" 127 (1000000 : Int32) ∈ TB := TB_tab (i := 683) (by decide +kernel) rfl
theorem mw_684 : Cond.methodLink "StepMachines$Threads" 128 ⟨"StepMachines$Jobs", "isEmpty", "()Z"⟩ ∈ TB := TB_tab (i := 684) (by decide +kernel) rfl
theorem mw_685 : Cond.methodLink "StepMachines$Threads" 132 ⟨"StepMachines$Jobs", "take", "()I"⟩ ∈ TB := TB_tab (i := 685) (by decide +kernel) rfl
theorem mw_686 : Cond.methodLink "StepMachines$Threads" 136 ⟨"StepMachines$Jobs", "isPutBack", "(I)Z"⟩ ∈ TB := TB_tab (i := 686) (by decide +kernel) rfl
theorem mw_687 : Cond.methodLink "StepMachines$Threads" 140 ⟨"StepMachines$Jobs", "putBack", "(I[I)V"⟩ ∈ TB := TB_tab (i := 687) (by decide +kernel) rfl
theorem mw_688 : Cond.methodLink "StepMachines$Threads" 144 ⟨"StepMachines$Threads", "visit", "(IILStepMachines$Row;[I)V"⟩ ∈ TB := TB_tab (i := 688) (by decide +kernel) rfl
theorem mw_690 : Cond.instanceMethod ⟨"StepMachines$Threads", "visit", "(IILStepMachines$Row;[I)V"⟩ ∈ TB := TB_tab (i := 690) (by decide +kernel) rfl
theorem mw_691 : Cond.code ⟨"StepMachines$Threads", "visit", "(IILStepMachines$Row;[I)V"⟩ prog_11_method_7_code 6 none ∈ TB := TB_tab (i := 691) (by decide +kernel) rfl
theorem mw_692 : Cond.methodLink "StepMachines$Threads" 147 ⟨"StepMachines$Tally", "count", "()V"⟩ ∈ TB := TB_tab (i := 692) (by decide +kernel) rfl
theorem mw_693 : Cond.methodLink "StepMachines$Threads" 151 ⟨"StepMachines$Row", "meets", "(I)Z"⟩ ∈ TB := TB_tab (i := 693) (by decide +kernel) rfl
theorem mw_694 : Cond.methodLink "StepMachines$Threads" 160 ⟨"StepMachines$Row", "add", "(I)V"⟩ ∈ TB := TB_tab (i := 694) (by decide +kernel) rfl
theorem mw_695 : Cond.instanceMethod ⟨"StepMachines$Row", "add", "(I)V"⟩ ∈ TB := TB_tab (i := 695) (by decide +kernel) rfl
theorem mw_696 : Cond.selects "StepMachines$Row" ⟨"StepMachines$Row", "add", "(I)V"⟩ ⟨"StepMachines$Row", "add", "(I)V"⟩ ∈ TB := TB_tab (i := 696) (by decide +kernel) rfl
theorem mw_697 : Cond.code ⟨"StepMachines$Row", "add", "(I)V"⟩ prog_6_method_4_code 2 none ∈ TB := TB_tab (i := 697) (by decide +kernel) rfl
theorem mw_698 : Cond.methodLink "StepMachines$Threads" 109 ⟨"java/lang/System", "arraycopy", "(Ljava/lang/Object;ILjava/lang/Object;II)V"⟩ ∈ TB := TB_tab (i := 698) (by decide +kernel) rfl
theorem mw_699 : Cond.methodLink "StepMachines$Threads" 164 ⟨"StepMachines$Jobs", "putBackOf", "(II)I"⟩ ∈ TB := TB_tab (i := 699) (by decide +kernel) rfl
theorem mw_700 : Cond.methodLink "StepMachines$Threads" 70 ⟨"StepMachines$Threads", "goOverByte", "(IZI)V"⟩ ∈ TB := TB_tab (i := 700) (by decide +kernel) rfl
theorem mw_702 : Cond.instanceMethod ⟨"StepMachines$Threads", "goOverByte", "(IZI)V"⟩ ∈ TB := TB_tab (i := 702) (by decide +kernel) rfl
theorem mw_703 : Cond.code ⟨"StepMachines$Threads", "goOverByte", "(IZI)V"⟩ prog_11_method_4_code 7 none ∈ TB := TB_tab (i := 703) (by decide +kernel) rfl
theorem mw_704 : Cond.methodLink "StepMachines$Threads" 96 ⟨"StepMachines$Subject", "byteBehind", "(I)I"⟩ ∈ TB := TB_tab (i := 704) (by decide +kernel) rfl
theorem mw_705 : Cond.methodLink "StepMachines$Threads" 105 ⟨"StepMachines$Subject", "mayEnd", "(II)Z"⟩ ∈ TB := TB_tab (i := 705) (by decide +kernel) rfl
theorem mw_706 : Cond.methodLink "StepMachines$Threads" 115 ⟨"StepMachines$Program", "takes", "(II)Z"⟩ ∈ TB := TB_tab (i := 706) (by decide +kernel) rfl
theorem mw_707 : Cond.methodLink "StepMachines$Threads" 74 ⟨"StepMachines$Threads", "swapRows", "()V"⟩ ∈ TB := TB_tab (i := 707) (by decide +kernel) rfl
theorem mw_709 : Cond.instanceMethod ⟨"StepMachines$Threads", "swapRows", "()V"⟩ ∈ TB := TB_tab (i := 709) (by decide +kernel) rfl
theorem mw_710 : Cond.code ⟨"StepMachines$Threads", "swapRows", "()V"⟩ prog_11_method_5_code 3 none ∈ TB := TB_tab (i := 710) (by decide +kernel) rfl
theorem mw_711 : Cond.methodLink "StepMachines" 147 ⟨"StepMachines", "mostTaken", "()I"⟩ ∈ TB := TB_tab (i := 711) (by decide +kernel) rfl
theorem mw_713 : Cond.instanceMethod ⟨"StepMachines", "mostTaken", "()I"⟩ ∈ TB := TB_tab (i := 713) (by decide +kernel) rfl
theorem mw_714 : Cond.code ⟨"StepMachines", "mostTaken", "()I"⟩ prog_1_method_14_code 1 (some .int) ∈ TB := TB_tab (i := 714) (by decide +kernel) rfl
theorem mw_715 : Cond.methodLink "StepMachines" 151 ⟨"StepMachines$Tally", "close", "(I)V"⟩ ∈ TB := TB_tab (i := 715) (by decide +kernel) rfl
theorem mw_716 : Cond.instanceMethod ⟨"StepMachines$Tally", "close", "(I)V"⟩ ∈ TB := TB_tab (i := 716) (by decide +kernel) rfl
theorem mw_717 : Cond.selects "StepMachines$Tally" ⟨"StepMachines$Tally", "close", "(I)V"⟩ ⟨"StepMachines$Tally", "close", "(I)V"⟩ ∈ TB := TB_tab (i := 717) (by decide +kernel) rfl
theorem mw_718 : Cond.code ⟨"StepMachines$Tally", "close", "(I)V"⟩ prog_10_method_4_code 2 none ∈ TB := TB_tab (i := 718) (by decide +kernel) rfl
theorem mw_719 : Cond.methodLink "StepMachinesLaw" 76 ⟨"StepMachinesLaw", "ends", "(LStepMachines;IZI[J)I"⟩ ∈ TB := TB_tab (i := 719) (by decide +kernel) rfl
theorem mw_720 : Cond.static ⟨"StepMachinesLaw", "ends", "(LStepMachines;IZI[J)I"⟩ ∈ TB := TB_tab (i := 720) (by decide +kernel) rfl
theorem mw_722 : Cond.methodLink "StepMachinesLaw" 28 ⟨"StepMachines", "ends", "(IZI)I"⟩ ∈ TB := TB_tab (i := 722) (by decide +kernel) rfl
theorem mw_723 : Cond.instanceMethod ⟨"StepMachines", "ends", "(IZI)I"⟩ ∈ TB := TB_tab (i := 723) (by decide +kernel) rfl
theorem mw_724 : Cond.selects "StepMachines" ⟨"StepMachines", "ends", "(IZI)I"⟩ ⟨"StepMachines", "ends", "(IZI)I"⟩ ∈ TB := TB_tab (i := 724) (by decide +kernel) rfl
theorem mw_725 : Cond.code ⟨"StepMachines", "ends", "(IZI)I"⟩ prog_1_method_9_code 5 (some .int) ∈ TB := TB_tab (i := 725) (by decide +kernel) rfl
theorem mw_727 : Cond.classLink "StepMachines" 156 "StepMachines$States" ∈ TB := TB_tab (i := 727) (by decide +kernel) rfl
theorem mw_728 : Cond.instantiable "StepMachines$States" 8 ∈ TB := TB_tab (i := 728) (by decide +kernel) rfl
theorem mw_729 : Cond.methodLink "StepMachines" 158 ⟨"StepMachines$States", "<init>", "(LStepMachines$Program;LStepMachines$Subject;LStepMachines$Tally;I)V"⟩ ∈ TB := TB_tab (i := 729) (by decide +kernel) rfl
theorem mw_730 : Cond.instanceMethod ⟨"StepMachines$States", "<init>", "(LStepMachines$Program;LStepMachines$Subject;LStepMachines$Tally;I)V"⟩ ∈ TB := TB_tab (i := 730) (by decide +kernel) rfl
theorem mw_731 : Cond.code ⟨"StepMachines$States", "<init>", "(LStepMachines$Program;LStepMachines$Subject;LStepMachines$Tally;I)V"⟩ prog_7_method_1_code 5 none ∈ TB := TB_tab (i := 731) (by decide +kernel) rfl
theorem mw_732 : Cond.methodLink "StepMachines$States" 3 ⟨"java/lang/Object", "<init>", "()V"⟩ ∈ TB := TB_tab (i := 732) (by decide +kernel) rfl
theorem mw_733 : Cond.classLink "StepMachines$States" 9 "StepMachines$Row" ∈ TB := TB_tab (i := 733) (by decide +kernel) rfl
theorem mw_735 : Cond.classLink "StepMachines$States" 21 "StepMachines$Jobs" ∈ TB := TB_tab (i := 735) (by decide +kernel) rfl
theorem mw_736 : Cond.methodLink "StepMachines$States" 23 ⟨"StepMachines$Jobs", "<init>", "(I)V"⟩ ∈ TB := TB_tab (i := 736) (by decide +kernel) rfl
theorem mw_737 : Cond.classLink "StepMachines$States" 46 "StepMachines$Kept" ∈ TB := TB_tab (i := 737) (by decide +kernel) rfl
theorem mw_738 : Cond.instantiable "StepMachines$Kept" 7 ∈ TB := TB_tab (i := 738) (by decide +kernel) rfl
theorem mw_739 : Cond.methodLink "StepMachines$States" 48 ⟨"StepMachines$Kept", "<init>", "(I)V"⟩ ∈ TB := TB_tab (i := 739) (by decide +kernel) rfl
theorem mw_740 : Cond.instanceMethod ⟨"StepMachines$Kept", "<init>", "(I)V"⟩ ∈ TB := TB_tab (i := 740) (by decide +kernel) rfl
theorem mw_741 : Cond.code ⟨"StepMachines$Kept", "<init>", "(I)V"⟩ prog_3_method_1_code 2 none ∈ TB := TB_tab (i := 741) (by decide +kernel) rfl
theorem mw_742 : Cond.methodLink "StepMachines$Kept" 3 ⟨"java/lang/Object", "<init>", "()V"⟩ ∈ TB := TB_tab (i := 742) (by decide +kernel) rfl
theorem mw_743 : Cond.methodLink "StepMachines$Kept" 18 ⟨"StepMachines$Kept", "makeRoom", "(I)V"⟩ ∈ TB := TB_tab (i := 743) (by decide +kernel) rfl
theorem mw_745 : Cond.instanceMethod ⟨"StepMachines$Kept", "makeRoom", "(I)V"⟩ ∈ TB := TB_tab (i := 745) (by decide +kernel) rfl
theorem mw_746 : Cond.code ⟨"StepMachines$Kept", "makeRoom", "(I)V"⟩ prog_3_method_3_code 3 none ∈ TB := TB_tab (i := 746) (by decide +kernel) rfl
theorem mw_747 : Cond.methodLink "StepMachines$Kept" 29 ⟨"java/lang/Math", "max", "(II)I"⟩ ∈ TB := TB_tab (i := 747) (by decide +kernel) rfl
theorem mw_748 : Cond.fieldLink "StepMachines$Kept" 35 "StepMachines$Kept" "steps" "[I" ∈ TB := TB_tab (i := 748) (by decide +kernel) rfl
theorem mw_749 : Cond.fieldLink "StepMachines$Kept" 25 "StepMachines$Kept" "counts" "[I" ∈ TB := TB_tab (i := 749) (by decide +kernel) rfl
theorem mw_750 : Cond.fieldLink "StepMachines$Kept" 38 "StepMachines$Kept" "labels" "[I" ∈ TB := TB_tab (i := 750) (by decide +kernel) rfl
theorem mw_751 : Cond.fieldLink "StepMachines$Kept" 41 "StepMachines$Kept" "sums" "[I" ∈ TB := TB_tab (i := 751) (by decide +kernel) rfl
theorem mw_752 : Cond.fieldLink "StepMachines$Kept" 44 "StepMachines$Kept" "moves" "[I" ∈ TB := TB_tab (i := 752) (by decide +kernel) rfl
theorem mw_753 : Cond.fieldLink "StepMachines$Kept" 9 "StepMachines$Kept" "most" "I" ∈ TB := TB_tab (i := 753) (by decide +kernel) rfl
theorem mw_754 : Cond.fieldLink "StepMachines$Kept" 15 "StepMachines$Kept" "kept" "I" ∈ TB := TB_tab (i := 754) (by decide +kernel) rfl
theorem mw_770 : Cond.fieldLink "StepMachines$States" 34 "StepMachines$States" "program" "LStepMachines$Program;" ∈ TB := TB_tab (i := 770) (by decide +kernel) rfl
theorem mw_771 : Cond.fieldLink "StepMachines$States" 38 "StepMachines$States" "subject" "LStepMachines$Subject;" ∈ TB := TB_tab (i := 771) (by decide +kernel) rfl
theorem mw_772 : Cond.fieldLink "StepMachines$States" 42 "StepMachines$States" "tally" "LStepMachines$Tally;" ∈ TB := TB_tab (i := 772) (by decide +kernel) rfl
theorem mw_773 : Cond.fieldLink "StepMachines$States" 49 "StepMachines$States" "kept" "LStepMachines$Kept;" ∈ TB := TB_tab (i := 773) (by decide +kernel) rfl
theorem mw_774 : Cond.fieldLink "StepMachines$States" 12 "StepMachines$States" "walked" "LStepMachines$Row;" ∈ TB := TB_tab (i := 774) (by decide +kernel) rfl
theorem mw_775 : Cond.fieldLink "StepMachines$States" 18 "StepMachines$States" "onward" "LStepMachines$Row;" ∈ TB := TB_tab (i := 775) (by decide +kernel) rfl
theorem mw_776 : Cond.fieldLink "StepMachines$States" 26 "StepMachines$States" "jobs" "LStepMachines$Jobs;" ∈ TB := TB_tab (i := 776) (by decide +kernel) rfl
theorem mw_777 : Cond.fieldLink "StepMachines$States" 30 "StepMachines$States" "so" "I" ∈ TB := TB_tab (i := 777) (by decide +kernel) rfl
theorem mw_795 : Cond.methodLink "StepMachines" 161 ⟨"StepMachines$States", "run", "(IZI)I"⟩ ∈ TB := TB_tab (i := 795) (by decide +kernel) rfl
theorem mw_796 : Cond.instanceMethod ⟨"StepMachines$States", "run", "(IZI)I"⟩ ∈ TB := TB_tab (i := 796) (by decide +kernel) rfl
theorem mw_797 : Cond.selects "StepMachines$States" ⟨"StepMachines$States", "run", "(IZI)I"⟩ ⟨"StepMachines$States", "run", "(IZI)I"⟩ ∈ TB := TB_tab (i := 797) (by decide +kernel) rfl
theorem mw_798 : Cond.code ⟨"StepMachines$States", "run", "(IZI)I"⟩ prog_7_method_4_code 9 (some .int) ∈ TB := TB_tab (i := 798) (by decide +kernel) rfl
theorem mw_799 : Cond.methodLink "StepMachines$States" 59 ⟨"StepMachines$States", "goalOf", "(IZ)I"⟩ ∈ TB := TB_tab (i := 799) (by decide +kernel) rfl
theorem mw_800 : Cond.static ⟨"StepMachines$States", "goalOf", "(IZ)I"⟩ ∈ TB := TB_tab (i := 800) (by decide +kernel) rfl
theorem mw_801 : Cond.code ⟨"StepMachines$States", "goalOf", "(IZ)I"⟩ prog_7_method_5_code 2 (some .int) ∈ TB := TB_tab (i := 801) (by decide +kernel) rfl
theorem mw_802 : Cond.methodLink "StepMachines$States" 63 ⟨"StepMachines$Subject", "byteBehind", "(I)I"⟩ ∈ TB := TB_tab (i := 802) (by decide +kernel) rfl
theorem mw_803 : Cond.methodLink "StepMachines$States" 69 ⟨"StepMachines$States", "firstState", "(II)I"⟩ ∈ TB := TB_tab (i := 803) (by decide +kernel) rfl
theorem mw_805 : Cond.instanceMethod ⟨"StepMachines$States", "firstState", "(II)I"⟩ ∈ TB := TB_tab (i := 805) (by decide +kernel) rfl
theorem mw_806 : Cond.code ⟨"StepMachines$States", "firstState", "(II)I"⟩ prog_7_method_7_code 3 (some .int) ∈ TB := TB_tab (i := 806) (by decide +kernel) rfl
theorem mw_807 : Cond.methodLink "StepMachines$States" 87 ⟨"StepMachines$Row", "empty", "()V"⟩ ∈ TB := TB_tab (i := 807) (by decide +kernel) rfl
theorem mw_808 : Cond.methodLink "StepMachines$States" 95 ⟨"StepMachines$Row", "add", "(I)V"⟩ ∈ TB := TB_tab (i := 808) (by decide +kernel) rfl
theorem mw_809 : Cond.methodLink "StepMachines$States" 98 ⟨"StepMachines$States", "labelOf", "(II)I"⟩ ∈ TB := TB_tab (i := 809) (by decide +kernel) rfl
theorem mw_810 : Cond.static ⟨"StepMachines$States", "labelOf", "(II)I"⟩ ∈ TB := TB_tab (i := 810) (by decide +kernel) rfl
theorem mw_811 : Cond.code ⟨"StepMachines$States", "labelOf", "(II)I"⟩ prog_7_method_6_code 3 (some .int) ∈ TB := TB_tab (i := 811) (by decide +kernel) rfl
theorem mw_812 : Cond.methodLink "StepMachines$States" 79 ⟨"StepMachines$Subject", "isWord", "(I)Z"⟩ ∈ TB := TB_tab (i := 812) (by decide +kernel) rfl
theorem mw_813 : Cond.fieldLink "StepMachines$States" 83 "StepMachines$States" "BEFORE" "[I" ∈ TB := TB_tab (i := 813) (by decide +kernel) rfl
theorem mw_815 : Cond.methodLink "StepMachines$States" 101 ⟨"StepMachines$Kept", "numberOf", "(LStepMachines$Row;I)I"⟩ ∈ TB := TB_tab (i := 815) (by decide +kernel) rfl
theorem mw_816 : Cond.instanceMethod ⟨"StepMachines$Kept", "numberOf", "(LStepMachines$Row;I)I"⟩ ∈ TB := TB_tab (i := 816) (by decide +kernel) rfl
theorem mw_817 : Cond.selects "StepMachines$Kept" ⟨"StepMachines$Kept", "numberOf", "(LStepMachines$Row;I)I"⟩ ⟨"StepMachines$Kept", "numberOf", "(LStepMachines$Row;I)I"⟩ ∈ TB := TB_tab (i := 817) (by decide +kernel) rfl
theorem mw_818 : Cond.code ⟨"StepMachines$Kept", "numberOf", "(LStepMachines$Row;I)I"⟩ prog_3_method_11_code 5 (some .int) ∈ TB := TB_tab (i := 818) (by decide +kernel) rfl
theorem mw_819 : Cond.methodLink "StepMachines$Kept" 47 ⟨"StepMachines$Kept", "sumOf", "(LStepMachines$Row;I)I"⟩ ∈ TB := TB_tab (i := 819) (by decide +kernel) rfl
theorem mw_820 : Cond.static ⟨"StepMachines$Kept", "sumOf", "(LStepMachines$Row;I)I"⟩ ∈ TB := TB_tab (i := 820) (by decide +kernel) rfl
theorem mw_821 : Cond.code ⟨"StepMachines$Kept", "sumOf", "(LStepMachines$Row;I)I"⟩ prog_3_method_12_code 4 (some .int) ∈ TB := TB_tab (i := 821) (by decide +kernel) rfl
theorem mw_822 : Cond.methodLink "StepMachines$Kept" 51 ⟨"StepMachines$Kept", "isSame", "(ILStepMachines$Row;I)Z"⟩ ∈ TB := TB_tab (i := 822) (by decide +kernel) rfl
theorem mw_824 : Cond.instanceMethod ⟨"StepMachines$Kept", "isSame", "(ILStepMachines$Row;I)Z"⟩ ∈ TB := TB_tab (i := 824) (by decide +kernel) rfl
theorem mw_825 : Cond.code ⟨"StepMachines$Kept", "isSame", "(ILStepMachines$Row;I)Z"⟩ prog_3_method_13_code 5 (some .boolean) ∈ TB := TB_tab (i := 825) (by decide +kernel) rfl
theorem mw_826 : Cond.methodLink "StepMachines$Kept" 65 ⟨"StepMachines$Kept", "stepOf", "(II)I"⟩ ∈ TB := TB_tab (i := 826) (by decide +kernel) rfl
theorem mw_827 : Cond.instanceMethod ⟨"StepMachines$Kept", "stepOf", "(II)I"⟩ ∈ TB := TB_tab (i := 827) (by decide +kernel) rfl
theorem mw_828 : Cond.selects "StepMachines$Kept" ⟨"StepMachines$Kept", "stepOf", "(II)I"⟩ ⟨"StepMachines$Kept", "stepOf", "(II)I"⟩ ∈ TB := TB_tab (i := 828) (by decide +kernel) rfl
theorem mw_829 : Cond.code ⟨"StepMachines$Kept", "stepOf", "(II)I"⟩ prog_3_method_8_code 3 (some .int) ∈ TB := TB_tab (i := 829) (by decide +kernel) rfl
theorem mw_830 : Cond.methodLink "StepMachines$Kept" 22 ⟨"StepMachines$Kept", "forget", "()V"⟩ ∈ TB := TB_tab (i := 830) (by decide +kernel) rfl
theorem mw_831 : Cond.methodLink "StepMachines$Kept" 55 ⟨"StepMachines$Kept", "add", "(LStepMachines$Row;II)V"⟩ ∈ TB := TB_tab (i := 831) (by decide +kernel) rfl
theorem mw_833 : Cond.instanceMethod ⟨"StepMachines$Kept", "add", "(LStepMachines$Row;II)V"⟩ ∈ TB := TB_tab (i := 833) (by decide +kernel) rfl
theorem mw_834 : Cond.code ⟨"StepMachines$Kept", "add", "(LStepMachines$Row;II)V"⟩ prog_3_method_14_code 5 none ∈ TB := TB_tab (i := 834) (by decide +kernel) rfl
theorem mw_835 : Cond.methodLink "StepMachines$Kept" 68 ⟨"java/lang/System", "arraycopy", "(Ljava/lang/Object;ILjava/lang/Object;II)V"⟩ ∈ TB := TB_tab (i := 835) (by decide +kernel) rfl
theorem mw_836 : Cond.methodLink "StepMachines$Kept" 74 ⟨"StepMachines$Kept", "know", "(III)V"⟩ ∈ TB := TB_tab (i := 836) (by decide +kernel) rfl
theorem mw_837 : Cond.instanceMethod ⟨"StepMachines$Kept", "know", "(III)V"⟩ ∈ TB := TB_tab (i := 837) (by decide +kernel) rfl
theorem mw_838 : Cond.selects "StepMachines$Kept" ⟨"StepMachines$Kept", "know", "(III)V"⟩ ⟨"StepMachines$Kept", "know", "(III)V"⟩ ∈ TB := TB_tab (i := 838) (by decide +kernel) rfl
theorem mw_839 : Cond.code ⟨"StepMachines$Kept", "know", "(III)V"⟩ prog_3_method_10_code 4 none ∈ TB := TB_tab (i := 839) (by decide +kernel) rfl
theorem mw_840 : Cond.methodLink "StepMachines$States" 76 ⟨"StepMachines$States", "moveFrom", "(II)I"⟩ ∈ TB := TB_tab (i := 840) (by decide +kernel) rfl
theorem mw_842 : Cond.instanceMethod ⟨"StepMachines$States", "moveFrom", "(II)I"⟩ ∈ TB := TB_tab (i := 842) (by decide +kernel) rfl
theorem mw_843 : Cond.code ⟨"StepMachines$States", "moveFrom", "(II)I"⟩ prog_7_method_8_code 10 (some .int) ∈ TB := TB_tab (i := 843) (by decide +kernel) rfl
theorem mw_844 : Cond.methodLink "StepMachines$States" 105 ⟨"StepMachines$Tally", "count", "()V"⟩ ∈ TB := TB_tab (i := 844) (by decide +kernel) rfl
theorem mw_845 : Cond.methodLink "StepMachines$States" 110 ⟨"StepMachines$Kept", "moveOf", "(II)I"⟩ ∈ TB := TB_tab (i := 845) (by decide +kernel) rfl
theorem mw_846 : Cond.instanceMethod ⟨"StepMachines$Kept", "moveOf", "(II)I"⟩ ∈ TB := TB_tab (i := 846) (by decide +kernel) rfl
theorem mw_847 : Cond.selects "StepMachines$Kept" ⟨"StepMachines$Kept", "moveOf", "(II)I"⟩ ⟨"StepMachines$Kept", "moveOf", "(II)I"⟩ ∈ TB := TB_tab (i := 847) (by decide +kernel) rfl
theorem mw_848 : Cond.code ⟨"StepMachines$Kept", "moveOf", "(II)I"⟩ prog_3_method_9_code 3 (some .int) ∈ TB := TB_tab (i := 848) (by decide +kernel) rfl
theorem mw_849 : Cond.methodLink "StepMachines$States" 113 ⟨"StepMachines$Kept", "labelOf", "(I)I"⟩ ∈ TB := TB_tab (i := 849) (by decide +kernel) rfl
theorem mw_850 : Cond.instanceMethod ⟨"StepMachines$Kept", "labelOf", "(I)I"⟩ ∈ TB := TB_tab (i := 850) (by decide +kernel) rfl
theorem mw_851 : Cond.selects "StepMachines$Kept" ⟨"StepMachines$Kept", "labelOf", "(I)I"⟩ ⟨"StepMachines$Kept", "labelOf", "(I)I"⟩ ∈ TB := TB_tab (i := 851) (by decide +kernel) rfl
theorem mw_852 : Cond.code ⟨"StepMachines$Kept", "labelOf", "(I)I"⟩ prog_3_method_6_code 2 (some .int) ∈ TB := TB_tab (i := 852) (by decide +kernel) rfl
theorem mw_853 : Cond.methodLink "StepMachines$States" 115 ⟨"StepMachines$States", "goOver", "(III)Z"⟩ ∈ TB := TB_tab (i := 853) (by decide +kernel) rfl
theorem mw_855 : Cond.instanceMethod ⟨"StepMachines$States", "goOver", "(III)Z"⟩ ∈ TB := TB_tab (i := 855) (by decide +kernel) rfl
theorem mw_856 : Cond.code ⟨"StepMachines$States", "goOver", "(III)Z"⟩ prog_7_method_9_code 8 (some .boolean) ∈ TB := TB_tab (i := 856) (by decide +kernel) rfl
theorem mw_857 : Cond.methodLink "StepMachines$States" 128 ⟨"StepMachines$Subject", "whatIsSo", "(II)I"⟩ ∈ TB := TB_tab (i := 857) (by decide +kernel) rfl
theorem mw_858 : Cond.methodLink "StepMachines$States" 131 ⟨"StepMachines$Kept", "countOf", "(I)I"⟩ ∈ TB := TB_tab (i := 858) (by decide +kernel) rfl
theorem mw_859 : Cond.instanceMethod ⟨"StepMachines$Kept", "countOf", "(I)I"⟩ ∈ TB := TB_tab (i := 859) (by decide +kernel) rfl
theorem mw_860 : Cond.selects "StepMachines$Kept" ⟨"StepMachines$Kept", "countOf", "(I)I"⟩ ⟨"StepMachines$Kept", "countOf", "(I)I"⟩ ∈ TB := TB_tab (i := 860) (by decide +kernel) rfl
theorem mw_861 : Cond.code ⟨"StepMachines$Kept", "countOf", "(I)I"⟩ prog_3_method_7_code 2 (some .int) ∈ TB := TB_tab (i := 861) (by decide +kernel) rfl
theorem mw_862 : Cond.methodLink "StepMachines$States" 134 ⟨"StepMachines$Kept", "stepOf", "(II)I"⟩ ∈ TB := TB_tab (i := 862) (by decide +kernel) rfl
theorem mw_863 : Cond.methodLink "StepMachines$States" 137 ⟨"StepMachines$States", "follow", "(III)Z"⟩ ∈ TB := TB_tab (i := 863) (by decide +kernel) rfl
theorem mw_865 : Cond.instanceMethod ⟨"StepMachines$States", "follow", "(III)Z"⟩ ∈ TB := TB_tab (i := 865) (by decide +kernel) rfl
theorem mw_866 : Cond.code ⟨"StepMachines$States", "follow", "(III)Z"⟩ prog_7_method_10_code 7 (some .boolean) ∈ TB := TB_tab (i := 866) (by decide +kernel) rfl
theorem mw_867 : Cond.methodLink "StepMachines$States" 140 ⟨"StepMachines$Jobs", "drop", "()V"⟩ ∈ TB := TB_tab (i := 867) (by decide +kernel) rfl
theorem mw_868 : Cond.methodLink "StepMachines$States" 143 ⟨"StepMachines$Jobs", "add", "(I)V"⟩ ∈ TB := TB_tab (i := 868) (by decide +kernel) rfl
theorem mw_869 : Cond.constant "StepMachines$States" 144 (1000000 : Int32) ∈ TB := TB_tab (i := 869) (by decide +kernel) rfl
theorem mw_870 : Cond.methodLink "StepMachines$States" 145 ⟨"StepMachines$Jobs", "isEmpty", "()Z"⟩ ∈ TB := TB_tab (i := 870) (by decide +kernel) rfl
theorem mw_871 : Cond.methodLink "StepMachines$States" 149 ⟨"StepMachines$Jobs", "take", "()I"⟩ ∈ TB := TB_tab (i := 871) (by decide +kernel) rfl
theorem mw_872 : Cond.methodLink "StepMachines$States" 152 ⟨"StepMachines$Row", "meets", "(I)Z"⟩ ∈ TB := TB_tab (i := 872) (by decide +kernel) rfl
theorem mw_873 : Cond.methodLink "StepMachines$States" 155 ⟨"StepMachines$States", "visit", "(II)V"⟩ ∈ TB := TB_tab (i := 873) (by decide +kernel) rfl
theorem mw_875 : Cond.instanceMethod ⟨"StepMachines$States", "visit", "(II)V"⟩ ∈ TB := TB_tab (i := 875) (by decide +kernel) rfl
theorem mw_876 : Cond.code ⟨"StepMachines$States", "visit", "(II)V"⟩ prog_7_method_11_code 3 none ∈ TB := TB_tab (i := 876) (by decide +kernel) rfl
theorem mw_877 : Cond.methodLink "StepMachines$States" 162 ⟨"StepMachines$Program", "takes", "(II)Z"⟩ ∈ TB := TB_tab (i := 877) (by decide +kernel) rfl
theorem mw_878 : Cond.methodLink "StepMachines$States" 119 ⟨"StepMachines$Kept", "count", "()I"⟩ ∈ TB := TB_tab (i := 878) (by decide +kernel) rfl
theorem mw_879 : Cond.instanceMethod ⟨"StepMachines$Kept", "count", "()I"⟩ ∈ TB := TB_tab (i := 879) (by decide +kernel) rfl
theorem mw_880 : Cond.selects "StepMachines$Kept" ⟨"StepMachines$Kept", "count", "()I"⟩ ⟨"StepMachines$Kept", "count", "()I"⟩ ∈ TB := TB_tab (i := 880) (by decide +kernel) rfl
theorem mw_881 : Cond.code ⟨"StepMachines$Kept", "count", "()I"⟩ prog_3_method_5_code 1 (some .int) ∈ TB := TB_tab (i := 881) (by decide +kernel) rfl
theorem mw_882 : Cond.methodLink "StepMachines$States" 124 ⟨"StepMachines$Kept", "know", "(III)V"⟩ ∈ TB := TB_tab (i := 882) (by decide +kernel) rfl
theorem mw_883 : Cond.methodLink "StepMachinesLaw" 80 ⟨"StepMachinesLaw", "keep", "(LStepMachines;I)I"⟩ ∈ TB := TB_tab (i := 883) (by decide +kernel) rfl
theorem mw_884 : Cond.static ⟨"StepMachinesLaw", "keep", "(LStepMachines;I)I"⟩ ∈ TB := TB_tab (i := 884) (by decide +kernel) rfl
theorem mw_886 : Cond.methodLink "StepMachinesLaw" 32 ⟨"StepMachines", "keep", "(I)V"⟩ ∈ TB := TB_tab (i := 886) (by decide +kernel) rfl
theorem mw_887 : Cond.instanceMethod ⟨"StepMachines", "keep", "(I)V"⟩ ∈ TB := TB_tab (i := 887) (by decide +kernel) rfl
theorem mw_888 : Cond.selects "StepMachines" ⟨"StepMachines", "keep", "(I)V"⟩ ⟨"StepMachines", "keep", "(I)V"⟩ ∈ TB := TB_tab (i := 888) (by decide +kernel) rfl
theorem mw_889 : Cond.code ⟨"StepMachines", "keep", "(I)V"⟩ prog_1_method_10_code 2 none ∈ TB := TB_tab (i := 889) (by decide +kernel) rfl
theorem mw_891 : Cond.methodLink "StepMachines" 166 ⟨"StepMachines$States", "allow", "(I)V"⟩ ∈ TB := TB_tab (i := 891) (by decide +kernel) rfl
theorem mw_892 : Cond.instanceMethod ⟨"StepMachines$States", "allow", "(I)V"⟩ ∈ TB := TB_tab (i := 892) (by decide +kernel) rfl
theorem mw_893 : Cond.selects "StepMachines$States" ⟨"StepMachines$States", "allow", "(I)V"⟩ ⟨"StepMachines$States", "allow", "(I)V"⟩ ∈ TB := TB_tab (i := 893) (by decide +kernel) rfl
theorem mw_894 : Cond.code ⟨"StepMachines$States", "allow", "(I)V"⟩ prog_7_method_2_code 2 none ∈ TB := TB_tab (i := 894) (by decide +kernel) rfl
theorem mw_895 : Cond.methodLink "StepMachines$States" 53 ⟨"StepMachines$Kept", "allow", "(I)V"⟩ ∈ TB := TB_tab (i := 895) (by decide +kernel) rfl
theorem mw_896 : Cond.instanceMethod ⟨"StepMachines$Kept", "allow", "(I)V"⟩ ∈ TB := TB_tab (i := 896) (by decide +kernel) rfl
theorem mw_897 : Cond.selects "StepMachines$Kept" ⟨"StepMachines$Kept", "allow", "(I)V"⟩ ⟨"StepMachines$Kept", "allow", "(I)V"⟩ ∈ TB := TB_tab (i := 897) (by decide +kernel) rfl
theorem mw_898 : Cond.code ⟨"StepMachines$Kept", "allow", "(I)V"⟩ prog_3_method_2_code 2 none ∈ TB := TB_tab (i := 898) (by decide +kernel) rfl
theorem mw_899 : Cond.classLink "StepMachinesLaw" 36 "StepMachinesModel" ∈ TB := TB_tab (i := 899) (by decide +kernel) rfl
theorem mw_900 : Cond.instantiable "StepMachinesModel" 25 ∈ TB := TB_tab (i := 900) (by decide +kernel) rfl
theorem mw_901 : Cond.methodLink "StepMachinesLaw" 38 ⟨"StepMachinesModel", "<init>", "()V"⟩ ∈ TB := TB_tab (i := 901) (by decide +kernel) rfl
theorem mw_902 : Cond.instanceMethod ⟨"StepMachinesModel", "<init>", "()V"⟩ ∈ TB := TB_tab (i := 902) (by decide +kernel) rfl
theorem mw_903 : Cond.code ⟨"StepMachinesModel", "<init>", "()V"⟩ prog_13_method_1_code 2 none ∈ TB := TB_tab (i := 903) (by decide +kernel) rfl
theorem mw_904 : Cond.methodLink "StepMachinesModel" 1 ⟨"java/lang/Object", "<init>", "()V"⟩ ∈ TB := TB_tab (i := 904) (by decide +kernel) rfl
theorem mw_905 : Cond.constant "StepMachinesModel" 29 (40200 : Int32) ∈ TB := TB_tab (i := 905) (by decide +kernel) rfl
theorem mw_906 : Cond.fieldLink "StepMachinesModel" 70 "StepMachinesModel" "thrown" "I" ∈ TB := TB_tab (i := 906) (by decide +kernel) rfl
theorem mw_907 : Cond.fieldLink "StepMachinesModel" 7 "StepMachinesModel" "steps" "I" ∈ TB := TB_tab (i := 907) (by decide +kernel) rfl
theorem mw_908 : Cond.fieldLink "StepMachinesModel" 73 "StepMachinesModel" "begin" "I" ∈ TB := TB_tab (i := 908) (by decide +kernel) rfl
theorem mw_909 : Cond.fieldLink "StepMachinesModel" 13 "StepMachinesModel" "kinds" "[I" ∈ TB := TB_tab (i := 909) (by decide +kernel) rfl
theorem mw_910 : Cond.fieldLink "StepMachinesModel" 17 "StepMachinesModel" "values" "[I" ∈ TB := TB_tab (i := 910) (by decide +kernel) rfl
theorem mw_911 : Cond.fieldLink "StepMachinesModel" 20 "StepMachinesModel" "first" "[I" ∈ TB := TB_tab (i := 911) (by decide +kernel) rfl
theorem mw_912 : Cond.fieldLink "StepMachinesModel" 23 "StepMachinesModel" "second" "[I" ∈ TB := TB_tab (i := 912) (by decide +kernel) rfl
theorem mw_913 : Cond.fieldLink "StepMachinesModel" 26 "StepMachinesModel" "subject" "[I" ∈ TB := TB_tab (i := 913) (by decide +kernel) rfl
theorem mw_914 : Cond.fieldLink "StepMachinesModel" 81 "StepMachinesModel" "length" "I" ∈ TB := TB_tab (i := 914) (by decide +kernel) rfl
theorem mw_915 : Cond.fieldLink "StepMachinesModel" 30 "StepMachinesModel" "can" "[Z" ∈ TB := TB_tab (i := 915) (by decide +kernel) rfl
theorem mw_916 : Cond.fieldLink "StepMachinesModel" 34 "StepMachinesModel" "come" "[Z" ∈ TB := TB_tab (i := 916) (by decide +kernel) rfl
theorem mw_917 : Cond.fieldLink "StepMachinesModel" 37 "StepMachinesModel" "saves" "[I" ∈ TB := TB_tab (i := 917) (by decide +kernel) rfl
theorem mw_918 : Cond.fieldLink "StepMachinesModel" 40 "StepMachinesModel" "kept" "[I" ∈ TB := TB_tab (i := 918) (by decide +kernel) rfl
theorem mw_919 : Cond.fieldLink "StepMachinesModel" 43 "StepMachinesModel" "pile" "[I" ∈ TB := TB_tab (i := 919) (by decide +kernel) rfl
theorem mw_920 : Cond.fieldLink "StepMachinesModel" 46 "StepMachinesModel" "pileTrail" "[I" ∈ TB := TB_tab (i := 920) (by decide +kernel) rfl
theorem mw_921 : Cond.fieldLink "StepMachinesModel" 49 "StepMachinesModel" "trailPlace" "[I" ∈ TB := TB_tab (i := 921) (by decide +kernel) rfl
theorem mw_922 : Cond.fieldLink "StepMachinesModel" 52 "StepMachinesModel" "trailOld" "[I" ∈ TB := TB_tab (i := 922) (by decide +kernel) rfl
theorem mw_923 : Cond.fieldLink "StepMachinesModel" 55 "StepMachinesModel" "seen" "[Z" ∈ TB := TB_tab (i := 923) (by decide +kernel) rfl
theorem mw_924 : Cond.fieldLink "StepMachinesModel" 102 "StepMachinesModel" "trail" "I" ∈ TB := TB_tab (i := 924) (by decide +kernel) rfl
theorem mw_925 : Cond.fieldLink "StepMachinesModel" 99 "StepMachinesModel" "high" "I" ∈ TB := TB_tab (i := 925) (by decide +kernel) rfl
theorem mw_926 : Cond.fieldLink "StepMachinesModel" 58 "StepMachinesModel" "starts" "[I" ∈ TB := TB_tab (i := 926) (by decide +kernel) rfl
theorem mw_927 : Cond.fieldLink "StepMachinesModel" 61 "StepMachinesModel" "bySaves" "[I" ∈ TB := TB_tab (i := 927) (by decide +kernel) rfl
theorem mw_928 : Cond.fieldLink "StepMachinesModel" 64 "StepMachinesModel" "byAsserts" "[I" ∈ TB := TB_tab (i := 928) (by decide +kernel) rfl
theorem mw_929 : Cond.fieldLink "StepMachinesModel" 67 "StepMachinesModel" "byTime" "[I" ∈ TB := TB_tab (i := 929) (by decide +kernel) rfl
theorem mw_930 : Cond.fieldLink "StepMachinesModel" 131 "StepMachinesModel" "many" "I" ∈ TB := TB_tab (i := 930) (by decide +kernel) rfl
theorem mw_982 : Cond.arrayClass .boolean ∈ TB := TB_tab (i := 982) (by decide +kernel) rfl
theorem mw_983 : Cond.methodLink "StepMachinesLaw" 45 ⟨"StepMachinesModel", "thrown", "()I"⟩ ∈ TB := TB_tab (i := 983) (by decide +kernel) rfl
theorem mw_984 : Cond.instanceMethod ⟨"StepMachinesModel", "thrown", "()I"⟩ ∈ TB := TB_tab (i := 984) (by decide +kernel) rfl
theorem mw_985 : Cond.selects "StepMachinesModel" ⟨"StepMachinesModel", "thrown", "()I"⟩ ⟨"StepMachinesModel", "thrown", "()I"⟩ ∈ TB := TB_tab (i := 985) (by decide +kernel) rfl
theorem mw_986 : Cond.code ⟨"StepMachinesModel", "thrown", "()I"⟩ prog_13_method_2_code 1 (some .int) ∈ TB := TB_tab (i := 986) (by decide +kernel) rfl
theorem mw_987 : Cond.methodLink "StepMachinesLaw" 44 ⟨"StepMachinesModel", "lay", "(I)V"⟩ ∈ TB := TB_tab (i := 987) (by decide +kernel) rfl
theorem mw_988 : Cond.instanceMethod ⟨"StepMachinesModel", "lay", "(I)V"⟩ ∈ TB := TB_tab (i := 988) (by decide +kernel) rfl
theorem mw_989 : Cond.selects "StepMachinesModel" ⟨"StepMachinesModel", "lay", "(I)V"⟩ ⟨"StepMachinesModel", "lay", "(I)V"⟩ ∈ TB := TB_tab (i := 989) (by decide +kernel) rfl
theorem mw_990 : Cond.code ⟨"StepMachinesModel", "lay", "(I)V"⟩ prog_13_method_4_code 3 none ∈ TB := TB_tab (i := 990) (by decide +kernel) rfl
theorem mw_991 : Cond.methodLink "StepMachinesLaw" 52 ⟨"StepMachinesModel", "step", "(IIIII)V"⟩ ∈ TB := TB_tab (i := 991) (by decide +kernel) rfl
theorem mw_992 : Cond.instanceMethod ⟨"StepMachinesModel", "step", "(IIIII)V"⟩ ∈ TB := TB_tab (i := 992) (by decide +kernel) rfl
theorem mw_993 : Cond.selects "StepMachinesModel" ⟨"StepMachinesModel", "step", "(IIIII)V"⟩ ⟨"StepMachinesModel", "step", "(IIIII)V"⟩ ∈ TB := TB_tab (i := 993) (by decide +kernel) rfl
theorem mw_994 : Cond.code ⟨"StepMachinesModel", "step", "(IIIII)V"⟩ prog_13_method_5_code 7 none ∈ TB := TB_tab (i := 994) (by decide +kernel) rfl
theorem mw_995 : Cond.methodLink "StepMachinesModel" 76 ⟨"StepMachinesModel", "isStep", "(I)Z"⟩ ∈ TB := TB_tab (i := 995) (by decide +kernel) rfl
theorem mw_997 : Cond.instanceMethod ⟨"StepMachinesModel", "isStep", "(I)Z"⟩ ∈ TB := TB_tab (i := 997) (by decide +kernel) rfl
theorem mw_998 : Cond.code ⟨"StepMachinesModel", "isStep", "(I)Z"⟩ prog_13_method_3_code 2 (some .boolean) ∈ TB := TB_tab (i := 998) (by decide +kernel) rfl
theorem mw_999 : Cond.constant "StepMachinesModel" 80 (65536 : Int32) ∈ TB := TB_tab (i := 999) (by decide +kernel) rfl
theorem mw_1000 : Cond.methodLink "StepMachinesLaw" 55 ⟨"StepMachinesModel", "begin", "(I)V"⟩ ∈ TB := TB_tab (i := 1000) (by decide +kernel) rfl
theorem mw_1001 : Cond.instanceMethod ⟨"StepMachinesModel", "begin", "(I)V"⟩ ∈ TB := TB_tab (i := 1001) (by decide +kernel) rfl
theorem mw_1002 : Cond.selects "StepMachinesModel" ⟨"StepMachinesModel", "begin", "(I)V"⟩ ⟨"StepMachinesModel", "begin", "(I)V"⟩ ∈ TB := TB_tab (i := 1002) (by decide +kernel) rfl
theorem mw_1003 : Cond.code ⟨"StepMachinesModel", "begin", "(I)V"⟩ prog_13_method_6_code 2 none ∈ TB := TB_tab (i := 1003) (by decide +kernel) rfl
theorem mw_1004 : Cond.methodLink "StepMachinesLaw" 62 ⟨"StepMachinesModel", "put", "(JI)Z"⟩ ∈ TB := TB_tab (i := 1004) (by decide +kernel) rfl
theorem mw_1005 : Cond.instanceMethod ⟨"StepMachinesModel", "put", "(JI)Z"⟩ ∈ TB := TB_tab (i := 1005) (by decide +kernel) rfl
theorem mw_1006 : Cond.selects "StepMachinesModel" ⟨"StepMachinesModel", "put", "(JI)Z"⟩ ⟨"StepMachinesModel", "put", "(JI)Z"⟩ ∈ TB := TB_tab (i := 1006) (by decide +kernel) rfl
theorem mw_1007 : Cond.code ⟨"StepMachinesModel", "put", "(JI)Z"⟩ prog_13_method_7_code 5 (some .boolean) ∈ TB := TB_tab (i := 1007) (by decide +kernel) rfl
theorem mw_1008 : Cond.constantLong "StepMachinesModel" 84 (255 : Int64) ∈ TB := TB_tab (i := 1008) (by decide +kernel) rfl
theorem mw_1009 : Cond.methodLink "StepMachinesLaw" 66 ⟨"StepMachinesModel", "clear", "()V"⟩ ∈ TB := TB_tab (i := 1009) (by decide +kernel) rfl
theorem mw_1010 : Cond.instanceMethod ⟨"StepMachinesModel", "clear", "()V"⟩ ∈ TB := TB_tab (i := 1010) (by decide +kernel) rfl
theorem mw_1011 : Cond.selects "StepMachinesModel" ⟨"StepMachinesModel", "clear", "()V"⟩ ⟨"StepMachinesModel", "clear", "()V"⟩ ∈ TB := TB_tab (i := 1011) (by decide +kernel) rfl
theorem mw_1012 : Cond.code ⟨"StepMachinesModel", "clear", "()V"⟩ prog_13_method_8_code 1 none ∈ TB := TB_tab (i := 1012) (by decide +kernel) rfl
theorem mw_1013 : Cond.methodLink "StepMachinesLaw" 70 ⟨"StepMachinesModel", "match", "(IZII)I"⟩ ∈ TB := TB_tab (i := 1013) (by decide +kernel) rfl
theorem mw_1014 : Cond.instanceMethod ⟨"StepMachinesModel", "match", "(IZII)I"⟩ ∈ TB := TB_tab (i := 1014) (by decide +kernel) rfl
theorem mw_1015 : Cond.selects "StepMachinesModel" ⟨"StepMachinesModel", "match", "(IZII)I"⟩ ⟨"StepMachinesModel", "match", "(IZII)I"⟩ ∈ TB := TB_tab (i := 1015) (by decide +kernel) rfl
theorem mw_1016 : Cond.code ⟨"StepMachinesModel", "match", "(IZII)I"⟩ prog_13_method_20_code 7 (some .int) ∈ TB := TB_tab (i := 1016) (by decide +kernel) rfl
theorem mw_1017 : Cond.methodLink "StepMachinesModel" 124 ⟨"StepMachinesModel", "isGood", "(II)Z"⟩ ∈ TB := TB_tab (i := 1017) (by decide +kernel) rfl
theorem mw_1019 : Cond.instanceMethod ⟨"StepMachinesModel", "isGood", "(II)Z"⟩ ∈ TB := TB_tab (i := 1019) (by decide +kernel) rfl
theorem mw_1020 : Cond.code ⟨"StepMachinesModel", "isGood", "(II)Z"⟩ prog_13_method_19_code 3 (some .boolean) ∈ TB := TB_tab (i := 1020) (by decide +kernel) rfl
theorem mw_1021 : Cond.methodLink "StepMachinesModel" 127 ⟨"StepMachinesModel", "find", "(IZI)I"⟩ ∈ TB := TB_tab (i := 1021) (by decide +kernel) rfl
theorem mw_1023 : Cond.instanceMethod ⟨"StepMachinesModel", "find", "(IZI)I"⟩ ∈ TB := TB_tab (i := 1023) (by decide +kernel) rfl
theorem mw_1024 : Cond.code ⟨"StepMachinesModel", "find", "(IZI)I"⟩ prog_13_method_18_code 7 (some .int) ∈ TB := TB_tab (i := 1024) (by decide +kernel) rfl
theorem mw_1025 : Cond.methodLink "StepMachinesModel" 112 ⟨"StepMachinesModel", "note", "(IIZ)V"⟩ ∈ TB := TB_tab (i := 1025) (by decide +kernel) rfl
theorem mw_1027 : Cond.instanceMethod ⟨"StepMachinesModel", "note", "(IIZ)V"⟩ ∈ TB := TB_tab (i := 1027) (by decide +kernel) rfl
theorem mw_1028 : Cond.code ⟨"StepMachinesModel", "note", "(IIZ)V"⟩ prog_13_method_13_code 8 none ∈ TB := TB_tab (i := 1028) (by decide +kernel) rfl
theorem mw_1029 : Cond.methodLink "StepMachinesModel" 93 ⟨"StepMachinesModel", "takes", "(II)Z"⟩ ∈ TB := TB_tab (i := 1029) (by decide +kernel) rfl
theorem mw_1031 : Cond.instanceMethod ⟨"StepMachinesModel", "takes", "(II)Z"⟩ ∈ TB := TB_tab (i := 1031) (by decide +kernel) rfl
theorem mw_1032 : Cond.code ⟨"StepMachinesModel", "takes", "(II)Z"⟩ prog_13_method_11_code 3 (some .boolean) ∈ TB := TB_tab (i := 1032) (by decide +kernel) rfl
theorem mw_1033 : Cond.methodLink "StepMachinesModel" 96 ⟨"StepMachinesModel", "passes", "(II)Z"⟩ ∈ TB := TB_tab (i := 1033) (by decide +kernel) rfl
theorem mw_1035 : Cond.instanceMethod ⟨"StepMachinesModel", "passes", "(II)Z"⟩ ∈ TB := TB_tab (i := 1035) (by decide +kernel) rfl
theorem mw_1036 : Cond.code ⟨"StepMachinesModel", "passes", "(II)Z"⟩ prog_13_method_12_code 3 (some .boolean) ∈ TB := TB_tab (i := 1036) (by decide +kernel) rfl
theorem mw_1037 : Cond.methodLink "StepMachinesModel" 89 ⟨"StepMachinesModel", "isSo", "(II)Z"⟩ ∈ TB := TB_tab (i := 1037) (by decide +kernel) rfl
theorem mw_1039 : Cond.instanceMethod ⟨"StepMachinesModel", "isSo", "(II)Z"⟩ ∈ TB := TB_tab (i := 1039) (by decide +kernel) rfl
theorem mw_1040 : Cond.code ⟨"StepMachinesModel", "isSo", "(II)Z"⟩ prog_13_method_10_code 3 (some .boolean) ∈ TB := TB_tab (i := 1040) (by decide +kernel) rfl
theorem mw_1041 : Cond.methodLink "StepMachinesModel" 86 ⟨"StepMachinesModel", "wordAt", "(I)Z"⟩ ∈ TB := TB_tab (i := 1041) (by decide +kernel) rfl
theorem mw_1043 : Cond.instanceMethod ⟨"StepMachinesModel", "wordAt", "(I)Z"⟩ ∈ TB := TB_tab (i := 1043) (by decide +kernel) rfl
theorem mw_1044 : Cond.code ⟨"StepMachinesModel", "wordAt", "(I)Z"⟩ prog_13_method_9_code 3 (some .boolean) ∈ TB := TB_tab (i := 1044) (by decide +kernel) rfl
theorem mw_1045 : Cond.methodLink "StepMachinesModel" 116 ⟨"StepMachinesModel", "lastEnd", "(I)I"⟩ ∈ TB := TB_tab (i := 1045) (by decide +kernel) rfl
theorem mw_1047 : Cond.instanceMethod ⟨"StepMachinesModel", "lastEnd", "(I)I"⟩ ∈ TB := TB_tab (i := 1047) (by decide +kernel) rfl
theorem mw_1048 : Cond.code ⟨"StepMachinesModel", "lastEnd", "(I)I"⟩ prog_13_method_14_code 7 (some .int) ∈ TB := TB_tab (i := 1048) (by decide +kernel) rfl
theorem mw_1049 : Cond.methodLink "StepMachinesModel" 120 ⟨"StepMachinesModel", "walk", "(II)I"⟩ ∈ TB := TB_tab (i := 1049) (by decide +kernel) rfl
theorem mw_1051 : Cond.instanceMethod ⟨"StepMachinesModel", "walk", "(II)I"⟩ ∈ TB := TB_tab (i := 1051) (by decide +kernel) rfl
theorem mw_1052 : Cond.code ⟨"StepMachinesModel", "walk", "(II)I"⟩ prog_13_method_17_code 7 (some .int) ∈ TB := TB_tab (i := 1052) (by decide +kernel) rfl
theorem mw_1053 : Cond.methodLink "StepMachinesModel" 105 ⟨"StepMachinesModel", "heap", "(I)V"⟩ ∈ TB := TB_tab (i := 1053) (by decide +kernel) rfl
theorem mw_1055 : Cond.instanceMethod ⟨"StepMachinesModel", "heap", "(I)V"⟩ ∈ TB := TB_tab (i := 1055) (by decide +kernel) rfl
theorem mw_1056 : Cond.code ⟨"StepMachinesModel", "heap", "(I)V"⟩ prog_13_method_15_code 2 none ∈ TB := TB_tab (i := 1056) (by decide +kernel) rfl
theorem mw_1057 : Cond.methodLink "StepMachinesModel" 109 ⟨"StepMachinesModel", "undo", "(I)V"⟩ ∈ TB := TB_tab (i := 1057) (by decide +kernel) rfl
theorem mw_1059 : Cond.instanceMethod ⟨"StepMachinesModel", "undo", "(I)V"⟩ ∈ TB := TB_tab (i := 1059) (by decide +kernel) rfl
theorem mw_1060 : Cond.code ⟨"StepMachinesModel", "undo", "(I)V"⟩ prog_13_method_16_code 2 none ∈ TB := TB_tab (i := 1060) (by decide +kernel) rfl
theorem mw_1061 : Cond.methodLink "StepMachinesLaw" 75 ⟨"StepMachinesModel", "saved", "(I)I"⟩ ∈ TB := TB_tab (i := 1061) (by decide +kernel) rfl
theorem mw_1062 : Cond.instanceMethod ⟨"StepMachinesModel", "saved", "(I)I"⟩ ∈ TB := TB_tab (i := 1062) (by decide +kernel) rfl
theorem mw_1063 : Cond.selects "StepMachinesModel" ⟨"StepMachinesModel", "saved", "(I)I"⟩ ⟨"StepMachinesModel", "saved", "(I)I"⟩ ∈ TB := TB_tab (i := 1063) (by decide +kernel) rfl
theorem mw_1064 : Cond.code ⟨"StepMachinesModel", "saved", "(I)I"⟩ prog_13_method_21_code 2 (some .int) ∈ TB := TB_tab (i := 1064) (by decide +kernel) rfl
theorem mw_1065 : Cond.methodLink "StepMachinesLaw" 79 ⟨"StepMachinesModel", "ends", "(IZI)I"⟩ ∈ TB := TB_tab (i := 1065) (by decide +kernel) rfl
theorem mw_1066 : Cond.instanceMethod ⟨"StepMachinesModel", "ends", "(IZI)I"⟩ ∈ TB := TB_tab (i := 1066) (by decide +kernel) rfl
theorem mw_1067 : Cond.selects "StepMachinesModel" ⟨"StepMachinesModel", "ends", "(IZI)I"⟩ ⟨"StepMachinesModel", "ends", "(IZI)I"⟩ ∈ TB := TB_tab (i := 1067) (by decide +kernel) rfl
theorem mw_1068 : Cond.code ⟨"StepMachinesModel", "ends", "(IZI)I"⟩ prog_13_method_22_code 4 (some .int) ∈ TB := TB_tab (i := 1068) (by decide +kernel) rfl
theorem mw_1069 : Cond.methodLink "StepMachinesLaw" 82 ⟨"StepMachinesModel", "keep", "(I)V"⟩ ∈ TB := TB_tab (i := 1069) (by decide +kernel) rfl
theorem mw_1070 : Cond.instanceMethod ⟨"StepMachinesModel", "keep", "(I)V"⟩ ∈ TB := TB_tab (i := 1070) (by decide +kernel) rfl
theorem mw_1071 : Cond.selects "StepMachinesModel" ⟨"StepMachinesModel", "keep", "(I)V"⟩ ⟨"StepMachinesModel", "keep", "(I)V"⟩ ∈ TB := TB_tab (i := 1071) (by decide +kernel) rfl
theorem mw_1072 : Cond.code ⟨"StepMachinesModel", "keep", "(I)V"⟩ prog_13_method_23_code 2 none ∈ TB := TB_tab (i := 1072) (by decide +kernel) rfl
theorem mw_1073 : Cond.methodLink "StepMachinesLaw" 87 ⟨"StepMachinesModel", "isOneWay", "()Z"⟩ ∈ TB := TB_tab (i := 1073) (by decide +kernel) rfl
theorem mw_1074 : Cond.instanceMethod ⟨"StepMachinesModel", "isOneWay", "()Z"⟩ ∈ TB := TB_tab (i := 1074) (by decide +kernel) rfl
theorem mw_1075 : Cond.selects "StepMachinesModel" ⟨"StepMachinesModel", "isOneWay", "()Z"⟩ ⟨"StepMachinesModel", "isOneWay", "()Z"⟩ ∈ TB := TB_tab (i := 1075) (by decide +kernel) rfl
theorem mw_1076 : Cond.code ⟨"StepMachinesModel", "isOneWay", "()Z"⟩ prog_13_method_30_code 5 (some .boolean) ∈ TB := TB_tab (i := 1076) (by decide +kernel) rfl
theorem mw_1077 : Cond.methodLink "StepMachinesModel" 141 ⟨"StepMachinesModel", "start", "(I)V"⟩ ∈ TB := TB_tab (i := 1077) (by decide +kernel) rfl
theorem mw_1079 : Cond.instanceMethod ⟨"StepMachinesModel", "start", "(I)V"⟩ ∈ TB := TB_tab (i := 1079) (by decide +kernel) rfl
theorem mw_1080 : Cond.code ⟨"StepMachinesModel", "start", "(I)V"⟩ prog_13_method_24_code 3 none ∈ TB := TB_tab (i := 1080) (by decide +kernel) rfl
theorem mw_1081 : Cond.methodLink "StepMachinesModel" 144 ⟨"StepMachinesModel", "spreads", "(I)Z"⟩ ∈ TB := TB_tab (i := 1081) (by decide +kernel) rfl
theorem mw_1083 : Cond.instanceMethod ⟨"StepMachinesModel", "spreads", "(I)Z"⟩ ∈ TB := TB_tab (i := 1083) (by decide +kernel) rfl
theorem mw_1084 : Cond.code ⟨"StepMachinesModel", "spreads", "(I)Z"⟩ prog_13_method_25_code 7 (some .boolean) ∈ TB := TB_tab (i := 1084) (by decide +kernel) rfl
theorem mw_1085 : Cond.methodLink "StepMachinesModel" 134 ⟨"StepMachinesModel", "isWaiting", "(I)Z"⟩ ∈ TB := TB_tab (i := 1085) (by decide +kernel) rfl
theorem mw_1087 : Cond.instanceMethod ⟨"StepMachinesModel", "isWaiting", "(I)Z"⟩ ∈ TB := TB_tab (i := 1087) (by decide +kernel) rfl
theorem mw_1088 : Cond.code ⟨"StepMachinesModel", "isWaiting", "(I)Z"⟩ prog_13_method_26_code 4 (some .boolean) ∈ TB := TB_tab (i := 1088) (by decide +kernel) rfl
theorem mw_1089 : Cond.methodLink "StepMachinesModel" 137 ⟨"StepMachinesModel", "hold", "(III)V"⟩ ∈ TB := TB_tab (i := 1089) (by decide +kernel) rfl
theorem mw_1091 : Cond.instanceMethod ⟨"StepMachinesModel", "hold", "(III)V"⟩ ∈ TB := TB_tab (i := 1091) (by decide +kernel) rfl
theorem mw_1092 : Cond.code ⟨"StepMachinesModel", "hold", "(III)V"⟩ prog_13_method_27_code 4 none ∈ TB := TB_tab (i := 1092) (by decide +kernel) rfl
theorem mw_1093 : Cond.methodLink "StepMachinesModel" 147 ⟨"StepMachinesModel", "meet", "(II)Z"⟩ ∈ TB := TB_tab (i := 1093) (by decide +kernel) rfl
theorem mw_1094 : Cond.static ⟨"StepMachinesModel", "meet", "(II)Z"⟩ ∈ TB := TB_tab (i := 1094) (by decide +kernel) rfl
theorem mw_1095 : Cond.code ⟨"StepMachinesModel", "meet", "(II)Z"⟩ prog_13_method_28_code 2 (some .boolean) ∈ TB := TB_tab (i := 1095) (by decide +kernel) rfl
theorem mw_1096 : Cond.methodLink "StepMachinesModel" 150 ⟨"StepMachinesModel", "areAlike", "(II)Z"⟩ ∈ TB := TB_tab (i := 1096) (by decide +kernel) rfl
theorem mw_1098 : Cond.instanceMethod ⟨"StepMachinesModel", "areAlike", "(II)Z"⟩ ∈ TB := TB_tab (i := 1098) (by decide +kernel) rfl
theorem mw_1099 : Cond.code ⟨"StepMachinesModel", "areAlike", "(II)Z"⟩ prog_13_method_29_code 4 (some .boolean) ∈ TB := TB_tab (i := 1099) (by decide +kernel) rfl
theorem mw_1100 : Cond.methodLink "StepMachinesLaw" 91 ⟨"StepMachinesModel", "over", "()I"⟩ ∈ TB := TB_tab (i := 1100) (by decide +kernel) rfl
theorem mw_1101 : Cond.instanceMethod ⟨"StepMachinesModel", "over", "()I"⟩ ∈ TB := TB_tab (i := 1101) (by decide +kernel) rfl
theorem mw_1102 : Cond.selects "StepMachinesModel" ⟨"StepMachinesModel", "over", "()I"⟩ ⟨"StepMachinesModel", "over", "()I"⟩ ∈ TB := TB_tab (i := 1102) (by decide +kernel) rfl
theorem mw_1103 : Cond.code ⟨"StepMachinesModel", "over", "()I"⟩ prog_13_method_31_code 1 (some .int) ∈ TB := TB_tab (i := 1103) (by decide +kernel) rfl
theorem mw_1104 : Cond.constantLong "StepMachinesLaw" 56 (4294967295 : Int64) ∈ TB := TB_tab (i := 1104) (by decide +kernel) rfl
theorem mw_1105 : Cond.arrayClass .long ∈ TB := TB_tab (i := 1105) (by decide +kernel) rfl
theorem ms_0 : Cond.selects "StepMachines" ⟨"StepMachines", "readyTable", "()LStepMachines$Table;"⟩ ⟨"StepMachines", "readyTable", "()LStepMachines$Table;"⟩ ∈ TB := TB_sel (i := 0) (by decide +kernel) rfl
theorem ms_1 : Cond.selects "StepMachines$Table" ⟨"StepMachines$Table", "make", "()V"⟩ ⟨"StepMachines$Table", "make", "()V"⟩ ∈ TB := TB_sel (i := 1) (by decide +kernel) rfl
theorem ms_2 : Cond.selects "StepMachines$Table" ⟨"StepMachines$Table", "rowFor", "(I)I"⟩ ⟨"StepMachines$Table", "rowFor", "(I)I"⟩ ∈ TB := TB_sel (i := 2) (by decide +kernel) rfl
theorem ms_3 : Cond.selects "StepMachines$Table" ⟨"StepMachines$Table", "makeRow", "(I)Z"⟩ ⟨"StepMachines$Table", "makeRow", "(I)Z"⟩ ∈ TB := TB_sel (i := 3) (by decide +kernel) rfl
theorem ms_4 : Cond.selects "StepMachines$Table" ⟨"StepMachines$Table", "later", "(II)V"⟩ ⟨"StepMachines$Table", "later", "(II)V"⟩ ∈ TB := TB_sel (i := 4) (by decide +kernel) rfl
theorem ms_5 : Cond.selects "StepMachines$Table" ⟨"StepMachines$Table", "walk", "(III)Z"⟩ ⟨"StepMachines$Table", "walk", "(III)Z"⟩ ∈ TB := TB_sel (i := 5) (by decide +kernel) rfl
theorem ms_6 : Cond.selects "StepMachines$Table" ⟨"StepMachines$Table", "takeBytes", "(III)Z"⟩ ⟨"StepMachines$Table", "takeBytes", "(III)Z"⟩ ∈ TB := TB_sel (i := 6) (by decide +kernel) rfl
theorem ms_7 : Cond.selects "java/lang/Throwable" ⟨"java/lang/Throwable", "fillInStackTrace", "(I)Ljava/lang/Throwable;"⟩ ⟨"java/lang/Throwable", "fillInStackTrace", "(I)Ljava/lang/Throwable;"⟩ ∈ TB := TB_sel (i := 7) (by decide +kernel) rfl
theorem ms_8 : Cond.selects "StepMachines" ⟨"StepMachines", "forgetWhatWasMade", "()V"⟩ ⟨"StepMachines", "forgetWhatWasMade", "()V"⟩ ∈ TB := TB_sel (i := 8) (by decide +kernel) rfl
theorem ms_9 : Cond.selects "StepMachines" ⟨"StepMachines", "isQuestion", "(II)Z"⟩ ⟨"StepMachines", "isQuestion", "(II)Z"⟩ ∈ TB := TB_sel (i := 9) (by decide +kernel) rfl
theorem ms_10 : Cond.selects "StepMachines" ⟨"StepMachines", "readyMarks", "()LStepMachines$Marks;"⟩ ⟨"StepMachines", "readyMarks", "()LStepMachines$Marks;"⟩ ∈ TB := TB_sel (i := 10) (by decide +kernel) rfl
theorem ms_11 : Cond.selects "StepMachines$Marks" ⟨"StepMachines$Marks", "wipe", "()V"⟩ ⟨"StepMachines$Marks", "wipe", "()V"⟩ ∈ TB := TB_sel (i := 11) (by decide +kernel) rfl
theorem ms_12 : Cond.selects "StepMachines$Marks" ⟨"StepMachines$Marks", "tryFrom", "(IIZ)V"⟩ ⟨"StepMachines$Marks", "tryFrom", "(IIZ)V"⟩ ∈ TB := TB_sel (i := 12) (by decide +kernel) rfl
theorem ms_13 : Cond.selects "StepMachines$Marks" ⟨"StepMachines$Marks", "visit", "(III)V"⟩ ⟨"StepMachines$Marks", "visit", "(III)V"⟩ ∈ TB := TB_sel (i := 13) (by decide +kernel) rfl
theorem ms_14 : Cond.selects "StepMachines$Marks" ⟨"StepMachines$Marks", "isNew", "(II)Z"⟩ ⟨"StepMachines$Marks", "isNew", "(II)Z"⟩ ∈ TB := TB_sel (i := 14) (by decide +kernel) rfl
theorem ms_15 : Cond.selects "StepMachines$Marks" ⟨"StepMachines$Marks", "end", "(II)V"⟩ ⟨"StepMachines$Marks", "end", "(II)V"⟩ ∈ TB := TB_sel (i := 15) (by decide +kernel) rfl
theorem ms_16 : Cond.selects "StepMachines" ⟨"StepMachines", "canTable", "(I)Z"⟩ ⟨"StepMachines", "canTable", "(I)Z"⟩ ∈ TB := TB_sel (i := 16) (by decide +kernel) rfl
theorem ms_17 : Cond.selects "StepMachines$Table" ⟨"StepMachines$Table", "endHere", "(III)Z"⟩ ⟨"StepMachines$Table", "endHere", "(III)Z"⟩ ∈ TB := TB_sel (i := 17) (by decide +kernel) rfl
theorem ms_18 : Cond.selects "StepMachines$Table" ⟨"StepMachines$Table", "allHold", "(II)Z"⟩ ⟨"StepMachines$Table", "allHold", "(II)Z"⟩ ∈ TB := TB_sel (i := 18) (by decide +kernel) rfl
theorem ms_19 : Cond.selects "StepMachines" ⟨"StepMachines", "readyThreads", "()LStepMachines$Threads;"⟩ ⟨"StepMachines", "readyThreads", "()LStepMachines$Threads;"⟩ ∈ TB := TB_sel (i := 19) (by decide +kernel) rfl
theorem ms_20 : Cond.selects "StepMachines$Threads" ⟨"StepMachines$Threads", "beginThread", "(I)V"⟩ ⟨"StepMachines$Threads", "beginThread", "(I)V"⟩ ∈ TB := TB_sel (i := 20) (by decide +kernel) rfl
theorem ms_21 : Cond.selects "StepMachines$Threads" ⟨"StepMachines$Threads", "comeTo", "(IILStepMachines$Row;[I)V"⟩ ⟨"StepMachines$Threads", "comeTo", "(IILStepMachines$Row;[I)V"⟩ ∈ TB := TB_sel (i := 21) (by decide +kernel) rfl
theorem ms_22 : Cond.selects "StepMachines$Threads" ⟨"StepMachines$Threads", "visit", "(IILStepMachines$Row;[I)V"⟩ ⟨"StepMachines$Threads", "visit", "(IILStepMachines$Row;[I)V"⟩ ∈ TB := TB_sel (i := 22) (by decide +kernel) rfl
theorem ms_23 : Cond.selects "StepMachines$Threads" ⟨"StepMachines$Threads", "goOverByte", "(IZI)V"⟩ ⟨"StepMachines$Threads", "goOverByte", "(IZI)V"⟩ ∈ TB := TB_sel (i := 23) (by decide +kernel) rfl
theorem ms_24 : Cond.selects "StepMachines$Threads" ⟨"StepMachines$Threads", "swapRows", "()V"⟩ ⟨"StepMachines$Threads", "swapRows", "()V"⟩ ∈ TB := TB_sel (i := 24) (by decide +kernel) rfl
theorem ms_25 : Cond.selects "StepMachines" ⟨"StepMachines", "mostTaken", "()I"⟩ ⟨"StepMachines", "mostTaken", "()I"⟩ ∈ TB := TB_sel (i := 25) (by decide +kernel) rfl
theorem ms_26 : Cond.selects "StepMachines$Kept" ⟨"StepMachines$Kept", "makeRoom", "(I)V"⟩ ⟨"StepMachines$Kept", "makeRoom", "(I)V"⟩ ∈ TB := TB_sel (i := 26) (by decide +kernel) rfl
theorem ms_27 : Cond.selects "StepMachines$States" ⟨"StepMachines$States", "firstState", "(II)I"⟩ ⟨"StepMachines$States", "firstState", "(II)I"⟩ ∈ TB := TB_sel (i := 27) (by decide +kernel) rfl
theorem ms_28 : Cond.selects "StepMachines$Kept" ⟨"StepMachines$Kept", "isSame", "(ILStepMachines$Row;I)Z"⟩ ⟨"StepMachines$Kept", "isSame", "(ILStepMachines$Row;I)Z"⟩ ∈ TB := TB_sel (i := 28) (by decide +kernel) rfl
theorem ms_29 : Cond.selects "StepMachines$Kept" ⟨"StepMachines$Kept", "add", "(LStepMachines$Row;II)V"⟩ ⟨"StepMachines$Kept", "add", "(LStepMachines$Row;II)V"⟩ ∈ TB := TB_sel (i := 29) (by decide +kernel) rfl
theorem ms_30 : Cond.selects "StepMachines$States" ⟨"StepMachines$States", "moveFrom", "(II)I"⟩ ⟨"StepMachines$States", "moveFrom", "(II)I"⟩ ∈ TB := TB_sel (i := 30) (by decide +kernel) rfl
theorem ms_31 : Cond.selects "StepMachines$States" ⟨"StepMachines$States", "goOver", "(III)Z"⟩ ⟨"StepMachines$States", "goOver", "(III)Z"⟩ ∈ TB := TB_sel (i := 31) (by decide +kernel) rfl
theorem ms_32 : Cond.selects "StepMachines$States" ⟨"StepMachines$States", "follow", "(III)Z"⟩ ⟨"StepMachines$States", "follow", "(III)Z"⟩ ∈ TB := TB_sel (i := 32) (by decide +kernel) rfl
theorem ms_33 : Cond.selects "StepMachines$States" ⟨"StepMachines$States", "visit", "(II)V"⟩ ⟨"StepMachines$States", "visit", "(II)V"⟩ ∈ TB := TB_sel (i := 33) (by decide +kernel) rfl
theorem ms_34 : Cond.selects "StepMachinesModel" ⟨"StepMachinesModel", "isStep", "(I)Z"⟩ ⟨"StepMachinesModel", "isStep", "(I)Z"⟩ ∈ TB := TB_sel (i := 34) (by decide +kernel) rfl
theorem ms_35 : Cond.selects "StepMachinesModel" ⟨"StepMachinesModel", "isGood", "(II)Z"⟩ ⟨"StepMachinesModel", "isGood", "(II)Z"⟩ ∈ TB := TB_sel (i := 35) (by decide +kernel) rfl
theorem ms_36 : Cond.selects "StepMachinesModel" ⟨"StepMachinesModel", "find", "(IZI)I"⟩ ⟨"StepMachinesModel", "find", "(IZI)I"⟩ ∈ TB := TB_sel (i := 36) (by decide +kernel) rfl
theorem ms_37 : Cond.selects "StepMachinesModel" ⟨"StepMachinesModel", "note", "(IIZ)V"⟩ ⟨"StepMachinesModel", "note", "(IIZ)V"⟩ ∈ TB := TB_sel (i := 37) (by decide +kernel) rfl
theorem ms_38 : Cond.selects "StepMachinesModel" ⟨"StepMachinesModel", "takes", "(II)Z"⟩ ⟨"StepMachinesModel", "takes", "(II)Z"⟩ ∈ TB := TB_sel (i := 38) (by decide +kernel) rfl
theorem ms_39 : Cond.selects "StepMachinesModel" ⟨"StepMachinesModel", "passes", "(II)Z"⟩ ⟨"StepMachinesModel", "passes", "(II)Z"⟩ ∈ TB := TB_sel (i := 39) (by decide +kernel) rfl
theorem ms_40 : Cond.selects "StepMachinesModel" ⟨"StepMachinesModel", "isSo", "(II)Z"⟩ ⟨"StepMachinesModel", "isSo", "(II)Z"⟩ ∈ TB := TB_sel (i := 40) (by decide +kernel) rfl
theorem ms_41 : Cond.selects "StepMachinesModel" ⟨"StepMachinesModel", "wordAt", "(I)Z"⟩ ⟨"StepMachinesModel", "wordAt", "(I)Z"⟩ ∈ TB := TB_sel (i := 41) (by decide +kernel) rfl
theorem ms_42 : Cond.selects "StepMachinesModel" ⟨"StepMachinesModel", "lastEnd", "(I)I"⟩ ⟨"StepMachinesModel", "lastEnd", "(I)I"⟩ ∈ TB := TB_sel (i := 42) (by decide +kernel) rfl
theorem ms_43 : Cond.selects "StepMachinesModel" ⟨"StepMachinesModel", "walk", "(II)I"⟩ ⟨"StepMachinesModel", "walk", "(II)I"⟩ ∈ TB := TB_sel (i := 43) (by decide +kernel) rfl
theorem ms_44 : Cond.selects "StepMachinesModel" ⟨"StepMachinesModel", "heap", "(I)V"⟩ ⟨"StepMachinesModel", "heap", "(I)V"⟩ ∈ TB := TB_sel (i := 44) (by decide +kernel) rfl
theorem ms_45 : Cond.selects "StepMachinesModel" ⟨"StepMachinesModel", "undo", "(I)V"⟩ ⟨"StepMachinesModel", "undo", "(I)V"⟩ ∈ TB := TB_sel (i := 45) (by decide +kernel) rfl
theorem ms_46 : Cond.selects "StepMachinesModel" ⟨"StepMachinesModel", "start", "(I)V"⟩ ⟨"StepMachinesModel", "start", "(I)V"⟩ ∈ TB := TB_sel (i := 46) (by decide +kernel) rfl
theorem ms_47 : Cond.selects "StepMachinesModel" ⟨"StepMachinesModel", "spreads", "(I)Z"⟩ ⟨"StepMachinesModel", "spreads", "(I)Z"⟩ ∈ TB := TB_sel (i := 47) (by decide +kernel) rfl
theorem ms_48 : Cond.selects "StepMachinesModel" ⟨"StepMachinesModel", "isWaiting", "(I)Z"⟩ ⟨"StepMachinesModel", "isWaiting", "(I)Z"⟩ ∈ TB := TB_sel (i := 48) (by decide +kernel) rfl
theorem ms_49 : Cond.selects "StepMachinesModel" ⟨"StepMachinesModel", "hold", "(III)V"⟩ ⟨"StepMachinesModel", "hold", "(III)V"⟩ ∈ TB := TB_sel (i := 49) (by decide +kernel) rfl
theorem ms_50 : Cond.selects "StepMachinesModel" ⟨"StepMachinesModel", "areAlike", "(II)Z"⟩ ⟨"StepMachinesModel", "areAlike", "(II)Z"⟩ ∈ TB := TB_sel (i := 50) (by decide +kernel) rfl
end
section
theorem dN_Mod_init_0 : decode cN_Mod_init 0 = .ok (.aload_n 0, 1) := by decide +kernel
theorem dN_Mod_init_1 : decode cN_Mod_init 1 = .ok (.invokespecial 1, 3) := by decide +kernel
theorem dN_Mod_init_4 : decode cN_Mod_init 4 = .ok (.aload_n 0, 1) := by decide +kernel
theorem dN_Mod_init_5 : decode cN_Mod_init 5 = .ok (.iconst 1, 1) := by decide +kernel
theorem dN_Mod_init_6 : decode cN_Mod_init 6 = .ok (.putfield 7, 3) := by decide +kernel
theorem dN_Mod_init_9 : decode cN_Mod_init 9 = .ok (.aload_n 0, 1) := by decide +kernel
theorem dN_Mod_init_10 : decode cN_Mod_init 10 = .ok (.sipush 200, 3) := by decide +kernel
theorem dN_Mod_init_13 : decode cN_Mod_init 13 = .ok (.newarray .int, 2) := by decide +kernel
theorem dN_Mod_init_15 : decode cN_Mod_init 15 = .ok (.putfield 13, 3) := by decide +kernel
theorem dN_Mod_init_18 : decode cN_Mod_init 18 = .ok (.aload_n 0, 1) := by decide +kernel
theorem dN_Mod_init_19 : decode cN_Mod_init 19 = .ok (.sipush 200, 3) := by decide +kernel
theorem dN_Mod_init_22 : decode cN_Mod_init 22 = .ok (.newarray .int, 2) := by decide +kernel
theorem dN_Mod_init_24 : decode cN_Mod_init 24 = .ok (.putfield 17, 3) := by decide +kernel
theorem dN_Mod_init_27 : decode cN_Mod_init 27 = .ok (.aload_n 0, 1) := by decide +kernel
theorem dN_Mod_init_28 : decode cN_Mod_init 28 = .ok (.sipush 200, 3) := by decide +kernel
theorem dN_Mod_init_31 : decode cN_Mod_init 31 = .ok (.newarray .int, 2) := by decide +kernel
theorem dN_Mod_init_33 : decode cN_Mod_init 33 = .ok (.putfield 20, 3) := by decide +kernel
theorem dN_Mod_init_36 : decode cN_Mod_init 36 = .ok (.aload_n 0, 1) := by decide +kernel
theorem dN_Mod_init_37 : decode cN_Mod_init 37 = .ok (.sipush 200, 3) := by decide +kernel
theorem dN_Mod_init_40 : decode cN_Mod_init 40 = .ok (.newarray .int, 2) := by decide +kernel
theorem dN_Mod_init_42 : decode cN_Mod_init 42 = .ok (.putfield 23, 3) := by decide +kernel
theorem dN_Mod_init_45 : decode cN_Mod_init 45 = .ok (.aload_n 0, 1) := by decide +kernel
theorem dN_Mod_init_46 : decode cN_Mod_init 46 = .ok (.sipush 200, 3) := by decide +kernel
theorem dN_Mod_init_49 : decode cN_Mod_init 49 = .ok (.newarray .int, 2) := by decide +kernel
theorem dN_Mod_init_51 : decode cN_Mod_init 51 = .ok (.putfield 26, 3) := by decide +kernel
theorem dN_Mod_init_54 : decode cN_Mod_init 54 = .ok (.aload_n 0, 1) := by decide +kernel
theorem dN_Mod_init_55 : decode cN_Mod_init 55 = .ok (.ldc 29, 2) := by decide +kernel
theorem dN_Mod_init_57 : decode cN_Mod_init 57 = .ok (.newarray .boolean, 2) := by decide +kernel
theorem dN_Mod_init_59 : decode cN_Mod_init 59 = .ok (.putfield 30, 3) := by decide +kernel
theorem dN_Mod_init_62 : decode cN_Mod_init 62 = .ok (.aload_n 0, 1) := by decide +kernel
theorem dN_Mod_init_63 : decode cN_Mod_init 63 = .ok (.ldc 29, 2) := by decide +kernel
theorem dN_Mod_init_65 : decode cN_Mod_init 65 = .ok (.newarray .boolean, 2) := by decide +kernel
theorem dN_Mod_init_67 : decode cN_Mod_init 67 = .ok (.putfield 34, 3) := by decide +kernel
theorem dN_Mod_init_70 : decode cN_Mod_init 70 = .ok (.aload_n 0, 1) := by decide +kernel
theorem dN_Mod_init_71 : decode cN_Mod_init 71 = .ok (.bipush 20, 2) := by decide +kernel
theorem dN_Mod_init_73 : decode cN_Mod_init 73 = .ok (.newarray .int, 2) := by decide +kernel
theorem dN_Mod_init_75 : decode cN_Mod_init 75 = .ok (.putfield 37, 3) := by decide +kernel
theorem dN_Mod_init_78 : decode cN_Mod_init 78 = .ok (.aload_n 0, 1) := by decide +kernel
theorem dN_Mod_init_79 : decode cN_Mod_init 79 = .ok (.bipush 20, 2) := by decide +kernel
theorem dN_Mod_init_81 : decode cN_Mod_init 81 = .ok (.newarray .int, 2) := by decide +kernel
theorem dN_Mod_init_83 : decode cN_Mod_init 83 = .ok (.putfield 40, 3) := by decide +kernel
theorem dN_Mod_init_86 : decode cN_Mod_init 86 = .ok (.aload_n 0, 1) := by decide +kernel
theorem dN_Mod_init_87 : decode cN_Mod_init 87 = .ok (.sipush 500, 3) := by decide +kernel
theorem dN_Mod_init_90 : decode cN_Mod_init 90 = .ok (.newarray .int, 2) := by decide +kernel
theorem dN_Mod_init_92 : decode cN_Mod_init 92 = .ok (.putfield 43, 3) := by decide +kernel
theorem dN_Mod_init_95 : decode cN_Mod_init 95 = .ok (.aload_n 0, 1) := by decide +kernel
theorem dN_Mod_init_96 : decode cN_Mod_init 96 = .ok (.sipush 500, 3) := by decide +kernel
theorem dN_Mod_init_99 : decode cN_Mod_init 99 = .ok (.newarray .int, 2) := by decide +kernel
theorem dN_Mod_init_101 : decode cN_Mod_init 101 = .ok (.putfield 46, 3) := by decide +kernel
theorem dN_Mod_init_104 : decode cN_Mod_init 104 = .ok (.aload_n 0, 1) := by decide +kernel
theorem dN_Mod_init_105 : decode cN_Mod_init 105 = .ok (.sipush 300, 3) := by decide +kernel
theorem dN_Mod_init_108 : decode cN_Mod_init 108 = .ok (.newarray .int, 2) := by decide +kernel
theorem dN_Mod_init_110 : decode cN_Mod_init 110 = .ok (.putfield 49, 3) := by decide +kernel
theorem dN_Mod_init_113 : decode cN_Mod_init 113 = .ok (.aload_n 0, 1) := by decide +kernel
theorem dN_Mod_init_114 : decode cN_Mod_init 114 = .ok (.sipush 300, 3) := by decide +kernel
theorem dN_Mod_init_117 : decode cN_Mod_init 117 = .ok (.newarray .int, 2) := by decide +kernel
theorem dN_Mod_init_119 : decode cN_Mod_init 119 = .ok (.putfield 52, 3) := by decide +kernel
theorem dN_Mod_init_122 : decode cN_Mod_init 122 = .ok (.aload_n 0, 1) := by decide +kernel
theorem dN_Mod_init_123 : decode cN_Mod_init 123 = .ok (.sipush 200, 3) := by decide +kernel
theorem dN_Mod_init_126 : decode cN_Mod_init 126 = .ok (.newarray .boolean, 2) := by decide +kernel
theorem dN_Mod_init_128 : decode cN_Mod_init 128 = .ok (.putfield 55, 3) := by decide +kernel
theorem dN_Mod_init_131 : decode cN_Mod_init 131 = .ok (.aload_n 0, 1) := by decide +kernel
theorem dN_Mod_init_132 : decode cN_Mod_init 132 = .ok (.sipush 200, 3) := by decide +kernel
theorem dN_Mod_init_135 : decode cN_Mod_init 135 = .ok (.newarray .int, 2) := by decide +kernel
theorem dN_Mod_init_137 : decode cN_Mod_init 137 = .ok (.putfield 58, 3) := by decide +kernel
theorem dN_Mod_init_140 : decode cN_Mod_init 140 = .ok (.aload_n 0, 1) := by decide +kernel
theorem dN_Mod_init_141 : decode cN_Mod_init 141 = .ok (.sipush 200, 3) := by decide +kernel
theorem dN_Mod_init_144 : decode cN_Mod_init 144 = .ok (.newarray .int, 2) := by decide +kernel
theorem dN_Mod_init_146 : decode cN_Mod_init 146 = .ok (.putfield 61, 3) := by decide +kernel
theorem dN_Mod_init_149 : decode cN_Mod_init 149 = .ok (.aload_n 0, 1) := by decide +kernel
theorem dN_Mod_init_150 : decode cN_Mod_init 150 = .ok (.sipush 200, 3) := by decide +kernel
theorem dN_Mod_init_153 : decode cN_Mod_init 153 = .ok (.newarray .int, 2) := by decide +kernel
theorem dN_Mod_init_155 : decode cN_Mod_init 155 = .ok (.putfield 64, 3) := by decide +kernel
theorem dN_Mod_init_158 : decode cN_Mod_init 158 = .ok (.aload_n 0, 1) := by decide +kernel
theorem dN_Mod_init_159 : decode cN_Mod_init 159 = .ok (.sipush 200, 3) := by decide +kernel
theorem dN_Mod_init_162 : decode cN_Mod_init 162 = .ok (.newarray .int, 2) := by decide +kernel
theorem dN_Mod_init_164 : decode cN_Mod_init 164 = .ok (.putfield 67, 3) := by decide +kernel
theorem dN_Mod_init_167 : decode cN_Mod_init 167 = .ok (.iconst 0, 1) := by decide +kernel
theorem dN_Mod_init_168 : decode cN_Mod_init 168 = .ok (.istore_n 1, 1) := by decide +kernel
theorem dN_Mod_init_169 : decode cN_Mod_init 169 = .ok (.iload_n 1, 1) := by decide +kernel
theorem dN_Mod_init_170 : decode cN_Mod_init 170 = .ok (.bipush 20, 2) := by decide +kernel
theorem dN_Mod_init_172 : decode cN_Mod_init 172 = .ok (.if_icmp .ge 16, 3) := by decide +kernel
theorem dN_Mod_init_175 : decode cN_Mod_init 175 = .ok (.aload_n 0, 1) := by decide +kernel
theorem dN_Mod_init_176 : decode cN_Mod_init 176 = .ok (.getfield 40, 3) := by decide +kernel
theorem dN_Mod_init_179 : decode cN_Mod_init 179 = .ok (.iload_n 1, 1) := by decide +kernel
theorem dN_Mod_init_180 : decode cN_Mod_init 180 = .ok (.iconst (-1), 1) := by decide +kernel
theorem dN_Mod_init_181 : decode cN_Mod_init 181 = .ok (.iastore, 1) := by decide +kernel
theorem dN_Mod_init_182 : decode cN_Mod_init 182 = .ok (.iinc 1 1, 3) := by decide +kernel
theorem dN_Mod_init_185 : decode cN_Mod_init 185 = .ok (.goto (-16), 3) := by decide +kernel
theorem dN_Mod_init_188 : decode cN_Mod_init 188 = .ok (.return_, 1) := by decide +kernel
theorem dN_Mod_thrown_0 : decode cN_Mod_thrown 0 = .ok (.aload_n 0, 1) := by decide +kernel
theorem dN_Mod_thrown_1 : decode cN_Mod_thrown 1 = .ok (.getfield 70, 3) := by decide +kernel
theorem dN_Mod_thrown_4 : decode cN_Mod_thrown 4 = .ok (.ireturn, 1) := by decide +kernel
theorem dN_Mod_lay_0 : decode cN_Mod_lay 0 = .ok (.aload_n 0, 1) := by decide +kernel
theorem dN_Mod_lay_1 : decode cN_Mod_lay 1 = .ok (.iload_n 1, 1) := by decide +kernel
theorem dN_Mod_lay_2 : decode cN_Mod_lay 2 = .ok (.iconst 1, 1) := by decide +kernel
theorem dN_Mod_lay_3 : decode cN_Mod_lay 3 = .ok (.if_icmp .lt 10, 3) := by decide +kernel
theorem dN_Mod_lay_6 : decode cN_Mod_lay 6 = .ok (.iload_n 1, 1) := by decide +kernel
theorem dN_Mod_lay_7 : decode cN_Mod_lay 7 = .ok (.sipush 200, 3) := by decide +kernel
theorem dN_Mod_lay_10 : decode cN_Mod_lay 10 = .ok (.if_icmp .le 7, 3) := by decide +kernel
theorem dN_Mod_lay_13 : decode cN_Mod_lay 13 = .ok (.iconst 1, 1) := by decide +kernel
theorem dN_Mod_lay_14 : decode cN_Mod_lay 14 = .ok (.goto 4, 3) := by decide +kernel
theorem dN_Mod_lay_17 : decode cN_Mod_lay 17 = .ok (.iconst 0, 1) := by decide +kernel
theorem dN_Mod_lay_18 : decode cN_Mod_lay 18 = .ok (.putfield 70, 3) := by decide +kernel
theorem dN_Mod_lay_21 : decode cN_Mod_lay 21 = .ok (.aload_n 0, 1) := by decide +kernel
theorem dN_Mod_lay_22 : decode cN_Mod_lay 22 = .ok (.getfield 70, 3) := by decide +kernel
theorem dN_Mod_lay_25 : decode cN_Mod_lay 25 = .ok (.ifCond .le 4, 3) := by decide +kernel
theorem dN_Mod_lay_28 : decode cN_Mod_lay 28 = .ok (.return_, 1) := by decide +kernel
theorem dN_Mod_lay_29 : decode cN_Mod_lay 29 = .ok (.aload_n 0, 1) := by decide +kernel
theorem dN_Mod_lay_30 : decode cN_Mod_lay 30 = .ok (.iload_n 1, 1) := by decide +kernel
theorem dN_Mod_lay_31 : decode cN_Mod_lay 31 = .ok (.putfield 7, 3) := by decide +kernel
theorem dN_Mod_lay_34 : decode cN_Mod_lay 34 = .ok (.aload_n 0, 1) := by decide +kernel
theorem dN_Mod_lay_35 : decode cN_Mod_lay 35 = .ok (.iconst 0, 1) := by decide +kernel
theorem dN_Mod_lay_36 : decode cN_Mod_lay 36 = .ok (.putfield 73, 3) := by decide +kernel
theorem dN_Mod_lay_39 : decode cN_Mod_lay 39 = .ok (.iconst 0, 1) := by decide +kernel
theorem dN_Mod_lay_40 : decode cN_Mod_lay 40 = .ok (.istore_n 2, 1) := by decide +kernel
theorem dN_Mod_lay_41 : decode cN_Mod_lay 41 = .ok (.iload_n 2, 1) := by decide +kernel
theorem dN_Mod_lay_42 : decode cN_Mod_lay 42 = .ok (.iload_n 1, 1) := by decide +kernel
theorem dN_Mod_lay_43 : decode cN_Mod_lay 43 = .ok (.if_icmp .ge 16, 3) := by decide +kernel
theorem dN_Mod_lay_46 : decode cN_Mod_lay 46 = .ok (.aload_n 0, 1) := by decide +kernel
theorem dN_Mod_lay_47 : decode cN_Mod_lay 47 = .ok (.getfield 13, 3) := by decide +kernel
theorem dN_Mod_lay_50 : decode cN_Mod_lay 50 = .ok (.iload_n 2, 1) := by decide +kernel
theorem dN_Mod_lay_51 : decode cN_Mod_lay 51 = .ok (.iconst 5, 1) := by decide +kernel
theorem dN_Mod_lay_52 : decode cN_Mod_lay 52 = .ok (.iastore, 1) := by decide +kernel
theorem dN_Mod_lay_53 : decode cN_Mod_lay 53 = .ok (.iinc 2 1, 3) := by decide +kernel
theorem dN_Mod_lay_56 : decode cN_Mod_lay 56 = .ok (.goto (-15), 3) := by decide +kernel
theorem dN_Mod_lay_59 : decode cN_Mod_lay 59 = .ok (.return_, 1) := by decide +kernel
theorem dN_Mod_step_0 : decode cN_Mod_step 0 = .ok (.aload_n 0, 1) := by decide +kernel
theorem dN_Mod_step_1 : decode cN_Mod_step 1 = .ok (.aload_n 0, 1) := by decide +kernel
theorem dN_Mod_step_2 : decode cN_Mod_step 2 = .ok (.iload_n 1, 1) := by decide +kernel
theorem dN_Mod_step_3 : decode cN_Mod_step 3 = .ok (.invokevirtual 76, 3) := by decide +kernel
theorem dN_Mod_step_6 : decode cN_Mod_step 6 = .ok (.ifCond .eq 35, 3) := by decide +kernel
theorem dN_Mod_step_9 : decode cN_Mod_step 9 = .ok (.iload_n 1, 1) := by decide +kernel
theorem dN_Mod_step_10 : decode cN_Mod_step 10 = .ok (.ifCond .eq 31, 3) := by decide +kernel
theorem dN_Mod_step_13 : decode cN_Mod_step 13 = .ok (.iload_n 2, 1) := by decide +kernel
theorem dN_Mod_step_14 : decode cN_Mod_step 14 = .ok (.iconst 5, 1) := by decide +kernel
theorem dN_Mod_step_15 : decode cN_Mod_step 15 = .ok (.if_icmp .eq 12, 3) := by decide +kernel
theorem dN_Mod_step_18 : decode cN_Mod_step 18 = .ok (.aload_n 0, 1) := by decide +kernel
theorem dN_Mod_step_19 : decode cN_Mod_step 19 = .ok (.iload 4, 2) := by decide +kernel
theorem dN_Mod_step_21 : decode cN_Mod_step 21 = .ok (.invokevirtual 76, 3) := by decide +kernel
theorem dN_Mod_step_24 : decode cN_Mod_step 24 = .ok (.ifCond .eq 17, 3) := by decide +kernel
theorem dN_Mod_step_27 : decode cN_Mod_step 27 = .ok (.iload_n 2, 1) := by decide +kernel
theorem dN_Mod_step_28 : decode cN_Mod_step 28 = .ok (.iconst 2, 1) := by decide +kernel
theorem dN_Mod_step_29 : decode cN_Mod_step 29 = .ok (.if_icmp .ne 16, 3) := by decide +kernel
theorem dN_Mod_step_32 : decode cN_Mod_step 32 = .ok (.aload_n 0, 1) := by decide +kernel
theorem dN_Mod_step_33 : decode cN_Mod_step 33 = .ok (.iload 5, 2) := by decide +kernel
theorem dN_Mod_step_35 : decode cN_Mod_step 35 = .ok (.invokevirtual 76, 3) := by decide +kernel
theorem dN_Mod_step_38 : decode cN_Mod_step 38 = .ok (.ifCond .ne 7, 3) := by decide +kernel
theorem dN_Mod_step_41 : decode cN_Mod_step 41 = .ok (.iconst 1, 1) := by decide +kernel
theorem dN_Mod_step_42 : decode cN_Mod_step 42 = .ok (.goto 4, 3) := by decide +kernel
theorem dN_Mod_step_45 : decode cN_Mod_step 45 = .ok (.iconst 0, 1) := by decide +kernel
theorem dN_Mod_step_46 : decode cN_Mod_step 46 = .ok (.putfield 70, 3) := by decide +kernel
theorem dN_Mod_step_49 : decode cN_Mod_step 49 = .ok (.iload_n 2, 1) := by decide +kernel
theorem dN_Mod_step_50 : decode cN_Mod_step 50 = .ok (.iconst 2, 1) := by decide +kernel
theorem dN_Mod_step_51 : decode cN_Mod_step 51 = .ok (.if_icmp .eq 67, 3) := by decide +kernel
theorem dN_Mod_step_54 : decode cN_Mod_step 54 = .ok (.iload_n 2, 1) := by decide +kernel
theorem dN_Mod_step_55 : decode cN_Mod_step 55 = .ok (.iconst 5, 1) := by decide +kernel
theorem dN_Mod_step_56 : decode cN_Mod_step 56 = .ok (.if_icmp .eq 62, 3) := by decide +kernel
theorem dN_Mod_step_59 : decode cN_Mod_step 59 = .ok (.iload_n 2, 1) := by decide +kernel
theorem dN_Mod_step_60 : decode cN_Mod_step 60 = .ok (.iconst 1, 1) := by decide +kernel
theorem dN_Mod_step_61 : decode cN_Mod_step 61 = .ok (.if_icmp .ne 26, 3) := by decide +kernel
theorem dN_Mod_step_64 : decode cN_Mod_step 64 = .ok (.iload_n 3, 1) := by decide +kernel
theorem dN_Mod_step_65 : decode cN_Mod_step 65 = .ok (.ifCond .lt 22, 3) := by decide +kernel
theorem dN_Mod_step_68 : decode cN_Mod_step 68 = .ok (.iload_n 3, 1) := by decide +kernel
theorem dN_Mod_step_69 : decode cN_Mod_step 69 = .ok (.ldc 80, 2) := by decide +kernel
theorem dN_Mod_step_71 : decode cN_Mod_step 71 = .ok (.if_icmp .ge 16, 3) := by decide +kernel
theorem dN_Mod_step_74 : decode cN_Mod_step 74 = .ok (.iload_n 3, 1) := by decide +kernel
theorem dN_Mod_step_75 : decode cN_Mod_step 75 = .ok (.sipush 256, 3) := by decide +kernel
theorem dN_Mod_step_78 : decode cN_Mod_step 78 = .ok (.idiv, 1) := by decide +kernel
theorem dN_Mod_step_79 : decode cN_Mod_step 79 = .ok (.iload_n 3, 1) := by decide +kernel
theorem dN_Mod_step_80 : decode cN_Mod_step 80 = .ok (.sipush 256, 3) := by decide +kernel
theorem dN_Mod_step_83 : decode cN_Mod_step 83 = .ok (.irem, 1) := by decide +kernel
theorem dN_Mod_step_84 : decode cN_Mod_step 84 = .ok (.if_icmp .le 34, 3) := by decide +kernel
theorem dN_Mod_step_87 : decode cN_Mod_step 87 = .ok (.iload_n 2, 1) := by decide +kernel
theorem dN_Mod_step_88 : decode cN_Mod_step 88 = .ok (.iconst 3, 1) := by decide +kernel
theorem dN_Mod_step_89 : decode cN_Mod_step 89 = .ok (.if_icmp .ne 14, 3) := by decide +kernel
theorem dN_Mod_step_92 : decode cN_Mod_step 92 = .ok (.iload_n 3, 1) := by decide +kernel
theorem dN_Mod_step_93 : decode cN_Mod_step 93 = .ok (.iconst 2, 1) := by decide +kernel
theorem dN_Mod_step_94 : decode cN_Mod_step 94 = .ok (.if_icmp .lt 9, 3) := by decide +kernel
theorem dN_Mod_step_97 : decode cN_Mod_step 97 = .ok (.iload_n 3, 1) := by decide +kernel
theorem dN_Mod_step_98 : decode cN_Mod_step 98 = .ok (.bipush 20, 2) := by decide +kernel
theorem dN_Mod_step_100 : decode cN_Mod_step 100 = .ok (.if_icmp .lt 18, 3) := by decide +kernel
theorem dN_Mod_step_103 : decode cN_Mod_step 103 = .ok (.iload_n 2, 1) := by decide +kernel
theorem dN_Mod_step_104 : decode cN_Mod_step 104 = .ok (.iconst 4, 1) := by decide +kernel
theorem dN_Mod_step_105 : decode cN_Mod_step 105 = .ok (.if_icmp .ne 17, 3) := by decide +kernel
theorem dN_Mod_step_108 : decode cN_Mod_step 108 = .ok (.iload_n 3, 1) := by decide +kernel
theorem dN_Mod_step_109 : decode cN_Mod_step 109 = .ok (.ifCond .lt 13, 3) := by decide +kernel
theorem dN_Mod_step_112 : decode cN_Mod_step 112 = .ok (.iload_n 3, 1) := by decide +kernel
theorem dN_Mod_step_113 : decode cN_Mod_step 113 = .ok (.bipush 6, 2) := by decide +kernel
theorem dN_Mod_step_115 : decode cN_Mod_step 115 = .ok (.if_icmp .ge 7, 3) := by decide +kernel
theorem dN_Mod_step_118 : decode cN_Mod_step 118 = .ok (.iconst 1, 1) := by decide +kernel
theorem dN_Mod_step_119 : decode cN_Mod_step 119 = .ok (.goto 4, 3) := by decide +kernel
theorem dN_Mod_step_122 : decode cN_Mod_step 122 = .ok (.iconst 0, 1) := by decide +kernel
theorem dN_Mod_step_123 : decode cN_Mod_step 123 = .ok (.istore 6, 2) := by decide +kernel
theorem dN_Mod_step_125 : decode cN_Mod_step 125 = .ok (.aload_n 0, 1) := by decide +kernel
theorem dN_Mod_step_126 : decode cN_Mod_step 126 = .ok (.getfield 70, 3) := by decide +kernel
theorem dN_Mod_step_129 : decode cN_Mod_step 129 = .ok (.ifCond .ne 13, 3) := by decide +kernel
theorem dN_Mod_step_132 : decode cN_Mod_step 132 = .ok (.iload 6, 2) := by decide +kernel
theorem dN_Mod_step_134 : decode cN_Mod_step 134 = .ok (.ifCond .ne 8, 3) := by decide +kernel
theorem dN_Mod_step_137 : decode cN_Mod_step 137 = .ok (.aload_n 0, 1) := by decide +kernel
theorem dN_Mod_step_138 : decode cN_Mod_step 138 = .ok (.iconst 2, 1) := by decide +kernel
theorem dN_Mod_step_139 : decode cN_Mod_step 139 = .ok (.putfield 70, 3) := by decide +kernel
theorem dN_Mod_step_142 : decode cN_Mod_step 142 = .ok (.aload_n 0, 1) := by decide +kernel
theorem dN_Mod_step_143 : decode cN_Mod_step 143 = .ok (.getfield 70, 3) := by decide +kernel
theorem dN_Mod_step_146 : decode cN_Mod_step 146 = .ok (.ifCond .le 4, 3) := by decide +kernel
theorem dN_Mod_step_149 : decode cN_Mod_step 149 = .ok (.return_, 1) := by decide +kernel
theorem dN_Mod_step_150 : decode cN_Mod_step 150 = .ok (.aload_n 0, 1) := by decide +kernel
theorem dN_Mod_step_151 : decode cN_Mod_step 151 = .ok (.getfield 13, 3) := by decide +kernel
theorem dN_Mod_step_154 : decode cN_Mod_step 154 = .ok (.iload_n 1, 1) := by decide +kernel
theorem dN_Mod_step_155 : decode cN_Mod_step 155 = .ok (.iload_n 2, 1) := by decide +kernel
theorem dN_Mod_step_156 : decode cN_Mod_step 156 = .ok (.iastore, 1) := by decide +kernel
theorem dN_Mod_step_157 : decode cN_Mod_step 157 = .ok (.aload_n 0, 1) := by decide +kernel
theorem dN_Mod_step_158 : decode cN_Mod_step 158 = .ok (.getfield 17, 3) := by decide +kernel
theorem dN_Mod_step_161 : decode cN_Mod_step 161 = .ok (.iload_n 1, 1) := by decide +kernel
theorem dN_Mod_step_162 : decode cN_Mod_step 162 = .ok (.iload_n 3, 1) := by decide +kernel
theorem dN_Mod_step_163 : decode cN_Mod_step 163 = .ok (.iastore, 1) := by decide +kernel
theorem dN_Mod_step_164 : decode cN_Mod_step 164 = .ok (.aload_n 0, 1) := by decide +kernel
theorem dN_Mod_step_165 : decode cN_Mod_step 165 = .ok (.getfield 20, 3) := by decide +kernel
theorem dN_Mod_step_168 : decode cN_Mod_step 168 = .ok (.iload_n 1, 1) := by decide +kernel
theorem dN_Mod_step_169 : decode cN_Mod_step 169 = .ok (.iload 4, 2) := by decide +kernel
theorem dN_Mod_step_171 : decode cN_Mod_step 171 = .ok (.iastore, 1) := by decide +kernel
theorem dN_Mod_step_172 : decode cN_Mod_step 172 = .ok (.aload_n 0, 1) := by decide +kernel
theorem dN_Mod_step_173 : decode cN_Mod_step 173 = .ok (.getfield 23, 3) := by decide +kernel
theorem dN_Mod_step_176 : decode cN_Mod_step 176 = .ok (.iload_n 1, 1) := by decide +kernel
theorem dN_Mod_step_177 : decode cN_Mod_step 177 = .ok (.iload 5, 2) := by decide +kernel
theorem dN_Mod_step_179 : decode cN_Mod_step 179 = .ok (.iastore, 1) := by decide +kernel
theorem dN_Mod_step_180 : decode cN_Mod_step 180 = .ok (.return_, 1) := by decide +kernel
theorem dN_Mod_isStep_0 : decode cN_Mod_isStep 0 = .ok (.iload_n 1, 1) := by decide +kernel
theorem dN_Mod_isStep_1 : decode cN_Mod_isStep 1 = .ok (.ifCond .lt 15, 3) := by decide +kernel
theorem dN_Mod_isStep_4 : decode cN_Mod_isStep 4 = .ok (.iload_n 1, 1) := by decide +kernel
theorem dN_Mod_isStep_5 : decode cN_Mod_isStep 5 = .ok (.aload_n 0, 1) := by decide +kernel
theorem dN_Mod_isStep_6 : decode cN_Mod_isStep 6 = .ok (.getfield 7, 3) := by decide +kernel
theorem dN_Mod_isStep_9 : decode cN_Mod_isStep 9 = .ok (.if_icmp .ge 7, 3) := by decide +kernel
theorem dN_Mod_isStep_12 : decode cN_Mod_isStep 12 = .ok (.iconst 1, 1) := by decide +kernel
theorem dN_Mod_isStep_13 : decode cN_Mod_isStep 13 = .ok (.goto 4, 3) := by decide +kernel
theorem dN_Mod_isStep_16 : decode cN_Mod_isStep 16 = .ok (.iconst 0, 1) := by decide +kernel
theorem dN_Mod_isStep_17 : decode cN_Mod_isStep 17 = .ok (.ireturn, 1) := by decide +kernel
theorem dN_Mod_begin_0 : decode cN_Mod_begin 0 = .ok (.aload_n 0, 1) := by decide +kernel
theorem dN_Mod_begin_1 : decode cN_Mod_begin 1 = .ok (.aload_n 0, 1) := by decide +kernel
theorem dN_Mod_begin_2 : decode cN_Mod_begin 2 = .ok (.iload_n 1, 1) := by decide +kernel
theorem dN_Mod_begin_3 : decode cN_Mod_begin 3 = .ok (.invokevirtual 76, 3) := by decide +kernel
theorem dN_Mod_begin_6 : decode cN_Mod_begin 6 = .ok (.ifCond .eq 7, 3) := by decide +kernel
theorem dN_Mod_begin_9 : decode cN_Mod_begin 9 = .ok (.iconst 0, 1) := by decide +kernel
theorem dN_Mod_begin_10 : decode cN_Mod_begin 10 = .ok (.goto 4, 3) := by decide +kernel
theorem dN_Mod_begin_13 : decode cN_Mod_begin 13 = .ok (.iconst 1, 1) := by decide +kernel
theorem dN_Mod_begin_14 : decode cN_Mod_begin 14 = .ok (.putfield 70, 3) := by decide +kernel
theorem dN_Mod_begin_17 : decode cN_Mod_begin 17 = .ok (.aload_n 0, 1) := by decide +kernel
theorem dN_Mod_begin_18 : decode cN_Mod_begin 18 = .ok (.getfield 70, 3) := by decide +kernel
theorem dN_Mod_begin_21 : decode cN_Mod_begin 21 = .ok (.ifCond .ne 8, 3) := by decide +kernel
theorem dN_Mod_begin_24 : decode cN_Mod_begin 24 = .ok (.aload_n 0, 1) := by decide +kernel
theorem dN_Mod_begin_25 : decode cN_Mod_begin 25 = .ok (.iload_n 1, 1) := by decide +kernel
theorem dN_Mod_begin_26 : decode cN_Mod_begin 26 = .ok (.putfield 73, 3) := by decide +kernel
theorem dN_Mod_begin_29 : decode cN_Mod_begin 29 = .ok (.return_, 1) := by decide +kernel
theorem dN_Mod_put_0 : decode cN_Mod_put 0 = .ok (.aload_n 0, 1) := by decide +kernel
theorem dN_Mod_put_1 : decode cN_Mod_put 1 = .ok (.iconst 0, 1) := by decide +kernel
theorem dN_Mod_put_2 : decode cN_Mod_put 2 = .ok (.putfield 70, 3) := by decide +kernel
theorem dN_Mod_put_5 : decode cN_Mod_put 5 = .ok (.iload_n 3, 1) := by decide +kernel
theorem dN_Mod_put_6 : decode cN_Mod_put 6 = .ok (.ifCond .lt 21, 3) := by decide +kernel
theorem dN_Mod_put_9 : decode cN_Mod_put 9 = .ok (.iload_n 3, 1) := by decide +kernel
theorem dN_Mod_put_10 : decode cN_Mod_put 10 = .ok (.bipush 8, 2) := by decide +kernel
theorem dN_Mod_put_12 : decode cN_Mod_put 12 = .ok (.if_icmp .gt 15, 3) := by decide +kernel
theorem dN_Mod_put_15 : decode cN_Mod_put 15 = .ok (.aload_n 0, 1) := by decide +kernel
theorem dN_Mod_put_16 : decode cN_Mod_put 16 = .ok (.getfield 81, 3) := by decide +kernel
theorem dN_Mod_put_19 : decode cN_Mod_put 19 = .ok (.iload_n 3, 1) := by decide +kernel
theorem dN_Mod_put_20 : decode cN_Mod_put 20 = .ok (.iadd, 1) := by decide +kernel
theorem dN_Mod_put_21 : decode cN_Mod_put 21 = .ok (.sipush 200, 3) := by decide +kernel
theorem dN_Mod_put_24 : decode cN_Mod_put 24 = .ok (.if_icmp .le 5, 3) := by decide +kernel
theorem dN_Mod_put_27 : decode cN_Mod_put 27 = .ok (.iconst 0, 1) := by decide +kernel
theorem dN_Mod_put_28 : decode cN_Mod_put 28 = .ok (.ireturn, 1) := by decide +kernel
theorem dN_Mod_put_29 : decode cN_Mod_put 29 = .ok (.iload_n 3, 1) := by decide +kernel
theorem dN_Mod_put_30 : decode cN_Mod_put 30 = .ok (.iconst 1, 1) := by decide +kernel
theorem dN_Mod_put_31 : decode cN_Mod_put 31 = .ok (.isub, 1) := by decide +kernel
theorem dN_Mod_put_32 : decode cN_Mod_put 32 = .ok (.istore 4, 2) := by decide +kernel
theorem dN_Mod_put_34 : decode cN_Mod_put 34 = .ok (.iload 4, 2) := by decide +kernel
theorem dN_Mod_put_36 : decode cN_Mod_put 36 = .ok (.ifCond .lt 40, 3) := by decide +kernel
theorem dN_Mod_put_39 : decode cN_Mod_put 39 = .ok (.aload_n 0, 1) := by decide +kernel
theorem dN_Mod_put_40 : decode cN_Mod_put 40 = .ok (.getfield 26, 3) := by decide +kernel
theorem dN_Mod_put_43 : decode cN_Mod_put 43 = .ok (.aload_n 0, 1) := by decide +kernel
theorem dN_Mod_put_44 : decode cN_Mod_put 44 = .ok (.getfield 81, 3) := by decide +kernel
theorem dN_Mod_put_47 : decode cN_Mod_put 47 = .ok (.lload_n 1, 1) := by decide +kernel
theorem dN_Mod_put_48 : decode cN_Mod_put 48 = .ok (.bipush 8, 2) := by decide +kernel
theorem dN_Mod_put_50 : decode cN_Mod_put 50 = .ok (.iload 4, 2) := by decide +kernel
theorem dN_Mod_put_52 : decode cN_Mod_put 52 = .ok (.imul, 1) := by decide +kernel
theorem dN_Mod_put_53 : decode cN_Mod_put 53 = .ok (.lshr, 1) := by decide +kernel
theorem dN_Mod_put_54 : decode cN_Mod_put 54 = .ok (.ldc2_w 84, 3) := by decide +kernel
theorem dN_Mod_put_57 : decode cN_Mod_put 57 = .ok (.land, 1) := by decide +kernel
theorem dN_Mod_put_58 : decode cN_Mod_put 58 = .ok (.l2i, 1) := by decide +kernel
theorem dN_Mod_put_59 : decode cN_Mod_put 59 = .ok (.iastore, 1) := by decide +kernel
theorem dN_Mod_put_60 : decode cN_Mod_put 60 = .ok (.aload_n 0, 1) := by decide +kernel
theorem dN_Mod_put_61 : decode cN_Mod_put 61 = .ok (.dup, 1) := by decide +kernel
theorem dN_Mod_put_62 : decode cN_Mod_put 62 = .ok (.getfield 81, 3) := by decide +kernel
theorem dN_Mod_put_65 : decode cN_Mod_put 65 = .ok (.iconst 1, 1) := by decide +kernel
theorem dN_Mod_put_66 : decode cN_Mod_put 66 = .ok (.iadd, 1) := by decide +kernel
theorem dN_Mod_put_67 : decode cN_Mod_put 67 = .ok (.putfield 81, 3) := by decide +kernel
theorem dN_Mod_put_70 : decode cN_Mod_put 70 = .ok (.iinc 4 (-1), 3) := by decide +kernel
theorem dN_Mod_put_73 : decode cN_Mod_put 73 = .ok (.goto (-39), 3) := by decide +kernel
theorem dN_Mod_put_76 : decode cN_Mod_put 76 = .ok (.iconst 1, 1) := by decide +kernel
theorem dN_Mod_put_77 : decode cN_Mod_put 77 = .ok (.ireturn, 1) := by decide +kernel
theorem dN_Mod_clear_0 : decode cN_Mod_clear 0 = .ok (.aload_n 0, 1) := by decide +kernel
theorem dN_Mod_clear_1 : decode cN_Mod_clear 1 = .ok (.iconst 0, 1) := by decide +kernel
theorem dN_Mod_clear_2 : decode cN_Mod_clear 2 = .ok (.putfield 70, 3) := by decide +kernel
theorem dN_Mod_clear_5 : decode cN_Mod_clear 5 = .ok (.aload_n 0, 1) := by decide +kernel
theorem dN_Mod_clear_6 : decode cN_Mod_clear 6 = .ok (.iconst 0, 1) := by decide +kernel
theorem dN_Mod_clear_7 : decode cN_Mod_clear 7 = .ok (.putfield 81, 3) := by decide +kernel
theorem dN_Mod_clear_10 : decode cN_Mod_clear 10 = .ok (.return_, 1) := by decide +kernel
theorem dN_Mod_match_0 : decode cN_Mod_match 0 = .ok (.aload_n 0, 1) := by decide +kernel
theorem dN_Mod_match_1 : decode cN_Mod_match 1 = .ok (.aload_n 0, 1) := by decide +kernel
theorem dN_Mod_match_2 : decode cN_Mod_match 2 = .ok (.iload_n 1, 1) := by decide +kernel
theorem dN_Mod_match_3 : decode cN_Mod_match 3 = .ok (.iload 4, 2) := by decide +kernel
theorem dN_Mod_match_5 : decode cN_Mod_match 5 = .ok (.invokevirtual 124, 3) := by decide +kernel
theorem dN_Mod_match_8 : decode cN_Mod_match 8 = .ok (.ifCond .eq 16, 3) := by decide +kernel
theorem dN_Mod_match_11 : decode cN_Mod_match 11 = .ok (.iload_n 3, 1) := by decide +kernel
theorem dN_Mod_match_12 : decode cN_Mod_match 12 = .ok (.ifCond .lt 12, 3) := by decide +kernel
theorem dN_Mod_match_15 : decode cN_Mod_match 15 = .ok (.iload_n 3, 1) := by decide +kernel
theorem dN_Mod_match_16 : decode cN_Mod_match 16 = .ok (.iconst 3, 1) := by decide +kernel
theorem dN_Mod_match_17 : decode cN_Mod_match 17 = .ok (.if_icmp .ge 7, 3) := by decide +kernel
theorem dN_Mod_match_20 : decode cN_Mod_match 20 = .ok (.iconst 0, 1) := by decide +kernel
theorem dN_Mod_match_21 : decode cN_Mod_match 21 = .ok (.goto 4, 3) := by decide +kernel
theorem dN_Mod_match_24 : decode cN_Mod_match 24 = .ok (.iconst 1, 1) := by decide +kernel
theorem dN_Mod_match_25 : decode cN_Mod_match 25 = .ok (.putfield 70, 3) := by decide +kernel
theorem dN_Mod_match_28 : decode cN_Mod_match 28 = .ok (.aload_n 0, 1) := by decide +kernel
theorem dN_Mod_match_29 : decode cN_Mod_match 29 = .ok (.getfield 70, 3) := by decide +kernel
theorem dN_Mod_match_32 : decode cN_Mod_match 32 = .ok (.ifCond .le 5, 3) := by decide +kernel
theorem dN_Mod_match_35 : decode cN_Mod_match 35 = .ok (.iconst 0, 1) := by decide +kernel
theorem dN_Mod_match_36 : decode cN_Mod_match 36 = .ok (.ireturn, 1) := by decide +kernel
theorem dN_Mod_match_37 : decode cN_Mod_match 37 = .ok (.aload_n 0, 1) := by decide +kernel
theorem dN_Mod_match_38 : decode cN_Mod_match 38 = .ok (.iload_n 1, 1) := by decide +kernel
theorem dN_Mod_match_39 : decode cN_Mod_match 39 = .ok (.iload_n 2, 1) := by decide +kernel
theorem dN_Mod_match_40 : decode cN_Mod_match 40 = .ok (.iload 4, 2) := by decide +kernel
theorem dN_Mod_match_42 : decode cN_Mod_match 42 = .ok (.invokevirtual 127, 3) := by decide +kernel
theorem dN_Mod_match_45 : decode cN_Mod_match 45 = .ok (.istore 5, 2) := by decide +kernel
theorem dN_Mod_match_47 : decode cN_Mod_match 47 = .ok (.iconst 0, 1) := by decide +kernel
theorem dN_Mod_match_48 : decode cN_Mod_match 48 = .ok (.istore 6, 2) := by decide +kernel
theorem dN_Mod_match_50 : decode cN_Mod_match 50 = .ok (.iload 6, 2) := by decide +kernel
theorem dN_Mod_match_52 : decode cN_Mod_match 52 = .ok (.bipush 20, 2) := by decide +kernel
theorem dN_Mod_match_54 : decode cN_Mod_match 54 = .ok (.if_icmp .ge 32, 3) := by decide +kernel
theorem dN_Mod_match_57 : decode cN_Mod_match 57 = .ok (.aload_n 0, 1) := by decide +kernel
theorem dN_Mod_match_58 : decode cN_Mod_match 58 = .ok (.getfield 40, 3) := by decide +kernel
theorem dN_Mod_match_61 : decode cN_Mod_match 61 = .ok (.iload 6, 2) := by decide +kernel
theorem dN_Mod_match_63 : decode cN_Mod_match 63 = .ok (.iload 5, 2) := by decide +kernel
theorem dN_Mod_match_65 : decode cN_Mod_match 65 = .ok (.ifCond .ge 7, 3) := by decide +kernel
theorem dN_Mod_match_68 : decode cN_Mod_match 68 = .ok (.iconst (-1), 1) := by decide +kernel
theorem dN_Mod_match_69 : decode cN_Mod_match 69 = .ok (.goto 10, 3) := by decide +kernel
theorem dN_Mod_match_72 : decode cN_Mod_match 72 = .ok (.aload_n 0, 1) := by decide +kernel
theorem dN_Mod_match_73 : decode cN_Mod_match 73 = .ok (.getfield 37, 3) := by decide +kernel
theorem dN_Mod_match_76 : decode cN_Mod_match 76 = .ok (.iload 6, 2) := by decide +kernel
theorem dN_Mod_match_78 : decode cN_Mod_match 78 = .ok (.iaload, 1) := by decide +kernel
theorem dN_Mod_match_79 : decode cN_Mod_match 79 = .ok (.iastore, 1) := by decide +kernel
theorem dN_Mod_match_80 : decode cN_Mod_match 80 = .ok (.iinc 6 1, 3) := by decide +kernel
theorem dN_Mod_match_83 : decode cN_Mod_match 83 = .ok (.goto (-33), 3) := by decide +kernel
theorem dN_Mod_match_86 : decode cN_Mod_match 86 = .ok (.iload 5, 2) := by decide +kernel
theorem dN_Mod_match_88 : decode cN_Mod_match 88 = .ok (.ireturn, 1) := by decide +kernel
theorem dN_Mod_isGood_0 : decode cN_Mod_isGood 0 = .ok (.iload_n 1, 1) := by decide +kernel
theorem dN_Mod_isGood_1 : decode cN_Mod_isGood 1 = .ok (.ifCond .lt 24, 3) := by decide +kernel
theorem dN_Mod_isGood_4 : decode cN_Mod_isGood 4 = .ok (.iload_n 1, 1) := by decide +kernel
theorem dN_Mod_isGood_5 : decode cN_Mod_isGood 5 = .ok (.iconst 3, 1) := by decide +kernel
theorem dN_Mod_isGood_6 : decode cN_Mod_isGood 6 = .ok (.if_icmp .ge 19, 3) := by decide +kernel
theorem dN_Mod_isGood_9 : decode cN_Mod_isGood 9 = .ok (.iload_n 2, 1) := by decide +kernel
theorem dN_Mod_isGood_10 : decode cN_Mod_isGood 10 = .ok (.ifCond .lt 15, 3) := by decide +kernel
theorem dN_Mod_isGood_13 : decode cN_Mod_isGood 13 = .ok (.iload_n 2, 1) := by decide +kernel
theorem dN_Mod_isGood_14 : decode cN_Mod_isGood 14 = .ok (.aload_n 0, 1) := by decide +kernel
theorem dN_Mod_isGood_15 : decode cN_Mod_isGood 15 = .ok (.getfield 81, 3) := by decide +kernel
theorem dN_Mod_isGood_18 : decode cN_Mod_isGood 18 = .ok (.if_icmp .gt 7, 3) := by decide +kernel
theorem dN_Mod_isGood_21 : decode cN_Mod_isGood 21 = .ok (.iconst 1, 1) := by decide +kernel
theorem dN_Mod_isGood_22 : decode cN_Mod_isGood 22 = .ok (.goto 4, 3) := by decide +kernel
theorem dN_Mod_isGood_25 : decode cN_Mod_isGood 25 = .ok (.iconst 0, 1) := by decide +kernel
theorem dN_Mod_isGood_26 : decode cN_Mod_isGood 26 = .ok (.ireturn, 1) := by decide +kernel
theorem dN_Mod_find_0 : decode cN_Mod_find 0 = .ok (.aload_n 0, 1) := by decide +kernel
theorem dN_Mod_find_1 : decode cN_Mod_find 1 = .ok (.aload_n 0, 1) := by decide +kernel
theorem dN_Mod_find_2 : decode cN_Mod_find 2 = .ok (.getfield 81, 3) := by decide +kernel
theorem dN_Mod_find_5 : decode cN_Mod_find 5 = .ok (.iload_n 3, 1) := by decide +kernel
theorem dN_Mod_find_6 : decode cN_Mod_find 6 = .ok (.iload_n 1, 1) := by decide +kernel
theorem dN_Mod_find_7 : decode cN_Mod_find 7 = .ok (.iconst 2, 1) := by decide +kernel
theorem dN_Mod_find_8 : decode cN_Mod_find 8 = .ok (.if_icmp .ne 7, 3) := by decide +kernel
theorem dN_Mod_find_11 : decode cN_Mod_find 11 = .ok (.iconst 1, 1) := by decide +kernel
theorem dN_Mod_find_12 : decode cN_Mod_find 12 = .ok (.goto 4, 3) := by decide +kernel
theorem dN_Mod_find_15 : decode cN_Mod_find 15 = .ok (.iconst 0, 1) := by decide +kernel
theorem dN_Mod_find_16 : decode cN_Mod_find 16 = .ok (.invokevirtual 112, 3) := by decide +kernel
theorem dN_Mod_find_19 : decode cN_Mod_find 19 = .ok (.iload_n 3, 1) := by decide +kernel
theorem dN_Mod_find_20 : decode cN_Mod_find 20 = .ok (.istore 4, 2) := by decide +kernel
theorem dN_Mod_find_22 : decode cN_Mod_find 22 = .ok (.iload_n 1, 1) := by decide +kernel
theorem dN_Mod_find_23 : decode cN_Mod_find 23 = .ok (.ifCond .ne 37, 3) := by decide +kernel
theorem dN_Mod_find_26 : decode cN_Mod_find 26 = .ok (.iload 4, 2) := by decide +kernel
theorem dN_Mod_find_28 : decode cN_Mod_find 28 = .ok (.aload_n 0, 1) := by decide +kernel
theorem dN_Mod_find_29 : decode cN_Mod_find 29 = .ok (.getfield 81, 3) := by decide +kernel
theorem dN_Mod_find_32 : decode cN_Mod_find 32 = .ok (.if_icmp .ge 28, 3) := by decide +kernel
theorem dN_Mod_find_35 : decode cN_Mod_find 35 = .ok (.aload_n 0, 1) := by decide +kernel
theorem dN_Mod_find_36 : decode cN_Mod_find 36 = .ok (.getfield 30, 3) := by decide +kernel
theorem dN_Mod_find_39 : decode cN_Mod_find 39 = .ok (.sipush 200, 3) := by decide +kernel
theorem dN_Mod_find_42 : decode cN_Mod_find 42 = .ok (.iload 4, 2) := by decide +kernel
theorem dN_Mod_find_44 : decode cN_Mod_find 44 = .ok (.imul, 1) := by decide +kernel
theorem dN_Mod_find_45 : decode cN_Mod_find 45 = .ok (.aload_n 0, 1) := by decide +kernel
theorem dN_Mod_find_46 : decode cN_Mod_find 46 = .ok (.getfield 73, 3) := by decide +kernel
theorem dN_Mod_find_49 : decode cN_Mod_find 49 = .ok (.iadd, 1) := by decide +kernel
theorem dN_Mod_find_50 : decode cN_Mod_find 50 = .ok (.baload, 1) := by decide +kernel
theorem dN_Mod_find_51 : decode cN_Mod_find 51 = .ok (.ifCond .ne 9, 3) := by decide +kernel
theorem dN_Mod_find_54 : decode cN_Mod_find 54 = .ok (.iinc 4 1, 3) := by decide +kernel
theorem dN_Mod_find_57 : decode cN_Mod_find 57 = .ok (.goto (-35), 3) := by decide +kernel
theorem dN_Mod_find_60 : decode cN_Mod_find 60 = .ok (.aload_n 0, 1) := by decide +kernel
theorem dN_Mod_find_61 : decode cN_Mod_find 61 = .ok (.getfield 30, 3) := by decide +kernel
theorem dN_Mod_find_64 : decode cN_Mod_find 64 = .ok (.sipush 200, 3) := by decide +kernel
theorem dN_Mod_find_67 : decode cN_Mod_find 67 = .ok (.iload 4, 2) := by decide +kernel
theorem dN_Mod_find_69 : decode cN_Mod_find 69 = .ok (.imul, 1) := by decide +kernel
theorem dN_Mod_find_70 : decode cN_Mod_find 70 = .ok (.aload_n 0, 1) := by decide +kernel
theorem dN_Mod_find_71 : decode cN_Mod_find 71 = .ok (.getfield 73, 3) := by decide +kernel
theorem dN_Mod_find_74 : decode cN_Mod_find 74 = .ok (.iadd, 1) := by decide +kernel
theorem dN_Mod_find_75 : decode cN_Mod_find 75 = .ok (.baload, 1) := by decide +kernel
theorem dN_Mod_find_76 : decode cN_Mod_find 76 = .ok (.ifCond .ne 5, 3) := by decide +kernel
theorem dN_Mod_find_79 : decode cN_Mod_find 79 = .ok (.iconst (-1), 1) := by decide +kernel
theorem dN_Mod_find_80 : decode cN_Mod_find 80 = .ok (.ireturn, 1) := by decide +kernel
theorem dN_Mod_find_81 : decode cN_Mod_find 81 = .ok (.iload_n 1, 1) := by decide +kernel
theorem dN_Mod_find_82 : decode cN_Mod_find 82 = .ok (.iconst 2, 1) := by decide +kernel
theorem dN_Mod_find_83 : decode cN_Mod_find 83 = .ok (.if_icmp .ne 10, 3) := by decide +kernel
theorem dN_Mod_find_86 : decode cN_Mod_find 86 = .ok (.aload_n 0, 1) := by decide +kernel
theorem dN_Mod_find_87 : decode cN_Mod_find 87 = .ok (.getfield 81, 3) := by decide +kernel
theorem dN_Mod_find_90 : decode cN_Mod_find 90 = .ok (.goto 4, 3) := by decide +kernel
theorem dN_Mod_find_93 : decode cN_Mod_find 93 = .ok (.iconst (-1), 1) := by decide +kernel
theorem dN_Mod_find_94 : decode cN_Mod_find 94 = .ok (.istore 5, 2) := by decide +kernel
theorem dN_Mod_find_96 : decode cN_Mod_find 96 = .ok (.iload_n 2, 1) := by decide +kernel
theorem dN_Mod_find_97 : decode cN_Mod_find 97 = .ok (.ifCond .eq 25, 3) := by decide +kernel
theorem dN_Mod_find_100 : decode cN_Mod_find 100 = .ok (.iload_n 1, 1) := by decide +kernel
theorem dN_Mod_find_101 : decode cN_Mod_find 101 = .ok (.iconst 2, 1) := by decide +kernel
theorem dN_Mod_find_102 : decode cN_Mod_find 102 = .ok (.if_icmp .ge 20, 3) := by decide +kernel
theorem dN_Mod_find_105 : decode cN_Mod_find 105 = .ok (.aload_n 0, 1) := by decide +kernel
theorem dN_Mod_find_106 : decode cN_Mod_find 106 = .ok (.iload 4, 2) := by decide +kernel
theorem dN_Mod_find_108 : decode cN_Mod_find 108 = .ok (.invokevirtual 116, 3) := by decide +kernel
theorem dN_Mod_find_111 : decode cN_Mod_find 111 = .ok (.istore 5, 2) := by decide +kernel
theorem dN_Mod_find_113 : decode cN_Mod_find 113 = .ok (.aload_n 0, 1) := by decide +kernel
theorem dN_Mod_find_114 : decode cN_Mod_find 114 = .ok (.iload 5, 2) := by decide +kernel
theorem dN_Mod_find_116 : decode cN_Mod_find 116 = .ok (.iload 4, 2) := by decide +kernel
theorem dN_Mod_find_118 : decode cN_Mod_find 118 = .ok (.iconst 1, 1) := by decide +kernel
theorem dN_Mod_find_119 : decode cN_Mod_find 119 = .ok (.invokevirtual 112, 3) := by decide +kernel
theorem dN_Mod_find_122 : decode cN_Mod_find 122 = .ok (.aload_n 0, 1) := by decide +kernel
theorem dN_Mod_find_123 : decode cN_Mod_find 123 = .ok (.iload 4, 2) := by decide +kernel
theorem dN_Mod_find_125 : decode cN_Mod_find 125 = .ok (.iload 5, 2) := by decide +kernel
theorem dN_Mod_find_127 : decode cN_Mod_find 127 = .ok (.invokevirtual 120, 3) := by decide +kernel
theorem dN_Mod_find_130 : decode cN_Mod_find 130 = .ok (.istore 6, 2) := by decide +kernel
theorem dN_Mod_find_132 : decode cN_Mod_find 132 = .ok (.aload_n 0, 1) := by decide +kernel
theorem dN_Mod_find_133 : decode cN_Mod_find 133 = .ok (.getfield 37, 3) := by decide +kernel
theorem dN_Mod_find_136 : decode cN_Mod_find 136 = .ok (.iconst 0, 1) := by decide +kernel
theorem dN_Mod_find_137 : decode cN_Mod_find 137 = .ok (.iload 4, 2) := by decide +kernel
theorem dN_Mod_find_139 : decode cN_Mod_find 139 = .ok (.iastore, 1) := by decide +kernel
theorem dN_Mod_find_140 : decode cN_Mod_find 140 = .ok (.aload_n 0, 1) := by decide +kernel
theorem dN_Mod_find_141 : decode cN_Mod_find 141 = .ok (.getfield 37, 3) := by decide +kernel
theorem dN_Mod_find_144 : decode cN_Mod_find 144 = .ok (.iconst 1, 1) := by decide +kernel
theorem dN_Mod_find_145 : decode cN_Mod_find 145 = .ok (.iload 6, 2) := by decide +kernel
theorem dN_Mod_find_147 : decode cN_Mod_find 147 = .ok (.iastore, 1) := by decide +kernel
theorem dN_Mod_find_148 : decode cN_Mod_find 148 = .ok (.iload 6, 2) := by decide +kernel
theorem dN_Mod_find_150 : decode cN_Mod_find 150 = .ok (.ireturn, 1) := by decide +kernel
theorem dN_Mod_note_0 : decode cN_Mod_note 0 = .ok (.iload_n 1, 1) := by decide +kernel
theorem dN_Mod_note_1 : decode cN_Mod_note 1 = .ok (.istore 4, 2) := by decide +kernel
theorem dN_Mod_note_3 : decode cN_Mod_note 3 = .ok (.iload 4, 2) := by decide +kernel
theorem dN_Mod_note_5 : decode cN_Mod_note 5 = .ok (.iload_n 2, 1) := by decide +kernel
theorem dN_Mod_note_6 : decode cN_Mod_note 6 = .ok (.if_icmp .lt 270, 3) := by decide +kernel
theorem dN_Mod_note_9 : decode cN_Mod_note 9 = .ok (.iconst 0, 1) := by decide +kernel
theorem dN_Mod_note_10 : decode cN_Mod_note 10 = .ok (.istore 5, 2) := by decide +kernel
theorem dN_Mod_note_12 : decode cN_Mod_note 12 = .ok (.iload 5, 2) := by decide +kernel
theorem dN_Mod_note_14 : decode cN_Mod_note 14 = .ok (.aload_n 0, 1) := by decide +kernel
theorem dN_Mod_note_15 : decode cN_Mod_note 15 = .ok (.getfield 7, 3) := by decide +kernel
theorem dN_Mod_note_18 : decode cN_Mod_note 18 = .ok (.if_icmp .ge 94, 3) := by decide +kernel
theorem dN_Mod_note_21 : decode cN_Mod_note 21 = .ok (.aload_n 0, 1) := by decide +kernel
theorem dN_Mod_note_22 : decode cN_Mod_note 22 = .ok (.getfield 30, 3) := by decide +kernel
theorem dN_Mod_note_25 : decode cN_Mod_note 25 = .ok (.sipush 200, 3) := by decide +kernel
theorem dN_Mod_note_28 : decode cN_Mod_note 28 = .ok (.iload 4, 2) := by decide +kernel
theorem dN_Mod_note_30 : decode cN_Mod_note 30 = .ok (.imul, 1) := by decide +kernel
theorem dN_Mod_note_31 : decode cN_Mod_note 31 = .ok (.iload 5, 2) := by decide +kernel
theorem dN_Mod_note_33 : decode cN_Mod_note 33 = .ok (.iadd, 1) := by decide +kernel
theorem dN_Mod_note_34 : decode cN_Mod_note 34 = .ok (.iload 5, 2) := by decide +kernel
theorem dN_Mod_note_36 : decode cN_Mod_note 36 = .ok (.ifCond .ne 21, 3) := by decide +kernel
theorem dN_Mod_note_39 : decode cN_Mod_note 39 = .ok (.iload 4, 2) := by decide +kernel
theorem dN_Mod_note_41 : decode cN_Mod_note 41 = .ok (.iload_n 1, 1) := by decide +kernel
theorem dN_Mod_note_42 : decode cN_Mod_note 42 = .ok (.if_icmp .eq 7, 3) := by decide +kernel
theorem dN_Mod_note_45 : decode cN_Mod_note 45 = .ok (.iload_n 3, 1) := by decide +kernel
theorem dN_Mod_note_46 : decode cN_Mod_note 46 = .ok (.ifCond .ne 7, 3) := by decide +kernel
theorem dN_Mod_note_49 : decode cN_Mod_note 49 = .ok (.iconst 1, 1) := by decide +kernel
theorem dN_Mod_note_50 : decode cN_Mod_note 50 = .ok (.goto 55, 3) := by decide +kernel
theorem dN_Mod_note_53 : decode cN_Mod_note 53 = .ok (.iconst 0, 1) := by decide +kernel
theorem dN_Mod_note_54 : decode cN_Mod_note 54 = .ok (.goto 51, 3) := by decide +kernel
theorem dN_Mod_note_57 : decode cN_Mod_note 57 = .ok (.aload_n 0, 1) := by decide +kernel
theorem dN_Mod_note_58 : decode cN_Mod_note 58 = .ok (.iload 5, 2) := by decide +kernel
theorem dN_Mod_note_60 : decode cN_Mod_note 60 = .ok (.iload 4, 2) := by decide +kernel
theorem dN_Mod_note_62 : decode cN_Mod_note 62 = .ok (.invokevirtual 93, 3) := by decide +kernel
theorem dN_Mod_note_65 : decode cN_Mod_note 65 = .ok (.ifCond .eq 39, 3) := by decide +kernel
theorem dN_Mod_note_68 : decode cN_Mod_note 68 = .ok (.iload 4, 2) := by decide +kernel
theorem dN_Mod_note_70 : decode cN_Mod_note 70 = .ok (.iload_n 1, 1) := by decide +kernel
theorem dN_Mod_note_71 : decode cN_Mod_note 71 = .ok (.if_icmp .ge 33, 3) := by decide +kernel
theorem dN_Mod_note_74 : decode cN_Mod_note 74 = .ok (.aload_n 0, 1) := by decide +kernel
theorem dN_Mod_note_75 : decode cN_Mod_note 75 = .ok (.getfield 30, 3) := by decide +kernel
theorem dN_Mod_note_78 : decode cN_Mod_note 78 = .ok (.sipush 200, 3) := by decide +kernel
theorem dN_Mod_note_81 : decode cN_Mod_note 81 = .ok (.iload 4, 2) := by decide +kernel
theorem dN_Mod_note_83 : decode cN_Mod_note 83 = .ok (.imul, 1) := by decide +kernel
theorem dN_Mod_note_84 : decode cN_Mod_note 84 = .ok (.sipush 200, 3) := by decide +kernel
theorem dN_Mod_note_87 : decode cN_Mod_note 87 = .ok (.iadd, 1) := by decide +kernel
theorem dN_Mod_note_88 : decode cN_Mod_note 88 = .ok (.aload_n 0, 1) := by decide +kernel
theorem dN_Mod_note_89 : decode cN_Mod_note 89 = .ok (.getfield 20, 3) := by decide +kernel
theorem dN_Mod_note_92 : decode cN_Mod_note 92 = .ok (.iload 5, 2) := by decide +kernel
theorem dN_Mod_note_94 : decode cN_Mod_note 94 = .ok (.iaload, 1) := by decide +kernel
theorem dN_Mod_note_95 : decode cN_Mod_note 95 = .ok (.iadd, 1) := by decide +kernel
theorem dN_Mod_note_96 : decode cN_Mod_note 96 = .ok (.baload, 1) := by decide +kernel
theorem dN_Mod_note_97 : decode cN_Mod_note 97 = .ok (.ifCond .eq 7, 3) := by decide +kernel
theorem dN_Mod_note_100 : decode cN_Mod_note 100 = .ok (.iconst 1, 1) := by decide +kernel
theorem dN_Mod_note_101 : decode cN_Mod_note 101 = .ok (.goto 4, 3) := by decide +kernel
theorem dN_Mod_note_104 : decode cN_Mod_note 104 = .ok (.iconst 0, 1) := by decide +kernel
theorem dN_Mod_note_105 : decode cN_Mod_note 105 = .ok (.bastore, 1) := by decide +kernel
theorem dN_Mod_note_106 : decode cN_Mod_note 106 = .ok (.iinc 5 1, 3) := by decide +kernel
theorem dN_Mod_note_109 : decode cN_Mod_note 109 = .ok (.goto (-97), 3) := by decide +kernel
theorem dN_Mod_note_112 : decode cN_Mod_note 112 = .ok (.iconst 1, 1) := by decide +kernel
theorem dN_Mod_note_113 : decode cN_Mod_note 113 = .ok (.istore 5, 2) := by decide +kernel
theorem dN_Mod_note_115 : decode cN_Mod_note 115 = .ok (.iload 5, 2) := by decide +kernel
theorem dN_Mod_note_117 : decode cN_Mod_note 117 = .ok (.ifCond .eq 153, 3) := by decide +kernel
theorem dN_Mod_note_120 : decode cN_Mod_note 120 = .ok (.iconst 0, 1) := by decide +kernel
theorem dN_Mod_note_121 : decode cN_Mod_note 121 = .ok (.istore 5, 2) := by decide +kernel
theorem dN_Mod_note_123 : decode cN_Mod_note 123 = .ok (.iconst 1, 1) := by decide +kernel
theorem dN_Mod_note_124 : decode cN_Mod_note 124 = .ok (.istore 6, 2) := by decide +kernel
theorem dN_Mod_note_126 : decode cN_Mod_note 126 = .ok (.iload 6, 2) := by decide +kernel
theorem dN_Mod_note_128 : decode cN_Mod_note 128 = .ok (.aload_n 0, 1) := by decide +kernel
theorem dN_Mod_note_129 : decode cN_Mod_note 129 = .ok (.getfield 7, 3) := by decide +kernel
theorem dN_Mod_note_132 : decode cN_Mod_note 132 = .ok (.if_icmp .ge 135, 3) := by decide +kernel
theorem dN_Mod_note_135 : decode cN_Mod_note 135 = .ok (.aload_n 0, 1) := by decide +kernel
theorem dN_Mod_note_136 : decode cN_Mod_note 136 = .ok (.getfield 30, 3) := by decide +kernel
theorem dN_Mod_note_139 : decode cN_Mod_note 139 = .ok (.sipush 200, 3) := by decide +kernel
theorem dN_Mod_note_142 : decode cN_Mod_note 142 = .ok (.iload 4, 2) := by decide +kernel
theorem dN_Mod_note_144 : decode cN_Mod_note 144 = .ok (.imul, 1) := by decide +kernel
theorem dN_Mod_note_145 : decode cN_Mod_note 145 = .ok (.iload 6, 2) := by decide +kernel
theorem dN_Mod_note_147 : decode cN_Mod_note 147 = .ok (.iadd, 1) := by decide +kernel
theorem dN_Mod_note_148 : decode cN_Mod_note 148 = .ok (.baload, 1) := by decide +kernel
theorem dN_Mod_note_149 : decode cN_Mod_note 149 = .ok (.ifCond .ne 112, 3) := by decide +kernel
theorem dN_Mod_note_152 : decode cN_Mod_note 152 = .ok (.aload_n 0, 1) := by decide +kernel
theorem dN_Mod_note_153 : decode cN_Mod_note 153 = .ok (.iload 6, 2) := by decide +kernel
theorem dN_Mod_note_155 : decode cN_Mod_note 155 = .ok (.iload 4, 2) := by decide +kernel
theorem dN_Mod_note_157 : decode cN_Mod_note 157 = .ok (.invokevirtual 96, 3) := by decide +kernel
theorem dN_Mod_note_160 : decode cN_Mod_note 160 = .ok (.ifCond .ne 6, 3) := by decide +kernel
theorem dN_Mod_note_163 : decode cN_Mod_note 163 = .ok (.goto 98, 3) := by decide +kernel
theorem dN_Mod_note_166 : decode cN_Mod_note 166 = .ok (.aload_n 0, 1) := by decide +kernel
theorem dN_Mod_note_167 : decode cN_Mod_note 167 = .ok (.getfield 30, 3) := by decide +kernel
theorem dN_Mod_note_170 : decode cN_Mod_note 170 = .ok (.sipush 200, 3) := by decide +kernel
theorem dN_Mod_note_173 : decode cN_Mod_note 173 = .ok (.iload 4, 2) := by decide +kernel
theorem dN_Mod_note_175 : decode cN_Mod_note 175 = .ok (.imul, 1) := by decide +kernel
theorem dN_Mod_note_176 : decode cN_Mod_note 176 = .ok (.aload_n 0, 1) := by decide +kernel
theorem dN_Mod_note_177 : decode cN_Mod_note 177 = .ok (.getfield 20, 3) := by decide +kernel
theorem dN_Mod_note_180 : decode cN_Mod_note 180 = .ok (.iload 6, 2) := by decide +kernel
theorem dN_Mod_note_182 : decode cN_Mod_note 182 = .ok (.iaload, 1) := by decide +kernel
theorem dN_Mod_note_183 : decode cN_Mod_note 183 = .ok (.iadd, 1) := by decide +kernel
theorem dN_Mod_note_184 : decode cN_Mod_note 184 = .ok (.baload, 1) := by decide +kernel
theorem dN_Mod_note_185 : decode cN_Mod_note 185 = .ok (.ifCond .ne 36, 3) := by decide +kernel
theorem dN_Mod_note_188 : decode cN_Mod_note 188 = .ok (.aload_n 0, 1) := by decide +kernel
theorem dN_Mod_note_189 : decode cN_Mod_note 189 = .ok (.getfield 13, 3) := by decide +kernel
theorem dN_Mod_note_192 : decode cN_Mod_note 192 = .ok (.iload 6, 2) := by decide +kernel
theorem dN_Mod_note_194 : decode cN_Mod_note 194 = .ok (.iaload, 1) := by decide +kernel
theorem dN_Mod_note_195 : decode cN_Mod_note 195 = .ok (.iconst 2, 1) := by decide +kernel
theorem dN_Mod_note_196 : decode cN_Mod_note 196 = .ok (.if_icmp .ne 29, 3) := by decide +kernel
theorem dN_Mod_note_199 : decode cN_Mod_note 199 = .ok (.aload_n 0, 1) := by decide +kernel
theorem dN_Mod_note_200 : decode cN_Mod_note 200 = .ok (.getfield 30, 3) := by decide +kernel
theorem dN_Mod_note_203 : decode cN_Mod_note 203 = .ok (.sipush 200, 3) := by decide +kernel
theorem dN_Mod_note_206 : decode cN_Mod_note 206 = .ok (.iload 4, 2) := by decide +kernel
theorem dN_Mod_note_208 : decode cN_Mod_note 208 = .ok (.imul, 1) := by decide +kernel
theorem dN_Mod_note_209 : decode cN_Mod_note 209 = .ok (.aload_n 0, 1) := by decide +kernel
theorem dN_Mod_note_210 : decode cN_Mod_note 210 = .ok (.getfield 23, 3) := by decide +kernel
theorem dN_Mod_note_213 : decode cN_Mod_note 213 = .ok (.iload 6, 2) := by decide +kernel
theorem dN_Mod_note_215 : decode cN_Mod_note 215 = .ok (.iaload, 1) := by decide +kernel
theorem dN_Mod_note_216 : decode cN_Mod_note 216 = .ok (.iadd, 1) := by decide +kernel
theorem dN_Mod_note_217 : decode cN_Mod_note 217 = .ok (.baload, 1) := by decide +kernel
theorem dN_Mod_note_218 : decode cN_Mod_note 218 = .ok (.ifCond .eq 7, 3) := by decide +kernel
theorem dN_Mod_note_221 : decode cN_Mod_note 221 = .ok (.iconst 1, 1) := by decide +kernel
theorem dN_Mod_note_222 : decode cN_Mod_note 222 = .ok (.goto 4, 3) := by decide +kernel
theorem dN_Mod_note_225 : decode cN_Mod_note 225 = .ok (.iconst 0, 1) := by decide +kernel
theorem dN_Mod_note_226 : decode cN_Mod_note 226 = .ok (.istore 7, 2) := by decide +kernel
theorem dN_Mod_note_228 : decode cN_Mod_note 228 = .ok (.aload_n 0, 1) := by decide +kernel
theorem dN_Mod_note_229 : decode cN_Mod_note 229 = .ok (.getfield 30, 3) := by decide +kernel
theorem dN_Mod_note_232 : decode cN_Mod_note 232 = .ok (.sipush 200, 3) := by decide +kernel
theorem dN_Mod_note_235 : decode cN_Mod_note 235 = .ok (.iload 4, 2) := by decide +kernel
theorem dN_Mod_note_237 : decode cN_Mod_note 237 = .ok (.imul, 1) := by decide +kernel
theorem dN_Mod_note_238 : decode cN_Mod_note 238 = .ok (.iload 6, 2) := by decide +kernel
theorem dN_Mod_note_240 : decode cN_Mod_note 240 = .ok (.iadd, 1) := by decide +kernel
theorem dN_Mod_note_241 : decode cN_Mod_note 241 = .ok (.iload 7, 2) := by decide +kernel
theorem dN_Mod_note_243 : decode cN_Mod_note 243 = .ok (.bastore, 1) := by decide +kernel
theorem dN_Mod_note_244 : decode cN_Mod_note 244 = .ok (.iload 5, 2) := by decide +kernel
theorem dN_Mod_note_246 : decode cN_Mod_note 246 = .ok (.ifCond .ne 8, 3) := by decide +kernel
theorem dN_Mod_note_249 : decode cN_Mod_note 249 = .ok (.iload 7, 2) := by decide +kernel
theorem dN_Mod_note_251 : decode cN_Mod_note 251 = .ok (.ifCond .eq 7, 3) := by decide +kernel
theorem dN_Mod_note_254 : decode cN_Mod_note 254 = .ok (.iconst 1, 1) := by decide +kernel
theorem dN_Mod_note_255 : decode cN_Mod_note 255 = .ok (.goto 4, 3) := by decide +kernel
theorem dN_Mod_note_258 : decode cN_Mod_note 258 = .ok (.iconst 0, 1) := by decide +kernel
theorem dN_Mod_note_259 : decode cN_Mod_note 259 = .ok (.istore 5, 2) := by decide +kernel
theorem dN_Mod_note_261 : decode cN_Mod_note 261 = .ok (.iinc 6 1, 3) := by decide +kernel
theorem dN_Mod_note_264 : decode cN_Mod_note 264 = .ok (.goto (-138), 3) := by decide +kernel
theorem dN_Mod_note_267 : decode cN_Mod_note 267 = .ok (.goto (-152), 3) := by decide +kernel
theorem dN_Mod_note_270 : decode cN_Mod_note 270 = .ok (.iinc 4 (-1), 3) := by decide +kernel
theorem dN_Mod_note_273 : decode cN_Mod_note 273 = .ok (.goto (-270), 3) := by decide +kernel
theorem dN_Mod_note_276 : decode cN_Mod_note 276 = .ok (.return_, 1) := by decide +kernel
theorem dN_Mod_takes_0 : decode cN_Mod_takes 0 = .ok (.iload_n 1, 1) := by decide +kernel
theorem dN_Mod_takes_1 : decode cN_Mod_takes 1 = .ok (.ifCond .le 63, 3) := by decide +kernel
theorem dN_Mod_takes_4 : decode cN_Mod_takes 4 = .ok (.aload_n 0, 1) := by decide +kernel
theorem dN_Mod_takes_5 : decode cN_Mod_takes 5 = .ok (.getfield 13, 3) := by decide +kernel
theorem dN_Mod_takes_8 : decode cN_Mod_takes 8 = .ok (.iload_n 1, 1) := by decide +kernel
theorem dN_Mod_takes_9 : decode cN_Mod_takes 9 = .ok (.iaload, 1) := by decide +kernel
theorem dN_Mod_takes_10 : decode cN_Mod_takes 10 = .ok (.iconst 1, 1) := by decide +kernel
theorem dN_Mod_takes_11 : decode cN_Mod_takes 11 = .ok (.if_icmp .ne 53, 3) := by decide +kernel
theorem dN_Mod_takes_14 : decode cN_Mod_takes 14 = .ok (.iload_n 2, 1) := by decide +kernel
theorem dN_Mod_takes_15 : decode cN_Mod_takes 15 = .ok (.aload_n 0, 1) := by decide +kernel
end
section
theorem dN_Mod_takes_16 : decode cN_Mod_takes 16 = .ok (.getfield 81, 3) := by decide +kernel
theorem dN_Mod_takes_19 : decode cN_Mod_takes 19 = .ok (.if_icmp .ge 45, 3) := by decide +kernel
theorem dN_Mod_takes_22 : decode cN_Mod_takes 22 = .ok (.aload_n 0, 1) := by decide +kernel
theorem dN_Mod_takes_23 : decode cN_Mod_takes 23 = .ok (.getfield 26, 3) := by decide +kernel
theorem dN_Mod_takes_26 : decode cN_Mod_takes 26 = .ok (.iload_n 2, 1) := by decide +kernel
theorem dN_Mod_takes_27 : decode cN_Mod_takes 27 = .ok (.iaload, 1) := by decide +kernel
theorem dN_Mod_takes_28 : decode cN_Mod_takes 28 = .ok (.aload_n 0, 1) := by decide +kernel
theorem dN_Mod_takes_29 : decode cN_Mod_takes 29 = .ok (.getfield 17, 3) := by decide +kernel
theorem dN_Mod_takes_32 : decode cN_Mod_takes 32 = .ok (.iload_n 1, 1) := by decide +kernel
theorem dN_Mod_takes_33 : decode cN_Mod_takes 33 = .ok (.iaload, 1) := by decide +kernel
theorem dN_Mod_takes_34 : decode cN_Mod_takes 34 = .ok (.sipush 256, 3) := by decide +kernel
theorem dN_Mod_takes_37 : decode cN_Mod_takes 37 = .ok (.idiv, 1) := by decide +kernel
theorem dN_Mod_takes_38 : decode cN_Mod_takes 38 = .ok (.if_icmp .lt 26, 3) := by decide +kernel
theorem dN_Mod_takes_41 : decode cN_Mod_takes 41 = .ok (.aload_n 0, 1) := by decide +kernel
theorem dN_Mod_takes_42 : decode cN_Mod_takes 42 = .ok (.getfield 26, 3) := by decide +kernel
theorem dN_Mod_takes_45 : decode cN_Mod_takes 45 = .ok (.iload_n 2, 1) := by decide +kernel
theorem dN_Mod_takes_46 : decode cN_Mod_takes 46 = .ok (.iaload, 1) := by decide +kernel
theorem dN_Mod_takes_47 : decode cN_Mod_takes 47 = .ok (.aload_n 0, 1) := by decide +kernel
theorem dN_Mod_takes_48 : decode cN_Mod_takes 48 = .ok (.getfield 17, 3) := by decide +kernel
theorem dN_Mod_takes_51 : decode cN_Mod_takes 51 = .ok (.iload_n 1, 1) := by decide +kernel
theorem dN_Mod_takes_52 : decode cN_Mod_takes 52 = .ok (.iaload, 1) := by decide +kernel
theorem dN_Mod_takes_53 : decode cN_Mod_takes 53 = .ok (.sipush 256, 3) := by decide +kernel
theorem dN_Mod_takes_56 : decode cN_Mod_takes 56 = .ok (.irem, 1) := by decide +kernel
theorem dN_Mod_takes_57 : decode cN_Mod_takes 57 = .ok (.if_icmp .gt 7, 3) := by decide +kernel
theorem dN_Mod_takes_60 : decode cN_Mod_takes 60 = .ok (.iconst 1, 1) := by decide +kernel
theorem dN_Mod_takes_61 : decode cN_Mod_takes 61 = .ok (.goto 4, 3) := by decide +kernel
theorem dN_Mod_takes_64 : decode cN_Mod_takes 64 = .ok (.iconst 0, 1) := by decide +kernel
theorem dN_Mod_takes_65 : decode cN_Mod_takes 65 = .ok (.ireturn, 1) := by decide +kernel
theorem dN_Mod_passes_0 : decode cN_Mod_passes 0 = .ok (.iload_n 1, 1) := by decide +kernel
theorem dN_Mod_passes_1 : decode cN_Mod_passes 1 = .ok (.ifCond .le 51, 3) := by decide +kernel
theorem dN_Mod_passes_4 : decode cN_Mod_passes 4 = .ok (.aload_n 0, 1) := by decide +kernel
theorem dN_Mod_passes_5 : decode cN_Mod_passes 5 = .ok (.getfield 13, 3) := by decide +kernel
theorem dN_Mod_passes_8 : decode cN_Mod_passes 8 = .ok (.iload_n 1, 1) := by decide +kernel
theorem dN_Mod_passes_9 : decode cN_Mod_passes 9 = .ok (.iaload, 1) := by decide +kernel
theorem dN_Mod_passes_10 : decode cN_Mod_passes 10 = .ok (.iconst 2, 1) := by decide +kernel
theorem dN_Mod_passes_11 : decode cN_Mod_passes 11 = .ok (.if_icmp .eq 37, 3) := by decide +kernel
theorem dN_Mod_passes_14 : decode cN_Mod_passes 14 = .ok (.aload_n 0, 1) := by decide +kernel
theorem dN_Mod_passes_15 : decode cN_Mod_passes 15 = .ok (.getfield 13, 3) := by decide +kernel
theorem dN_Mod_passes_18 : decode cN_Mod_passes 18 = .ok (.iload_n 1, 1) := by decide +kernel
theorem dN_Mod_passes_19 : decode cN_Mod_passes 19 = .ok (.iaload, 1) := by decide +kernel
theorem dN_Mod_passes_20 : decode cN_Mod_passes 20 = .ok (.iconst 3, 1) := by decide +kernel
theorem dN_Mod_passes_21 : decode cN_Mod_passes 21 = .ok (.if_icmp .eq 27, 3) := by decide +kernel
theorem dN_Mod_passes_24 : decode cN_Mod_passes 24 = .ok (.aload_n 0, 1) := by decide +kernel
theorem dN_Mod_passes_25 : decode cN_Mod_passes 25 = .ok (.getfield 13, 3) := by decide +kernel
theorem dN_Mod_passes_28 : decode cN_Mod_passes 28 = .ok (.iload_n 1, 1) := by decide +kernel
theorem dN_Mod_passes_29 : decode cN_Mod_passes 29 = .ok (.iaload, 1) := by decide +kernel
theorem dN_Mod_passes_30 : decode cN_Mod_passes 30 = .ok (.iconst 4, 1) := by decide +kernel
theorem dN_Mod_passes_31 : decode cN_Mod_passes 31 = .ok (.if_icmp .ne 21, 3) := by decide +kernel
theorem dN_Mod_passes_34 : decode cN_Mod_passes 34 = .ok (.aload_n 0, 1) := by decide +kernel
theorem dN_Mod_passes_35 : decode cN_Mod_passes 35 = .ok (.aload_n 0, 1) := by decide +kernel
theorem dN_Mod_passes_36 : decode cN_Mod_passes 36 = .ok (.getfield 17, 3) := by decide +kernel
theorem dN_Mod_passes_39 : decode cN_Mod_passes 39 = .ok (.iload_n 1, 1) := by decide +kernel
theorem dN_Mod_passes_40 : decode cN_Mod_passes 40 = .ok (.iaload, 1) := by decide +kernel
theorem dN_Mod_passes_41 : decode cN_Mod_passes 41 = .ok (.iload_n 2, 1) := by decide +kernel
theorem dN_Mod_passes_42 : decode cN_Mod_passes 42 = .ok (.invokevirtual 89, 3) := by decide +kernel
theorem dN_Mod_passes_45 : decode cN_Mod_passes 45 = .ok (.ifCond .eq 7, 3) := by decide +kernel
theorem dN_Mod_passes_48 : decode cN_Mod_passes 48 = .ok (.iconst 1, 1) := by decide +kernel
theorem dN_Mod_passes_49 : decode cN_Mod_passes 49 = .ok (.goto 4, 3) := by decide +kernel
theorem dN_Mod_passes_52 : decode cN_Mod_passes 52 = .ok (.iconst 0, 1) := by decide +kernel
theorem dN_Mod_passes_53 : decode cN_Mod_passes 53 = .ok (.ireturn, 1) := by decide +kernel
theorem dN_Mod_isSo_0 : decode cN_Mod_isSo 0 = .ok (.iload_n 1, 1) := by decide +kernel
theorem dN_Mod_isSo_1 : decode cN_Mod_isSo 1 = .ok (.tableswitch 128 0 4 #[35, 45, 59, 82, 107], 35) := by decide +kernel
theorem dN_Mod_isSo_36 : decode cN_Mod_isSo 36 = .ok (.iload_n 2, 1) := by decide +kernel
theorem dN_Mod_isSo_37 : decode cN_Mod_isSo 37 = .ok (.ifCond .ne 7, 3) := by decide +kernel
theorem dN_Mod_isSo_40 : decode cN_Mod_isSo 40 = .ok (.iconst 1, 1) := by decide +kernel
theorem dN_Mod_isSo_41 : decode cN_Mod_isSo 41 = .ok (.goto 4, 3) := by decide +kernel
theorem dN_Mod_isSo_44 : decode cN_Mod_isSo 44 = .ok (.iconst 0, 1) := by decide +kernel
theorem dN_Mod_isSo_45 : decode cN_Mod_isSo 45 = .ok (.ireturn, 1) := by decide +kernel
theorem dN_Mod_isSo_46 : decode cN_Mod_isSo 46 = .ok (.iload_n 2, 1) := by decide +kernel
theorem dN_Mod_isSo_47 : decode cN_Mod_isSo 47 = .ok (.aload_n 0, 1) := by decide +kernel
theorem dN_Mod_isSo_48 : decode cN_Mod_isSo 48 = .ok (.getfield 81, 3) := by decide +kernel
theorem dN_Mod_isSo_51 : decode cN_Mod_isSo 51 = .ok (.if_icmp .ne 7, 3) := by decide +kernel
theorem dN_Mod_isSo_54 : decode cN_Mod_isSo 54 = .ok (.iconst 1, 1) := by decide +kernel
theorem dN_Mod_isSo_55 : decode cN_Mod_isSo 55 = .ok (.goto 4, 3) := by decide +kernel
theorem dN_Mod_isSo_58 : decode cN_Mod_isSo 58 = .ok (.iconst 0, 1) := by decide +kernel
theorem dN_Mod_isSo_59 : decode cN_Mod_isSo 59 = .ok (.ireturn, 1) := by decide +kernel
theorem dN_Mod_isSo_60 : decode cN_Mod_isSo 60 = .ok (.iload_n 2, 1) := by decide +kernel
theorem dN_Mod_isSo_61 : decode cN_Mod_isSo 61 = .ok (.ifCond .eq 16, 3) := by decide +kernel
theorem dN_Mod_isSo_64 : decode cN_Mod_isSo 64 = .ok (.aload_n 0, 1) := by decide +kernel
theorem dN_Mod_isSo_65 : decode cN_Mod_isSo 65 = .ok (.getfield 26, 3) := by decide +kernel
theorem dN_Mod_isSo_68 : decode cN_Mod_isSo 68 = .ok (.iload_n 2, 1) := by decide +kernel
theorem dN_Mod_isSo_69 : decode cN_Mod_isSo 69 = .ok (.iconst 1, 1) := by decide +kernel
theorem dN_Mod_isSo_70 : decode cN_Mod_isSo 70 = .ok (.isub, 1) := by decide +kernel
theorem dN_Mod_isSo_71 : decode cN_Mod_isSo 71 = .ok (.iaload, 1) := by decide +kernel
theorem dN_Mod_isSo_72 : decode cN_Mod_isSo 72 = .ok (.bipush 10, 2) := by decide +kernel
theorem dN_Mod_isSo_74 : decode cN_Mod_isSo 74 = .ok (.if_icmp .ne 7, 3) := by decide +kernel
theorem dN_Mod_isSo_77 : decode cN_Mod_isSo 77 = .ok (.iconst 1, 1) := by decide +kernel
theorem dN_Mod_isSo_78 : decode cN_Mod_isSo 78 = .ok (.goto 4, 3) := by decide +kernel
theorem dN_Mod_isSo_81 : decode cN_Mod_isSo 81 = .ok (.iconst 0, 1) := by decide +kernel
theorem dN_Mod_isSo_82 : decode cN_Mod_isSo 82 = .ok (.ireturn, 1) := by decide +kernel
theorem dN_Mod_isSo_83 : decode cN_Mod_isSo 83 = .ok (.iload_n 2, 1) := by decide +kernel
theorem dN_Mod_isSo_84 : decode cN_Mod_isSo 84 = .ok (.aload_n 0, 1) := by decide +kernel
theorem dN_Mod_isSo_85 : decode cN_Mod_isSo 85 = .ok (.getfield 81, 3) := by decide +kernel
theorem dN_Mod_isSo_88 : decode cN_Mod_isSo 88 = .ok (.if_icmp .eq 14, 3) := by decide +kernel
theorem dN_Mod_isSo_91 : decode cN_Mod_isSo 91 = .ok (.aload_n 0, 1) := by decide +kernel
theorem dN_Mod_isSo_92 : decode cN_Mod_isSo 92 = .ok (.getfield 26, 3) := by decide +kernel
theorem dN_Mod_isSo_95 : decode cN_Mod_isSo 95 = .ok (.iload_n 2, 1) := by decide +kernel
theorem dN_Mod_isSo_96 : decode cN_Mod_isSo 96 = .ok (.iaload, 1) := by decide +kernel
theorem dN_Mod_isSo_97 : decode cN_Mod_isSo 97 = .ok (.bipush 10, 2) := by decide +kernel
theorem dN_Mod_isSo_99 : decode cN_Mod_isSo 99 = .ok (.if_icmp .ne 7, 3) := by decide +kernel
theorem dN_Mod_isSo_102 : decode cN_Mod_isSo 102 = .ok (.iconst 1, 1) := by decide +kernel
theorem dN_Mod_isSo_103 : decode cN_Mod_isSo 103 = .ok (.goto 4, 3) := by decide +kernel
theorem dN_Mod_isSo_106 : decode cN_Mod_isSo 106 = .ok (.iconst 0, 1) := by decide +kernel
theorem dN_Mod_isSo_107 : decode cN_Mod_isSo 107 = .ok (.ireturn, 1) := by decide +kernel
theorem dN_Mod_isSo_108 : decode cN_Mod_isSo 108 = .ok (.aload_n 0, 1) := by decide +kernel
theorem dN_Mod_isSo_109 : decode cN_Mod_isSo 109 = .ok (.iload_n 2, 1) := by decide +kernel
theorem dN_Mod_isSo_110 : decode cN_Mod_isSo 110 = .ok (.iconst 1, 1) := by decide +kernel
theorem dN_Mod_isSo_111 : decode cN_Mod_isSo 111 = .ok (.isub, 1) := by decide +kernel
theorem dN_Mod_isSo_112 : decode cN_Mod_isSo 112 = .ok (.invokevirtual 86, 3) := by decide +kernel
theorem dN_Mod_isSo_115 : decode cN_Mod_isSo 115 = .ok (.aload_n 0, 1) := by decide +kernel
theorem dN_Mod_isSo_116 : decode cN_Mod_isSo 116 = .ok (.iload_n 2, 1) := by decide +kernel
theorem dN_Mod_isSo_117 : decode cN_Mod_isSo 117 = .ok (.invokevirtual 86, 3) := by decide +kernel
theorem dN_Mod_isSo_120 : decode cN_Mod_isSo 120 = .ok (.if_icmp .eq 7, 3) := by decide +kernel
theorem dN_Mod_isSo_123 : decode cN_Mod_isSo 123 = .ok (.iconst 1, 1) := by decide +kernel
theorem dN_Mod_isSo_124 : decode cN_Mod_isSo 124 = .ok (.goto 4, 3) := by decide +kernel
theorem dN_Mod_isSo_127 : decode cN_Mod_isSo 127 = .ok (.iconst 0, 1) := by decide +kernel
theorem dN_Mod_isSo_128 : decode cN_Mod_isSo 128 = .ok (.ireturn, 1) := by decide +kernel
theorem dN_Mod_isSo_129 : decode cN_Mod_isSo 129 = .ok (.aload_n 0, 1) := by decide +kernel
theorem dN_Mod_isSo_130 : decode cN_Mod_isSo 130 = .ok (.iload_n 2, 1) := by decide +kernel
theorem dN_Mod_isSo_131 : decode cN_Mod_isSo 131 = .ok (.iconst 1, 1) := by decide +kernel
theorem dN_Mod_isSo_132 : decode cN_Mod_isSo 132 = .ok (.isub, 1) := by decide +kernel
theorem dN_Mod_isSo_133 : decode cN_Mod_isSo 133 = .ok (.invokevirtual 86, 3) := by decide +kernel
theorem dN_Mod_isSo_136 : decode cN_Mod_isSo 136 = .ok (.aload_n 0, 1) := by decide +kernel
theorem dN_Mod_isSo_137 : decode cN_Mod_isSo 137 = .ok (.iload_n 2, 1) := by decide +kernel
theorem dN_Mod_isSo_138 : decode cN_Mod_isSo 138 = .ok (.invokevirtual 86, 3) := by decide +kernel
theorem dN_Mod_isSo_141 : decode cN_Mod_isSo 141 = .ok (.if_icmp .ne 7, 3) := by decide +kernel
theorem dN_Mod_isSo_144 : decode cN_Mod_isSo 144 = .ok (.iconst 1, 1) := by decide +kernel
theorem dN_Mod_isSo_145 : decode cN_Mod_isSo 145 = .ok (.goto 4, 3) := by decide +kernel
theorem dN_Mod_isSo_148 : decode cN_Mod_isSo 148 = .ok (.iconst 0, 1) := by decide +kernel
theorem dN_Mod_isSo_149 : decode cN_Mod_isSo 149 = .ok (.ireturn, 1) := by decide +kernel
theorem dN_Mod_wordAt_0 : decode cN_Mod_wordAt 0 = .ok (.iload_n 1, 1) := by decide +kernel
theorem dN_Mod_wordAt_1 : decode cN_Mod_wordAt 1 = .ok (.ifCond .lt 20, 3) := by decide +kernel
theorem dN_Mod_wordAt_4 : decode cN_Mod_wordAt 4 = .ok (.iload_n 1, 1) := by decide +kernel
theorem dN_Mod_wordAt_5 : decode cN_Mod_wordAt 5 = .ok (.aload_n 0, 1) := by decide +kernel
theorem dN_Mod_wordAt_6 : decode cN_Mod_wordAt 6 = .ok (.getfield 81, 3) := by decide +kernel
theorem dN_Mod_wordAt_9 : decode cN_Mod_wordAt 9 = .ok (.if_icmp .ge 12, 3) := by decide +kernel
theorem dN_Mod_wordAt_12 : decode cN_Mod_wordAt 12 = .ok (.aload_n 0, 1) := by decide +kernel
theorem dN_Mod_wordAt_13 : decode cN_Mod_wordAt 13 = .ok (.getfield 26, 3) := by decide +kernel
theorem dN_Mod_wordAt_16 : decode cN_Mod_wordAt 16 = .ok (.iload_n 1, 1) := by decide +kernel
theorem dN_Mod_wordAt_17 : decode cN_Mod_wordAt 17 = .ok (.iaload, 1) := by decide +kernel
theorem dN_Mod_wordAt_18 : decode cN_Mod_wordAt 18 = .ok (.goto 4, 3) := by decide +kernel
theorem dN_Mod_wordAt_21 : decode cN_Mod_wordAt 21 = .ok (.iconst 0, 1) := by decide +kernel
theorem dN_Mod_wordAt_22 : decode cN_Mod_wordAt 22 = .ok (.istore_n 2, 1) := by decide +kernel
theorem dN_Mod_wordAt_23 : decode cN_Mod_wordAt 23 = .ok (.iload_n 2, 1) := by decide +kernel
theorem dN_Mod_wordAt_24 : decode cN_Mod_wordAt 24 = .ok (.bipush 48, 2) := by decide +kernel
theorem dN_Mod_wordAt_26 : decode cN_Mod_wordAt 26 = .ok (.if_icmp .lt 9, 3) := by decide +kernel
theorem dN_Mod_wordAt_29 : decode cN_Mod_wordAt 29 = .ok (.iload_n 2, 1) := by decide +kernel
theorem dN_Mod_wordAt_30 : decode cN_Mod_wordAt 30 = .ok (.bipush 57, 2) := by decide +kernel
theorem dN_Mod_wordAt_32 : decode cN_Mod_wordAt 32 = .ok (.if_icmp .le 33, 3) := by decide +kernel
theorem dN_Mod_wordAt_35 : decode cN_Mod_wordAt 35 = .ok (.iload_n 2, 1) := by decide +kernel
theorem dN_Mod_wordAt_36 : decode cN_Mod_wordAt 36 = .ok (.bipush 65, 2) := by decide +kernel
theorem dN_Mod_wordAt_38 : decode cN_Mod_wordAt 38 = .ok (.if_icmp .lt 9, 3) := by decide +kernel
theorem dN_Mod_wordAt_41 : decode cN_Mod_wordAt 41 = .ok (.iload_n 2, 1) := by decide +kernel
theorem dN_Mod_wordAt_42 : decode cN_Mod_wordAt 42 = .ok (.bipush 90, 2) := by decide +kernel
theorem dN_Mod_wordAt_44 : decode cN_Mod_wordAt 44 = .ok (.if_icmp .le 21, 3) := by decide +kernel
theorem dN_Mod_wordAt_47 : decode cN_Mod_wordAt 47 = .ok (.iload_n 2, 1) := by decide +kernel
theorem dN_Mod_wordAt_48 : decode cN_Mod_wordAt 48 = .ok (.bipush 97, 2) := by decide +kernel
theorem dN_Mod_wordAt_50 : decode cN_Mod_wordAt 50 = .ok (.if_icmp .lt 9, 3) := by decide +kernel
theorem dN_Mod_wordAt_53 : decode cN_Mod_wordAt 53 = .ok (.iload_n 2, 1) := by decide +kernel
theorem dN_Mod_wordAt_54 : decode cN_Mod_wordAt 54 = .ok (.bipush 122, 2) := by decide +kernel
theorem dN_Mod_wordAt_56 : decode cN_Mod_wordAt 56 = .ok (.if_icmp .le 9, 3) := by decide +kernel
theorem dN_Mod_wordAt_59 : decode cN_Mod_wordAt 59 = .ok (.iload_n 2, 1) := by decide +kernel
theorem dN_Mod_wordAt_60 : decode cN_Mod_wordAt 60 = .ok (.bipush 95, 2) := by decide +kernel
theorem dN_Mod_wordAt_62 : decode cN_Mod_wordAt 62 = .ok (.if_icmp .ne 7, 3) := by decide +kernel
theorem dN_Mod_wordAt_65 : decode cN_Mod_wordAt 65 = .ok (.iconst 1, 1) := by decide +kernel
theorem dN_Mod_wordAt_66 : decode cN_Mod_wordAt 66 = .ok (.goto 4, 3) := by decide +kernel
theorem dN_Mod_wordAt_69 : decode cN_Mod_wordAt 69 = .ok (.iconst 0, 1) := by decide +kernel
theorem dN_Mod_wordAt_70 : decode cN_Mod_wordAt 70 = .ok (.ireturn, 1) := by decide +kernel
theorem dN_Mod_lastEnd_0 : decode cN_Mod_lastEnd 0 = .ok (.sipush 200, 3) := by decide +kernel
theorem dN_Mod_lastEnd_3 : decode cN_Mod_lastEnd 3 = .ok (.iload_n 1, 1) := by decide +kernel
theorem dN_Mod_lastEnd_4 : decode cN_Mod_lastEnd 4 = .ok (.imul, 1) := by decide +kernel
theorem dN_Mod_lastEnd_5 : decode cN_Mod_lastEnd 5 = .ok (.istore_n 2, 1) := by decide +kernel
theorem dN_Mod_lastEnd_6 : decode cN_Mod_lastEnd 6 = .ok (.iload_n 2, 1) := by decide +kernel
theorem dN_Mod_lastEnd_7 : decode cN_Mod_lastEnd 7 = .ok (.sipush 200, 3) := by decide +kernel
theorem dN_Mod_lastEnd_10 : decode cN_Mod_lastEnd 10 = .ok (.aload_n 0, 1) := by decide +kernel
theorem dN_Mod_lastEnd_11 : decode cN_Mod_lastEnd 11 = .ok (.getfield 81, 3) := by decide +kernel
theorem dN_Mod_lastEnd_14 : decode cN_Mod_lastEnd 14 = .ok (.imul, 1) := by decide +kernel
theorem dN_Mod_lastEnd_15 : decode cN_Mod_lastEnd 15 = .ok (.sipush 200, 3) := by decide +kernel
theorem dN_Mod_lastEnd_18 : decode cN_Mod_lastEnd 18 = .ok (.iadd, 1) := by decide +kernel
theorem dN_Mod_lastEnd_19 : decode cN_Mod_lastEnd 19 = .ok (.if_icmp .ge 16, 3) := by decide +kernel
theorem dN_Mod_lastEnd_22 : decode cN_Mod_lastEnd 22 = .ok (.aload_n 0, 1) := by decide +kernel
theorem dN_Mod_lastEnd_23 : decode cN_Mod_lastEnd 23 = .ok (.getfield 34, 3) := by decide +kernel
theorem dN_Mod_lastEnd_26 : decode cN_Mod_lastEnd 26 = .ok (.iload_n 2, 1) := by decide +kernel
theorem dN_Mod_lastEnd_27 : decode cN_Mod_lastEnd 27 = .ok (.iconst 0, 1) := by decide +kernel
theorem dN_Mod_lastEnd_28 : decode cN_Mod_lastEnd 28 = .ok (.bastore, 1) := by decide +kernel
theorem dN_Mod_lastEnd_29 : decode cN_Mod_lastEnd 29 = .ok (.iinc 2 1, 3) := by decide +kernel
theorem dN_Mod_lastEnd_32 : decode cN_Mod_lastEnd 32 = .ok (.goto (-26), 3) := by decide +kernel
theorem dN_Mod_lastEnd_35 : decode cN_Mod_lastEnd 35 = .ok (.aload_n 0, 1) := by decide +kernel
theorem dN_Mod_lastEnd_36 : decode cN_Mod_lastEnd 36 = .ok (.getfield 34, 3) := by decide +kernel
theorem dN_Mod_lastEnd_39 : decode cN_Mod_lastEnd 39 = .ok (.sipush 200, 3) := by decide +kernel
theorem dN_Mod_lastEnd_42 : decode cN_Mod_lastEnd 42 = .ok (.iload_n 1, 1) := by decide +kernel
theorem dN_Mod_lastEnd_43 : decode cN_Mod_lastEnd 43 = .ok (.imul, 1) := by decide +kernel
theorem dN_Mod_lastEnd_44 : decode cN_Mod_lastEnd 44 = .ok (.aload_n 0, 1) := by decide +kernel
theorem dN_Mod_lastEnd_45 : decode cN_Mod_lastEnd 45 = .ok (.getfield 73, 3) := by decide +kernel
theorem dN_Mod_lastEnd_48 : decode cN_Mod_lastEnd 48 = .ok (.iadd, 1) := by decide +kernel
theorem dN_Mod_lastEnd_49 : decode cN_Mod_lastEnd 49 = .ok (.iconst 1, 1) := by decide +kernel
theorem dN_Mod_lastEnd_50 : decode cN_Mod_lastEnd 50 = .ok (.bastore, 1) := by decide +kernel
theorem dN_Mod_lastEnd_51 : decode cN_Mod_lastEnd 51 = .ok (.iconst (-1), 1) := by decide +kernel
theorem dN_Mod_lastEnd_52 : decode cN_Mod_lastEnd 52 = .ok (.istore_n 2, 1) := by decide +kernel
theorem dN_Mod_lastEnd_53 : decode cN_Mod_lastEnd 53 = .ok (.iload_n 1, 1) := by decide +kernel
theorem dN_Mod_lastEnd_54 : decode cN_Mod_lastEnd 54 = .ok (.istore_n 3, 1) := by decide +kernel
theorem dN_Mod_lastEnd_55 : decode cN_Mod_lastEnd 55 = .ok (.iload_n 3, 1) := by decide +kernel
theorem dN_Mod_lastEnd_56 : decode cN_Mod_lastEnd 56 = .ok (.aload_n 0, 1) := by decide +kernel
theorem dN_Mod_lastEnd_57 : decode cN_Mod_lastEnd 57 = .ok (.getfield 81, 3) := by decide +kernel
theorem dN_Mod_lastEnd_60 : decode cN_Mod_lastEnd 60 = .ok (.if_icmp .gt 268, 3) := by decide +kernel
theorem dN_Mod_lastEnd_63 : decode cN_Mod_lastEnd 63 = .ok (.iconst 1, 1) := by decide +kernel
theorem dN_Mod_lastEnd_64 : decode cN_Mod_lastEnd 64 = .ok (.istore 4, 2) := by decide +kernel
theorem dN_Mod_lastEnd_66 : decode cN_Mod_lastEnd 66 = .ok (.iload 4, 2) := by decide +kernel
theorem dN_Mod_lastEnd_68 : decode cN_Mod_lastEnd 68 = .ok (.ifCond .eq 168, 3) := by decide +kernel
theorem dN_Mod_lastEnd_71 : decode cN_Mod_lastEnd 71 = .ok (.iconst 0, 1) := by decide +kernel
theorem dN_Mod_lastEnd_72 : decode cN_Mod_lastEnd 72 = .ok (.istore 4, 2) := by decide +kernel
theorem dN_Mod_lastEnd_74 : decode cN_Mod_lastEnd 74 = .ok (.iconst 1, 1) := by decide +kernel
theorem dN_Mod_lastEnd_75 : decode cN_Mod_lastEnd 75 = .ok (.istore 5, 2) := by decide +kernel
theorem dN_Mod_lastEnd_77 : decode cN_Mod_lastEnd 77 = .ok (.iload 5, 2) := by decide +kernel
theorem dN_Mod_lastEnd_79 : decode cN_Mod_lastEnd 79 = .ok (.aload_n 0, 1) := by decide +kernel
theorem dN_Mod_lastEnd_80 : decode cN_Mod_lastEnd 80 = .ok (.getfield 7, 3) := by decide +kernel
theorem dN_Mod_lastEnd_83 : decode cN_Mod_lastEnd 83 = .ok (.if_icmp .ge 150, 3) := by decide +kernel
theorem dN_Mod_lastEnd_86 : decode cN_Mod_lastEnd 86 = .ok (.aload_n 0, 1) := by decide +kernel
theorem dN_Mod_lastEnd_87 : decode cN_Mod_lastEnd 87 = .ok (.getfield 34, 3) := by decide +kernel
theorem dN_Mod_lastEnd_90 : decode cN_Mod_lastEnd 90 = .ok (.sipush 200, 3) := by decide +kernel
theorem dN_Mod_lastEnd_93 : decode cN_Mod_lastEnd 93 = .ok (.iload_n 3, 1) := by decide +kernel
theorem dN_Mod_lastEnd_94 : decode cN_Mod_lastEnd 94 = .ok (.imul, 1) := by decide +kernel
theorem dN_Mod_lastEnd_95 : decode cN_Mod_lastEnd 95 = .ok (.iload 5, 2) := by decide +kernel
theorem dN_Mod_lastEnd_97 : decode cN_Mod_lastEnd 97 = .ok (.iadd, 1) := by decide +kernel
theorem dN_Mod_lastEnd_98 : decode cN_Mod_lastEnd 98 = .ok (.baload, 1) := by decide +kernel
theorem dN_Mod_lastEnd_99 : decode cN_Mod_lastEnd 99 = .ok (.ifCond .eq 128, 3) := by decide +kernel
theorem dN_Mod_lastEnd_102 : decode cN_Mod_lastEnd 102 = .ok (.aload_n 0, 1) := by decide +kernel
theorem dN_Mod_lastEnd_103 : decode cN_Mod_lastEnd 103 = .ok (.iload 5, 2) := by decide +kernel
theorem dN_Mod_lastEnd_105 : decode cN_Mod_lastEnd 105 = .ok (.iload_n 3, 1) := by decide +kernel
theorem dN_Mod_lastEnd_106 : decode cN_Mod_lastEnd 106 = .ok (.invokevirtual 96, 3) := by decide +kernel
theorem dN_Mod_lastEnd_109 : decode cN_Mod_lastEnd 109 = .ok (.ifCond .ne 6, 3) := by decide +kernel
theorem dN_Mod_lastEnd_112 : decode cN_Mod_lastEnd 112 = .ok (.goto 115, 3) := by decide +kernel
theorem dN_Mod_lastEnd_115 : decode cN_Mod_lastEnd 115 = .ok (.aload_n 0, 1) := by decide +kernel
theorem dN_Mod_lastEnd_116 : decode cN_Mod_lastEnd 116 = .ok (.getfield 13, 3) := by decide +kernel
theorem dN_Mod_lastEnd_119 : decode cN_Mod_lastEnd 119 = .ok (.iload 5, 2) := by decide +kernel
theorem dN_Mod_lastEnd_121 : decode cN_Mod_lastEnd 121 = .ok (.iaload, 1) := by decide +kernel
theorem dN_Mod_lastEnd_122 : decode cN_Mod_lastEnd 122 = .ok (.iconst 2, 1) := by decide +kernel
theorem dN_Mod_lastEnd_123 : decode cN_Mod_lastEnd 123 = .ok (.if_icmp .ne 13, 3) := by decide +kernel
theorem dN_Mod_lastEnd_126 : decode cN_Mod_lastEnd 126 = .ok (.aload_n 0, 1) := by decide +kernel
theorem dN_Mod_lastEnd_127 : decode cN_Mod_lastEnd 127 = .ok (.getfield 23, 3) := by decide +kernel
theorem dN_Mod_lastEnd_130 : decode cN_Mod_lastEnd 130 = .ok (.iload 5, 2) := by decide +kernel
theorem dN_Mod_lastEnd_132 : decode cN_Mod_lastEnd 132 = .ok (.iaload, 1) := by decide +kernel
theorem dN_Mod_lastEnd_133 : decode cN_Mod_lastEnd 133 = .ok (.goto 10, 3) := by decide +kernel
theorem dN_Mod_lastEnd_136 : decode cN_Mod_lastEnd 136 = .ok (.aload_n 0, 1) := by decide +kernel
theorem dN_Mod_lastEnd_137 : decode cN_Mod_lastEnd 137 = .ok (.getfield 20, 3) := by decide +kernel
theorem dN_Mod_lastEnd_140 : decode cN_Mod_lastEnd 140 = .ok (.iload 5, 2) := by decide +kernel
theorem dN_Mod_lastEnd_142 : decode cN_Mod_lastEnd 142 = .ok (.iaload, 1) := by decide +kernel
theorem dN_Mod_lastEnd_143 : decode cN_Mod_lastEnd 143 = .ok (.istore 6, 2) := by decide +kernel
theorem dN_Mod_lastEnd_145 : decode cN_Mod_lastEnd 145 = .ok (.iload 4, 2) := by decide +kernel
theorem dN_Mod_lastEnd_147 : decode cN_Mod_lastEnd 147 = .ok (.ifCond .ne 40, 3) := by decide +kernel
theorem dN_Mod_lastEnd_150 : decode cN_Mod_lastEnd 150 = .ok (.aload_n 0, 1) := by decide +kernel
theorem dN_Mod_lastEnd_151 : decode cN_Mod_lastEnd 151 = .ok (.getfield 34, 3) := by decide +kernel
theorem dN_Mod_lastEnd_154 : decode cN_Mod_lastEnd 154 = .ok (.sipush 200, 3) := by decide +kernel
theorem dN_Mod_lastEnd_157 : decode cN_Mod_lastEnd 157 = .ok (.iload_n 3, 1) := by decide +kernel
theorem dN_Mod_lastEnd_158 : decode cN_Mod_lastEnd 158 = .ok (.imul, 1) := by decide +kernel
theorem dN_Mod_lastEnd_159 : decode cN_Mod_lastEnd 159 = .ok (.aload_n 0, 1) := by decide +kernel
theorem dN_Mod_lastEnd_160 : decode cN_Mod_lastEnd 160 = .ok (.getfield 20, 3) := by decide +kernel
theorem dN_Mod_lastEnd_163 : decode cN_Mod_lastEnd 163 = .ok (.iload 5, 2) := by decide +kernel
theorem dN_Mod_lastEnd_165 : decode cN_Mod_lastEnd 165 = .ok (.iaload, 1) := by decide +kernel
theorem dN_Mod_lastEnd_166 : decode cN_Mod_lastEnd 166 = .ok (.iadd, 1) := by decide +kernel
theorem dN_Mod_lastEnd_167 : decode cN_Mod_lastEnd 167 = .ok (.baload, 1) := by decide +kernel
theorem dN_Mod_lastEnd_168 : decode cN_Mod_lastEnd 168 = .ok (.ifCond .eq 19, 3) := by decide +kernel
theorem dN_Mod_lastEnd_171 : decode cN_Mod_lastEnd 171 = .ok (.aload_n 0, 1) := by decide +kernel
theorem dN_Mod_lastEnd_172 : decode cN_Mod_lastEnd 172 = .ok (.getfield 34, 3) := by decide +kernel
theorem dN_Mod_lastEnd_175 : decode cN_Mod_lastEnd 175 = .ok (.sipush 200, 3) := by decide +kernel
theorem dN_Mod_lastEnd_178 : decode cN_Mod_lastEnd 178 = .ok (.iload_n 3, 1) := by decide +kernel
theorem dN_Mod_lastEnd_179 : decode cN_Mod_lastEnd 179 = .ok (.imul, 1) := by decide +kernel
theorem dN_Mod_lastEnd_180 : decode cN_Mod_lastEnd 180 = .ok (.iload 6, 2) := by decide +kernel
theorem dN_Mod_lastEnd_182 : decode cN_Mod_lastEnd 182 = .ok (.iadd, 1) := by decide +kernel
theorem dN_Mod_lastEnd_183 : decode cN_Mod_lastEnd 183 = .ok (.baload, 1) := by decide +kernel
theorem dN_Mod_lastEnd_184 : decode cN_Mod_lastEnd 184 = .ok (.ifCond .ne 7, 3) := by decide +kernel
theorem dN_Mod_lastEnd_187 : decode cN_Mod_lastEnd 187 = .ok (.iconst 1, 1) := by decide +kernel
theorem dN_Mod_lastEnd_188 : decode cN_Mod_lastEnd 188 = .ok (.goto 4, 3) := by decide +kernel
theorem dN_Mod_lastEnd_191 : decode cN_Mod_lastEnd 191 = .ok (.iconst 0, 1) := by decide +kernel
theorem dN_Mod_lastEnd_192 : decode cN_Mod_lastEnd 192 = .ok (.istore 4, 2) := by decide +kernel
theorem dN_Mod_lastEnd_194 : decode cN_Mod_lastEnd 194 = .ok (.aload_n 0, 1) := by decide +kernel
theorem dN_Mod_lastEnd_195 : decode cN_Mod_lastEnd 195 = .ok (.getfield 34, 3) := by decide +kernel
theorem dN_Mod_lastEnd_198 : decode cN_Mod_lastEnd 198 = .ok (.sipush 200, 3) := by decide +kernel
theorem dN_Mod_lastEnd_201 : decode cN_Mod_lastEnd 201 = .ok (.iload_n 3, 1) := by decide +kernel
theorem dN_Mod_lastEnd_202 : decode cN_Mod_lastEnd 202 = .ok (.imul, 1) := by decide +kernel
theorem dN_Mod_lastEnd_203 : decode cN_Mod_lastEnd 203 = .ok (.aload_n 0, 1) := by decide +kernel
theorem dN_Mod_lastEnd_204 : decode cN_Mod_lastEnd 204 = .ok (.getfield 20, 3) := by decide +kernel
theorem dN_Mod_lastEnd_207 : decode cN_Mod_lastEnd 207 = .ok (.iload 5, 2) := by decide +kernel
theorem dN_Mod_lastEnd_209 : decode cN_Mod_lastEnd 209 = .ok (.iaload, 1) := by decide +kernel
theorem dN_Mod_lastEnd_210 : decode cN_Mod_lastEnd 210 = .ok (.iadd, 1) := by decide +kernel
theorem dN_Mod_lastEnd_211 : decode cN_Mod_lastEnd 211 = .ok (.iconst 1, 1) := by decide +kernel
theorem dN_Mod_lastEnd_212 : decode cN_Mod_lastEnd 212 = .ok (.bastore, 1) := by decide +kernel
theorem dN_Mod_lastEnd_213 : decode cN_Mod_lastEnd 213 = .ok (.aload_n 0, 1) := by decide +kernel
theorem dN_Mod_lastEnd_214 : decode cN_Mod_lastEnd 214 = .ok (.getfield 34, 3) := by decide +kernel
theorem dN_Mod_lastEnd_217 : decode cN_Mod_lastEnd 217 = .ok (.sipush 200, 3) := by decide +kernel
theorem dN_Mod_lastEnd_220 : decode cN_Mod_lastEnd 220 = .ok (.iload_n 3, 1) := by decide +kernel
theorem dN_Mod_lastEnd_221 : decode cN_Mod_lastEnd 221 = .ok (.imul, 1) := by decide +kernel
theorem dN_Mod_lastEnd_222 : decode cN_Mod_lastEnd 222 = .ok (.iload 6, 2) := by decide +kernel
theorem dN_Mod_lastEnd_224 : decode cN_Mod_lastEnd 224 = .ok (.iadd, 1) := by decide +kernel
theorem dN_Mod_lastEnd_225 : decode cN_Mod_lastEnd 225 = .ok (.iconst 1, 1) := by decide +kernel
theorem dN_Mod_lastEnd_226 : decode cN_Mod_lastEnd 226 = .ok (.bastore, 1) := by decide +kernel
theorem dN_Mod_lastEnd_227 : decode cN_Mod_lastEnd 227 = .ok (.iinc 5 1, 3) := by decide +kernel
theorem dN_Mod_lastEnd_230 : decode cN_Mod_lastEnd 230 = .ok (.goto (-153), 3) := by decide +kernel
theorem dN_Mod_lastEnd_233 : decode cN_Mod_lastEnd 233 = .ok (.goto (-167), 3) := by decide +kernel
theorem dN_Mod_lastEnd_236 : decode cN_Mod_lastEnd 236 = .ok (.iconst 1, 1) := by decide +kernel
theorem dN_Mod_lastEnd_237 : decode cN_Mod_lastEnd 237 = .ok (.istore 5, 2) := by decide +kernel
theorem dN_Mod_lastEnd_239 : decode cN_Mod_lastEnd 239 = .ok (.iload 5, 2) := by decide +kernel
theorem dN_Mod_lastEnd_241 : decode cN_Mod_lastEnd 241 = .ok (.aload_n 0, 1) := by decide +kernel
theorem dN_Mod_lastEnd_242 : decode cN_Mod_lastEnd 242 = .ok (.getfield 7, 3) := by decide +kernel
theorem dN_Mod_lastEnd_245 : decode cN_Mod_lastEnd 245 = .ok (.if_icmp .ge 58, 3) := by decide +kernel
theorem dN_Mod_lastEnd_248 : decode cN_Mod_lastEnd 248 = .ok (.aload_n 0, 1) := by decide +kernel
theorem dN_Mod_lastEnd_249 : decode cN_Mod_lastEnd 249 = .ok (.getfield 34, 3) := by decide +kernel
theorem dN_Mod_lastEnd_252 : decode cN_Mod_lastEnd 252 = .ok (.sipush 200, 3) := by decide +kernel
theorem dN_Mod_lastEnd_255 : decode cN_Mod_lastEnd 255 = .ok (.iload_n 3, 1) := by decide +kernel
theorem dN_Mod_lastEnd_256 : decode cN_Mod_lastEnd 256 = .ok (.imul, 1) := by decide +kernel
theorem dN_Mod_lastEnd_257 : decode cN_Mod_lastEnd 257 = .ok (.iload 5, 2) := by decide +kernel
theorem dN_Mod_lastEnd_259 : decode cN_Mod_lastEnd 259 = .ok (.iadd, 1) := by decide +kernel
theorem dN_Mod_lastEnd_260 : decode cN_Mod_lastEnd 260 = .ok (.baload, 1) := by decide +kernel
theorem dN_Mod_lastEnd_261 : decode cN_Mod_lastEnd 261 = .ok (.ifCond .eq 36, 3) := by decide +kernel
theorem dN_Mod_lastEnd_264 : decode cN_Mod_lastEnd 264 = .ok (.aload_n 0, 1) := by decide +kernel
theorem dN_Mod_lastEnd_265 : decode cN_Mod_lastEnd 265 = .ok (.iload 5, 2) := by decide +kernel
theorem dN_Mod_lastEnd_267 : decode cN_Mod_lastEnd 267 = .ok (.iload_n 3, 1) := by decide +kernel
theorem dN_Mod_lastEnd_268 : decode cN_Mod_lastEnd 268 = .ok (.invokevirtual 93, 3) := by decide +kernel
theorem dN_Mod_lastEnd_271 : decode cN_Mod_lastEnd 271 = .ok (.ifCond .eq 26, 3) := by decide +kernel
theorem dN_Mod_lastEnd_274 : decode cN_Mod_lastEnd 274 = .ok (.aload_n 0, 1) := by decide +kernel
theorem dN_Mod_lastEnd_275 : decode cN_Mod_lastEnd 275 = .ok (.getfield 34, 3) := by decide +kernel
theorem dN_Mod_lastEnd_278 : decode cN_Mod_lastEnd 278 = .ok (.sipush 200, 3) := by decide +kernel
theorem dN_Mod_lastEnd_281 : decode cN_Mod_lastEnd 281 = .ok (.iload_n 3, 1) := by decide +kernel
theorem dN_Mod_lastEnd_282 : decode cN_Mod_lastEnd 282 = .ok (.imul, 1) := by decide +kernel
theorem dN_Mod_lastEnd_283 : decode cN_Mod_lastEnd 283 = .ok (.sipush 200, 3) := by decide +kernel
theorem dN_Mod_lastEnd_286 : decode cN_Mod_lastEnd 286 = .ok (.iadd, 1) := by decide +kernel
theorem dN_Mod_lastEnd_287 : decode cN_Mod_lastEnd 287 = .ok (.aload_n 0, 1) := by decide +kernel
theorem dN_Mod_lastEnd_288 : decode cN_Mod_lastEnd 288 = .ok (.getfield 20, 3) := by decide +kernel
theorem dN_Mod_lastEnd_291 : decode cN_Mod_lastEnd 291 = .ok (.iload 5, 2) := by decide +kernel
theorem dN_Mod_lastEnd_293 : decode cN_Mod_lastEnd 293 = .ok (.iaload, 1) := by decide +kernel
theorem dN_Mod_lastEnd_294 : decode cN_Mod_lastEnd 294 = .ok (.iadd, 1) := by decide +kernel
theorem dN_Mod_lastEnd_295 : decode cN_Mod_lastEnd 295 = .ok (.iconst 1, 1) := by decide +kernel
theorem dN_Mod_lastEnd_296 : decode cN_Mod_lastEnd 296 = .ok (.bastore, 1) := by decide +kernel
theorem dN_Mod_lastEnd_297 : decode cN_Mod_lastEnd 297 = .ok (.iinc 5 1, 3) := by decide +kernel
theorem dN_Mod_lastEnd_300 : decode cN_Mod_lastEnd 300 = .ok (.goto (-61), 3) := by decide +kernel
theorem dN_Mod_lastEnd_303 : decode cN_Mod_lastEnd 303 = .ok (.aload_n 0, 1) := by decide +kernel
theorem dN_Mod_lastEnd_304 : decode cN_Mod_lastEnd 304 = .ok (.getfield 34, 3) := by decide +kernel
theorem dN_Mod_lastEnd_307 : decode cN_Mod_lastEnd 307 = .ok (.sipush 200, 3) := by decide +kernel
theorem dN_Mod_lastEnd_310 : decode cN_Mod_lastEnd 310 = .ok (.iload_n 3, 1) := by decide +kernel
theorem dN_Mod_lastEnd_311 : decode cN_Mod_lastEnd 311 = .ok (.imul, 1) := by decide +kernel
theorem dN_Mod_lastEnd_312 : decode cN_Mod_lastEnd 312 = .ok (.baload, 1) := by decide +kernel
theorem dN_Mod_lastEnd_313 : decode cN_Mod_lastEnd 313 = .ok (.ifCond .eq 7, 3) := by decide +kernel
theorem dN_Mod_lastEnd_316 : decode cN_Mod_lastEnd 316 = .ok (.iload_n 3, 1) := by decide +kernel
theorem dN_Mod_lastEnd_317 : decode cN_Mod_lastEnd 317 = .ok (.goto 4, 3) := by decide +kernel
theorem dN_Mod_lastEnd_320 : decode cN_Mod_lastEnd 320 = .ok (.iload_n 2, 1) := by decide +kernel
theorem dN_Mod_lastEnd_321 : decode cN_Mod_lastEnd 321 = .ok (.istore_n 2, 1) := by decide +kernel
theorem dN_Mod_lastEnd_322 : decode cN_Mod_lastEnd 322 = .ok (.iinc 3 1, 3) := by decide +kernel
theorem dN_Mod_lastEnd_325 : decode cN_Mod_lastEnd 325 = .ok (.goto (-270), 3) := by decide +kernel
theorem dN_Mod_lastEnd_328 : decode cN_Mod_lastEnd 328 = .ok (.iload_n 2, 1) := by decide +kernel
theorem dN_Mod_lastEnd_329 : decode cN_Mod_lastEnd 329 = .ok (.ireturn, 1) := by decide +kernel
theorem dN_Mod_walk_0 : decode cN_Mod_walk 0 = .ok (.iconst 0, 1) := by decide +kernel
theorem dN_Mod_walk_1 : decode cN_Mod_walk 1 = .ok (.istore_n 3, 1) := by decide +kernel
theorem dN_Mod_walk_2 : decode cN_Mod_walk 2 = .ok (.iload_n 3, 1) := by decide +kernel
theorem dN_Mod_walk_3 : decode cN_Mod_walk 3 = .ok (.bipush 20, 2) := by decide +kernel
theorem dN_Mod_walk_5 : decode cN_Mod_walk 5 = .ok (.if_icmp .ge 16, 3) := by decide +kernel
theorem dN_Mod_walk_8 : decode cN_Mod_walk 8 = .ok (.aload_n 0, 1) := by decide +kernel
theorem dN_Mod_walk_9 : decode cN_Mod_walk 9 = .ok (.getfield 37, 3) := by decide +kernel
theorem dN_Mod_walk_12 : decode cN_Mod_walk 12 = .ok (.iload_n 3, 1) := by decide +kernel
theorem dN_Mod_walk_13 : decode cN_Mod_walk 13 = .ok (.iconst (-1), 1) := by decide +kernel
theorem dN_Mod_walk_14 : decode cN_Mod_walk 14 = .ok (.iastore, 1) := by decide +kernel
theorem dN_Mod_walk_15 : decode cN_Mod_walk 15 = .ok (.iinc 3 1, 3) := by decide +kernel
theorem dN_Mod_walk_18 : decode cN_Mod_walk 18 = .ok (.goto (-16), 3) := by decide +kernel
theorem dN_Mod_walk_21 : decode cN_Mod_walk 21 = .ok (.iload_n 1, 1) := by decide +kernel
theorem dN_Mod_walk_22 : decode cN_Mod_walk 22 = .ok (.istore_n 3, 1) := by decide +kernel
theorem dN_Mod_walk_23 : decode cN_Mod_walk 23 = .ok (.aload_n 0, 1) := by decide +kernel
theorem dN_Mod_walk_24 : decode cN_Mod_walk 24 = .ok (.getfield 73, 3) := by decide +kernel
theorem dN_Mod_walk_27 : decode cN_Mod_walk 27 = .ok (.istore 4, 2) := by decide +kernel
theorem dN_Mod_walk_29 : decode cN_Mod_walk 29 = .ok (.aload_n 0, 1) := by decide +kernel
theorem dN_Mod_walk_30 : decode cN_Mod_walk 30 = .ok (.iconst 0, 1) := by decide +kernel
theorem dN_Mod_walk_31 : decode cN_Mod_walk 31 = .ok (.putfield 99, 3) := by decide +kernel
theorem dN_Mod_walk_34 : decode cN_Mod_walk 34 = .ok (.aload_n 0, 1) := by decide +kernel
theorem dN_Mod_walk_35 : decode cN_Mod_walk 35 = .ok (.iconst 0, 1) := by decide +kernel
theorem dN_Mod_walk_36 : decode cN_Mod_walk 36 = .ok (.putfield 102, 3) := by decide +kernel
theorem dN_Mod_walk_39 : decode cN_Mod_walk 39 = .ok (.aload_n 0, 1) := by decide +kernel
theorem dN_Mod_walk_40 : decode cN_Mod_walk 40 = .ok (.iload 4, 2) := by decide +kernel
theorem dN_Mod_walk_42 : decode cN_Mod_walk 42 = .ok (.invokevirtual 105, 3) := by decide +kernel
theorem dN_Mod_walk_45 : decode cN_Mod_walk 45 = .ok (.iconst 0, 1) := by decide +kernel
theorem dN_Mod_walk_46 : decode cN_Mod_walk 46 = .ok (.istore 5, 2) := by decide +kernel
theorem dN_Mod_walk_48 : decode cN_Mod_walk 48 = .ok (.iload 5, 2) := by decide +kernel
theorem dN_Mod_walk_50 : decode cN_Mod_walk 50 = .ok (.aload_n 0, 1) := by decide +kernel
theorem dN_Mod_walk_51 : decode cN_Mod_walk 51 = .ok (.getfield 7, 3) := by decide +kernel
theorem dN_Mod_walk_54 : decode cN_Mod_walk 54 = .ok (.if_icmp .ge 17, 3) := by decide +kernel
theorem dN_Mod_walk_57 : decode cN_Mod_walk 57 = .ok (.aload_n 0, 1) := by decide +kernel
theorem dN_Mod_walk_58 : decode cN_Mod_walk 58 = .ok (.getfield 55, 3) := by decide +kernel
theorem dN_Mod_walk_61 : decode cN_Mod_walk 61 = .ok (.iload 5, 2) := by decide +kernel
theorem dN_Mod_walk_63 : decode cN_Mod_walk 63 = .ok (.iconst 0, 1) := by decide +kernel
theorem dN_Mod_walk_64 : decode cN_Mod_walk 64 = .ok (.bastore, 1) := by decide +kernel
theorem dN_Mod_walk_65 : decode cN_Mod_walk 65 = .ok (.iinc 5 1, 3) := by decide +kernel
theorem dN_Mod_walk_68 : decode cN_Mod_walk 68 = .ok (.goto (-20), 3) := by decide +kernel
theorem dN_Mod_walk_71 : decode cN_Mod_walk 71 = .ok (.iconst 0, 1) := by decide +kernel
theorem dN_Mod_walk_72 : decode cN_Mod_walk 72 = .ok (.istore 5, 2) := by decide +kernel
theorem dN_Mod_walk_74 : decode cN_Mod_walk 74 = .ok (.iload 5, 2) := by decide +kernel
theorem dN_Mod_walk_76 : decode cN_Mod_walk 76 = .ok (.ifCond .ne 264, 3) := by decide +kernel
theorem dN_Mod_walk_79 : decode cN_Mod_walk 79 = .ok (.aload_n 0, 1) := by decide +kernel
theorem dN_Mod_walk_80 : decode cN_Mod_walk 80 = .ok (.dup, 1) := by decide +kernel
theorem dN_Mod_walk_81 : decode cN_Mod_walk 81 = .ok (.getfield 99, 3) := by decide +kernel
theorem dN_Mod_walk_84 : decode cN_Mod_walk 84 = .ok (.iconst 1, 1) := by decide +kernel
theorem dN_Mod_walk_85 : decode cN_Mod_walk 85 = .ok (.isub, 1) := by decide +kernel
theorem dN_Mod_walk_86 : decode cN_Mod_walk 86 = .ok (.putfield 99, 3) := by decide +kernel
theorem dN_Mod_walk_89 : decode cN_Mod_walk 89 = .ok (.aload_n 0, 1) := by decide +kernel
theorem dN_Mod_walk_90 : decode cN_Mod_walk 90 = .ok (.aload_n 0, 1) := by decide +kernel
theorem dN_Mod_walk_91 : decode cN_Mod_walk 91 = .ok (.getfield 46, 3) := by decide +kernel
theorem dN_Mod_walk_94 : decode cN_Mod_walk 94 = .ok (.aload_n 0, 1) := by decide +kernel
theorem dN_Mod_walk_95 : decode cN_Mod_walk 95 = .ok (.getfield 99, 3) := by decide +kernel
theorem dN_Mod_walk_98 : decode cN_Mod_walk 98 = .ok (.iaload, 1) := by decide +kernel
theorem dN_Mod_walk_99 : decode cN_Mod_walk 99 = .ok (.invokevirtual 109, 3) := by decide +kernel
theorem dN_Mod_walk_102 : decode cN_Mod_walk 102 = .ok (.aload_n 0, 1) := by decide +kernel
theorem dN_Mod_walk_103 : decode cN_Mod_walk 103 = .ok (.getfield 43, 3) := by decide +kernel
theorem dN_Mod_walk_106 : decode cN_Mod_walk 106 = .ok (.aload_n 0, 1) := by decide +kernel
theorem dN_Mod_walk_107 : decode cN_Mod_walk 107 = .ok (.getfield 99, 3) := by decide +kernel
theorem dN_Mod_walk_110 : decode cN_Mod_walk 110 = .ok (.iaload, 1) := by decide +kernel
theorem dN_Mod_walk_111 : decode cN_Mod_walk 111 = .ok (.istore 6, 2) := by decide +kernel
theorem dN_Mod_walk_113 : decode cN_Mod_walk 113 = .ok (.aload_n 0, 1) := by decide +kernel
theorem dN_Mod_walk_114 : decode cN_Mod_walk 114 = .ok (.getfield 55, 3) := by decide +kernel
theorem dN_Mod_walk_117 : decode cN_Mod_walk 117 = .ok (.iload 6, 2) := by decide +kernel
theorem dN_Mod_walk_119 : decode cN_Mod_walk 119 = .ok (.baload, 1) := by decide +kernel
theorem dN_Mod_walk_120 : decode cN_Mod_walk 120 = .ok (.ifCond .eq 6, 3) := by decide +kernel
theorem dN_Mod_walk_123 : decode cN_Mod_walk 123 = .ok (.goto (-49), 3) := by decide +kernel
theorem dN_Mod_walk_126 : decode cN_Mod_walk 126 = .ok (.aload_n 0, 1) := by decide +kernel
theorem dN_Mod_walk_127 : decode cN_Mod_walk 127 = .ok (.getfield 55, 3) := by decide +kernel
theorem dN_Mod_walk_130 : decode cN_Mod_walk 130 = .ok (.iload 6, 2) := by decide +kernel
theorem dN_Mod_walk_132 : decode cN_Mod_walk 132 = .ok (.iconst 1, 1) := by decide +kernel
theorem dN_Mod_walk_133 : decode cN_Mod_walk 133 = .ok (.bastore, 1) := by decide +kernel
theorem dN_Mod_walk_134 : decode cN_Mod_walk 134 = .ok (.iload 6, 2) := by decide +kernel
theorem dN_Mod_walk_136 : decode cN_Mod_walk 136 = .ok (.ifCond .ne 14, 3) := by decide +kernel
theorem dN_Mod_walk_139 : decode cN_Mod_walk 139 = .ok (.iload_n 2, 1) := by decide +kernel
theorem dN_Mod_walk_140 : decode cN_Mod_walk 140 = .ok (.ifCond .lt 8, 3) := by decide +kernel
theorem dN_Mod_walk_143 : decode cN_Mod_walk 143 = .ok (.iload_n 3, 1) := by decide +kernel
theorem dN_Mod_walk_144 : decode cN_Mod_walk 144 = .ok (.iload_n 2, 1) := by decide +kernel
theorem dN_Mod_walk_145 : decode cN_Mod_walk 145 = .ok (.if_icmp .ne 192, 3) := by decide +kernel
theorem dN_Mod_walk_148 : decode cN_Mod_walk 148 = .ok (.iload_n 3, 1) := by decide +kernel
theorem dN_Mod_walk_149 : decode cN_Mod_walk 149 = .ok (.ireturn, 1) := by decide +kernel
theorem dN_Mod_walk_150 : decode cN_Mod_walk 150 = .ok (.aload_n 0, 1) := by decide +kernel
theorem dN_Mod_walk_151 : decode cN_Mod_walk 151 = .ok (.iload 6, 2) := by decide +kernel
theorem dN_Mod_walk_153 : decode cN_Mod_walk 153 = .ok (.iload_n 3, 1) := by decide +kernel
theorem dN_Mod_walk_154 : decode cN_Mod_walk 154 = .ok (.invokevirtual 93, 3) := by decide +kernel
theorem dN_Mod_walk_157 : decode cN_Mod_walk 157 = .ok (.ifCond .eq 66, 3) := by decide +kernel
theorem dN_Mod_walk_160 : decode cN_Mod_walk 160 = .ok (.iload_n 2, 1) := by decide +kernel
theorem dN_Mod_walk_161 : decode cN_Mod_walk 161 = .ok (.ifCond .lt 8, 3) := by decide +kernel
theorem dN_Mod_walk_164 : decode cN_Mod_walk 164 = .ok (.iload_n 3, 1) := by decide +kernel
theorem dN_Mod_walk_165 : decode cN_Mod_walk 165 = .ok (.iload_n 2, 1) := by decide +kernel
theorem dN_Mod_walk_166 : decode cN_Mod_walk 166 = .ok (.if_icmp .ge 32, 3) := by decide +kernel
theorem dN_Mod_walk_169 : decode cN_Mod_walk 169 = .ok (.aload_n 0, 1) := by decide +kernel
theorem dN_Mod_walk_170 : decode cN_Mod_walk 170 = .ok (.getfield 30, 3) := by decide +kernel
theorem dN_Mod_walk_173 : decode cN_Mod_walk 173 = .ok (.sipush 200, 3) := by decide +kernel
theorem dN_Mod_walk_176 : decode cN_Mod_walk 176 = .ok (.iload_n 3, 1) := by decide +kernel
theorem dN_Mod_walk_177 : decode cN_Mod_walk 177 = .ok (.imul, 1) := by decide +kernel
theorem dN_Mod_walk_178 : decode cN_Mod_walk 178 = .ok (.sipush 200, 3) := by decide +kernel
theorem dN_Mod_walk_181 : decode cN_Mod_walk 181 = .ok (.iadd, 1) := by decide +kernel
theorem dN_Mod_walk_182 : decode cN_Mod_walk 182 = .ok (.aload_n 0, 1) := by decide +kernel
theorem dN_Mod_walk_183 : decode cN_Mod_walk 183 = .ok (.getfield 20, 3) := by decide +kernel
theorem dN_Mod_walk_186 : decode cN_Mod_walk 186 = .ok (.iload 6, 2) := by decide +kernel
theorem dN_Mod_walk_188 : decode cN_Mod_walk 188 = .ok (.iaload, 1) := by decide +kernel
theorem dN_Mod_walk_189 : decode cN_Mod_walk 189 = .ok (.iadd, 1) := by decide +kernel
theorem dN_Mod_walk_190 : decode cN_Mod_walk 190 = .ok (.baload, 1) := by decide +kernel
theorem dN_Mod_walk_191 : decode cN_Mod_walk 191 = .ok (.ifCond .eq 7, 3) := by decide +kernel
theorem dN_Mod_walk_194 : decode cN_Mod_walk 194 = .ok (.iconst 1, 1) := by decide +kernel
theorem dN_Mod_walk_195 : decode cN_Mod_walk 195 = .ok (.goto 4, 3) := by decide +kernel
theorem dN_Mod_walk_198 : decode cN_Mod_walk 198 = .ok (.iconst 0, 1) := by decide +kernel
theorem dN_Mod_walk_199 : decode cN_Mod_walk 199 = .ok (.istore 5, 2) := by decide +kernel
theorem dN_Mod_walk_201 : decode cN_Mod_walk 201 = .ok (.iload 5, 2) := by decide +kernel
theorem dN_Mod_walk_203 : decode cN_Mod_walk 203 = .ok (.ifCond .eq 13, 3) := by decide +kernel
theorem dN_Mod_walk_206 : decode cN_Mod_walk 206 = .ok (.aload_n 0, 1) := by decide +kernel
theorem dN_Mod_walk_207 : decode cN_Mod_walk 207 = .ok (.getfield 20, 3) := by decide +kernel
theorem dN_Mod_walk_210 : decode cN_Mod_walk 210 = .ok (.iload 6, 2) := by decide +kernel
theorem dN_Mod_walk_212 : decode cN_Mod_walk 212 = .ok (.iaload, 1) := by decide +kernel
theorem dN_Mod_walk_213 : decode cN_Mod_walk 213 = .ok (.goto 5, 3) := by decide +kernel
theorem dN_Mod_walk_216 : decode cN_Mod_walk 216 = .ok (.iload 4, 2) := by decide +kernel
theorem dN_Mod_walk_218 : decode cN_Mod_walk 218 = .ok (.istore 4, 2) := by decide +kernel
theorem dN_Mod_walk_220 : decode cN_Mod_walk 220 = .ok (.goto 117, 3) := by decide +kernel
theorem dN_Mod_walk_223 : decode cN_Mod_walk 223 = .ok (.aload_n 0, 1) := by decide +kernel
theorem dN_Mod_walk_224 : decode cN_Mod_walk 224 = .ok (.iload 6, 2) := by decide +kernel
theorem dN_Mod_walk_226 : decode cN_Mod_walk 226 = .ok (.iload_n 3, 1) := by decide +kernel
theorem dN_Mod_walk_227 : decode cN_Mod_walk 227 = .ok (.invokevirtual 96, 3) := by decide +kernel
theorem dN_Mod_walk_230 : decode cN_Mod_walk 230 = .ok (.ifCond .eq 107, 3) := by decide +kernel
theorem dN_Mod_walk_233 : decode cN_Mod_walk 233 = .ok (.aload_n 0, 1) := by decide +kernel
theorem dN_Mod_walk_234 : decode cN_Mod_walk 234 = .ok (.getfield 13, 3) := by decide +kernel
theorem dN_Mod_walk_237 : decode cN_Mod_walk 237 = .ok (.iload 6, 2) := by decide +kernel
theorem dN_Mod_walk_239 : decode cN_Mod_walk 239 = .ok (.iaload, 1) := by decide +kernel
theorem dN_Mod_walk_240 : decode cN_Mod_walk 240 = .ok (.iconst 3, 1) := by decide +kernel
theorem dN_Mod_walk_241 : decode cN_Mod_walk 241 = .ok (.if_icmp .ne 63, 3) := by decide +kernel
theorem dN_Mod_walk_244 : decode cN_Mod_walk 244 = .ok (.aload_n 0, 1) := by decide +kernel
theorem dN_Mod_walk_245 : decode cN_Mod_walk 245 = .ok (.getfield 49, 3) := by decide +kernel
theorem dN_Mod_walk_248 : decode cN_Mod_walk 248 = .ok (.aload_n 0, 1) := by decide +kernel
theorem dN_Mod_walk_249 : decode cN_Mod_walk 249 = .ok (.getfield 102, 3) := by decide +kernel
theorem dN_Mod_walk_252 : decode cN_Mod_walk 252 = .ok (.aload_n 0, 1) := by decide +kernel
theorem dN_Mod_walk_253 : decode cN_Mod_walk 253 = .ok (.getfield 17, 3) := by decide +kernel
theorem dN_Mod_walk_256 : decode cN_Mod_walk 256 = .ok (.iload 6, 2) := by decide +kernel
theorem dN_Mod_walk_258 : decode cN_Mod_walk 258 = .ok (.iaload, 1) := by decide +kernel
theorem dN_Mod_walk_259 : decode cN_Mod_walk 259 = .ok (.iastore, 1) := by decide +kernel
theorem dN_Mod_walk_260 : decode cN_Mod_walk 260 = .ok (.aload_n 0, 1) := by decide +kernel
theorem dN_Mod_walk_261 : decode cN_Mod_walk 261 = .ok (.getfield 52, 3) := by decide +kernel
theorem dN_Mod_walk_264 : decode cN_Mod_walk 264 = .ok (.aload_n 0, 1) := by decide +kernel
theorem dN_Mod_walk_265 : decode cN_Mod_walk 265 = .ok (.getfield 102, 3) := by decide +kernel
theorem dN_Mod_walk_268 : decode cN_Mod_walk 268 = .ok (.aload_n 0, 1) := by decide +kernel
theorem dN_Mod_walk_269 : decode cN_Mod_walk 269 = .ok (.getfield 37, 3) := by decide +kernel
theorem dN_Mod_walk_272 : decode cN_Mod_walk 272 = .ok (.aload_n 0, 1) := by decide +kernel
theorem dN_Mod_walk_273 : decode cN_Mod_walk 273 = .ok (.getfield 17, 3) := by decide +kernel
theorem dN_Mod_walk_276 : decode cN_Mod_walk 276 = .ok (.iload 6, 2) := by decide +kernel
theorem dN_Mod_walk_278 : decode cN_Mod_walk 278 = .ok (.iaload, 1) := by decide +kernel
theorem dN_Mod_walk_279 : decode cN_Mod_walk 279 = .ok (.iaload, 1) := by decide +kernel
theorem dN_Mod_walk_280 : decode cN_Mod_walk 280 = .ok (.iastore, 1) := by decide +kernel
theorem dN_Mod_walk_281 : decode cN_Mod_walk 281 = .ok (.aload_n 0, 1) := by decide +kernel
theorem dN_Mod_walk_282 : decode cN_Mod_walk 282 = .ok (.dup, 1) := by decide +kernel
theorem dN_Mod_walk_283 : decode cN_Mod_walk 283 = .ok (.getfield 102, 3) := by decide +kernel
theorem dN_Mod_walk_286 : decode cN_Mod_walk 286 = .ok (.iconst 1, 1) := by decide +kernel
theorem dN_Mod_walk_287 : decode cN_Mod_walk 287 = .ok (.iadd, 1) := by decide +kernel
theorem dN_Mod_walk_288 : decode cN_Mod_walk 288 = .ok (.putfield 102, 3) := by decide +kernel
theorem dN_Mod_walk_291 : decode cN_Mod_walk 291 = .ok (.aload_n 0, 1) := by decide +kernel
theorem dN_Mod_walk_292 : decode cN_Mod_walk 292 = .ok (.getfield 37, 3) := by decide +kernel
theorem dN_Mod_walk_295 : decode cN_Mod_walk 295 = .ok (.aload_n 0, 1) := by decide +kernel
theorem dN_Mod_walk_296 : decode cN_Mod_walk 296 = .ok (.getfield 17, 3) := by decide +kernel
theorem dN_Mod_walk_299 : decode cN_Mod_walk 299 = .ok (.iload 6, 2) := by decide +kernel
theorem dN_Mod_walk_301 : decode cN_Mod_walk 301 = .ok (.iaload, 1) := by decide +kernel
theorem dN_Mod_walk_302 : decode cN_Mod_walk 302 = .ok (.iload_n 3, 1) := by decide +kernel
theorem dN_Mod_walk_303 : decode cN_Mod_walk 303 = .ok (.iastore, 1) := by decide +kernel
theorem dN_Mod_walk_304 : decode cN_Mod_walk 304 = .ok (.aload_n 0, 1) := by decide +kernel
theorem dN_Mod_walk_305 : decode cN_Mod_walk 305 = .ok (.getfield 13, 3) := by decide +kernel
theorem dN_Mod_walk_308 : decode cN_Mod_walk 308 = .ok (.iload 6, 2) := by decide +kernel
theorem dN_Mod_walk_310 : decode cN_Mod_walk 310 = .ok (.iaload, 1) := by decide +kernel
theorem dN_Mod_walk_311 : decode cN_Mod_walk 311 = .ok (.iconst 2, 1) := by decide +kernel
theorem dN_Mod_walk_312 : decode cN_Mod_walk 312 = .ok (.if_icmp .ne 14, 3) := by decide +kernel
theorem dN_Mod_walk_315 : decode cN_Mod_walk 315 = .ok (.aload_n 0, 1) := by decide +kernel
theorem dN_Mod_walk_316 : decode cN_Mod_walk 316 = .ok (.aload_n 0, 1) := by decide +kernel
theorem dN_Mod_walk_317 : decode cN_Mod_walk 317 = .ok (.getfield 23, 3) := by decide +kernel
theorem dN_Mod_walk_320 : decode cN_Mod_walk 320 = .ok (.iload 6, 2) := by decide +kernel
theorem dN_Mod_walk_322 : decode cN_Mod_walk 322 = .ok (.iaload, 1) := by decide +kernel
theorem dN_Mod_walk_323 : decode cN_Mod_walk 323 = .ok (.invokevirtual 105, 3) := by decide +kernel
theorem dN_Mod_walk_326 : decode cN_Mod_walk 326 = .ok (.aload_n 0, 1) := by decide +kernel
theorem dN_Mod_walk_327 : decode cN_Mod_walk 327 = .ok (.aload_n 0, 1) := by decide +kernel
theorem dN_Mod_walk_328 : decode cN_Mod_walk 328 = .ok (.getfield 20, 3) := by decide +kernel
theorem dN_Mod_walk_331 : decode cN_Mod_walk 331 = .ok (.iload 6, 2) := by decide +kernel
theorem dN_Mod_walk_333 : decode cN_Mod_walk 333 = .ok (.iaload, 1) := by decide +kernel
theorem dN_Mod_walk_334 : decode cN_Mod_walk 334 = .ok (.invokevirtual 105, 3) := by decide +kernel
theorem dN_Mod_walk_337 : decode cN_Mod_walk 337 = .ok (.goto (-263), 3) := by decide +kernel
theorem dN_Mod_walk_340 : decode cN_Mod_walk 340 = .ok (.iinc 3 1, 3) := by decide +kernel
theorem dN_Mod_walk_343 : decode cN_Mod_walk 343 = .ok (.goto (-314), 3) := by decide +kernel
theorem dN_Mod_heap_0 : decode cN_Mod_heap 0 = .ok (.aload_n 0, 1) := by decide +kernel
theorem dN_Mod_heap_1 : decode cN_Mod_heap 1 = .ok (.getfield 43, 3) := by decide +kernel
theorem dN_Mod_heap_4 : decode cN_Mod_heap 4 = .ok (.aload_n 0, 1) := by decide +kernel
theorem dN_Mod_heap_5 : decode cN_Mod_heap 5 = .ok (.getfield 99, 3) := by decide +kernel
theorem dN_Mod_heap_8 : decode cN_Mod_heap 8 = .ok (.iload_n 1, 1) := by decide +kernel
theorem dN_Mod_heap_9 : decode cN_Mod_heap 9 = .ok (.iastore, 1) := by decide +kernel
theorem dN_Mod_heap_10 : decode cN_Mod_heap 10 = .ok (.aload_n 0, 1) := by decide +kernel
theorem dN_Mod_heap_11 : decode cN_Mod_heap 11 = .ok (.getfield 46, 3) := by decide +kernel
theorem dN_Mod_heap_14 : decode cN_Mod_heap 14 = .ok (.aload_n 0, 1) := by decide +kernel
theorem dN_Mod_heap_15 : decode cN_Mod_heap 15 = .ok (.getfield 99, 3) := by decide +kernel
theorem dN_Mod_heap_18 : decode cN_Mod_heap 18 = .ok (.aload_n 0, 1) := by decide +kernel
theorem dN_Mod_heap_19 : decode cN_Mod_heap 19 = .ok (.getfield 102, 3) := by decide +kernel
theorem dN_Mod_heap_22 : decode cN_Mod_heap 22 = .ok (.iastore, 1) := by decide +kernel
theorem dN_Mod_heap_23 : decode cN_Mod_heap 23 = .ok (.aload_n 0, 1) := by decide +kernel
theorem dN_Mod_heap_24 : decode cN_Mod_heap 24 = .ok (.dup, 1) := by decide +kernel
theorem dN_Mod_heap_25 : decode cN_Mod_heap 25 = .ok (.getfield 99, 3) := by decide +kernel
theorem dN_Mod_heap_28 : decode cN_Mod_heap 28 = .ok (.iconst 1, 1) := by decide +kernel
theorem dN_Mod_heap_29 : decode cN_Mod_heap 29 = .ok (.iadd, 1) := by decide +kernel
theorem dN_Mod_heap_30 : decode cN_Mod_heap 30 = .ok (.putfield 99, 3) := by decide +kernel
theorem dN_Mod_heap_33 : decode cN_Mod_heap 33 = .ok (.return_, 1) := by decide +kernel
theorem dN_Mod_undo_0 : decode cN_Mod_undo 0 = .ok (.aload_n 0, 1) := by decide +kernel
theorem dN_Mod_undo_1 : decode cN_Mod_undo 1 = .ok (.getfield 102, 3) := by decide +kernel
theorem dN_Mod_undo_4 : decode cN_Mod_undo 4 = .ok (.iload_n 1, 1) := by decide +kernel
theorem dN_Mod_undo_5 : decode cN_Mod_undo 5 = .ok (.if_icmp .le 39, 3) := by decide +kernel
theorem dN_Mod_undo_8 : decode cN_Mod_undo 8 = .ok (.aload_n 0, 1) := by decide +kernel
theorem dN_Mod_undo_9 : decode cN_Mod_undo 9 = .ok (.dup, 1) := by decide +kernel
theorem dN_Mod_undo_10 : decode cN_Mod_undo 10 = .ok (.getfield 102, 3) := by decide +kernel
theorem dN_Mod_undo_13 : decode cN_Mod_undo 13 = .ok (.iconst 1, 1) := by decide +kernel
theorem dN_Mod_undo_14 : decode cN_Mod_undo 14 = .ok (.isub, 1) := by decide +kernel
theorem dN_Mod_undo_15 : decode cN_Mod_undo 15 = .ok (.putfield 102, 3) := by decide +kernel
theorem dN_Mod_undo_18 : decode cN_Mod_undo 18 = .ok (.aload_n 0, 1) := by decide +kernel
theorem dN_Mod_undo_19 : decode cN_Mod_undo 19 = .ok (.getfield 37, 3) := by decide +kernel
theorem dN_Mod_undo_22 : decode cN_Mod_undo 22 = .ok (.aload_n 0, 1) := by decide +kernel
theorem dN_Mod_undo_23 : decode cN_Mod_undo 23 = .ok (.getfield 49, 3) := by decide +kernel
theorem dN_Mod_undo_26 : decode cN_Mod_undo 26 = .ok (.aload_n 0, 1) := by decide +kernel
theorem dN_Mod_undo_27 : decode cN_Mod_undo 27 = .ok (.getfield 102, 3) := by decide +kernel
theorem dN_Mod_undo_30 : decode cN_Mod_undo 30 = .ok (.iaload, 1) := by decide +kernel
theorem dN_Mod_undo_31 : decode cN_Mod_undo 31 = .ok (.aload_n 0, 1) := by decide +kernel
theorem dN_Mod_undo_32 : decode cN_Mod_undo 32 = .ok (.getfield 52, 3) := by decide +kernel
theorem dN_Mod_undo_35 : decode cN_Mod_undo 35 = .ok (.aload_n 0, 1) := by decide +kernel
theorem dN_Mod_undo_36 : decode cN_Mod_undo 36 = .ok (.getfield 102, 3) := by decide +kernel
theorem dN_Mod_undo_39 : decode cN_Mod_undo 39 = .ok (.iaload, 1) := by decide +kernel
theorem dN_Mod_undo_40 : decode cN_Mod_undo 40 = .ok (.iastore, 1) := by decide +kernel
theorem dN_Mod_undo_41 : decode cN_Mod_undo 41 = .ok (.goto (-41), 3) := by decide +kernel
theorem dN_Mod_undo_44 : decode cN_Mod_undo 44 = .ok (.return_, 1) := by decide +kernel
theorem dN_Mod_saved_0 : decode cN_Mod_saved 0 = .ok (.aload_n 0, 1) := by decide +kernel
theorem dN_Mod_saved_1 : decode cN_Mod_saved 1 = .ok (.iconst 0, 1) := by decide +kernel
theorem dN_Mod_saved_2 : decode cN_Mod_saved 2 = .ok (.putfield 70, 3) := by decide +kernel
theorem dN_Mod_saved_5 : decode cN_Mod_saved 5 = .ok (.iload_n 1, 1) := by decide +kernel
theorem dN_Mod_saved_6 : decode cN_Mod_saved 6 = .ok (.ifCond .lt 9, 3) := by decide +kernel
theorem dN_Mod_saved_9 : decode cN_Mod_saved 9 = .ok (.iload_n 1, 1) := by decide +kernel
theorem dN_Mod_saved_10 : decode cN_Mod_saved 10 = .ok (.bipush 19, 2) := by decide +kernel
theorem dN_Mod_saved_12 : decode cN_Mod_saved 12 = .ok (.if_icmp .le 7, 3) := by decide +kernel
theorem dN_Mod_saved_15 : decode cN_Mod_saved 15 = .ok (.iconst (-1), 1) := by decide +kernel
theorem dN_Mod_saved_16 : decode cN_Mod_saved 16 = .ok (.goto 9, 3) := by decide +kernel
theorem dN_Mod_saved_19 : decode cN_Mod_saved 19 = .ok (.aload_n 0, 1) := by decide +kernel
theorem dN_Mod_saved_20 : decode cN_Mod_saved 20 = .ok (.getfield 40, 3) := by decide +kernel
theorem dN_Mod_saved_23 : decode cN_Mod_saved 23 = .ok (.iload_n 1, 1) := by decide +kernel
theorem dN_Mod_saved_24 : decode cN_Mod_saved 24 = .ok (.iaload, 1) := by decide +kernel
theorem dN_Mod_saved_25 : decode cN_Mod_saved 25 = .ok (.ireturn, 1) := by decide +kernel
theorem dN_Mod_ends_0 : decode cN_Mod_ends 0 = .ok (.aload_n 0, 1) := by decide +kernel
theorem dN_Mod_ends_1 : decode cN_Mod_ends 1 = .ok (.aload_n 0, 1) := by decide +kernel
theorem dN_Mod_ends_2 : decode cN_Mod_ends 2 = .ok (.iload_n 1, 1) := by decide +kernel
end
section
theorem dN_Mod_ends_3 : decode cN_Mod_ends 3 = .ok (.iload_n 3, 1) := by decide +kernel
theorem dN_Mod_ends_4 : decode cN_Mod_ends 4 = .ok (.invokevirtual 124, 3) := by decide +kernel
theorem dN_Mod_ends_7 : decode cN_Mod_ends 7 = .ok (.ifCond .eq 15, 3) := by decide +kernel
theorem dN_Mod_ends_10 : decode cN_Mod_ends 10 = .ok (.iload_n 2, 1) := by decide +kernel
theorem dN_Mod_ends_11 : decode cN_Mod_ends 11 = .ok (.ifCond .eq 7, 3) := by decide +kernel
theorem dN_Mod_ends_14 : decode cN_Mod_ends 14 = .ok (.iload_n 1, 1) := by decide +kernel
theorem dN_Mod_ends_15 : decode cN_Mod_ends 15 = .ok (.ifCond .eq 7, 3) := by decide +kernel
theorem dN_Mod_ends_18 : decode cN_Mod_ends 18 = .ok (.iconst 0, 1) := by decide +kernel
theorem dN_Mod_ends_19 : decode cN_Mod_ends 19 = .ok (.goto 4, 3) := by decide +kernel
theorem dN_Mod_ends_22 : decode cN_Mod_ends 22 = .ok (.iconst 1, 1) := by decide +kernel
theorem dN_Mod_ends_23 : decode cN_Mod_ends 23 = .ok (.putfield 70, 3) := by decide +kernel
theorem dN_Mod_ends_26 : decode cN_Mod_ends 26 = .ok (.aload_n 0, 1) := by decide +kernel
theorem dN_Mod_ends_27 : decode cN_Mod_ends 27 = .ok (.getfield 70, 3) := by decide +kernel
theorem dN_Mod_ends_30 : decode cN_Mod_ends 30 = .ok (.ifCond .le 7, 3) := by decide +kernel
theorem dN_Mod_ends_33 : decode cN_Mod_ends 33 = .ok (.iconst 0, 1) := by decide +kernel
theorem dN_Mod_ends_34 : decode cN_Mod_ends 34 = .ok (.goto 10, 3) := by decide +kernel
theorem dN_Mod_ends_37 : decode cN_Mod_ends 37 = .ok (.aload_n 0, 1) := by decide +kernel
theorem dN_Mod_ends_38 : decode cN_Mod_ends 38 = .ok (.iload_n 1, 1) := by decide +kernel
theorem dN_Mod_ends_39 : decode cN_Mod_ends 39 = .ok (.iload_n 2, 1) := by decide +kernel
theorem dN_Mod_ends_40 : decode cN_Mod_ends 40 = .ok (.iload_n 3, 1) := by decide +kernel
theorem dN_Mod_ends_41 : decode cN_Mod_ends 41 = .ok (.invokevirtual 127, 3) := by decide +kernel
theorem dN_Mod_ends_44 : decode cN_Mod_ends 44 = .ok (.ireturn, 1) := by decide +kernel
theorem dN_Mod_keep_0 : decode cN_Mod_keep 0 = .ok (.aload_n 0, 1) := by decide +kernel
theorem dN_Mod_keep_1 : decode cN_Mod_keep 1 = .ok (.iload_n 1, 1) := by decide +kernel
theorem dN_Mod_keep_2 : decode cN_Mod_keep 2 = .ok (.iconst 4, 1) := by decide +kernel
theorem dN_Mod_keep_3 : decode cN_Mod_keep 3 = .ok (.if_icmp .lt 9, 3) := by decide +kernel
theorem dN_Mod_keep_6 : decode cN_Mod_keep 6 = .ok (.iload_n 1, 1) := by decide +kernel
theorem dN_Mod_keep_7 : decode cN_Mod_keep 7 = .ok (.bipush 64, 2) := by decide +kernel
theorem dN_Mod_keep_9 : decode cN_Mod_keep 9 = .ok (.if_icmp .le 7, 3) := by decide +kernel
theorem dN_Mod_keep_12 : decode cN_Mod_keep 12 = .ok (.iconst 1, 1) := by decide +kernel
theorem dN_Mod_keep_13 : decode cN_Mod_keep 13 = .ok (.goto 4, 3) := by decide +kernel
theorem dN_Mod_keep_16 : decode cN_Mod_keep 16 = .ok (.iconst 0, 1) := by decide +kernel
theorem dN_Mod_keep_17 : decode cN_Mod_keep 17 = .ok (.putfield 70, 3) := by decide +kernel
theorem dN_Mod_keep_20 : decode cN_Mod_keep 20 = .ok (.return_, 1) := by decide +kernel
theorem dN_Mod_isOneWay_0 : decode cN_Mod_isOneWay 0 = .ok (.aload_n 0, 1) := by decide +kernel
theorem dN_Mod_isOneWay_1 : decode cN_Mod_isOneWay 1 = .ok (.iconst 0, 1) := by decide +kernel
theorem dN_Mod_isOneWay_2 : decode cN_Mod_isOneWay 2 = .ok (.putfield 70, 3) := by decide +kernel
theorem dN_Mod_isOneWay_5 : decode cN_Mod_isOneWay 5 = .ok (.aload_n 0, 1) := by decide +kernel
theorem dN_Mod_isOneWay_6 : decode cN_Mod_isOneWay 6 = .ok (.iconst 0, 1) := by decide +kernel
theorem dN_Mod_isOneWay_7 : decode cN_Mod_isOneWay 7 = .ok (.putfield 131, 3) := by decide +kernel
theorem dN_Mod_isOneWay_10 : decode cN_Mod_isOneWay 10 = .ok (.aload_n 0, 1) := by decide +kernel
theorem dN_Mod_isOneWay_11 : decode cN_Mod_isOneWay 11 = .ok (.aload_n 0, 1) := by decide +kernel
theorem dN_Mod_isOneWay_12 : decode cN_Mod_isOneWay 12 = .ok (.getfield 73, 3) := by decide +kernel
theorem dN_Mod_isOneWay_15 : decode cN_Mod_isOneWay 15 = .ok (.invokevirtual 141, 3) := by decide +kernel
theorem dN_Mod_isOneWay_18 : decode cN_Mod_isOneWay 18 = .ok (.iconst 1, 1) := by decide +kernel
theorem dN_Mod_isOneWay_19 : decode cN_Mod_isOneWay 19 = .ok (.istore_n 1, 1) := by decide +kernel
theorem dN_Mod_isOneWay_20 : decode cN_Mod_isOneWay 20 = .ok (.iconst 0, 1) := by decide +kernel
theorem dN_Mod_isOneWay_21 : decode cN_Mod_isOneWay 21 = .ok (.istore_n 2, 1) := by decide +kernel
theorem dN_Mod_isOneWay_22 : decode cN_Mod_isOneWay 22 = .ok (.iload_n 2, 1) := by decide +kernel
theorem dN_Mod_isOneWay_23 : decode cN_Mod_isOneWay 23 = .ok (.aload_n 0, 1) := by decide +kernel
theorem dN_Mod_isOneWay_24 : decode cN_Mod_isOneWay 24 = .ok (.getfield 131, 3) := by decide +kernel
theorem dN_Mod_isOneWay_27 : decode cN_Mod_isOneWay 27 = .ok (.if_icmp .ge 162, 3) := by decide +kernel
theorem dN_Mod_isOneWay_30 : decode cN_Mod_isOneWay 30 = .ok (.iload_n 1, 1) := by decide +kernel
theorem dN_Mod_isOneWay_31 : decode cN_Mod_isOneWay 31 = .ok (.ifCond .eq 158, 3) := by decide +kernel
theorem dN_Mod_isOneWay_34 : decode cN_Mod_isOneWay 34 = .ok (.aload_n 0, 1) := by decide +kernel
theorem dN_Mod_isOneWay_35 : decode cN_Mod_isOneWay 35 = .ok (.aload_n 0, 1) := by decide +kernel
theorem dN_Mod_isOneWay_36 : decode cN_Mod_isOneWay 36 = .ok (.getfield 58, 3) := by decide +kernel
theorem dN_Mod_isOneWay_39 : decode cN_Mod_isOneWay 39 = .ok (.iload_n 2, 1) := by decide +kernel
theorem dN_Mod_isOneWay_40 : decode cN_Mod_isOneWay 40 = .ok (.iaload, 1) := by decide +kernel
theorem dN_Mod_isOneWay_41 : decode cN_Mod_isOneWay 41 = .ok (.invokevirtual 144, 3) := by decide +kernel
theorem dN_Mod_isOneWay_44 : decode cN_Mod_isOneWay 44 = .ok (.istore_n 1, 1) := by decide +kernel
theorem dN_Mod_isOneWay_45 : decode cN_Mod_isOneWay 45 = .ok (.iconst 1, 1) := by decide +kernel
theorem dN_Mod_isOneWay_46 : decode cN_Mod_isOneWay 46 = .ok (.istore_n 3, 1) := by decide +kernel
theorem dN_Mod_isOneWay_47 : decode cN_Mod_isOneWay 47 = .ok (.iload_n 3, 1) := by decide +kernel
theorem dN_Mod_isOneWay_48 : decode cN_Mod_isOneWay 48 = .ok (.aload_n 0, 1) := by decide +kernel
theorem dN_Mod_isOneWay_49 : decode cN_Mod_isOneWay 49 = .ok (.getfield 7, 3) := by decide +kernel
theorem dN_Mod_isOneWay_52 : decode cN_Mod_isOneWay 52 = .ok (.if_icmp .ge 112, 3) := by decide +kernel
theorem dN_Mod_isOneWay_55 : decode cN_Mod_isOneWay 55 = .ok (.iload_n 1, 1) := by decide +kernel
theorem dN_Mod_isOneWay_56 : decode cN_Mod_isOneWay 56 = .ok (.ifCond .eq 108, 3) := by decide +kernel
theorem dN_Mod_isOneWay_59 : decode cN_Mod_isOneWay 59 = .ok (.aload_n 0, 1) := by decide +kernel
theorem dN_Mod_isOneWay_60 : decode cN_Mod_isOneWay 60 = .ok (.getfield 67, 3) := by decide +kernel
theorem dN_Mod_isOneWay_63 : decode cN_Mod_isOneWay 63 = .ok (.iload_n 3, 1) := by decide +kernel
theorem dN_Mod_isOneWay_64 : decode cN_Mod_isOneWay 64 = .ok (.iaload, 1) := by decide +kernel
theorem dN_Mod_isOneWay_65 : decode cN_Mod_isOneWay 65 = .ok (.ifCond .lt 93, 3) := by decide +kernel
theorem dN_Mod_isOneWay_68 : decode cN_Mod_isOneWay 68 = .ok (.aload_n 0, 1) := by decide +kernel
theorem dN_Mod_isOneWay_69 : decode cN_Mod_isOneWay 69 = .ok (.getfield 13, 3) := by decide +kernel
theorem dN_Mod_isOneWay_72 : decode cN_Mod_isOneWay 72 = .ok (.iload_n 3, 1) := by decide +kernel
theorem dN_Mod_isOneWay_73 : decode cN_Mod_isOneWay 73 = .ok (.iaload, 1) := by decide +kernel
theorem dN_Mod_isOneWay_74 : decode cN_Mod_isOneWay 74 = .ok (.iconst 1, 1) := by decide +kernel
theorem dN_Mod_isOneWay_75 : decode cN_Mod_isOneWay 75 = .ok (.if_icmp .eq 6, 3) := by decide +kernel
theorem dN_Mod_isOneWay_78 : decode cN_Mod_isOneWay 78 = .ok (.goto 80, 3) := by decide +kernel
theorem dN_Mod_isOneWay_81 : decode cN_Mod_isOneWay 81 = .ok (.aload_n 0, 1) := by decide +kernel
theorem dN_Mod_isOneWay_82 : decode cN_Mod_isOneWay 82 = .ok (.aload_n 0, 1) := by decide +kernel
theorem dN_Mod_isOneWay_83 : decode cN_Mod_isOneWay 83 = .ok (.getfield 20, 3) := by decide +kernel
theorem dN_Mod_isOneWay_86 : decode cN_Mod_isOneWay 86 = .ok (.iload_n 3, 1) := by decide +kernel
theorem dN_Mod_isOneWay_87 : decode cN_Mod_isOneWay 87 = .ok (.iaload, 1) := by decide +kernel
theorem dN_Mod_isOneWay_88 : decode cN_Mod_isOneWay 88 = .ok (.invokevirtual 141, 3) := by decide +kernel
theorem dN_Mod_isOneWay_91 : decode cN_Mod_isOneWay 91 = .ok (.iconst 1, 1) := by decide +kernel
theorem dN_Mod_isOneWay_92 : decode cN_Mod_isOneWay 92 = .ok (.istore 4, 2) := by decide +kernel
theorem dN_Mod_isOneWay_94 : decode cN_Mod_isOneWay 94 = .ok (.iload 4, 2) := by decide +kernel
theorem dN_Mod_isOneWay_96 : decode cN_Mod_isOneWay 96 = .ok (.iload_n 3, 1) := by decide +kernel
theorem dN_Mod_isOneWay_97 : decode cN_Mod_isOneWay 97 = .ok (.if_icmp .ge 61, 3) := by decide +kernel
theorem dN_Mod_isOneWay_100 : decode cN_Mod_isOneWay 100 = .ok (.aload_n 0, 1) := by decide +kernel
theorem dN_Mod_isOneWay_101 : decode cN_Mod_isOneWay 101 = .ok (.getfield 67, 3) := by decide +kernel
theorem dN_Mod_isOneWay_104 : decode cN_Mod_isOneWay 104 = .ok (.iload 4, 2) := by decide +kernel
theorem dN_Mod_isOneWay_106 : decode cN_Mod_isOneWay 106 = .ok (.iaload, 1) := by decide +kernel
theorem dN_Mod_isOneWay_107 : decode cN_Mod_isOneWay 107 = .ok (.ifCond .lt 45, 3) := by decide +kernel
theorem dN_Mod_isOneWay_110 : decode cN_Mod_isOneWay 110 = .ok (.aload_n 0, 1) := by decide +kernel
theorem dN_Mod_isOneWay_111 : decode cN_Mod_isOneWay 111 = .ok (.getfield 13, 3) := by decide +kernel
theorem dN_Mod_isOneWay_114 : decode cN_Mod_isOneWay 114 = .ok (.iload 4, 2) := by decide +kernel
theorem dN_Mod_isOneWay_116 : decode cN_Mod_isOneWay 116 = .ok (.iaload, 1) := by decide +kernel
theorem dN_Mod_isOneWay_117 : decode cN_Mod_isOneWay 117 = .ok (.iconst 1, 1) := by decide +kernel
theorem dN_Mod_isOneWay_118 : decode cN_Mod_isOneWay 118 = .ok (.if_icmp .ne 34, 3) := by decide +kernel
theorem dN_Mod_isOneWay_121 : decode cN_Mod_isOneWay 121 = .ok (.aload_n 0, 1) := by decide +kernel
theorem dN_Mod_isOneWay_122 : decode cN_Mod_isOneWay 122 = .ok (.getfield 17, 3) := by decide +kernel
theorem dN_Mod_isOneWay_125 : decode cN_Mod_isOneWay 125 = .ok (.iload_n 3, 1) := by decide +kernel
theorem dN_Mod_isOneWay_126 : decode cN_Mod_isOneWay 126 = .ok (.iaload, 1) := by decide +kernel
theorem dN_Mod_isOneWay_127 : decode cN_Mod_isOneWay 127 = .ok (.aload_n 0, 1) := by decide +kernel
theorem dN_Mod_isOneWay_128 : decode cN_Mod_isOneWay 128 = .ok (.getfield 17, 3) := by decide +kernel
theorem dN_Mod_isOneWay_131 : decode cN_Mod_isOneWay 131 = .ok (.iload 4, 2) := by decide +kernel
theorem dN_Mod_isOneWay_133 : decode cN_Mod_isOneWay 133 = .ok (.iaload, 1) := by decide +kernel
theorem dN_Mod_isOneWay_134 : decode cN_Mod_isOneWay 134 = .ok (.invokestatic 147, 3) := by decide +kernel
theorem dN_Mod_isOneWay_137 : decode cN_Mod_isOneWay 137 = .ok (.ifCond .eq 15, 3) := by decide +kernel
theorem dN_Mod_isOneWay_140 : decode cN_Mod_isOneWay 140 = .ok (.aload_n 0, 1) := by decide +kernel
theorem dN_Mod_isOneWay_141 : decode cN_Mod_isOneWay 141 = .ok (.iload_n 3, 1) := by decide +kernel
theorem dN_Mod_isOneWay_142 : decode cN_Mod_isOneWay 142 = .ok (.iload 4, 2) := by decide +kernel
theorem dN_Mod_isOneWay_144 : decode cN_Mod_isOneWay 144 = .ok (.invokevirtual 150, 3) := by decide +kernel
theorem dN_Mod_isOneWay_147 : decode cN_Mod_isOneWay 147 = .ok (.ifCond .ne 5, 3) := by decide +kernel
theorem dN_Mod_isOneWay_150 : decode cN_Mod_isOneWay 150 = .ok (.iconst 0, 1) := by decide +kernel
theorem dN_Mod_isOneWay_151 : decode cN_Mod_isOneWay 151 = .ok (.istore_n 1, 1) := by decide +kernel
theorem dN_Mod_isOneWay_152 : decode cN_Mod_isOneWay 152 = .ok (.iinc 4 1, 3) := by decide +kernel
theorem dN_Mod_isOneWay_155 : decode cN_Mod_isOneWay 155 = .ok (.goto (-61), 3) := by decide +kernel
theorem dN_Mod_isOneWay_158 : decode cN_Mod_isOneWay 158 = .ok (.iinc 3 1, 3) := by decide +kernel
theorem dN_Mod_isOneWay_161 : decode cN_Mod_isOneWay 161 = .ok (.goto (-114), 3) := by decide +kernel
theorem dN_Mod_isOneWay_164 : decode cN_Mod_isOneWay 164 = .ok (.iload_n 1, 1) := by decide +kernel
theorem dN_Mod_isOneWay_165 : decode cN_Mod_isOneWay 165 = .ok (.ifCond .eq 16, 3) := by decide +kernel
theorem dN_Mod_isOneWay_168 : decode cN_Mod_isOneWay 168 = .ok (.aload_n 0, 1) := by decide +kernel
theorem dN_Mod_isOneWay_169 : decode cN_Mod_isOneWay 169 = .ok (.getfield 131, 3) := by decide +kernel
theorem dN_Mod_isOneWay_172 : decode cN_Mod_isOneWay 172 = .ok (.bipush 64, 2) := by decide +kernel
theorem dN_Mod_isOneWay_174 : decode cN_Mod_isOneWay 174 = .ok (.if_icmp .gt 7, 3) := by decide +kernel
theorem dN_Mod_isOneWay_177 : decode cN_Mod_isOneWay 177 = .ok (.iconst 1, 1) := by decide +kernel
theorem dN_Mod_isOneWay_178 : decode cN_Mod_isOneWay 178 = .ok (.goto 4, 3) := by decide +kernel
theorem dN_Mod_isOneWay_181 : decode cN_Mod_isOneWay 181 = .ok (.iconst 0, 1) := by decide +kernel
theorem dN_Mod_isOneWay_182 : decode cN_Mod_isOneWay 182 = .ok (.istore_n 1, 1) := by decide +kernel
theorem dN_Mod_isOneWay_183 : decode cN_Mod_isOneWay 183 = .ok (.iinc 2 1, 3) := by decide +kernel
theorem dN_Mod_isOneWay_186 : decode cN_Mod_isOneWay 186 = .ok (.goto (-164), 3) := by decide +kernel
theorem dN_Mod_isOneWay_189 : decode cN_Mod_isOneWay 189 = .ok (.iload_n 1, 1) := by decide +kernel
theorem dN_Mod_isOneWay_190 : decode cN_Mod_isOneWay 190 = .ok (.ireturn, 1) := by decide +kernel
theorem dN_Mod_start_0 : decode cN_Mod_start 0 = .ok (.iconst 0, 1) := by decide +kernel
theorem dN_Mod_start_1 : decode cN_Mod_start 1 = .ok (.istore_n 2, 1) := by decide +kernel
theorem dN_Mod_start_2 : decode cN_Mod_start 2 = .ok (.iload_n 2, 1) := by decide +kernel
theorem dN_Mod_start_3 : decode cN_Mod_start 3 = .ok (.aload_n 0, 1) := by decide +kernel
theorem dN_Mod_start_4 : decode cN_Mod_start 4 = .ok (.getfield 131, 3) := by decide +kernel
theorem dN_Mod_start_7 : decode cN_Mod_start 7 = .ok (.if_icmp .ge 20, 3) := by decide +kernel
theorem dN_Mod_start_10 : decode cN_Mod_start 10 = .ok (.aload_n 0, 1) := by decide +kernel
theorem dN_Mod_start_11 : decode cN_Mod_start 11 = .ok (.getfield 58, 3) := by decide +kernel
theorem dN_Mod_start_14 : decode cN_Mod_start 14 = .ok (.iload_n 2, 1) := by decide +kernel
theorem dN_Mod_start_15 : decode cN_Mod_start 15 = .ok (.iaload, 1) := by decide +kernel
theorem dN_Mod_start_16 : decode cN_Mod_start 16 = .ok (.iload_n 1, 1) := by decide +kernel
theorem dN_Mod_start_17 : decode cN_Mod_start 17 = .ok (.if_icmp .ne 4, 3) := by decide +kernel
theorem dN_Mod_start_20 : decode cN_Mod_start 20 = .ok (.return_, 1) := by decide +kernel
theorem dN_Mod_start_21 : decode cN_Mod_start 21 = .ok (.iinc 2 1, 3) := by decide +kernel
theorem dN_Mod_start_24 : decode cN_Mod_start 24 = .ok (.goto (-22), 3) := by decide +kernel
theorem dN_Mod_start_27 : decode cN_Mod_start 27 = .ok (.aload_n 0, 1) := by decide +kernel
theorem dN_Mod_start_28 : decode cN_Mod_start 28 = .ok (.getfield 58, 3) := by decide +kernel
theorem dN_Mod_start_31 : decode cN_Mod_start 31 = .ok (.aload_n 0, 1) := by decide +kernel
theorem dN_Mod_start_32 : decode cN_Mod_start 32 = .ok (.getfield 131, 3) := by decide +kernel
theorem dN_Mod_start_35 : decode cN_Mod_start 35 = .ok (.iload_n 1, 1) := by decide +kernel
theorem dN_Mod_start_36 : decode cN_Mod_start 36 = .ok (.iastore, 1) := by decide +kernel
theorem dN_Mod_start_37 : decode cN_Mod_start 37 = .ok (.aload_n 0, 1) := by decide +kernel
theorem dN_Mod_start_38 : decode cN_Mod_start 38 = .ok (.dup, 1) := by decide +kernel
theorem dN_Mod_start_39 : decode cN_Mod_start 39 = .ok (.getfield 131, 3) := by decide +kernel
theorem dN_Mod_start_42 : decode cN_Mod_start 42 = .ok (.iconst 1, 1) := by decide +kernel
theorem dN_Mod_start_43 : decode cN_Mod_start 43 = .ok (.iadd, 1) := by decide +kernel
theorem dN_Mod_start_44 : decode cN_Mod_start 44 = .ok (.putfield 131, 3) := by decide +kernel
theorem dN_Mod_start_47 : decode cN_Mod_start 47 = .ok (.return_, 1) := by decide +kernel
theorem dN_Mod_spreads_0 : decode cN_Mod_spreads 0 = .ok (.iconst 0, 1) := by decide +kernel
theorem dN_Mod_spreads_1 : decode cN_Mod_spreads 1 = .ok (.istore_n 2, 1) := by decide +kernel
theorem dN_Mod_spreads_2 : decode cN_Mod_spreads 2 = .ok (.iload_n 2, 1) := by decide +kernel
theorem dN_Mod_spreads_3 : decode cN_Mod_spreads 3 = .ok (.aload_n 0, 1) := by decide +kernel
theorem dN_Mod_spreads_4 : decode cN_Mod_spreads 4 = .ok (.getfield 7, 3) := by decide +kernel
theorem dN_Mod_spreads_7 : decode cN_Mod_spreads 7 = .ok (.if_icmp .ge 16, 3) := by decide +kernel
theorem dN_Mod_spreads_10 : decode cN_Mod_spreads 10 = .ok (.aload_n 0, 1) := by decide +kernel
theorem dN_Mod_spreads_11 : decode cN_Mod_spreads 11 = .ok (.getfield 67, 3) := by decide +kernel
theorem dN_Mod_spreads_14 : decode cN_Mod_spreads 14 = .ok (.iload_n 2, 1) := by decide +kernel
theorem dN_Mod_spreads_15 : decode cN_Mod_spreads 15 = .ok (.iconst (-1), 1) := by decide +kernel
theorem dN_Mod_spreads_16 : decode cN_Mod_spreads 16 = .ok (.iastore, 1) := by decide +kernel
theorem dN_Mod_spreads_17 : decode cN_Mod_spreads 17 = .ok (.iinc 2 1, 3) := by decide +kernel
theorem dN_Mod_spreads_20 : decode cN_Mod_spreads 20 = .ok (.goto (-18), 3) := by decide +kernel
theorem dN_Mod_spreads_23 : decode cN_Mod_spreads 23 = .ok (.iconst 0, 1) := by decide +kernel
theorem dN_Mod_spreads_24 : decode cN_Mod_spreads 24 = .ok (.istore_n 2, 1) := by decide +kernel
theorem dN_Mod_spreads_25 : decode cN_Mod_spreads 25 = .ok (.aload_n 0, 1) := by decide +kernel
theorem dN_Mod_spreads_26 : decode cN_Mod_spreads 26 = .ok (.getfield 43, 3) := by decide +kernel
theorem dN_Mod_spreads_29 : decode cN_Mod_spreads 29 = .ok (.iconst 0, 1) := by decide +kernel
theorem dN_Mod_spreads_30 : decode cN_Mod_spreads 30 = .ok (.iload_n 1, 1) := by decide +kernel
theorem dN_Mod_spreads_31 : decode cN_Mod_spreads 31 = .ok (.iastore, 1) := by decide +kernel
theorem dN_Mod_spreads_32 : decode cN_Mod_spreads 32 = .ok (.aload_n 0, 1) := by decide +kernel
theorem dN_Mod_spreads_33 : decode cN_Mod_spreads 33 = .ok (.iconst 1, 1) := by decide +kernel
theorem dN_Mod_spreads_34 : decode cN_Mod_spreads 34 = .ok (.putfield 99, 3) := by decide +kernel
theorem dN_Mod_spreads_37 : decode cN_Mod_spreads 37 = .ok (.aload_n 0, 1) := by decide +kernel
theorem dN_Mod_spreads_38 : decode cN_Mod_spreads 38 = .ok (.getfield 61, 3) := by decide +kernel
theorem dN_Mod_spreads_41 : decode cN_Mod_spreads 41 = .ok (.iload_n 1, 1) := by decide +kernel
theorem dN_Mod_spreads_42 : decode cN_Mod_spreads 42 = .ok (.iconst 0, 1) := by decide +kernel
theorem dN_Mod_spreads_43 : decode cN_Mod_spreads 43 = .ok (.iastore, 1) := by decide +kernel
theorem dN_Mod_spreads_44 : decode cN_Mod_spreads 44 = .ok (.aload_n 0, 1) := by decide +kernel
theorem dN_Mod_spreads_45 : decode cN_Mod_spreads 45 = .ok (.getfield 64, 3) := by decide +kernel
theorem dN_Mod_spreads_48 : decode cN_Mod_spreads 48 = .ok (.iload_n 1, 1) := by decide +kernel
theorem dN_Mod_spreads_49 : decode cN_Mod_spreads 49 = .ok (.iconst 0, 1) := by decide +kernel
theorem dN_Mod_spreads_50 : decode cN_Mod_spreads 50 = .ok (.iastore, 1) := by decide +kernel
theorem dN_Mod_spreads_51 : decode cN_Mod_spreads 51 = .ok (.aload_n 0, 1) := by decide +kernel
theorem dN_Mod_spreads_52 : decode cN_Mod_spreads 52 = .ok (.getfield 99, 3) := by decide +kernel
theorem dN_Mod_spreads_55 : decode cN_Mod_spreads 55 = .ok (.ifCond .le 272, 3) := by decide +kernel
theorem dN_Mod_spreads_58 : decode cN_Mod_spreads 58 = .ok (.aload_n 0, 1) := by decide +kernel
theorem dN_Mod_spreads_59 : decode cN_Mod_spreads 59 = .ok (.dup, 1) := by decide +kernel
theorem dN_Mod_spreads_60 : decode cN_Mod_spreads 60 = .ok (.getfield 99, 3) := by decide +kernel
theorem dN_Mod_spreads_63 : decode cN_Mod_spreads 63 = .ok (.iconst 1, 1) := by decide +kernel
theorem dN_Mod_spreads_64 : decode cN_Mod_spreads 64 = .ok (.isub, 1) := by decide +kernel
theorem dN_Mod_spreads_65 : decode cN_Mod_spreads 65 = .ok (.putfield 99, 3) := by decide +kernel
theorem dN_Mod_spreads_68 : decode cN_Mod_spreads 68 = .ok (.aload_n 0, 1) := by decide +kernel
theorem dN_Mod_spreads_69 : decode cN_Mod_spreads 69 = .ok (.getfield 43, 3) := by decide +kernel
theorem dN_Mod_spreads_72 : decode cN_Mod_spreads 72 = .ok (.aload_n 0, 1) := by decide +kernel
theorem dN_Mod_spreads_73 : decode cN_Mod_spreads 73 = .ok (.getfield 99, 3) := by decide +kernel
theorem dN_Mod_spreads_76 : decode cN_Mod_spreads 76 = .ok (.iaload, 1) := by decide +kernel
theorem dN_Mod_spreads_77 : decode cN_Mod_spreads 77 = .ok (.istore_n 3, 1) := by decide +kernel
theorem dN_Mod_spreads_78 : decode cN_Mod_spreads 78 = .ok (.aload_n 0, 1) := by decide +kernel
theorem dN_Mod_spreads_79 : decode cN_Mod_spreads 79 = .ok (.getfield 67, 3) := by decide +kernel
theorem dN_Mod_spreads_82 : decode cN_Mod_spreads 82 = .ok (.iload_n 3, 1) := by decide +kernel
theorem dN_Mod_spreads_83 : decode cN_Mod_spreads 83 = .ok (.iaload, 1) := by decide +kernel
theorem dN_Mod_spreads_84 : decode cN_Mod_spreads 84 = .ok (.ifCond .lt 5, 3) := by decide +kernel
theorem dN_Mod_spreads_87 : decode cN_Mod_spreads 87 = .ok (.iconst 0, 1) := by decide +kernel
theorem dN_Mod_spreads_88 : decode cN_Mod_spreads 88 = .ok (.ireturn, 1) := by decide +kernel
theorem dN_Mod_spreads_89 : decode cN_Mod_spreads 89 = .ok (.aload_n 0, 1) := by decide +kernel
theorem dN_Mod_spreads_90 : decode cN_Mod_spreads 90 = .ok (.getfield 67, 3) := by decide +kernel
theorem dN_Mod_spreads_93 : decode cN_Mod_spreads 93 = .ok (.iload_n 3, 1) := by decide +kernel
theorem dN_Mod_spreads_94 : decode cN_Mod_spreads 94 = .ok (.iload_n 2, 1) := by decide +kernel
theorem dN_Mod_spreads_95 : decode cN_Mod_spreads 95 = .ok (.iastore, 1) := by decide +kernel
theorem dN_Mod_spreads_96 : decode cN_Mod_spreads 96 = .ok (.iinc 2 1, 3) := by decide +kernel
theorem dN_Mod_spreads_99 : decode cN_Mod_spreads 99 = .ok (.iload_n 3, 1) := by decide +kernel
theorem dN_Mod_spreads_100 : decode cN_Mod_spreads 100 = .ok (.ifCond .eq (-49), 3) := by decide +kernel
theorem dN_Mod_spreads_103 : decode cN_Mod_spreads 103 = .ok (.aload_n 0, 1) := by decide +kernel
theorem dN_Mod_spreads_104 : decode cN_Mod_spreads 104 = .ok (.getfield 13, 3) := by decide +kernel
theorem dN_Mod_spreads_107 : decode cN_Mod_spreads 107 = .ok (.iload_n 3, 1) := by decide +kernel
theorem dN_Mod_spreads_108 : decode cN_Mod_spreads 108 = .ok (.iaload, 1) := by decide +kernel
theorem dN_Mod_spreads_109 : decode cN_Mod_spreads 109 = .ok (.iconst 1, 1) := by decide +kernel
theorem dN_Mod_spreads_110 : decode cN_Mod_spreads 110 = .ok (.if_icmp .eq (-59), 3) := by decide +kernel
theorem dN_Mod_spreads_113 : decode cN_Mod_spreads 113 = .ok (.aload_n 0, 1) := by decide +kernel
theorem dN_Mod_spreads_114 : decode cN_Mod_spreads 114 = .ok (.getfield 13, 3) := by decide +kernel
theorem dN_Mod_spreads_117 : decode cN_Mod_spreads 117 = .ok (.iload_n 3, 1) := by decide +kernel
theorem dN_Mod_spreads_118 : decode cN_Mod_spreads 118 = .ok (.iaload, 1) := by decide +kernel
theorem dN_Mod_spreads_119 : decode cN_Mod_spreads 119 = .ok (.iconst 5, 1) := by decide +kernel
theorem dN_Mod_spreads_120 : decode cN_Mod_spreads 120 = .ok (.if_icmp .ne 6, 3) := by decide +kernel
theorem dN_Mod_spreads_123 : decode cN_Mod_spreads 123 = .ok (.goto (-72), 3) := by decide +kernel
theorem dN_Mod_spreads_126 : decode cN_Mod_spreads 126 = .ok (.aload_n 0, 1) := by decide +kernel
theorem dN_Mod_spreads_127 : decode cN_Mod_spreads 127 = .ok (.getfield 13, 3) := by decide +kernel
theorem dN_Mod_spreads_130 : decode cN_Mod_spreads 130 = .ok (.iload_n 3, 1) := by decide +kernel
theorem dN_Mod_spreads_131 : decode cN_Mod_spreads 131 = .ok (.iaload, 1) := by decide +kernel
theorem dN_Mod_spreads_132 : decode cN_Mod_spreads 132 = .ok (.iconst 3, 1) := by decide +kernel
theorem dN_Mod_spreads_133 : decode cN_Mod_spreads 133 = .ok (.if_icmp .ne 21, 3) := by decide +kernel
theorem dN_Mod_spreads_136 : decode cN_Mod_spreads 136 = .ok (.aload_n 0, 1) := by decide +kernel
theorem dN_Mod_spreads_137 : decode cN_Mod_spreads 137 = .ok (.getfield 61, 3) := by decide +kernel
theorem dN_Mod_spreads_140 : decode cN_Mod_spreads 140 = .ok (.iload_n 3, 1) := by decide +kernel
theorem dN_Mod_spreads_141 : decode cN_Mod_spreads 141 = .ok (.iaload, 1) := by decide +kernel
theorem dN_Mod_spreads_142 : decode cN_Mod_spreads 142 = .ok (.iconst 1, 1) := by decide +kernel
theorem dN_Mod_spreads_143 : decode cN_Mod_spreads 143 = .ok (.aload_n 0, 1) := by decide +kernel
theorem dN_Mod_spreads_144 : decode cN_Mod_spreads 144 = .ok (.getfield 17, 3) := by decide +kernel
theorem dN_Mod_spreads_147 : decode cN_Mod_spreads 147 = .ok (.iload_n 3, 1) := by decide +kernel
theorem dN_Mod_spreads_148 : decode cN_Mod_spreads 148 = .ok (.iaload, 1) := by decide +kernel
theorem dN_Mod_spreads_149 : decode cN_Mod_spreads 149 = .ok (.ishl, 1) := by decide +kernel
theorem dN_Mod_spreads_150 : decode cN_Mod_spreads 150 = .ok (.ior, 1) := by decide +kernel
theorem dN_Mod_spreads_151 : decode cN_Mod_spreads 151 = .ok (.goto 9, 3) := by decide +kernel
theorem dN_Mod_spreads_154 : decode cN_Mod_spreads 154 = .ok (.aload_n 0, 1) := by decide +kernel
theorem dN_Mod_spreads_155 : decode cN_Mod_spreads 155 = .ok (.getfield 61, 3) := by decide +kernel
theorem dN_Mod_spreads_158 : decode cN_Mod_spreads 158 = .ok (.iload_n 3, 1) := by decide +kernel
theorem dN_Mod_spreads_159 : decode cN_Mod_spreads 159 = .ok (.iaload, 1) := by decide +kernel
theorem dN_Mod_spreads_160 : decode cN_Mod_spreads 160 = .ok (.istore 4, 2) := by decide +kernel
theorem dN_Mod_spreads_162 : decode cN_Mod_spreads 162 = .ok (.aload_n 0, 1) := by decide +kernel
theorem dN_Mod_spreads_163 : decode cN_Mod_spreads 163 = .ok (.getfield 13, 3) := by decide +kernel
theorem dN_Mod_spreads_166 : decode cN_Mod_spreads 166 = .ok (.iload_n 3, 1) := by decide +kernel
theorem dN_Mod_spreads_167 : decode cN_Mod_spreads 167 = .ok (.iaload, 1) := by decide +kernel
theorem dN_Mod_spreads_168 : decode cN_Mod_spreads 168 = .ok (.iconst 4, 1) := by decide +kernel
theorem dN_Mod_spreads_169 : decode cN_Mod_spreads 169 = .ok (.if_icmp .ne 21, 3) := by decide +kernel
theorem dN_Mod_spreads_172 : decode cN_Mod_spreads 172 = .ok (.aload_n 0, 1) := by decide +kernel
theorem dN_Mod_spreads_173 : decode cN_Mod_spreads 173 = .ok (.getfield 64, 3) := by decide +kernel
theorem dN_Mod_spreads_176 : decode cN_Mod_spreads 176 = .ok (.iload_n 3, 1) := by decide +kernel
theorem dN_Mod_spreads_177 : decode cN_Mod_spreads 177 = .ok (.iaload, 1) := by decide +kernel
theorem dN_Mod_spreads_178 : decode cN_Mod_spreads 178 = .ok (.iconst 1, 1) := by decide +kernel
theorem dN_Mod_spreads_179 : decode cN_Mod_spreads 179 = .ok (.aload_n 0, 1) := by decide +kernel
theorem dN_Mod_spreads_180 : decode cN_Mod_spreads 180 = .ok (.getfield 17, 3) := by decide +kernel
theorem dN_Mod_spreads_183 : decode cN_Mod_spreads 183 = .ok (.iload_n 3, 1) := by decide +kernel
theorem dN_Mod_spreads_184 : decode cN_Mod_spreads 184 = .ok (.iaload, 1) := by decide +kernel
theorem dN_Mod_spreads_185 : decode cN_Mod_spreads 185 = .ok (.ishl, 1) := by decide +kernel
theorem dN_Mod_spreads_186 : decode cN_Mod_spreads 186 = .ok (.ior, 1) := by decide +kernel
theorem dN_Mod_spreads_187 : decode cN_Mod_spreads 187 = .ok (.goto 9, 3) := by decide +kernel
theorem dN_Mod_spreads_190 : decode cN_Mod_spreads 190 = .ok (.aload_n 0, 1) := by decide +kernel
theorem dN_Mod_spreads_191 : decode cN_Mod_spreads 191 = .ok (.getfield 64, 3) := by decide +kernel
theorem dN_Mod_spreads_194 : decode cN_Mod_spreads 194 = .ok (.iload_n 3, 1) := by decide +kernel
theorem dN_Mod_spreads_195 : decode cN_Mod_spreads 195 = .ok (.iaload, 1) := by decide +kernel
theorem dN_Mod_spreads_196 : decode cN_Mod_spreads 196 = .ok (.istore 5, 2) := by decide +kernel
theorem dN_Mod_spreads_198 : decode cN_Mod_spreads 198 = .ok (.aload_n 0, 1) := by decide +kernel
theorem dN_Mod_spreads_199 : decode cN_Mod_spreads 199 = .ok (.getfield 13, 3) := by decide +kernel
theorem dN_Mod_spreads_202 : decode cN_Mod_spreads 202 = .ok (.iload_n 3, 1) := by decide +kernel
theorem dN_Mod_spreads_203 : decode cN_Mod_spreads 203 = .ok (.iaload, 1) := by decide +kernel
theorem dN_Mod_spreads_204 : decode cN_Mod_spreads 204 = .ok (.iconst 2, 1) := by decide +kernel
theorem dN_Mod_spreads_205 : decode cN_Mod_spreads 205 = .ok (.if_icmp .ne 7, 3) := by decide +kernel
theorem dN_Mod_spreads_208 : decode cN_Mod_spreads 208 = .ok (.iconst 1, 1) := by decide +kernel
theorem dN_Mod_spreads_209 : decode cN_Mod_spreads 209 = .ok (.goto 4, 3) := by decide +kernel
theorem dN_Mod_spreads_212 : decode cN_Mod_spreads 212 = .ok (.iconst 0, 1) := by decide +kernel
theorem dN_Mod_spreads_213 : decode cN_Mod_spreads 213 = .ok (.istore 6, 2) := by decide +kernel
theorem dN_Mod_spreads_215 : decode cN_Mod_spreads 215 = .ok (.iload 6, 2) := by decide +kernel
theorem dN_Mod_spreads_217 : decode cN_Mod_spreads 217 = .ok (.ifCond .eq 45, 3) := by decide +kernel
theorem dN_Mod_spreads_220 : decode cN_Mod_spreads 220 = .ok (.aload_n 0, 1) := by decide +kernel
theorem dN_Mod_spreads_221 : decode cN_Mod_spreads 221 = .ok (.getfield 67, 3) := by decide +kernel
theorem dN_Mod_spreads_224 : decode cN_Mod_spreads 224 = .ok (.aload_n 0, 1) := by decide +kernel
theorem dN_Mod_spreads_225 : decode cN_Mod_spreads 225 = .ok (.getfield 23, 3) := by decide +kernel
theorem dN_Mod_spreads_228 : decode cN_Mod_spreads 228 = .ok (.iload_n 3, 1) := by decide +kernel
theorem dN_Mod_spreads_229 : decode cN_Mod_spreads 229 = .ok (.iaload, 1) := by decide +kernel
theorem dN_Mod_spreads_230 : decode cN_Mod_spreads 230 = .ok (.iaload, 1) := by decide +kernel
theorem dN_Mod_spreads_231 : decode cN_Mod_spreads 231 = .ok (.ifCond .ge 58, 3) := by decide +kernel
theorem dN_Mod_spreads_234 : decode cN_Mod_spreads 234 = .ok (.aload_n 0, 1) := by decide +kernel
theorem dN_Mod_spreads_235 : decode cN_Mod_spreads 235 = .ok (.aload_n 0, 1) := by decide +kernel
theorem dN_Mod_spreads_236 : decode cN_Mod_spreads 236 = .ok (.getfield 23, 3) := by decide +kernel
theorem dN_Mod_spreads_239 : decode cN_Mod_spreads 239 = .ok (.iload_n 3, 1) := by decide +kernel
theorem dN_Mod_spreads_240 : decode cN_Mod_spreads 240 = .ok (.iaload, 1) := by decide +kernel
theorem dN_Mod_spreads_241 : decode cN_Mod_spreads 241 = .ok (.invokevirtual 134, 3) := by decide +kernel
theorem dN_Mod_spreads_244 : decode cN_Mod_spreads 244 = .ok (.ifCond .ne 45, 3) := by decide +kernel
theorem dN_Mod_spreads_247 : decode cN_Mod_spreads 247 = .ok (.aload_n 0, 1) := by decide +kernel
theorem dN_Mod_spreads_248 : decode cN_Mod_spreads 248 = .ok (.getfield 20, 3) := by decide +kernel
theorem dN_Mod_spreads_251 : decode cN_Mod_spreads 251 = .ok (.iload_n 3, 1) := by decide +kernel
theorem dN_Mod_spreads_252 : decode cN_Mod_spreads 252 = .ok (.iaload, 1) := by decide +kernel
theorem dN_Mod_spreads_253 : decode cN_Mod_spreads 253 = .ok (.aload_n 0, 1) := by decide +kernel
theorem dN_Mod_spreads_254 : decode cN_Mod_spreads 254 = .ok (.getfield 23, 3) := by decide +kernel
theorem dN_Mod_spreads_257 : decode cN_Mod_spreads 257 = .ok (.iload_n 3, 1) := by decide +kernel
theorem dN_Mod_spreads_258 : decode cN_Mod_spreads 258 = .ok (.iaload, 1) := by decide +kernel
theorem dN_Mod_spreads_259 : decode cN_Mod_spreads 259 = .ok (.if_icmp .eq 30, 3) := by decide +kernel
theorem dN_Mod_spreads_262 : decode cN_Mod_spreads 262 = .ok (.aload_n 0, 1) := by decide +kernel
theorem dN_Mod_spreads_263 : decode cN_Mod_spreads 263 = .ok (.getfield 67, 3) := by decide +kernel
theorem dN_Mod_spreads_266 : decode cN_Mod_spreads 266 = .ok (.aload_n 0, 1) := by decide +kernel
theorem dN_Mod_spreads_267 : decode cN_Mod_spreads 267 = .ok (.getfield 20, 3) := by decide +kernel
theorem dN_Mod_spreads_270 : decode cN_Mod_spreads 270 = .ok (.iload_n 3, 1) := by decide +kernel
theorem dN_Mod_spreads_271 : decode cN_Mod_spreads 271 = .ok (.iaload, 1) := by decide +kernel
theorem dN_Mod_spreads_272 : decode cN_Mod_spreads 272 = .ok (.iaload, 1) := by decide +kernel
theorem dN_Mod_spreads_273 : decode cN_Mod_spreads 273 = .ok (.ifCond .ge 16, 3) := by decide +kernel
theorem dN_Mod_spreads_276 : decode cN_Mod_spreads 276 = .ok (.aload_n 0, 1) := by decide +kernel
theorem dN_Mod_spreads_277 : decode cN_Mod_spreads 277 = .ok (.aload_n 0, 1) := by decide +kernel
theorem dN_Mod_spreads_278 : decode cN_Mod_spreads 278 = .ok (.getfield 20, 3) := by decide +kernel
theorem dN_Mod_spreads_281 : decode cN_Mod_spreads 281 = .ok (.iload_n 3, 1) := by decide +kernel
theorem dN_Mod_spreads_282 : decode cN_Mod_spreads 282 = .ok (.iaload, 1) := by decide +kernel
theorem dN_Mod_spreads_283 : decode cN_Mod_spreads 283 = .ok (.invokevirtual 134, 3) := by decide +kernel
theorem dN_Mod_spreads_286 : decode cN_Mod_spreads 286 = .ok (.ifCond .eq 5, 3) := by decide +kernel
theorem dN_Mod_spreads_289 : decode cN_Mod_spreads 289 = .ok (.iconst 0, 1) := by decide +kernel
theorem dN_Mod_spreads_290 : decode cN_Mod_spreads 290 = .ok (.ireturn, 1) := by decide +kernel
theorem dN_Mod_spreads_291 : decode cN_Mod_spreads 291 = .ok (.iload 6, 2) := by decide +kernel
theorem dN_Mod_spreads_293 : decode cN_Mod_spreads 293 = .ok (.ifCond .eq 17, 3) := by decide +kernel
theorem dN_Mod_spreads_296 : decode cN_Mod_spreads 296 = .ok (.aload_n 0, 1) := by decide +kernel
theorem dN_Mod_spreads_297 : decode cN_Mod_spreads 297 = .ok (.aload_n 0, 1) := by decide +kernel
theorem dN_Mod_spreads_298 : decode cN_Mod_spreads 298 = .ok (.getfield 23, 3) := by decide +kernel
theorem dN_Mod_spreads_301 : decode cN_Mod_spreads 301 = .ok (.iload_n 3, 1) := by decide +kernel
theorem dN_Mod_spreads_302 : decode cN_Mod_spreads 302 = .ok (.iaload, 1) := by decide +kernel
theorem dN_Mod_spreads_303 : decode cN_Mod_spreads 303 = .ok (.iload 4, 2) := by decide +kernel
theorem dN_Mod_spreads_305 : decode cN_Mod_spreads 305 = .ok (.iload 5, 2) := by decide +kernel
theorem dN_Mod_spreads_307 : decode cN_Mod_spreads 307 = .ok (.invokevirtual 137, 3) := by decide +kernel
theorem dN_Mod_spreads_310 : decode cN_Mod_spreads 310 = .ok (.aload_n 0, 1) := by decide +kernel
theorem dN_Mod_spreads_311 : decode cN_Mod_spreads 311 = .ok (.aload_n 0, 1) := by decide +kernel
theorem dN_Mod_spreads_312 : decode cN_Mod_spreads 312 = .ok (.getfield 20, 3) := by decide +kernel
theorem dN_Mod_spreads_315 : decode cN_Mod_spreads 315 = .ok (.iload_n 3, 1) := by decide +kernel
theorem dN_Mod_spreads_316 : decode cN_Mod_spreads 316 = .ok (.iaload, 1) := by decide +kernel
theorem dN_Mod_spreads_317 : decode cN_Mod_spreads 317 = .ok (.iload 4, 2) := by decide +kernel
theorem dN_Mod_spreads_319 : decode cN_Mod_spreads 319 = .ok (.iload 5, 2) := by decide +kernel
theorem dN_Mod_spreads_321 : decode cN_Mod_spreads 321 = .ok (.invokevirtual 137, 3) := by decide +kernel
theorem dN_Mod_spreads_324 : decode cN_Mod_spreads 324 = .ok (.goto (-273), 3) := by decide +kernel
theorem dN_Mod_spreads_327 : decode cN_Mod_spreads 327 = .ok (.iconst 1, 1) := by decide +kernel
theorem dN_Mod_spreads_328 : decode cN_Mod_spreads 328 = .ok (.ireturn, 1) := by decide +kernel
theorem dN_Mod_isWaiting_0 : decode cN_Mod_isWaiting 0 = .ok (.iconst 0, 1) := by decide +kernel
theorem dN_Mod_isWaiting_1 : decode cN_Mod_isWaiting 1 = .ok (.istore_n 2, 1) := by decide +kernel
theorem dN_Mod_isWaiting_2 : decode cN_Mod_isWaiting 2 = .ok (.iconst 0, 1) := by decide +kernel
theorem dN_Mod_isWaiting_3 : decode cN_Mod_isWaiting 3 = .ok (.istore_n 3, 1) := by decide +kernel
theorem dN_Mod_isWaiting_4 : decode cN_Mod_isWaiting 4 = .ok (.iload_n 3, 1) := by decide +kernel
theorem dN_Mod_isWaiting_5 : decode cN_Mod_isWaiting 5 = .ok (.aload_n 0, 1) := by decide +kernel
theorem dN_Mod_isWaiting_6 : decode cN_Mod_isWaiting 6 = .ok (.getfield 99, 3) := by decide +kernel
theorem dN_Mod_isWaiting_9 : decode cN_Mod_isWaiting 9 = .ok (.if_icmp .ge 29, 3) := by decide +kernel
theorem dN_Mod_isWaiting_12 : decode cN_Mod_isWaiting 12 = .ok (.iload_n 2, 1) := by decide +kernel
theorem dN_Mod_isWaiting_13 : decode cN_Mod_isWaiting 13 = .ok (.ifCond .ne 13, 3) := by decide +kernel
theorem dN_Mod_isWaiting_16 : decode cN_Mod_isWaiting 16 = .ok (.aload_n 0, 1) := by decide +kernel
theorem dN_Mod_isWaiting_17 : decode cN_Mod_isWaiting 17 = .ok (.getfield 43, 3) := by decide +kernel
theorem dN_Mod_isWaiting_20 : decode cN_Mod_isWaiting 20 = .ok (.iload_n 3, 1) := by decide +kernel
theorem dN_Mod_isWaiting_21 : decode cN_Mod_isWaiting 21 = .ok (.iaload, 1) := by decide +kernel
theorem dN_Mod_isWaiting_22 : decode cN_Mod_isWaiting 22 = .ok (.iload_n 1, 1) := by decide +kernel
theorem dN_Mod_isWaiting_23 : decode cN_Mod_isWaiting 23 = .ok (.if_icmp .ne 7, 3) := by decide +kernel
theorem dN_Mod_isWaiting_26 : decode cN_Mod_isWaiting 26 = .ok (.iconst 1, 1) := by decide +kernel
theorem dN_Mod_isWaiting_27 : decode cN_Mod_isWaiting 27 = .ok (.goto 4, 3) := by decide +kernel
theorem dN_Mod_isWaiting_30 : decode cN_Mod_isWaiting 30 = .ok (.iconst 0, 1) := by decide +kernel
theorem dN_Mod_isWaiting_31 : decode cN_Mod_isWaiting 31 = .ok (.istore_n 2, 1) := by decide +kernel
theorem dN_Mod_isWaiting_32 : decode cN_Mod_isWaiting 32 = .ok (.iinc 3 1, 3) := by decide +kernel
theorem dN_Mod_isWaiting_35 : decode cN_Mod_isWaiting 35 = .ok (.goto (-31), 3) := by decide +kernel
theorem dN_Mod_isWaiting_38 : decode cN_Mod_isWaiting 38 = .ok (.iload_n 2, 1) := by decide +kernel
theorem dN_Mod_isWaiting_39 : decode cN_Mod_isWaiting 39 = .ok (.ireturn, 1) := by decide +kernel
theorem dN_Mod_hold_0 : decode cN_Mod_hold 0 = .ok (.aload_n 0, 1) := by decide +kernel
theorem dN_Mod_hold_1 : decode cN_Mod_hold 1 = .ok (.getfield 43, 3) := by decide +kernel
theorem dN_Mod_hold_4 : decode cN_Mod_hold 4 = .ok (.aload_n 0, 1) := by decide +kernel
theorem dN_Mod_hold_5 : decode cN_Mod_hold 5 = .ok (.getfield 99, 3) := by decide +kernel
theorem dN_Mod_hold_8 : decode cN_Mod_hold 8 = .ok (.iload_n 1, 1) := by decide +kernel
theorem dN_Mod_hold_9 : decode cN_Mod_hold 9 = .ok (.iastore, 1) := by decide +kernel
theorem dN_Mod_hold_10 : decode cN_Mod_hold 10 = .ok (.aload_n 0, 1) := by decide +kernel
theorem dN_Mod_hold_11 : decode cN_Mod_hold 11 = .ok (.dup, 1) := by decide +kernel
theorem dN_Mod_hold_12 : decode cN_Mod_hold 12 = .ok (.getfield 99, 3) := by decide +kernel
theorem dN_Mod_hold_15 : decode cN_Mod_hold 15 = .ok (.iconst 1, 1) := by decide +kernel
theorem dN_Mod_hold_16 : decode cN_Mod_hold 16 = .ok (.iadd, 1) := by decide +kernel
theorem dN_Mod_hold_17 : decode cN_Mod_hold 17 = .ok (.putfield 99, 3) := by decide +kernel
theorem dN_Mod_hold_20 : decode cN_Mod_hold 20 = .ok (.aload_n 0, 1) := by decide +kernel
theorem dN_Mod_hold_21 : decode cN_Mod_hold 21 = .ok (.getfield 61, 3) := by decide +kernel
theorem dN_Mod_hold_24 : decode cN_Mod_hold 24 = .ok (.iload_n 1, 1) := by decide +kernel
theorem dN_Mod_hold_25 : decode cN_Mod_hold 25 = .ok (.iload_n 2, 1) := by decide +kernel
theorem dN_Mod_hold_26 : decode cN_Mod_hold 26 = .ok (.iastore, 1) := by decide +kernel
theorem dN_Mod_hold_27 : decode cN_Mod_hold 27 = .ok (.aload_n 0, 1) := by decide +kernel
theorem dN_Mod_hold_28 : decode cN_Mod_hold 28 = .ok (.getfield 64, 3) := by decide +kernel
theorem dN_Mod_hold_31 : decode cN_Mod_hold 31 = .ok (.iload_n 1, 1) := by decide +kernel
theorem dN_Mod_hold_32 : decode cN_Mod_hold 32 = .ok (.iload_n 3, 1) := by decide +kernel
theorem dN_Mod_hold_33 : decode cN_Mod_hold 33 = .ok (.iastore, 1) := by decide +kernel
theorem dN_Mod_hold_34 : decode cN_Mod_hold 34 = .ok (.return_, 1) := by decide +kernel
theorem dN_Mod_meet_0 : decode cN_Mod_meet 0 = .ok (.iload_n 0, 1) := by decide +kernel
theorem dN_Mod_meet_1 : decode cN_Mod_meet 1 = .ok (.sipush 256, 3) := by decide +kernel
theorem dN_Mod_meet_4 : decode cN_Mod_meet 4 = .ok (.idiv, 1) := by decide +kernel
theorem dN_Mod_meet_5 : decode cN_Mod_meet 5 = .ok (.iload_n 1, 1) := by decide +kernel
theorem dN_Mod_meet_6 : decode cN_Mod_meet 6 = .ok (.sipush 256, 3) := by decide +kernel
theorem dN_Mod_meet_9 : decode cN_Mod_meet 9 = .ok (.irem, 1) := by decide +kernel
theorem dN_Mod_meet_10 : decode cN_Mod_meet 10 = .ok (.if_icmp .gt 20, 3) := by decide +kernel
theorem dN_Mod_meet_13 : decode cN_Mod_meet 13 = .ok (.iload_n 1, 1) := by decide +kernel
theorem dN_Mod_meet_14 : decode cN_Mod_meet 14 = .ok (.sipush 256, 3) := by decide +kernel
theorem dN_Mod_meet_17 : decode cN_Mod_meet 17 = .ok (.idiv, 1) := by decide +kernel
theorem dN_Mod_meet_18 : decode cN_Mod_meet 18 = .ok (.iload_n 0, 1) := by decide +kernel
theorem dN_Mod_meet_19 : decode cN_Mod_meet 19 = .ok (.sipush 256, 3) := by decide +kernel
theorem dN_Mod_meet_22 : decode cN_Mod_meet 22 = .ok (.irem, 1) := by decide +kernel
theorem dN_Mod_meet_23 : decode cN_Mod_meet 23 = .ok (.if_icmp .gt 7, 3) := by decide +kernel
theorem dN_Mod_meet_26 : decode cN_Mod_meet 26 = .ok (.iconst 1, 1) := by decide +kernel
theorem dN_Mod_meet_27 : decode cN_Mod_meet 27 = .ok (.goto 4, 3) := by decide +kernel
theorem dN_Mod_meet_30 : decode cN_Mod_meet 30 = .ok (.iconst 0, 1) := by decide +kernel
theorem dN_Mod_meet_31 : decode cN_Mod_meet 31 = .ok (.ireturn, 1) := by decide +kernel
theorem dN_Mod_areAlike_0 : decode cN_Mod_areAlike 0 = .ok (.aload_n 0, 1) := by decide +kernel
theorem dN_Mod_areAlike_1 : decode cN_Mod_areAlike 1 = .ok (.getfield 67, 3) := by decide +kernel
theorem dN_Mod_areAlike_4 : decode cN_Mod_areAlike 4 = .ok (.iconst 0, 1) := by decide +kernel
theorem dN_Mod_areAlike_5 : decode cN_Mod_areAlike 5 = .ok (.iaload, 1) := by decide +kernel
theorem dN_Mod_areAlike_6 : decode cN_Mod_areAlike 6 = .ok (.ifCond .lt 46, 3) := by decide +kernel
theorem dN_Mod_areAlike_9 : decode cN_Mod_areAlike 9 = .ok (.aload_n 0, 1) := by decide +kernel
theorem dN_Mod_areAlike_10 : decode cN_Mod_areAlike 10 = .ok (.getfield 67, 3) := by decide +kernel
theorem dN_Mod_areAlike_13 : decode cN_Mod_areAlike 13 = .ok (.iload_n 1, 1) := by decide +kernel
theorem dN_Mod_areAlike_14 : decode cN_Mod_areAlike 14 = .ok (.iaload, 1) := by decide +kernel
theorem dN_Mod_areAlike_15 : decode cN_Mod_areAlike 15 = .ok (.aload_n 0, 1) := by decide +kernel
theorem dN_Mod_areAlike_16 : decode cN_Mod_areAlike 16 = .ok (.getfield 67, 3) := by decide +kernel
theorem dN_Mod_areAlike_19 : decode cN_Mod_areAlike 19 = .ok (.iconst 0, 1) := by decide +kernel
theorem dN_Mod_areAlike_20 : decode cN_Mod_areAlike 20 = .ok (.iaload, 1) := by decide +kernel
theorem dN_Mod_areAlike_21 : decode cN_Mod_areAlike 21 = .ok (.if_icmp .ge 7, 3) := by decide +kernel
theorem dN_Mod_areAlike_24 : decode cN_Mod_areAlike 24 = .ok (.iconst 1, 1) := by decide +kernel
theorem dN_Mod_areAlike_25 : decode cN_Mod_areAlike 25 = .ok (.goto 4, 3) := by decide +kernel
theorem dN_Mod_areAlike_28 : decode cN_Mod_areAlike 28 = .ok (.iconst 0, 1) := by decide +kernel
theorem dN_Mod_areAlike_29 : decode cN_Mod_areAlike 29 = .ok (.aload_n 0, 1) := by decide +kernel
theorem dN_Mod_areAlike_30 : decode cN_Mod_areAlike 30 = .ok (.getfield 67, 3) := by decide +kernel
theorem dN_Mod_areAlike_33 : decode cN_Mod_areAlike 33 = .ok (.iload_n 2, 1) := by decide +kernel
theorem dN_Mod_areAlike_34 : decode cN_Mod_areAlike 34 = .ok (.iaload, 1) := by decide +kernel
theorem dN_Mod_areAlike_35 : decode cN_Mod_areAlike 35 = .ok (.aload_n 0, 1) := by decide +kernel
theorem dN_Mod_areAlike_36 : decode cN_Mod_areAlike 36 = .ok (.getfield 67, 3) := by decide +kernel
theorem dN_Mod_areAlike_39 : decode cN_Mod_areAlike 39 = .ok (.iconst 0, 1) := by decide +kernel
theorem dN_Mod_areAlike_40 : decode cN_Mod_areAlike 40 = .ok (.iaload, 1) := by decide +kernel
theorem dN_Mod_areAlike_41 : decode cN_Mod_areAlike 41 = .ok (.if_icmp .ge 7, 3) := by decide +kernel
theorem dN_Mod_areAlike_44 : decode cN_Mod_areAlike 44 = .ok (.iconst 1, 1) := by decide +kernel
theorem dN_Mod_areAlike_45 : decode cN_Mod_areAlike 45 = .ok (.goto 4, 3) := by decide +kernel
theorem dN_Mod_areAlike_48 : decode cN_Mod_areAlike 48 = .ok (.iconst 0, 1) := by decide +kernel
theorem dN_Mod_areAlike_49 : decode cN_Mod_areAlike 49 = .ok (.if_icmp .ne 7, 3) := by decide +kernel
theorem dN_Mod_areAlike_52 : decode cN_Mod_areAlike 52 = .ok (.iconst 1, 1) := by decide +kernel
theorem dN_Mod_areAlike_53 : decode cN_Mod_areAlike 53 = .ok (.goto 4, 3) := by decide +kernel
theorem dN_Mod_areAlike_56 : decode cN_Mod_areAlike 56 = .ok (.iconst 0, 1) := by decide +kernel
theorem dN_Mod_areAlike_57 : decode cN_Mod_areAlike 57 = .ok (.istore_n 3, 1) := by decide +kernel
theorem dN_Mod_areAlike_58 : decode cN_Mod_areAlike 58 = .ok (.iload_n 3, 1) := by decide +kernel
theorem dN_Mod_areAlike_59 : decode cN_Mod_areAlike 59 = .ok (.ifCond .eq 52, 3) := by decide +kernel
theorem dN_Mod_areAlike_62 : decode cN_Mod_areAlike 62 = .ok (.aload_n 0, 1) := by decide +kernel
theorem dN_Mod_areAlike_63 : decode cN_Mod_areAlike 63 = .ok (.getfield 20, 3) := by decide +kernel
theorem dN_Mod_areAlike_66 : decode cN_Mod_areAlike 66 = .ok (.iload_n 1, 1) := by decide +kernel
theorem dN_Mod_areAlike_67 : decode cN_Mod_areAlike 67 = .ok (.iaload, 1) := by decide +kernel
theorem dN_Mod_areAlike_68 : decode cN_Mod_areAlike 68 = .ok (.aload_n 0, 1) := by decide +kernel
theorem dN_Mod_areAlike_69 : decode cN_Mod_areAlike 69 = .ok (.getfield 20, 3) := by decide +kernel
theorem dN_Mod_areAlike_72 : decode cN_Mod_areAlike 72 = .ok (.iload_n 2, 1) := by decide +kernel
theorem dN_Mod_areAlike_73 : decode cN_Mod_areAlike 73 = .ok (.iaload, 1) := by decide +kernel
theorem dN_Mod_areAlike_74 : decode cN_Mod_areAlike 74 = .ok (.if_icmp .ne 37, 3) := by decide +kernel
theorem dN_Mod_areAlike_77 : decode cN_Mod_areAlike 77 = .ok (.aload_n 0, 1) := by decide +kernel
theorem dN_Mod_areAlike_78 : decode cN_Mod_areAlike 78 = .ok (.getfield 61, 3) := by decide +kernel
theorem dN_Mod_areAlike_81 : decode cN_Mod_areAlike 81 = .ok (.iload_n 1, 1) := by decide +kernel
theorem dN_Mod_areAlike_82 : decode cN_Mod_areAlike 82 = .ok (.iaload, 1) := by decide +kernel
theorem dN_Mod_areAlike_83 : decode cN_Mod_areAlike 83 = .ok (.aload_n 0, 1) := by decide +kernel
theorem dN_Mod_areAlike_84 : decode cN_Mod_areAlike 84 = .ok (.getfield 61, 3) := by decide +kernel
theorem dN_Mod_areAlike_87 : decode cN_Mod_areAlike 87 = .ok (.iload_n 2, 1) := by decide +kernel
theorem dN_Mod_areAlike_88 : decode cN_Mod_areAlike 88 = .ok (.iaload, 1) := by decide +kernel
theorem dN_Mod_areAlike_89 : decode cN_Mod_areAlike 89 = .ok (.if_icmp .ne 22, 3) := by decide +kernel
theorem dN_Mod_areAlike_92 : decode cN_Mod_areAlike 92 = .ok (.aload_n 0, 1) := by decide +kernel
theorem dN_Mod_areAlike_93 : decode cN_Mod_areAlike 93 = .ok (.getfield 64, 3) := by decide +kernel
theorem dN_Mod_areAlike_96 : decode cN_Mod_areAlike 96 = .ok (.iload_n 1, 1) := by decide +kernel
theorem dN_Mod_areAlike_97 : decode cN_Mod_areAlike 97 = .ok (.iaload, 1) := by decide +kernel
theorem dN_Mod_areAlike_98 : decode cN_Mod_areAlike 98 = .ok (.aload_n 0, 1) := by decide +kernel
theorem dN_Mod_areAlike_99 : decode cN_Mod_areAlike 99 = .ok (.getfield 64, 3) := by decide +kernel
theorem dN_Mod_areAlike_102 : decode cN_Mod_areAlike 102 = .ok (.iload_n 2, 1) := by decide +kernel
theorem dN_Mod_areAlike_103 : decode cN_Mod_areAlike 103 = .ok (.iaload, 1) := by decide +kernel
theorem dN_Mod_areAlike_104 : decode cN_Mod_areAlike 104 = .ok (.if_icmp .ne 7, 3) := by decide +kernel
theorem dN_Mod_areAlike_107 : decode cN_Mod_areAlike 107 = .ok (.iconst 1, 1) := by decide +kernel
theorem dN_Mod_areAlike_108 : decode cN_Mod_areAlike 108 = .ok (.goto 4, 3) := by decide +kernel
theorem dN_Mod_areAlike_111 : decode cN_Mod_areAlike 111 = .ok (.iconst 0, 1) := by decide +kernel
theorem dN_Mod_areAlike_112 : decode cN_Mod_areAlike 112 = .ok (.ireturn, 1) := by decide +kernel
theorem dN_Mod_over_0 : decode cN_Mod_over 0 = .ok (.aload_n 0, 1) := by decide +kernel
theorem dN_Mod_over_1 : decode cN_Mod_over 1 = .ok (.iconst 0, 1) := by decide +kernel
theorem dN_Mod_over_2 : decode cN_Mod_over 2 = .ok (.putfield 70, 3) := by decide +kernel
theorem dN_Mod_over_5 : decode cN_Mod_over 5 = .ok (.iconst 0, 1) := by decide +kernel
theorem dN_Mod_over_6 : decode cN_Mod_over 6 = .ok (.ireturn, 1) := by decide +kernel
end
section
theorem zi_bne_t {a b : Bool} (h : ¬ a = b) : zi true = zi (a != b) := by cases a <;> cases b <;> first | rfl | exact absurd rfl h
theorem zi_bne_f {a b : Bool} (h : a = b) : zi false = zi (a != b) := by subst h; cases a <;> rfl
theorem zi_beq_t {a b : Bool} (h : a = b) : zi true = zi (a == b) := by subst h; cases a <;> rfl
theorem zi_beq_f {a b : Bool} (h : ¬ a = b) : zi false = zi (a == b) := by cases a <;> cases b <;> first | rfl | exact absurd rfl h
set_option maxHeartbeats 4000000 in
set_option maxRecDepth 100000 in
/-- thrown() -/
theorem kMod_thrown (l : Launch) (D : va_G) (cI cZ cJ : ClassId) (o : Nat) (q : Nat → Nat) (th n b len tr hi ma : Nat)  : vx_Mi l yN_Mod_thrown wN_Mod_thrown ({ frames := 0, cells := 0, slots := 0, locals := 0 }) D clN (tyN cI cZ cJ) [.ref o] [(o, .inr (11, [.int (nI th), .int (nI n), .int (nI b), .ref (q 3), .ref (q 4), .ref (q 5), .ref (q 6), .ref (q 7), .int (nI len), .ref (q 9), .ref (q 10), .ref (q 11), .ref (q 12), .ref (q 13), .ref (q 14), .ref (q 15), .ref (q 16), .ref (q 17), .int (nI tr), .int (nI hi), .ref (q 20), .ref (q 21), .ref (q 22), .ref (q 23), .int (nI ma)]))] (fun r w => r = nI th ∧ w = [(o, .inr (11, [.int (nI th), .int (nI n), .int (nI b), .ref (q 3), .ref (q 4), .ref (q 5), .ref (q 6), .ref (q 7), .int (nI len), .ref (q 9), .ref (q 10), .ref (q 11), .ref (q 12), .ref (q 13), .ref (q 14), .ref (q 15), .ref (q 16), .ref (q 17), .int (nI tr), .int (nI hi), .ref (q 20), .ref (q 21), .ref (q 22), .ref (q 23), .int (nI ma)]))]) := by
  refine vx_startI (cc := cN_Mod_thrown) (maxL := 1) (ret := (some .int)) (by decide) rfl (Nat.le_of_ble_eq_true rfl) ?_
  intro p e s m below meth c A ls C hK hP hD hS hA hl
  obtain ⟨hx, hb, hr, hml, hown, hts, hlocks, hnm⟩ := id C
  have hown : s.vm.findClass "StepMachinesModel" = some m.cls := hown
  have ht : ∀ w ∈ TB, w.before _ s = true := fun w h => hts w (List.mem_cons_of_mem _ h)
  have hl : lv_has ls 1 [(0, .ref o)] := hl
  refine lv_aload_n hx hb dN_Mod_thrown_0 rfl (lv_at hl 0 rfl) ?_
  refine va_get (D := D) (ci := 11) (v := .int (nI th)) (C := RN_Mod) (T := FN_Mod) (N := 25) hx hb ht fN_Mod hown hK hP 0 rfl rfl 0 (by decide) (ht _ mw_906) (fun _ h9 => h9) rfl dN_Mod_thrown_1 ?_
  exact vx_iret C hK hP hD hS dN_Mod_thrown_4 (Nat.le_of_ble_eq_true rfl) (Nat.le_of_ble_eq_true rfl) (⟨rfl, rfl⟩)
def stepB (n : Nat) (x : Int32) : Bool := !decide (x < 0) && !decide (nI n ≤ x)
set_option maxHeartbeats 4000000 in
set_option maxRecDepth 100000 in
/-- isStep(x) -/
theorem kMod_isStep (l : Launch) (D : va_G) (cI cZ cJ : ClassId) (o : Nat) (q : Nat → Nat) (th n b len tr hi ma : Nat) (x : Int32)  : vx_Mi l yN_Mod_isStep wN_Mod_isStep ({ frames := 0, cells := 0, slots := 0, locals := 0 }) D clN (tyN cI cZ cJ) [.ref o, .int x] [(o, .inr (11, [.int (nI th), .int (nI n), .int (nI b), .ref (q 3), .ref (q 4), .ref (q 5), .ref (q 6), .ref (q 7), .int (nI len), .ref (q 9), .ref (q 10), .ref (q 11), .ref (q 12), .ref (q 13), .ref (q 14), .ref (q 15), .ref (q 16), .ref (q 17), .int (nI tr), .int (nI hi), .ref (q 20), .ref (q 21), .ref (q 22), .ref (q 23), .int (nI ma)]))] (fun r w => r = zi (stepB n x) ∧ w = [(o, .inr (11, [.int (nI th), .int (nI n), .int (nI b), .ref (q 3), .ref (q 4), .ref (q 5), .ref (q 6), .ref (q 7), .int (nI len), .ref (q 9), .ref (q 10), .ref (q 11), .ref (q 12), .ref (q 13), .ref (q 14), .ref (q 15), .ref (q 16), .ref (q 17), .int (nI tr), .int (nI hi), .ref (q 20), .ref (q 21), .ref (q 22), .ref (q 23), .int (nI ma)]))]) := by
  refine vx_startI (cc := cN_Mod_isStep) (maxL := 2) (ret := (some .boolean)) (by decide) rfl (Nat.le_of_ble_eq_true rfl) ?_
  intro p e s m below meth c A ls C hK hP hD hS hA hl
  obtain ⟨hx, hb, hr, hml, hown, hts, hlocks, hnm⟩ := id C
  have hown : s.vm.findClass "StepMachinesModel" = some m.cls := hown
  have ht : ∀ w ∈ TB, w.before _ s = true := fun w h => hts w (List.mem_cons_of_mem _ h)
  have hl : lv_has ls 2 [(0, .ref o), (1, .int x)] := hl
  refine lv_iload_n hx hb dN_Mod_isStep_0 rfl (lv_at hl 1 rfl) ?_
  refine lv_if_lt (tgt := 16) hx hb dN_Mod_isStep_1 (by decide) (fun c_1_0 => ?_) (fun c_1_0 => ?_)
  · skip
    refine lv_iconst (v := (nI 0)) hx hb dN_Mod_isStep_16 (by decide) ?_
    refine xn_top (y := zi false) rfl ?_
    exact vx_zret C hK hP hD hS dN_Mod_isStep_17 (Nat.le_of_ble_eq_true rfl) (Nat.le_of_ble_eq_true rfl) (zi_nar2 _) (⟨by simp [stepB, c_1_0], rfl⟩)
  · skip
    refine lv_iload_n hx hb dN_Mod_isStep_4 rfl (lv_at hl 1 rfl) ?_
    refine lv_aload_n hx hb dN_Mod_isStep_5 rfl (lv_at hl 0 rfl) ?_
    refine va_get (D := D) (ci := 11) (v := .int (nI n)) (C := RN_Mod) (T := FN_Mod) (N := 25) hx hb ht fN_Mod hown hK hP 0 rfl rfl 1 (by decide) (ht _ mw_907) (fun _ h9 => h9) rfl dN_Mod_isStep_6 ?_
    refine lv_icmp_ge (tgt := 16) hx hb dN_Mod_isStep_9 (by decide) (fun c_9_1 => ?_) (fun c_9_1 => ?_)
    · skip
      refine lv_iconst (v := (nI 0)) hx hb dN_Mod_isStep_16 (by decide) ?_
      refine xn_top (y := zi false) rfl ?_
      exact vx_zret C hK hP hD hS dN_Mod_isStep_17 (Nat.le_of_ble_eq_true rfl) (Nat.le_of_ble_eq_true rfl) (zi_nar2 _) (⟨by simp [stepB, c_1_0, c_9_1], rfl⟩)
    · skip
      refine lv_iconst (v := (nI 1)) hx hb dN_Mod_isStep_12 (by decide) ?_
      refine lv_goto (tgt := 17) hx hb dN_Mod_isStep_13 (by decide) ?_
      refine xn_top (y := zi true) rfl ?_
      exact vx_zret C hK hP hD hS dN_Mod_isStep_17 (Nat.le_of_ble_eq_true rfl) (Nat.le_of_ble_eq_true rfl) (zi_nar2 _) (⟨by simp [stepB, c_1_0, c_9_1], rfl⟩)
def isW (c : Nat) : Bool := decide (48 ≤ c ∧ c ≤ 57 ∨ 65 ≤ c ∧ c ≤ 90 ∨ 97 ≤ c ∧ c ≤ 122 ∨ c = 95)
/-- the byte ahead of place q, 0 for none -/
def byB (len : Nat) (u : Nat → Nat) (q : Nat) : Nat := if 1 ≤ q ∧ q ≤ len then u (q - 1) else 0
theorem isW_t {c : Nat} (h : 48 ≤ c ∧ c ≤ 57 ∨ 65 ≤ c ∧ c ≤ 90 ∨ 97 ≤ c ∧ c ≤ 122 ∨ c = 95) : zi true = zi (isW c) := by rw [isW, decide_eq_true h]
theorem isW_f {c : Nat} (h : ¬ (48 ≤ c ∧ c ≤ 57 ∨ 65 ≤ c ∧ c ≤ 90 ∨ 97 ≤ c ∧ c ≤ 122 ∨ c = 95)) : zi false = zi (isW c) := by rw [isW, decide_eq_false h]
theorem m1_lt {q : Nat} (hq : q < 2 ^ 30) : nI q - nI 1 < 0 ↔ q = 0 := by
  constructor
  · intro h
    rcases Nat.eq_zero_or_pos q with h0 | h0
    · exact h0
    · rw [pk_sub h0] at h; exact absurd h (nI_pos (by omega))
  · intro h; subst h; exact pk_sneg (by omega) (by omega)
theorem byB_lt {len : Nat} {u : Nat → Nat} {q : Nat} (hu : ∀ i, u i < 256) : byB len u q < 256 := by
  rw [byB]; split
  · exact hu _
  · omega
set_option maxHeartbeats 4000000 in
set_option maxRecDepth 100000 in
/-- wordAt(t - 1) -/
theorem kMod_wordAt (l : Launch) (D : va_G) (cI cZ cJ : ClassId) (o : Nat) (q : Nat → Nat) (th n b len tr hi ma : Nat) (u : Nat → Nat) (x : Int32) (t : Nat) (ex : x = nI t - nI 1) (hle : len ≤ 200) (htl : t ≤ len + 1) (hu : ∀ i, u i < 256) : vx_Mi l yN_Mod_wordAt wN_Mod_wordAt ({ frames := 0, cells := 0, slots := 0, locals := 0 }) D clN (tyN cI cZ cJ) [.ref o, .int x] [(o, .inr (11, [.int (nI th), .int (nI n), .int (nI b), .ref (q 3), .ref (q 4), .ref (q 5), .ref (q 6), .ref (q 7), .int (nI len), .ref (q 9), .ref (q 10), .ref (q 11), .ref (q 12), .ref (q 13), .ref (q 14), .ref (q 15), .ref (q 16), .ref (q 17), .int (nI tr), .int (nI hi), .ref (q 20), .ref (q 21), .ref (q 22), .ref (q 23), .int (nI ma)])), (q 7, .inl (cI, 200, .inl (ni u)))] (fun r w => r = zi (isW (byB len u t)) ∧ w = [(o, .inr (11, [.int (nI th), .int (nI n), .int (nI b), .ref (q 3), .ref (q 4), .ref (q 5), .ref (q 6), .ref (q 7), .int (nI len), .ref (q 9), .ref (q 10), .ref (q 11), .ref (q 12), .ref (q 13), .ref (q 14), .ref (q 15), .ref (q 16), .ref (q 17), .int (nI tr), .int (nI hi), .ref (q 20), .ref (q 21), .ref (q 22), .ref (q 23), .int (nI ma)])), (q 7, .inl (cI, 200, .inl (ni u)))]) := by
  refine vx_startI (cc := cN_Mod_wordAt) (maxL := 3) (ret := (some .boolean)) (by decide) rfl (Nat.le_of_ble_eq_true rfl) ?_
  intro p e s m below meth c A ls C hK hP hD hS hA hl
  obtain ⟨hx, hb, hr, hml, hown, hts, hlocks, hnm⟩ := id C
  have hown : s.vm.findClass "StepMachinesModel" = some m.cls := hown
  have ht : ∀ w ∈ TB, w.before _ s = true := fun w h => hts w (List.mem_cons_of_mem _ h)
  have hl : lv_has ls 3 [(0, .ref o), (1, .int x)] := hl
  refine vx_join (α := Nat) (fun j1 => j1 = byB len u t) (fun j1 => F0 m 22 ls [.int (nI j1)]) (fun j1 hj1 => ?_) (fun Jj1 => ?_)
  · skip
    have hbj1 : j1 < 256 := by rw [hj1]; exact byB_lt hu
    refine lv_istore_n (lv' := [(2, .int (nI j1)), (0, .ref o), (1, .int x)]) hx hb dN_Mod_wordAt_22 rfl hl (by decide) rfl (fun ls hl => ?_)
    refine lv_iload_n hx hb dN_Mod_wordAt_23 rfl (lv_at hl 0 rfl) ?_
    refine lv_bipush (v := (nI 48)) hx hb dN_Mod_wordAt_24 (by decide) ?_
    refine xn_lt (tgt := 35) hx hb dN_Mod_wordAt_26 (by decide) (by omega) (by omega) (fun c_26_1 => ?_) (fun c_26_1 => ?_)
    · skip
      refine lv_iload_n hx hb dN_Mod_wordAt_35 rfl (lv_at hl 0 rfl) ?_
      refine lv_bipush (v := (nI 65)) hx hb dN_Mod_wordAt_36 (by decide) ?_
      refine xn_lt (tgt := 47) hx hb dN_Mod_wordAt_38 (by decide) (by omega) (by omega) (fun c_38_2 => ?_) (fun c_38_2 => ?_)
      · skip
        refine lv_iload_n hx hb dN_Mod_wordAt_47 rfl (lv_at hl 0 rfl) ?_
        refine lv_bipush (v := (nI 97)) hx hb dN_Mod_wordAt_48 (by decide) ?_
        refine xn_lt (tgt := 59) hx hb dN_Mod_wordAt_50 (by decide) (by omega) (by omega) (fun c_50_3 => ?_) (fun c_50_3 => ?_)
        · skip
          refine lv_iload_n hx hb dN_Mod_wordAt_59 rfl (lv_at hl 0 rfl) ?_
          refine lv_bipush (v := (nI 95)) hx hb dN_Mod_wordAt_60 (by decide) ?_
          refine xn_ne (tgt := 69) hx hb dN_Mod_wordAt_62 (by decide) (by omega) (by omega) (fun c_62_4 => ?_) (fun c_62_4 => ?_)
          · skip
            refine lv_iconst (v := (nI 0)) hx hb dN_Mod_wordAt_69 (by decide) ?_
            refine xn_top (y := zi false) rfl ?_
            exact vx_zret C hK hP hD hS dN_Mod_wordAt_70 (Nat.le_of_ble_eq_true rfl) (Nat.le_of_ble_eq_true rfl) (zi_nar2 _) (⟨by rw [← hj1]; exact isW_f (by omega), rfl⟩)
          · skip
            refine lv_iconst (v := (nI 1)) hx hb dN_Mod_wordAt_65 (by decide) ?_
            refine lv_goto (tgt := 70) hx hb dN_Mod_wordAt_66 (by decide) ?_
            refine xn_top (y := zi true) rfl ?_
            exact vx_zret C hK hP hD hS dN_Mod_wordAt_70 (Nat.le_of_ble_eq_true rfl) (Nat.le_of_ble_eq_true rfl) (zi_nar2 _) (⟨by rw [← hj1]; exact isW_t (by omega), rfl⟩)
        · skip
          refine lv_iload_n hx hb dN_Mod_wordAt_53 rfl (lv_at hl 0 rfl) ?_
          refine lv_bipush (v := (nI 122)) hx hb dN_Mod_wordAt_54 (by decide) ?_
          refine xn_le (tgt := 65) hx hb dN_Mod_wordAt_56 (by decide) (by omega) (by omega) (fun c_56_5 => ?_) (fun c_56_5 => ?_)
          · skip
            refine lv_iconst (v := (nI 1)) hx hb dN_Mod_wordAt_65 (by decide) ?_
            refine lv_goto (tgt := 70) hx hb dN_Mod_wordAt_66 (by decide) ?_
            refine xn_top (y := zi true) rfl ?_
            exact vx_zret C hK hP hD hS dN_Mod_wordAt_70 (Nat.le_of_ble_eq_true rfl) (Nat.le_of_ble_eq_true rfl) (zi_nar2 _) (⟨by rw [← hj1]; exact isW_t (by omega), rfl⟩)
          · skip
            refine lv_iload_n hx hb dN_Mod_wordAt_59 rfl (lv_at hl 0 rfl) ?_
            refine lv_bipush (v := (nI 95)) hx hb dN_Mod_wordAt_60 (by decide) ?_
            refine xn_ne (tgt := 69) hx hb dN_Mod_wordAt_62 (by decide) (by omega) (by omega) (fun c_62_6 => ?_) (fun c_62_6 => ?_)
            · skip
              refine lv_iconst (v := (nI 0)) hx hb dN_Mod_wordAt_69 (by decide) ?_
              refine xn_top (y := zi false) rfl ?_
              exact vx_zret C hK hP hD hS dN_Mod_wordAt_70 (Nat.le_of_ble_eq_true rfl) (Nat.le_of_ble_eq_true rfl) (zi_nar2 _) (⟨by rw [← hj1]; exact isW_f (by omega), rfl⟩)
            · skip
              refine lv_iconst (v := (nI 1)) hx hb dN_Mod_wordAt_65 (by decide) ?_
              refine lv_goto (tgt := 70) hx hb dN_Mod_wordAt_66 (by decide) ?_
              refine xn_top (y := zi true) rfl ?_
              exact vx_zret C hK hP hD hS dN_Mod_wordAt_70 (Nat.le_of_ble_eq_true rfl) (Nat.le_of_ble_eq_true rfl) (zi_nar2 _) (⟨by rw [← hj1]; exact isW_t (by omega), rfl⟩)
      · skip
        refine lv_iload_n hx hb dN_Mod_wordAt_41 rfl (lv_at hl 0 rfl) ?_
        refine lv_bipush (v := (nI 90)) hx hb dN_Mod_wordAt_42 (by decide) ?_
        refine xn_le (tgt := 65) hx hb dN_Mod_wordAt_44 (by decide) (by omega) (by omega) (fun c_44_7 => ?_) (fun c_44_7 => ?_)
        · skip
          refine lv_iconst (v := (nI 1)) hx hb dN_Mod_wordAt_65 (by decide) ?_
          refine lv_goto (tgt := 70) hx hb dN_Mod_wordAt_66 (by decide) ?_
          refine xn_top (y := zi true) rfl ?_
          exact vx_zret C hK hP hD hS dN_Mod_wordAt_70 (Nat.le_of_ble_eq_true rfl) (Nat.le_of_ble_eq_true rfl) (zi_nar2 _) (⟨by rw [← hj1]; exact isW_t (by omega), rfl⟩)
        · skip
          refine lv_iload_n hx hb dN_Mod_wordAt_47 rfl (lv_at hl 0 rfl) ?_
          refine lv_bipush (v := (nI 97)) hx hb dN_Mod_wordAt_48 (by decide) ?_
          refine xn_lt (tgt := 59) hx hb dN_Mod_wordAt_50 (by decide) (by omega) (by omega) (fun c_50_8 => ?_) (fun c_50_8 => ?_)
          · skip
            refine lv_iload_n hx hb dN_Mod_wordAt_59 rfl (lv_at hl 0 rfl) ?_
            refine lv_bipush (v := (nI 95)) hx hb dN_Mod_wordAt_60 (by decide) ?_
            refine xn_ne (tgt := 69) hx hb dN_Mod_wordAt_62 (by decide) (by omega) (by omega) (fun c_62_9 => ?_) (fun c_62_9 => ?_)
            · skip
              refine lv_iconst (v := (nI 0)) hx hb dN_Mod_wordAt_69 (by decide) ?_
              refine xn_top (y := zi false) rfl ?_
              exact vx_zret C hK hP hD hS dN_Mod_wordAt_70 (Nat.le_of_ble_eq_true rfl) (Nat.le_of_ble_eq_true rfl) (zi_nar2 _) (⟨by rw [← hj1]; exact isW_f (by omega), rfl⟩)
            · skip
              refine lv_iconst (v := (nI 1)) hx hb dN_Mod_wordAt_65 (by decide) ?_
              refine lv_goto (tgt := 70) hx hb dN_Mod_wordAt_66 (by decide) ?_
              refine xn_top (y := zi true) rfl ?_
              exact vx_zret C hK hP hD hS dN_Mod_wordAt_70 (Nat.le_of_ble_eq_true rfl) (Nat.le_of_ble_eq_true rfl) (zi_nar2 _) (⟨by rw [← hj1]; exact isW_t (by omega), rfl⟩)
          · skip
            refine lv_iload_n hx hb dN_Mod_wordAt_53 rfl (lv_at hl 0 rfl) ?_
            refine lv_bipush (v := (nI 122)) hx hb dN_Mod_wordAt_54 (by decide) ?_
            refine xn_le (tgt := 65) hx hb dN_Mod_wordAt_56 (by decide) (by omega) (by omega) (fun c_56_10 => ?_) (fun c_56_10 => ?_)
            · skip
              refine lv_iconst (v := (nI 1)) hx hb dN_Mod_wordAt_65 (by decide) ?_
              refine lv_goto (tgt := 70) hx hb dN_Mod_wordAt_66 (by decide) ?_
              refine xn_top (y := zi true) rfl ?_
              exact vx_zret C hK hP hD hS dN_Mod_wordAt_70 (Nat.le_of_ble_eq_true rfl) (Nat.le_of_ble_eq_true rfl) (zi_nar2 _) (⟨by rw [← hj1]; exact isW_t (by omega), rfl⟩)
            · skip
              refine lv_iload_n hx hb dN_Mod_wordAt_59 rfl (lv_at hl 0 rfl) ?_
              refine lv_bipush (v := (nI 95)) hx hb dN_Mod_wordAt_60 (by decide) ?_
              refine xn_ne (tgt := 69) hx hb dN_Mod_wordAt_62 (by decide) (by omega) (by omega) (fun c_62_11 => ?_) (fun c_62_11 => ?_)
              · skip
                refine lv_iconst (v := (nI 0)) hx hb dN_Mod_wordAt_69 (by decide) ?_
                refine xn_top (y := zi false) rfl ?_
                exact vx_zret C hK hP hD hS dN_Mod_wordAt_70 (Nat.le_of_ble_eq_true rfl) (Nat.le_of_ble_eq_true rfl) (zi_nar2 _) (⟨by rw [← hj1]; exact isW_f (by omega), rfl⟩)
              · skip
                refine lv_iconst (v := (nI 1)) hx hb dN_Mod_wordAt_65 (by decide) ?_
                refine lv_goto (tgt := 70) hx hb dN_Mod_wordAt_66 (by decide) ?_
                refine xn_top (y := zi true) rfl ?_
                exact vx_zret C hK hP hD hS dN_Mod_wordAt_70 (Nat.le_of_ble_eq_true rfl) (Nat.le_of_ble_eq_true rfl) (zi_nar2 _) (⟨by rw [← hj1]; exact isW_t (by omega), rfl⟩)
    · skip
      refine lv_iload_n hx hb dN_Mod_wordAt_29 rfl (lv_at hl 0 rfl) ?_
      refine lv_bipush (v := (nI 57)) hx hb dN_Mod_wordAt_30 (by decide) ?_
      refine xn_le (tgt := 65) hx hb dN_Mod_wordAt_32 (by decide) (by omega) (by omega) (fun c_32_12 => ?_) (fun c_32_12 => ?_)
      · skip
        refine lv_iconst (v := (nI 1)) hx hb dN_Mod_wordAt_65 (by decide) ?_
        refine lv_goto (tgt := 70) hx hb dN_Mod_wordAt_66 (by decide) ?_
        refine xn_top (y := zi true) rfl ?_
        exact vx_zret C hK hP hD hS dN_Mod_wordAt_70 (Nat.le_of_ble_eq_true rfl) (Nat.le_of_ble_eq_true rfl) (zi_nar2 _) (⟨by rw [← hj1]; exact isW_t (by omega), rfl⟩)
      · skip
        refine lv_iload_n hx hb dN_Mod_wordAt_35 rfl (lv_at hl 0 rfl) ?_
        refine lv_bipush (v := (nI 65)) hx hb dN_Mod_wordAt_36 (by decide) ?_
        refine xn_lt (tgt := 47) hx hb dN_Mod_wordAt_38 (by decide) (by omega) (by omega) (fun c_38_13 => ?_) (fun c_38_13 => ?_)
        · skip
          refine lv_iload_n hx hb dN_Mod_wordAt_47 rfl (lv_at hl 0 rfl) ?_
          refine lv_bipush (v := (nI 97)) hx hb dN_Mod_wordAt_48 (by decide) ?_
          refine xn_lt (tgt := 59) hx hb dN_Mod_wordAt_50 (by decide) (by omega) (by omega) (fun c_50_14 => ?_) (fun c_50_14 => ?_)
          · skip
            refine lv_iload_n hx hb dN_Mod_wordAt_59 rfl (lv_at hl 0 rfl) ?_
            refine lv_bipush (v := (nI 95)) hx hb dN_Mod_wordAt_60 (by decide) ?_
            refine xn_ne (tgt := 69) hx hb dN_Mod_wordAt_62 (by decide) (by omega) (by omega) (fun c_62_15 => ?_) (fun c_62_15 => ?_)
            · skip
              refine lv_iconst (v := (nI 0)) hx hb dN_Mod_wordAt_69 (by decide) ?_
              refine xn_top (y := zi false) rfl ?_
              exact vx_zret C hK hP hD hS dN_Mod_wordAt_70 (Nat.le_of_ble_eq_true rfl) (Nat.le_of_ble_eq_true rfl) (zi_nar2 _) (⟨by rw [← hj1]; exact isW_f (by omega), rfl⟩)
            · skip
              refine lv_iconst (v := (nI 1)) hx hb dN_Mod_wordAt_65 (by decide) ?_
              refine lv_goto (tgt := 70) hx hb dN_Mod_wordAt_66 (by decide) ?_
              refine xn_top (y := zi true) rfl ?_
              exact vx_zret C hK hP hD hS dN_Mod_wordAt_70 (Nat.le_of_ble_eq_true rfl) (Nat.le_of_ble_eq_true rfl) (zi_nar2 _) (⟨by rw [← hj1]; exact isW_t (by omega), rfl⟩)
          · skip
            refine lv_iload_n hx hb dN_Mod_wordAt_53 rfl (lv_at hl 0 rfl) ?_
            refine lv_bipush (v := (nI 122)) hx hb dN_Mod_wordAt_54 (by decide) ?_
            refine xn_le (tgt := 65) hx hb dN_Mod_wordAt_56 (by decide) (by omega) (by omega) (fun c_56_16 => ?_) (fun c_56_16 => ?_)
            · skip
              refine lv_iconst (v := (nI 1)) hx hb dN_Mod_wordAt_65 (by decide) ?_
              refine lv_goto (tgt := 70) hx hb dN_Mod_wordAt_66 (by decide) ?_
              refine xn_top (y := zi true) rfl ?_
              exact vx_zret C hK hP hD hS dN_Mod_wordAt_70 (Nat.le_of_ble_eq_true rfl) (Nat.le_of_ble_eq_true rfl) (zi_nar2 _) (⟨by rw [← hj1]; exact isW_t (by omega), rfl⟩)
            · skip
              refine lv_iload_n hx hb dN_Mod_wordAt_59 rfl (lv_at hl 0 rfl) ?_
              refine lv_bipush (v := (nI 95)) hx hb dN_Mod_wordAt_60 (by decide) ?_
              refine xn_ne (tgt := 69) hx hb dN_Mod_wordAt_62 (by decide) (by omega) (by omega) (fun c_62_17 => ?_) (fun c_62_17 => ?_)
              · skip
                refine lv_iconst (v := (nI 0)) hx hb dN_Mod_wordAt_69 (by decide) ?_
                refine xn_top (y := zi false) rfl ?_
                exact vx_zret C hK hP hD hS dN_Mod_wordAt_70 (Nat.le_of_ble_eq_true rfl) (Nat.le_of_ble_eq_true rfl) (zi_nar2 _) (⟨by rw [← hj1]; exact isW_f (by omega), rfl⟩)
              · skip
                refine lv_iconst (v := (nI 1)) hx hb dN_Mod_wordAt_65 (by decide) ?_
                refine lv_goto (tgt := 70) hx hb dN_Mod_wordAt_66 (by decide) ?_
                refine xn_top (y := zi true) rfl ?_
                exact vx_zret C hK hP hD hS dN_Mod_wordAt_70 (Nat.le_of_ble_eq_true rfl) (Nat.le_of_ble_eq_true rfl) (zi_nar2 _) (⟨by rw [← hj1]; exact isW_t (by omega), rfl⟩)
        · skip
          refine lv_iload_n hx hb dN_Mod_wordAt_41 rfl (lv_at hl 0 rfl) ?_
          refine lv_bipush (v := (nI 90)) hx hb dN_Mod_wordAt_42 (by decide) ?_
          refine xn_le (tgt := 65) hx hb dN_Mod_wordAt_44 (by decide) (by omega) (by omega) (fun c_44_18 => ?_) (fun c_44_18 => ?_)
          · skip
            refine lv_iconst (v := (nI 1)) hx hb dN_Mod_wordAt_65 (by decide) ?_
            refine lv_goto (tgt := 70) hx hb dN_Mod_wordAt_66 (by decide) ?_
            refine xn_top (y := zi true) rfl ?_
            exact vx_zret C hK hP hD hS dN_Mod_wordAt_70 (Nat.le_of_ble_eq_true rfl) (Nat.le_of_ble_eq_true rfl) (zi_nar2 _) (⟨by rw [← hj1]; exact isW_t (by omega), rfl⟩)
          · skip
            refine lv_iload_n hx hb dN_Mod_wordAt_47 rfl (lv_at hl 0 rfl) ?_
            refine lv_bipush (v := (nI 97)) hx hb dN_Mod_wordAt_48 (by decide) ?_
            refine xn_lt (tgt := 59) hx hb dN_Mod_wordAt_50 (by decide) (by omega) (by omega) (fun c_50_19 => ?_) (fun c_50_19 => ?_)
            · skip
              refine lv_iload_n hx hb dN_Mod_wordAt_59 rfl (lv_at hl 0 rfl) ?_
              refine lv_bipush (v := (nI 95)) hx hb dN_Mod_wordAt_60 (by decide) ?_
              refine xn_ne (tgt := 69) hx hb dN_Mod_wordAt_62 (by decide) (by omega) (by omega) (fun c_62_20 => ?_) (fun c_62_20 => ?_)
              · skip
                refine lv_iconst (v := (nI 0)) hx hb dN_Mod_wordAt_69 (by decide) ?_
                refine xn_top (y := zi false) rfl ?_
                exact vx_zret C hK hP hD hS dN_Mod_wordAt_70 (Nat.le_of_ble_eq_true rfl) (Nat.le_of_ble_eq_true rfl) (zi_nar2 _) (⟨by rw [← hj1]; exact isW_f (by omega), rfl⟩)
              · skip
                refine lv_iconst (v := (nI 1)) hx hb dN_Mod_wordAt_65 (by decide) ?_
                refine lv_goto (tgt := 70) hx hb dN_Mod_wordAt_66 (by decide) ?_
                refine xn_top (y := zi true) rfl ?_
                exact vx_zret C hK hP hD hS dN_Mod_wordAt_70 (Nat.le_of_ble_eq_true rfl) (Nat.le_of_ble_eq_true rfl) (zi_nar2 _) (⟨by rw [← hj1]; exact isW_t (by omega), rfl⟩)
            · skip
              refine lv_iload_n hx hb dN_Mod_wordAt_53 rfl (lv_at hl 0 rfl) ?_
              refine lv_bipush (v := (nI 122)) hx hb dN_Mod_wordAt_54 (by decide) ?_
              refine xn_le (tgt := 65) hx hb dN_Mod_wordAt_56 (by decide) (by omega) (by omega) (fun c_56_21 => ?_) (fun c_56_21 => ?_)
              · skip
                refine lv_iconst (v := (nI 1)) hx hb dN_Mod_wordAt_65 (by decide) ?_
                refine lv_goto (tgt := 70) hx hb dN_Mod_wordAt_66 (by decide) ?_
                refine xn_top (y := zi true) rfl ?_
                exact vx_zret C hK hP hD hS dN_Mod_wordAt_70 (Nat.le_of_ble_eq_true rfl) (Nat.le_of_ble_eq_true rfl) (zi_nar2 _) (⟨by rw [← hj1]; exact isW_t (by omega), rfl⟩)
              · skip
                refine lv_iload_n hx hb dN_Mod_wordAt_59 rfl (lv_at hl 0 rfl) ?_
                refine lv_bipush (v := (nI 95)) hx hb dN_Mod_wordAt_60 (by decide) ?_
                refine xn_ne (tgt := 69) hx hb dN_Mod_wordAt_62 (by decide) (by omega) (by omega) (fun c_62_22 => ?_) (fun c_62_22 => ?_)
                · skip
                  refine lv_iconst (v := (nI 0)) hx hb dN_Mod_wordAt_69 (by decide) ?_
                  refine xn_top (y := zi false) rfl ?_
                  exact vx_zret C hK hP hD hS dN_Mod_wordAt_70 (Nat.le_of_ble_eq_true rfl) (Nat.le_of_ble_eq_true rfl) (zi_nar2 _) (⟨by rw [← hj1]; exact isW_f (by omega), rfl⟩)
                · skip
                  refine lv_iconst (v := (nI 1)) hx hb dN_Mod_wordAt_65 (by decide) ?_
                  refine lv_goto (tgt := 70) hx hb dN_Mod_wordAt_66 (by decide) ?_
                  refine xn_top (y := zi true) rfl ?_
                  exact vx_zret C hK hP hD hS dN_Mod_wordAt_70 (Nat.le_of_ble_eq_true rfl) (Nat.le_of_ble_eq_true rfl) (zi_nar2 _) (⟨by rw [← hj1]; exact isW_t (by omega), rfl⟩)
  · skip
    refine lv_iload_n hx hb dN_Mod_wordAt_0 rfl (lv_at hl 1 rfl) ?_
    refine lv_if_lt (tgt := 21) hx hb dN_Mod_wordAt_1 (by decide) (fun c_1_23 => ?_) (fun c_1_23 => ?_)
    · skip
      rw [ex, m1_lt (by omega)] at c_1_23
      refine lv_iconst (v := (nI 0)) hx hb dN_Mod_wordAt_21 (by decide) ?_
      exact Jj1 (0) (by rw [byB, if_neg (by omega)])
    · skip
      rw [ex, m1_lt (by omega)] at c_1_23
      refine lv_iload_n hx hb dN_Mod_wordAt_4 rfl (lv_at hl 1 rfl) ?_
      refine lv_aload_n hx hb dN_Mod_wordAt_5 rfl (lv_at hl 0 rfl) ?_
      refine va_get (D := D) (ci := 11) (v := .int (nI len)) (C := RN_Mod) (T := FN_Mod) (N := 25) hx hb ht fN_Mod hown hK hP 0 rfl rfl 8 (by decide) (ht _ mw_914) (fun _ h9 => h9) rfl dN_Mod_wordAt_6 ?_
      refine lv_icmp_ge (tgt := 21) hx hb dN_Mod_wordAt_9 (by decide) (fun c_9_24 => ?_) (fun c_9_24 => ?_)
      · skip
        rw [ex, pk_sub (by omega), nI_leI (by omega) (by omega)] at c_9_24
        refine lv_iconst (v := (nI 0)) hx hb dN_Mod_wordAt_21 (by decide) ?_
        exact Jj1 (0) (by rw [byB, if_neg (by omega)])
      · skip
        rw [ex, pk_sub (by omega), nI_leI (by omega) (by omega)] at c_9_24
        refine lv_aload_n hx hb dN_Mod_wordAt_12 rfl (lv_at hl 0 rfl) ?_
        refine va_get (D := D) (ci := 11) (v := .ref (q 7)) (C := RN_Mod) (T := FN_Mod) (N := 25) hx hb ht fN_Mod hown hK hP 0 rfl rfl 7 (by decide) (ht _ mw_913) (fun _ h9 => h9) rfl dN_Mod_wordAt_13 ?_
        refine lv_iload_n hx hb dN_Mod_wordAt_16 rfl (lv_at hl 1 rfl) ?_
        refine xn_top (y := (nI (t - 1))) (by rw [ex, pk_sub (by omega)]) ?_
        refine xn_ald hx hb hK hP 1 0 rfl rfl dN_Mod_wordAt_17 (by omega) (by omega) ?_
        refine lv_goto (tgt := 22) hx hb dN_Mod_wordAt_18 (by decide) ?_
        exact Jj1 (u (t - 1)) (by rw [byB, if_pos (by omega)])
def soB (len : Nat) (u : Nat → Nat) (v p : Nat) : Bool := match v with
  | 0 => decide (p = 0)
  | 1 => decide (p = len)
  | 2 => decide (p = 0) || decide (u (p - 1) = 10)
  | 3 => decide (p = len) || decide (u p = 10)
  | 4 => isW (byB len u p) != isW (byB len u (p + 1))
  | _ => isW (byB len u p) == isW (byB len u (p + 1))
theorem soB_5 {len : Nat} {u : Nat → Nat} {v p : Nat} (h0 : ¬ v = 0) (h1 : ¬ v = 1) (h2 : ¬ v = 2) (h3 : ¬ v = 3) (h4 : ¬ v = 4) : soB len u v p = (isW (byB len u p) == isW (byB len u (p + 1))) := by
  match v, h0, h1, h2, h3, h4 with
  | v + 5, _, _, _, _, _ => rfl
set_option maxHeartbeats 4000000 in
set_option maxRecDepth 100000 in
/-- isSo(v, pl) -/
theorem kMod_isSo (l : Launch) (D : va_G) (cI cZ cJ : ClassId) (o : Nat) (q : Nat → Nat) (th n b len tr hi ma : Nat) (u : Nat → Nat) (v pl : Nat) (hle : len ≤ 200) (hv : v < 6) (hpl : pl ≤ len) (hu : ∀ i, u i < 256) : vx_Mi l yN_Mod_isSo wN_Mod_isSo ({ frames := 1, cells := 0, slots := 0, locals := 30 }) D clN (tyN cI cZ cJ) [.ref o, .int (nI v), .int (nI pl)] [(o, .inr (11, [.int (nI th), .int (nI n), .int (nI b), .ref (q 3), .ref (q 4), .ref (q 5), .ref (q 6), .ref (q 7), .int (nI len), .ref (q 9), .ref (q 10), .ref (q 11), .ref (q 12), .ref (q 13), .ref (q 14), .ref (q 15), .ref (q 16), .ref (q 17), .int (nI tr), .int (nI hi), .ref (q 20), .ref (q 21), .ref (q 22), .ref (q 23), .int (nI ma)])), (q 7, .inl (cI, 200, .inl (ni u)))] (fun r w => r = zi (soB len u v pl) ∧ w = [(o, .inr (11, [.int (nI th), .int (nI n), .int (nI b), .ref (q 3), .ref (q 4), .ref (q 5), .ref (q 6), .ref (q 7), .int (nI len), .ref (q 9), .ref (q 10), .ref (q 11), .ref (q 12), .ref (q 13), .ref (q 14), .ref (q 15), .ref (q 16), .ref (q 17), .int (nI tr), .int (nI hi), .ref (q 20), .ref (q 21), .ref (q 22), .ref (q 23), .int (nI ma)])), (q 7, .inl (cI, 200, .inl (ni u)))]) := by
  refine vx_startI (cc := cN_Mod_isSo) (maxL := 3) (ret := (some .boolean)) (by decide) rfl (Nat.le_of_ble_eq_true rfl) ?_
  intro p e s m below meth c A ls C hK hP hD hS hA hl
  obtain ⟨hx, hb, hr, hml, hown, hts, hlocks, hnm⟩ := id C
  have hown : s.vm.findClass "StepMachinesModel" = some m.cls := hown
  have ht : ∀ w ∈ TB, w.before _ s = true := fun w h => hts w (List.mem_cons_of_mem _ h)
  have hl : lv_has ls 3 [(0, .ref o), (1, .int (nI v)), (2, .int (nI pl))] := hl
  refine lv_iload_n hx hb dN_Mod_isSo_0 rfl (lv_at hl 1 rfl) ?_
  by_cases h_1_0 : v = 0
  · refine xn_tin (k := 0) (tgt := 36) hx hb dN_Mod_isSo_1 h_1_0 (by decide) rfl (by decide) ?_
    refine lv_iload_n hx hb dN_Mod_isSo_36 rfl (lv_at hl 2 rfl) ?_
    refine xn_ne0 (tgt := 44) hx hb dN_Mod_isSo_37 (by decide) (by omega) (fun c_37_0 => ?_) (fun c_37_0 => ?_)
    · skip
      refine lv_iconst (v := (nI 0)) hx hb dN_Mod_isSo_44 (by decide) ?_
      refine xn_top (y := zi false) rfl ?_
      exact vx_zret C hK hP hD hS dN_Mod_isSo_45 (Nat.le_of_ble_eq_true rfl) (Nat.le_of_ble_eq_true rfl) (zi_nar2 _) (⟨by simp [soB, h_1_0, c_37_0], rfl⟩)
    · skip
      refine lv_iconst (v := (nI 1)) hx hb dN_Mod_isSo_40 (by decide) ?_
      refine lv_goto (tgt := 45) hx hb dN_Mod_isSo_41 (by decide) ?_
      refine xn_top (y := zi true) rfl ?_
      exact vx_zret C hK hP hD hS dN_Mod_isSo_45 (Nat.le_of_ble_eq_true rfl) (Nat.le_of_ble_eq_true rfl) (zi_nar2 _) (⟨by simp [soB, h_1_0, c_37_0], rfl⟩)
  by_cases h_1_1 : v = 1
  · refine xn_tin (k := 1) (tgt := 46) hx hb dN_Mod_isSo_1 h_1_1 (by decide) rfl (by decide) ?_
    refine lv_iload_n hx hb dN_Mod_isSo_46 rfl (lv_at hl 2 rfl) ?_
    refine lv_aload_n hx hb dN_Mod_isSo_47 rfl (lv_at hl 0 rfl) ?_
    refine va_get (D := D) (ci := 11) (v := .int (nI len)) (C := RN_Mod) (T := FN_Mod) (N := 25) hx hb ht fN_Mod hown hK hP 0 rfl rfl 8 (by decide) (ht _ mw_914) (fun _ h9 => h9) rfl dN_Mod_isSo_48 ?_
    refine xn_ne (tgt := 58) hx hb dN_Mod_isSo_51 (by decide) (by omega) (by omega) (fun c_51_1 => ?_) (fun c_51_1 => ?_)
    · skip
      refine lv_iconst (v := (nI 0)) hx hb dN_Mod_isSo_58 (by decide) ?_
      refine xn_top (y := zi false) rfl ?_
      exact vx_zret C hK hP hD hS dN_Mod_isSo_59 (Nat.le_of_ble_eq_true rfl) (Nat.le_of_ble_eq_true rfl) (zi_nar2 _) (⟨by simp [soB, h_1_1, c_51_1], rfl⟩)
    · skip
      refine lv_iconst (v := (nI 1)) hx hb dN_Mod_isSo_54 (by decide) ?_
      refine lv_goto (tgt := 59) hx hb dN_Mod_isSo_55 (by decide) ?_
      refine xn_top (y := zi true) rfl ?_
      exact vx_zret C hK hP hD hS dN_Mod_isSo_59 (Nat.le_of_ble_eq_true rfl) (Nat.le_of_ble_eq_true rfl) (zi_nar2 _) (⟨by simp [soB, h_1_1, c_51_1], rfl⟩)
  by_cases h_1_2 : v = 2
  · refine xn_tin (k := 2) (tgt := 60) hx hb dN_Mod_isSo_1 h_1_2 (by decide) rfl (by decide) ?_
    refine lv_iload_n hx hb dN_Mod_isSo_60 rfl (lv_at hl 2 rfl) ?_
    refine xn_eq0 (tgt := 77) hx hb dN_Mod_isSo_61 (by decide) (by omega) (fun c_61_2 => ?_) (fun c_61_2 => ?_)
    · skip
      refine lv_iconst (v := (nI 1)) hx hb dN_Mod_isSo_77 (by decide) ?_
      refine lv_goto (tgt := 82) hx hb dN_Mod_isSo_78 (by decide) ?_
      refine xn_top (y := zi true) rfl ?_
      exact vx_zret C hK hP hD hS dN_Mod_isSo_82 (Nat.le_of_ble_eq_true rfl) (Nat.le_of_ble_eq_true rfl) (zi_nar2 _) (⟨by simp [soB, h_1_2, c_61_2], rfl⟩)
    · skip
      refine lv_aload_n hx hb dN_Mod_isSo_64 rfl (lv_at hl 0 rfl) ?_
      refine va_get (D := D) (ci := 11) (v := .ref (q 7)) (C := RN_Mod) (T := FN_Mod) (N := 25) hx hb ht fN_Mod hown hK hP 0 rfl rfl 7 (by decide) (ht _ mw_913) (fun _ h9 => h9) rfl dN_Mod_isSo_65 ?_
      refine lv_iload_n hx hb dN_Mod_isSo_68 rfl (lv_at hl 2 rfl) ?_
      refine lv_iconst (v := (nI 1)) hx hb dN_Mod_isSo_69 (by decide) ?_
      refine xn_sub hx hb dN_Mod_isSo_70 (by omega) ?_
      refine xn_ald hx hb hK hP 1 0 rfl rfl dN_Mod_isSo_71 (by omega) (by omega) ?_
      refine lv_bipush (v := (nI 10)) hx hb dN_Mod_isSo_72 (by decide) ?_
      refine xn_ne (tgt := 81) hx hb dN_Mod_isSo_74 (by decide) (by have := hu (pl - 1); have := hu pl; omega) (by omega) (fun c_74_3 => ?_) (fun c_74_3 => ?_)
      · skip
        refine lv_iconst (v := (nI 0)) hx hb dN_Mod_isSo_81 (by decide) ?_
        refine xn_top (y := zi false) rfl ?_
        exact vx_zret C hK hP hD hS dN_Mod_isSo_82 (Nat.le_of_ble_eq_true rfl) (Nat.le_of_ble_eq_true rfl) (zi_nar2 _) (⟨by simp [soB, h_1_2, c_61_2, c_74_3], rfl⟩)
      · skip
        refine lv_iconst (v := (nI 1)) hx hb dN_Mod_isSo_77 (by decide) ?_
        refine lv_goto (tgt := 82) hx hb dN_Mod_isSo_78 (by decide) ?_
        refine xn_top (y := zi true) rfl ?_
        exact vx_zret C hK hP hD hS dN_Mod_isSo_82 (Nat.le_of_ble_eq_true rfl) (Nat.le_of_ble_eq_true rfl) (zi_nar2 _) (⟨by simp [soB, h_1_2, c_61_2, c_74_3], rfl⟩)
  by_cases h_1_3 : v = 3
  · refine xn_tin (k := 3) (tgt := 83) hx hb dN_Mod_isSo_1 h_1_3 (by decide) rfl (by decide) ?_
    refine lv_iload_n hx hb dN_Mod_isSo_83 rfl (lv_at hl 2 rfl) ?_
    refine lv_aload_n hx hb dN_Mod_isSo_84 rfl (lv_at hl 0 rfl) ?_
    refine va_get (D := D) (ci := 11) (v := .int (nI len)) (C := RN_Mod) (T := FN_Mod) (N := 25) hx hb ht fN_Mod hown hK hP 0 rfl rfl 8 (by decide) (ht _ mw_914) (fun _ h9 => h9) rfl dN_Mod_isSo_85 ?_
    refine xn_eq (tgt := 102) hx hb dN_Mod_isSo_88 (by decide) (by omega) (by omega) (fun c_88_4 => ?_) (fun c_88_4 => ?_)
    · skip
      refine lv_iconst (v := (nI 1)) hx hb dN_Mod_isSo_102 (by decide) ?_
      refine lv_goto (tgt := 107) hx hb dN_Mod_isSo_103 (by decide) ?_
      refine xn_top (y := zi true) rfl ?_
      exact vx_zret C hK hP hD hS dN_Mod_isSo_107 (Nat.le_of_ble_eq_true rfl) (Nat.le_of_ble_eq_true rfl) (zi_nar2 _) (⟨by simp [soB, h_1_3, c_88_4], rfl⟩)
    · skip
      refine lv_aload_n hx hb dN_Mod_isSo_91 rfl (lv_at hl 0 rfl) ?_
      refine va_get (D := D) (ci := 11) (v := .ref (q 7)) (C := RN_Mod) (T := FN_Mod) (N := 25) hx hb ht fN_Mod hown hK hP 0 rfl rfl 7 (by decide) (ht _ mw_913) (fun _ h9 => h9) rfl dN_Mod_isSo_92 ?_
      refine lv_iload_n hx hb dN_Mod_isSo_95 rfl (lv_at hl 2 rfl) ?_
      refine xn_ald hx hb hK hP 1 0 rfl rfl dN_Mod_isSo_96 (by omega) (by omega) ?_
      refine lv_bipush (v := (nI 10)) hx hb dN_Mod_isSo_97 (by decide) ?_
      refine xn_ne (tgt := 106) hx hb dN_Mod_isSo_99 (by decide) (by have := hu (pl - 1); have := hu pl; omega) (by omega) (fun c_99_5 => ?_) (fun c_99_5 => ?_)
      · skip
        refine lv_iconst (v := (nI 0)) hx hb dN_Mod_isSo_106 (by decide) ?_
        refine xn_top (y := zi false) rfl ?_
        exact vx_zret C hK hP hD hS dN_Mod_isSo_107 (Nat.le_of_ble_eq_true rfl) (Nat.le_of_ble_eq_true rfl) (zi_nar2 _) (⟨by simp [soB, h_1_3, c_88_4, c_99_5], rfl⟩)
      · skip
        refine lv_iconst (v := (nI 1)) hx hb dN_Mod_isSo_102 (by decide) ?_
        refine lv_goto (tgt := 107) hx hb dN_Mod_isSo_103 (by decide) ?_
        refine xn_top (y := zi true) rfl ?_
        exact vx_zret C hK hP hD hS dN_Mod_isSo_107 (Nat.le_of_ble_eq_true rfl) (Nat.le_of_ble_eq_true rfl) (zi_nar2 _) (⟨by simp [soB, h_1_3, c_88_4, c_99_5], rfl⟩)
  by_cases h_1_4 : v = 4
  · refine xn_tin (k := 4) (tgt := 108) hx hb dN_Mod_isSo_1 h_1_4 (by decide) rfl (by decide) ?_
    refine lv_aload_n hx hb dN_Mod_isSo_108 rfl (lv_at hl 0 rfl) ?_
    refine lv_iload_n hx hb dN_Mod_isSo_109 rfl (lv_at hl 2 rfl) ?_
    refine lv_iconst (v := (nI 1)) hx hb dN_Mod_isSo_110 (by decide) ?_
    refine lv_isub hx hb dN_Mod_isSo_111 ?_
    refine vx_calli (wc := [(o, .inr (11, [.int (nI th), .int (nI n), .int (nI b), .ref (q 3), .ref (q 4), .ref (q 5), .ref (q 6), .ref (q 7), .int (nI len), .ref (q 9), .ref (q 10), .ref (q 11), .ref (q 12), .ref (q 13), .ref (q 14), .ref (q 15), .ref (q 16), .ref (q 17), .int (nI tr), .int (nI hi), .ref (q 20), .ref (q 21), .ref (q 22), .ref (q 23), .int (nI ma)])), (q 7, .inl (cI, 200, .inl (ni u)))]) (wr := []) [0, 1] [] hK hP hD hS hA rfl rfl (by decide) (by decide) (va_runV (As := [.int ((nI pl) - (nI 1))]) (rest := []) ⟨hx, hb, hml, hown, ht⟩ (kMod_wordAt l D cI cZ cJ o q th n b len tr hi ma u ((nI pl) - (nI 1)) (pl) rfl hle (by omega) hu _) (⟨callB_of 1 ht (TB_in2 gN_Mod_wordAt) rfl rfl rfl (ht _ mw_6) (ht _ mw_1041) (by decide +kernel) ⟨Nat.le_of_ble_eq_true rfl, Nat.le_of_ble_eq_true rfl⟩, ht _ mw_1043, ht _ ms_41⟩) (vx_preV [0, 1] hK hP hD (by decide) rfl (ci := 11) rfl 0 rfl) rfl rfl hl.1 rfl (lv_room (Nat.le_of_ble_eq_true rfl)) dN_Mod_isSo_112 ⟨Nat.le_of_ble_eq_true rfl, Nat.le_of_ble_eq_true rfl⟩) (fun r1 w1 H locs hq hP hD hS => ?_)
    obtain ⟨rfl, rfl⟩ := hq
    have hP : va_P D clN [(o, .inr (11, [.int (nI th), .int (nI n), .int (nI b), .ref (q 3), .ref (q 4), .ref (q 5), .ref (q 6), .ref (q 7), .int (nI len), .ref (q 9), .ref (q 10), .ref (q 11), .ref (q 12), .ref (q 13), .ref (q 14), .ref (q 15), .ref (q 16), .ref (q 17), .int (nI tr), .int (nI hi), .ref (q 20), .ref (q 21), .ref (q 22), .ref (q 23), .int (nI ma)])), (q 7, .inl (cI, 200, .inl (ni u)))] H := hP.sub [0, 1] rfl
    have hD : va_D A [(o, .inr (11, [.int (nI th), .int (nI n), .int (nI b), .ref (q 3), .ref (q 4), .ref (q 5), .ref (q 6), .ref (q 7), .int (nI len), .ref (q 9), .ref (q 10), .ref (q 11), .ref (q 12), .ref (q 13), .ref (q 14), .ref (q 15), .ref (q 16), .ref (q 17), .int (nI tr), .int (nI hi), .ref (q 20), .ref (q 21), .ref (q 22), .ref (q 23), .int (nI ma)])), (q 7, .inl (cI, 200, .inl (ni u)))] := hD.sub [0, 1] (by decide) rfl
    refine lv_aload_n hx hb dN_Mod_isSo_115 rfl (lv_at hl 0 rfl) ?_
    refine lv_iload_n hx hb dN_Mod_isSo_116 rfl (lv_at hl 2 rfl) ?_
    refine xn_top (y := ((nI (pl + 1)) - (nI 1))) (by rw [pk_sub (by omega)]; rfl) ?_
    refine vx_calli (wc := [(o, .inr (11, [.int (nI th), .int (nI n), .int (nI b), .ref (q 3), .ref (q 4), .ref (q 5), .ref (q 6), .ref (q 7), .int (nI len), .ref (q 9), .ref (q 10), .ref (q 11), .ref (q 12), .ref (q 13), .ref (q 14), .ref (q 15), .ref (q 16), .ref (q 17), .int (nI tr), .int (nI hi), .ref (q 20), .ref (q 21), .ref (q 22), .ref (q 23), .int (nI ma)])), (q 7, .inl (cI, 200, .inl (ni u)))]) (wr := []) [0, 1] [] hK hP hD hS hA rfl rfl (by decide) (by decide) (va_runV (As := [.int ((nI (pl + 1)) - (nI 1))]) (rest := [.int (zi (isW (byB len u pl)))]) ⟨hx, hb, hml, hown, ht⟩ (kMod_wordAt l D cI cZ cJ o q th n b len tr hi ma u ((nI (pl + 1)) - (nI 1)) (pl + 1) rfl hle (by omega) hu _) (⟨callB_of 1 ht (TB_in2 gN_Mod_wordAt) rfl rfl rfl (ht _ mw_6) (ht _ mw_1041) (by decide +kernel) ⟨Nat.le_of_ble_eq_true rfl, Nat.le_of_ble_eq_true rfl⟩, ht _ mw_1043, ht _ ms_41⟩) (vx_preV [0, 1] hK hP hD (by decide) rfl (ci := 11) rfl 0 rfl) rfl rfl hl.1 rfl (lv_room (Nat.le_of_ble_eq_true rfl)) dN_Mod_isSo_117 ⟨Nat.le_of_ble_eq_true rfl, Nat.le_of_ble_eq_true rfl⟩) (fun r1 w1 H locs hq hP hD hS => ?_)
    obtain ⟨rfl, rfl⟩ := hq
    have hP : va_P D clN [(o, .inr (11, [.int (nI th), .int (nI n), .int (nI b), .ref (q 3), .ref (q 4), .ref (q 5), .ref (q 6), .ref (q 7), .int (nI len), .ref (q 9), .ref (q 10), .ref (q 11), .ref (q 12), .ref (q 13), .ref (q 14), .ref (q 15), .ref (q 16), .ref (q 17), .int (nI tr), .int (nI hi), .ref (q 20), .ref (q 21), .ref (q 22), .ref (q 23), .int (nI ma)])), (q 7, .inl (cI, 200, .inl (ni u)))] H := hP.sub [0, 1] rfl
    have hD : va_D A [(o, .inr (11, [.int (nI th), .int (nI n), .int (nI b), .ref (q 3), .ref (q 4), .ref (q 5), .ref (q 6), .ref (q 7), .int (nI len), .ref (q 9), .ref (q 10), .ref (q 11), .ref (q 12), .ref (q 13), .ref (q 14), .ref (q 15), .ref (q 16), .ref (q 17), .int (nI tr), .int (nI hi), .ref (q 20), .ref (q 21), .ref (q 22), .ref (q 23), .int (nI ma)])), (q 7, .inl (cI, 200, .inl (ni u)))] := hD.sub [0, 1] (by decide) rfl
    refine lv_icmp_eq (tgt := 127) hx hb dN_Mod_isSo_120 (by decide) (fun c_120_6 => ?_) (fun c_120_6 => ?_)
    · skip
      rw [zi_eq] at c_120_6
      refine lv_iconst (v := (nI 0)) hx hb dN_Mod_isSo_127 (by decide) ?_
      refine xn_top (y := zi false) rfl ?_
      exact vx_zret C hK hP hD hS dN_Mod_isSo_128 (Nat.le_of_ble_eq_true rfl) (Nat.le_of_ble_eq_true rfl) (zi_nar2 _) (⟨by rw [h_1_4]; exact zi_bne_f c_120_6, rfl⟩)
    · skip
      rw [zi_eq] at c_120_6
      refine lv_iconst (v := (nI 1)) hx hb dN_Mod_isSo_123 (by decide) ?_
      refine lv_goto (tgt := 128) hx hb dN_Mod_isSo_124 (by decide) ?_
      refine xn_top (y := zi true) rfl ?_
      exact vx_zret C hK hP hD hS dN_Mod_isSo_128 (Nat.le_of_ble_eq_true rfl) (Nat.le_of_ble_eq_true rfl) (zi_nar2 _) (⟨by rw [h_1_4]; exact zi_bne_t c_120_6, rfl⟩)
  refine xn_tout (tgt := 129) hx hb dN_Mod_isSo_1 (by omega) (by omega) (by decide) ?_
  refine lv_aload_n hx hb dN_Mod_isSo_129 rfl (lv_at hl 0 rfl) ?_
  refine lv_iload_n hx hb dN_Mod_isSo_130 rfl (lv_at hl 2 rfl) ?_
  refine lv_iconst (v := (nI 1)) hx hb dN_Mod_isSo_131 (by decide) ?_
  refine lv_isub hx hb dN_Mod_isSo_132 ?_
  refine vx_calli (wc := [(o, .inr (11, [.int (nI th), .int (nI n), .int (nI b), .ref (q 3), .ref (q 4), .ref (q 5), .ref (q 6), .ref (q 7), .int (nI len), .ref (q 9), .ref (q 10), .ref (q 11), .ref (q 12), .ref (q 13), .ref (q 14), .ref (q 15), .ref (q 16), .ref (q 17), .int (nI tr), .int (nI hi), .ref (q 20), .ref (q 21), .ref (q 22), .ref (q 23), .int (nI ma)])), (q 7, .inl (cI, 200, .inl (ni u)))]) (wr := []) [0, 1] [] hK hP hD hS hA rfl rfl (by decide) (by decide) (va_runV (As := [.int ((nI pl) - (nI 1))]) (rest := []) ⟨hx, hb, hml, hown, ht⟩ (kMod_wordAt l D cI cZ cJ o q th n b len tr hi ma u ((nI pl) - (nI 1)) (pl) rfl hle (by omega) hu _) (⟨callB_of 1 ht (TB_in2 gN_Mod_wordAt) rfl rfl rfl (ht _ mw_6) (ht _ mw_1041) (by decide +kernel) ⟨Nat.le_of_ble_eq_true rfl, Nat.le_of_ble_eq_true rfl⟩, ht _ mw_1043, ht _ ms_41⟩) (vx_preV [0, 1] hK hP hD (by decide) rfl (ci := 11) rfl 0 rfl) rfl rfl hl.1 rfl (lv_room (Nat.le_of_ble_eq_true rfl)) dN_Mod_isSo_133 ⟨Nat.le_of_ble_eq_true rfl, Nat.le_of_ble_eq_true rfl⟩) (fun r1 w1 H locs hq hP hD hS => ?_)
  obtain ⟨rfl, rfl⟩ := hq
  have hP : va_P D clN [(o, .inr (11, [.int (nI th), .int (nI n), .int (nI b), .ref (q 3), .ref (q 4), .ref (q 5), .ref (q 6), .ref (q 7), .int (nI len), .ref (q 9), .ref (q 10), .ref (q 11), .ref (q 12), .ref (q 13), .ref (q 14), .ref (q 15), .ref (q 16), .ref (q 17), .int (nI tr), .int (nI hi), .ref (q 20), .ref (q 21), .ref (q 22), .ref (q 23), .int (nI ma)])), (q 7, .inl (cI, 200, .inl (ni u)))] H := hP.sub [0, 1] rfl
  have hD : va_D A [(o, .inr (11, [.int (nI th), .int (nI n), .int (nI b), .ref (q 3), .ref (q 4), .ref (q 5), .ref (q 6), .ref (q 7), .int (nI len), .ref (q 9), .ref (q 10), .ref (q 11), .ref (q 12), .ref (q 13), .ref (q 14), .ref (q 15), .ref (q 16), .ref (q 17), .int (nI tr), .int (nI hi), .ref (q 20), .ref (q 21), .ref (q 22), .ref (q 23), .int (nI ma)])), (q 7, .inl (cI, 200, .inl (ni u)))] := hD.sub [0, 1] (by decide) rfl
  refine lv_aload_n hx hb dN_Mod_isSo_136 rfl (lv_at hl 0 rfl) ?_
  refine lv_iload_n hx hb dN_Mod_isSo_137 rfl (lv_at hl 2 rfl) ?_
  refine xn_top (y := ((nI (pl + 1)) - (nI 1))) (by rw [pk_sub (by omega)]; rfl) ?_
  refine vx_calli (wc := [(o, .inr (11, [.int (nI th), .int (nI n), .int (nI b), .ref (q 3), .ref (q 4), .ref (q 5), .ref (q 6), .ref (q 7), .int (nI len), .ref (q 9), .ref (q 10), .ref (q 11), .ref (q 12), .ref (q 13), .ref (q 14), .ref (q 15), .ref (q 16), .ref (q 17), .int (nI tr), .int (nI hi), .ref (q 20), .ref (q 21), .ref (q 22), .ref (q 23), .int (nI ma)])), (q 7, .inl (cI, 200, .inl (ni u)))]) (wr := []) [0, 1] [] hK hP hD hS hA rfl rfl (by decide) (by decide) (va_runV (As := [.int ((nI (pl + 1)) - (nI 1))]) (rest := [.int (zi (isW (byB len u pl)))]) ⟨hx, hb, hml, hown, ht⟩ (kMod_wordAt l D cI cZ cJ o q th n b len tr hi ma u ((nI (pl + 1)) - (nI 1)) (pl + 1) rfl hle (by omega) hu _) (⟨callB_of 1 ht (TB_in2 gN_Mod_wordAt) rfl rfl rfl (ht _ mw_6) (ht _ mw_1041) (by decide +kernel) ⟨Nat.le_of_ble_eq_true rfl, Nat.le_of_ble_eq_true rfl⟩, ht _ mw_1043, ht _ ms_41⟩) (vx_preV [0, 1] hK hP hD (by decide) rfl (ci := 11) rfl 0 rfl) rfl rfl hl.1 rfl (lv_room (Nat.le_of_ble_eq_true rfl)) dN_Mod_isSo_138 ⟨Nat.le_of_ble_eq_true rfl, Nat.le_of_ble_eq_true rfl⟩) (fun r1 w1 H locs hq hP hD hS => ?_)
  obtain ⟨rfl, rfl⟩ := hq
  have hP : va_P D clN [(o, .inr (11, [.int (nI th), .int (nI n), .int (nI b), .ref (q 3), .ref (q 4), .ref (q 5), .ref (q 6), .ref (q 7), .int (nI len), .ref (q 9), .ref (q 10), .ref (q 11), .ref (q 12), .ref (q 13), .ref (q 14), .ref (q 15), .ref (q 16), .ref (q 17), .int (nI tr), .int (nI hi), .ref (q 20), .ref (q 21), .ref (q 22), .ref (q 23), .int (nI ma)])), (q 7, .inl (cI, 200, .inl (ni u)))] H := hP.sub [0, 1] rfl
  have hD : va_D A [(o, .inr (11, [.int (nI th), .int (nI n), .int (nI b), .ref (q 3), .ref (q 4), .ref (q 5), .ref (q 6), .ref (q 7), .int (nI len), .ref (q 9), .ref (q 10), .ref (q 11), .ref (q 12), .ref (q 13), .ref (q 14), .ref (q 15), .ref (q 16), .ref (q 17), .int (nI tr), .int (nI hi), .ref (q 20), .ref (q 21), .ref (q 22), .ref (q 23), .int (nI ma)])), (q 7, .inl (cI, 200, .inl (ni u)))] := hD.sub [0, 1] (by decide) rfl
  refine lv_icmp_ne (tgt := 148) hx hb dN_Mod_isSo_141 (by decide) (fun c_141_7 => ?_) (fun c_141_7 => ?_)
  · skip
    rw [zi_eq] at c_141_7
    refine lv_iconst (v := (nI 0)) hx hb dN_Mod_isSo_148 (by decide) ?_
    refine xn_top (y := zi false) rfl ?_
    exact vx_zret C hK hP hD hS dN_Mod_isSo_149 (Nat.le_of_ble_eq_true rfl) (Nat.le_of_ble_eq_true rfl) (zi_nar2 _) (⟨by rw [soB_5 h_1_0 h_1_1 h_1_2 h_1_3 h_1_4]; exact zi_beq_f c_141_7, rfl⟩)
  · skip
    rw [zi_eq] at c_141_7
    refine lv_iconst (v := (nI 1)) hx hb dN_Mod_isSo_144 (by decide) ?_
    refine lv_goto (tgt := 149) hx hb dN_Mod_isSo_145 (by decide) ?_
    refine xn_top (y := zi true) rfl ?_
    exact vx_zret C hK hP hD hS dN_Mod_isSo_149 (Nat.le_of_ble_eq_true rfl) (Nat.le_of_ble_eq_true rfl) (zi_nar2 _) (⟨by rw [soB_5 h_1_0 h_1_1 h_1_2 h_1_3 h_1_4]; exact zi_beq_t c_141_7, rfl⟩)
def takB (K V : Nat → Nat) (len : Nat) (u : Nat → Nat) (k p : Nat) : Bool := decide (0 < k) && (decide (K k = 1) && (decide (p < len) && (decide (V k / 256 ≤ u p) && decide (u p ≤ V k % 256))))
def pasB (K V : Nat → Nat) (len : Nat) (u : Nat → Nat) (k p : Nat) : Bool := decide (0 < k) && (decide (K k = 2) || (decide (K k = 3) || (decide (K k = 4) && soB len u (V k) p)))
theorem takB_t {K V : Nat → Nat} {len : Nat} {u : Nat → Nat} {k p : Nat} (h : 0 < k ∧ K k = 1 ∧ p < len ∧ V k / 256 ≤ u p ∧ u p ≤ V k % 256) : zi true = zi (takB K V len u k p) := by
  obtain ⟨h1, h2, h3, h4, h5⟩ := h
  simp [takB, h1, h2, h3, h4, h5]
theorem takB_f {K V : Nat → Nat} {len : Nat} {u : Nat → Nat} {k p : Nat} (h : ¬ (0 < k ∧ K k = 1 ∧ p < len ∧ V k / 256 ≤ u p ∧ u p ≤ V k % 256)) : zi false = zi (takB K V len u k p) := by
  have : takB K V len u k p = false := by
    cases hc : takB K V len u k p with
    | false => rfl
    | true => simp [takB] at hc; exact absurd hc h
  rw [this]
set_option maxHeartbeats 4000000 in
set_option maxRecDepth 100000 in
/-- takes(k, pl) -/
theorem kMod_takes (l : Launch) (D : va_G) (cI cZ cJ : ClassId) (o : Nat) (q : Nat → Nat) (th n b len tr hi ma : Nat) (K V u : Nat → Nat) (vI : Nat → Int32) (k pl : Nat) (hn : n ≤ 200) (hle : len ≤ 200) (hk : k < n) (hpl : pl ≤ len) (hu : ∀ i, u i < 256) (hK5 : ∀ i, K i < 6) (hv : ∀ i, 0 < i → i < n → (K i = 1 ∨ K i = 3 ∨ K i = 4) → vI i = nI (V i)) (hvb : ∀ i, V i < 65536) : vx_Mi l yN_Mod_takes wN_Mod_takes ({ frames := 0, cells := 0, slots := 0, locals := 0 }) D clN (tyN cI cZ cJ) [.ref o, .int (nI k), .int (nI pl)] [(o, .inr (11, [.int (nI th), .int (nI n), .int (nI b), .ref (q 3), .ref (q 4), .ref (q 5), .ref (q 6), .ref (q 7), .int (nI len), .ref (q 9), .ref (q 10), .ref (q 11), .ref (q 12), .ref (q 13), .ref (q 14), .ref (q 15), .ref (q 16), .ref (q 17), .int (nI tr), .int (nI hi), .ref (q 20), .ref (q 21), .ref (q 22), .ref (q 23), .int (nI ma)])), (q 3, .inl (cI, 200, .inl (ni K))), (q 4, .inl (cI, 200, .inl vI)), (q 7, .inl (cI, 200, .inl (ni u)))] (fun r w => r = zi (takB K V len u k pl) ∧ w = [(o, .inr (11, [.int (nI th), .int (nI n), .int (nI b), .ref (q 3), .ref (q 4), .ref (q 5), .ref (q 6), .ref (q 7), .int (nI len), .ref (q 9), .ref (q 10), .ref (q 11), .ref (q 12), .ref (q 13), .ref (q 14), .ref (q 15), .ref (q 16), .ref (q 17), .int (nI tr), .int (nI hi), .ref (q 20), .ref (q 21), .ref (q 22), .ref (q 23), .int (nI ma)])), (q 3, .inl (cI, 200, .inl (ni K))), (q 4, .inl (cI, 200, .inl vI)), (q 7, .inl (cI, 200, .inl (ni u)))]) := by
  refine vx_startI (cc := cN_Mod_takes) (maxL := 3) (ret := (some .boolean)) (by decide) rfl (Nat.le_of_ble_eq_true rfl) ?_
  intro p e s m below meth c A ls C hK hP hD hS hA hl
  obtain ⟨hx, hb, hr, hml, hown, hts, hlocks, hnm⟩ := id C
  have hown : s.vm.findClass "StepMachinesModel" = some m.cls := hown
  have ht : ∀ w ∈ TB, w.before _ s = true := fun w h => hts w (List.mem_cons_of_mem _ h)
  have hl : lv_has ls 3 [(0, .ref o), (1, .int (nI k)), (2, .int (nI pl))] := hl
  refine lv_iload_n hx hb dN_Mod_takes_0 rfl (lv_at hl 1 rfl) ?_
  refine xn_le0 (tgt := 64) hx hb dN_Mod_takes_1 (by decide) (by omega) (fun c_1_0 => ?_) (fun c_1_0 => ?_)
  · skip
    refine lv_iconst (v := (nI 0)) hx hb dN_Mod_takes_64 (by decide) ?_
    refine xn_top (y := zi false) rfl ?_
    exact vx_zret C hK hP hD hS dN_Mod_takes_65 (Nat.le_of_ble_eq_true rfl) (Nat.le_of_ble_eq_true rfl) (zi_nar2 _) (⟨takB_f (by omega), rfl⟩)
  · skip
    refine lv_aload_n hx hb dN_Mod_takes_4 rfl (lv_at hl 0 rfl) ?_
    refine va_get (D := D) (ci := 11) (v := .ref (q 3)) (C := RN_Mod) (T := FN_Mod) (N := 25) hx hb ht fN_Mod hown hK hP 0 rfl rfl 3 (by decide) (ht _ mw_909) (fun _ h9 => h9) rfl dN_Mod_takes_5 ?_
    refine lv_iload_n hx hb dN_Mod_takes_8 rfl (lv_at hl 1 rfl) ?_
    refine xn_ald hx hb hK hP 1 0 rfl rfl dN_Mod_takes_9 (by omega) (by omega) ?_
    refine lv_iconst (v := (nI 1)) hx hb dN_Mod_takes_10 (by decide) ?_
    refine xn_ne (tgt := 64) hx hb dN_Mod_takes_11 (by decide) (by have := hK5 k; omega) (by omega) (fun c_11_1 => ?_) (fun c_11_1 => ?_)
    · skip
      refine lv_iconst (v := (nI 0)) hx hb dN_Mod_takes_64 (by decide) ?_
      refine xn_top (y := zi false) rfl ?_
      exact vx_zret C hK hP hD hS dN_Mod_takes_65 (Nat.le_of_ble_eq_true rfl) (Nat.le_of_ble_eq_true rfl) (zi_nar2 _) (⟨takB_f (by omega), rfl⟩)
    · skip
      refine lv_iload_n hx hb dN_Mod_takes_14 rfl (lv_at hl 2 rfl) ?_
      refine lv_aload_n hx hb dN_Mod_takes_15 rfl (lv_at hl 0 rfl) ?_
      refine va_get (D := D) (ci := 11) (v := .int (nI len)) (C := RN_Mod) (T := FN_Mod) (N := 25) hx hb ht fN_Mod hown hK hP 0 rfl rfl 8 (by decide) (ht _ mw_914) (fun _ h9 => h9) rfl dN_Mod_takes_16 ?_
      refine xn_ge (tgt := 64) hx hb dN_Mod_takes_19 (by decide) (by omega) (by omega) (fun c_19_2 => ?_) (fun c_19_2 => ?_)
      · skip
        refine lv_iconst (v := (nI 0)) hx hb dN_Mod_takes_64 (by decide) ?_
        refine xn_top (y := zi false) rfl ?_
        exact vx_zret C hK hP hD hS dN_Mod_takes_65 (Nat.le_of_ble_eq_true rfl) (Nat.le_of_ble_eq_true rfl) (zi_nar2 _) (⟨takB_f (by omega), rfl⟩)
      · skip
        refine lv_aload_n hx hb dN_Mod_takes_22 rfl (lv_at hl 0 rfl) ?_
        refine va_get (D := D) (ci := 11) (v := .ref (q 7)) (C := RN_Mod) (T := FN_Mod) (N := 25) hx hb ht fN_Mod hown hK hP 0 rfl rfl 7 (by decide) (ht _ mw_913) (fun _ h9 => h9) rfl dN_Mod_takes_23 ?_
        refine lv_iload_n hx hb dN_Mod_takes_26 rfl (lv_at hl 2 rfl) ?_
        refine xn_ald hx hb hK hP 3 0 rfl rfl dN_Mod_takes_27 (by omega) (by omega) ?_
        refine lv_aload_n hx hb dN_Mod_takes_28 rfl (lv_at hl 0 rfl) ?_
        refine va_get (D := D) (ci := 11) (v := .ref (q 4)) (C := RN_Mod) (T := FN_Mod) (N := 25) hx hb ht fN_Mod hown hK hP 0 rfl rfl 4 (by decide) (ht _ mw_910) (fun _ h9 => h9) rfl dN_Mod_takes_29 ?_
        refine lv_iload_n hx hb dN_Mod_takes_32 rfl (lv_at hl 1 rfl) ?_
        refine xi_ald hx hb hK hP 2 0 rfl rfl dN_Mod_takes_33 (by omega) (by omega) ?_
        refine xn_top (y := (nI (V k))) (hv k (by omega) (by omega) (Or.inl c_11_1)) ?_
        refine lv_sipush (v := (nI 256)) hx hb dN_Mod_takes_34 (by decide) ?_
        refine xn_div hx hb dN_Mod_takes_37 (by have := hvb k; omega) (by omega) (by omega) ?_
        refine xn_lt (tgt := 64) hx hb dN_Mod_takes_38 (by decide) (by have := hu pl; omega) (by have := hvb k; omega) (fun c_38_3 => ?_) (fun c_38_3 => ?_)
        · skip
          refine lv_iconst (v := (nI 0)) hx hb dN_Mod_takes_64 (by decide) ?_
          refine xn_top (y := zi false) rfl ?_
          exact vx_zret C hK hP hD hS dN_Mod_takes_65 (Nat.le_of_ble_eq_true rfl) (Nat.le_of_ble_eq_true rfl) (zi_nar2 _) (⟨takB_f (by omega), rfl⟩)
        · skip
          refine lv_aload_n hx hb dN_Mod_takes_41 rfl (lv_at hl 0 rfl) ?_
          refine va_get (D := D) (ci := 11) (v := .ref (q 7)) (C := RN_Mod) (T := FN_Mod) (N := 25) hx hb ht fN_Mod hown hK hP 0 rfl rfl 7 (by decide) (ht _ mw_913) (fun _ h9 => h9) rfl dN_Mod_takes_42 ?_
          refine lv_iload_n hx hb dN_Mod_takes_45 rfl (lv_at hl 2 rfl) ?_
          refine xn_ald hx hb hK hP 3 0 rfl rfl dN_Mod_takes_46 (by omega) (by omega) ?_
          refine lv_aload_n hx hb dN_Mod_takes_47 rfl (lv_at hl 0 rfl) ?_
          refine va_get (D := D) (ci := 11) (v := .ref (q 4)) (C := RN_Mod) (T := FN_Mod) (N := 25) hx hb ht fN_Mod hown hK hP 0 rfl rfl 4 (by decide) (ht _ mw_910) (fun _ h9 => h9) rfl dN_Mod_takes_48 ?_
          refine lv_iload_n hx hb dN_Mod_takes_51 rfl (lv_at hl 1 rfl) ?_
          refine xi_ald hx hb hK hP 2 0 rfl rfl dN_Mod_takes_52 (by omega) (by omega) ?_
          refine xn_top (y := (nI (V k))) (hv k (by omega) (by omega) (Or.inl c_11_1)) ?_
          refine lv_sipush (v := (nI 256)) hx hb dN_Mod_takes_53 (by decide) ?_
          refine xn_rem hx hb dN_Mod_takes_56 (by have := hvb k; omega) (by omega) (by omega) ?_
          refine xn_gt (tgt := 64) hx hb dN_Mod_takes_57 (by decide) (by have := hu pl; omega) (by have := hvb k; omega) (fun c_57_4 => ?_) (fun c_57_4 => ?_)
          · skip
            refine lv_iconst (v := (nI 0)) hx hb dN_Mod_takes_64 (by decide) ?_
            refine xn_top (y := zi false) rfl ?_
            exact vx_zret C hK hP hD hS dN_Mod_takes_65 (Nat.le_of_ble_eq_true rfl) (Nat.le_of_ble_eq_true rfl) (zi_nar2 _) (⟨takB_f (by omega), rfl⟩)
          · skip
            refine lv_iconst (v := (nI 1)) hx hb dN_Mod_takes_60 (by decide) ?_
            refine lv_goto (tgt := 65) hx hb dN_Mod_takes_61 (by decide) ?_
            refine xn_top (y := zi true) rfl ?_
            exact vx_zret C hK hP hD hS dN_Mod_takes_65 (Nat.le_of_ble_eq_true rfl) (Nat.le_of_ble_eq_true rfl) (zi_nar2 _) (⟨takB_t (by omega), rfl⟩)
set_option maxHeartbeats 4000000 in
set_option maxRecDepth 100000 in
/-- passes(k, pl) -/
theorem kMod_passes (l : Launch) (D : va_G) (cI cZ cJ : ClassId) (o : Nat) (q : Nat → Nat) (th n b len tr hi ma : Nat) (K V u : Nat → Nat) (vI : Nat → Int32) (k pl : Nat) (hn : n ≤ 200) (hle : len ≤ 200) (hk : k < n) (hpl : pl ≤ len) (hu : ∀ i, u i < 256) (hK5 : ∀ i, K i < 6) (hv : ∀ i, 0 < i → i < n → (K i = 1 ∨ K i = 3 ∨ K i = 4) → vI i = nI (V i)) (hvb : ∀ i, V i < 65536) (hv4 : ∀ i, i < n → K i = 4 → V i < 6) : vx_Mi l yN_Mod_passes wN_Mod_passes ({ frames := 2, cells := 0, slots := 0, locals := 60 }) D clN (tyN cI cZ cJ) [.ref o, .int (nI k), .int (nI pl)] [(o, .inr (11, [.int (nI th), .int (nI n), .int (nI b), .ref (q 3), .ref (q 4), .ref (q 5), .ref (q 6), .ref (q 7), .int (nI len), .ref (q 9), .ref (q 10), .ref (q 11), .ref (q 12), .ref (q 13), .ref (q 14), .ref (q 15), .ref (q 16), .ref (q 17), .int (nI tr), .int (nI hi), .ref (q 20), .ref (q 21), .ref (q 22), .ref (q 23), .int (nI ma)])), (q 3, .inl (cI, 200, .inl (ni K))), (q 4, .inl (cI, 200, .inl vI)), (q 7, .inl (cI, 200, .inl (ni u)))] (fun r w => r = zi (pasB K V len u k pl) ∧ w = [(o, .inr (11, [.int (nI th), .int (nI n), .int (nI b), .ref (q 3), .ref (q 4), .ref (q 5), .ref (q 6), .ref (q 7), .int (nI len), .ref (q 9), .ref (q 10), .ref (q 11), .ref (q 12), .ref (q 13), .ref (q 14), .ref (q 15), .ref (q 16), .ref (q 17), .int (nI tr), .int (nI hi), .ref (q 20), .ref (q 21), .ref (q 22), .ref (q 23), .int (nI ma)])), (q 3, .inl (cI, 200, .inl (ni K))), (q 4, .inl (cI, 200, .inl vI)), (q 7, .inl (cI, 200, .inl (ni u)))]) := by
  refine vx_startI (cc := cN_Mod_passes) (maxL := 3) (ret := (some .boolean)) (by decide) rfl (Nat.le_of_ble_eq_true rfl) ?_
  intro p e s m below meth c A ls C hK hP hD hS hA hl
  obtain ⟨hx, hb, hr, hml, hown, hts, hlocks, hnm⟩ := id C
  have hown : s.vm.findClass "StepMachinesModel" = some m.cls := hown
  have ht : ∀ w ∈ TB, w.before _ s = true := fun w h => hts w (List.mem_cons_of_mem _ h)
  have hl : lv_has ls 3 [(0, .ref o), (1, .int (nI k)), (2, .int (nI pl))] := hl
  refine lv_iload_n hx hb dN_Mod_passes_0 rfl (lv_at hl 1 rfl) ?_
  refine xn_le0 (tgt := 52) hx hb dN_Mod_passes_1 (by decide) (by omega) (fun c_1_0 => ?_) (fun c_1_0 => ?_)
  · skip
    refine lv_iconst (v := (nI 0)) hx hb dN_Mod_passes_52 (by decide) ?_
    refine xn_top (y := zi false) rfl ?_
    exact vx_zret C hK hP hD hS dN_Mod_passes_53 (Nat.le_of_ble_eq_true rfl) (Nat.le_of_ble_eq_true rfl) (zi_nar2 _) (⟨by simp [pasB, c_1_0], rfl⟩)
  · skip
    refine lv_aload_n hx hb dN_Mod_passes_4 rfl (lv_at hl 0 rfl) ?_
    refine va_get (D := D) (ci := 11) (v := .ref (q 3)) (C := RN_Mod) (T := FN_Mod) (N := 25) hx hb ht fN_Mod hown hK hP 0 rfl rfl 3 (by decide) (ht _ mw_909) (fun _ h9 => h9) rfl dN_Mod_passes_5 ?_
    refine lv_iload_n hx hb dN_Mod_passes_8 rfl (lv_at hl 1 rfl) ?_
    refine xn_ald hx hb hK hP 1 0 rfl rfl dN_Mod_passes_9 (by omega) (by omega) ?_
    refine lv_iconst (v := (nI 2)) hx hb dN_Mod_passes_10 (by decide) ?_
    refine xn_eq (tgt := 48) hx hb dN_Mod_passes_11 (by decide) (by have := hK5 k; omega) (by omega) (fun c_11_1 => ?_) (fun c_11_1 => ?_)
    · skip
      refine lv_iconst (v := (nI 1)) hx hb dN_Mod_passes_48 (by decide) ?_
      refine lv_goto (tgt := 53) hx hb dN_Mod_passes_49 (by decide) ?_
      refine xn_top (y := zi true) rfl ?_
      exact vx_zret C hK hP hD hS dN_Mod_passes_53 (Nat.le_of_ble_eq_true rfl) (Nat.le_of_ble_eq_true rfl) (zi_nar2 _) (⟨by simp [pasB, c_1_0, c_11_1], rfl⟩)
    · skip
      refine lv_aload_n hx hb dN_Mod_passes_14 rfl (lv_at hl 0 rfl) ?_
      refine va_get (D := D) (ci := 11) (v := .ref (q 3)) (C := RN_Mod) (T := FN_Mod) (N := 25) hx hb ht fN_Mod hown hK hP 0 rfl rfl 3 (by decide) (ht _ mw_909) (fun _ h9 => h9) rfl dN_Mod_passes_15 ?_
      refine lv_iload_n hx hb dN_Mod_passes_18 rfl (lv_at hl 1 rfl) ?_
      refine xn_ald hx hb hK hP 1 0 rfl rfl dN_Mod_passes_19 (by omega) (by omega) ?_
      refine lv_iconst (v := (nI 3)) hx hb dN_Mod_passes_20 (by decide) ?_
      refine xn_eq (tgt := 48) hx hb dN_Mod_passes_21 (by decide) (by have := hK5 k; omega) (by omega) (fun c_21_2 => ?_) (fun c_21_2 => ?_)
      · skip
        refine lv_iconst (v := (nI 1)) hx hb dN_Mod_passes_48 (by decide) ?_
        refine lv_goto (tgt := 53) hx hb dN_Mod_passes_49 (by decide) ?_
        refine xn_top (y := zi true) rfl ?_
        exact vx_zret C hK hP hD hS dN_Mod_passes_53 (Nat.le_of_ble_eq_true rfl) (Nat.le_of_ble_eq_true rfl) (zi_nar2 _) (⟨by simp [pasB, c_1_0, c_11_1, c_21_2], rfl⟩)
      · skip
        refine lv_aload_n hx hb dN_Mod_passes_24 rfl (lv_at hl 0 rfl) ?_
        refine va_get (D := D) (ci := 11) (v := .ref (q 3)) (C := RN_Mod) (T := FN_Mod) (N := 25) hx hb ht fN_Mod hown hK hP 0 rfl rfl 3 (by decide) (ht _ mw_909) (fun _ h9 => h9) rfl dN_Mod_passes_25 ?_
        refine lv_iload_n hx hb dN_Mod_passes_28 rfl (lv_at hl 1 rfl) ?_
        refine xn_ald hx hb hK hP 1 0 rfl rfl dN_Mod_passes_29 (by omega) (by omega) ?_
        refine lv_iconst (v := (nI 4)) hx hb dN_Mod_passes_30 (by decide) ?_
        refine xn_ne (tgt := 52) hx hb dN_Mod_passes_31 (by decide) (by have := hK5 k; omega) (by omega) (fun c_31_3 => ?_) (fun c_31_3 => ?_)
        · skip
          refine lv_iconst (v := (nI 0)) hx hb dN_Mod_passes_52 (by decide) ?_
          refine xn_top (y := zi false) rfl ?_
          exact vx_zret C hK hP hD hS dN_Mod_passes_53 (Nat.le_of_ble_eq_true rfl) (Nat.le_of_ble_eq_true rfl) (zi_nar2 _) (⟨by simp [pasB, c_1_0, c_11_1, c_21_2, c_31_3], rfl⟩)
        · skip
          refine lv_aload_n hx hb dN_Mod_passes_34 rfl (lv_at hl 0 rfl) ?_
          refine lv_aload_n hx hb dN_Mod_passes_35 rfl (lv_at hl 0 rfl) ?_
          refine va_get (D := D) (ci := 11) (v := .ref (q 4)) (C := RN_Mod) (T := FN_Mod) (N := 25) hx hb ht fN_Mod hown hK hP 0 rfl rfl 4 (by decide) (ht _ mw_910) (fun _ h9 => h9) rfl dN_Mod_passes_36 ?_
          refine lv_iload_n hx hb dN_Mod_passes_39 rfl (lv_at hl 1 rfl) ?_
          refine xi_ald hx hb hK hP 2 0 rfl rfl dN_Mod_passes_40 (by omega) (by omega) ?_
          refine xn_top (y := (nI (V k))) (hv k (by omega) (by omega) (Or.inr (Or.inr c_31_3))) ?_
          refine lv_iload_n hx hb dN_Mod_passes_41 rfl (lv_at hl 2 rfl) ?_
          refine vx_calli (wc := [(o, .inr (11, [.int (nI th), .int (nI n), .int (nI b), .ref (q 3), .ref (q 4), .ref (q 5), .ref (q 6), .ref (q 7), .int (nI len), .ref (q 9), .ref (q 10), .ref (q 11), .ref (q 12), .ref (q 13), .ref (q 14), .ref (q 15), .ref (q 16), .ref (q 17), .int (nI tr), .int (nI hi), .ref (q 20), .ref (q 21), .ref (q 22), .ref (q 23), .int (nI ma)])), (q 7, .inl (cI, 200, .inl (ni u)))]) (wr := [(q 3, .inl (cI, 200, .inl (ni K))), (q 4, .inl (cI, 200, .inl vI))]) [0, 3] [1, 2] hK hP hD hS hA rfl rfl (by decide) (by decide) (va_runV (As := [.int (nI (V k)), .int (nI pl)]) (rest := []) ⟨hx, hb, hml, hown, ht⟩ (kMod_isSo l D cI cZ cJ o q th n b len tr hi ma u (V k) pl hle (hv4 k hk c_31_3) hpl hu _) (⟨callB_of 2 ht (TB_in2 gN_Mod_isSo) rfl rfl rfl (ht _ mw_6) (ht _ mw_1037) (by decide +kernel) ⟨Nat.le_of_ble_eq_true rfl, Nat.le_of_ble_eq_true rfl⟩, ht _ mw_1039, ht _ ms_40⟩) (vx_preV [0, 3] hK hP hD (by decide) rfl (ci := 11) rfl 0 rfl) rfl rfl hl.1 rfl (lv_room (Nat.le_of_ble_eq_true rfl)) dN_Mod_passes_42 ⟨Nat.le_of_ble_eq_true rfl, Nat.le_of_ble_eq_true rfl⟩) (fun r1 w1 H locs hq hP hD hS => ?_)
          obtain ⟨rfl, rfl⟩ := hq
          have hP : va_P D clN [(o, .inr (11, [.int (nI th), .int (nI n), .int (nI b), .ref (q 3), .ref (q 4), .ref (q 5), .ref (q 6), .ref (q 7), .int (nI len), .ref (q 9), .ref (q 10), .ref (q 11), .ref (q 12), .ref (q 13), .ref (q 14), .ref (q 15), .ref (q 16), .ref (q 17), .int (nI tr), .int (nI hi), .ref (q 20), .ref (q 21), .ref (q 22), .ref (q 23), .int (nI ma)])), (q 3, .inl (cI, 200, .inl (ni K))), (q 4, .inl (cI, 200, .inl vI)), (q 7, .inl (cI, 200, .inl (ni u)))] H := hP.sub [2, 0, 1, 3] rfl
          have hD : va_D A [(o, .inr (11, [.int (nI th), .int (nI n), .int (nI b), .ref (q 3), .ref (q 4), .ref (q 5), .ref (q 6), .ref (q 7), .int (nI len), .ref (q 9), .ref (q 10), .ref (q 11), .ref (q 12), .ref (q 13), .ref (q 14), .ref (q 15), .ref (q 16), .ref (q 17), .int (nI tr), .int (nI hi), .ref (q 20), .ref (q 21), .ref (q 22), .ref (q 23), .int (nI ma)])), (q 3, .inl (cI, 200, .inl (ni K))), (q 4, .inl (cI, 200, .inl vI)), (q 7, .inl (cI, 200, .inl (ni u)))] := hD.sub [2, 0, 1, 3] (by decide) rfl
          refine xz_eq0 (tgt := 52) hx hb dN_Mod_passes_45 (by decide) (fun c_45_4 => ?_) (fun c_45_4 => ?_)
          · skip
            refine lv_iconst (v := (nI 0)) hx hb dN_Mod_passes_52 (by decide) ?_
            refine xn_top (y := zi false) rfl ?_
            exact vx_zret C hK hP hD hS dN_Mod_passes_53 (Nat.le_of_ble_eq_true rfl) (Nat.le_of_ble_eq_true rfl) (zi_nar2 _) (⟨by simp [pasB, c_1_0, c_11_1, c_21_2, c_31_3, c_45_4], rfl⟩)
          · skip
            refine lv_iconst (v := (nI 1)) hx hb dN_Mod_passes_48 (by decide) ?_
            refine lv_goto (tgt := 53) hx hb dN_Mod_passes_49 (by decide) ?_
            refine xn_top (y := zi true) rfl ?_
            exact vx_zret C hK hP hD hS dN_Mod_passes_53 (Nat.le_of_ble_eq_true rfl) (Nat.le_of_ble_eq_true rfl) (zi_nar2 _) (⟨by simp [pasB, c_1_0, c_11_1, c_21_2, c_31_3, c_45_4], rfl⟩)
end
section
/-! The reference's own lookahead, as mathematics: from step k at place p the END can be come to. -/
def canN (K V F S : Nat → Nat) (len : Nat) (u : Nat → Nat) (last : Nat) (al : Bool) : Nat → Nat → Nat → Bool
  | 0, _, _ => false
  | m + 1, p, k => if k = 0 then (decide (p = last) || !al) else if takB K V len u k p = true then (decide (p < last) && canN K V F S len u last al m (p + 1) (F k)) else if pasB K V len u k p = true then (canN K V F S len u last al m p (F k) || (decide (K k = 2) && canN K V F S len u last al m p (S k))) else false
def Can (K V F S : Nat → Nat) (len : Nat) (u : Nat → Nat) (last : Nat) (al : Bool) (p k : Nat) : Prop := ∃ m, canN K V F S len u last al m p k = true
section CN
variable {K V F S : Nat → Nat} {len : Nat} {u : Nat → Nat} {last : Nat} {al : Bool} {p k n : Nat}
theorem takB_K (h : takB K V len u k p = true) : 0 < k ∧ K k = 1 ∧ p < len ∧ V k / 256 ≤ u p ∧ u p ≤ V k % 256 := by simpa [takB] using h
theorem pasB_K (h : pasB K V len u k p = true) : 0 < k ∧ (K k = 2 ∨ K k = 3 ∨ K k = 4) := by
  simp only [pasB, Bool.and_eq_true, Bool.or_eq_true, decide_eq_true_eq] at h
  exact ⟨h.1, by rcases h.2 with h | h | h; exact Or.inl h; exact Or.inr (Or.inl h); exact Or.inr (Or.inr h.1)⟩
theorem tak_pas (h : takB K V len u k p = true) : pasB K V len u k p = false := by
  have h1 := (takB_K h).2.1
  cases hq : pasB K V len u k p with
  | false => rfl
  | true => have := (pasB_K hq).2; omega
theorem canN_mono : ∀ (m p k : Nat), canN K V F S len u last al m p k = true → canN K V F S len u last al (m + 1) p k = true := by
  intro m
  induction m with
  | zero => intro p k h; simp [canN] at h
  | succ m ih =>
    intro p k h
    rw [canN] at h ⊢
    split at h
    · rename_i h0; rw [if_pos h0]; exact h
    · rename_i h0
      rw [if_neg h0]
      split at h
      · rename_i h1
        rw [if_pos h1]
        simp only [Bool.and_eq_true] at h ⊢
        exact ⟨h.1, ih _ _ h.2⟩
      · rename_i h1
        rw [if_neg h1]
        split at h
        · rename_i h2
          rw [if_pos h2]
          simp only [Bool.and_eq_true, Bool.or_eq_true] at h ⊢
          rcases h with h | h
          · exact Or.inl (ih _ _ h)
          · exact Or.inr ⟨h.1, ih _ _ h.2⟩
        · cases h
theorem canN_le {m m2 : Nat} (hm : m ≤ m2) {p k : Nat} (h : canN K V F S len u last al m p k = true) : canN K V F S len u last al m2 p k = true := by
  induction hm with
  | refl => exact h
  | step _ ih => exact canN_mono _ _ _ ih
theorem Can_0 (p : Nat) : Can K V F S len u last al p 0 ↔ (p = last ∨ al = false) := by
  constructor
  · intro ⟨m, h⟩
    cases m with
    | zero => simp [canN] at h
    | succ m => simpa [canN] using h
  · intro h; exact ⟨1, by simpa [canN] using h⟩
theorem Can_t (h : takB K V len u k p = true) : Can K V F S len u last al p k ↔ (p < last ∧ Can K V F S len u last al (p + 1) (F k)) := by
  have h0 : ¬ k = 0 := by have := (takB_K h).1; omega
  constructor
  · intro ⟨m, hm⟩
    cases m with
    | zero => simp [canN] at hm
    | succ m => simp [canN, h0, h] at hm; exact ⟨hm.1, m, hm.2⟩
  · intro ⟨h1, m, hm⟩
    exact ⟨m + 1, by simp [canN, h0, h, h1, hm]⟩
theorem Can_p (h : pasB K V len u k p = true) : Can K V F S len u last al p k ↔ (Can K V F S len u last al p (F k) ∨ (K k = 2 ∧ Can K V F S len u last al p (S k))) := by
  have h0 : ¬ k = 0 := by have := (pasB_K h).1; omega
  have ht : takB K V len u k p = false := by
    cases hq : takB K V len u k p with
    | false => rfl
    | true => rw [tak_pas hq] at h; cases h
  constructor
  · intro ⟨m, hm⟩
    cases m with
    | zero => simp [canN] at hm
    | succ m =>
      simp [canN, h0, h, ht] at hm
      rcases hm with hm | hm
      · exact Or.inl ⟨m, hm⟩
      · exact Or.inr ⟨hm.1, m, hm.2⟩
  · intro hm
    rcases hm with ⟨m, hm⟩ | ⟨h1, m, hm⟩
    · exact ⟨m + 1, by simp [canN, h0, h, ht, hm]⟩
    · exact ⟨m + 1, by simp [canN, h0, h, ht, h1, hm]⟩
theorem Can_n (h0 : k ≠ 0) (h1 : takB K V len u k p = false) (h2 : pasB K V len u k p = false) : ¬ Can K V F S len u last al p k := by
  intro ⟨m, hm⟩
  cases m with
  | zero => simp [canN] at hm
  | succ m => simp [canN, h0, h1, h2] at hm
/-- what the first pass lays at a place -/
def Bs (K V F S : Nat → Nat) (len : Nat) (u : Nat → Nat) (last : Nat) (al : Bool) (p k : Nat) : Prop := (k = 0 ∧ (p = last ∨ al = false)) ∨ (0 < k ∧ takB K V len u k p = true ∧ p < last ∧ Can K V F S len u last al (p + 1) (F k))
theorem Bs_Can (h : Bs K V F S len u last al p k) : Can K V F S len u last al p k := by
  rcases h with ⟨rfl, h⟩ | ⟨h0, h1, h2, h3⟩
  · exact (Can_0 p).mpr h
  · exact (Can_t h1).mpr ⟨h2, h3⟩
/-- the rows above place p are right -/
def Above (K V F S : Nat → Nat) (len : Nat) (u : Nat → Nat) (last : Nat) (al : Bool) (n p : Nat) (f : Nat → Bool) : Prop := ∀ p1 k, p ≤ p1 → p1 ≤ last → k < n → (f (200 * p1 + k) = true ↔ Can K V F S len u last al p1 k)
theorem Above_ub {f : Nat → Bool} {v : Bool} (hn : n ≤ 200) (hk : k < n) (h : Above K V F S len u last al n (p + 1) f) : Above K V F S len u last al n (p + 1) (ub f (200 * p + k) v) := by
  intro p1 k1 h1 h2 h3
  rw [ub_n (by omega)]
  exact h p1 k1 h1 h2 h3
theorem Bs_step {f : Nat → Bool} {v : Bool} (h : ∀ k1, k1 < k → (f (200 * p + k1) = true ↔ Bs K V F S len u last al p k1)) (hv : v = true ↔ Bs K V F S len u last al p k) : ∀ k1, k1 < k + 1 → (ub f (200 * p + k) v (200 * p + k1) = true ↔ Bs K V F S len u last al p k1) := by
  intro k1 h1
  rcases Nat.lt_succ_iff_lt_or_eq.mp h1 with h2 | h2
  · rw [ub_n (by omega)]; exact h k1 h2
  · subst h2; rw [ub_s]; exact hv
theorem bs_t0 (h0 : k = 0) (h : p = last ∨ al = false) : (true = true ↔ Bs K V F S len u last al p k) := iff_of_true rfl (Or.inl ⟨h0, h⟩)
theorem bs_f0 (h0 : k = 0) (h1 : p ≠ last) (h2 : al = true) : (false = true ↔ Bs K V F S len u last al p k) := iff_of_false (by simp) (by
  rintro (⟨_, h | h⟩ | ⟨h, _⟩)
  · exact h1 h
  · rw [h2] at h; cases h
  · omega)
theorem bs_t1 (h1 : takB K V len u k p = true) (h2 : p < last) (h3 : Can K V F S len u last al (p + 1) (F k)) : (true = true ↔ Bs K V F S len u last al p k) := iff_of_true rfl (Or.inr ⟨(takB_K h1).1, h1, h2, h3⟩)
theorem bs_f1 (h0 : k ≠ 0) (h : takB K V len u k p = false ∨ last ≤ p ∨ ¬ Can K V F S len u last al (p + 1) (F k)) : (false = true ↔ Bs K V F S len u last al p k) := iff_of_false (by simp) (by
  rintro (⟨h1, _⟩ | ⟨_, h1, h2, h3⟩)
  · exact h0 h1
  · rcases h with h | h | h
    · rw [h] at h1; cases h1
    · omega
    · exact h h3)
/-- how many are not yet known at place p -/
def cntF (n : Nat) (f : Nat → Bool) (p : Nat) : Nat := (List.range n).countP (fun k => !f (200 * p + k))
theorem cntF_ub {f : Nat → Bool} (hk : k < n) (h : f (200 * p + k) = false) : cntF n (ub f (200 * p + k) true) p < cntF n f p := by
  have key : ∀ m, (List.range m).countP (fun j => !ub f (200 * p + k) true (200 * p + j)) + (if k < m then 1 else 0) = (List.range m).countP (fun j => !f (200 * p + j)) := by
    intro m
    induction m with
    | zero => simp
    | succ m ih =>
      rw [List.range_succ, List.countP_append, List.countP_append, ← ih]
      by_cases hm : m = k
      · subst hm
        simp [ub_s, h]
      · have h1 : ub f (200 * p + k) true (200 * p + m) = f (200 * p + m) := ub_n (by omega)
        by_cases h2 : k < m
        · simp [h1, h2, Nat.lt_succ_of_lt h2]; omega
        · have h3 : ¬ k < m + 1 := by omega
          simp [h1, h2, h3]
  have := key n
  rw [if_pos hk] at this
  unfold cntF
  omega
theorem ub_same {f : Nat → Bool} {i : Nat} {v : Bool} (h : f i = v) : ub f i v = f := by
  funext j
  by_cases hj : j = i
  · subst hj; rw [ub_s, h]
  · rw [ub_n hj]
/-- what is known at place p is so; what the first pass laid is known -/
def Snd (K V F S : Nat → Nat) (len : Nat) (u : Nat → Nat) (last : Nat) (al : Bool) (n p : Nat) (f : Nat → Bool) : Prop := ∀ k, k < n → (f (200 * p + k) = true → Can K V F S len u last al p k) ∧ (Bs K V F S len u last al p k → f (200 * p + k) = true)
/-- nothing more comes of step k -/
def Cld (K V F S : Nat → Nat) (len : Nat) (u : Nat → Nat) (p k : Nat) (f : Nat → Bool) : Prop := f (200 * p + k) = false → pasB K V len u k p = true → (f (200 * p + F k) || (decide (K k = 2) && f (200 * p + S k))) = false
theorem Snd_ub {f : Nat → Bool} {v : Bool} (hk : k < n) (h0 : f (200 * p + k) = false) (hp : pasB K V len u k p = true) (hF : F k < n) (hS : K k = 2 → S k < n) (h : Snd K V F S len u last al n p f) (hv : v = (f (200 * p + F k) || (decide (K k = 2) && f (200 * p + S k)))) : Snd K V F S len u last al n p (ub f (200 * p + k) v) := by
  intro k1 h1
  by_cases hk1 : k1 = k
  · subst hk1
    rw [ub_s]
    refine ⟨fun hv1 => ?_, fun hb => ?_⟩
    · rw [hv] at hv1
      refine (Can_p hp).mpr ?_
      simp only [Bool.or_eq_true, Bool.and_eq_true, decide_eq_true_eq] at hv1
      rcases hv1 with q | ⟨q1, q2⟩
      · exact Or.inl ((h _ hF).1 q)
      · exact Or.inr ⟨q1, (h _ (hS q1)).1 q2⟩
    · have := (h k1 h1).2 hb
      rw [h0] at this; cases this
  · rw [ub_n (by omega)]; exact h k1 h1
theorem row_done {f : Nat → Bool} (hF : ∀ i, 0 < i → i < n → (K i = 2 ∨ K i = 3 ∨ K i = 4) → F i < n) (hS : ∀ i, 0 < i → i < n → K i = 2 → S i < n) (ha : Above K V F S len u last al n (p + 1) f) (hs : Snd K V F S len u last al n p f) (hc : ∀ k, 1 ≤ k → k < n → Cld K V F S len u p k f) : Above K V F S len u last al n p f := by
  have key : ∀ m k, k < n → canN K V F S len u last al m p k = true → f (200 * p + k) = true := by
    intro m
    induction m with
    | zero => intro k _ h; simp [canN] at h
    | succ m ih =>
      intro k hk h
      by_cases h0 : k = 0
      · subst h0
        exact (hs 0 hk).2 (Or.inl ⟨rfl, (Can_0 p).mp ⟨m + 1, h⟩⟩)
      · cases ht : takB K V len u k p with
        | true => exact (hs k hk).2 (Or.inr ⟨by omega, ht, (Can_t ht).mp ⟨m + 1, h⟩⟩)
        | false =>
          cases hp : pasB K V len u k p with
          | false => exact absurd ⟨m + 1, h⟩ (Can_n h0 ht hp)
          | true =>
            cases hf : f (200 * p + k) with
            | true => rfl
            | false =>
              have h1 := hc k (by omega) hk hf hp
              simp [canN, h0, ht, hp] at h
              have hK := (pasB_K hp).2
              rcases h with h | h
              · have := ih _ (hF k (by omega) hk hK) h
                rw [this] at h1; simp at h1
              · have := ih _ (hS k (by omega) hk h.1) h.2
                simp [this, h.1] at h1
  intro p1 k h1 h2 h3
  rcases Nat.eq_or_lt_of_le h1 with h4 | h4
  · subst h4
    exact ⟨fun h => (hs k h3).1 h, fun ⟨m, h⟩ => key m k h3 h⟩
  · exact ha p1 k h4 h2 h3
end CN
theorem m1_ltn {j t : Nat} (hj : j < 2 ^ 30) (ht : t < 2 ^ 30) : nI j - nI 1 < nI t ↔ j ≤ t := by
  rcases Nat.eq_zero_or_pos j with h0 | h0
  · subst h0
    constructor
    · intro _; omega
    · intro _
      have h1 : nI 0 - nI 1 < 0 := pk_sneg (by omega) (by omega)
      have h2 : (0 : Int32) ≤ nI t := nI_pos' (by omega)
      exact Int32.lt_of_lt_of_le h1 h2
  · rw [pk_sub h0, nI_ltI (by omega) (by omega)]; omega
theorem m1_dec (p : Nat) : nI p + Int32.ofInt (-1) = nI p - nI 1 := by
  have : Int32.ofInt (-1) = -(nI 1) := by decide
  rw [this, Int32.sub_eq_add_neg]
theorem m1_suc (p : Nat) : nI (p + 1) - nI 1 = nI p := by rw [pk_sub (by omega)]; rfl
section CP
variable {K V F S : Nat → Nat} {len : Nat} {u : Nat → Nat} {last : Nat} {al : Bool} {p k n : Nat}
theorem Cld_more {f : Nat → Bool} {k1 : Nat} (h : ∀ k, 1 ≤ k → k < k1 → Cld K V F S len u p k f) (hk : Cld K V F S len u p k1 f) : ∀ k, 1 ≤ k → k < k1 + 1 → Cld K V F S len u p k f := by
  intro k h1 h2
  rcases Nat.lt_succ_iff_lt_or_eq.mp h2 with h3 | h3
  · exact h k h1 h3
  · subst h3; exact hk
theorem pass_step {f f1 : Nat → Bool} {mo1 v m : Bool} {k1 : Nat} (hn : n ≤ 200) (hk : k1 < n) (h0 : f1 (200 * p + k1) = false) (hp : pasB K V len u k1 p = true) (hF : ∀ i, 0 < i → i < n → (K i = 2 ∨ K i = 3 ∨ K i = 4) → F i < n) (hS : ∀ i, 0 < i → i < n → K i = 2 → S i < n)
    (h11 : 1 ≤ k1) (hab : Above K V F S len u last al n (p + 1) f1) (hsn : Snd K V F S len u last al n p f1) (hct : cntF n f1 p ≤ cntF n f p) (hmt : mo1 = true → cntF n f1 p < cntF n f p) (hmo : mo1 = false → f1 = f ∧ ∀ k, 1 ≤ k → k < k1 → Cld K V F S len u p k f1)
    (hv : v = (f1 (200 * p + F k1) || (decide (K k1 = 2) && f1 (200 * p + S k1)))) (hm : m = (mo1 || v)) :
    1 ≤ k1 + 1 ∧ k1 + 1 ≤ n ∧ Above K V F S len u last al n (p + 1) (ub f1 (200 * p + k1) v) ∧ Snd K V F S len u last al n p (ub f1 (200 * p + k1) v) ∧ cntF n (ub f1 (200 * p + k1) v) p ≤ cntF n f p ∧ (m = true → cntF n (ub f1 (200 * p + k1) v) p < cntF n f p) ∧ (m = false → ub f1 (200 * p + k1) v = f ∧ ∀ k, 1 ≤ k → k < k1 + 1 → Cld K V F S len u p k (ub f1 (200 * p + k1) v)) := by
  refine ⟨by omega, by omega, Above_ub hn hk hab, Snd_ub hk h0 hp (hF k1 (by omega) hk (pasB_K hp).2) (fun h => hS k1 (by omega) hk h) hsn hv, ?_⟩
  cases v with
  | true =>
    have h1 := cntF_ub (n := n) hk h0
    refine ⟨by omega, fun _ => by omega, fun h => ?_⟩
    rw [h] at hm; simp at hm
  | false =>
    rw [ub_same h0]
    refine ⟨hct, fun h => hmt (by rw [h] at hm; simpa using hm.symm), fun h => ?_⟩
    have hmf : mo1 = false := by rw [h] at hm; simpa using hm.symm
    exact ⟨(hmo hmf).1, Cld_more (hmo hmf).2 (fun _ _ => hv.symm)⟩
end CP
end
section
set_option maxHeartbeats 4000000 in
set_option maxRecDepth 100000 in
/-- note(last, to, al) -/
theorem kMod_note (l : Launch) (D : va_G) (cI cZ cJ : ClassId) (o : Nat) (q : Nat → Nat) (th n b len tr hi ma : Nat) (K V F S u : Nat → Nat) (vI fI sI : Nat → Int32) (can : Nat → Bool) (last to : Nat) (al : Bool) (hn0 : 0 < n) (hn : n ≤ 200) (hle : len ≤ 200) (hu : ∀ i, u i < 256) (hK5 : ∀ i, K i < 6) (hv : ∀ i, 0 < i → i < n → (K i = 1 ∨ K i = 3 ∨ K i = 4) → vI i = nI (V i)) (hvb : ∀ i, V i < 65536) (hv4 : ∀ i, i < n → K i = 4 → V i < 6) (hf : ∀ i, 0 < i → i < n → (K i = 1 ∨ K i = 2 ∨ K i = 3 ∨ K i = 4) → fI i = nI (F i) ∧ F i < n) (hs : ∀ i, 0 < i → i < n → K i = 2 → sI i = nI (S i) ∧ S i < n) (hll : last ≤ len) (hto : to ≤ last + 1) : vx_Mv l yN_Mod_note wN_Mod_note ({ frames := 3, cells := 0, slots := 0, locals := 90 }) D clN (tyN cI cZ cJ) [.ref o, .int (nI last), .int (nI to), .int (zi al)] [(o, .inr (11, [.int (nI th), .int (nI n), .int (nI b), .ref (q 3), .ref (q 4), .ref (q 5), .ref (q 6), .ref (q 7), .int (nI len), .ref (q 9), .ref (q 10), .ref (q 11), .ref (q 12), .ref (q 13), .ref (q 14), .ref (q 15), .ref (q 16), .ref (q 17), .int (nI tr), .int (nI hi), .ref (q 20), .ref (q 21), .ref (q 22), .ref (q 23), .int (nI ma)])), (q 3, .inl (cI, 200, .inl (ni K))), (q 4, .inl (cI, 200, .inl vI)), (q 5, .inl (cI, 200, .inl fI)), (q 6, .inl (cI, 200, .inl sI)), (q 7, .inl (cI, 200, .inl (ni u))), (q 9, .inl (cZ, 40200, .inl (zb can)))] (fun w => ∃ f : Nat → Bool, w = [(o, .inr (11, [.int (nI th), .int (nI n), .int (nI b), .ref (q 3), .ref (q 4), .ref (q 5), .ref (q 6), .ref (q 7), .int (nI len), .ref (q 9), .ref (q 10), .ref (q 11), .ref (q 12), .ref (q 13), .ref (q 14), .ref (q 15), .ref (q 16), .ref (q 17), .int (nI tr), .int (nI hi), .ref (q 20), .ref (q 21), .ref (q 22), .ref (q 23), .int (nI ma)])), (q 3, .inl (cI, 200, .inl (ni K))), (q 4, .inl (cI, 200, .inl vI)), (q 5, .inl (cI, 200, .inl fI)), (q 6, .inl (cI, 200, .inl sI)), (q 7, .inl (cI, 200, .inl (ni u))), (q 9, .inl (cZ, 40200, .inl (zb f)))] ∧ ∀ p1 k, to ≤ p1 → p1 ≤ last → k < n → (f (200 * p1 + k) = true ↔ Can K V F S len u last al p1 k)) := by
  refine vx_startV (cc := cN_Mod_note) (maxL := 8) (ret := none) (by decide) rfl (Nat.le_of_ble_eq_true rfl) ?_
  intro p e s m below meth c A ls C hK hP hD hS hA hl
  obtain ⟨hx, hb, hr, hml, hown, hts, hlocks, hnm⟩ := id C
  have hown : s.vm.findClass "StepMachinesModel" = some m.cls := hown
  have ht : ∀ w ∈ TB, w.before _ s = true := fun w h => hts w (List.mem_cons_of_mem _ h)
  have hl : lv_has ls 8 [(0, .ref o), (1, .int (nI last)), (2, .int (nI to)), (3, .int (zi al))] := hl
  refine lv_iload_n hx hb dN_Mod_note_0 rfl (lv_at hl 1 rfl) ?_
  refine lv_istore (lv' := [(4, .int (nI last)), (0, .ref o), (1, .int (nI last)), (2, .int (nI to)), (3, .int (zi al))]) hx hb dN_Mod_note_1 hl (by decide) rfl (fun ls hl => ?_)
  refine vx_loop (α := Int32 × Nat × (Nat → Bool)) (fun (a : Int32 × Nat × (Nat → Bool)) (H : Heap) (locs : List Loc) (ls : Array Slot) => match a with | (x, j, f) => va_P D clN [(o, .inr (11, [.int (nI th), .int (nI n), .int (nI b), .ref (q 3), .ref (q 4), .ref (q 5), .ref (q 6), .ref (q 7), .int (nI len), .ref (q 9), .ref (q 10), .ref (q 11), .ref (q 12), .ref (q 13), .ref (q 14), .ref (q 15), .ref (q 16), .ref (q 17), .int (nI tr), .int (nI hi), .ref (q 20), .ref (q 21), .ref (q 22), .ref (q 23), .int (nI ma)])), (q 3, .inl (cI, 200, .inl (ni K))), (q 4, .inl (cI, 200, .inl vI)), (q 5, .inl (cI, 200, .inl fI)), (q 6, .inl (cI, 200, .inl sI)), (q 7, .inl (cI, 200, .inl (ni u))), (q 9, .inl (cZ, 40200, .inl (zb f)))] H ∧ va_D A [(o, .inr (11, [.int (nI th), .int (nI n), .int (nI b), .ref (q 3), .ref (q 4), .ref (q 5), .ref (q 6), .ref (q 7), .int (nI len), .ref (q 9), .ref (q 10), .ref (q 11), .ref (q 12), .ref (q 13), .ref (q 14), .ref (q 15), .ref (q 16), .ref (q 17), .int (nI tr), .int (nI hi), .ref (q 20), .ref (q 21), .ref (q 22), .ref (q 23), .int (nI ma)])), (q 3, .inl (cI, 200, .inl (ni K))), (q 4, .inl (cI, 200, .inl vI)), (q 5, .inl (cI, 200, .inl fI)), (q 6, .inl (cI, 200, .inl sI)), (q 7, .inl (cI, 200, .inl (ni u))), (q 9, .inl (cZ, 40200, .inl (zb f)))] ∧ va_S A s.heap H locs ∧ lv_has ls 8 [(0, .ref o), (1, .int (nI last)), (2, .int (nI to)), (3, .int (zi al)), (4, .int x)] ∧ (x = nI j - nI 1 ∧ j ≤ last + 1 ∧ to ≤ j ∧ Above K V F S len u last al n j f)) (fun (a : Int32 × Nat × (Nat → Bool)) => match a with | (x, j, f) => j) 3 [] ?_ (nI (last), last + 1, can) ⟨hP, hD, hS, lv_sub hl [1, 2, 3, 4, 0] rfl, ⟨(m1_suc last).symm, by omega, by omega, fun p1 k h1 h2 h3 => absurd h1 (by omega)⟩⟩
  intro a H locs ls hq ih_3_0
  obtain ⟨x, j, f⟩ := a
  obtain ⟨hP, hD, hS, hl, hI⟩ := hq
  obtain ⟨ex, hj1, hj2, hrow⟩ := hI
  refine lv_iload hx hb dN_Mod_note_3 (lv_at hl 4 rfl) ?_
  refine lv_iload_n hx hb dN_Mod_note_5 rfl (lv_at hl 2 rfl) ?_
  refine lv_icmp_lt (tgt := 276) hx hb dN_Mod_note_6 (by decide) (fun c_6_1 => ?_) (fun c_6_1 => ?_)
  · skip
    rw [ex, m1_ltn (by omega) (by omega)] at c_6_1
    exact vx_vret C hK hP hD hS dN_Mod_note_276 (Nat.le_of_ble_eq_true rfl) (Nat.le_of_ble_eq_true rfl) (⟨f, rfl, fun p1 k h1 h2 h3 => hrow p1 k (by omega) h2 h3⟩)
  · skip
    rw [ex, m1_ltn (by omega) (by omega)] at c_6_1
    obtain ⟨p, rfl⟩ : ∃ p, j = p + 1 := ⟨j - 1, by omega⟩
    have hl : lv_has ls 8 [(0, .ref o), (1, .int (nI last)), (2, .int (nI to)), (3, .int (zi al)), (4, .int (nI p))] := by rw [ex, m1_suc] at hl; exact hl
    refine lv_iconst (v := (nI 0)) hx hb dN_Mod_note_9 (by decide) ?_
    refine lv_istore (lv' := [(5, .int (nI 0)), (0, .ref o), (1, .int (nI last)), (2, .int (nI to)), (3, .int (zi al)), (4, .int (nI p))]) hx hb dN_Mod_note_10 hl (by decide) rfl (fun ls hl => ?_)
    refine vx_loop (α := (Nat → Bool) × Nat) (fun (a : (Nat → Bool) × Nat) (H : Heap) (locs : List Loc) (ls : Array Slot) => match a with | (f, k) => va_P D clN [(o, .inr (11, [.int (nI th), .int (nI n), .int (nI b), .ref (q 3), .ref (q 4), .ref (q 5), .ref (q 6), .ref (q 7), .int (nI len), .ref (q 9), .ref (q 10), .ref (q 11), .ref (q 12), .ref (q 13), .ref (q 14), .ref (q 15), .ref (q 16), .ref (q 17), .int (nI tr), .int (nI hi), .ref (q 20), .ref (q 21), .ref (q 22), .ref (q 23), .int (nI ma)])), (q 3, .inl (cI, 200, .inl (ni K))), (q 4, .inl (cI, 200, .inl vI)), (q 5, .inl (cI, 200, .inl fI)), (q 6, .inl (cI, 200, .inl sI)), (q 7, .inl (cI, 200, .inl (ni u))), (q 9, .inl (cZ, 40200, .inl (zb f)))] H ∧ va_D A [(o, .inr (11, [.int (nI th), .int (nI n), .int (nI b), .ref (q 3), .ref (q 4), .ref (q 5), .ref (q 6), .ref (q 7), .int (nI len), .ref (q 9), .ref (q 10), .ref (q 11), .ref (q 12), .ref (q 13), .ref (q 14), .ref (q 15), .ref (q 16), .ref (q 17), .int (nI tr), .int (nI hi), .ref (q 20), .ref (q 21), .ref (q 22), .ref (q 23), .int (nI ma)])), (q 3, .inl (cI, 200, .inl (ni K))), (q 4, .inl (cI, 200, .inl vI)), (q 5, .inl (cI, 200, .inl fI)), (q 6, .inl (cI, 200, .inl sI)), (q 7, .inl (cI, 200, .inl (ni u))), (q 9, .inl (cZ, 40200, .inl (zb f)))] ∧ va_S A s.heap H locs ∧ lv_has ls 8 [(0, .ref o), (1, .int (nI last)), (2, .int (nI to)), (3, .int (zi al)), (4, .int (nI p)), (5, .int (nI k))] ∧ (k ≤ n ∧ Above K V F S len u last al n (p + 1) f ∧ ∀ k1, k1 < k → (f (200 * p + k1) = true ↔ Bs K V F S len u last al p k1))) (fun (a : (Nat → Bool) × Nat) => match a with | (f, k) => n - k) 12 [] ?_ (f, 0) ⟨hP, hD, hS, lv_sub hl [1, 2, 3, 4, 5, 0] rfl, ⟨by omega, hrow, fun k1 h1 => absurd h1 (by omega)⟩⟩
    intro a H locs ls hq ih_12_2
    obtain ⟨f, k⟩ := a
    obtain ⟨hP, hD, hS, hl, hI⟩ := hq
    obtain ⟨hkn, hab, hbs⟩ := hI
    refine lv_iload hx hb dN_Mod_note_12 (lv_at hl 5 rfl) ?_
    refine lv_aload_n hx hb dN_Mod_note_14 rfl (lv_at hl 0 rfl) ?_
    refine va_get (D := D) (ci := 11) (v := .int (nI n)) (C := RN_Mod) (T := FN_Mod) (N := 25) hx hb ht fN_Mod hown hK hP 0 rfl rfl 1 (by decide) (ht _ mw_907) (fun _ h9 => h9) rfl dN_Mod_note_15 ?_
    refine xn_ge (tgt := 112) hx hb dN_Mod_note_18 (by decide) (by omega) (by omega) (fun c_18_3 => ?_) (fun c_18_3 => ?_)
    · skip
      refine lv_iconst (v := (zi true)) hx hb dN_Mod_note_112 (by decide) ?_
      refine lv_istore (lv' := [(5, .int (zi true)), (0, .ref o), (1, .int (nI last)), (2, .int (nI to)), (3, .int (zi al)), (4, .int (nI p))]) hx hb dN_Mod_note_113 hl (by decide) rfl (fun ls hl => ?_)
      refine vx_loop (α := (Nat → Bool) × Bool) (fun (a : (Nat → Bool) × Bool) (H : Heap) (locs : List Loc) (ls : Array Slot) => match a with | (f, mo) => va_P D clN [(o, .inr (11, [.int (nI th), .int (nI n), .int (nI b), .ref (q 3), .ref (q 4), .ref (q 5), .ref (q 6), .ref (q 7), .int (nI len), .ref (q 9), .ref (q 10), .ref (q 11), .ref (q 12), .ref (q 13), .ref (q 14), .ref (q 15), .ref (q 16), .ref (q 17), .int (nI tr), .int (nI hi), .ref (q 20), .ref (q 21), .ref (q 22), .ref (q 23), .int (nI ma)])), (q 3, .inl (cI, 200, .inl (ni K))), (q 4, .inl (cI, 200, .inl vI)), (q 5, .inl (cI, 200, .inl fI)), (q 6, .inl (cI, 200, .inl sI)), (q 7, .inl (cI, 200, .inl (ni u))), (q 9, .inl (cZ, 40200, .inl (zb f)))] H ∧ va_D A [(o, .inr (11, [.int (nI th), .int (nI n), .int (nI b), .ref (q 3), .ref (q 4), .ref (q 5), .ref (q 6), .ref (q 7), .int (nI len), .ref (q 9), .ref (q 10), .ref (q 11), .ref (q 12), .ref (q 13), .ref (q 14), .ref (q 15), .ref (q 16), .ref (q 17), .int (nI tr), .int (nI hi), .ref (q 20), .ref (q 21), .ref (q 22), .ref (q 23), .int (nI ma)])), (q 3, .inl (cI, 200, .inl (ni K))), (q 4, .inl (cI, 200, .inl vI)), (q 5, .inl (cI, 200, .inl fI)), (q 6, .inl (cI, 200, .inl sI)), (q 7, .inl (cI, 200, .inl (ni u))), (q 9, .inl (cZ, 40200, .inl (zb f)))] ∧ va_S A s.heap H locs ∧ lv_has ls 8 [(0, .ref o), (1, .int (nI last)), (2, .int (nI to)), (3, .int (zi al)), (4, .int (nI p)), (5, .int (zi mo))] ∧ (Above K V F S len u last al n (p + 1) f ∧ Snd K V F S len u last al n p f ∧ (mo = false → ∀ k, 1 ≤ k → k < n → Cld K V F S len u p k f))) (fun (a : (Nat → Bool) × Bool) => match a with | (f, mo) => cntF n f p + (if mo = true then 1 else 0)) 115 [] ?_ (f, true) ⟨hP, hD, hS, lv_sub hl [1, 2, 3, 4, 5, 0] rfl, ⟨hab, fun k hk => ⟨fun h => Bs_Can ((hbs k (by omega)).mp h), (hbs k (by omega)).mpr⟩, fun h => by cases h⟩⟩
      intro a H locs ls hq ih_115_4
      obtain ⟨f, mo⟩ := a
      obtain ⟨hP, hD, hS, hl, hI⟩ := hq
      obtain ⟨hab, hsn, hcl⟩ := hI
      refine lv_iload hx hb dN_Mod_note_115 (lv_at hl 5 rfl) ?_
      refine xz_eq0 (tgt := 270) hx hb dN_Mod_note_117 (by decide) (fun c_117_5 => ?_) (fun c_117_5 => ?_)
      · skip
        refine lv_iinc (v := (nI p - nI 1)) (lv' := [(4, .int (nI p - nI 1)), (0, .ref o), (1, .int (nI last)), (2, .int (nI to)), (3, .int (zi al)), (5, .int (zi mo))]) hx hb dN_Mod_note_270 hl (k := 4) rfl (m1_dec p) (by decide) rfl (fun ls hl => ?_)
        refine lv_goto (tgt := 3) hx hb dN_Mod_note_273 (by decide) ?_
        exact ih_3_0 (nI p - nI 1, p, f) _ _ _ ⟨hP, hD, hS, lv_sub hl [1, 2, 3, 4, 0] rfl, ⟨rfl, by omega, by omega, row_done (fun i h1 h2 h3 => (hf i h1 h2 (by omega)).2) (fun i h1 h2 h3 => (hs i h1 h2 h3).2) hab hsn (hcl c_117_5)⟩⟩ (show (p) < (p + 1) from by omega)
      · skip
        refine lv_iconst (v := (zi false)) hx hb dN_Mod_note_120 (by decide) ?_
        refine lv_istore (lv' := [(5, .int (zi false)), (0, .ref o), (1, .int (nI last)), (2, .int (nI to)), (3, .int (zi al)), (4, .int (nI p))]) hx hb dN_Mod_note_121 hl (by decide) rfl (fun ls hl => ?_)
        refine lv_iconst (v := (nI 1)) hx hb dN_Mod_note_123 (by decide) ?_
        refine lv_istore (lv' := [(6, .int (nI 1)), (5, .int (zi false)), (0, .ref o), (1, .int (nI last)), (2, .int (nI to)), (3, .int (zi al)), (4, .int (nI p))]) hx hb dN_Mod_note_124 hl (by decide) rfl (fun ls hl => ?_)
        refine vx_loop (α := (Nat → Bool) × Bool × Nat) (fun (a : (Nat → Bool) × Bool × Nat) (H : Heap) (locs : List Loc) (ls : Array Slot) => match a with | (f1, mo1, k1) => va_P D clN [(o, .inr (11, [.int (nI th), .int (nI n), .int (nI b), .ref (q 3), .ref (q 4), .ref (q 5), .ref (q 6), .ref (q 7), .int (nI len), .ref (q 9), .ref (q 10), .ref (q 11), .ref (q 12), .ref (q 13), .ref (q 14), .ref (q 15), .ref (q 16), .ref (q 17), .int (nI tr), .int (nI hi), .ref (q 20), .ref (q 21), .ref (q 22), .ref (q 23), .int (nI ma)])), (q 3, .inl (cI, 200, .inl (ni K))), (q 4, .inl (cI, 200, .inl vI)), (q 5, .inl (cI, 200, .inl fI)), (q 6, .inl (cI, 200, .inl sI)), (q 7, .inl (cI, 200, .inl (ni u))), (q 9, .inl (cZ, 40200, .inl (zb f1)))] H ∧ va_D A [(o, .inr (11, [.int (nI th), .int (nI n), .int (nI b), .ref (q 3), .ref (q 4), .ref (q 5), .ref (q 6), .ref (q 7), .int (nI len), .ref (q 9), .ref (q 10), .ref (q 11), .ref (q 12), .ref (q 13), .ref (q 14), .ref (q 15), .ref (q 16), .ref (q 17), .int (nI tr), .int (nI hi), .ref (q 20), .ref (q 21), .ref (q 22), .ref (q 23), .int (nI ma)])), (q 3, .inl (cI, 200, .inl (ni K))), (q 4, .inl (cI, 200, .inl vI)), (q 5, .inl (cI, 200, .inl fI)), (q 6, .inl (cI, 200, .inl sI)), (q 7, .inl (cI, 200, .inl (ni u))), (q 9, .inl (cZ, 40200, .inl (zb f1)))] ∧ va_S A s.heap H locs ∧ lv_has ls 8 [(0, .ref o), (1, .int (nI last)), (2, .int (nI to)), (3, .int (zi al)), (4, .int (nI p)), (5, .int (zi mo1)), (6, .int (nI k1))] ∧ (1 ≤ k1 ∧ k1 ≤ n ∧ Above K V F S len u last al n (p + 1) f1 ∧ Snd K V F S len u last al n p f1 ∧ cntF n f1 p ≤ cntF n f p ∧ (mo1 = true → cntF n f1 p < cntF n f p) ∧ (mo1 = false → f1 = f ∧ ∀ k, 1 ≤ k → k < k1 → Cld K V F S len u p k f1))) (fun (a : (Nat → Bool) × Bool × Nat) => match a with | (f1, mo1, k1) => n - k1) 126 [] ?_ (f, false, 1) ⟨hP, hD, hS, lv_sub hl [2, 3, 4, 5, 6, 1, 0] rfl, ⟨by omega, by omega, hab, hsn, Nat.le_refl _, (fun h => by cases h), fun _ => ⟨rfl, fun k h1 h2 => absurd h1 (by omega)⟩⟩⟩
        intro a H locs ls hq ih_126_6
        obtain ⟨f1, mo1, k1⟩ := a
        obtain ⟨hP, hD, hS, hl, hI⟩ := hq
        obtain ⟨hk11, hk1n, hab1, hsn1, hct1, hmt1, hmo1⟩ := hI
        refine lv_iload hx hb dN_Mod_note_126 (lv_at hl 6 rfl) ?_
        refine lv_aload_n hx hb dN_Mod_note_128 rfl (lv_at hl 0 rfl) ?_
        refine va_get (D := D) (ci := 11) (v := .int (nI n)) (C := RN_Mod) (T := FN_Mod) (N := 25) hx hb ht fN_Mod hown hK hP 0 rfl rfl 1 (by decide) (ht _ mw_907) (fun _ h9 => h9) rfl dN_Mod_note_129 ?_
        refine xn_ge (tgt := 267) hx hb dN_Mod_note_132 (by decide) (by omega) (by omega) (fun c_132_7 => ?_) (fun c_132_7 => ?_)
        · skip
          refine lv_goto (tgt := 115) hx hb dN_Mod_note_267 (by decide) ?_
          exact ih_115_4 (f1, mo1) _ _ _ ⟨hP, hD, hS, lv_sub hl [0, 1, 2, 3, 4, 5] rfl, ⟨hab1, hsn1, fun h k h1 h2 => (hmo1 h).2 k h1 (by omega)⟩⟩ (show (cntF n f1 p + (if mo1 = true then 1 else 0)) < (cntF n f p + (if mo = true then 1 else 0)) from by rw [if_pos c_117_5]; cases mo1 with | true => (have := hmt1 rfl; simp; omega) | false => (rw [(hmo1 rfl).1]; simp))
        · skip
          refine lv_aload_n hx hb dN_Mod_note_135 rfl (lv_at hl 0 rfl) ?_
          refine va_get (D := D) (ci := 11) (v := .ref (q 9)) (C := RN_Mod) (T := FN_Mod) (N := 25) hx hb ht fN_Mod hown hK hP 0 rfl rfl 9 (by decide) (ht _ mw_915) (fun _ h9 => h9) rfl dN_Mod_note_136 ?_
          refine lv_sipush (v := (nI 200)) hx hb dN_Mod_note_139 (by decide) ?_
          refine lv_iload hx hb dN_Mod_note_142 (lv_at hl 4 rfl) ?_
          refine xn_mul hx hb dN_Mod_note_144 ?_
          refine lv_iload hx hb dN_Mod_note_145 (lv_at hl 6 rfl) ?_
          refine xn_add hx hb dN_Mod_note_147 ?_
          refine xz_ald hx hb hK hP 6 1 rfl rfl dN_Mod_note_148 (by omega) (by omega) ?_
          refine xz_ne0 (tgt := 261) hx hb dN_Mod_note_149 (by decide) (fun c_149_8 => ?_) (fun c_149_8 => ?_)
          · skip
            refine lv_iinc (v := (nI (k1 + 1))) (lv' := [(6, .int (nI (k1 + 1))), (0, .ref o), (1, .int (nI last)), (2, .int (nI to)), (3, .int (zi al)), (4, .int (nI p)), (5, .int (zi mo1))]) hx hb dN_Mod_note_261 hl (k := 6) rfl (nI_1 _) (by decide) rfl (fun ls hl => ?_)
            refine lv_goto (tgt := 126) hx hb dN_Mod_note_264 (by decide) ?_
            exact ih_126_6 (f1, mo1, k1 + 1) _ _ _ ⟨hP, hD, hS, lv_sub hl [1, 2, 3, 4, 5, 6, 0] rfl, ⟨by omega, by omega, hab1, hsn1, hct1, hmt1, fun h => ⟨(hmo1 h).1, Cld_more (hmo1 h).2 (fun h8 _ => by rw [c_149_8] at h8; cases h8)⟩⟩⟩ (show (n - (k1 + 1)) < (n - k1) from by omega)
          · skip
            refine lv_aload_n hx hb dN_Mod_note_152 rfl (lv_at hl 0 rfl) ?_
            refine lv_iload hx hb dN_Mod_note_153 (lv_at hl 6 rfl) ?_
            refine lv_iload hx hb dN_Mod_note_155 (lv_at hl 4 rfl) ?_
            refine vx_calli (wc := [(o, .inr (11, [.int (nI th), .int (nI n), .int (nI b), .ref (q 3), .ref (q 4), .ref (q 5), .ref (q 6), .ref (q 7), .int (nI len), .ref (q 9), .ref (q 10), .ref (q 11), .ref (q 12), .ref (q 13), .ref (q 14), .ref (q 15), .ref (q 16), .ref (q 17), .int (nI tr), .int (nI hi), .ref (q 20), .ref (q 21), .ref (q 22), .ref (q 23), .int (nI ma)])), (q 3, .inl (cI, 200, .inl (ni K))), (q 4, .inl (cI, 200, .inl vI)), (q 7, .inl (cI, 200, .inl (ni u)))]) (wr := [(q 5, .inl (cI, 200, .inl fI)), (q 6, .inl (cI, 200, .inl sI)), (q 9, .inl (cZ, 40200, .inl (zb f1)))]) [0, 1, 2, 5] [3, 4, 6] hK hP hD hS hA rfl rfl (by decide) (by decide) (va_runV (As := [.int (nI k1), .int (nI p)]) (rest := []) ⟨hx, hb, hml, hown, ht⟩ (kMod_passes l D cI cZ cJ o q th n b len tr hi ma K V u vI k1 p hn hle (by omega) (by omega) hu hK5 hv hvb hv4 _) (⟨callB_of 2 ht (TB_in2 gN_Mod_passes) rfl rfl rfl (ht _ mw_6) (ht _ mw_1033) (by decide +kernel) ⟨Nat.le_of_ble_eq_true rfl, Nat.le_of_ble_eq_true rfl⟩, ht _ mw_1035, ht _ ms_39⟩) (vx_preV [0, 1, 2, 5] hK hP hD (by decide) rfl (ci := 11) rfl 0 rfl) rfl rfl hl.1 rfl (lv_room (Nat.le_of_ble_eq_true rfl)) dN_Mod_note_157 ⟨Nat.le_of_ble_eq_true rfl, Nat.le_of_ble_eq_true rfl⟩) (fun r1 w1 H locs hq hP hD hS => ?_)
            obtain ⟨rfl, rfl⟩ := hq
            have hP : va_P D clN [(o, .inr (11, [.int (nI th), .int (nI n), .int (nI b), .ref (q 3), .ref (q 4), .ref (q 5), .ref (q 6), .ref (q 7), .int (nI len), .ref (q 9), .ref (q 10), .ref (q 11), .ref (q 12), .ref (q 13), .ref (q 14), .ref (q 15), .ref (q 16), .ref (q 17), .int (nI tr), .int (nI hi), .ref (q 20), .ref (q 21), .ref (q 22), .ref (q 23), .int (nI ma)])), (q 3, .inl (cI, 200, .inl (ni K))), (q 4, .inl (cI, 200, .inl vI)), (q 5, .inl (cI, 200, .inl fI)), (q 6, .inl (cI, 200, .inl sI)), (q 7, .inl (cI, 200, .inl (ni u))), (q 9, .inl (cZ, 40200, .inl (zb f1)))] H := hP.sub [3, 4, 5, 0, 1, 6, 2] rfl
            have hD : va_D A [(o, .inr (11, [.int (nI th), .int (nI n), .int (nI b), .ref (q 3), .ref (q 4), .ref (q 5), .ref (q 6), .ref (q 7), .int (nI len), .ref (q 9), .ref (q 10), .ref (q 11), .ref (q 12), .ref (q 13), .ref (q 14), .ref (q 15), .ref (q 16), .ref (q 17), .int (nI tr), .int (nI hi), .ref (q 20), .ref (q 21), .ref (q 22), .ref (q 23), .int (nI ma)])), (q 3, .inl (cI, 200, .inl (ni K))), (q 4, .inl (cI, 200, .inl vI)), (q 5, .inl (cI, 200, .inl fI)), (q 6, .inl (cI, 200, .inl sI)), (q 7, .inl (cI, 200, .inl (ni u))), (q 9, .inl (cZ, 40200, .inl (zb f1)))] := hD.sub [3, 4, 5, 0, 1, 6, 2] (by decide) rfl
            refine xz_ne0 (tgt := 166) hx hb dN_Mod_note_160 (by decide) (fun c_160_9 => ?_) (fun c_160_9 => ?_)
            · skip
              refine vx_join (α := Bool) (fun j11 => j11 = (f1 (200 * p + F k1) || (decide (K k1 = 2) && f1 (200 * p + S k1)))) (fun j11 => F0 m 226 ls [.int (zi j11)]) (fun j11 hj11 => ?_) (fun Jj11 => ?_)
              · skip
                have hj_is := hj11
                refine lv_istore (lv' := [(7, .int (zi j11)), (0, .ref o), (1, .int (nI last)), (2, .int (nI to)), (3, .int (zi al)), (4, .int (nI p)), (5, .int (zi mo1)), (6, .int (nI k1))]) hx hb dN_Mod_note_226 hl (by decide) rfl (fun ls hl => ?_)
                refine lv_aload_n hx hb dN_Mod_note_228 rfl (lv_at hl 1 rfl) ?_
                refine va_get (D := D) (ci := 11) (v := .ref (q 9)) (C := RN_Mod) (T := FN_Mod) (N := 25) hx hb ht fN_Mod hown hK hP 0 rfl rfl 9 (by decide) (ht _ mw_915) (fun _ h9 => h9) rfl dN_Mod_note_229 ?_
                refine lv_sipush (v := (nI 200)) hx hb dN_Mod_note_232 (by decide) ?_
                refine lv_iload hx hb dN_Mod_note_235 (lv_at hl 5 rfl) ?_
                refine xn_mul hx hb dN_Mod_note_237 ?_
                refine lv_iload hx hb dN_Mod_note_238 (lv_at hl 7 rfl) ?_
                refine xn_add hx hb dN_Mod_note_240 ?_
                refine lv_iload hx hb dN_Mod_note_241 (lv_at hl 0 rfl) ?_
                refine xz_ast hx hb hK hP hD hS 6 1 rfl rfl dN_Mod_note_243 (by omega) (by omega) (fun H locs hP hD hS => ?_)
                have hP : va_P D clN [(o, .inr (11, [.int (nI th), .int (nI n), .int (nI b), .ref (q 3), .ref (q 4), .ref (q 5), .ref (q 6), .ref (q 7), .int (nI len), .ref (q 9), .ref (q 10), .ref (q 11), .ref (q 12), .ref (q 13), .ref (q 14), .ref (q 15), .ref (q 16), .ref (q 17), .int (nI tr), .int (nI hi), .ref (q 20), .ref (q 21), .ref (q 22), .ref (q 23), .int (nI ma)])), (q 3, .inl (cI, 200, .inl (ni K))), (q 4, .inl (cI, 200, .inl vI)), (q 5, .inl (cI, 200, .inl fI)), (q 6, .inl (cI, 200, .inl sI)), (q 7, .inl (cI, 200, .inl (ni u))), (q 9, .inl (cZ, 40200, .inl (zb (ub f1 ((200 * p) + k1) j11))))] H := hP
                have hD : va_D A [(o, .inr (11, [.int (nI th), .int (nI n), .int (nI b), .ref (q 3), .ref (q 4), .ref (q 5), .ref (q 6), .ref (q 7), .int (nI len), .ref (q 9), .ref (q 10), .ref (q 11), .ref (q 12), .ref (q 13), .ref (q 14), .ref (q 15), .ref (q 16), .ref (q 17), .int (nI tr), .int (nI hi), .ref (q 20), .ref (q 21), .ref (q 22), .ref (q 23), .int (nI ma)])), (q 3, .inl (cI, 200, .inl (ni K))), (q 4, .inl (cI, 200, .inl vI)), (q 5, .inl (cI, 200, .inl fI)), (q 6, .inl (cI, 200, .inl sI)), (q 7, .inl (cI, 200, .inl (ni u))), (q 9, .inl (cZ, 40200, .inl (zb (ub f1 ((200 * p) + k1) j11))))] := hD
                refine vx_join (α := Bool) (fun j12 => j12 = (mo1 || j11)) (fun j12 => F0 m 259 ls [.int (zi j12)]) (fun j12 hj12 => ?_) (fun Jj12 => ?_)
                · skip
                  have hj_mo := hj12
                  refine lv_istore (lv' := [(5, .int (zi j12)), (7, .int (zi j11)), (0, .ref o), (1, .int (nI last)), (2, .int (nI to)), (3, .int (zi al)), (4, .int (nI p)), (6, .int (nI k1))]) hx hb dN_Mod_note_259 hl (by decide) rfl (fun ls hl => ?_)
                  refine lv_iinc (v := (nI (k1 + 1))) (lv' := [(6, .int (nI (k1 + 1))), (5, .int (zi j12)), (7, .int (zi j11)), (0, .ref o), (1, .int (nI last)), (2, .int (nI to)), (3, .int (zi al)), (4, .int (nI p))]) hx hb dN_Mod_note_261 hl (k := 7) rfl (nI_1 _) (by decide) rfl (fun ls hl => ?_)
                  refine lv_goto (tgt := 126) hx hb dN_Mod_note_264 (by decide) ?_
                  exact ih_126_6 (ub f1 ((200 * p) + k1) j11, j12, k1 + 1) _ _ _ ⟨hP, hD, hS, lv_sub hl [3, 4, 5, 6, 7, 1, 0] rfl, pass_step hn (by omega) c_149_8 c_160_9 (fun i h1 h2 h3 => (hf i h1 h2 (by omega)).2) (fun i h1 h2 h3 => (hs i h1 h2 h3).2) hk11 hab1 hsn1 hct1 hmt1 hmo1 hj_is hj_mo⟩ (show (n - (k1 + 1)) < (n - k1) from by omega)
                · skip
                  refine lv_iload hx hb dN_Mod_note_244 (lv_at hl 6 rfl) ?_
                  refine xz_ne0 (tgt := 254) hx hb dN_Mod_note_246 (by decide) (fun c_246_12 => ?_) (fun c_246_12 => ?_)
                  · skip
                    refine lv_iconst (v := (zi true)) hx hb dN_Mod_note_254 (by decide) ?_
                    refine lv_goto (tgt := 259) hx hb dN_Mod_note_255 (by decide) ?_
                    exact Jj12 (true) (by simp [c_6_1, c_18_3, c_117_5, c_132_7, c_149_8, c_160_9, c_246_12])
                  · skip
                    refine lv_iload hx hb dN_Mod_note_249 (lv_at hl 0 rfl) ?_
                    refine xz_eq0 (tgt := 258) hx hb dN_Mod_note_251 (by decide) (fun c_251_13 => ?_) (fun c_251_13 => ?_)
                    · skip
                      refine lv_iconst (v := (zi false)) hx hb dN_Mod_note_258 (by decide) ?_
                      exact Jj12 (false) (by simp [c_6_1, c_18_3, c_117_5, c_132_7, c_149_8, c_160_9, c_246_12, c_251_13])
                    · skip
                      refine lv_iconst (v := (zi true)) hx hb dN_Mod_note_254 (by decide) ?_
                      refine lv_goto (tgt := 259) hx hb dN_Mod_note_255 (by decide) ?_
                      exact Jj12 (true) (by simp [c_6_1, c_18_3, c_117_5, c_132_7, c_149_8, c_160_9, c_246_12, c_251_13])
              · skip
                refine lv_aload_n hx hb dN_Mod_note_166 rfl (lv_at hl 0 rfl) ?_
                refine va_get (D := D) (ci := 11) (v := .ref (q 9)) (C := RN_Mod) (T := FN_Mod) (N := 25) hx hb ht fN_Mod hown hK hP 0 rfl rfl 9 (by decide) (ht _ mw_915) (fun _ h9 => h9) rfl dN_Mod_note_167 ?_
                refine lv_sipush (v := (nI 200)) hx hb dN_Mod_note_170 (by decide) ?_
                refine lv_iload hx hb dN_Mod_note_173 (lv_at hl 4 rfl) ?_
                refine xn_mul hx hb dN_Mod_note_175 ?_
                refine lv_aload_n hx hb dN_Mod_note_176 rfl (lv_at hl 0 rfl) ?_
                refine va_get (D := D) (ci := 11) (v := .ref (q 5)) (C := RN_Mod) (T := FN_Mod) (N := 25) hx hb ht fN_Mod hown hK hP 0 rfl rfl 5 (by decide) (ht _ mw_911) (fun _ h9 => h9) rfl dN_Mod_note_177 ?_
                refine lv_iload hx hb dN_Mod_note_180 (lv_at hl 6 rfl) ?_
                refine xi_ald hx hb hK hP 3 0 rfl rfl dN_Mod_note_182 (by omega) (by omega) ?_
                refine xn_top (y := (nI (F k1))) (hf k1 (by omega) (by omega) (by have := (pasB_K c_160_9).2; omega)).1 ?_
                refine xn_add hx hb dN_Mod_note_183 ?_
                refine xz_ald hx hb hK hP 6 1 rfl rfl dN_Mod_note_184 (by have := (hf k1 (by omega) (by omega) (by have := (pasB_K c_160_9).2; omega)).2; omega) (by omega) ?_
                refine xz_ne0 (tgt := 221) hx hb dN_Mod_note_185 (by decide) (fun c_185_14 => ?_) (fun c_185_14 => ?_)
                · skip
                  refine lv_iconst (v := (zi true)) hx hb dN_Mod_note_221 (by decide) ?_
                  refine lv_goto (tgt := 226) hx hb dN_Mod_note_222 (by decide) ?_
                  exact Jj11 (true) (by simp [c_6_1, c_18_3, c_117_5, c_132_7, c_149_8, c_160_9, c_185_14])
                · skip
                  refine lv_aload_n hx hb dN_Mod_note_188 rfl (lv_at hl 0 rfl) ?_
                  refine va_get (D := D) (ci := 11) (v := .ref (q 3)) (C := RN_Mod) (T := FN_Mod) (N := 25) hx hb ht fN_Mod hown hK hP 0 rfl rfl 3 (by decide) (ht _ mw_909) (fun _ h9 => h9) rfl dN_Mod_note_189 ?_
                  refine lv_iload hx hb dN_Mod_note_192 (lv_at hl 6 rfl) ?_
                  refine xn_ald hx hb hK hP 1 0 rfl rfl dN_Mod_note_194 (by omega) (by omega) ?_
                  refine lv_iconst (v := (nI 2)) hx hb dN_Mod_note_195 (by decide) ?_
                  refine xn_ne (tgt := 225) hx hb dN_Mod_note_196 (by decide) (by have := hK5 k1; omega) (by omega) (fun c_196_15 => ?_) (fun c_196_15 => ?_)
                  · skip
                    refine lv_iconst (v := (zi false)) hx hb dN_Mod_note_225 (by decide) ?_
                    exact Jj11 (false) (by simp [c_6_1, c_18_3, c_117_5, c_132_7, c_149_8, c_160_9, c_185_14, c_196_15])
                  · skip
                    refine lv_aload_n hx hb dN_Mod_note_199 rfl (lv_at hl 0 rfl) ?_
                    refine va_get (D := D) (ci := 11) (v := .ref (q 9)) (C := RN_Mod) (T := FN_Mod) (N := 25) hx hb ht fN_Mod hown hK hP 0 rfl rfl 9 (by decide) (ht _ mw_915) (fun _ h9 => h9) rfl dN_Mod_note_200 ?_
                    refine lv_sipush (v := (nI 200)) hx hb dN_Mod_note_203 (by decide) ?_
                    refine lv_iload hx hb dN_Mod_note_206 (lv_at hl 4 rfl) ?_
                    refine xn_mul hx hb dN_Mod_note_208 ?_
                    refine lv_aload_n hx hb dN_Mod_note_209 rfl (lv_at hl 0 rfl) ?_
                    refine va_get (D := D) (ci := 11) (v := .ref (q 6)) (C := RN_Mod) (T := FN_Mod) (N := 25) hx hb ht fN_Mod hown hK hP 0 rfl rfl 6 (by decide) (ht _ mw_912) (fun _ h9 => h9) rfl dN_Mod_note_210 ?_
                    refine lv_iload hx hb dN_Mod_note_213 (lv_at hl 6 rfl) ?_
                    refine xi_ald hx hb hK hP 4 0 rfl rfl dN_Mod_note_215 (by omega) (by omega) ?_
                    refine xn_top (y := (nI (S k1))) (hs k1 (by omega) (by omega) c_196_15).1 ?_
                    refine xn_add hx hb dN_Mod_note_216 ?_
                    refine xz_ald hx hb hK hP 6 1 rfl rfl dN_Mod_note_217 (by have := (hs k1 (by omega) (by omega) c_196_15).2; omega) (by omega) ?_
                    refine xz_eq0 (tgt := 225) hx hb dN_Mod_note_218 (by decide) (fun c_218_16 => ?_) (fun c_218_16 => ?_)
                    · skip
                      refine lv_iconst (v := (zi false)) hx hb dN_Mod_note_225 (by decide) ?_
                      exact Jj11 (false) (by simp [c_6_1, c_18_3, c_117_5, c_132_7, c_149_8, c_160_9, c_185_14, c_196_15, c_218_16])
                    · skip
                      refine lv_iconst (v := (zi true)) hx hb dN_Mod_note_221 (by decide) ?_
                      refine lv_goto (tgt := 226) hx hb dN_Mod_note_222 (by decide) ?_
                      exact Jj11 (true) (by simp [c_6_1, c_18_3, c_117_5, c_132_7, c_149_8, c_160_9, c_185_14, c_196_15, c_218_16])
            · skip
              refine lv_goto (tgt := 261) hx hb dN_Mod_note_163 (by decide) ?_
              refine lv_iinc (v := (nI (k1 + 1))) (lv' := [(6, .int (nI (k1 + 1))), (0, .ref o), (1, .int (nI last)), (2, .int (nI to)), (3, .int (zi al)), (4, .int (nI p)), (5, .int (zi mo1))]) hx hb dN_Mod_note_261 hl (k := 6) rfl (nI_1 _) (by decide) rfl (fun ls hl => ?_)
              refine lv_goto (tgt := 126) hx hb dN_Mod_note_264 (by decide) ?_
              exact ih_126_6 (f1, mo1, k1 + 1) _ _ _ ⟨hP, hD, hS, lv_sub hl [1, 2, 3, 4, 5, 6, 0] rfl, ⟨by omega, by omega, hab1, hsn1, hct1, hmt1, fun h => ⟨(hmo1 h).1, Cld_more (hmo1 h).2 (fun _ h9 => by rw [c_160_9] at h9; cases h9)⟩⟩⟩ (show (n - (k1 + 1)) < (n - k1) from by omega)
    · skip
      refine lv_aload_n hx hb dN_Mod_note_21 rfl (lv_at hl 0 rfl) ?_
      refine va_get (D := D) (ci := 11) (v := .ref (q 9)) (C := RN_Mod) (T := FN_Mod) (N := 25) hx hb ht fN_Mod hown hK hP 0 rfl rfl 9 (by decide) (ht _ mw_915) (fun _ h9 => h9) rfl dN_Mod_note_22 ?_
      refine lv_sipush (v := (nI 200)) hx hb dN_Mod_note_25 (by decide) ?_
      refine lv_iload hx hb dN_Mod_note_28 (lv_at hl 4 rfl) ?_
      refine xn_mul hx hb dN_Mod_note_30 ?_
      refine lv_iload hx hb dN_Mod_note_31 (lv_at hl 5 rfl) ?_
      refine xn_add hx hb dN_Mod_note_33 ?_
      refine lv_iload hx hb dN_Mod_note_34 (lv_at hl 5 rfl) ?_
      refine xn_ne0 (tgt := 57) hx hb dN_Mod_note_36 (by decide) (by omega) (fun c_36_17 => ?_) (fun c_36_17 => ?_)
      · skip
        refine lv_aload_n hx hb dN_Mod_note_57 rfl (lv_at hl 0 rfl) ?_
        refine lv_iload hx hb dN_Mod_note_58 (lv_at hl 5 rfl) ?_
        refine lv_iload hx hb dN_Mod_note_60 (lv_at hl 4 rfl) ?_
        refine vx_calli (wc := [(o, .inr (11, [.int (nI th), .int (nI n), .int (nI b), .ref (q 3), .ref (q 4), .ref (q 5), .ref (q 6), .ref (q 7), .int (nI len), .ref (q 9), .ref (q 10), .ref (q 11), .ref (q 12), .ref (q 13), .ref (q 14), .ref (q 15), .ref (q 16), .ref (q 17), .int (nI tr), .int (nI hi), .ref (q 20), .ref (q 21), .ref (q 22), .ref (q 23), .int (nI ma)])), (q 3, .inl (cI, 200, .inl (ni K))), (q 4, .inl (cI, 200, .inl vI)), (q 7, .inl (cI, 200, .inl (ni u)))]) (wr := [(q 5, .inl (cI, 200, .inl fI)), (q 6, .inl (cI, 200, .inl sI)), (q 9, .inl (cZ, 40200, .inl (zb f)))]) [0, 1, 2, 5] [3, 4, 6] hK hP hD hS hA rfl rfl (by decide) (by decide) (va_runV (As := [.int (nI k), .int (nI p)]) (rest := [.int (nI ((200 * p) + k)), .ref (q 9)]) ⟨hx, hb, hml, hown, ht⟩ (kMod_takes l D cI cZ cJ o q th n b len tr hi ma K V u vI k p hn hle (by omega) (by omega) hu hK5 hv hvb _) (⟨callB_of 2 ht (TB_in2 gN_Mod_takes) rfl rfl rfl (ht _ mw_6) (ht _ mw_1029) (by decide +kernel) ⟨Nat.le_of_ble_eq_true rfl, Nat.le_of_ble_eq_true rfl⟩, ht _ mw_1031, ht _ ms_38⟩) (vx_preV [0, 1, 2, 5] hK hP hD (by decide) rfl (ci := 11) rfl 0 rfl) rfl rfl hl.1 rfl (lv_room (Nat.le_of_ble_eq_true rfl)) dN_Mod_note_62 ⟨Nat.le_of_ble_eq_true rfl, Nat.le_of_ble_eq_true rfl⟩) (fun r1 w1 H locs hq hP hD hS => ?_)
        obtain ⟨rfl, rfl⟩ := hq
        have hP : va_P D clN [(o, .inr (11, [.int (nI th), .int (nI n), .int (nI b), .ref (q 3), .ref (q 4), .ref (q 5), .ref (q 6), .ref (q 7), .int (nI len), .ref (q 9), .ref (q 10), .ref (q 11), .ref (q 12), .ref (q 13), .ref (q 14), .ref (q 15), .ref (q 16), .ref (q 17), .int (nI tr), .int (nI hi), .ref (q 20), .ref (q 21), .ref (q 22), .ref (q 23), .int (nI ma)])), (q 3, .inl (cI, 200, .inl (ni K))), (q 4, .inl (cI, 200, .inl vI)), (q 5, .inl (cI, 200, .inl fI)), (q 6, .inl (cI, 200, .inl sI)), (q 7, .inl (cI, 200, .inl (ni u))), (q 9, .inl (cZ, 40200, .inl (zb f)))] H := hP.sub [3, 4, 5, 0, 1, 6, 2] rfl
        have hD : va_D A [(o, .inr (11, [.int (nI th), .int (nI n), .int (nI b), .ref (q 3), .ref (q 4), .ref (q 5), .ref (q 6), .ref (q 7), .int (nI len), .ref (q 9), .ref (q 10), .ref (q 11), .ref (q 12), .ref (q 13), .ref (q 14), .ref (q 15), .ref (q 16), .ref (q 17), .int (nI tr), .int (nI hi), .ref (q 20), .ref (q 21), .ref (q 22), .ref (q 23), .int (nI ma)])), (q 3, .inl (cI, 200, .inl (ni K))), (q 4, .inl (cI, 200, .inl vI)), (q 5, .inl (cI, 200, .inl fI)), (q 6, .inl (cI, 200, .inl sI)), (q 7, .inl (cI, 200, .inl (ni u))), (q 9, .inl (cZ, 40200, .inl (zb f)))] := hD.sub [3, 4, 5, 0, 1, 6, 2] (by decide) rfl
        refine xz_eq0 (tgt := 104) hx hb dN_Mod_note_65 (by decide) (fun c_65_18 => ?_) (fun c_65_18 => ?_)
        · skip
          refine lv_iconst (v := (zi false)) hx hb dN_Mod_note_104 (by decide) ?_
          refine xz_ast hx hb hK hP hD hS 6 1 rfl rfl dN_Mod_note_105 (by omega) (by omega) (fun H locs hP hD hS => ?_)
          have hP : va_P D clN [(o, .inr (11, [.int (nI th), .int (nI n), .int (nI b), .ref (q 3), .ref (q 4), .ref (q 5), .ref (q 6), .ref (q 7), .int (nI len), .ref (q 9), .ref (q 10), .ref (q 11), .ref (q 12), .ref (q 13), .ref (q 14), .ref (q 15), .ref (q 16), .ref (q 17), .int (nI tr), .int (nI hi), .ref (q 20), .ref (q 21), .ref (q 22), .ref (q 23), .int (nI ma)])), (q 3, .inl (cI, 200, .inl (ni K))), (q 4, .inl (cI, 200, .inl vI)), (q 5, .inl (cI, 200, .inl fI)), (q 6, .inl (cI, 200, .inl sI)), (q 7, .inl (cI, 200, .inl (ni u))), (q 9, .inl (cZ, 40200, .inl (zb (ub f ((200 * p) + k) false))))] H := hP
          have hD : va_D A [(o, .inr (11, [.int (nI th), .int (nI n), .int (nI b), .ref (q 3), .ref (q 4), .ref (q 5), .ref (q 6), .ref (q 7), .int (nI len), .ref (q 9), .ref (q 10), .ref (q 11), .ref (q 12), .ref (q 13), .ref (q 14), .ref (q 15), .ref (q 16), .ref (q 17), .int (nI tr), .int (nI hi), .ref (q 20), .ref (q 21), .ref (q 22), .ref (q 23), .int (nI ma)])), (q 3, .inl (cI, 200, .inl (ni K))), (q 4, .inl (cI, 200, .inl vI)), (q 5, .inl (cI, 200, .inl fI)), (q 6, .inl (cI, 200, .inl sI)), (q 7, .inl (cI, 200, .inl (ni u))), (q 9, .inl (cZ, 40200, .inl (zb (ub f ((200 * p) + k) false))))] := hD
          refine lv_iinc (v := (nI (k + 1))) (lv' := [(5, .int (nI (k + 1))), (0, .ref o), (1, .int (nI last)), (2, .int (nI to)), (3, .int (zi al)), (4, .int (nI p))]) hx hb dN_Mod_note_106 hl (k := 5) rfl (nI_1 _) (by decide) rfl (fun ls hl => ?_)
          refine lv_goto (tgt := 12) hx hb dN_Mod_note_109 (by decide) ?_
          exact ih_12_2 (ub f ((200 * p) + k) false, k + 1) _ _ _ ⟨hP, hD, hS, lv_sub hl [1, 2, 3, 4, 5, 0] rfl, ⟨by omega, Above_ub hn (by omega) hab, Bs_step hbs (bs_f1 c_36_17 (Or.inl c_65_18))⟩⟩ (show (n - (k + 1)) < (n - k) from by omega)
        · skip
          refine lv_iload hx hb dN_Mod_note_68 (lv_at hl 4 rfl) ?_
          refine lv_iload_n hx hb dN_Mod_note_70 rfl (lv_at hl 1 rfl) ?_
          refine xn_ge (tgt := 104) hx hb dN_Mod_note_71 (by decide) (by omega) (by omega) (fun c_71_19 => ?_) (fun c_71_19 => ?_)
          · skip
            refine lv_iconst (v := (zi false)) hx hb dN_Mod_note_104 (by decide) ?_
            refine xz_ast hx hb hK hP hD hS 6 1 rfl rfl dN_Mod_note_105 (by omega) (by omega) (fun H locs hP hD hS => ?_)
            have hP : va_P D clN [(o, .inr (11, [.int (nI th), .int (nI n), .int (nI b), .ref (q 3), .ref (q 4), .ref (q 5), .ref (q 6), .ref (q 7), .int (nI len), .ref (q 9), .ref (q 10), .ref (q 11), .ref (q 12), .ref (q 13), .ref (q 14), .ref (q 15), .ref (q 16), .ref (q 17), .int (nI tr), .int (nI hi), .ref (q 20), .ref (q 21), .ref (q 22), .ref (q 23), .int (nI ma)])), (q 3, .inl (cI, 200, .inl (ni K))), (q 4, .inl (cI, 200, .inl vI)), (q 5, .inl (cI, 200, .inl fI)), (q 6, .inl (cI, 200, .inl sI)), (q 7, .inl (cI, 200, .inl (ni u))), (q 9, .inl (cZ, 40200, .inl (zb (ub f ((200 * p) + k) false))))] H := hP
            have hD : va_D A [(o, .inr (11, [.int (nI th), .int (nI n), .int (nI b), .ref (q 3), .ref (q 4), .ref (q 5), .ref (q 6), .ref (q 7), .int (nI len), .ref (q 9), .ref (q 10), .ref (q 11), .ref (q 12), .ref (q 13), .ref (q 14), .ref (q 15), .ref (q 16), .ref (q 17), .int (nI tr), .int (nI hi), .ref (q 20), .ref (q 21), .ref (q 22), .ref (q 23), .int (nI ma)])), (q 3, .inl (cI, 200, .inl (ni K))), (q 4, .inl (cI, 200, .inl vI)), (q 5, .inl (cI, 200, .inl fI)), (q 6, .inl (cI, 200, .inl sI)), (q 7, .inl (cI, 200, .inl (ni u))), (q 9, .inl (cZ, 40200, .inl (zb (ub f ((200 * p) + k) false))))] := hD
            refine lv_iinc (v := (nI (k + 1))) (lv' := [(5, .int (nI (k + 1))), (0, .ref o), (1, .int (nI last)), (2, .int (nI to)), (3, .int (zi al)), (4, .int (nI p))]) hx hb dN_Mod_note_106 hl (k := 5) rfl (nI_1 _) (by decide) rfl (fun ls hl => ?_)
            refine lv_goto (tgt := 12) hx hb dN_Mod_note_109 (by decide) ?_
            exact ih_12_2 (ub f ((200 * p) + k) false, k + 1) _ _ _ ⟨hP, hD, hS, lv_sub hl [1, 2, 3, 4, 5, 0] rfl, ⟨by omega, Above_ub hn (by omega) hab, Bs_step hbs (bs_f1 c_36_17 (Or.inr (Or.inl c_71_19)))⟩⟩ (show (n - (k + 1)) < (n - k) from by omega)
          · skip
            refine lv_aload_n hx hb dN_Mod_note_74 rfl (lv_at hl 0 rfl) ?_
            refine va_get (D := D) (ci := 11) (v := .ref (q 9)) (C := RN_Mod) (T := FN_Mod) (N := 25) hx hb ht fN_Mod hown hK hP 0 rfl rfl 9 (by decide) (ht _ mw_915) (fun _ h9 => h9) rfl dN_Mod_note_75 ?_
            refine lv_sipush (v := (nI 200)) hx hb dN_Mod_note_78 (by decide) ?_
            refine lv_iload hx hb dN_Mod_note_81 (lv_at hl 4 rfl) ?_
            refine xn_mul hx hb dN_Mod_note_83 ?_
            refine lv_sipush (v := (nI 200)) hx hb dN_Mod_note_84 (by decide) ?_
            refine xn_add hx hb dN_Mod_note_87 ?_
            refine lv_aload_n hx hb dN_Mod_note_88 rfl (lv_at hl 0 rfl) ?_
            refine va_get (D := D) (ci := 11) (v := .ref (q 5)) (C := RN_Mod) (T := FN_Mod) (N := 25) hx hb ht fN_Mod hown hK hP 0 rfl rfl 5 (by decide) (ht _ mw_911) (fun _ h9 => h9) rfl dN_Mod_note_89 ?_
            refine lv_iload hx hb dN_Mod_note_92 (lv_at hl 5 rfl) ?_
            refine xi_ald hx hb hK hP 3 0 rfl rfl dN_Mod_note_94 (by omega) (by omega) ?_
            refine xn_top (y := (nI (F k))) (hf k (by omega) (by omega) (Or.inl (takB_K c_65_18).2.1)).1 ?_
            refine xn_add hx hb dN_Mod_note_95 ?_
            refine xz_ald hx hb hK hP 6 1 rfl rfl dN_Mod_note_96 (by have := (hf k (by omega) (by omega) (Or.inl (takB_K c_65_18).2.1)).2; omega) (by omega) ?_
            refine xz_eq0 (tgt := 104) hx hb dN_Mod_note_97 (by decide) (fun c_97_20 => ?_) (fun c_97_20 => ?_)
            · skip
              refine lv_iconst (v := (zi false)) hx hb dN_Mod_note_104 (by decide) ?_
              refine xz_ast hx hb hK hP hD hS 6 1 rfl rfl dN_Mod_note_105 (by omega) (by omega) (fun H locs hP hD hS => ?_)
              have hP : va_P D clN [(o, .inr (11, [.int (nI th), .int (nI n), .int (nI b), .ref (q 3), .ref (q 4), .ref (q 5), .ref (q 6), .ref (q 7), .int (nI len), .ref (q 9), .ref (q 10), .ref (q 11), .ref (q 12), .ref (q 13), .ref (q 14), .ref (q 15), .ref (q 16), .ref (q 17), .int (nI tr), .int (nI hi), .ref (q 20), .ref (q 21), .ref (q 22), .ref (q 23), .int (nI ma)])), (q 3, .inl (cI, 200, .inl (ni K))), (q 4, .inl (cI, 200, .inl vI)), (q 5, .inl (cI, 200, .inl fI)), (q 6, .inl (cI, 200, .inl sI)), (q 7, .inl (cI, 200, .inl (ni u))), (q 9, .inl (cZ, 40200, .inl (zb (ub f ((200 * p) + k) false))))] H := hP
              have hD : va_D A [(o, .inr (11, [.int (nI th), .int (nI n), .int (nI b), .ref (q 3), .ref (q 4), .ref (q 5), .ref (q 6), .ref (q 7), .int (nI len), .ref (q 9), .ref (q 10), .ref (q 11), .ref (q 12), .ref (q 13), .ref (q 14), .ref (q 15), .ref (q 16), .ref (q 17), .int (nI tr), .int (nI hi), .ref (q 20), .ref (q 21), .ref (q 22), .ref (q 23), .int (nI ma)])), (q 3, .inl (cI, 200, .inl (ni K))), (q 4, .inl (cI, 200, .inl vI)), (q 5, .inl (cI, 200, .inl fI)), (q 6, .inl (cI, 200, .inl sI)), (q 7, .inl (cI, 200, .inl (ni u))), (q 9, .inl (cZ, 40200, .inl (zb (ub f ((200 * p) + k) false))))] := hD
              refine lv_iinc (v := (nI (k + 1))) (lv' := [(5, .int (nI (k + 1))), (0, .ref o), (1, .int (nI last)), (2, .int (nI to)), (3, .int (zi al)), (4, .int (nI p))]) hx hb dN_Mod_note_106 hl (k := 5) rfl (nI_1 _) (by decide) rfl (fun ls hl => ?_)
              refine lv_goto (tgt := 12) hx hb dN_Mod_note_109 (by decide) ?_
              exact ih_12_2 (ub f ((200 * p) + k) false, k + 1) _ _ _ ⟨hP, hD, hS, lv_sub hl [1, 2, 3, 4, 5, 0] rfl, ⟨by omega, Above_ub hn (by omega) hab, Bs_step hbs (bs_f1 c_36_17 (Or.inr (Or.inr (fun z => by have h9 := (hab (p + 1) (F k) (by omega) (by omega) (hf k (by omega) (by omega) (Or.inl (takB_K c_65_18).2.1)).2).mpr z; rw [show 200 * (p + 1) + F k = 200 * p + 200 + F k by omega] at h9; rw [c_97_20] at h9; cases h9))))⟩⟩ (show (n - (k + 1)) < (n - k) from by omega)
            · skip
              refine lv_iconst (v := (zi true)) hx hb dN_Mod_note_100 (by decide) ?_
              refine lv_goto (tgt := 105) hx hb dN_Mod_note_101 (by decide) ?_
              refine xz_ast hx hb hK hP hD hS 6 1 rfl rfl dN_Mod_note_105 (by omega) (by omega) (fun H locs hP hD hS => ?_)
              have hP : va_P D clN [(o, .inr (11, [.int (nI th), .int (nI n), .int (nI b), .ref (q 3), .ref (q 4), .ref (q 5), .ref (q 6), .ref (q 7), .int (nI len), .ref (q 9), .ref (q 10), .ref (q 11), .ref (q 12), .ref (q 13), .ref (q 14), .ref (q 15), .ref (q 16), .ref (q 17), .int (nI tr), .int (nI hi), .ref (q 20), .ref (q 21), .ref (q 22), .ref (q 23), .int (nI ma)])), (q 3, .inl (cI, 200, .inl (ni K))), (q 4, .inl (cI, 200, .inl vI)), (q 5, .inl (cI, 200, .inl fI)), (q 6, .inl (cI, 200, .inl sI)), (q 7, .inl (cI, 200, .inl (ni u))), (q 9, .inl (cZ, 40200, .inl (zb (ub f ((200 * p) + k) true))))] H := hP
              have hD : va_D A [(o, .inr (11, [.int (nI th), .int (nI n), .int (nI b), .ref (q 3), .ref (q 4), .ref (q 5), .ref (q 6), .ref (q 7), .int (nI len), .ref (q 9), .ref (q 10), .ref (q 11), .ref (q 12), .ref (q 13), .ref (q 14), .ref (q 15), .ref (q 16), .ref (q 17), .int (nI tr), .int (nI hi), .ref (q 20), .ref (q 21), .ref (q 22), .ref (q 23), .int (nI ma)])), (q 3, .inl (cI, 200, .inl (ni K))), (q 4, .inl (cI, 200, .inl vI)), (q 5, .inl (cI, 200, .inl fI)), (q 6, .inl (cI, 200, .inl sI)), (q 7, .inl (cI, 200, .inl (ni u))), (q 9, .inl (cZ, 40200, .inl (zb (ub f ((200 * p) + k) true))))] := hD
              refine lv_iinc (v := (nI (k + 1))) (lv' := [(5, .int (nI (k + 1))), (0, .ref o), (1, .int (nI last)), (2, .int (nI to)), (3, .int (zi al)), (4, .int (nI p))]) hx hb dN_Mod_note_106 hl (k := 5) rfl (nI_1 _) (by decide) rfl (fun ls hl => ?_)
              refine lv_goto (tgt := 12) hx hb dN_Mod_note_109 (by decide) ?_
              exact ih_12_2 (ub f ((200 * p) + k) true, k + 1) _ _ _ ⟨hP, hD, hS, lv_sub hl [1, 2, 3, 4, 5, 0] rfl, ⟨by omega, Above_ub hn (by omega) hab, Bs_step hbs (bs_t1 c_65_18 c_71_19 ((hab (p + 1) (F k) (by omega) (by omega) (hf k (by omega) (by omega) (Or.inl (takB_K c_65_18).2.1)).2).mp (by have := c_97_20; rw [show 200 * (p + 1) + F k = 200 * p + 200 + F k by omega]; exact this)))⟩⟩ (show (n - (k + 1)) < (n - k) from by omega)
      · skip
        refine lv_iload hx hb dN_Mod_note_39 (lv_at hl 4 rfl) ?_
        refine lv_iload_n hx hb dN_Mod_note_41 rfl (lv_at hl 1 rfl) ?_
        refine xn_eq (tgt := 49) hx hb dN_Mod_note_42 (by decide) (by omega) (by omega) (fun c_42_21 => ?_) (fun c_42_21 => ?_)
        · skip
          refine lv_iconst (v := (zi true)) hx hb dN_Mod_note_49 (by decide) ?_
          refine lv_goto (tgt := 105) hx hb dN_Mod_note_50 (by decide) ?_
          refine xz_ast hx hb hK hP hD hS 6 1 rfl rfl dN_Mod_note_105 (by omega) (by omega) (fun H locs hP hD hS => ?_)
          have hP : va_P D clN [(o, .inr (11, [.int (nI th), .int (nI n), .int (nI b), .ref (q 3), .ref (q 4), .ref (q 5), .ref (q 6), .ref (q 7), .int (nI len), .ref (q 9), .ref (q 10), .ref (q 11), .ref (q 12), .ref (q 13), .ref (q 14), .ref (q 15), .ref (q 16), .ref (q 17), .int (nI tr), .int (nI hi), .ref (q 20), .ref (q 21), .ref (q 22), .ref (q 23), .int (nI ma)])), (q 3, .inl (cI, 200, .inl (ni K))), (q 4, .inl (cI, 200, .inl vI)), (q 5, .inl (cI, 200, .inl fI)), (q 6, .inl (cI, 200, .inl sI)), (q 7, .inl (cI, 200, .inl (ni u))), (q 9, .inl (cZ, 40200, .inl (zb (ub f ((200 * p) + k) true))))] H := hP
          have hD : va_D A [(o, .inr (11, [.int (nI th), .int (nI n), .int (nI b), .ref (q 3), .ref (q 4), .ref (q 5), .ref (q 6), .ref (q 7), .int (nI len), .ref (q 9), .ref (q 10), .ref (q 11), .ref (q 12), .ref (q 13), .ref (q 14), .ref (q 15), .ref (q 16), .ref (q 17), .int (nI tr), .int (nI hi), .ref (q 20), .ref (q 21), .ref (q 22), .ref (q 23), .int (nI ma)])), (q 3, .inl (cI, 200, .inl (ni K))), (q 4, .inl (cI, 200, .inl vI)), (q 5, .inl (cI, 200, .inl fI)), (q 6, .inl (cI, 200, .inl sI)), (q 7, .inl (cI, 200, .inl (ni u))), (q 9, .inl (cZ, 40200, .inl (zb (ub f ((200 * p) + k) true))))] := hD
          refine lv_iinc (v := (nI (k + 1))) (lv' := [(5, .int (nI (k + 1))), (0, .ref o), (1, .int (nI last)), (2, .int (nI to)), (3, .int (zi al)), (4, .int (nI p))]) hx hb dN_Mod_note_106 hl (k := 5) rfl (nI_1 _) (by decide) rfl (fun ls hl => ?_)
          refine lv_goto (tgt := 12) hx hb dN_Mod_note_109 (by decide) ?_
          exact ih_12_2 (ub f ((200 * p) + k) true, k + 1) _ _ _ ⟨hP, hD, hS, lv_sub hl [1, 2, 3, 4, 5, 0] rfl, ⟨by omega, Above_ub hn (by omega) hab, Bs_step hbs (bs_t0 c_36_17 (Or.inl c_42_21))⟩⟩ (show (n - (k + 1)) < (n - k) from by omega)
        · skip
          refine lv_iload_n hx hb dN_Mod_note_45 rfl (lv_at hl 3 rfl) ?_
          refine xz_ne0 (tgt := 53) hx hb dN_Mod_note_46 (by decide) (fun c_46_22 => ?_) (fun c_46_22 => ?_)
          · skip
            refine lv_iconst (v := (zi false)) hx hb dN_Mod_note_53 (by decide) ?_
            refine lv_goto (tgt := 105) hx hb dN_Mod_note_54 (by decide) ?_
            refine xz_ast hx hb hK hP hD hS 6 1 rfl rfl dN_Mod_note_105 (by omega) (by omega) (fun H locs hP hD hS => ?_)
            have hP : va_P D clN [(o, .inr (11, [.int (nI th), .int (nI n), .int (nI b), .ref (q 3), .ref (q 4), .ref (q 5), .ref (q 6), .ref (q 7), .int (nI len), .ref (q 9), .ref (q 10), .ref (q 11), .ref (q 12), .ref (q 13), .ref (q 14), .ref (q 15), .ref (q 16), .ref (q 17), .int (nI tr), .int (nI hi), .ref (q 20), .ref (q 21), .ref (q 22), .ref (q 23), .int (nI ma)])), (q 3, .inl (cI, 200, .inl (ni K))), (q 4, .inl (cI, 200, .inl vI)), (q 5, .inl (cI, 200, .inl fI)), (q 6, .inl (cI, 200, .inl sI)), (q 7, .inl (cI, 200, .inl (ni u))), (q 9, .inl (cZ, 40200, .inl (zb (ub f ((200 * p) + k) false))))] H := hP
            have hD : va_D A [(o, .inr (11, [.int (nI th), .int (nI n), .int (nI b), .ref (q 3), .ref (q 4), .ref (q 5), .ref (q 6), .ref (q 7), .int (nI len), .ref (q 9), .ref (q 10), .ref (q 11), .ref (q 12), .ref (q 13), .ref (q 14), .ref (q 15), .ref (q 16), .ref (q 17), .int (nI tr), .int (nI hi), .ref (q 20), .ref (q 21), .ref (q 22), .ref (q 23), .int (nI ma)])), (q 3, .inl (cI, 200, .inl (ni K))), (q 4, .inl (cI, 200, .inl vI)), (q 5, .inl (cI, 200, .inl fI)), (q 6, .inl (cI, 200, .inl sI)), (q 7, .inl (cI, 200, .inl (ni u))), (q 9, .inl (cZ, 40200, .inl (zb (ub f ((200 * p) + k) false))))] := hD
            refine lv_iinc (v := (nI (k + 1))) (lv' := [(5, .int (nI (k + 1))), (0, .ref o), (1, .int (nI last)), (2, .int (nI to)), (3, .int (zi al)), (4, .int (nI p))]) hx hb dN_Mod_note_106 hl (k := 5) rfl (nI_1 _) (by decide) rfl (fun ls hl => ?_)
            refine lv_goto (tgt := 12) hx hb dN_Mod_note_109 (by decide) ?_
            exact ih_12_2 (ub f ((200 * p) + k) false, k + 1) _ _ _ ⟨hP, hD, hS, lv_sub hl [1, 2, 3, 4, 5, 0] rfl, ⟨by omega, Above_ub hn (by omega) hab, Bs_step hbs (bs_f0 c_36_17 c_42_21 c_46_22)⟩⟩ (show (n - (k + 1)) < (n - k) from by omega)
          · skip
            refine lv_iconst (v := (zi true)) hx hb dN_Mod_note_49 (by decide) ?_
            refine lv_goto (tgt := 105) hx hb dN_Mod_note_50 (by decide) ?_
            refine xz_ast hx hb hK hP hD hS 6 1 rfl rfl dN_Mod_note_105 (by omega) (by omega) (fun H locs hP hD hS => ?_)
            have hP : va_P D clN [(o, .inr (11, [.int (nI th), .int (nI n), .int (nI b), .ref (q 3), .ref (q 4), .ref (q 5), .ref (q 6), .ref (q 7), .int (nI len), .ref (q 9), .ref (q 10), .ref (q 11), .ref (q 12), .ref (q 13), .ref (q 14), .ref (q 15), .ref (q 16), .ref (q 17), .int (nI tr), .int (nI hi), .ref (q 20), .ref (q 21), .ref (q 22), .ref (q 23), .int (nI ma)])), (q 3, .inl (cI, 200, .inl (ni K))), (q 4, .inl (cI, 200, .inl vI)), (q 5, .inl (cI, 200, .inl fI)), (q 6, .inl (cI, 200, .inl sI)), (q 7, .inl (cI, 200, .inl (ni u))), (q 9, .inl (cZ, 40200, .inl (zb (ub f ((200 * p) + k) true))))] H := hP
            have hD : va_D A [(o, .inr (11, [.int (nI th), .int (nI n), .int (nI b), .ref (q 3), .ref (q 4), .ref (q 5), .ref (q 6), .ref (q 7), .int (nI len), .ref (q 9), .ref (q 10), .ref (q 11), .ref (q 12), .ref (q 13), .ref (q 14), .ref (q 15), .ref (q 16), .ref (q 17), .int (nI tr), .int (nI hi), .ref (q 20), .ref (q 21), .ref (q 22), .ref (q 23), .int (nI ma)])), (q 3, .inl (cI, 200, .inl (ni K))), (q 4, .inl (cI, 200, .inl vI)), (q 5, .inl (cI, 200, .inl fI)), (q 6, .inl (cI, 200, .inl sI)), (q 7, .inl (cI, 200, .inl (ni u))), (q 9, .inl (cZ, 40200, .inl (zb (ub f ((200 * p) + k) true))))] := hD
            refine lv_iinc (v := (nI (k + 1))) (lv' := [(5, .int (nI (k + 1))), (0, .ref o), (1, .int (nI last)), (2, .int (nI to)), (3, .int (zi al)), (4, .int (nI p))]) hx hb dN_Mod_note_106 hl (k := 5) rfl (nI_1 _) (by decide) rfl (fun ls hl => ?_)
            refine lv_goto (tgt := 12) hx hb dN_Mod_note_109 (by decide) ?_
            exact ih_12_2 (ub f ((200 * p) + k) true, k + 1) _ _ _ ⟨hP, hD, hS, lv_sub hl [1, 2, 3, 4, 5, 0] rfl, ⟨by omega, Above_ub hn (by omega) hab, Bs_step hbs (bs_t0 c_36_17 (Or.inr c_46_22))⟩⟩ (show (n - (k + 1)) < (n - k) from by omega)
end
section
/-! Forward: what can be come to from the beginning at place p0. -/
def fwN (K V F S : Nat → Nat) (len : Nat) (u : Nat → Nat) (p0 b : Nat) : Nat → Nat → Nat → Prop
  | 0, p, k => p = p0 ∧ k = b
  | m + 1, p, k => fwN K V F S len u p0 b m p k ∨ (∃ p1 k1, fwN K V F S len u p0 b m p1 k1 ∧ takB K V len u k1 p1 = true ∧ p = p1 + 1 ∧ k = F k1) ∨ (∃ k1, fwN K V F S len u p0 b m p k1 ∧ pasB K V len u k1 p = true ∧ (k = F k1 ∨ (K k1 = 2 ∧ k = S k1)))
def Fw (K V F S : Nat → Nat) (len : Nat) (u : Nat → Nat) (p0 b p k : Nat) : Prop := ∃ m, fwN K V F S len u p0 b m p k
def Ent (K V F S : Nat → Nat) (len : Nat) (u : Nat → Nat) (p0 b p k : Nat) : Prop := (p = p0 ∧ k = b) ∨ ∃ p1 k1, Fw K V F S len u p0 b p1 k1 ∧ takB K V len u k1 p1 = true ∧ p = p1 + 1 ∧ k = F k1
section FW
variable {K V F S : Nat → Nat} {len : Nat} {u : Nat → Nat} {p0 b p k n : Nat}
theorem Fw_0 : Fw K V F S len u p0 b p0 b := ⟨0, rfl, rfl⟩
theorem Fw_t {k1 : Nat} (h : Fw K V F S len u p0 b p k1) (ht : takB K V len u k1 p = true) : Fw K V F S len u p0 b (p + 1) (F k1) := by
  obtain ⟨m, hm⟩ := h
  exact ⟨m + 1, Or.inr (Or.inl ⟨p, k1, hm, ht, rfl, rfl⟩)⟩
theorem Fw_f {k1 : Nat} (h : Fw K V F S len u p0 b p k1) (hp : pasB K V len u k1 p = true) : Fw K V F S len u p0 b p (F k1) := by
  obtain ⟨m, hm⟩ := h
  exact ⟨m + 1, Or.inr (Or.inr ⟨k1, hm, hp, Or.inl rfl⟩)⟩
theorem Fw_s {k1 : Nat} (h : Fw K V F S len u p0 b p k1) (hp : pasB K V len u k1 p = true) (h2 : K k1 = 2) : Fw K V F S len u p0 b p (S k1) := by
  obtain ⟨m, hm⟩ := h
  exact ⟨m + 1, Or.inr (Or.inr ⟨k1, hm, hp, Or.inr ⟨h2, rfl⟩⟩)⟩
theorem Ent_Fw (h : Ent K V F S len u p0 b p k) : Fw K V F S len u p0 b p k := by
  rcases h with ⟨rfl, rfl⟩ | ⟨p1, k1, h1, h2, rfl, rfl⟩
  · exact Fw_0
  · exact Fw_t h1 h2
theorem Fw_ge (h : Fw K V F S len u p0 b p k) : p0 ≤ p := by
  obtain ⟨m, hm⟩ := h
  induction m generalizing p k with
  | zero => exact Nat.le_of_eq hm.1.symm
  | succ m ih =>
    rcases hm with hm | ⟨p1, k1, h1, _, rfl, _⟩ | ⟨k1, h1, _⟩
    · exact ih hm
    · have := ih h1; omega
    · exact ih h1
theorem Fw_len (hp : p0 ≤ len) (h : Fw K V F S len u p0 b p k) : p ≤ len := by
  obtain ⟨m, hm⟩ := h
  induction m generalizing p k with
  | zero => rw [hm.1]; exact hp
  | succ m ih =>
    rcases hm with hm | ⟨p1, k1, h1, h2, rfl, _⟩ | ⟨k1, h1, _⟩
    · exact ih hm
    · have := (takB_K h2).2.2.1; omega
    · exact ih h1
theorem Fw_lt (hb : b < n) (hF1 : ∀ i, 0 < i → i < n → (K i = 1 ∨ K i = 2 ∨ K i = 3 ∨ K i = 4) → F i < n) (hS : ∀ i, 0 < i → i < n → K i = 2 → S i < n) (h : Fw K V F S len u p0 b p k) : k < n := by
  obtain ⟨m, hm⟩ := h
  induction m generalizing p k with
  | zero => rw [hm.2]; exact hb
  | succ m ih =>
    rcases hm with hm | ⟨p1, k1, h1, h2, _, rfl⟩ | ⟨k1, h1, h2, h3⟩
    · exact ih hm
    · exact hF1 k1 (takB_K h2).1 (ih h1) (Or.inl (takB_K h2).2.1)
    · have hk := pasB_K h2
      rcases h3 with rfl | ⟨h3, rfl⟩
      · exact hF1 k1 hk.1 (ih h1) (by omega)
      · exact hS k1 hk.1 (ih h1) h3
/-- the rows below place p are right -/
def Blw (K V F S : Nat → Nat) (len : Nat) (u : Nat → Nat) (p0 b n p : Nat) (f : Nat → Bool) : Prop := ∀ p1 k, p0 ≤ p1 → p1 < p → k < n → (f (200 * p1 + k) = true ↔ Fw K V F S len u p0 b p1 k)
/-- nothing is laid yet beyond place p -/
def Nil (len n p : Nat) (f : Nat → Bool) : Prop := ∀ p1 k, p < p1 → p1 ≤ len → k < n → f (200 * p1 + k) = false
/-- at place p: what is laid can be come to; what comes in is laid -/
def Sfw (K V F S : Nat → Nat) (len : Nat) (u : Nat → Nat) (p0 b n p : Nat) (f : Nat → Bool) : Prop := ∀ k, k < n → (f (200 * p + k) = true → Fw K V F S len u p0 b p k) ∧ (Ent K V F S len u p0 b p k → f (200 * p + k) = true)
def Cfw (K V F S : Nat → Nat) (len : Nat) (u : Nat → Nat) (p k : Nat) (f : Nat → Bool) : Prop := f (200 * p + k) = true → pasB K V len u k p = true → f (200 * p + F k) = true ∧ (K k = 2 → f (200 * p + S k) = true)
theorem cntF_le {f : Nat → Bool} {i : Nat} : cntF n (ub f i true) p ≤ cntF n f p := by
  unfold cntF
  apply List.countP_mono_left
  intro j _ h
  by_cases hj : 200 * p + j = i
  · rw [hj, ub_s] at h; cases h
  · rw [ub_n hj] at h; exact h
theorem Blw_ub {f : Nat → Bool} {v : Bool} (hn : n ≤ 200) (hk : k < n) (h : Blw K V F S len u p0 b n p f) : Blw K V F S len u p0 b n p (ub f (200 * p + k) v) := by
  intro p1 k1 h1 h2 h3
  rw [ub_n (by omega)]
  exact h p1 k1 h1 h2 h3
theorem Nil_ub {f : Nat → Bool} {v : Bool} (hn : n ≤ 200) (hk : k < n) (h : Nil len n p f) : Nil len n p (ub f (200 * p + k) v) := by
  intro p1 k1 h1 h2 h3
  rw [ub_n (by omega)]
  exact h p1 k1 h1 h2 h3
theorem Sfw_ub {f : Nat → Bool} (hF : Fw K V F S len u p0 b p k) (h : Sfw K V F S len u p0 b n p f) : Sfw K V F S len u p0 b n p (ub f (200 * p + k) true) := by
  intro k1 h1
  by_cases hk1 : k1 = k
  · subst hk1; rw [ub_s]; exact ⟨fun _ => hF, fun _ => rfl⟩
  · rw [ub_n (by omega)]; exact h k1 h1
theorem Cfw_more {f : Nat → Bool} {k1 : Nat} (h : ∀ k, 1 ≤ k → k < k1 → Cfw K V F S len u p k f) (hk : Cfw K V F S len u p k1 f) : ∀ k, 1 ≤ k → k < k1 + 1 → Cfw K V F S len u p k f := by
  intro k h1 h2
  rcases Nat.lt_succ_iff_lt_or_eq.mp h2 with h3 | h3
  · exact h k h1 h3
  · subst h3; exact hk
theorem fpass_step {f f1 : Nat → Bool} {mo1 m : Bool} {k1 bb : Nat} (hn : n ≤ 200) (hk : k1 < n) (h0 : f1 (200 * p + k1) = true) (hp : pasB K V len u k1 p = true) (hF : ∀ i, 0 < i → i < n → (K i = 2 ∨ K i = 3 ∨ K i = 4) → F i < n) (hS : ∀ i, 0 < i → i < n → K i = 2 → S i < n)
    (h11 : 1 ≤ k1) (hbl : Blw K V F S len u p0 b n p f1) (hni : Nil len n p f1) (hsf : Sfw K V F S len u p0 b n p f1) (hct : cntF n f1 p ≤ cntF n f p) (hmt : mo1 = true → cntF n f1 p < cntF n f p) (hmo : mo1 = false → f1 = f ∧ ∀ k, 1 ≤ k → k < k1 → Cfw K V F S len u p k f1)
    (hbb : bb = if K k1 = 2 then S k1 else F k1) (hm : m = (mo1 || (!f1 (200 * p + F k1) || !f1 (200 * p + bb)))) :
    1 ≤ k1 + 1 ∧ k1 + 1 ≤ n ∧ Blw K V F S len u p0 b n p (ub (ub f1 (200 * p + F k1) true) (200 * p + bb) true) ∧ Nil len n p (ub (ub f1 (200 * p + F k1) true) (200 * p + bb) true) ∧ Sfw K V F S len u p0 b n p (ub (ub f1 (200 * p + F k1) true) (200 * p + bb) true) ∧ cntF n (ub (ub f1 (200 * p + F k1) true) (200 * p + bb) true) p ≤ cntF n f p ∧ (m = true → cntF n (ub (ub f1 (200 * p + F k1) true) (200 * p + bb) true) p < cntF n f p) ∧ (m = false → ub (ub f1 (200 * p + F k1) true) (200 * p + bb) true = f ∧ ∀ k, 1 ≤ k → k < k1 + 1 → Cfw K V F S len u p k (ub (ub f1 (200 * p + F k1) true) (200 * p + bb) true)) := by
  have hKp := (pasB_K hp).2
  have hFn := hF k1 (by omega) hk hKp
  have hw : Fw K V F S len u p0 b p k1 := (hsf k1 hk).1 h0
  have hbn : bb < n ∧ Fw K V F S len u p0 b p bb := by
    by_cases h2 : K k1 = 2
    · rw [if_pos h2] at hbb; subst hbb; exact ⟨hS k1 (by omega) hk h2, Fw_s hw hp h2⟩
    · rw [if_neg h2] at hbb; subst hbb; exact ⟨hFn, Fw_f hw hp⟩
  have c1 : cntF n (ub f1 (200 * p + F k1) true) p ≤ cntF n f1 p := cntF_le
  have c2 : cntF n (ub (ub f1 (200 * p + F k1) true) (200 * p + bb) true) p ≤ cntF n (ub f1 (200 * p + F k1) true) p := cntF_le
  refine ⟨by omega, by omega, Blw_ub hn hbn.1 (Blw_ub hn hFn hbl), Nil_ub hn hbn.1 (Nil_ub hn hFn hni), Sfw_ub hbn.2 (Sfw_ub (Fw_f hw hp) hsf), by omega, ?_, ?_⟩
  · intro hmt1
    rw [hmt1] at hm
    cases mo1 with
    | true => have := hmt rfl; omega
    | false =>
      cases h1 : f1 (200 * p + F k1) with
      | false => have := cntF_ub (n := n) (f := f1) (p := p) hFn h1; omega
      | true =>
        cases h2 : f1 (200 * p + bb) with
        | true => simp [h1, h2] at hm
        | false =>
          have h3 : ub f1 (200 * p + F k1) true = f1 := ub_same h1
          have h4 := cntF_ub (n := n) (f := f1) (p := p) hbn.1 h2
          rw [h3]; omega
  · intro hmf
    rw [hmf] at hm
    cases mo1 with
    | true => simp at hm
    | false =>
      cases h1 : f1 (200 * p + F k1) with
      | false => simp [h1] at hm
      | true =>
        cases h2 : f1 (200 * p + bb) with
        | false => simp [h1, h2] at hm
        | true =>
          rw [ub_same (v := true) h1, ub_same (v := true) h2]
          refine ⟨(hmo rfl).1, Cfw_more (hmo rfl).2 (fun _ _ => ⟨h1, fun hk2 => ?_⟩)⟩
          rw [if_pos hk2] at hbb; subst hbb; exact h2
theorem frow_done {f : Nat → Bool} (hb : b < n) (hF1 : ∀ i, 0 < i → i < n → (K i = 1 ∨ K i = 2 ∨ K i = 3 ∨ K i = 4) → F i < n) (hS : ∀ i, 0 < i → i < n → K i = 2 → S i < n) (hs : Sfw K V F S len u p0 b n p f) (hc : ∀ k, 1 ≤ k → k < n → Cfw K V F S len u p k f) : ∀ k, k < n → (f (200 * p + k) = true ↔ Fw K V F S len u p0 b p k) := by
  have key : ∀ m k, k < n → fwN K V F S len u p0 b m p k → f (200 * p + k) = true := by
    intro m
    induction m with
    | zero => intro k hk h; exact (hs k hk).2 (Or.inl h)
    | succ m ih =>
      intro k hk h
      rcases h with h | ⟨p1, k1, h1, h2, h3, h4⟩ | ⟨k1, h1, h2, h3⟩
      · exact ih k hk h
      · exact (hs k hk).2 (Or.inr ⟨p1, k1, ⟨m, h1⟩, h2, h3, h4⟩)
      · have hk1 : k1 < n := Fw_lt hb hF1 hS ⟨m, h1⟩
        have h5 := hc k1 (pasB_K h2).1 hk1 (ih k1 hk1 h1) h2
        rcases h3 with rfl | ⟨h3, rfl⟩
        · exact h5.1
        · exact h5.2 h3
  intro k hk
  exact ⟨fun h => (hs k hk).1 h, fun ⟨m, h⟩ => key m k hk h⟩
/-- the bytes of place p lead on: the row beyond, as far as step k1 -/
def Nxt (K V F S : Nat → Nat) (len : Nat) (u : Nat → Nat) (p0 b n p k1 : Nat) (f : Nat → Bool) : Prop := ∀ k, k < n → (f (200 * (p + 1) + k) = true ↔ ∃ k2, 1 ≤ k2 ∧ k2 < k1 ∧ Fw K V F S len u p0 b p k2 ∧ takB K V len u k2 p = true ∧ k = F k2)
theorem Nxt_0 {f : Nat → Bool} (hp : p < len) (h : Nil len n p f) : Nxt K V F S len u p0 b n p 1 f := by
  intro k hk
  rw [h (p + 1) k (by omega) (by omega) hk]
  exact ⟨(fun h => by cases h), fun ⟨k2, h1, h2, _⟩ => absurd h1 (by omega)⟩
theorem Nxt_keep {f : Nat → Bool} {k1 : Nat} (h : Nxt K V F S len u p0 b n p k1 f) (hk : ¬ (Fw K V F S len u p0 b p k1 ∧ takB K V len u k1 p = true)) : Nxt K V F S len u p0 b n p (k1 + 1) f := by
  intro k hkn
  rw [h k hkn]
  constructor
  · rintro ⟨k2, h1, h2, h3⟩; exact ⟨k2, h1, by omega, h3⟩
  · rintro ⟨k2, h1, h2, h3, h4, h5⟩
    refine ⟨k2, h1, ?_, h3, h4, h5⟩
    rcases Nat.lt_succ_iff_lt_or_eq.mp h2 with h6 | h6
    · exact h6
    · subst h6; exact absurd ⟨h3, h4⟩ hk
theorem Nxt_add {f : Nat → Bool} {k1 : Nat} (hk1 : 1 ≤ k1) (h : Nxt K V F S len u p0 b n p k1 f) (hf : Fw K V F S len u p0 b p k1) (ht : takB K V len u k1 p = true) : Nxt K V F S len u p0 b n p (k1 + 1) (ub f (200 * (p + 1) + F k1) true) := by
  intro k hkn
  by_cases hk : k = F k1
  · subst hk
    rw [ub_s]
    exact ⟨fun _ => ⟨k1, hk1, by omega, hf, ht, rfl⟩, fun _ => rfl⟩
  · rw [ub_n (by omega), h k hkn]
    constructor
    · rintro ⟨k2, h1, h2, h3⟩; exact ⟨k2, h1, by omega, h3⟩
    · rintro ⟨k2, h1, h2, h3, h4, h5⟩
      refine ⟨k2, h1, ?_, h3, h4, h5⟩
      rcases Nat.lt_succ_iff_lt_or_eq.mp h2 with h6 | h6
      · exact h6
      · subst h6; exact absurd h5 hk
/-- which END is the last one so far -/
def Las (K V F S : Nat → Nat) (len : Nat) (u : Nat → Nat) (p0 b p : Nat) (x : Int32) : Prop := (x = -1 ∧ ∀ p1, p1 < p → ¬ Fw K V F S len u p0 b p1 0) ∨ ∃ e1, x = nI e1 ∧ e1 < p ∧ Fw K V F S len u p0 b e1 0 ∧ ∀ p1, p1 < p → Fw K V F S len u p0 b p1 0 → p1 ≤ e1
theorem Las_t {x : Int32} (h : Fw K V F S len u p0 b p 0) : Las K V F S len u p0 b (p + 1) (nI p) := Or.inr ⟨p, rfl, by omega, h, fun p1 h1 _ => by omega⟩
theorem Las_f {x : Int32} (h : Las K V F S len u p0 b p x) (hn : ¬ Fw K V F S len u p0 b p 0) : Las K V F S len u p0 b (p + 1) x := by
  rcases h with ⟨h1, h2⟩ | ⟨e1, h1, h2, h3, h4⟩
  · exact Or.inl ⟨h1, fun p1 hp hw => by
      rcases Nat.lt_succ_iff_lt_or_eq.mp hp with h6 | h6
      · exact h2 p1 h6 hw
      · subst h6; exact hn hw⟩
  · exact Or.inr ⟨e1, h1, by omega, h3, fun p1 hp hw => by
      rcases Nat.lt_succ_iff_lt_or_eq.mp hp with h6 | h6
      · exact h4 p1 h6 hw
      · subst h6; exact absurd hw hn⟩
end FW
section FW2
variable {K V F S : Nat → Nat} {len : Nat} {u : Nat → Nat} {p0 b p k n : Nat}
theorem wip_step {f : Nat → Bool} {a : Nat} (h : ∀ i, a ≤ i → i < k → f i = false) : ∀ i, a ≤ i → i < k + 1 → ub f k false i = false := by
  intro i h1 h2
  by_cases hi : i = k
  · subst hi; exact ub_s
  · rw [ub_n hi]; exact h i h1 (by omega)
theorem init_fw {f : Nat → Bool} (hn : n ≤ 200) (hb : b < n) (hp : p0 ≤ len) (h : ∀ i, 200 * p0 ≤ i → i < 200 * len + 200 → f i = false) :
    Blw K V F S len u p0 b n p0 (ub f (200 * p0 + b) true) ∧ Nil len n p0 (ub f (200 * p0 + b) true) ∧ Sfw K V F S len u p0 b n p0 (ub f (200 * p0 + b) true) := by
  refine ⟨fun p1 k h1 h2 _ => absurd h1 (by omega), fun p1 k h1 h2 h3 => ?_, fun k hk => ⟨fun hf => ?_, fun he => ?_⟩⟩
  · rw [ub_n (by omega)]; exact h _ (by omega) (by omega)
  · by_cases hkb : k = b
    · subst hkb; exact Fw_0
    · rw [ub_n (by omega), h _ (by omega) (by omega)] at hf; cases hf
  · rcases he with ⟨_, rfl⟩ | ⟨p1, k1, h1, _, h3, _⟩
    · exact ub_s
    · have := Fw_ge h1; omega
theorem Blw_s {f : Nat → Bool} (h : Blw K V F S len u p0 b n p f) (hr : ∀ k, k < n → (f (200 * p + k) = true ↔ Fw K V F S len u p0 b p k)) : Blw K V F S len u p0 b n (p + 1) f := by
  intro p1 k h1 h2 h3
  rcases Nat.lt_succ_iff_lt_or_eq.mp h2 with h4 | h4
  · exact h p1 k h1 h4 h3
  · subst h4; exact hr k h3
theorem Sfw_nxt {f : Nat → Bool} {k1 : Nat} (hk : n ≤ k1) (hp : p0 ≤ p) (hb : b < n) (hF1 : ∀ i, 0 < i → i < n → (K i = 1 ∨ K i = 2 ∨ K i = 3 ∨ K i = 4) → F i < n) (hS : ∀ i, 0 < i → i < n → K i = 2 → S i < n) (h : Nxt K V F S len u p0 b n p k1 f) : Sfw K V F S len u p0 b n (p + 1) f := by
  intro k hkn
  refine ⟨fun hf => ?_, fun he => ?_⟩
  · obtain ⟨k2, _, _, h3, h4, rfl⟩ := (h k hkn).mp hf
    exact Fw_t h3 h4
  · rcases he with ⟨h1, _⟩ | ⟨p1, k2, h1, h2, h3, h4⟩
    · omega
    · have e1 : p1 = p := by omega
      subst e1
      have h5 := Fw_lt hb hF1 hS h1
      exact (h k hkn).mpr ⟨k2, (takB_K h2).1, by omega, h1, h2, h4⟩
/-- what is kept while the bytes of place p are gone over -/
def Ovr (K V F S : Nat → Nat) (len : Nat) (u : Nat → Nat) (p0 b n p k2 : Nat) (f : Nat → Bool) : Prop := (∀ k, k < n → (f (200 * p + k) = true ↔ Fw K V F S len u p0 b p k)) ∧ Blw K V F S len u p0 b n p f ∧ (p < len → Nxt K V F S len u p0 b n p k2 f ∧ Nil len n (p + 1) f)
theorem Ovr_0 {f : Nat → Bool} (hr : ∀ k, k < n → (f (200 * p + k) = true ↔ Fw K V F S len u p0 b p k)) (hb : Blw K V F S len u p0 b n p f) (hn : Nil len n p f) : Ovr K V F S len u p0 b n p 1 f :=
  ⟨hr, hb, fun hp => ⟨Nxt_0 hp hn, fun p1 k h1 h2 h3 => hn p1 k (by omega) h2 h3⟩⟩
theorem Ovr_keep {f : Nat → Bool} {k2 : Nat} (h : Ovr K V F S len u p0 b n p k2 f) (hk : ¬ (Fw K V F S len u p0 b p k2 ∧ takB K V len u k2 p = true)) : Ovr K V F S len u p0 b n p (k2 + 1) f :=
  ⟨h.1, h.2.1, fun hp => ⟨Nxt_keep (h.2.2 hp).1 hk, (h.2.2 hp).2⟩⟩
theorem Ovr_add {f : Nat → Bool} {k2 : Nat} (hn : n ≤ 200) (hF : F k2 < n) (hk2 : 1 ≤ k2) (h : Ovr K V F S len u p0 b n p k2 f) (hf : Fw K V F S len u p0 b p k2) (ht : takB K V len u k2 p = true) : Ovr K V F S len u p0 b n p (k2 + 1) (ub f (200 * p + 200 + F k2) true) := by
  have e : 200 * p + 200 + F k2 = 200 * (p + 1) + F k2 := by omega
  rw [e]
  refine ⟨fun k hk => ?_, fun p1 k h1 h2 h3 => ?_, fun hp => ⟨Nxt_add hk2 (h.2.2 hp).1 hf ht, fun p1 k h1 h2 h3 => ?_⟩⟩
  · rw [ub_n (by omega)]; exact h.1 k hk
  · rw [ub_n (by omega)]; exact h.2.1 p1 k h1 h2 h3
  · rw [ub_n (by omega)]; exact (h.2.2 hp).2 p1 k h1 h2 h3
end FW2
end
section
set_option maxHeartbeats 4000000 in
set_option maxRecDepth 100000 in
/-- lastEnd(fr) -/
theorem kMod_lastEnd (l : Launch) (D : va_G) (cI cZ cJ : ClassId) (o : Nat) (q : Nat → Nat) (th n b len tr hi ma : Nat) (K V F S u : Nat → Nat) (vI fI sI : Nat → Int32) (come : Nat → Bool) (fr : Nat) (hn0 : 0 < n) (hn : n ≤ 200) (hle : len ≤ 200) (hu : ∀ i, u i < 256) (hK5 : ∀ i, K i < 6) (hv : ∀ i, 0 < i → i < n → (K i = 1 ∨ K i = 3 ∨ K i = 4) → vI i = nI (V i)) (hvb : ∀ i, V i < 65536) (hv4 : ∀ i, i < n → K i = 4 → V i < 6) (hf : ∀ i, 0 < i → i < n → (K i = 1 ∨ K i = 2 ∨ K i = 3 ∨ K i = 4) → fI i = nI (F i) ∧ F i < n) (hs : ∀ i, 0 < i → i < n → K i = 2 → sI i = nI (S i) ∧ S i < n) (hfr : fr ≤ len) (hb0 : b < n) : vx_Mi l yN_Mod_lastEnd wN_Mod_lastEnd ({ frames := 3, cells := 0, slots := 0, locals := 90 }) D clN (tyN cI cZ cJ) [.ref o, .int (nI fr)] [(o, .inr (11, [.int (nI th), .int (nI n), .int (nI b), .ref (q 3), .ref (q 4), .ref (q 5), .ref (q 6), .ref (q 7), .int (nI len), .ref (q 9), .ref (q 10), .ref (q 11), .ref (q 12), .ref (q 13), .ref (q 14), .ref (q 15), .ref (q 16), .ref (q 17), .int (nI tr), .int (nI hi), .ref (q 20), .ref (q 21), .ref (q 22), .ref (q 23), .int (nI ma)])), (q 3, .inl (cI, 200, .inl (ni K))), (q 4, .inl (cI, 200, .inl vI)), (q 5, .inl (cI, 200, .inl fI)), (q 6, .inl (cI, 200, .inl sI)), (q 7, .inl (cI, 200, .inl (ni u))), (q 10, .inl (cZ, 40200, .inl (zb come)))] (fun r w => ∃ f : Nat → Bool, w = [(o, .inr (11, [.int (nI th), .int (nI n), .int (nI b), .ref (q 3), .ref (q 4), .ref (q 5), .ref (q 6), .ref (q 7), .int (nI len), .ref (q 9), .ref (q 10), .ref (q 11), .ref (q 12), .ref (q 13), .ref (q 14), .ref (q 15), .ref (q 16), .ref (q 17), .int (nI tr), .int (nI hi), .ref (q 20), .ref (q 21), .ref (q 22), .ref (q 23), .int (nI ma)])), (q 3, .inl (cI, 200, .inl (ni K))), (q 4, .inl (cI, 200, .inl vI)), (q 5, .inl (cI, 200, .inl fI)), (q 6, .inl (cI, 200, .inl sI)), (q 7, .inl (cI, 200, .inl (ni u))), (q 10, .inl (cZ, 40200, .inl (zb f)))] ∧ Las K V F S len u fr b (len + 1) r) := by
  refine vx_startI (cc := cN_Mod_lastEnd) (maxL := 7) (ret := (some .int)) (by decide) rfl (Nat.le_of_ble_eq_true rfl) ?_
  intro p e s m below meth c A ls C hK hP hD hS hA hl
  obtain ⟨hx, hb, hr, hml, hown, hts, hlocks, hnm⟩ := id C
  have hown : s.vm.findClass "StepMachinesModel" = some m.cls := hown
  have ht : ∀ w ∈ TB, w.before _ s = true := fun w h => hts w (List.mem_cons_of_mem _ h)
  have hl : lv_has ls 7 [(0, .ref o), (1, .int (nI fr))] := hl
  refine lv_sipush (v := (nI 200)) hx hb dN_Mod_lastEnd_0 (by decide) ?_
  refine lv_iload_n hx hb dN_Mod_lastEnd_3 rfl (lv_at hl 1 rfl) ?_
  refine xn_mul hx hb dN_Mod_lastEnd_4 ?_
  refine lv_istore_n (lv' := [(2, .int (nI (200 * fr))), (0, .ref o), (1, .int (nI fr))]) hx hb dN_Mod_lastEnd_5 rfl hl (by decide) rfl (fun ls hl => ?_)
  refine vx_loop (α := (Nat → Bool) × Nat) (fun (a : (Nat → Bool) × Nat) (H : Heap) (locs : List Loc) (ls : Array Slot) => match a with | (f, k) => va_P D clN [(o, .inr (11, [.int (nI th), .int (nI n), .int (nI b), .ref (q 3), .ref (q 4), .ref (q 5), .ref (q 6), .ref (q 7), .int (nI len), .ref (q 9), .ref (q 10), .ref (q 11), .ref (q 12), .ref (q 13), .ref (q 14), .ref (q 15), .ref (q 16), .ref (q 17), .int (nI tr), .int (nI hi), .ref (q 20), .ref (q 21), .ref (q 22), .ref (q 23), .int (nI ma)])), (q 3, .inl (cI, 200, .inl (ni K))), (q 4, .inl (cI, 200, .inl vI)), (q 5, .inl (cI, 200, .inl fI)), (q 6, .inl (cI, 200, .inl sI)), (q 7, .inl (cI, 200, .inl (ni u))), (q 10, .inl (cZ, 40200, .inl (zb f)))] H ∧ va_D A [(o, .inr (11, [.int (nI th), .int (nI n), .int (nI b), .ref (q 3), .ref (q 4), .ref (q 5), .ref (q 6), .ref (q 7), .int (nI len), .ref (q 9), .ref (q 10), .ref (q 11), .ref (q 12), .ref (q 13), .ref (q 14), .ref (q 15), .ref (q 16), .ref (q 17), .int (nI tr), .int (nI hi), .ref (q 20), .ref (q 21), .ref (q 22), .ref (q 23), .int (nI ma)])), (q 3, .inl (cI, 200, .inl (ni K))), (q 4, .inl (cI, 200, .inl vI)), (q 5, .inl (cI, 200, .inl fI)), (q 6, .inl (cI, 200, .inl sI)), (q 7, .inl (cI, 200, .inl (ni u))), (q 10, .inl (cZ, 40200, .inl (zb f)))] ∧ va_S A s.heap H locs ∧ lv_has ls 7 [(0, .ref o), (1, .int (nI fr)), (2, .int (nI k))] ∧ (200 * fr ≤ k ∧ k ≤ 200 * len + 200 ∧ ∀ i, 200 * fr ≤ i → i < k → f i = false)) (fun (a : (Nat → Bool) × Nat) => match a with | (f, k) => 200 * len + 200 - k) 6 [] ?_ (come, 200 * fr) ⟨hP, hD, hS, lv_sub hl [1, 2, 0] rfl, ⟨by omega, by omega, fun i h1 h2 => absurd h1 (by omega)⟩⟩
  intro a H locs ls hq ih_6_0
  obtain ⟨f, k⟩ := a
  obtain ⟨hP, hD, hS, hl, hI⟩ := hq
  obtain ⟨hk1, hk2, hz⟩ := hI
  refine lv_iload_n hx hb dN_Mod_lastEnd_6 rfl (lv_at hl 2 rfl) ?_
  refine lv_sipush (v := (nI 200)) hx hb dN_Mod_lastEnd_7 (by decide) ?_
  refine lv_aload_n hx hb dN_Mod_lastEnd_10 rfl (lv_at hl 0 rfl) ?_
  refine va_get (D := D) (ci := 11) (v := .int (nI len)) (C := RN_Mod) (T := FN_Mod) (N := 25) hx hb ht fN_Mod hown hK hP 0 rfl rfl 8 (by decide) (ht _ mw_914) (fun _ h9 => h9) rfl dN_Mod_lastEnd_11 ?_
  refine xn_mul hx hb dN_Mod_lastEnd_14 ?_
  refine lv_sipush (v := (nI 200)) hx hb dN_Mod_lastEnd_15 (by decide) ?_
  refine xn_add hx hb dN_Mod_lastEnd_18 ?_
  refine xn_ge (tgt := 35) hx hb dN_Mod_lastEnd_19 (by decide) (by omega) (by omega) (fun c_19_1 => ?_) (fun c_19_1 => ?_)
  · skip
    have hz0 : ∀ i, 200 * fr ≤ i → i < 200 * len + 200 → f i = false := fun i h1 h2 => hz i h1 (by omega)
    have hini := init_fw (K := K) (V := V) (F := F) (S := S) (u := u) hn hb0 hfr hz0
    refine lv_aload_n hx hb dN_Mod_lastEnd_35 rfl (lv_at hl 0 rfl) ?_
    refine va_get (D := D) (ci := 11) (v := .ref (q 10)) (C := RN_Mod) (T := FN_Mod) (N := 25) hx hb ht fN_Mod hown hK hP 0 rfl rfl 10 (by decide) (ht _ mw_916) (fun _ h9 => h9) rfl dN_Mod_lastEnd_36 ?_
    refine lv_sipush (v := (nI 200)) hx hb dN_Mod_lastEnd_39 (by decide) ?_
    refine lv_iload_n hx hb dN_Mod_lastEnd_42 rfl (lv_at hl 1 rfl) ?_
    refine xn_mul hx hb dN_Mod_lastEnd_43 ?_
    refine lv_aload_n hx hb dN_Mod_lastEnd_44 rfl (lv_at hl 0 rfl) ?_
    refine va_get (D := D) (ci := 11) (v := .int (nI b)) (C := RN_Mod) (T := FN_Mod) (N := 25) hx hb ht fN_Mod hown hK hP 0 rfl rfl 2 (by decide) (ht _ mw_908) (fun _ h9 => h9) rfl dN_Mod_lastEnd_45 ?_
    refine xn_add hx hb dN_Mod_lastEnd_48 ?_
    refine lv_iconst (v := (zi true)) hx hb dN_Mod_lastEnd_49 (by decide) ?_
    refine xz_ast hx hb hK hP hD hS 6 1 rfl rfl dN_Mod_lastEnd_50 (by omega) (by omega) (fun H locs hP hD hS => ?_)
    have hP : va_P D clN [(o, .inr (11, [.int (nI th), .int (nI n), .int (nI b), .ref (q 3), .ref (q 4), .ref (q 5), .ref (q 6), .ref (q 7), .int (nI len), .ref (q 9), .ref (q 10), .ref (q 11), .ref (q 12), .ref (q 13), .ref (q 14), .ref (q 15), .ref (q 16), .ref (q 17), .int (nI tr), .int (nI hi), .ref (q 20), .ref (q 21), .ref (q 22), .ref (q 23), .int (nI ma)])), (q 3, .inl (cI, 200, .inl (ni K))), (q 4, .inl (cI, 200, .inl vI)), (q 5, .inl (cI, 200, .inl fI)), (q 6, .inl (cI, 200, .inl sI)), (q 7, .inl (cI, 200, .inl (ni u))), (q 10, .inl (cZ, 40200, .inl (zb (ub f ((200 * fr) + b) true))))] H := hP
    have hD : va_D A [(o, .inr (11, [.int (nI th), .int (nI n), .int (nI b), .ref (q 3), .ref (q 4), .ref (q 5), .ref (q 6), .ref (q 7), .int (nI len), .ref (q 9), .ref (q 10), .ref (q 11), .ref (q 12), .ref (q 13), .ref (q 14), .ref (q 15), .ref (q 16), .ref (q 17), .int (nI tr), .int (nI hi), .ref (q 20), .ref (q 21), .ref (q 22), .ref (q 23), .int (nI ma)])), (q 3, .inl (cI, 200, .inl (ni K))), (q 4, .inl (cI, 200, .inl vI)), (q 5, .inl (cI, 200, .inl fI)), (q 6, .inl (cI, 200, .inl sI)), (q 7, .inl (cI, 200, .inl (ni u))), (q 10, .inl (cZ, 40200, .inl (zb (ub f ((200 * fr) + b) true))))] := hD
    refine lv_iconst (v := (-1)) hx hb dN_Mod_lastEnd_51 (by decide) ?_
    refine lv_istore_n (lv' := [(2, .int (-1)), (0, .ref o), (1, .int (nI fr))]) hx hb dN_Mod_lastEnd_52 rfl hl (by decide) rfl (fun ls hl => ?_)
    refine lv_iload_n hx hb dN_Mod_lastEnd_53 rfl (lv_at hl 2 rfl) ?_
    refine lv_istore_n (lv' := [(3, .int (nI fr)), (2, .int (-1)), (0, .ref o), (1, .int (nI fr))]) hx hb dN_Mod_lastEnd_54 rfl hl (by decide) rfl (fun ls hl => ?_)
    refine vx_loop (α := Int32 × Nat × (Nat → Bool)) (fun (a : Int32 × Nat × (Nat → Bool)) (H : Heap) (locs : List Loc) (ls : Array Slot) => match a with | (x, p, f) => va_P D clN [(o, .inr (11, [.int (nI th), .int (nI n), .int (nI b), .ref (q 3), .ref (q 4), .ref (q 5), .ref (q 6), .ref (q 7), .int (nI len), .ref (q 9), .ref (q 10), .ref (q 11), .ref (q 12), .ref (q 13), .ref (q 14), .ref (q 15), .ref (q 16), .ref (q 17), .int (nI tr), .int (nI hi), .ref (q 20), .ref (q 21), .ref (q 22), .ref (q 23), .int (nI ma)])), (q 3, .inl (cI, 200, .inl (ni K))), (q 4, .inl (cI, 200, .inl vI)), (q 5, .inl (cI, 200, .inl fI)), (q 6, .inl (cI, 200, .inl sI)), (q 7, .inl (cI, 200, .inl (ni u))), (q 10, .inl (cZ, 40200, .inl (zb f)))] H ∧ va_D A [(o, .inr (11, [.int (nI th), .int (nI n), .int (nI b), .ref (q 3), .ref (q 4), .ref (q 5), .ref (q 6), .ref (q 7), .int (nI len), .ref (q 9), .ref (q 10), .ref (q 11), .ref (q 12), .ref (q 13), .ref (q 14), .ref (q 15), .ref (q 16), .ref (q 17), .int (nI tr), .int (nI hi), .ref (q 20), .ref (q 21), .ref (q 22), .ref (q 23), .int (nI ma)])), (q 3, .inl (cI, 200, .inl (ni K))), (q 4, .inl (cI, 200, .inl vI)), (q 5, .inl (cI, 200, .inl fI)), (q 6, .inl (cI, 200, .inl sI)), (q 7, .inl (cI, 200, .inl (ni u))), (q 10, .inl (cZ, 40200, .inl (zb f)))] ∧ va_S A s.heap H locs ∧ lv_has ls 7 [(0, .ref o), (1, .int (nI fr)), (2, .int x), (3, .int (nI p))] ∧ (fr ≤ p ∧ p ≤ len + 1 ∧ Blw K V F S len u fr b n p f ∧ (p ≤ len → Nil len n p f ∧ Sfw K V F S len u fr b n p f) ∧ Las K V F S len u fr b p x)) (fun (a : Int32 × Nat × (Nat → Bool)) => match a with | (x, p, f) => len + 1 - p) 55 [] ?_ (-1, fr, ub f ((200 * fr) + b) true) ⟨hP, hD, hS, lv_sub hl [2, 3, 1, 0] rfl, ⟨by omega, by omega, hini.1, fun _ => hini.2, Or.inl ⟨rfl, fun p1 h1 hw => absurd (Fw_ge hw) (by omega)⟩⟩⟩
    intro a H locs ls hq ih_55_2
    obtain ⟨x, p, f⟩ := a
    obtain ⟨hP, hD, hS, hl, hI⟩ := hq
    obtain ⟨hp1, hp2, hbl, hns, hla⟩ := hI
    refine lv_iload_n hx hb dN_Mod_lastEnd_55 rfl (lv_at hl 3 rfl) ?_
    refine lv_aload_n hx hb dN_Mod_lastEnd_56 rfl (lv_at hl 0 rfl) ?_
    refine va_get (D := D) (ci := 11) (v := .int (nI len)) (C := RN_Mod) (T := FN_Mod) (N := 25) hx hb ht fN_Mod hown hK hP 0 rfl rfl 8 (by decide) (ht _ mw_914) (fun _ h9 => h9) rfl dN_Mod_lastEnd_57 ?_
    refine xn_gt (tgt := 328) hx hb dN_Mod_lastEnd_60 (by decide) (by omega) (by omega) (fun c_60_3 => ?_) (fun c_60_3 => ?_)
    · skip
      refine lv_iload_n hx hb dN_Mod_lastEnd_328 rfl (lv_at hl 2 rfl) ?_
      exact vx_iret C hK hP hD hS dN_Mod_lastEnd_329 (Nat.le_of_ble_eq_true rfl) (Nat.le_of_ble_eq_true rfl) (⟨f, rfl, by rw [show len + 1 = p by omega]; exact hla⟩)
    · skip
      refine lv_iconst (v := (zi true)) hx hb dN_Mod_lastEnd_63 (by decide) ?_
      refine lv_istore (lv' := [(4, .int (zi true)), (0, .ref o), (1, .int (nI fr)), (2, .int x), (3, .int (nI p))]) hx hb dN_Mod_lastEnd_64 hl (by decide) rfl (fun ls hl => ?_)
      refine vx_loop (α := (Nat → Bool) × Bool) (fun (a : (Nat → Bool) × Bool) (H : Heap) (locs : List Loc) (ls : Array Slot) => match a with | (f, mo) => va_P D clN [(o, .inr (11, [.int (nI th), .int (nI n), .int (nI b), .ref (q 3), .ref (q 4), .ref (q 5), .ref (q 6), .ref (q 7), .int (nI len), .ref (q 9), .ref (q 10), .ref (q 11), .ref (q 12), .ref (q 13), .ref (q 14), .ref (q 15), .ref (q 16), .ref (q 17), .int (nI tr), .int (nI hi), .ref (q 20), .ref (q 21), .ref (q 22), .ref (q 23), .int (nI ma)])), (q 3, .inl (cI, 200, .inl (ni K))), (q 4, .inl (cI, 200, .inl vI)), (q 5, .inl (cI, 200, .inl fI)), (q 6, .inl (cI, 200, .inl sI)), (q 7, .inl (cI, 200, .inl (ni u))), (q 10, .inl (cZ, 40200, .inl (zb f)))] H ∧ va_D A [(o, .inr (11, [.int (nI th), .int (nI n), .int (nI b), .ref (q 3), .ref (q 4), .ref (q 5), .ref (q 6), .ref (q 7), .int (nI len), .ref (q 9), .ref (q 10), .ref (q 11), .ref (q 12), .ref (q 13), .ref (q 14), .ref (q 15), .ref (q 16), .ref (q 17), .int (nI tr), .int (nI hi), .ref (q 20), .ref (q 21), .ref (q 22), .ref (q 23), .int (nI ma)])), (q 3, .inl (cI, 200, .inl (ni K))), (q 4, .inl (cI, 200, .inl vI)), (q 5, .inl (cI, 200, .inl fI)), (q 6, .inl (cI, 200, .inl sI)), (q 7, .inl (cI, 200, .inl (ni u))), (q 10, .inl (cZ, 40200, .inl (zb f)))] ∧ va_S A s.heap H locs ∧ lv_has ls 7 [(0, .ref o), (1, .int (nI fr)), (2, .int x), (3, .int (nI p)), (4, .int (zi mo))] ∧ (Blw K V F S len u fr b n p f ∧ Nil len n p f ∧ Sfw K V F S len u fr b n p f ∧ (mo = false → ∀ k, 1 ≤ k → k < n → Cfw K V F S len u p k f))) (fun (a : (Nat → Bool) × Bool) => match a with | (f, mo) => cntF n f p + (if mo = true then 1 else 0)) 66 [] ?_ (f, true) ⟨hP, hD, hS, lv_sub hl [1, 2, 3, 4, 0] rfl, ⟨hbl, (hns (by omega)).1, (hns (by omega)).2, fun h => by cases h⟩⟩
      intro a H locs ls hq ih_66_4
      obtain ⟨f, mo⟩ := a
      obtain ⟨hP, hD, hS, hl, hI⟩ := hq
      obtain ⟨hbl2, hni2, hsf2, hcl⟩ := hI
      refine lv_iload hx hb dN_Mod_lastEnd_66 (lv_at hl 4 rfl) ?_
      refine xz_eq0 (tgt := 236) hx hb dN_Mod_lastEnd_68 (by decide) (fun c_68_5 => ?_) (fun c_68_5 => ?_)
      · skip
        refine lv_iconst (v := (nI 1)) hx hb dN_Mod_lastEnd_236 (by decide) ?_
        refine lv_istore (lv' := [(5, .int (nI 1)), (0, .ref o), (1, .int (nI fr)), (2, .int x), (3, .int (nI p)), (4, .int (zi mo))]) hx hb dN_Mod_lastEnd_237 hl (by decide) rfl (fun ls hl => ?_)
        refine vx_loop (α := (Nat → Bool) × Nat) (fun (a : (Nat → Bool) × Nat) (H : Heap) (locs : List Loc) (ls : Array Slot) => match a with | (f2, k2) => va_P D clN [(o, .inr (11, [.int (nI th), .int (nI n), .int (nI b), .ref (q 3), .ref (q 4), .ref (q 5), .ref (q 6), .ref (q 7), .int (nI len), .ref (q 9), .ref (q 10), .ref (q 11), .ref (q 12), .ref (q 13), .ref (q 14), .ref (q 15), .ref (q 16), .ref (q 17), .int (nI tr), .int (nI hi), .ref (q 20), .ref (q 21), .ref (q 22), .ref (q 23), .int (nI ma)])), (q 3, .inl (cI, 200, .inl (ni K))), (q 4, .inl (cI, 200, .inl vI)), (q 5, .inl (cI, 200, .inl fI)), (q 6, .inl (cI, 200, .inl sI)), (q 7, .inl (cI, 200, .inl (ni u))), (q 10, .inl (cZ, 40200, .inl (zb f2)))] H ∧ va_D A [(o, .inr (11, [.int (nI th), .int (nI n), .int (nI b), .ref (q 3), .ref (q 4), .ref (q 5), .ref (q 6), .ref (q 7), .int (nI len), .ref (q 9), .ref (q 10), .ref (q 11), .ref (q 12), .ref (q 13), .ref (q 14), .ref (q 15), .ref (q 16), .ref (q 17), .int (nI tr), .int (nI hi), .ref (q 20), .ref (q 21), .ref (q 22), .ref (q 23), .int (nI ma)])), (q 3, .inl (cI, 200, .inl (ni K))), (q 4, .inl (cI, 200, .inl vI)), (q 5, .inl (cI, 200, .inl fI)), (q 6, .inl (cI, 200, .inl sI)), (q 7, .inl (cI, 200, .inl (ni u))), (q 10, .inl (cZ, 40200, .inl (zb f2)))] ∧ va_S A s.heap H locs ∧ lv_has ls 7 [(0, .ref o), (1, .int (nI fr)), (2, .int x), (3, .int (nI p)), (5, .int (nI k2))] ∧ (1 ≤ k2 ∧ k2 ≤ n ∧ Ovr K V F S len u fr b n p k2 f2)) (fun (a : (Nat → Bool) × Nat) => match a with | (f2, k2) => n - k2) 239 [] ?_ (f, 1) ⟨hP, hD, hS, lv_sub hl [1, 2, 3, 4, 0] rfl, ⟨by omega, by omega, Ovr_0 (frow_done hb0 (fun i h1 h2 h3 => (hf i h1 h2 h3).2) (fun i h1 h2 h3 => (hs i h1 h2 h3).2) hsf2 (hcl c_68_5)) hbl2 hni2⟩⟩
        intro a H locs ls hq ih_239_6
        obtain ⟨f2, k2⟩ := a
        obtain ⟨hP, hD, hS, hl, hI⟩ := hq
        obtain ⟨hk21, hk22, hov⟩ := hI
        refine lv_iload hx hb dN_Mod_lastEnd_239 (lv_at hl 4 rfl) ?_
        refine lv_aload_n hx hb dN_Mod_lastEnd_241 rfl (lv_at hl 0 rfl) ?_
        refine va_get (D := D) (ci := 11) (v := .int (nI n)) (C := RN_Mod) (T := FN_Mod) (N := 25) hx hb ht fN_Mod hown hK hP 0 rfl rfl 1 (by decide) (ht _ mw_907) (fun _ h9 => h9) rfl dN_Mod_lastEnd_242 ?_
        refine xn_ge (tgt := 303) hx hb dN_Mod_lastEnd_245 (by decide) (by omega) (by omega) (fun c_245_7 => ?_) (fun c_245_7 => ?_)
        · skip
          refine lv_aload_n hx hb dN_Mod_lastEnd_303 rfl (lv_at hl 0 rfl) ?_
          refine va_get (D := D) (ci := 11) (v := .ref (q 10)) (C := RN_Mod) (T := FN_Mod) (N := 25) hx hb ht fN_Mod hown hK hP 0 rfl rfl 10 (by decide) (ht _ mw_916) (fun _ h9 => h9) rfl dN_Mod_lastEnd_304 ?_
          refine lv_sipush (v := (nI 200)) hx hb dN_Mod_lastEnd_307 (by decide) ?_
          refine lv_iload_n hx hb dN_Mod_lastEnd_310 rfl (lv_at hl 3 rfl) ?_
          refine xn_mul hx hb dN_Mod_lastEnd_311 ?_
          refine xz_ald hx hb hK hP 6 1 rfl rfl dN_Mod_lastEnd_312 (by omega) (by omega) ?_
          refine xz_eq0 (tgt := 320) hx hb dN_Mod_lastEnd_313 (by decide) (fun c_313_8 => ?_) (fun c_313_8 => ?_)
          · skip
            refine lv_iload_n hx hb dN_Mod_lastEnd_320 rfl (lv_at hl 2 rfl) ?_
            refine lv_istore_n (lv' := [(2, .int x), (0, .ref o), (1, .int (nI fr)), (3, .int (nI p)), (5, .int (nI k2))]) hx hb dN_Mod_lastEnd_321 rfl hl (by decide) rfl (fun ls hl => ?_)
            refine lv_iinc (v := (nI (p + 1))) (lv' := [(3, .int (nI (p + 1))), (2, .int x), (0, .ref o), (1, .int (nI fr)), (5, .int (nI k2))]) hx hb dN_Mod_lastEnd_322 hl (k := 3) rfl (nI_1 _) (by decide) rfl (fun ls hl => ?_)
            refine lv_goto (tgt := 55) hx hb dN_Mod_lastEnd_325 (by decide) ?_
            exact ih_55_2 (x, p + 1, f2) _ _ _ ⟨hP, hD, hS, lv_sub hl [2, 3, 1, 0] rfl, ⟨by omega, by omega, Blw_s hov.2.1 hov.1, fun h => ⟨(hov.2.2 (by omega)).2, Sfw_nxt c_245_7 (by omega) hb0 (fun i h1 h2 h3 => (hf i h1 h2 h3).2) (fun i h1 h2 h3 => (hs i h1 h2 h3).2) (hov.2.2 (by omega)).1⟩, Las_f hla (fun h => by have h8 := (hov.1 0 (by omega)).mpr h; rw [Nat.add_zero, c_313_8] at h8; cases h8)⟩⟩ (show (len + 1 - (p + 1)) < (len + 1 - p) from by omega)
          · skip
            refine lv_iload_n hx hb dN_Mod_lastEnd_316 rfl (lv_at hl 3 rfl) ?_
            refine lv_goto (tgt := 321) hx hb dN_Mod_lastEnd_317 (by decide) ?_
            refine lv_istore_n (lv' := [(2, .int (nI p)), (0, .ref o), (1, .int (nI fr)), (3, .int (nI p)), (5, .int (nI k2))]) hx hb dN_Mod_lastEnd_321 rfl hl (by decide) rfl (fun ls hl => ?_)
            refine lv_iinc (v := (nI (p + 1))) (lv' := [(3, .int (nI (p + 1))), (2, .int (nI p)), (0, .ref o), (1, .int (nI fr)), (5, .int (nI k2))]) hx hb dN_Mod_lastEnd_322 hl (k := 3) rfl (nI_1 _) (by decide) rfl (fun ls hl => ?_)
            refine lv_goto (tgt := 55) hx hb dN_Mod_lastEnd_325 (by decide) ?_
            exact ih_55_2 (nI (p), p + 1, f2) _ _ _ ⟨hP, hD, hS, lv_sub hl [2, 3, 1, 0] rfl, ⟨by omega, by omega, Blw_s hov.2.1 hov.1, fun h => ⟨(hov.2.2 (by omega)).2, Sfw_nxt c_245_7 (by omega) hb0 (fun i h1 h2 h3 => (hf i h1 h2 h3).2) (fun i h1 h2 h3 => (hs i h1 h2 h3).2) (hov.2.2 (by omega)).1⟩, Las_t (x := x) ((hov.1 0 (by omega)).mp c_313_8)⟩⟩ (show (len + 1 - (p + 1)) < (len + 1 - p) from by omega)
        · skip
          refine lv_aload_n hx hb dN_Mod_lastEnd_248 rfl (lv_at hl 0 rfl) ?_
          refine va_get (D := D) (ci := 11) (v := .ref (q 10)) (C := RN_Mod) (T := FN_Mod) (N := 25) hx hb ht fN_Mod hown hK hP 0 rfl rfl 10 (by decide) (ht _ mw_916) (fun _ h9 => h9) rfl dN_Mod_lastEnd_249 ?_
          refine lv_sipush (v := (nI 200)) hx hb dN_Mod_lastEnd_252 (by decide) ?_
          refine lv_iload_n hx hb dN_Mod_lastEnd_255 rfl (lv_at hl 3 rfl) ?_
          refine xn_mul hx hb dN_Mod_lastEnd_256 ?_
          refine lv_iload hx hb dN_Mod_lastEnd_257 (lv_at hl 4 rfl) ?_
          refine xn_add hx hb dN_Mod_lastEnd_259 ?_
          refine xz_ald hx hb hK hP 6 1 rfl rfl dN_Mod_lastEnd_260 (by omega) (by omega) ?_
          refine xz_eq0 (tgt := 297) hx hb dN_Mod_lastEnd_261 (by decide) (fun c_261_9 => ?_) (fun c_261_9 => ?_)
          · skip
            refine lv_iinc (v := (nI (k2 + 1))) (lv' := [(5, .int (nI (k2 + 1))), (0, .ref o), (1, .int (nI fr)), (2, .int x), (3, .int (nI p))]) hx hb dN_Mod_lastEnd_297 hl (k := 4) rfl (nI_1 _) (by decide) rfl (fun ls hl => ?_)
            refine lv_goto (tgt := 239) hx hb dN_Mod_lastEnd_300 (by decide) ?_
            exact ih_239_6 (f2, k2 + 1) _ _ _ ⟨hP, hD, hS, lv_sub hl [1, 2, 3, 4, 0] rfl, ⟨by omega, by omega, Ovr_keep hov (fun h9 => by have h8 := (hov.1 k2 (by omega)).mpr h9.1; rw [c_261_9] at h8; cases h8)⟩⟩ (show (n - (k2 + 1)) < (n - k2) from by omega)
          · skip
            refine lv_aload_n hx hb dN_Mod_lastEnd_264 rfl (lv_at hl 0 rfl) ?_
            refine lv_iload hx hb dN_Mod_lastEnd_265 (lv_at hl 4 rfl) ?_
            refine lv_iload_n hx hb dN_Mod_lastEnd_267 rfl (lv_at hl 3 rfl) ?_
            refine vx_calli (wc := [(o, .inr (11, [.int (nI th), .int (nI n), .int (nI b), .ref (q 3), .ref (q 4), .ref (q 5), .ref (q 6), .ref (q 7), .int (nI len), .ref (q 9), .ref (q 10), .ref (q 11), .ref (q 12), .ref (q 13), .ref (q 14), .ref (q 15), .ref (q 16), .ref (q 17), .int (nI tr), .int (nI hi), .ref (q 20), .ref (q 21), .ref (q 22), .ref (q 23), .int (nI ma)])), (q 3, .inl (cI, 200, .inl (ni K))), (q 4, .inl (cI, 200, .inl vI)), (q 7, .inl (cI, 200, .inl (ni u)))]) (wr := [(q 5, .inl (cI, 200, .inl fI)), (q 6, .inl (cI, 200, .inl sI)), (q 10, .inl (cZ, 40200, .inl (zb f2)))]) [0, 1, 2, 5] [3, 4, 6] hK hP hD hS hA rfl rfl (by decide) (by decide) (va_runV (As := [.int (nI k2), .int (nI p)]) (rest := []) ⟨hx, hb, hml, hown, ht⟩ (kMod_takes l D cI cZ cJ o q th n b len tr hi ma K V u vI k2 p hn hle (by omega) (by omega) hu hK5 hv hvb _) (⟨callB_of 2 ht (TB_in2 gN_Mod_takes) rfl rfl rfl (ht _ mw_6) (ht _ mw_1029) (by decide +kernel) ⟨Nat.le_of_ble_eq_true rfl, Nat.le_of_ble_eq_true rfl⟩, ht _ mw_1031, ht _ ms_38⟩) (vx_preV [0, 1, 2, 5] hK hP hD (by decide) rfl (ci := 11) rfl 0 rfl) rfl rfl hl.1 rfl (lv_room (Nat.le_of_ble_eq_true rfl)) dN_Mod_lastEnd_268 ⟨Nat.le_of_ble_eq_true rfl, Nat.le_of_ble_eq_true rfl⟩) (fun r1 w1 H locs hq hP hD hS => ?_)
            obtain ⟨rfl, rfl⟩ := hq
            have hP : va_P D clN [(o, .inr (11, [.int (nI th), .int (nI n), .int (nI b), .ref (q 3), .ref (q 4), .ref (q 5), .ref (q 6), .ref (q 7), .int (nI len), .ref (q 9), .ref (q 10), .ref (q 11), .ref (q 12), .ref (q 13), .ref (q 14), .ref (q 15), .ref (q 16), .ref (q 17), .int (nI tr), .int (nI hi), .ref (q 20), .ref (q 21), .ref (q 22), .ref (q 23), .int (nI ma)])), (q 3, .inl (cI, 200, .inl (ni K))), (q 4, .inl (cI, 200, .inl vI)), (q 5, .inl (cI, 200, .inl fI)), (q 6, .inl (cI, 200, .inl sI)), (q 7, .inl (cI, 200, .inl (ni u))), (q 10, .inl (cZ, 40200, .inl (zb f2)))] H := hP.sub [3, 4, 5, 0, 1, 6, 2] rfl
            have hD : va_D A [(o, .inr (11, [.int (nI th), .int (nI n), .int (nI b), .ref (q 3), .ref (q 4), .ref (q 5), .ref (q 6), .ref (q 7), .int (nI len), .ref (q 9), .ref (q 10), .ref (q 11), .ref (q 12), .ref (q 13), .ref (q 14), .ref (q 15), .ref (q 16), .ref (q 17), .int (nI tr), .int (nI hi), .ref (q 20), .ref (q 21), .ref (q 22), .ref (q 23), .int (nI ma)])), (q 3, .inl (cI, 200, .inl (ni K))), (q 4, .inl (cI, 200, .inl vI)), (q 5, .inl (cI, 200, .inl fI)), (q 6, .inl (cI, 200, .inl sI)), (q 7, .inl (cI, 200, .inl (ni u))), (q 10, .inl (cZ, 40200, .inl (zb f2)))] := hD.sub [3, 4, 5, 0, 1, 6, 2] (by decide) rfl
            refine xz_eq0 (tgt := 297) hx hb dN_Mod_lastEnd_271 (by decide) (fun c_271_10 => ?_) (fun c_271_10 => ?_)
            · skip
              refine lv_iinc (v := (nI (k2 + 1))) (lv' := [(5, .int (nI (k2 + 1))), (0, .ref o), (1, .int (nI fr)), (2, .int x), (3, .int (nI p))]) hx hb dN_Mod_lastEnd_297 hl (k := 4) rfl (nI_1 _) (by decide) rfl (fun ls hl => ?_)
              refine lv_goto (tgt := 239) hx hb dN_Mod_lastEnd_300 (by decide) ?_
              exact ih_239_6 (f2, k2 + 1) _ _ _ ⟨hP, hD, hS, lv_sub hl [1, 2, 3, 4, 0] rfl, ⟨by omega, by omega, Ovr_keep hov (fun h9 => by rw [c_271_10] at h9; cases h9.2)⟩⟩ (show (n - (k2 + 1)) < (n - k2) from by omega)
            · skip
              refine lv_aload_n hx hb dN_Mod_lastEnd_274 rfl (lv_at hl 0 rfl) ?_
              refine va_get (D := D) (ci := 11) (v := .ref (q 10)) (C := RN_Mod) (T := FN_Mod) (N := 25) hx hb ht fN_Mod hown hK hP 0 rfl rfl 10 (by decide) (ht _ mw_916) (fun _ h9 => h9) rfl dN_Mod_lastEnd_275 ?_
              refine lv_sipush (v := (nI 200)) hx hb dN_Mod_lastEnd_278 (by decide) ?_
              refine lv_iload_n hx hb dN_Mod_lastEnd_281 rfl (lv_at hl 3 rfl) ?_
              refine xn_mul hx hb dN_Mod_lastEnd_282 ?_
              refine lv_sipush (v := (nI 200)) hx hb dN_Mod_lastEnd_283 (by decide) ?_
              refine xn_add hx hb dN_Mod_lastEnd_286 ?_
              refine lv_aload_n hx hb dN_Mod_lastEnd_287 rfl (lv_at hl 0 rfl) ?_
              refine va_get (D := D) (ci := 11) (v := .ref (q 5)) (C := RN_Mod) (T := FN_Mod) (N := 25) hx hb ht fN_Mod hown hK hP 0 rfl rfl 5 (by decide) (ht _ mw_911) (fun _ h9 => h9) rfl dN_Mod_lastEnd_288 ?_
              refine lv_iload hx hb dN_Mod_lastEnd_291 (lv_at hl 4 rfl) ?_
              refine xi_ald hx hb hK hP 3 0 rfl rfl dN_Mod_lastEnd_293 (by omega) (by omega) ?_
              refine xn_top (y := (nI (F k2))) (hf k2 (by omega) (by omega) (Or.inl (takB_K c_271_10).2.1)).1 ?_
              refine xn_add hx hb dN_Mod_lastEnd_294 ?_
              refine lv_iconst (v := (zi true)) hx hb dN_Mod_lastEnd_295 (by decide) ?_
              refine xz_ast hx hb hK hP hD hS 6 1 rfl rfl dN_Mod_lastEnd_296 (by have := (hf k2 (by omega) (by omega) (Or.inl (takB_K c_271_10).2.1)).2; have := (takB_K c_271_10).2.2.1; omega) (by omega) (fun H locs hP hD hS => ?_)
              have hP : va_P D clN [(o, .inr (11, [.int (nI th), .int (nI n), .int (nI b), .ref (q 3), .ref (q 4), .ref (q 5), .ref (q 6), .ref (q 7), .int (nI len), .ref (q 9), .ref (q 10), .ref (q 11), .ref (q 12), .ref (q 13), .ref (q 14), .ref (q 15), .ref (q 16), .ref (q 17), .int (nI tr), .int (nI hi), .ref (q 20), .ref (q 21), .ref (q 22), .ref (q 23), .int (nI ma)])), (q 3, .inl (cI, 200, .inl (ni K))), (q 4, .inl (cI, 200, .inl vI)), (q 5, .inl (cI, 200, .inl fI)), (q 6, .inl (cI, 200, .inl sI)), (q 7, .inl (cI, 200, .inl (ni u))), (q 10, .inl (cZ, 40200, .inl (zb (ub f2 (((200 * p) + 200) + (F k2)) true))))] H := hP
              have hD : va_D A [(o, .inr (11, [.int (nI th), .int (nI n), .int (nI b), .ref (q 3), .ref (q 4), .ref (q 5), .ref (q 6), .ref (q 7), .int (nI len), .ref (q 9), .ref (q 10), .ref (q 11), .ref (q 12), .ref (q 13), .ref (q 14), .ref (q 15), .ref (q 16), .ref (q 17), .int (nI tr), .int (nI hi), .ref (q 20), .ref (q 21), .ref (q 22), .ref (q 23), .int (nI ma)])), (q 3, .inl (cI, 200, .inl (ni K))), (q 4, .inl (cI, 200, .inl vI)), (q 5, .inl (cI, 200, .inl fI)), (q 6, .inl (cI, 200, .inl sI)), (q 7, .inl (cI, 200, .inl (ni u))), (q 10, .inl (cZ, 40200, .inl (zb (ub f2 (((200 * p) + 200) + (F k2)) true))))] := hD
              refine lv_iinc (v := (nI (k2 + 1))) (lv' := [(5, .int (nI (k2 + 1))), (0, .ref o), (1, .int (nI fr)), (2, .int x), (3, .int (nI p))]) hx hb dN_Mod_lastEnd_297 hl (k := 4) rfl (nI_1 _) (by decide) rfl (fun ls hl => ?_)
              refine lv_goto (tgt := 239) hx hb dN_Mod_lastEnd_300 (by decide) ?_
              exact ih_239_6 (ub f2 (((200 * p) + 200) + (F k2)) true, k2 + 1) _ _ _ ⟨hP, hD, hS, lv_sub hl [1, 2, 3, 4, 0] rfl, ⟨by omega, by omega, Ovr_add hn (hf k2 (by omega) (by omega) (Or.inl (takB_K c_271_10).2.1)).2 (by omega) hov ((hov.1 k2 (by omega)).mp c_261_9) c_271_10⟩⟩ (show (n - (k2 + 1)) < (n - k2) from by omega)
      · skip
        refine lv_iconst (v := (zi false)) hx hb dN_Mod_lastEnd_71 (by decide) ?_
        refine lv_istore (lv' := [(4, .int (zi false)), (0, .ref o), (1, .int (nI fr)), (2, .int x), (3, .int (nI p))]) hx hb dN_Mod_lastEnd_72 hl (by decide) rfl (fun ls hl => ?_)
        refine lv_iconst (v := (nI 1)) hx hb dN_Mod_lastEnd_74 (by decide) ?_
        refine lv_istore (lv' := [(5, .int (nI 1)), (4, .int (zi false)), (0, .ref o), (1, .int (nI fr)), (2, .int x), (3, .int (nI p))]) hx hb dN_Mod_lastEnd_75 hl (by decide) rfl (fun ls hl => ?_)
        refine vx_loop (α := (Nat → Bool) × Bool × Nat) (fun (a : (Nat → Bool) × Bool × Nat) (H : Heap) (locs : List Loc) (ls : Array Slot) => match a with | (f1, mo1, k1) => va_P D clN [(o, .inr (11, [.int (nI th), .int (nI n), .int (nI b), .ref (q 3), .ref (q 4), .ref (q 5), .ref (q 6), .ref (q 7), .int (nI len), .ref (q 9), .ref (q 10), .ref (q 11), .ref (q 12), .ref (q 13), .ref (q 14), .ref (q 15), .ref (q 16), .ref (q 17), .int (nI tr), .int (nI hi), .ref (q 20), .ref (q 21), .ref (q 22), .ref (q 23), .int (nI ma)])), (q 3, .inl (cI, 200, .inl (ni K))), (q 4, .inl (cI, 200, .inl vI)), (q 5, .inl (cI, 200, .inl fI)), (q 6, .inl (cI, 200, .inl sI)), (q 7, .inl (cI, 200, .inl (ni u))), (q 10, .inl (cZ, 40200, .inl (zb f1)))] H ∧ va_D A [(o, .inr (11, [.int (nI th), .int (nI n), .int (nI b), .ref (q 3), .ref (q 4), .ref (q 5), .ref (q 6), .ref (q 7), .int (nI len), .ref (q 9), .ref (q 10), .ref (q 11), .ref (q 12), .ref (q 13), .ref (q 14), .ref (q 15), .ref (q 16), .ref (q 17), .int (nI tr), .int (nI hi), .ref (q 20), .ref (q 21), .ref (q 22), .ref (q 23), .int (nI ma)])), (q 3, .inl (cI, 200, .inl (ni K))), (q 4, .inl (cI, 200, .inl vI)), (q 5, .inl (cI, 200, .inl fI)), (q 6, .inl (cI, 200, .inl sI)), (q 7, .inl (cI, 200, .inl (ni u))), (q 10, .inl (cZ, 40200, .inl (zb f1)))] ∧ va_S A s.heap H locs ∧ lv_has ls 7 [(0, .ref o), (1, .int (nI fr)), (2, .int x), (3, .int (nI p)), (4, .int (zi mo1)), (5, .int (nI k1))] ∧ (1 ≤ k1 ∧ k1 ≤ n ∧ Blw K V F S len u fr b n p f1 ∧ Nil len n p f1 ∧ Sfw K V F S len u fr b n p f1 ∧ cntF n f1 p ≤ cntF n f p ∧ (mo1 = true → cntF n f1 p < cntF n f p) ∧ (mo1 = false → f1 = f ∧ ∀ k, 1 ≤ k → k < k1 → Cfw K V F S len u p k f1))) (fun (a : (Nat → Bool) × Bool × Nat) => match a with | (f1, mo1, k1) => n - k1) 77 [] ?_ (f, false, 1) ⟨hP, hD, hS, lv_sub hl [2, 3, 4, 5, 1, 0] rfl, ⟨by omega, by omega, hbl2, hni2, hsf2, Nat.le_refl _, (fun h => by cases h), fun _ => ⟨rfl, fun k h1 h2 => absurd h1 (by omega)⟩⟩⟩
        intro a H locs ls hq ih_77_11
        obtain ⟨f1, mo1, k1⟩ := a
        obtain ⟨hP, hD, hS, hl, hI⟩ := hq
        obtain ⟨hk11, hk1n, hbl1, hni1, hsf1, hct1, hmt1, hmo1⟩ := hI
        refine lv_iload hx hb dN_Mod_lastEnd_77 (lv_at hl 5 rfl) ?_
        refine lv_aload_n hx hb dN_Mod_lastEnd_79 rfl (lv_at hl 0 rfl) ?_
        refine va_get (D := D) (ci := 11) (v := .int (nI n)) (C := RN_Mod) (T := FN_Mod) (N := 25) hx hb ht fN_Mod hown hK hP 0 rfl rfl 1 (by decide) (ht _ mw_907) (fun _ h9 => h9) rfl dN_Mod_lastEnd_80 ?_
        refine xn_ge (tgt := 233) hx hb dN_Mod_lastEnd_83 (by decide) (by omega) (by omega) (fun c_83_12 => ?_) (fun c_83_12 => ?_)
        · skip
          refine lv_goto (tgt := 66) hx hb dN_Mod_lastEnd_233 (by decide) ?_
          exact ih_66_4 (f1, mo1) _ _ _ ⟨hP, hD, hS, lv_sub hl [0, 1, 2, 3, 4] rfl, ⟨hbl1, hni1, hsf1, fun h k h1 h2 => (hmo1 h).2 k h1 (by omega)⟩⟩ (show (cntF n f1 p + (if mo1 = true then 1 else 0)) < (cntF n f p + (if mo = true then 1 else 0)) from by rw [if_pos c_68_5]; cases mo1 with | true => (have := hmt1 rfl; simp; omega) | false => (rw [(hmo1 rfl).1]; simp))
        · skip
          refine lv_aload_n hx hb dN_Mod_lastEnd_86 rfl (lv_at hl 0 rfl) ?_
          refine va_get (D := D) (ci := 11) (v := .ref (q 10)) (C := RN_Mod) (T := FN_Mod) (N := 25) hx hb ht fN_Mod hown hK hP 0 rfl rfl 10 (by decide) (ht _ mw_916) (fun _ h9 => h9) rfl dN_Mod_lastEnd_87 ?_
          refine lv_sipush (v := (nI 200)) hx hb dN_Mod_lastEnd_90 (by decide) ?_
          refine lv_iload_n hx hb dN_Mod_lastEnd_93 rfl (lv_at hl 3 rfl) ?_
          refine xn_mul hx hb dN_Mod_lastEnd_94 ?_
          refine lv_iload hx hb dN_Mod_lastEnd_95 (lv_at hl 5 rfl) ?_
          refine xn_add hx hb dN_Mod_lastEnd_97 ?_
          refine xz_ald hx hb hK hP 6 1 rfl rfl dN_Mod_lastEnd_98 (by omega) (by omega) ?_
          refine xz_eq0 (tgt := 227) hx hb dN_Mod_lastEnd_99 (by decide) (fun c_99_13 => ?_) (fun c_99_13 => ?_)
          · skip
            refine lv_iinc (v := (nI (k1 + 1))) (lv' := [(5, .int (nI (k1 + 1))), (0, .ref o), (1, .int (nI fr)), (2, .int x), (3, .int (nI p)), (4, .int (zi mo1))]) hx hb dN_Mod_lastEnd_227 hl (k := 5) rfl (nI_1 _) (by decide) rfl (fun ls hl => ?_)
            refine lv_goto (tgt := 77) hx hb dN_Mod_lastEnd_230 (by decide) ?_
            exact ih_77_11 (f1, mo1, k1 + 1) _ _ _ ⟨hP, hD, hS, lv_sub hl [1, 2, 3, 4, 5, 0] rfl, ⟨by omega, by omega, hbl1, hni1, hsf1, hct1, hmt1, fun h => ⟨(hmo1 h).1, Cfw_more (hmo1 h).2 (fun h8 _ => by rw [c_99_13] at h8; cases h8)⟩⟩⟩ (show (n - (k1 + 1)) < (n - k1) from by omega)
          · skip
            refine lv_aload_n hx hb dN_Mod_lastEnd_102 rfl (lv_at hl 0 rfl) ?_
            refine lv_iload hx hb dN_Mod_lastEnd_103 (lv_at hl 5 rfl) ?_
            refine lv_iload_n hx hb dN_Mod_lastEnd_105 rfl (lv_at hl 3 rfl) ?_
            refine vx_calli (wc := [(o, .inr (11, [.int (nI th), .int (nI n), .int (nI b), .ref (q 3), .ref (q 4), .ref (q 5), .ref (q 6), .ref (q 7), .int (nI len), .ref (q 9), .ref (q 10), .ref (q 11), .ref (q 12), .ref (q 13), .ref (q 14), .ref (q 15), .ref (q 16), .ref (q 17), .int (nI tr), .int (nI hi), .ref (q 20), .ref (q 21), .ref (q 22), .ref (q 23), .int (nI ma)])), (q 3, .inl (cI, 200, .inl (ni K))), (q 4, .inl (cI, 200, .inl vI)), (q 7, .inl (cI, 200, .inl (ni u)))]) (wr := [(q 5, .inl (cI, 200, .inl fI)), (q 6, .inl (cI, 200, .inl sI)), (q 10, .inl (cZ, 40200, .inl (zb f1)))]) [0, 1, 2, 5] [3, 4, 6] hK hP hD hS hA rfl rfl (by decide) (by decide) (va_runV (As := [.int (nI k1), .int (nI p)]) (rest := []) ⟨hx, hb, hml, hown, ht⟩ (kMod_passes l D cI cZ cJ o q th n b len tr hi ma K V u vI k1 p hn hle (by omega) (by omega) hu hK5 hv hvb hv4 _) (⟨callB_of 2 ht (TB_in2 gN_Mod_passes) rfl rfl rfl (ht _ mw_6) (ht _ mw_1033) (by decide +kernel) ⟨Nat.le_of_ble_eq_true rfl, Nat.le_of_ble_eq_true rfl⟩, ht _ mw_1035, ht _ ms_39⟩) (vx_preV [0, 1, 2, 5] hK hP hD (by decide) rfl (ci := 11) rfl 0 rfl) rfl rfl hl.1 rfl (lv_room (Nat.le_of_ble_eq_true rfl)) dN_Mod_lastEnd_106 ⟨Nat.le_of_ble_eq_true rfl, Nat.le_of_ble_eq_true rfl⟩) (fun r1 w1 H locs hq hP hD hS => ?_)
            obtain ⟨rfl, rfl⟩ := hq
            have hP : va_P D clN [(o, .inr (11, [.int (nI th), .int (nI n), .int (nI b), .ref (q 3), .ref (q 4), .ref (q 5), .ref (q 6), .ref (q 7), .int (nI len), .ref (q 9), .ref (q 10), .ref (q 11), .ref (q 12), .ref (q 13), .ref (q 14), .ref (q 15), .ref (q 16), .ref (q 17), .int (nI tr), .int (nI hi), .ref (q 20), .ref (q 21), .ref (q 22), .ref (q 23), .int (nI ma)])), (q 3, .inl (cI, 200, .inl (ni K))), (q 4, .inl (cI, 200, .inl vI)), (q 5, .inl (cI, 200, .inl fI)), (q 6, .inl (cI, 200, .inl sI)), (q 7, .inl (cI, 200, .inl (ni u))), (q 10, .inl (cZ, 40200, .inl (zb f1)))] H := hP.sub [3, 4, 5, 0, 1, 6, 2] rfl
            have hD : va_D A [(o, .inr (11, [.int (nI th), .int (nI n), .int (nI b), .ref (q 3), .ref (q 4), .ref (q 5), .ref (q 6), .ref (q 7), .int (nI len), .ref (q 9), .ref (q 10), .ref (q 11), .ref (q 12), .ref (q 13), .ref (q 14), .ref (q 15), .ref (q 16), .ref (q 17), .int (nI tr), .int (nI hi), .ref (q 20), .ref (q 21), .ref (q 22), .ref (q 23), .int (nI ma)])), (q 3, .inl (cI, 200, .inl (ni K))), (q 4, .inl (cI, 200, .inl vI)), (q 5, .inl (cI, 200, .inl fI)), (q 6, .inl (cI, 200, .inl sI)), (q 7, .inl (cI, 200, .inl (ni u))), (q 10, .inl (cZ, 40200, .inl (zb f1)))] := hD.sub [3, 4, 5, 0, 1, 6, 2] (by decide) rfl
            refine xz_ne0 (tgt := 115) hx hb dN_Mod_lastEnd_109 (by decide) (fun c_109_14 => ?_) (fun c_109_14 => ?_)
            · skip
              refine vx_join (α := Nat) (fun j16 => j16 = if K k1 = 2 then S k1 else F k1) (fun j16 => F0 m 143 ls [.int (nI j16)]) (fun j16 hj16 => ?_) (fun Jj16 => ?_)
              · skip
                have hj_bb := hj16
                have hbbn : j16 < n := by rw [hj16]; split; exact (hs k1 (by omega) (by omega) (by assumption)).2; exact (hf k1 (by omega) (by omega) (by have := (pasB_K c_109_14).2; omega)).2
                refine lv_istore (lv' := [(6, .int (nI j16)), (0, .ref o), (1, .int (nI fr)), (2, .int x), (3, .int (nI p)), (4, .int (zi mo1)), (5, .int (nI k1))]) hx hb dN_Mod_lastEnd_143 hl (by decide) rfl (fun ls hl => ?_)
                refine vx_join (α := Bool) (fun j17 => j17 = (mo1 || (!f1 (200 * p + F k1) || !f1 (200 * p + j16)))) (fun j17 => F0 m 192 ls [.int (zi j17)]) (fun j17 hj17 => ?_) (fun Jj17 => ?_)
                · skip
                  have hj_mo := hj17
                  refine lv_istore (lv' := [(4, .int (zi j17)), (6, .int (nI j16)), (0, .ref o), (1, .int (nI fr)), (2, .int x), (3, .int (nI p)), (5, .int (nI k1))]) hx hb dN_Mod_lastEnd_192 hl (by decide) rfl (fun ls hl => ?_)
                  refine lv_aload_n hx hb dN_Mod_lastEnd_194 rfl (lv_at hl 2 rfl) ?_
                  refine va_get (D := D) (ci := 11) (v := .ref (q 10)) (C := RN_Mod) (T := FN_Mod) (N := 25) hx hb ht fN_Mod hown hK hP 0 rfl rfl 10 (by decide) (ht _ mw_916) (fun _ h9 => h9) rfl dN_Mod_lastEnd_195 ?_
                  refine lv_sipush (v := (nI 200)) hx hb dN_Mod_lastEnd_198 (by decide) ?_
                  refine lv_iload_n hx hb dN_Mod_lastEnd_201 rfl (lv_at hl 5 rfl) ?_
                  refine xn_mul hx hb dN_Mod_lastEnd_202 ?_
                  refine lv_aload_n hx hb dN_Mod_lastEnd_203 rfl (lv_at hl 2 rfl) ?_
                  refine va_get (D := D) (ci := 11) (v := .ref (q 5)) (C := RN_Mod) (T := FN_Mod) (N := 25) hx hb ht fN_Mod hown hK hP 0 rfl rfl 5 (by decide) (ht _ mw_911) (fun _ h9 => h9) rfl dN_Mod_lastEnd_204 ?_
                  refine lv_iload hx hb dN_Mod_lastEnd_207 (lv_at hl 6 rfl) ?_
                  refine xi_ald hx hb hK hP 3 0 rfl rfl dN_Mod_lastEnd_209 (by omega) (by omega) ?_
                  refine xn_top (y := (nI (F k1))) (hf k1 (by omega) (by omega) (by have := (pasB_K c_109_14).2; omega)).1 ?_
                  refine xn_add hx hb dN_Mod_lastEnd_210 ?_
                  refine lv_iconst (v := (zi true)) hx hb dN_Mod_lastEnd_211 (by decide) ?_
                  refine xz_ast hx hb hK hP hD hS 6 1 rfl rfl dN_Mod_lastEnd_212 (by have := (hf k1 (by omega) (by omega) (by have := (pasB_K c_109_14).2; omega)).2; omega) (by omega) (fun H locs hP hD hS => ?_)
                  have hP : va_P D clN [(o, .inr (11, [.int (nI th), .int (nI n), .int (nI b), .ref (q 3), .ref (q 4), .ref (q 5), .ref (q 6), .ref (q 7), .int (nI len), .ref (q 9), .ref (q 10), .ref (q 11), .ref (q 12), .ref (q 13), .ref (q 14), .ref (q 15), .ref (q 16), .ref (q 17), .int (nI tr), .int (nI hi), .ref (q 20), .ref (q 21), .ref (q 22), .ref (q 23), .int (nI ma)])), (q 3, .inl (cI, 200, .inl (ni K))), (q 4, .inl (cI, 200, .inl vI)), (q 5, .inl (cI, 200, .inl fI)), (q 6, .inl (cI, 200, .inl sI)), (q 7, .inl (cI, 200, .inl (ni u))), (q 10, .inl (cZ, 40200, .inl (zb (ub f1 ((200 * p) + (F k1)) true))))] H := hP
                  have hD : va_D A [(o, .inr (11, [.int (nI th), .int (nI n), .int (nI b), .ref (q 3), .ref (q 4), .ref (q 5), .ref (q 6), .ref (q 7), .int (nI len), .ref (q 9), .ref (q 10), .ref (q 11), .ref (q 12), .ref (q 13), .ref (q 14), .ref (q 15), .ref (q 16), .ref (q 17), .int (nI tr), .int (nI hi), .ref (q 20), .ref (q 21), .ref (q 22), .ref (q 23), .int (nI ma)])), (q 3, .inl (cI, 200, .inl (ni K))), (q 4, .inl (cI, 200, .inl vI)), (q 5, .inl (cI, 200, .inl fI)), (q 6, .inl (cI, 200, .inl sI)), (q 7, .inl (cI, 200, .inl (ni u))), (q 10, .inl (cZ, 40200, .inl (zb (ub f1 ((200 * p) + (F k1)) true))))] := hD
                  refine lv_aload_n hx hb dN_Mod_lastEnd_213 rfl (lv_at hl 2 rfl) ?_
                  refine va_get (D := D) (ci := 11) (v := .ref (q 10)) (C := RN_Mod) (T := FN_Mod) (N := 25) hx hb ht fN_Mod hown hK hP 0 rfl rfl 10 (by decide) (ht _ mw_916) (fun _ h9 => h9) rfl dN_Mod_lastEnd_214 ?_
                  refine lv_sipush (v := (nI 200)) hx hb dN_Mod_lastEnd_217 (by decide) ?_
                  refine lv_iload_n hx hb dN_Mod_lastEnd_220 rfl (lv_at hl 5 rfl) ?_
                  refine xn_mul hx hb dN_Mod_lastEnd_221 ?_
                  refine lv_iload hx hb dN_Mod_lastEnd_222 (lv_at hl 1 rfl) ?_
                  refine xn_add hx hb dN_Mod_lastEnd_224 ?_
                  refine lv_iconst (v := (zi true)) hx hb dN_Mod_lastEnd_225 (by decide) ?_
                  refine xz_ast hx hb hK hP hD hS 6 1 rfl rfl dN_Mod_lastEnd_226 (by omega) (by omega) (fun H locs hP hD hS => ?_)
                  have hP : va_P D clN [(o, .inr (11, [.int (nI th), .int (nI n), .int (nI b), .ref (q 3), .ref (q 4), .ref (q 5), .ref (q 6), .ref (q 7), .int (nI len), .ref (q 9), .ref (q 10), .ref (q 11), .ref (q 12), .ref (q 13), .ref (q 14), .ref (q 15), .ref (q 16), .ref (q 17), .int (nI tr), .int (nI hi), .ref (q 20), .ref (q 21), .ref (q 22), .ref (q 23), .int (nI ma)])), (q 3, .inl (cI, 200, .inl (ni K))), (q 4, .inl (cI, 200, .inl vI)), (q 5, .inl (cI, 200, .inl fI)), (q 6, .inl (cI, 200, .inl sI)), (q 7, .inl (cI, 200, .inl (ni u))), (q 10, .inl (cZ, 40200, .inl (zb (ub (ub f1 ((200 * p) + (F k1)) true) ((200 * p) + j16) true))))] H := hP
                  have hD : va_D A [(o, .inr (11, [.int (nI th), .int (nI n), .int (nI b), .ref (q 3), .ref (q 4), .ref (q 5), .ref (q 6), .ref (q 7), .int (nI len), .ref (q 9), .ref (q 10), .ref (q 11), .ref (q 12), .ref (q 13), .ref (q 14), .ref (q 15), .ref (q 16), .ref (q 17), .int (nI tr), .int (nI hi), .ref (q 20), .ref (q 21), .ref (q 22), .ref (q 23), .int (nI ma)])), (q 3, .inl (cI, 200, .inl (ni K))), (q 4, .inl (cI, 200, .inl vI)), (q 5, .inl (cI, 200, .inl fI)), (q 6, .inl (cI, 200, .inl sI)), (q 7, .inl (cI, 200, .inl (ni u))), (q 10, .inl (cZ, 40200, .inl (zb (ub (ub f1 ((200 * p) + (F k1)) true) ((200 * p) + j16) true))))] := hD
                  refine lv_iinc (v := (nI (k1 + 1))) (lv' := [(5, .int (nI (k1 + 1))), (4, .int (zi j17)), (6, .int (nI j16)), (0, .ref o), (1, .int (nI fr)), (2, .int x), (3, .int (nI p))]) hx hb dN_Mod_lastEnd_227 hl (k := 6) rfl (nI_1 _) (by decide) rfl (fun ls hl => ?_)
                  refine lv_goto (tgt := 77) hx hb dN_Mod_lastEnd_230 (by decide) ?_
                  exact ih_77_11 (ub (ub f1 ((200 * p) + (F k1)) true) ((200 * p) + j16) true, j17, k1 + 1) _ _ _ ⟨hP, hD, hS, lv_sub hl [3, 4, 5, 6, 1, 0] rfl, fpass_step hn (by omega) c_99_13 c_109_14 (fun i h1 h2 h3 => (hf i h1 h2 (by omega)).2) (fun i h1 h2 h3 => (hs i h1 h2 h3).2) hk11 hbl1 hni1 hsf1 hct1 hmt1 hmo1 hj_bb hj_mo⟩ (show (n - (k1 + 1)) < (n - k1) from by omega)
                · skip
                  refine lv_iload hx hb dN_Mod_lastEnd_145 (lv_at hl 5 rfl) ?_
                  refine xz_ne0 (tgt := 187) hx hb dN_Mod_lastEnd_147 (by decide) (fun c_147_17 => ?_) (fun c_147_17 => ?_)
                  · skip
                    refine lv_iconst (v := (zi true)) hx hb dN_Mod_lastEnd_187 (by decide) ?_
                    refine lv_goto (tgt := 192) hx hb dN_Mod_lastEnd_188 (by decide) ?_
                    exact Jj17 (true) (by simp [c_19_1, c_60_3, c_68_5, c_83_12, c_99_13, c_109_14, c_147_17])
                  · skip
                    refine lv_aload_n hx hb dN_Mod_lastEnd_150 rfl (lv_at hl 1 rfl) ?_
                    refine va_get (D := D) (ci := 11) (v := .ref (q 10)) (C := RN_Mod) (T := FN_Mod) (N := 25) hx hb ht fN_Mod hown hK hP 0 rfl rfl 10 (by decide) (ht _ mw_916) (fun _ h9 => h9) rfl dN_Mod_lastEnd_151 ?_
                    refine lv_sipush (v := (nI 200)) hx hb dN_Mod_lastEnd_154 (by decide) ?_
                    refine lv_iload_n hx hb dN_Mod_lastEnd_157 rfl (lv_at hl 4 rfl) ?_
                    refine xn_mul hx hb dN_Mod_lastEnd_158 ?_
                    refine lv_aload_n hx hb dN_Mod_lastEnd_159 rfl (lv_at hl 1 rfl) ?_
                    refine va_get (D := D) (ci := 11) (v := .ref (q 5)) (C := RN_Mod) (T := FN_Mod) (N := 25) hx hb ht fN_Mod hown hK hP 0 rfl rfl 5 (by decide) (ht _ mw_911) (fun _ h9 => h9) rfl dN_Mod_lastEnd_160 ?_
                    refine lv_iload hx hb dN_Mod_lastEnd_163 (lv_at hl 6 rfl) ?_
                    refine xi_ald hx hb hK hP 3 0 rfl rfl dN_Mod_lastEnd_165 (by omega) (by omega) ?_
                    refine xn_top (y := (nI (F k1))) (hf k1 (by omega) (by omega) (by have := (pasB_K c_109_14).2; omega)).1 ?_
                    refine xn_add hx hb dN_Mod_lastEnd_166 ?_
                    refine xz_ald hx hb hK hP 6 1 rfl rfl dN_Mod_lastEnd_167 (by have := (hf k1 (by omega) (by omega) (by have := (pasB_K c_109_14).2; omega)).2; omega) (by omega) ?_
                    refine xz_eq0 (tgt := 187) hx hb dN_Mod_lastEnd_168 (by decide) (fun c_168_18 => ?_) (fun c_168_18 => ?_)
                    · skip
                      refine lv_iconst (v := (zi true)) hx hb dN_Mod_lastEnd_187 (by decide) ?_
                      refine lv_goto (tgt := 192) hx hb dN_Mod_lastEnd_188 (by decide) ?_
                      exact Jj17 (true) (by simp [c_19_1, c_60_3, c_68_5, c_83_12, c_99_13, c_109_14, c_147_17, c_168_18])
                    · skip
                      refine lv_aload_n hx hb dN_Mod_lastEnd_171 rfl (lv_at hl 1 rfl) ?_
                      refine va_get (D := D) (ci := 11) (v := .ref (q 10)) (C := RN_Mod) (T := FN_Mod) (N := 25) hx hb ht fN_Mod hown hK hP 0 rfl rfl 10 (by decide) (ht _ mw_916) (fun _ h9 => h9) rfl dN_Mod_lastEnd_172 ?_
                      refine lv_sipush (v := (nI 200)) hx hb dN_Mod_lastEnd_175 (by decide) ?_
                      refine lv_iload_n hx hb dN_Mod_lastEnd_178 rfl (lv_at hl 4 rfl) ?_
                      refine xn_mul hx hb dN_Mod_lastEnd_179 ?_
                      refine lv_iload hx hb dN_Mod_lastEnd_180 (lv_at hl 0 rfl) ?_
                      refine xn_add hx hb dN_Mod_lastEnd_182 ?_
                      refine xz_ald hx hb hK hP 6 1 rfl rfl dN_Mod_lastEnd_183 (by omega) (by omega) ?_
                      refine xz_ne0 (tgt := 191) hx hb dN_Mod_lastEnd_184 (by decide) (fun c_184_19 => ?_) (fun c_184_19 => ?_)
                      · skip
                        refine lv_iconst (v := (zi false)) hx hb dN_Mod_lastEnd_191 (by decide) ?_
                        exact Jj17 (false) (by simp [c_19_1, c_60_3, c_68_5, c_83_12, c_99_13, c_109_14, c_147_17, c_168_18, c_184_19])
                      · skip
                        refine lv_iconst (v := (zi true)) hx hb dN_Mod_lastEnd_187 (by decide) ?_
                        refine lv_goto (tgt := 192) hx hb dN_Mod_lastEnd_188 (by decide) ?_
                        exact Jj17 (true) (by simp [c_19_1, c_60_3, c_68_5, c_83_12, c_99_13, c_109_14, c_147_17, c_168_18, c_184_19])
              · skip
                refine lv_aload_n hx hb dN_Mod_lastEnd_115 rfl (lv_at hl 0 rfl) ?_
                refine va_get (D := D) (ci := 11) (v := .ref (q 3)) (C := RN_Mod) (T := FN_Mod) (N := 25) hx hb ht fN_Mod hown hK hP 0 rfl rfl 3 (by decide) (ht _ mw_909) (fun _ h9 => h9) rfl dN_Mod_lastEnd_116 ?_
                refine lv_iload hx hb dN_Mod_lastEnd_119 (lv_at hl 5 rfl) ?_
                refine xn_ald hx hb hK hP 1 0 rfl rfl dN_Mod_lastEnd_121 (by omega) (by omega) ?_
                refine lv_iconst (v := (nI 2)) hx hb dN_Mod_lastEnd_122 (by decide) ?_
                refine xn_ne (tgt := 136) hx hb dN_Mod_lastEnd_123 (by decide) (by have := hK5 k1; omega) (by omega) (fun c_123_20 => ?_) (fun c_123_20 => ?_)
                · skip
                  refine lv_aload_n hx hb dN_Mod_lastEnd_136 rfl (lv_at hl 0 rfl) ?_
                  refine va_get (D := D) (ci := 11) (v := .ref (q 5)) (C := RN_Mod) (T := FN_Mod) (N := 25) hx hb ht fN_Mod hown hK hP 0 rfl rfl 5 (by decide) (ht _ mw_911) (fun _ h9 => h9) rfl dN_Mod_lastEnd_137 ?_
                  refine lv_iload hx hb dN_Mod_lastEnd_140 (lv_at hl 5 rfl) ?_
                  refine xi_ald hx hb hK hP 3 0 rfl rfl dN_Mod_lastEnd_142 (by omega) (by omega) ?_
                  refine xn_top (y := (nI (F k1))) (hf k1 (by omega) (by omega) (by have := (pasB_K c_109_14).2; omega)).1 ?_
                  exact Jj16 (F k1) (by rw [if_neg c_123_20])
                · skip
                  refine lv_aload_n hx hb dN_Mod_lastEnd_126 rfl (lv_at hl 0 rfl) ?_
                  refine va_get (D := D) (ci := 11) (v := .ref (q 6)) (C := RN_Mod) (T := FN_Mod) (N := 25) hx hb ht fN_Mod hown hK hP 0 rfl rfl 6 (by decide) (ht _ mw_912) (fun _ h9 => h9) rfl dN_Mod_lastEnd_127 ?_
                  refine lv_iload hx hb dN_Mod_lastEnd_130 (lv_at hl 5 rfl) ?_
                  refine xi_ald hx hb hK hP 4 0 rfl rfl dN_Mod_lastEnd_132 (by omega) (by omega) ?_
                  refine xn_top (y := (nI (S k1))) (hs k1 (by omega) (by omega) c_123_20).1 ?_
                  refine lv_goto (tgt := 143) hx hb dN_Mod_lastEnd_133 (by decide) ?_
                  exact Jj16 (S k1) (by rw [if_pos c_123_20])
            · skip
              refine lv_goto (tgt := 227) hx hb dN_Mod_lastEnd_112 (by decide) ?_
              refine lv_iinc (v := (nI (k1 + 1))) (lv' := [(5, .int (nI (k1 + 1))), (0, .ref o), (1, .int (nI fr)), (2, .int x), (3, .int (nI p)), (4, .int (zi mo1))]) hx hb dN_Mod_lastEnd_227 hl (k := 5) rfl (nI_1 _) (by decide) rfl (fun ls hl => ?_)
              refine lv_goto (tgt := 77) hx hb dN_Mod_lastEnd_230 (by decide) ?_
              exact ih_77_11 (f1, mo1, k1 + 1) _ _ _ ⟨hP, hD, hS, lv_sub hl [1, 2, 3, 4, 5, 0] rfl, ⟨by omega, by omega, hbl1, hni1, hsf1, hct1, hmt1, fun h => ⟨(hmo1 h).1, Cfw_more (hmo1 h).2 (fun _ h9 => by rw [c_109_14] at h9; cases h9)⟩⟩⟩ (show (n - (k1 + 1)) < (n - k1) from by omega)
  · skip
    refine lv_aload_n hx hb dN_Mod_lastEnd_22 rfl (lv_at hl 0 rfl) ?_
    refine va_get (D := D) (ci := 11) (v := .ref (q 10)) (C := RN_Mod) (T := FN_Mod) (N := 25) hx hb ht fN_Mod hown hK hP 0 rfl rfl 10 (by decide) (ht _ mw_916) (fun _ h9 => h9) rfl dN_Mod_lastEnd_23 ?_
    refine lv_iload_n hx hb dN_Mod_lastEnd_26 rfl (lv_at hl 2 rfl) ?_
    refine lv_iconst (v := (zi false)) hx hb dN_Mod_lastEnd_27 (by decide) ?_
    refine xz_ast hx hb hK hP hD hS 6 1 rfl rfl dN_Mod_lastEnd_28 (by omega) (by omega) (fun H locs hP hD hS => ?_)
    have hP : va_P D clN [(o, .inr (11, [.int (nI th), .int (nI n), .int (nI b), .ref (q 3), .ref (q 4), .ref (q 5), .ref (q 6), .ref (q 7), .int (nI len), .ref (q 9), .ref (q 10), .ref (q 11), .ref (q 12), .ref (q 13), .ref (q 14), .ref (q 15), .ref (q 16), .ref (q 17), .int (nI tr), .int (nI hi), .ref (q 20), .ref (q 21), .ref (q 22), .ref (q 23), .int (nI ma)])), (q 3, .inl (cI, 200, .inl (ni K))), (q 4, .inl (cI, 200, .inl vI)), (q 5, .inl (cI, 200, .inl fI)), (q 6, .inl (cI, 200, .inl sI)), (q 7, .inl (cI, 200, .inl (ni u))), (q 10, .inl (cZ, 40200, .inl (zb (ub f k false))))] H := hP
    have hD : va_D A [(o, .inr (11, [.int (nI th), .int (nI n), .int (nI b), .ref (q 3), .ref (q 4), .ref (q 5), .ref (q 6), .ref (q 7), .int (nI len), .ref (q 9), .ref (q 10), .ref (q 11), .ref (q 12), .ref (q 13), .ref (q 14), .ref (q 15), .ref (q 16), .ref (q 17), .int (nI tr), .int (nI hi), .ref (q 20), .ref (q 21), .ref (q 22), .ref (q 23), .int (nI ma)])), (q 3, .inl (cI, 200, .inl (ni K))), (q 4, .inl (cI, 200, .inl vI)), (q 5, .inl (cI, 200, .inl fI)), (q 6, .inl (cI, 200, .inl sI)), (q 7, .inl (cI, 200, .inl (ni u))), (q 10, .inl (cZ, 40200, .inl (zb (ub f k false))))] := hD
    refine lv_iinc (v := (nI (k + 1))) (lv' := [(2, .int (nI (k + 1))), (0, .ref o), (1, .int (nI fr))]) hx hb dN_Mod_lastEnd_29 hl (k := 2) rfl (nI_1 _) (by decide) rfl (fun ls hl => ?_)
    refine lv_goto (tgt := 6) hx hb dN_Mod_lastEnd_32 (by decide) ?_
    exact ih_6_0 (ub f k false, k + 1) _ _ _ ⟨hP, hD, hS, lv_sub hl [1, 2, 0] rfl, ⟨by omega, by omega, wip_step hz⟩⟩ (show (200 * len + 200 - (k + 1)) < (200 * len + 200 - k) from by omega)
end
section
/-! The reference's walk, as mathematics: at a place the first step in order from which the END can be come to; then on. -/
abbrev Sv : Type := Nat → Int32
noncomputable def canB (K V F S : Nat → Nat) (len : Nat) (u : Nat → Nat) (L : Nat) (al : Bool) (p k : Nat) : Bool := @decide (Can K V F S len u L al p k) (Classical.propDecidable _)
theorem canB_iff {K V F S : Nat → Nat} {len : Nat} {u : Nat → Nat} {L : Nat} {al : Bool} {p k : Nat} : canB K V F S len u L al p k = true ↔ Can K V F S len u L al p k := @decide_eq_true_iff _ (Classical.propDecidable _)
def svk (K V : Nat → Nat) (p k : Nat) (sv : Sv) : Sv := if K k = 3 then upd sv (V k) (nI p) else sv
def psh (K F S : Nat → Nat) (k : Nat) (sv : Sv) (r : List (Nat × Sv)) : List (Nat × Sv) := (F k, sv) :: (if K k = 2 then (S k, sv) :: r else r)
def endB (L : Nat) (al : Bool) (p : Nat) : Bool := decide (p = L) || !al
noncomputable def goB (K V F S : Nat → Nat) (len : Nat) (u : Nat → Nat) (L : Nat) (al : Bool) (p k : Nat) : Bool := decide (p < L) && canB K V F S len u L al (p + 1) (F k)
noncomputable def plN (K V F S : Nat → Nat) (len : Nat) (u : Nat → Nat) (L : Nat) (al : Bool) (p : Nat) : Nat → List (Nat × Sv) → (Nat → Bool) → Option (Nat × Sv)
  | 0, _, _ => none
  | _ + 1, [], _ => none
  | m + 1, (k, sv) :: r, seen =>
    if seen k = true then plN K V F S len u L al p m r seen
    else if k = 0 then (if endB L al p = true then some (0, sv) else plN K V F S len u L al p m r (ub seen k true))
    else if takB K V len u k p = true then (if goB K V F S len u L al p k = true then some (k, sv) else plN K V F S len u L al p m r (ub seen k true))
    else if pasB K V len u k p = true then plN K V F S len u L al p m (psh K F S k (svk K V p k sv) r) (ub seen k true)
    else plN K V F S len u L al p m r (ub seen k true)
/-- one place after the other -/
noncomputable def gwN (K V F S : Nat → Nat) (len : Nat) (u : Nat → Nat) (L : Nat) (al : Bool) (n : Nat) : Nat → Nat → Nat → Sv → Option (Nat × Sv)
  | 0, _, _, _ => none
  | m + 1, p, a, sv => match plN K V F S len u L al p (2 * n + 2) [(a, sv)] (fun _ => false) with
    | none => none
    | some (k, sv1) => if k = 0 then some (p, sv1) else gwN K V F S len u L al n m (p + 1) (F k) sv1
def cnF (n : Nat) (f : Nat → Bool) : Nat := (List.range n).countP (fun k => !f k)
theorem cnF_ub {n k : Nat} {f : Nat → Bool} (hk : k < n) (h : f k = false) : cnF n (ub f k true) + 1 = cnF n f := by
  have key : ∀ m, (List.range m).countP (fun j => !ub f k true j) + (if k < m then 1 else 0) = (List.range m).countP (fun j => !f j) := by
    intro m
    induction m with
    | zero => simp
    | succ m ih =>
      rw [List.range_succ, List.countP_append, List.countP_append, ← ih]
      by_cases hm : m = k
      · subst hm
        simp [ub_s, h]
      · have h1 : ub f k true m = f m := ub_n (by omega)
        by_cases h2 : k < m
        · simp [h1, h2, Nat.lt_succ_of_lt h2]; omega
        · have h3 : ¬ k < m + 1 := by omega
          simp [h1, h2, h3]
  have := key n
  rw [if_pos hk] at this
  exact this
theorem cnF_le (n : Nat) (f : Nat → Bool) : cnF n f ≤ n := by
  unfold cnF
  have := List.countP_le_length (p := fun k => !f k) (l := List.range n)
  simpa using this
theorem cnF_all {n : Nat} {f : Nat → Bool} (h : ∀ k, k < n → f k = false) : cnF n f = n := by
  unfold cnF
  rw [List.countP_eq_length.mpr]
  · simp
  · intro k hk; simp [h k (List.mem_range.mp hk)]
section PL
variable {K V F S : Nat → Nat} {len : Nat} {u : Nat → Nat} {L : Nat} {al : Bool} {p n : Nat}
/-- a step at which the walk goes on or ends -/
def Acc (K V F S : Nat → Nat) (len : Nat) (u : Nat → Nat) (L : Nat) (al : Bool) (p k : Nat) : Prop := (k = 0 ∧ endB L al p = true) ∨ (takB K V len u k p = true ∧ goB K V F S len u L al p k = true)
theorem plN_some : ∀ (m : Nat) (st : List (Nat × Sv)) (seen : Nat → Bool) (k : Nat) (sv : Sv), plN K V F S len u L al p m st seen = some (k, sv) → Acc K V F S len u L al p k := by
  intro m
  induction m with
  | zero => intro st seen k sv h; simp [plN] at h
  | succ m ih =>
    intro st seen k sv h
    match st with
    | [] => simp [plN] at h
    | (k1, sv1) :: r =>
      rw [plN] at h
      split at h
      · exact ih _ _ _ _ h
      · split at h
        · split at h
          · rename_i h1 h2; cases h; exact Or.inl ⟨rfl, h2⟩
          · exact ih _ _ _ _ h
        · split at h
          · split at h
            · rename_i h2 h3; cases h; exact Or.inr ⟨h2, h3⟩
            · exact ih _ _ _ _ h
          · split at h
            · exact ih _ _ _ _ h
            · exact ih _ _ _ _ h
/-- a set of steps that leads to no END at this place -/
def Ded (K V F S : Nat → Nat) (len : Nat) (u : Nat → Nat) (L : Nat) (al : Bool) (p : Nat) (X : Nat → Prop) : Prop := ∀ k, X k → ¬ Acc K V F S len u L al p k ∧ (pasB K V len u k p = true → X (F k) ∧ (K k = 2 → X (S k)))
theorem Ded_Can {X : Nat → Prop} (h : Ded K V F S len u L al p X) : ∀ k, X k → ¬ Can K V F S len u L al p k := by
  have key : ∀ m k, X k → canN K V F S len u L al m p k = true → False := by
    intro m
    induction m with
    | zero => intro k _ hc; simp [canN] at hc
    | succ m ih =>
      intro k hk hc
      obtain ⟨h1, h2⟩ := h k hk
      by_cases h0 : k = 0
      · subst h0
        exact h1 (Or.inl ⟨rfl, by simpa [canN, endB] using hc⟩)
      · cases ht : takB K V len u k p with
        | true =>
          have h3 := (Can_t ht).mp ⟨m + 1, hc⟩
          exact h1 (Or.inr ⟨ht, by simp [goB, h3.1, canB_iff.mpr h3.2]⟩)
        | false =>
          cases hp : pasB K V len u k p with
          | false => exact Can_n h0 ht hp ⟨m + 1, hc⟩
          | true =>
            simp [canN, h0, ht, hp] at hc
            rcases hc with hc | hc
            · exact ih _ (h2 hp).1 hc
            · exact ih _ ((h2 hp).2 hc.1) hc.2
  intro k hk ⟨m, hm⟩
  exact key m k hk hm
/-- all that has been seen is done with: it ends nowhere, and what follows it has been seen or waits -/
def Dne (K V F S : Nat → Nat) (len : Nat) (u : Nat → Nat) (L : Nat) (al : Bool) (p : Nat) (st : List (Nat × Sv)) (seen : Nat → Bool) : Prop := ∀ k, seen k = true → ¬ Acc K V F S len u L al p k ∧ (pasB K V len u k p = true → (seen (F k) = true ∨ ∃ x ∈ st, x.1 = F k) ∧ (K k = 2 → (seen (S k) = true ∨ ∃ x ∈ st, x.1 = S k)))
theorem Dne_pop {k : Nat} {sv : Sv} {r : List (Nat × Sv)} {seen : Nat → Bool} (hs : seen k = true) (h : Dne K V F S len u L al p ((k, sv) :: r) seen) : Dne K V F S len u L al p r seen := by
  intro j hj
  obtain ⟨h1, h2⟩ := h j hj
  refine ⟨h1, fun hp => ⟨?_, fun h3 => ?_⟩⟩
  · rcases (h2 hp).1 with h4 | ⟨x, hx, hx2⟩
    · exact Or.inl h4
    · rcases List.mem_cons.mp hx with rfl | hx
      · exact Or.inl (by rw [← hx2]; exact hs)
      · exact Or.inr ⟨x, hx, hx2⟩
  · rcases (h2 hp).2 h3 with h4 | ⟨x, hx, hx2⟩
    · exact Or.inl h4
    · rcases List.mem_cons.mp hx with rfl | hx
      · exact Or.inl (by rw [← hx2]; exact hs)
      · exact Or.inr ⟨x, hx, hx2⟩
theorem Dne_see {k : Nat} {sv : Sv} {r st : List (Nat × Sv)} {seen : Nat → Bool} (hst : ∀ x ∈ r, x ∈ st) (hn : ¬ Acc K V F S len u L al p k) (hp : pasB K V len u k p = true → (∃ x ∈ st, x.1 = F k) ∧ (K k = 2 → ∃ x ∈ st, x.1 = S k)) (h : Dne K V F S len u L al p ((k, sv) :: r) seen) : Dne K V F S len u L al p st (ub seen k true) := by
  have up : ∀ t, seen t = true ∨ (∃ x ∈ (k, sv) :: r, x.1 = t) → ub seen k true t = true ∨ ∃ x ∈ st, x.1 = t := by
    intro t ht
    by_cases htk : t = k
    · exact Or.inl (by rw [htk, ub_s])
    · rcases ht with ht | ⟨x, hx, hx2⟩
      · exact Or.inl (by rw [ub_n htk]; exact ht)
      · rcases List.mem_cons.mp hx with rfl | hx
        · exact absurd hx2.symm htk
        · exact Or.inr ⟨x, hst x hx, hx2⟩
  intro j hj
  by_cases hjk : j = k
  · subst hjk
    exact ⟨hn, fun h1 => ⟨Or.inr (hp h1).1, fun h2 => Or.inr ((hp h1).2 h2)⟩⟩
  · rw [ub_n hjk] at hj
    obtain ⟨h1, h2⟩ := h j hj
    exact ⟨h1, fun h3 => ⟨up _ (h2 h3).1, fun h4 => up _ ((h2 h3).2 h4)⟩⟩
theorem mem_psh {k : Nat} {sv : Sv} {r : List (Nat × Sv)} : ∀ x ∈ r, x ∈ psh K F S k sv r := by
  intro x hx
  unfold psh
  split
  · exact List.mem_cons_of_mem _ (List.mem_cons_of_mem _ hx)
  · exact List.mem_cons_of_mem _ hx
theorem psh_lt {k : Nat} {sv : Sv} {r : List (Nat × Sv)} (hF : F k < n) (hS : K k = 2 → S k < n) (h : ∀ x ∈ r, x.1 < n) : ∀ x ∈ psh K F S k sv r, x.1 < n := by
  intro x hx
  unfold psh at hx
  split at hx
  · rename_i h2
    rcases List.mem_cons.mp hx with rfl | hx
    · exact hF
    · rcases List.mem_cons.mp hx with rfl | hx
      · exact hS h2
      · exact h x hx
  · rcases List.mem_cons.mp hx with rfl | hx
    · exact hF
    · exact h x hx
theorem psh_len {k : Nat} {sv : Sv} {r : List (Nat × Sv)} : (psh K F S k sv r).length ≤ r.length + 2 := by
  unfold psh; split <;> simp
/-- if nothing is found, all that was come to is dead -/
theorem plN_none (hF : ∀ i, 0 < i → i < n → (K i = 2 ∨ K i = 3 ∨ K i = 4) → F i < n) (hS : ∀ i, 0 < i → i < n → K i = 2 → S i < n) : ∀ (m : Nat) (st : List (Nat × Sv)) (seen : Nat → Bool), 2 * cnF n seen + st.length < m → (∀ x ∈ st, x.1 < n) → Dne K V F S len u L al p st seen → plN K V F S len u L al p m st seen = none → ∃ X : Nat → Prop, Ded K V F S len u L al p X ∧ (∀ k, seen k = true → X k) ∧ ∀ x ∈ st, X x.1 := by
  intro m
  induction m with
  | zero => intro st seen hm; omega
  | succ m ih =>
    intro st seen hm hlt hd h
    match st, hlt, hd, hm, h with
    | [], _, hd, _, _ =>
      refine ⟨fun k => seen k = true, fun k hk => ?_, fun k hk => hk, fun x hx => by cases hx⟩
      obtain ⟨h1, h2⟩ := hd k hk
      refine ⟨h1, fun h3 => ⟨?_, fun h4 => ?_⟩⟩
      · rcases (h2 h3).1 with h5 | ⟨x, hx, _⟩
        · exact h5
        · cases hx
      · rcases (h2 h3).2 h4 with h5 | ⟨x, hx, _⟩
        · exact h5
        · cases hx
    | (k, sv) :: r, hlt, hd, hm, h =>
      have hkn : k < n := hlt (k, sv) List.mem_cons_self
      have hrn : ∀ x ∈ r, x.1 < n := fun x hx => hlt x (List.mem_cons_of_mem _ hx)
      have hlen : ((k, sv) :: r).length = r.length + 1 := rfl
      rw [plN] at h
      by_cases hs : seen k = true
      · rw [if_pos hs] at h
        obtain ⟨X, hX, h1, h2⟩ := ih r seen (by omega) hrn (Dne_pop hs hd) h
        exact ⟨X, hX, h1, fun x hx => by
          rcases List.mem_cons.mp hx with rfl | hx
          · exact h1 k hs
          · exact h2 x hx⟩
      · rw [if_neg hs] at h
        have hs0 : seen k = false := by simpa using hs
        have hc := cnF_ub (n := n) hkn hs0
        have fin : ∀ st2 : List (Nat × Sv), (∀ x ∈ r, x ∈ st2) → st2.length ≤ r.length + 2 → (∀ x ∈ st2, x.1 < n) → ¬ Acc K V F S len u L al p k → (pasB K V len u k p = true → (∃ x ∈ st2, x.1 = F k) ∧ (K k = 2 → ∃ x ∈ st2, x.1 = S k)) → plN K V F S len u L al p m st2 (ub seen k true) = none → ∃ X : Nat → Prop, Ded K V F S len u L al p X ∧ (∀ k, seen k = true → X k) ∧ ∀ x ∈ (k, sv) :: r, X x.1 := by
          intro st2 h1 h2 h3 h4 h5 h6
          obtain ⟨X, hX, g1, g2⟩ := ih st2 (ub seen k true) (by omega) h3 (Dne_see h1 h4 h5 hd) h6
          have gk : X k := g1 k ub_s
          refine ⟨X, hX, fun j hj => ?_, fun x hx => ?_⟩
          · by_cases hjk : j = k
            · subst hjk; exact gk
            · exact g1 j (by rw [ub_n hjk]; exact hj)
          · rcases List.mem_cons.mp hx with rfl | hx
            · exact gk
            · exact g2 x (h1 x hx)
        by_cases h0 : k = 0
        · rw [if_pos h0] at h
          split at h
          · cases h
          · rename_i h1
            have ht : takB K V len u k p = false := by
              cases hq : takB K V len u k p with
              | false => rfl
              | true => have := (takB_K hq).1; omega
            have hpp : pasB K V len u k p = false := by
              cases hq : pasB K V len u k p with
              | false => rfl
              | true => have := (pasB_K hq).1; omega
            exact fin r (fun x hx => hx) (by omega) hrn (fun ha => by
              rcases ha with ⟨_, ha⟩ | ⟨ha, _⟩
              · exact h1 ha
              · rw [ht] at ha; cases ha) (fun ha => by rw [hpp] at ha; cases ha) h
        · rw [if_neg h0] at h
          by_cases ht : takB K V len u k p = true
          · rw [if_pos ht] at h
            split at h
            · cases h
            · rename_i h1
              exact fin r (fun x hx => hx) (by omega) hrn (fun ha => by
                rcases ha with ⟨ha, _⟩ | ⟨_, ha⟩
                · exact h0 ha
                · exact h1 ha) (fun ha => by rw [tak_pas ht] at ha; cases ha) h
          · rw [if_neg ht] at h
            have hna : ¬ Acc K V F S len u L al p k := fun ha => by
              rcases ha with ⟨ha, _⟩ | ⟨ha, _⟩
              · exact h0 ha
              · exact ht ha
            by_cases hp : pasB K V len u k p = true
            · rw [if_pos hp] at h
              have hKp := (pasB_K hp).2
              refine fin _ mem_psh psh_len (psh_lt (hF k (by omega) hkn hKp) (fun h2 => hS k (by omega) hkn h2) hrn) hna (fun _ => ⟨⟨(F k, svk K V p k sv), List.mem_cons_self, rfl⟩, fun h2 => ⟨(S k, svk K V p k sv), ?_, rfl⟩⟩) h
              unfold psh
              rw [if_pos h2]
              exact List.mem_cons_of_mem _ List.mem_cons_self
            · rw [if_neg hp] at h
              exact fin r (fun x hx => hx) (by omega) hrn hna (fun ha => absurd ha hp) h
theorem plN_can (hF : ∀ i, 0 < i → i < n → (K i = 2 ∨ K i = 3 ∨ K i = 4) → F i < n) (hS : ∀ i, 0 < i → i < n → K i = 2 → S i < n) {a : Nat} {sv : Sv} (ha : a < n) (hc : Can K V F S len u L al p a) : ∃ x, plN K V F S len u L al p (2 * n + 2) [(a, sv)] (fun _ => false) = some x := by
  cases h : plN K V F S len u L al p (2 * n + 2) [(a, sv)] (fun _ => false) with
  | some x => exact ⟨x, rfl⟩
  | none =>
    have h1 : cnF n (fun _ => false) = n := cnF_all (fun _ _ => rfl)
    obtain ⟨X, hX, _, h3⟩ := plN_none (n := n) hF hS _ _ _ (by rw [h1]; simp) (fun x hx => by rw [List.mem_singleton.mp hx]; exact ha) (fun k hk => by cases hk) h
    exact absurd hc (Ded_Can hX a (h3 _ List.mem_cons_self))
/-- what was seen beyond the program's steps doesn't matter -/
theorem plN_congr (hF : ∀ i, 0 < i → i < n → (K i = 2 ∨ K i = 3 ∨ K i = 4) → F i < n) (hS : ∀ i, 0 < i → i < n → K i = 2 → S i < n) : ∀ (m : Nat) (st : List (Nat × Sv)) (s1 s2 : Nat → Bool), (∀ k, k < n → s1 k = s2 k) → (∀ x ∈ st, x.1 < n) → plN K V F S len u L al p m st s1 = plN K V F S len u L al p m st s2 := by
  intro m
  induction m with
  | zero => intro st s1 s2 _ _; rfl
  | succ m ih =>
    intro st s1 s2 hs hlt
    match st, hlt with
    | [], _ => rfl
    | (k, sv) :: r, hlt =>
      have hkn : k < n := hlt (k, sv) List.mem_cons_self
      have hrn : ∀ x ∈ r, x.1 < n := fun x hx => hlt x (List.mem_cons_of_mem _ hx)
      have hu : ∀ j, j < n → ub s1 k true j = ub s2 k true j := fun j hj => by
        by_cases hjk : j = k
        · subst hjk; rw [ub_s, ub_s]
        · rw [ub_n hjk, ub_n hjk]; exact hs j hj
      rw [plN, plN, hs k hkn, ih r s1 s2 hs hrn, ih r _ _ hu hrn]
      by_cases hp : pasB K V len u k p = true
      · have hKp := (pasB_K hp)
        rw [ih _ _ _ hu (psh_lt (hF k hKp.1 hkn hKp.2) (fun h2 => hS k hKp.1 hkn h2) hrn)]
      · simp only [if_neg hp]
end PL
end
section
/-! The reference's pile and trail, as a list of steps with what is saved -/
def unT (tp : Nat → Nat) (ol : Sv) (t : Nat) : Nat → Sv → Sv
  | 0, sv => sv
  | tr + 1, sv => if t < tr + 1 then unT tp ol t tr (upd sv (tp tr) (ol tr)) else sv
theorem unT_le {tp : Nat → Nat} {ol : Sv} {t tr : Nat} {sv : Sv} (h : tr ≤ t) : unT tp ol t tr sv = sv := by
  cases tr with
  | zero => rfl
  | succ tr => rw [unT, if_neg (by omega)]
theorem unT_step {tp : Nat → Nat} {ol : Sv} {t tr : Nat} {sv : Sv} (h : t ≤ tr) : unT tp ol t (tr + 1) sv = unT tp ol t tr (upd sv (tp tr) (ol tr)) := by rw [unT, if_pos (by omega)]
theorem unT_comp {tp : Nat → Nat} {ol : Sv} {t1 t2 : Nat} (h : t1 ≤ t2) : ∀ (tr : Nat) (sv : Sv), t2 ≤ tr → unT tp ol t1 t2 (unT tp ol t2 tr sv) = unT tp ol t1 tr sv := by
  intro tr
  induction tr with
  | zero => intro sv h2; have e1 : t2 = 0 := by omega
            subst e1; rfl
  | succ tr ih =>
    intro sv h2
    rcases Nat.eq_or_lt_of_le h2 with h3 | h3
    · subst h3; rw [unT_le (t := tr + 1) (Nat.le_refl _)]
    · rw [unT_step (t := t2) (by omega), ih _ (by omega), unT_step (t := t1) (by omega)]
theorem unT_congr {tp tp2 : Nat → Nat} {ol ol2 : Sv} {t : Nat} : ∀ (tr : Nat) (sv : Sv), (∀ i, i < tr → tp i = tp2 i ∧ ol i = ol2 i) → unT tp ol t tr sv = unT tp2 ol2 t tr sv := by
  intro tr
  induction tr with
  | zero => intro sv _; rfl
  | succ tr ih =>
    intro sv h
    rw [unT, unT, (h tr (by omega)).1, (h tr (by omega)).2]
    split
    · exact ih _ (fun i hi => h i (by omega))
    · rfl
def absS (pl pt tp : Nat → Nat) (ol : Sv) (tr : Nat) (sv : Sv) : Nat → List (Nat × Sv)
  | 0 => []
  | h + 1 => (pl h, unT tp ol (pt h) tr sv) :: absS pl pt tp ol tr sv h
theorem absS_congr {pl pl2 pt pt2 tp tp2 : Nat → Nat} {ol ol2 : Sv} {tr tr2 : Nat} {sv sv2 : Sv} : ∀ h : Nat, (∀ i, i < h → pl i = pl2 i ∧ unT tp ol (pt i) tr sv = unT tp2 ol2 (pt2 i) tr2 sv2) → absS pl pt tp ol tr sv h = absS pl2 pt2 tp2 ol2 tr2 sv2 h := by
  intro h
  induction h with
  | zero => intro _; rfl
  | succ h ih =>
    intro hh
    rw [absS, absS, (hh h (by omega)).1, (hh h (by omega)).2, ih (fun i hi => hh i (by omega))]
/-- the pile keeps its bounds -/
def Stk (n : Nat) (pl pt tp : Nat → Nat) (tr hi : Nat) (se : Nat → Bool) : Prop := hi + cnF n se ≤ n + 1 ∧ tr + cnF n se ≤ n ∧ (∀ i, i < hi → pl i < n ∧ pt i ≤ tr) ∧ (∀ i j, i < j → j < hi → pt i ≤ pt j) ∧ ∀ i, i < tr → tp i < 20
theorem absS_pop {n : Nat} {pl pt tp : Nat → Nat} {ol : Sv} {tr h : Nat} {sv : Sv} {se : Nat → Bool} (hk : Stk n pl pt tp tr (h + 1) se) : absS pl pt tp ol tr sv h = absS pl pt tp ol (pt h) (unT tp ol (pt h) tr sv) h := by
  apply absS_congr
  intro i hi
  exact ⟨rfl, (unT_comp (hk.2.2.2.1 i h hi (by omega)) tr sv ((hk.2.2.1 h (by omega)).2)).symm⟩
theorem Stk_pop {n : Nat} {pl pt tp : Nat → Nat} {tr h : Nat} {se : Nat → Bool} (hk : Stk n pl pt tp tr (h + 1) se) : Stk n pl pt tp (pt h) h se := by
  obtain ⟨h1, h2, h3, h4, h5⟩ := hk
  have h6 := (h3 h (by omega)).2
  exact ⟨by omega, by omega, fun i hi => ⟨(h3 i (by omega)).1, h4 i h hi (by omega)⟩, fun i j hij hj => h4 i j hij (by omega), fun i hi => h5 i (by omega)⟩
theorem Stk_see {n k : Nat} {pl pt tp : Nat → Nat} {tr h : Nat} {se : Nat → Bool} (hk : Stk n pl pt tp tr h se) (hkn : k < n) (hs : se k = false) : Stk n pl pt tp tr h (ub se k true) := by
  obtain ⟨h1, h2, h3, h4, h5⟩ := hk
  have h6 := cnF_ub (n := n) hkn hs
  exact ⟨by omega, by omega, h3, h4, h5⟩
theorem un_lt {f : Nat → Nat} {h v i : Nat} (hi : i < h) : un f h v i = f i := un_n (by omega)
/-- the three ways on, behind a pop at h (trail t, saves sv) -/
theorem abs_one {pl pt tp : Nat → Nat} {ol : Sv} {t h a : Nat} {sv : Sv} (hpt : ∀ i, i < h → pt i ≤ t) : absS (un pl h a) (un pt h t) tp ol t sv (h + 1) = (a, sv) :: absS pl pt tp ol t sv h := by
  rw [absS, un_s, un_s, unT_le (Nat.le_refl _)]
  congr 1
  apply absS_congr
  intro i hi
  rw [un_lt hi, un_lt hi]
  exact ⟨rfl, rfl⟩
theorem abs_two {pl pt tp : Nat → Nat} {ol : Sv} {t h a b : Nat} {sv : Sv} (hpt : ∀ i, i < h → pt i ≤ t) : absS (un (un pl h b) (h + 1) a) (un (un pt h t) (h + 1) t) tp ol t sv (h + 1 + 1) = (a, sv) :: (b, sv) :: absS pl pt tp ol t sv h := by
  rw [abs_one (fun i hi => ?_), abs_one hpt]
  by_cases h1 : i = h
  · subst h1; rw [un_s]; exact Nat.le_refl _
  · rw [un_n h1]; exact hpt i (by omega)
theorem abs_sav {pl pt tp : Nat → Nat} {ol : Sv} {t h a v p : Nat} {sv : Sv} (hpt : ∀ i, i < h → pt i ≤ t) : absS (un pl h a) (un pt h (t + 1)) (un tp t v) (upd ol t (sv v)) (t + 1) (upd sv v (nI p)) (h + 1) = (a, upd sv v (nI p)) :: absS pl pt tp ol t sv h := by
  rw [absS, un_s, un_s, unT_le (Nat.le_refl _)]
  congr 1
  apply absS_congr
  intro i hi
  have h1 := hpt i hi
  rw [un_lt hi, un_lt hi]
  refine ⟨rfl, ?_⟩
  rw [unT_step h1, un_s, show upd ol t (sv v) t = sv v from pk_us, show upd (upd sv v (nI p)) v (sv v) = sv by funext j; by_cases hj : j = v; (subst hj; rw [pk_us]); (rw [pk_un hj, pk_un hj])]
  exact unT_congr t sv (fun j hj => ⟨un_n (by omega), pk_un (by omega)⟩)
theorem Stk_one {n a : Nat} {pl pt tp : Nat → Nat} {t h : Nat} {se se2 : Nat → Bool} (hk : Stk n pl pt tp t h se) (ha : a < n) (hc : cnF n se2 + 1 = cnF n se) : Stk n (un pl h a) (un pt h t) tp t (h + 1) se2 := by
  obtain ⟨h1, h2, h3, h4, h5⟩ := hk
  refine ⟨by omega, by omega, fun i hi => ?_, fun i j hij hj => ?_, h5⟩
  · by_cases hih : i = h
    · subst hih; rw [un_s, un_s]; exact ⟨ha, Nat.le_refl _⟩
    · rw [un_n hih, un_n hih]; exact h3 i (by omega)
  · rw [un_n (show i ≠ h by omega)]
    by_cases hjh : j = h
    · subst hjh; rw [un_s]; exact (h3 i (by omega)).2
    · rw [un_n hjh]; exact h4 i j hij (by omega)
theorem Stk_two {n a b : Nat} {pl pt tp : Nat → Nat} {t h : Nat} {se se2 : Nat → Bool} (hk : Stk n pl pt tp t h se) (hh : h + cnF n se ≤ n) (ha : a < n) (hb : b < n) (hc : cnF n se2 + 1 = cnF n se) : Stk n (un (un pl h b) (h + 1) a) (un (un pt h t) (h + 1) t) tp t (h + 1 + 1) se2 := by
  obtain ⟨h1, h2, h3, h4, h5⟩ := hk
  have g3 : ∀ i, i < h + 1 + 1 → un (un pl h b) (h + 1) a i < n ∧ un (un pt h t) (h + 1) t i ≤ t := by
    intro i hi
    by_cases h6 : i = h + 1
    · subst h6; rw [un_s, un_s]; exact ⟨ha, Nat.le_refl _⟩
    · rw [un_n h6, un_n h6]
      by_cases h7 : i = h
      · subst h7; rw [un_s, un_s]; exact ⟨hb, Nat.le_refl _⟩
      · rw [un_n h7, un_n h7]; exact h3 i (by omega)
  refine ⟨by omega, by omega, g3, fun i j hij hj => ?_, h5⟩
  by_cases h6 : j = h + 1
  · have := (g3 i (by omega)).2
    subst h6; rw [un_s]; exact this
  · by_cases h7 : j = h
    · have := (g3 i (by omega)).2
      rw [un_n h6]
      subst h7; rw [un_s]; exact this
    · rw [un_n h6, un_n h7, un_n (show i ≠ h + 1 by omega), un_n (show i ≠ h by omega)]
      exact h4 i j hij (by omega)
theorem Stk_sav {n a v : Nat} {pl pt tp : Nat → Nat} {t h : Nat} {se se2 : Nat → Bool} (hk : Stk n pl pt tp t h se) (ha : a < n) (hv : v < 20) (hc : cnF n se2 + 1 = cnF n se) : Stk n (un pl h a) (un pt h (t + 1)) (un tp t v) (t + 1) (h + 1) se2 := by
  obtain ⟨h1, h2, h3, h4, h5⟩ := hk
  refine ⟨by omega, by omega, fun i hi => ?_, fun i j hij hj => ?_, fun i hi => ?_⟩
  · by_cases hih : i = h
    · subst hih; rw [un_s, un_s]; exact ⟨ha, Nat.le_refl _⟩
    · rw [un_n hih, un_n hih]; have := h3 i (by omega); exact ⟨this.1, by omega⟩
  · rw [un_n (show i ≠ h by omega)]
    by_cases hjh : j = h
    · subst hjh; rw [un_s]; have := (h3 i (by omega)).2; omega
    · rw [un_n hjh]; exact h4 i j hij (by omega)
  · by_cases hit : i = t
    · subst hit; rw [un_s]; exact hv
    · rw [un_n hit]; exact h5 i (by omega)
section GW
variable {K V F S : Nat → Nat} {len : Nat} {u : Nat → Nat} {L : Nat} {al : Bool} {p n a : Nat} {sv sv1 : Sv}
theorem gw_end (hp : p ≤ L) (h : plN K V F S len u L al p (2 * n + 2) [(a, sv)] (fun _ => false) = some (0, sv1)) : gwN K V F S len u L al n (L + 1 - p) p a sv = some (p, sv1) := by
  rw [show L + 1 - p = (L - p) + 1 by omega, gwN, h]
  simp
theorem gw_go {k : Nat} (hp : p < L) (hk : k ≠ 0) (h : plN K V F S len u L al p (2 * n + 2) [(a, sv)] (fun _ => false) = some (k, sv1)) : gwN K V F S len u L al n (L + 1 - (p + 1)) (p + 1) (F k) sv1 = gwN K V F S len u L al n (L + 1 - p) p a sv := by
  rw [show L + 1 - p = (L + 1 - (p + 1)) + 1 by omega, gwN, h]
  simp [hk]
end GW
/-- the bound that the walk is given: none, or the place where it must end -/
def Bnd (len L : Nat) (al : Bool) (x : Int32) : Prop := (al = false ∧ x = -1 ∧ L = len) ∨ (al = true ∧ x = nI L ∧ L ≤ len)
section BN
variable {len L p : Nat} {al : Bool} {x : Int32}
theorem Bnd_neg (hl : len ≤ 200) (h : Bnd len L al x) (hx : x < 0) : al = false ∧ L = len := by
  rcases h with ⟨h1, _, h3⟩ | ⟨_, h2, h3⟩
  · exact ⟨h1, h3⟩
  · rw [h2] at hx; exact absurd hx (nI_pos (by omega))
theorem Bnd_pos (h : Bnd len L al x) (hx : ¬ x < 0) : al = true ∧ x = nI L ∧ L ≤ len := by
  rcases h with ⟨_, h2, _⟩ | h
  · rw [h2] at hx; exact absurd (by decide) hx
  · exact h
theorem Bnd_len (h : Bnd len L al x) : L ≤ len := by
  rcases h with ⟨_, _, h3⟩ | ⟨_, _, h3⟩ <;> omega
end BN
/-- an array's picture beyond its length doesn't matter -/
theorem arrV_fn {c : ClassId} {n : Nat} {f g : Nat → Value} (h : ∀ j, j < n → f j = g j) : arrV c n f = arrV c n g := by
  unfold arrV
  congr 1
  apply Array.ext
  · simp
  · intro i h1 h2
    simp at h1 h2 ⊢
    exact h i (by omega)
theorem xP_fn {D : va_G} {cl : List vw_C} {ws : va_W} {H : Heap} {q a n : Nat} {c : ClassId} {f g : Nat → Int32} (hP : va_P D cl ws H) (hq : ws[q]? = some (a, .inl (c, n, .inl f))) (h : ∀ j, j < n → f j = g j) : va_P D cl (ws.set q (a, .inl (c, n, .inl g))) H := by
  intro k x hx
  by_cases hk : k = q
  · subst hk
    have hlt : k < ws.length := (List.getElem?_eq_some_iff.mp hq).1
    rw [List.getElem?_set_self hlt] at hx
    cases hx
    have h1 := hP k _ hq
    show H[a]? = some (vp_cell c (n, .inl g))
    have h2 : H[a]? = some (vp_cell c (n, .inl f)) := h1
    rw [h2]
    congr 1
    show arrV c n (fun j => .int (f j)) = arrV c n (fun j => .int (g j))
    exact arrV_fn (fun j hj => by rw [h j hj])
  · rw [List.getElem?_set_ne (by omega)] at hx
    exact hP k x hx
theorem xD_fn {A : Nat → Prop} {ws : va_W} {q a : Nat} {e e2 : va_E} (hD : va_D A ws) (hq : ws[q]? = some (a, e)) : va_D A (ws.set q (a, e2)) := by
  have hlt : q < ws.length := (List.getElem?_eq_some_iff.mp hq).1
  have back : ∀ (k : Nat) (x : Nat × va_E), (ws.set q (a, e2))[k]? = some x → ∃ y, ws[k]? = some y ∧ y.1 = x.1 := by
    intro k x hx
    by_cases hk : k = q
    · subst hk
      rw [List.getElem?_set_self hlt] at hx
      cases hx
      exact ⟨_, hq, rfl⟩
    · rw [List.getElem?_set_ne (by omega)] at hx
      exact ⟨x, hx, rfl⟩
  refine ⟨fun i j x y hx hy hxy => ?_, fun k x hx => ?_⟩
  · obtain ⟨x1, g1, g2⟩ := back i x hx
    obtain ⟨y1, g3, g4⟩ := back j y hy
    exact hD.1 i j x1 y1 g1 g3 (by rw [g2, g4]; exact hxy)
  · obtain ⟨x1, g1, g2⟩ := back k x hx
    rw [← g2]; exact hD.2 k x1 g1
theorem neg_step {f : Sv} {k : Nat} (h : ∀ i, i < k → f i = -1) : ∀ i, i < k + 1 → upd f k (-1) i = -1 := by
  intro i hi
  by_cases hik : i = k
  · subst hik; exact pk_us
  · rw [pk_un hik]; exact h i (by omega)
theorem fal_step {f : Nat → Bool} {k : Nat} (h : ∀ i, i < k → f i = false) : ∀ i, i < k + 1 → ub f k false i = false := by
  intro i hi
  by_cases hik : i = k
  · subst hik; exact ub_s
  · rw [ub_n hik]; exact h i (by omega)
theorem Stk_ini {n ka : Nat} {pl pt tp : Nat → Nat} {se : Nat → Bool} (hk : ka < n) (h : ∀ i, i < n → se i = false) : Stk n (un pl 0 ka) (un pt 0 0) tp 0 (0 + 1) se := by
  have h1 := cnF_all h
  refine ⟨by omega, by omega, fun i hi => ?_, fun i j h2 h3 => by omega, fun i hi => by omega⟩
  have e1 : i = 0 := by omega
  subst e1; rw [un_s, un_s]; exact ⟨hk, Nat.le_refl _⟩
theorem plN_lt {K V F S : Nat → Nat} {len : Nat} {u : Nat → Nat} {L : Nat} {al : Bool} {p n : Nat} (hF : ∀ i, 0 < i → i < n → (K i = 2 ∨ K i = 3 ∨ K i = 4) → F i < n) (hS : ∀ i, 0 < i → i < n → K i = 2 → S i < n) : ∀ (m : Nat) (st : List (Nat × Sv)) (seen : Nat → Bool) (k : Nat) (sv : Sv), (∀ x ∈ st, x.1 < n) → plN K V F S len u L al p m st seen = some (k, sv) → k < n := by
  intro m
  induction m with
  | zero => intro st seen k sv _ h; simp [plN] at h
  | succ m ih =>
    intro st seen k sv hlt h
    match st, hlt with
    | [], _ => simp [plN] at h
    | (k1, sv1) :: r, hlt =>
      have hkn : k1 < n := hlt (k1, sv1) List.mem_cons_self
      have hrn : ∀ x ∈ r, x.1 < n := fun x hx => hlt x (List.mem_cons_of_mem _ hx)
      rw [plN] at h
      split at h
      · exact ih _ _ _ _ hrn h
      · split at h
        · split at h
          · cases h; omega
          · exact ih _ _ _ _ hrn h
        · split at h
          · split at h
            · cases h; exact hkn
            · exact ih _ _ _ _ hrn h
          · split at h
            · rename_i hp
              have hKp := pasB_K hp
              exact ih _ _ _ _ (psh_lt (hF k1 hKp.1 hkn hKp.2) (fun h2 => hS k1 hKp.1 hkn h2) hrn) h
            · exact ih _ _ _ _ hrn h
end
section
set_option maxHeartbeats 4000000 in
set_option maxRecDepth 100000 in
/-- heap(k) -/
theorem kMod_heap (l : Launch) (D : va_G) (cI cZ cJ : ClassId) (o : Nat) (q : Nat → Nat) (th n b len tr hi ma : Nat) (pl pt : Nat → Nat) (k : Nat) (hhi : hi < 500) : vx_Mv l yN_Mod_heap wN_Mod_heap ({ frames := 0, cells := 0, slots := 0, locals := 0 }) D clN (tyN cI cZ cJ) [.ref o, .int (nI k)] [(o, .inr (11, [.int (nI th), .int (nI n), .int (nI b), .ref (q 3), .ref (q 4), .ref (q 5), .ref (q 6), .ref (q 7), .int (nI len), .ref (q 9), .ref (q 10), .ref (q 11), .ref (q 12), .ref (q 13), .ref (q 14), .ref (q 15), .ref (q 16), .ref (q 17), .int (nI tr), .int (nI hi), .ref (q 20), .ref (q 21), .ref (q 22), .ref (q 23), .int (nI ma)])), (q 13, .inl (cI, 500, .inl (ni pl))), (q 14, .inl (cI, 500, .inl (ni pt)))] (fun w => w = [(o, .inr (11, [.int (nI th), .int (nI n), .int (nI b), .ref (q 3), .ref (q 4), .ref (q 5), .ref (q 6), .ref (q 7), .int (nI len), .ref (q 9), .ref (q 10), .ref (q 11), .ref (q 12), .ref (q 13), .ref (q 14), .ref (q 15), .ref (q 16), .ref (q 17), .int (nI tr), .int (nI (hi + 1)), .ref (q 20), .ref (q 21), .ref (q 22), .ref (q 23), .int (nI ma)])), (q 13, .inl (cI, 500, .inl (ni (un pl hi k)))), (q 14, .inl (cI, 500, .inl (ni (un pt hi tr))))]) := by
  refine vx_startV (cc := cN_Mod_heap) (maxL := 2) (ret := none) (by decide) rfl (Nat.le_of_ble_eq_true rfl) ?_
  intro p e s m below meth c A ls C hK hP hD hS hA hl
  obtain ⟨hx, hb, hr, hml, hown, hts, hlocks, hnm⟩ := id C
  have hown : s.vm.findClass "StepMachinesModel" = some m.cls := hown
  have ht : ∀ w ∈ TB, w.before _ s = true := fun w h => hts w (List.mem_cons_of_mem _ h)
  have hl : lv_has ls 2 [(0, .ref o), (1, .int (nI k))] := hl
  refine lv_aload_n hx hb dN_Mod_heap_0 rfl (lv_at hl 0 rfl) ?_
  refine va_get (D := D) (ci := 11) (v := .ref (q 13)) (C := RN_Mod) (T := FN_Mod) (N := 25) hx hb ht fN_Mod hown hK hP 0 rfl rfl 13 (by decide) (ht _ mw_919) (fun _ h9 => h9) rfl dN_Mod_heap_1 ?_
  refine lv_aload_n hx hb dN_Mod_heap_4 rfl (lv_at hl 0 rfl) ?_
  refine va_get (D := D) (ci := 11) (v := .int (nI hi)) (C := RN_Mod) (T := FN_Mod) (N := 25) hx hb ht fN_Mod hown hK hP 0 rfl rfl 19 (by decide) (ht _ mw_925) (fun _ h9 => h9) rfl dN_Mod_heap_5 ?_
  refine lv_iload_n hx hb dN_Mod_heap_8 rfl (lv_at hl 1 rfl) ?_
  refine xn_ast hx hb hK hP hD hS 1 0 rfl rfl dN_Mod_heap_9 (by omega) (by omega) (fun H locs hP hD hS => ?_)
  have hP : va_P D clN [(o, .inr (11, [.int (nI th), .int (nI n), .int (nI b), .ref (q 3), .ref (q 4), .ref (q 5), .ref (q 6), .ref (q 7), .int (nI len), .ref (q 9), .ref (q 10), .ref (q 11), .ref (q 12), .ref (q 13), .ref (q 14), .ref (q 15), .ref (q 16), .ref (q 17), .int (nI tr), .int (nI hi), .ref (q 20), .ref (q 21), .ref (q 22), .ref (q 23), .int (nI ma)])), (q 13, .inl (cI, 500, .inl (ni (un pl hi k)))), (q 14, .inl (cI, 500, .inl (ni pt)))] H := hP
  have hD : va_D A [(o, .inr (11, [.int (nI th), .int (nI n), .int (nI b), .ref (q 3), .ref (q 4), .ref (q 5), .ref (q 6), .ref (q 7), .int (nI len), .ref (q 9), .ref (q 10), .ref (q 11), .ref (q 12), .ref (q 13), .ref (q 14), .ref (q 15), .ref (q 16), .ref (q 17), .int (nI tr), .int (nI hi), .ref (q 20), .ref (q 21), .ref (q 22), .ref (q 23), .int (nI ma)])), (q 13, .inl (cI, 500, .inl (ni (un pl hi k)))), (q 14, .inl (cI, 500, .inl (ni pt)))] := hD
  refine lv_aload_n hx hb dN_Mod_heap_10 rfl (lv_at hl 0 rfl) ?_
  refine va_get (D := D) (ci := 11) (v := .ref (q 14)) (C := RN_Mod) (T := FN_Mod) (N := 25) hx hb ht fN_Mod hown hK hP 0 rfl rfl 14 (by decide) (ht _ mw_920) (fun _ h9 => h9) rfl dN_Mod_heap_11 ?_
  refine lv_aload_n hx hb dN_Mod_heap_14 rfl (lv_at hl 0 rfl) ?_
  refine va_get (D := D) (ci := 11) (v := .int (nI hi)) (C := RN_Mod) (T := FN_Mod) (N := 25) hx hb ht fN_Mod hown hK hP 0 rfl rfl 19 (by decide) (ht _ mw_925) (fun _ h9 => h9) rfl dN_Mod_heap_15 ?_
  refine lv_aload_n hx hb dN_Mod_heap_18 rfl (lv_at hl 0 rfl) ?_
  refine va_get (D := D) (ci := 11) (v := .int (nI tr)) (C := RN_Mod) (T := FN_Mod) (N := 25) hx hb ht fN_Mod hown hK hP 0 rfl rfl 18 (by decide) (ht _ mw_924) (fun _ h9 => h9) rfl dN_Mod_heap_19 ?_
  refine xn_ast hx hb hK hP hD hS 2 0 rfl rfl dN_Mod_heap_22 (by omega) (by omega) (fun H locs hP hD hS => ?_)
  have hP : va_P D clN [(o, .inr (11, [.int (nI th), .int (nI n), .int (nI b), .ref (q 3), .ref (q 4), .ref (q 5), .ref (q 6), .ref (q 7), .int (nI len), .ref (q 9), .ref (q 10), .ref (q 11), .ref (q 12), .ref (q 13), .ref (q 14), .ref (q 15), .ref (q 16), .ref (q 17), .int (nI tr), .int (nI hi), .ref (q 20), .ref (q 21), .ref (q 22), .ref (q 23), .int (nI ma)])), (q 13, .inl (cI, 500, .inl (ni (un pl hi k)))), (q 14, .inl (cI, 500, .inl (ni (un pt hi tr))))] H := hP
  have hD : va_D A [(o, .inr (11, [.int (nI th), .int (nI n), .int (nI b), .ref (q 3), .ref (q 4), .ref (q 5), .ref (q 6), .ref (q 7), .int (nI len), .ref (q 9), .ref (q 10), .ref (q 11), .ref (q 12), .ref (q 13), .ref (q 14), .ref (q 15), .ref (q 16), .ref (q 17), .int (nI tr), .int (nI hi), .ref (q 20), .ref (q 21), .ref (q 22), .ref (q 23), .int (nI ma)])), (q 13, .inl (cI, 500, .inl (ni (un pl hi k)))), (q 14, .inl (cI, 500, .inl (ni (un pt hi tr))))] := hD
  refine lv_aload_n hx hb dN_Mod_heap_23 rfl (lv_at hl 0 rfl) ?_
  refine lv_dup hx hb dN_Mod_heap_24 rfl ?_
  refine va_get (D := D) (ci := 11) (v := .int (nI hi)) (C := RN_Mod) (T := FN_Mod) (N := 25) hx hb ht fN_Mod hown hK hP 0 rfl rfl 19 (by decide) (ht _ mw_925) (fun _ h9 => h9) rfl dN_Mod_heap_25 ?_
  refine lv_iconst (v := (nI 1)) hx hb dN_Mod_heap_28 (by decide) ?_
  refine xn_add hx hb dN_Mod_heap_29 ?_
  refine va_put (D := D) (ci := 11) (v := .int (nI (hi + 1))) (ty := .int) (C := RN_Mod) (T := FN_Mod) (N := 25) hx hb ht fN_Mod tN_Mod oN_Mod nN_Mod hown hK hP hD hS 0 rfl rfl 19 (by decide) (ht _ mw_925) (fun _ h9 => h9) rfl (by decide +kernel) (rfl) (rfl) (Nat.le_of_ble_eq_true rfl) dN_Mod_heap_30 (fun H locs hP hD hS => ?_)
  have hP : va_P D clN [(o, .inr (11, [.int (nI th), .int (nI n), .int (nI b), .ref (q 3), .ref (q 4), .ref (q 5), .ref (q 6), .ref (q 7), .int (nI len), .ref (q 9), .ref (q 10), .ref (q 11), .ref (q 12), .ref (q 13), .ref (q 14), .ref (q 15), .ref (q 16), .ref (q 17), .int (nI tr), .int (nI (hi + 1)), .ref (q 20), .ref (q 21), .ref (q 22), .ref (q 23), .int (nI ma)])), (q 13, .inl (cI, 500, .inl (ni (un pl hi k)))), (q 14, .inl (cI, 500, .inl (ni (un pt hi tr))))] H := hP
  have hD : va_D A [(o, .inr (11, [.int (nI th), .int (nI n), .int (nI b), .ref (q 3), .ref (q 4), .ref (q 5), .ref (q 6), .ref (q 7), .int (nI len), .ref (q 9), .ref (q 10), .ref (q 11), .ref (q 12), .ref (q 13), .ref (q 14), .ref (q 15), .ref (q 16), .ref (q 17), .int (nI tr), .int (nI (hi + 1)), .ref (q 20), .ref (q 21), .ref (q 22), .ref (q 23), .int (nI ma)])), (q 13, .inl (cI, 500, .inl (ni (un pl hi k)))), (q 14, .inl (cI, 500, .inl (ni (un pt hi tr))))] := hD
  exact vx_vret C hK hP hD hS dN_Mod_heap_33 (Nat.le_of_ble_eq_true rfl) (Nat.le_of_ble_eq_true rfl) (rfl)
set_option maxHeartbeats 4000000 in
set_option maxRecDepth 100000 in
/-- undo(t) -/
theorem kMod_undo (l : Launch) (D : va_G) (cI cZ cJ : ClassId) (o : Nat) (q : Nat → Nat) (th n b len tr hi ma : Nat) (sv : Sv) (tp : Nat → Nat) (ol : Sv) (t : Nat) (htt : t ≤ tr) (htr : tr ≤ 300) (htp : ∀ i, i < tr → tp i < 20) : vx_Mv l yN_Mod_undo wN_Mod_undo ({ frames := 0, cells := 0, slots := 0, locals := 0 }) D clN (tyN cI cZ cJ) [.ref o, .int (nI t)] [(o, .inr (11, [.int (nI th), .int (nI n), .int (nI b), .ref (q 3), .ref (q 4), .ref (q 5), .ref (q 6), .ref (q 7), .int (nI len), .ref (q 9), .ref (q 10), .ref (q 11), .ref (q 12), .ref (q 13), .ref (q 14), .ref (q 15), .ref (q 16), .ref (q 17), .int (nI tr), .int (nI hi), .ref (q 20), .ref (q 21), .ref (q 22), .ref (q 23), .int (nI ma)])), (q 11, .inl (cI, 20, .inl sv)), (q 15, .inl (cI, 300, .inl (ni tp))), (q 16, .inl (cI, 300, .inl ol))] (fun w => w = [(o, .inr (11, [.int (nI th), .int (nI n), .int (nI b), .ref (q 3), .ref (q 4), .ref (q 5), .ref (q 6), .ref (q 7), .int (nI len), .ref (q 9), .ref (q 10), .ref (q 11), .ref (q 12), .ref (q 13), .ref (q 14), .ref (q 15), .ref (q 16), .ref (q 17), .int (nI t), .int (nI hi), .ref (q 20), .ref (q 21), .ref (q 22), .ref (q 23), .int (nI ma)])), (q 11, .inl (cI, 20, .inl ((unT tp ol t tr sv)))), (q 15, .inl (cI, 300, .inl (ni tp))), (q 16, .inl (cI, 300, .inl ol))]) := by
  refine vx_startV (cc := cN_Mod_undo) (maxL := 2) (ret := none) (by decide) rfl (Nat.le_of_ble_eq_true rfl) ?_
  intro p e s m below meth c A ls C hK hP hD hS hA hl
  obtain ⟨hx, hb, hr, hml, hown, hts, hlocks, hnm⟩ := id C
  have hown : s.vm.findClass "StepMachinesModel" = some m.cls := hown
  have ht : ∀ w ∈ TB, w.before _ s = true := fun w h => hts w (List.mem_cons_of_mem _ h)
  have hl : lv_has ls 2 [(0, .ref o), (1, .int (nI t))] := hl
  refine vx_loop (α := Nat × Sv) (fun (a : Nat × Sv) (H : Heap) (locs : List Loc) (ls : Array Slot) => match a with | (t1, s1) => va_P D clN [(o, .inr (11, [.int (nI th), .int (nI n), .int (nI b), .ref (q 3), .ref (q 4), .ref (q 5), .ref (q 6), .ref (q 7), .int (nI len), .ref (q 9), .ref (q 10), .ref (q 11), .ref (q 12), .ref (q 13), .ref (q 14), .ref (q 15), .ref (q 16), .ref (q 17), .int (nI t1), .int (nI hi), .ref (q 20), .ref (q 21), .ref (q 22), .ref (q 23), .int (nI ma)])), (q 11, .inl (cI, 20, .inl s1)), (q 15, .inl (cI, 300, .inl (ni tp))), (q 16, .inl (cI, 300, .inl ol))] H ∧ va_D A [(o, .inr (11, [.int (nI th), .int (nI n), .int (nI b), .ref (q 3), .ref (q 4), .ref (q 5), .ref (q 6), .ref (q 7), .int (nI len), .ref (q 9), .ref (q 10), .ref (q 11), .ref (q 12), .ref (q 13), .ref (q 14), .ref (q 15), .ref (q 16), .ref (q 17), .int (nI t1), .int (nI hi), .ref (q 20), .ref (q 21), .ref (q 22), .ref (q 23), .int (nI ma)])), (q 11, .inl (cI, 20, .inl s1)), (q 15, .inl (cI, 300, .inl (ni tp))), (q 16, .inl (cI, 300, .inl ol))] ∧ va_S A s.heap H locs ∧ lv_has ls 2 [(0, .ref o), (1, .int (nI t))] ∧ (t ≤ t1 ∧ t1 ≤ tr ∧ unT tp ol t t1 s1 = unT tp ol t tr sv)) (fun (a : Nat × Sv) => match a with | (t1, s1) => t1) 0 [] ?_ (tr, sv) ⟨hP, hD, hS, lv_sub hl [0, 1] rfl, ⟨htt, Nat.le_refl _, rfl⟩⟩
  intro a H locs ls hq ih_0_0
  obtain ⟨t1, s1⟩ := a
  obtain ⟨hP, hD, hS, hl, hI⟩ := hq
  obtain ⟨ht1, ht2, hun⟩ := hI
  refine lv_aload_n hx hb dN_Mod_undo_0 rfl (lv_at hl 0 rfl) ?_
  refine va_get (D := D) (ci := 11) (v := .int (nI t1)) (C := RN_Mod) (T := FN_Mod) (N := 25) hx hb ht fN_Mod hown hK hP 0 rfl rfl 18 (by decide) (ht _ mw_924) (fun _ h9 => h9) rfl dN_Mod_undo_1 ?_
  refine lv_iload_n hx hb dN_Mod_undo_4 rfl (lv_at hl 1 rfl) ?_
  refine xn_le (tgt := 44) hx hb dN_Mod_undo_5 (by decide) (by omega) (by omega) (fun c_5_1 => ?_) (fun c_5_1 => ?_)
  · skip
    exact vx_vret C hK hP hD hS dN_Mod_undo_44 (Nat.le_of_ble_eq_true rfl) (Nat.le_of_ble_eq_true rfl) (by (obtain rfl : t1 = t := (by omega)); rw [← hun, unT_le (Nat.le_refl _)])
  · skip
    refine lv_aload_n hx hb dN_Mod_undo_8 rfl (lv_at hl 0 rfl) ?_
    refine lv_dup hx hb dN_Mod_undo_9 rfl ?_
    refine va_get (D := D) (ci := 11) (v := .int (nI t1)) (C := RN_Mod) (T := FN_Mod) (N := 25) hx hb ht fN_Mod hown hK hP 0 rfl rfl 18 (by decide) (ht _ mw_924) (fun _ h9 => h9) rfl dN_Mod_undo_10 ?_
    refine lv_iconst (v := (nI 1)) hx hb dN_Mod_undo_13 (by decide) ?_
    refine xn_sub hx hb dN_Mod_undo_14 (by omega) ?_
    refine va_put (D := D) (ci := 11) (v := .int (nI (t1 - 1))) (ty := .int) (C := RN_Mod) (T := FN_Mod) (N := 25) hx hb ht fN_Mod tN_Mod oN_Mod nN_Mod hown hK hP hD hS 0 rfl rfl 18 (by decide) (ht _ mw_924) (fun _ h9 => h9) rfl (by decide +kernel) (rfl) (rfl) (Nat.le_of_ble_eq_true rfl) dN_Mod_undo_15 (fun H locs hP hD hS => ?_)
    have hP : va_P D clN [(o, .inr (11, [.int (nI th), .int (nI n), .int (nI b), .ref (q 3), .ref (q 4), .ref (q 5), .ref (q 6), .ref (q 7), .int (nI len), .ref (q 9), .ref (q 10), .ref (q 11), .ref (q 12), .ref (q 13), .ref (q 14), .ref (q 15), .ref (q 16), .ref (q 17), .int (nI (t1 - 1)), .int (nI hi), .ref (q 20), .ref (q 21), .ref (q 22), .ref (q 23), .int (nI ma)])), (q 11, .inl (cI, 20, .inl s1)), (q 15, .inl (cI, 300, .inl (ni tp))), (q 16, .inl (cI, 300, .inl ol))] H := hP
    have hD : va_D A [(o, .inr (11, [.int (nI th), .int (nI n), .int (nI b), .ref (q 3), .ref (q 4), .ref (q 5), .ref (q 6), .ref (q 7), .int (nI len), .ref (q 9), .ref (q 10), .ref (q 11), .ref (q 12), .ref (q 13), .ref (q 14), .ref (q 15), .ref (q 16), .ref (q 17), .int (nI (t1 - 1)), .int (nI hi), .ref (q 20), .ref (q 21), .ref (q 22), .ref (q 23), .int (nI ma)])), (q 11, .inl (cI, 20, .inl s1)), (q 15, .inl (cI, 300, .inl (ni tp))), (q 16, .inl (cI, 300, .inl ol))] := hD
    refine lv_aload_n hx hb dN_Mod_undo_18 rfl (lv_at hl 0 rfl) ?_
    refine va_get (D := D) (ci := 11) (v := .ref (q 11)) (C := RN_Mod) (T := FN_Mod) (N := 25) hx hb ht fN_Mod hown hK hP 0 rfl rfl 11 (by decide) (ht _ mw_917) (fun _ h9 => h9) rfl dN_Mod_undo_19 ?_
    refine lv_aload_n hx hb dN_Mod_undo_22 rfl (lv_at hl 0 rfl) ?_
    refine va_get (D := D) (ci := 11) (v := .ref (q 15)) (C := RN_Mod) (T := FN_Mod) (N := 25) hx hb ht fN_Mod hown hK hP 0 rfl rfl 15 (by decide) (ht _ mw_921) (fun _ h9 => h9) rfl dN_Mod_undo_23 ?_
    refine lv_aload_n hx hb dN_Mod_undo_26 rfl (lv_at hl 0 rfl) ?_
    refine va_get (D := D) (ci := 11) (v := .int (nI (t1 - 1))) (C := RN_Mod) (T := FN_Mod) (N := 25) hx hb ht fN_Mod hown hK hP 0 rfl rfl 18 (by decide) (ht _ mw_924) (fun _ h9 => h9) rfl dN_Mod_undo_27 ?_
    refine xn_ald hx hb hK hP 2 0 rfl rfl dN_Mod_undo_30 (by omega) (by omega) ?_
    refine lv_aload_n hx hb dN_Mod_undo_31 rfl (lv_at hl 0 rfl) ?_
    refine va_get (D := D) (ci := 11) (v := .ref (q 16)) (C := RN_Mod) (T := FN_Mod) (N := 25) hx hb ht fN_Mod hown hK hP 0 rfl rfl 16 (by decide) (ht _ mw_922) (fun _ h9 => h9) rfl dN_Mod_undo_32 ?_
    refine lv_aload_n hx hb dN_Mod_undo_35 rfl (lv_at hl 0 rfl) ?_
    refine va_get (D := D) (ci := 11) (v := .int (nI (t1 - 1))) (C := RN_Mod) (T := FN_Mod) (N := 25) hx hb ht fN_Mod hown hK hP 0 rfl rfl 18 (by decide) (ht _ mw_924) (fun _ h9 => h9) rfl dN_Mod_undo_36 ?_
    refine xi_ald hx hb hK hP 3 0 rfl rfl dN_Mod_undo_39 (by omega) (by omega) ?_
    refine xi_ast hx hb hK hP hD hS 1 0 rfl rfl dN_Mod_undo_40 (htp _ (by omega)) (by omega) (fun H locs hP hD hS => ?_)
    have hP : va_P D clN [(o, .inr (11, [.int (nI th), .int (nI n), .int (nI b), .ref (q 3), .ref (q 4), .ref (q 5), .ref (q 6), .ref (q 7), .int (nI len), .ref (q 9), .ref (q 10), .ref (q 11), .ref (q 12), .ref (q 13), .ref (q 14), .ref (q 15), .ref (q 16), .ref (q 17), .int (nI (t1 - 1)), .int (nI hi), .ref (q 20), .ref (q 21), .ref (q 22), .ref (q 23), .int (nI ma)])), (q 11, .inl (cI, 20, .inl ((upd s1 (tp (t1 - 1)) (ol (t1 - 1)))))), (q 15, .inl (cI, 300, .inl (ni tp))), (q 16, .inl (cI, 300, .inl ol))] H := hP
    have hD : va_D A [(o, .inr (11, [.int (nI th), .int (nI n), .int (nI b), .ref (q 3), .ref (q 4), .ref (q 5), .ref (q 6), .ref (q 7), .int (nI len), .ref (q 9), .ref (q 10), .ref (q 11), .ref (q 12), .ref (q 13), .ref (q 14), .ref (q 15), .ref (q 16), .ref (q 17), .int (nI (t1 - 1)), .int (nI hi), .ref (q 20), .ref (q 21), .ref (q 22), .ref (q 23), .int (nI ma)])), (q 11, .inl (cI, 20, .inl ((upd s1 (tp (t1 - 1)) (ol (t1 - 1)))))), (q 15, .inl (cI, 300, .inl (ni tp))), (q 16, .inl (cI, 300, .inl ol))] := hD
    refine lv_goto (tgt := 0) hx hb dN_Mod_undo_41 (by decide) ?_
    exact ih_0_0 (t1 - 1, upd s1 (tp (t1 - 1)) (ol (t1 - 1))) _ _ _ ⟨hP, hD, hS, lv_sub hl [0, 1] rfl, ⟨by omega, by omega, by rw [← hun]; obtain ⟨t2, rfl⟩ : ∃ t2, t1 = t2 + 1 := ⟨t1 - 1, by omega⟩; exact (unT_step (by omega)).symm⟩⟩ (show ((t1 - 1)) < (t1) from by omega)
end
section
section GO
variable {K V F S : Nat → Nat} {len : Nat} {u : Nat → Nat} {L : Nat} {al : Bool} {p k : Nat}
theorem go_true (h1 : p < L) (h2 : Can K V F S len u L al (p + 1) (F k)) : goB K V F S len u L al p k = true := by simp [goB, h1, canB_iff.mpr h2]
theorem go_false (h2 : ¬ Can K V F S len u L al (p + 1) (F k)) : goB K V F S len u L al p k = false := by
  cases h : goB K V F S len u L al p k with
  | false => rfl
  | true => simp [goB] at h; exact absurd (canB_iff.mp h.2) h2
theorem go_late (h1 : ¬ p < L) : goB K V F S len u L al p k = false := by simp [goB, h1]
end GO
set_option maxHeartbeats 4000000 in
set_option maxRecDepth 100000 in
/-- walk(fr, x2) -/
theorem kMod_walk (l : Launch) (D : va_G) (cI cZ cJ : ClassId) (o : Nat) (q : Nat → Nat) (th n b len tr hi ma : Nat) (K V F S u : Nat → Nat) (vI fI sI : Nat → Int32) (cb : Nat → Bool) (sv : Sv) (pl pt tp : Nat → Nat) (ol : Sv) (se : Nat → Bool) (fr L : Nat) (al : Bool) (x2 : Int32) (hn0 : 0 < n) (hn : n ≤ 200) (hle : len ≤ 200) (hu : ∀ i, u i < 256) (hK5 : ∀ i, K i < 6) (hv : ∀ i, 0 < i → i < n → (K i = 1 ∨ K i = 3 ∨ K i = 4) → vI i = nI (V i)) (hvb : ∀ i, V i < 65536) (hv4 : ∀ i, i < n → K i = 4 → V i < 6) (hf : ∀ i, 0 < i → i < n → (K i = 1 ∨ K i = 2 ∨ K i = 3 ∨ K i = 4) → fI i = nI (F i) ∧ F i < n) (hs : ∀ i, 0 < i → i < n → K i = 2 → sI i = nI (S i) ∧ S i < n) (hv3 : ∀ i, i < n → K i = 3 → V i < 20) (hb0 : b < n) (hbd : Bnd len L al x2) (hfL : fr ≤ L) (hcc : ∀ p k, fr ≤ p → p ≤ L → k < n → (cb (200 * p + k) = true ↔ Can K V F S len u L al p k)) (hcan0 : Can K V F S len u L al fr b) : vx_Mi l yN_Mod_walk wN_Mod_walk ({ frames := 3, cells := 0, slots := 0, locals := 90 }) D clN (tyN cI cZ cJ) [.ref o, .int (nI fr), .int x2] [(o, .inr (11, [.int (nI th), .int (nI n), .int (nI b), .ref (q 3), .ref (q 4), .ref (q 5), .ref (q 6), .ref (q 7), .int (nI len), .ref (q 9), .ref (q 10), .ref (q 11), .ref (q 12), .ref (q 13), .ref (q 14), .ref (q 15), .ref (q 16), .ref (q 17), .int (nI tr), .int (nI hi), .ref (q 20), .ref (q 21), .ref (q 22), .ref (q 23), .int (nI ma)])), (q 3, .inl (cI, 200, .inl (ni K))), (q 4, .inl (cI, 200, .inl vI)), (q 5, .inl (cI, 200, .inl fI)), (q 6, .inl (cI, 200, .inl sI)), (q 7, .inl (cI, 200, .inl (ni u))), (q 9, .inl (cZ, 40200, .inl (zb cb))), (q 11, .inl (cI, 20, .inl sv)), (q 13, .inl (cI, 500, .inl (ni pl))), (q 14, .inl (cI, 500, .inl (ni pt))), (q 15, .inl (cI, 300, .inl (ni tp))), (q 16, .inl (cI, 300, .inl ol)), (q 17, .inl (cZ, 200, .inl (zb se)))] (fun r w => ∃ (e : Nat) (sv : Sv) (pl pt tp : Nat → Nat) (ol : Sv) (se : Nat → Bool) (tr hi : Nat), r = nI e ∧ gwN K V F S len u L al n (L + 1 - fr) fr b (fun _ => -1) = some (e, sv) ∧ w = [(o, .inr (11, [.int (nI th), .int (nI n), .int (nI b), .ref (q 3), .ref (q 4), .ref (q 5), .ref (q 6), .ref (q 7), .int (nI len), .ref (q 9), .ref (q 10), .ref (q 11), .ref (q 12), .ref (q 13), .ref (q 14), .ref (q 15), .ref (q 16), .ref (q 17), .int (nI tr), .int (nI hi), .ref (q 20), .ref (q 21), .ref (q 22), .ref (q 23), .int (nI ma)])), (q 3, .inl (cI, 200, .inl (ni K))), (q 4, .inl (cI, 200, .inl vI)), (q 5, .inl (cI, 200, .inl fI)), (q 6, .inl (cI, 200, .inl sI)), (q 7, .inl (cI, 200, .inl (ni u))), (q 9, .inl (cZ, 40200, .inl (zb cb))), (q 11, .inl (cI, 20, .inl sv)), (q 13, .inl (cI, 500, .inl (ni pl))), (q 14, .inl (cI, 500, .inl (ni pt))), (q 15, .inl (cI, 300, .inl (ni tp))), (q 16, .inl (cI, 300, .inl ol)), (q 17, .inl (cZ, 200, .inl (zb se)))]) := by
  refine vx_startI (cc := cN_Mod_walk) (maxL := 7) (ret := (some .int)) (by decide) rfl (Nat.le_of_ble_eq_true rfl) ?_
  intro p e s m below meth c A ls C hK hP hD hS hA hl
  obtain ⟨hx, hb, hr, hml, hown, hts, hlocks, hnm⟩ := id C
  have hown : s.vm.findClass "StepMachinesModel" = some m.cls := hown
  have ht : ∀ w ∈ TB, w.before _ s = true := fun w h => hts w (List.mem_cons_of_mem _ h)
  have hl : lv_has ls 7 [(0, .ref o), (1, .int (nI fr)), (2, .int x2)] := hl
  have hLl := Bnd_len hbd
  refine lv_iconst (v := (nI 0)) hx hb dN_Mod_walk_0 (by decide) ?_
  refine lv_istore_n (lv' := [(3, .int (nI 0)), (0, .ref o), (1, .int (nI fr)), (2, .int x2)]) hx hb dN_Mod_walk_1 rfl hl (by decide) rfl (fun ls hl => ?_)
  refine vx_loop (α := Sv × Nat) (fun (a : Sv × Nat) (H : Heap) (locs : List Loc) (ls : Array Slot) => match a with | (sv, k) => va_P D clN [(o, .inr (11, [.int (nI th), .int (nI n), .int (nI b), .ref (q 3), .ref (q 4), .ref (q 5), .ref (q 6), .ref (q 7), .int (nI len), .ref (q 9), .ref (q 10), .ref (q 11), .ref (q 12), .ref (q 13), .ref (q 14), .ref (q 15), .ref (q 16), .ref (q 17), .int (nI tr), .int (nI hi), .ref (q 20), .ref (q 21), .ref (q 22), .ref (q 23), .int (nI ma)])), (q 3, .inl (cI, 200, .inl (ni K))), (q 4, .inl (cI, 200, .inl vI)), (q 5, .inl (cI, 200, .inl fI)), (q 6, .inl (cI, 200, .inl sI)), (q 7, .inl (cI, 200, .inl (ni u))), (q 9, .inl (cZ, 40200, .inl (zb cb))), (q 11, .inl (cI, 20, .inl sv)), (q 13, .inl (cI, 500, .inl (ni pl))), (q 14, .inl (cI, 500, .inl (ni pt))), (q 15, .inl (cI, 300, .inl (ni tp))), (q 16, .inl (cI, 300, .inl ol)), (q 17, .inl (cZ, 200, .inl (zb se)))] H ∧ va_D A [(o, .inr (11, [.int (nI th), .int (nI n), .int (nI b), .ref (q 3), .ref (q 4), .ref (q 5), .ref (q 6), .ref (q 7), .int (nI len), .ref (q 9), .ref (q 10), .ref (q 11), .ref (q 12), .ref (q 13), .ref (q 14), .ref (q 15), .ref (q 16), .ref (q 17), .int (nI tr), .int (nI hi), .ref (q 20), .ref (q 21), .ref (q 22), .ref (q 23), .int (nI ma)])), (q 3, .inl (cI, 200, .inl (ni K))), (q 4, .inl (cI, 200, .inl vI)), (q 5, .inl (cI, 200, .inl fI)), (q 6, .inl (cI, 200, .inl sI)), (q 7, .inl (cI, 200, .inl (ni u))), (q 9, .inl (cZ, 40200, .inl (zb cb))), (q 11, .inl (cI, 20, .inl sv)), (q 13, .inl (cI, 500, .inl (ni pl))), (q 14, .inl (cI, 500, .inl (ni pt))), (q 15, .inl (cI, 300, .inl (ni tp))), (q 16, .inl (cI, 300, .inl ol)), (q 17, .inl (cZ, 200, .inl (zb se)))] ∧ va_S A s.heap H locs ∧ lv_has ls 7 [(0, .ref o), (1, .int (nI fr)), (2, .int x2), (3, .int (nI k))] ∧ (k ≤ 20 ∧ ∀ i, i < k → sv i = -1)) (fun (a : Sv × Nat) => match a with | (sv, k) => 20 - k) 2 [] ?_ (sv, 0) ⟨hP, hD, hS, lv_sub hl [1, 2, 3, 0] rfl, ⟨by omega, fun i h => absurd h (by omega)⟩⟩
  intro a H locs ls hq ih_2_0
  obtain ⟨sv, k⟩ := a
  obtain ⟨hP, hD, hS, hl, hI⟩ := hq
  obtain ⟨hk20, hsv⟩ := hI
  refine lv_iload_n hx hb dN_Mod_walk_2 rfl (lv_at hl 3 rfl) ?_
  refine lv_bipush (v := (nI 20)) hx hb dN_Mod_walk_3 (by decide) ?_
  refine xn_ge (tgt := 21) hx hb dN_Mod_walk_5 (by decide) (by omega) (by omega) (fun c_5_1 => ?_) (fun c_5_1 => ?_)
  · skip
    have hP : va_P D clN [(o, .inr (11, [.int (nI th), .int (nI n), .int (nI b), .ref (q 3), .ref (q 4), .ref (q 5), .ref (q 6), .ref (q 7), .int (nI len), .ref (q 9), .ref (q 10), .ref (q 11), .ref (q 12), .ref (q 13), .ref (q 14), .ref (q 15), .ref (q 16), .ref (q 17), .int (nI tr), .int (nI hi), .ref (q 20), .ref (q 21), .ref (q 22), .ref (q 23), .int (nI ma)])), (q 3, .inl (cI, 200, .inl (ni K))), (q 4, .inl (cI, 200, .inl vI)), (q 5, .inl (cI, 200, .inl fI)), (q 6, .inl (cI, 200, .inl sI)), (q 7, .inl (cI, 200, .inl (ni u))), (q 9, .inl (cZ, 40200, .inl (zb cb))), (q 11, .inl (cI, 20, .inl ((fun _ => -1)))), (q 13, .inl (cI, 500, .inl (ni pl))), (q 14, .inl (cI, 500, .inl (ni pt))), (q 15, .inl (cI, 300, .inl (ni tp))), (q 16, .inl (cI, 300, .inl ol)), (q 17, .inl (cZ, 200, .inl (zb se)))] H := xP_fn (q := 7) (g := fun _ => -1) hP rfl (fun j hj => hsv j (by omega))
    have hD : va_D A [(o, .inr (11, [.int (nI th), .int (nI n), .int (nI b), .ref (q 3), .ref (q 4), .ref (q 5), .ref (q 6), .ref (q 7), .int (nI len), .ref (q 9), .ref (q 10), .ref (q 11), .ref (q 12), .ref (q 13), .ref (q 14), .ref (q 15), .ref (q 16), .ref (q 17), .int (nI tr), .int (nI hi), .ref (q 20), .ref (q 21), .ref (q 22), .ref (q 23), .int (nI ma)])), (q 3, .inl (cI, 200, .inl (ni K))), (q 4, .inl (cI, 200, .inl vI)), (q 5, .inl (cI, 200, .inl fI)), (q 6, .inl (cI, 200, .inl sI)), (q 7, .inl (cI, 200, .inl (ni u))), (q 9, .inl (cZ, 40200, .inl (zb cb))), (q 11, .inl (cI, 20, .inl ((fun _ => -1)))), (q 13, .inl (cI, 500, .inl (ni pl))), (q 14, .inl (cI, 500, .inl (ni pt))), (q 15, .inl (cI, 300, .inl (ni tp))), (q 16, .inl (cI, 300, .inl ol)), (q 17, .inl (cZ, 200, .inl (zb se)))] := xD_fn (q := 7) hD rfl
    refine lv_iload_n hx hb dN_Mod_walk_21 rfl (lv_at hl 1 rfl) ?_
    refine lv_istore_n (lv' := [(3, .int (nI fr)), (0, .ref o), (1, .int (nI fr)), (2, .int x2)]) hx hb dN_Mod_walk_22 rfl hl (by decide) rfl (fun ls hl => ?_)
    refine lv_aload_n hx hb dN_Mod_walk_23 rfl (lv_at hl 1 rfl) ?_
    refine va_get (D := D) (ci := 11) (v := .int (nI b)) (C := RN_Mod) (T := FN_Mod) (N := 25) hx hb ht fN_Mod hown hK hP 0 rfl rfl 2 (by decide) (ht _ mw_908) (fun _ h9 => h9) rfl dN_Mod_walk_24 ?_
    refine lv_istore (lv' := [(4, .int (nI b)), (3, .int (nI fr)), (0, .ref o), (1, .int (nI fr)), (2, .int x2)]) hx hb dN_Mod_walk_27 hl (by decide) rfl (fun ls hl => ?_)
    refine vx_loop (α := Nat × Nat × Sv × (Nat → Nat) × (Nat → Nat) × (Nat → Nat) × Sv × (Nat → Bool) × Nat × Nat) (fun (a : Nat × Nat × Sv × (Nat → Nat) × (Nat → Nat) × (Nat → Nat) × Sv × (Nat → Bool) × Nat × Nat) (H : Heap) (locs : List Loc) (ls : Array Slot) => match a with | (p, ka, sv, pl, pt, tp, ol, se, tr, hi) => va_P D clN [(o, .inr (11, [.int (nI th), .int (nI n), .int (nI b), .ref (q 3), .ref (q 4), .ref (q 5), .ref (q 6), .ref (q 7), .int (nI len), .ref (q 9), .ref (q 10), .ref (q 11), .ref (q 12), .ref (q 13), .ref (q 14), .ref (q 15), .ref (q 16), .ref (q 17), .int (nI tr), .int (nI hi), .ref (q 20), .ref (q 21), .ref (q 22), .ref (q 23), .int (nI ma)])), (q 3, .inl (cI, 200, .inl (ni K))), (q 4, .inl (cI, 200, .inl vI)), (q 5, .inl (cI, 200, .inl fI)), (q 6, .inl (cI, 200, .inl sI)), (q 7, .inl (cI, 200, .inl (ni u))), (q 9, .inl (cZ, 40200, .inl (zb cb))), (q 11, .inl (cI, 20, .inl sv)), (q 13, .inl (cI, 500, .inl (ni pl))), (q 14, .inl (cI, 500, .inl (ni pt))), (q 15, .inl (cI, 300, .inl (ni tp))), (q 16, .inl (cI, 300, .inl ol)), (q 17, .inl (cZ, 200, .inl (zb se)))] H ∧ va_D A [(o, .inr (11, [.int (nI th), .int (nI n), .int (nI b), .ref (q 3), .ref (q 4), .ref (q 5), .ref (q 6), .ref (q 7), .int (nI len), .ref (q 9), .ref (q 10), .ref (q 11), .ref (q 12), .ref (q 13), .ref (q 14), .ref (q 15), .ref (q 16), .ref (q 17), .int (nI tr), .int (nI hi), .ref (q 20), .ref (q 21), .ref (q 22), .ref (q 23), .int (nI ma)])), (q 3, .inl (cI, 200, .inl (ni K))), (q 4, .inl (cI, 200, .inl vI)), (q 5, .inl (cI, 200, .inl fI)), (q 6, .inl (cI, 200, .inl sI)), (q 7, .inl (cI, 200, .inl (ni u))), (q 9, .inl (cZ, 40200, .inl (zb cb))), (q 11, .inl (cI, 20, .inl sv)), (q 13, .inl (cI, 500, .inl (ni pl))), (q 14, .inl (cI, 500, .inl (ni pt))), (q 15, .inl (cI, 300, .inl (ni tp))), (q 16, .inl (cI, 300, .inl ol)), (q 17, .inl (cZ, 200, .inl (zb se)))] ∧ va_S A s.heap H locs ∧ lv_has ls 7 [(0, .ref o), (1, .int (nI fr)), (2, .int x2), (3, .int (nI p)), (4, .int (nI ka))] ∧ (fr ≤ p ∧ p ≤ L ∧ ka < n ∧ Can K V F S len u L al p ka ∧ gwN K V F S len u L al n (L + 1 - p) p ka sv = gwN K V F S len u L al n (L + 1 - fr) fr b (fun _ => -1))) (fun (a : Nat × Nat × Sv × (Nat → Nat) × (Nat → Nat) × (Nat → Nat) × Sv × (Nat → Bool) × Nat × Nat) => match a with | (p, ka, sv, pl, pt, tp, ol, se, tr, hi) => L + 1 - p) 29 [] ?_ (fr, b, fun _ => -1, pl, pt, tp, ol, se, tr, hi) ⟨hP, hD, hS, lv_sub hl [2, 3, 4, 1, 0] rfl, ⟨by omega, by omega, hb0, hcan0, rfl⟩⟩
    intro a H locs ls hq ih_29_2
    obtain ⟨p, ka, sv, pl, pt, tp, ol, se, tr, hi⟩ := a
    obtain ⟨hP, hD, hS, hl, hI⟩ := hq
    obtain ⟨hp1, hp2, hka, hcan, hgw⟩ := hI
    refine lv_aload_n hx hb dN_Mod_walk_29 rfl (lv_at hl 0 rfl) ?_
    refine lv_iconst (v := (nI 0)) hx hb dN_Mod_walk_30 (by decide) ?_
    refine va_put (D := D) (ci := 11) (v := .int (nI 0)) (ty := .int) (C := RN_Mod) (T := FN_Mod) (N := 25) hx hb ht fN_Mod tN_Mod oN_Mod nN_Mod hown hK hP hD hS 0 rfl rfl 19 (by decide) (ht _ mw_925) (fun _ h9 => h9) rfl (by decide +kernel) (rfl) (rfl) (Nat.le_of_ble_eq_true rfl) dN_Mod_walk_31 (fun H locs hP hD hS => ?_)
    have hP : va_P D clN [(o, .inr (11, [.int (nI th), .int (nI n), .int (nI b), .ref (q 3), .ref (q 4), .ref (q 5), .ref (q 6), .ref (q 7), .int (nI len), .ref (q 9), .ref (q 10), .ref (q 11), .ref (q 12), .ref (q 13), .ref (q 14), .ref (q 15), .ref (q 16), .ref (q 17), .int (nI tr), .int (nI 0), .ref (q 20), .ref (q 21), .ref (q 22), .ref (q 23), .int (nI ma)])), (q 3, .inl (cI, 200, .inl (ni K))), (q 4, .inl (cI, 200, .inl vI)), (q 5, .inl (cI, 200, .inl fI)), (q 6, .inl (cI, 200, .inl sI)), (q 7, .inl (cI, 200, .inl (ni u))), (q 9, .inl (cZ, 40200, .inl (zb cb))), (q 11, .inl (cI, 20, .inl sv)), (q 13, .inl (cI, 500, .inl (ni pl))), (q 14, .inl (cI, 500, .inl (ni pt))), (q 15, .inl (cI, 300, .inl (ni tp))), (q 16, .inl (cI, 300, .inl ol)), (q 17, .inl (cZ, 200, .inl (zb se)))] H := hP
    have hD : va_D A [(o, .inr (11, [.int (nI th), .int (nI n), .int (nI b), .ref (q 3), .ref (q 4), .ref (q 5), .ref (q 6), .ref (q 7), .int (nI len), .ref (q 9), .ref (q 10), .ref (q 11), .ref (q 12), .ref (q 13), .ref (q 14), .ref (q 15), .ref (q 16), .ref (q 17), .int (nI tr), .int (nI 0), .ref (q 20), .ref (q 21), .ref (q 22), .ref (q 23), .int (nI ma)])), (q 3, .inl (cI, 200, .inl (ni K))), (q 4, .inl (cI, 200, .inl vI)), (q 5, .inl (cI, 200, .inl fI)), (q 6, .inl (cI, 200, .inl sI)), (q 7, .inl (cI, 200, .inl (ni u))), (q 9, .inl (cZ, 40200, .inl (zb cb))), (q 11, .inl (cI, 20, .inl sv)), (q 13, .inl (cI, 500, .inl (ni pl))), (q 14, .inl (cI, 500, .inl (ni pt))), (q 15, .inl (cI, 300, .inl (ni tp))), (q 16, .inl (cI, 300, .inl ol)), (q 17, .inl (cZ, 200, .inl (zb se)))] := hD
    refine lv_aload_n hx hb dN_Mod_walk_34 rfl (lv_at hl 0 rfl) ?_
    refine lv_iconst (v := (nI 0)) hx hb dN_Mod_walk_35 (by decide) ?_
    refine va_put (D := D) (ci := 11) (v := .int (nI 0)) (ty := .int) (C := RN_Mod) (T := FN_Mod) (N := 25) hx hb ht fN_Mod tN_Mod oN_Mod nN_Mod hown hK hP hD hS 0 rfl rfl 18 (by decide) (ht _ mw_924) (fun _ h9 => h9) rfl (by decide +kernel) (rfl) (rfl) (Nat.le_of_ble_eq_true rfl) dN_Mod_walk_36 (fun H locs hP hD hS => ?_)
    have hP : va_P D clN [(o, .inr (11, [.int (nI th), .int (nI n), .int (nI b), .ref (q 3), .ref (q 4), .ref (q 5), .ref (q 6), .ref (q 7), .int (nI len), .ref (q 9), .ref (q 10), .ref (q 11), .ref (q 12), .ref (q 13), .ref (q 14), .ref (q 15), .ref (q 16), .ref (q 17), .int (nI 0), .int (nI 0), .ref (q 20), .ref (q 21), .ref (q 22), .ref (q 23), .int (nI ma)])), (q 3, .inl (cI, 200, .inl (ni K))), (q 4, .inl (cI, 200, .inl vI)), (q 5, .inl (cI, 200, .inl fI)), (q 6, .inl (cI, 200, .inl sI)), (q 7, .inl (cI, 200, .inl (ni u))), (q 9, .inl (cZ, 40200, .inl (zb cb))), (q 11, .inl (cI, 20, .inl sv)), (q 13, .inl (cI, 500, .inl (ni pl))), (q 14, .inl (cI, 500, .inl (ni pt))), (q 15, .inl (cI, 300, .inl (ni tp))), (q 16, .inl (cI, 300, .inl ol)), (q 17, .inl (cZ, 200, .inl (zb se)))] H := hP
    have hD : va_D A [(o, .inr (11, [.int (nI th), .int (nI n), .int (nI b), .ref (q 3), .ref (q 4), .ref (q 5), .ref (q 6), .ref (q 7), .int (nI len), .ref (q 9), .ref (q 10), .ref (q 11), .ref (q 12), .ref (q 13), .ref (q 14), .ref (q 15), .ref (q 16), .ref (q 17), .int (nI 0), .int (nI 0), .ref (q 20), .ref (q 21), .ref (q 22), .ref (q 23), .int (nI ma)])), (q 3, .inl (cI, 200, .inl (ni K))), (q 4, .inl (cI, 200, .inl vI)), (q 5, .inl (cI, 200, .inl fI)), (q 6, .inl (cI, 200, .inl sI)), (q 7, .inl (cI, 200, .inl (ni u))), (q 9, .inl (cZ, 40200, .inl (zb cb))), (q 11, .inl (cI, 20, .inl sv)), (q 13, .inl (cI, 500, .inl (ni pl))), (q 14, .inl (cI, 500, .inl (ni pt))), (q 15, .inl (cI, 300, .inl (ni tp))), (q 16, .inl (cI, 300, .inl ol)), (q 17, .inl (cZ, 200, .inl (zb se)))] := hD
    refine lv_aload_n hx hb dN_Mod_walk_39 rfl (lv_at hl 0 rfl) ?_
    refine lv_iload hx hb dN_Mod_walk_40 (lv_at hl 4 rfl) ?_
    refine vx_callv (wc := [(o, .inr (11, [.int (nI th), .int (nI n), .int (nI b), .ref (q 3), .ref (q 4), .ref (q 5), .ref (q 6), .ref (q 7), .int (nI len), .ref (q 9), .ref (q 10), .ref (q 11), .ref (q 12), .ref (q 13), .ref (q 14), .ref (q 15), .ref (q 16), .ref (q 17), .int (nI 0), .int (nI 0), .ref (q 20), .ref (q 21), .ref (q 22), .ref (q 23), .int (nI ma)])), (q 13, .inl (cI, 500, .inl (ni pl))), (q 14, .inl (cI, 500, .inl (ni pt)))]) (wr := [(q 3, .inl (cI, 200, .inl (ni K))), (q 4, .inl (cI, 200, .inl vI)), (q 5, .inl (cI, 200, .inl fI)), (q 6, .inl (cI, 200, .inl sI)), (q 7, .inl (cI, 200, .inl (ni u))), (q 9, .inl (cZ, 40200, .inl (zb cb))), (q 11, .inl (cI, 20, .inl sv)), (q 15, .inl (cI, 300, .inl (ni tp))), (q 16, .inl (cI, 300, .inl ol)), (q 17, .inl (cZ, 200, .inl (zb se)))]) [0, 8, 9] [1, 2, 3, 4, 5, 6, 7, 10, 11, 12] hK hP hD hS hA rfl rfl (by decide) (by decide) (va_runV (As := [.int (nI ka)]) (rest := []) ⟨hx, hb, hml, hown, ht⟩ (kMod_heap l D cI cZ cJ o q th n b len 0 0 ma pl pt ka (by omega) _) (⟨callB_of 1 ht (TB_in2 gN_Mod_heap) rfl rfl rfl (ht _ mw_6) (ht _ mw_1053) (by decide +kernel) ⟨Nat.le_of_ble_eq_true rfl, Nat.le_of_ble_eq_true rfl⟩, ht _ mw_1055, ht _ ms_44⟩) (vx_preV [0, 8, 9] hK hP hD (by decide) rfl (ci := 11) rfl 0 rfl) rfl rfl hl.1 rfl (lv_room (Nat.le_of_ble_eq_true rfl)) dN_Mod_walk_42 ⟨Nat.le_of_ble_eq_true rfl, Nat.le_of_ble_eq_true rfl⟩) (fun w1 H locs hq hP hD hS => ?_)
    subst hq
    have hP : va_P D clN [(o, .inr (11, [.int (nI th), .int (nI n), .int (nI b), .ref (q 3), .ref (q 4), .ref (q 5), .ref (q 6), .ref (q 7), .int (nI len), .ref (q 9), .ref (q 10), .ref (q 11), .ref (q 12), .ref (q 13), .ref (q 14), .ref (q 15), .ref (q 16), .ref (q 17), .int (nI 0), .int (nI (0 + 1)), .ref (q 20), .ref (q 21), .ref (q 22), .ref (q 23), .int (nI ma)])), (q 3, .inl (cI, 200, .inl (ni K))), (q 4, .inl (cI, 200, .inl vI)), (q 5, .inl (cI, 200, .inl fI)), (q 6, .inl (cI, 200, .inl sI)), (q 7, .inl (cI, 200, .inl (ni u))), (q 9, .inl (cZ, 40200, .inl (zb cb))), (q 11, .inl (cI, 20, .inl sv)), (q 13, .inl (cI, 500, .inl (ni (un pl 0 ka)))), (q 14, .inl (cI, 500, .inl (ni (un pt 0 0)))), (q 15, .inl (cI, 300, .inl (ni tp))), (q 16, .inl (cI, 300, .inl ol)), (q 17, .inl (cZ, 200, .inl (zb se)))] H := hP.sub [10, 0, 1, 2, 3, 4, 5, 6, 11, 12, 7, 8, 9] rfl
    have hD : va_D A [(o, .inr (11, [.int (nI th), .int (nI n), .int (nI b), .ref (q 3), .ref (q 4), .ref (q 5), .ref (q 6), .ref (q 7), .int (nI len), .ref (q 9), .ref (q 10), .ref (q 11), .ref (q 12), .ref (q 13), .ref (q 14), .ref (q 15), .ref (q 16), .ref (q 17), .int (nI 0), .int (nI (0 + 1)), .ref (q 20), .ref (q 21), .ref (q 22), .ref (q 23), .int (nI ma)])), (q 3, .inl (cI, 200, .inl (ni K))), (q 4, .inl (cI, 200, .inl vI)), (q 5, .inl (cI, 200, .inl fI)), (q 6, .inl (cI, 200, .inl sI)), (q 7, .inl (cI, 200, .inl (ni u))), (q 9, .inl (cZ, 40200, .inl (zb cb))), (q 11, .inl (cI, 20, .inl sv)), (q 13, .inl (cI, 500, .inl (ni (un pl 0 ka)))), (q 14, .inl (cI, 500, .inl (ni (un pt 0 0)))), (q 15, .inl (cI, 300, .inl (ni tp))), (q 16, .inl (cI, 300, .inl ol)), (q 17, .inl (cZ, 200, .inl (zb se)))] := hD.sub [10, 0, 1, 2, 3, 4, 5, 6, 11, 12, 7, 8, 9] (by decide) rfl
    refine lv_iconst (v := (nI 0)) hx hb dN_Mod_walk_45 (by decide) ?_
    refine lv_istore (lv' := [(5, .int (nI 0)), (0, .ref o), (1, .int (nI fr)), (2, .int x2), (3, .int (nI p)), (4, .int (nI ka))]) hx hb dN_Mod_walk_46 hl (by decide) rfl (fun ls hl => ?_)
    refine vx_loop (α := (Nat → Bool) × Nat) (fun (a : (Nat → Bool) × Nat) (H : Heap) (locs : List Loc) (ls : Array Slot) => match a with | (se, k) => va_P D clN [(o, .inr (11, [.int (nI th), .int (nI n), .int (nI b), .ref (q 3), .ref (q 4), .ref (q 5), .ref (q 6), .ref (q 7), .int (nI len), .ref (q 9), .ref (q 10), .ref (q 11), .ref (q 12), .ref (q 13), .ref (q 14), .ref (q 15), .ref (q 16), .ref (q 17), .int (nI 0), .int (nI (0 + 1)), .ref (q 20), .ref (q 21), .ref (q 22), .ref (q 23), .int (nI ma)])), (q 3, .inl (cI, 200, .inl (ni K))), (q 4, .inl (cI, 200, .inl vI)), (q 5, .inl (cI, 200, .inl fI)), (q 6, .inl (cI, 200, .inl sI)), (q 7, .inl (cI, 200, .inl (ni u))), (q 9, .inl (cZ, 40200, .inl (zb cb))), (q 11, .inl (cI, 20, .inl sv)), (q 13, .inl (cI, 500, .inl (ni (un pl 0 ka)))), (q 14, .inl (cI, 500, .inl (ni (un pt 0 0)))), (q 15, .inl (cI, 300, .inl (ni tp))), (q 16, .inl (cI, 300, .inl ol)), (q 17, .inl (cZ, 200, .inl (zb se)))] H ∧ va_D A [(o, .inr (11, [.int (nI th), .int (nI n), .int (nI b), .ref (q 3), .ref (q 4), .ref (q 5), .ref (q 6), .ref (q 7), .int (nI len), .ref (q 9), .ref (q 10), .ref (q 11), .ref (q 12), .ref (q 13), .ref (q 14), .ref (q 15), .ref (q 16), .ref (q 17), .int (nI 0), .int (nI (0 + 1)), .ref (q 20), .ref (q 21), .ref (q 22), .ref (q 23), .int (nI ma)])), (q 3, .inl (cI, 200, .inl (ni K))), (q 4, .inl (cI, 200, .inl vI)), (q 5, .inl (cI, 200, .inl fI)), (q 6, .inl (cI, 200, .inl sI)), (q 7, .inl (cI, 200, .inl (ni u))), (q 9, .inl (cZ, 40200, .inl (zb cb))), (q 11, .inl (cI, 20, .inl sv)), (q 13, .inl (cI, 500, .inl (ni (un pl 0 ka)))), (q 14, .inl (cI, 500, .inl (ni (un pt 0 0)))), (q 15, .inl (cI, 300, .inl (ni tp))), (q 16, .inl (cI, 300, .inl ol)), (q 17, .inl (cZ, 200, .inl (zb se)))] ∧ va_S A s.heap H locs ∧ lv_has ls 7 [(0, .ref o), (1, .int (nI fr)), (2, .int x2), (3, .int (nI p)), (4, .int (nI ka)), (5, .int (nI k))] ∧ (k ≤ n ∧ ∀ i, i < k → se i = false)) (fun (a : (Nat → Bool) × Nat) => match a with | (se, k) => n - k) 48 [] ?_ (se, 0) ⟨hP, hD, hS, lv_sub hl [1, 2, 3, 4, 5, 0] rfl, ⟨by omega, fun i h => absurd h (by omega)⟩⟩
    intro a H locs ls hq ih_48_3
    obtain ⟨se, k⟩ := a
    obtain ⟨hP, hD, hS, hl, hI⟩ := hq
    obtain ⟨hkn, hse⟩ := hI
    refine lv_iload hx hb dN_Mod_walk_48 (lv_at hl 5 rfl) ?_
    refine lv_aload_n hx hb dN_Mod_walk_50 rfl (lv_at hl 0 rfl) ?_
    refine va_get (D := D) (ci := 11) (v := .int (nI n)) (C := RN_Mod) (T := FN_Mod) (N := 25) hx hb ht fN_Mod hown hK hP 0 rfl rfl 1 (by decide) (ht _ mw_907) (fun _ h9 => h9) rfl dN_Mod_walk_51 ?_
    refine xn_ge (tgt := 71) hx hb dN_Mod_walk_54 (by decide) (by omega) (by omega) (fun c_54_4 => ?_) (fun c_54_4 => ?_)
    · skip
      obtain ⟨⟨kr, svr⟩, hres⟩ := plN_can (n := n) (sv := sv) (fun i h1 h2 h3 => (hf i h1 h2 (by omega)).2) (fun i h1 h2 h3 => (hs i h1 h2 h3).2) hka hcan
      have hkr : kr < n := plN_lt (fun i h1 h2 h3 => (hf i h1 h2 (by omega)).2) (fun i h1 h2 h3 => (hs i h1 h2 h3).2) _ _ _ _ _ (fun x hx => by rw [List.mem_singleton.mp hx]; exact hka) hres
      refine lv_iconst (v := (zi false)) hx hb dN_Mod_walk_71 (by decide) ?_
      refine lv_istore (lv' := [(5, .int (zi false)), (0, .ref o), (1, .int (nI fr)), (2, .int x2), (3, .int (nI p)), (4, .int (nI ka))]) hx hb dN_Mod_walk_72 hl (by decide) rfl (fun ls hl => ?_)
      refine vx_loop (α := Bool × Nat × Sv × (Nat → Nat) × (Nat → Nat) × (Nat → Nat) × Sv × (Nat → Bool) × Nat × Nat) (fun (a : Bool × Nat × Sv × (Nat → Nat) × (Nat → Nat) × (Nat → Nat) × Sv × (Nat → Bool) × Nat × Nat) (H : Heap) (locs : List Loc) (ls : Array Slot) => match a with | (go, k4, sv1, pl1, pt1, tp1, ol1, se1, tr2, hi2) => va_P D clN [(o, .inr (11, [.int (nI th), .int (nI n), .int (nI b), .ref (q 3), .ref (q 4), .ref (q 5), .ref (q 6), .ref (q 7), .int (nI len), .ref (q 9), .ref (q 10), .ref (q 11), .ref (q 12), .ref (q 13), .ref (q 14), .ref (q 15), .ref (q 16), .ref (q 17), .int (nI tr2), .int (nI hi2), .ref (q 20), .ref (q 21), .ref (q 22), .ref (q 23), .int (nI ma)])), (q 3, .inl (cI, 200, .inl (ni K))), (q 4, .inl (cI, 200, .inl vI)), (q 5, .inl (cI, 200, .inl fI)), (q 6, .inl (cI, 200, .inl sI)), (q 7, .inl (cI, 200, .inl (ni u))), (q 9, .inl (cZ, 40200, .inl (zb cb))), (q 11, .inl (cI, 20, .inl sv1)), (q 13, .inl (cI, 500, .inl (ni pl1))), (q 14, .inl (cI, 500, .inl (ni pt1))), (q 15, .inl (cI, 300, .inl (ni tp1))), (q 16, .inl (cI, 300, .inl ol1)), (q 17, .inl (cZ, 200, .inl (zb se1)))] H ∧ va_D A [(o, .inr (11, [.int (nI th), .int (nI n), .int (nI b), .ref (q 3), .ref (q 4), .ref (q 5), .ref (q 6), .ref (q 7), .int (nI len), .ref (q 9), .ref (q 10), .ref (q 11), .ref (q 12), .ref (q 13), .ref (q 14), .ref (q 15), .ref (q 16), .ref (q 17), .int (nI tr2), .int (nI hi2), .ref (q 20), .ref (q 21), .ref (q 22), .ref (q 23), .int (nI ma)])), (q 3, .inl (cI, 200, .inl (ni K))), (q 4, .inl (cI, 200, .inl vI)), (q 5, .inl (cI, 200, .inl fI)), (q 6, .inl (cI, 200, .inl sI)), (q 7, .inl (cI, 200, .inl (ni u))), (q 9, .inl (cZ, 40200, .inl (zb cb))), (q 11, .inl (cI, 20, .inl sv1)), (q 13, .inl (cI, 500, .inl (ni pl1))), (q 14, .inl (cI, 500, .inl (ni pt1))), (q 15, .inl (cI, 300, .inl (ni tp1))), (q 16, .inl (cI, 300, .inl ol1)), (q 17, .inl (cZ, 200, .inl (zb se1)))] ∧ va_S A s.heap H locs ∧ lv_has ls 7 [(0, .ref o), (1, .int (nI fr)), (2, .int x2), (3, .int (nI p)), (4, .int (nI k4)), (5, .int (zi go))] ∧ ((go = false ∧ k4 = ka ∧ Stk n pl1 pt1 tp1 tr2 hi2 se1 ∧ ∃ m, plN K V F S len u L al p m (absS pl1 pt1 tp1 ol1 tr2 sv1 hi2) se1 = some (kr, svr)) ∨ (go = true ∧ kr ≠ 0 ∧ k4 = F kr ∧ sv1 = svr))) (fun (a : Bool × Nat × Sv × (Nat → Nat) × (Nat → Nat) × (Nat → Nat) × Sv × (Nat → Bool) × Nat × Nat) => match a with | (go, k4, sv1, pl1, pt1, tp1, ol1, se1, tr2, hi2) => if go = true then 0 else 1 + 2 * cnF n se1 + hi2) 74 [] ?_ (false, ka, sv, un pl 0 ka, un pt 0 0, tp, ol, se, 0, 0 + 1) ⟨hP, hD, hS, lv_sub hl [1, 2, 3, 4, 5, 0] rfl, Or.inl ⟨rfl, rfl, Stk_ini hka (fun i hi => hse i (by omega)), 2 * n + 2, by rw [← hres]; refine (plN_congr (n := n) (fun i h1 h2 h3 => (hf i h1 h2 (by omega)).2) (fun i h1 h2 h3 => (hs i h1 h2 h3).2) _ _ _ _ (fun i hi => hse i (by omega)) ?_); intro x hx; rw [List.mem_singleton.mp hx]; exact hka⟩⟩
      intro a H locs ls hq ih_74_5
      obtain ⟨go, k4, sv1, pl1, pt1, tp1, ol1, se1, tr2, hi2⟩ := a
      obtain ⟨hP, hD, hS, hl, hI⟩ := hq
      refine lv_iload hx hb dN_Mod_walk_74 (lv_at hl 5 rfl) ?_
      refine xz_ne0 (tgt := 340) hx hb dN_Mod_walk_76 (by decide) (fun c_76_6 => ?_) (fun c_76_6 => ?_)
      · skip
        obtain ⟨hg, hk0, hk4, hsv1⟩ := hI.resolve_left (fun h => by have h9 := h.1; rw [c_76_6] at h9; cases h9)
        refine lv_iinc (v := (nI (p + 1))) (lv' := [(3, .int (nI (p + 1))), (0, .ref o), (1, .int (nI fr)), (2, .int x2), (4, .int (nI k4)), (5, .int (zi go))]) hx hb dN_Mod_walk_340 hl (k := 3) rfl (nI_1 _) (by decide) rfl (fun ls hl => ?_)
        refine lv_goto (tgt := 29) hx hb dN_Mod_walk_343 (by decide) ?_
        exact ih_29_2 (p + 1, k4, sv1, pl1, pt1, tp1, ol1, se1, tr2, hi2) _ _ _ ⟨hP, hD, hS, lv_sub hl [1, 2, 3, 0, 4] rfl, by have hac := plN_some _ _ _ _ _ hres; rcases hac with ⟨h8, _⟩ | ⟨h8, h9⟩; (exact absurd h8 hk0); (simp only [goB, Bool.and_eq_true, decide_eq_true_eq] at h9; rw [hk4, hsv1]; exact ⟨by omega, by omega, (hf kr (takB_K h8).1 hkr (Or.inl (takB_K h8).2.1)).2, canB_iff.mp h9.2, (gw_go h9.1 hk0 hres).trans hgw⟩)⟩ (show (L + 1 - (p + 1)) < (L + 1 - p) from by have hac := plN_some _ _ _ _ _ hres; rcases hac with ⟨h8, _⟩ | ⟨h8, h9⟩; (exact absurd h8 hk0); (simp only [goB, Bool.and_eq_true, decide_eq_true_eq] at h9; omega))
      · skip
        obtain ⟨hg, hk4, hstk, m0, hm0⟩ := hI.resolve_right (fun h => by have h9 := h.1; rw [c_76_6] at h9; cases h9)
        obtain ⟨h2, rfl⟩ : ∃ h2, hi2 = h2 + 1 := by cases hi2 with | zero => (cases m0 <;> simp [absS, plN] at hm0) | succ h2 => exact ⟨h2, rfl⟩
        obtain ⟨m1, rfl⟩ : ∃ m1, m0 = m1 + 1 := by cases m0 with | zero => (simp [plN] at hm0) | succ m1 => exact ⟨m1, rfl⟩
        have hs1 := hstk.1
        have hs2 := hstk.2.1
        have hs3 := hstk.2.2.1 h2 (by omega)
        refine lv_aload_n hx hb dN_Mod_walk_79 rfl (lv_at hl 0 rfl) ?_
        refine lv_dup hx hb dN_Mod_walk_80 rfl ?_
        refine va_get (D := D) (ci := 11) (v := .int (nI (h2 + 1))) (C := RN_Mod) (T := FN_Mod) (N := 25) hx hb ht fN_Mod hown hK hP 0 rfl rfl 19 (by decide) (ht _ mw_925) (fun _ h9 => h9) rfl dN_Mod_walk_81 ?_
        refine lv_iconst (v := (nI 1)) hx hb dN_Mod_walk_84 (by decide) ?_
        refine xn_sub hx hb dN_Mod_walk_85 (by omega) ?_
        refine xn_top (y := (nI h2)) rfl ?_
        refine va_put (D := D) (ci := 11) (v := .int (nI h2)) (ty := .int) (C := RN_Mod) (T := FN_Mod) (N := 25) hx hb ht fN_Mod tN_Mod oN_Mod nN_Mod hown hK hP hD hS 0 rfl rfl 19 (by decide) (ht _ mw_925) (fun _ h9 => h9) rfl (by decide +kernel) (rfl) (rfl) (Nat.le_of_ble_eq_true rfl) dN_Mod_walk_86 (fun H locs hP hD hS => ?_)
        have hP : va_P D clN [(o, .inr (11, [.int (nI th), .int (nI n), .int (nI b), .ref (q 3), .ref (q 4), .ref (q 5), .ref (q 6), .ref (q 7), .int (nI len), .ref (q 9), .ref (q 10), .ref (q 11), .ref (q 12), .ref (q 13), .ref (q 14), .ref (q 15), .ref (q 16), .ref (q 17), .int (nI tr2), .int (nI h2), .ref (q 20), .ref (q 21), .ref (q 22), .ref (q 23), .int (nI ma)])), (q 3, .inl (cI, 200, .inl (ni K))), (q 4, .inl (cI, 200, .inl vI)), (q 5, .inl (cI, 200, .inl fI)), (q 6, .inl (cI, 200, .inl sI)), (q 7, .inl (cI, 200, .inl (ni u))), (q 9, .inl (cZ, 40200, .inl (zb cb))), (q 11, .inl (cI, 20, .inl sv1)), (q 13, .inl (cI, 500, .inl (ni pl1))), (q 14, .inl (cI, 500, .inl (ni pt1))), (q 15, .inl (cI, 300, .inl (ni tp1))), (q 16, .inl (cI, 300, .inl ol1)), (q 17, .inl (cZ, 200, .inl (zb se1)))] H := hP
        have hD : va_D A [(o, .inr (11, [.int (nI th), .int (nI n), .int (nI b), .ref (q 3), .ref (q 4), .ref (q 5), .ref (q 6), .ref (q 7), .int (nI len), .ref (q 9), .ref (q 10), .ref (q 11), .ref (q 12), .ref (q 13), .ref (q 14), .ref (q 15), .ref (q 16), .ref (q 17), .int (nI tr2), .int (nI h2), .ref (q 20), .ref (q 21), .ref (q 22), .ref (q 23), .int (nI ma)])), (q 3, .inl (cI, 200, .inl (ni K))), (q 4, .inl (cI, 200, .inl vI)), (q 5, .inl (cI, 200, .inl fI)), (q 6, .inl (cI, 200, .inl sI)), (q 7, .inl (cI, 200, .inl (ni u))), (q 9, .inl (cZ, 40200, .inl (zb cb))), (q 11, .inl (cI, 20, .inl sv1)), (q 13, .inl (cI, 500, .inl (ni pl1))), (q 14, .inl (cI, 500, .inl (ni pt1))), (q 15, .inl (cI, 300, .inl (ni tp1))), (q 16, .inl (cI, 300, .inl ol1)), (q 17, .inl (cZ, 200, .inl (zb se1)))] := hD
        refine lv_aload_n hx hb dN_Mod_walk_89 rfl (lv_at hl 0 rfl) ?_
        refine lv_aload_n hx hb dN_Mod_walk_90 rfl (lv_at hl 0 rfl) ?_
        refine va_get (D := D) (ci := 11) (v := .ref (q 14)) (C := RN_Mod) (T := FN_Mod) (N := 25) hx hb ht fN_Mod hown hK hP 0 rfl rfl 14 (by decide) (ht _ mw_920) (fun _ h9 => h9) rfl dN_Mod_walk_91 ?_
        refine lv_aload_n hx hb dN_Mod_walk_94 rfl (lv_at hl 0 rfl) ?_
        refine va_get (D := D) (ci := 11) (v := .int (nI h2)) (C := RN_Mod) (T := FN_Mod) (N := 25) hx hb ht fN_Mod hown hK hP 0 rfl rfl 19 (by decide) (ht _ mw_925) (fun _ h9 => h9) rfl dN_Mod_walk_95 ?_
        refine xn_ald hx hb hK hP 9 0 rfl rfl dN_Mod_walk_98 (by omega) (by omega) ?_
        refine vx_callv (wc := [(o, .inr (11, [.int (nI th), .int (nI n), .int (nI b), .ref (q 3), .ref (q 4), .ref (q 5), .ref (q 6), .ref (q 7), .int (nI len), .ref (q 9), .ref (q 10), .ref (q 11), .ref (q 12), .ref (q 13), .ref (q 14), .ref (q 15), .ref (q 16), .ref (q 17), .int (nI tr2), .int (nI h2), .ref (q 20), .ref (q 21), .ref (q 22), .ref (q 23), .int (nI ma)])), (q 11, .inl (cI, 20, .inl sv1)), (q 15, .inl (cI, 300, .inl (ni tp1))), (q 16, .inl (cI, 300, .inl ol1))]) (wr := [(q 3, .inl (cI, 200, .inl (ni K))), (q 4, .inl (cI, 200, .inl vI)), (q 5, .inl (cI, 200, .inl fI)), (q 6, .inl (cI, 200, .inl sI)), (q 7, .inl (cI, 200, .inl (ni u))), (q 9, .inl (cZ, 40200, .inl (zb cb))), (q 13, .inl (cI, 500, .inl (ni pl1))), (q 14, .inl (cI, 500, .inl (ni pt1))), (q 17, .inl (cZ, 200, .inl (zb se1)))]) [0, 7, 10, 11] [1, 2, 3, 4, 5, 6, 8, 9, 12] hK hP hD hS hA rfl rfl (by decide) (by decide) (va_runV (As := [.int (nI (pt1 h2))]) (rest := []) ⟨hx, hb, hml, hown, ht⟩ (kMod_undo l D cI cZ cJ o q th n b len tr2 h2 ma sv1 tp1 ol1 (pt1 h2) hs3.2 (by omega) hstk.2.2.2.2 _) (⟨callB_of 1 ht (TB_in2 gN_Mod_undo) rfl rfl rfl (ht _ mw_6) (ht _ mw_1057) (by decide +kernel) ⟨Nat.le_of_ble_eq_true rfl, Nat.le_of_ble_eq_true rfl⟩, ht _ mw_1059, ht _ ms_45⟩) (vx_preV [0, 7, 10, 11] hK hP hD (by decide) rfl (ci := 11) rfl 0 rfl) rfl rfl hl.1 rfl (lv_room (Nat.le_of_ble_eq_true rfl)) dN_Mod_walk_99 ⟨Nat.le_of_ble_eq_true rfl, Nat.le_of_ble_eq_true rfl⟩) (fun w1 H locs hq hP hD hS => ?_)
        subst hq
        have hP : va_P D clN [(o, .inr (11, [.int (nI th), .int (nI n), .int (nI b), .ref (q 3), .ref (q 4), .ref (q 5), .ref (q 6), .ref (q 7), .int (nI len), .ref (q 9), .ref (q 10), .ref (q 11), .ref (q 12), .ref (q 13), .ref (q 14), .ref (q 15), .ref (q 16), .ref (q 17), .int (nI (pt1 h2)), .int (nI h2), .ref (q 20), .ref (q 21), .ref (q 22), .ref (q 23), .int (nI ma)])), (q 3, .inl (cI, 200, .inl (ni K))), (q 4, .inl (cI, 200, .inl vI)), (q 5, .inl (cI, 200, .inl fI)), (q 6, .inl (cI, 200, .inl sI)), (q 7, .inl (cI, 200, .inl (ni u))), (q 9, .inl (cZ, 40200, .inl (zb cb))), (q 11, .inl (cI, 20, .inl ((unT tp1 ol1 (pt1 h2) tr2 sv1)))), (q 13, .inl (cI, 500, .inl (ni pl1))), (q 14, .inl (cI, 500, .inl (ni pt1))), (q 15, .inl (cI, 300, .inl (ni tp1))), (q 16, .inl (cI, 300, .inl ol1)), (q 17, .inl (cZ, 200, .inl (zb se1)))] H := hP.sub [9, 0, 1, 2, 3, 4, 5, 10, 6, 7, 11, 12, 8] rfl
        have hD : va_D A [(o, .inr (11, [.int (nI th), .int (nI n), .int (nI b), .ref (q 3), .ref (q 4), .ref (q 5), .ref (q 6), .ref (q 7), .int (nI len), .ref (q 9), .ref (q 10), .ref (q 11), .ref (q 12), .ref (q 13), .ref (q 14), .ref (q 15), .ref (q 16), .ref (q 17), .int (nI (pt1 h2)), .int (nI h2), .ref (q 20), .ref (q 21), .ref (q 22), .ref (q 23), .int (nI ma)])), (q 3, .inl (cI, 200, .inl (ni K))), (q 4, .inl (cI, 200, .inl vI)), (q 5, .inl (cI, 200, .inl fI)), (q 6, .inl (cI, 200, .inl sI)), (q 7, .inl (cI, 200, .inl (ni u))), (q 9, .inl (cZ, 40200, .inl (zb cb))), (q 11, .inl (cI, 20, .inl ((unT tp1 ol1 (pt1 h2) tr2 sv1)))), (q 13, .inl (cI, 500, .inl (ni pl1))), (q 14, .inl (cI, 500, .inl (ni pt1))), (q 15, .inl (cI, 300, .inl (ni tp1))), (q 16, .inl (cI, 300, .inl ol1)), (q 17, .inl (cZ, 200, .inl (zb se1)))] := hD.sub [9, 0, 1, 2, 3, 4, 5, 10, 6, 7, 11, 12, 8] (by decide) rfl
        refine lv_aload_n hx hb dN_Mod_walk_102 rfl (lv_at hl 0 rfl) ?_
        refine va_get (D := D) (ci := 11) (v := .ref (q 13)) (C := RN_Mod) (T := FN_Mod) (N := 25) hx hb ht fN_Mod hown hK hP 0 rfl rfl 13 (by decide) (ht _ mw_919) (fun _ h9 => h9) rfl dN_Mod_walk_103 ?_
        refine lv_aload_n hx hb dN_Mod_walk_106 rfl (lv_at hl 0 rfl) ?_
        refine va_get (D := D) (ci := 11) (v := .int (nI h2)) (C := RN_Mod) (T := FN_Mod) (N := 25) hx hb ht fN_Mod hown hK hP 0 rfl rfl 19 (by decide) (ht _ mw_925) (fun _ h9 => h9) rfl dN_Mod_walk_107 ?_
        refine xn_ald hx hb hK hP 8 0 rfl rfl dN_Mod_walk_110 (by omega) (by omega) ?_
        refine xn_name (fun k6 ek6 => ?_)
        refine lv_istore (lv' := [(6, .int (nI k6)), (0, .ref o), (1, .int (nI fr)), (2, .int x2), (3, .int (nI p)), (4, .int (nI k4)), (5, .int (zi go))]) hx hb dN_Mod_walk_111 hl (by decide) rfl (fun ls hl => ?_)
        have hk6 : k6 < n := by rw [ek6]; exact hs3.1
        rw [absS, plN, ← ek6, absS_pop hstk] at hm0
        have hsp := Stk_pop hstk
        have hpt : ∀ i, i < h2 → pt1 i ≤ pt1 h2 := fun i hi => (hsp.2.2.1 i hi).2
        refine lv_aload_n hx hb dN_Mod_walk_113 rfl (lv_at hl 1 rfl) ?_
        refine va_get (D := D) (ci := 11) (v := .ref (q 17)) (C := RN_Mod) (T := FN_Mod) (N := 25) hx hb ht fN_Mod hown hK hP 0 rfl rfl 17 (by decide) (ht _ mw_923) (fun _ h9 => h9) rfl dN_Mod_walk_114 ?_
        refine lv_iload hx hb dN_Mod_walk_117 (lv_at hl 0 rfl) ?_
        refine xz_ald hx hb hK hP 12 1 rfl rfl dN_Mod_walk_119 (by omega) (by omega) ?_
        refine xz_eq0 (tgt := 126) hx hb dN_Mod_walk_120 (by decide) (fun c_120_7 => ?_) (fun c_120_7 => ?_)
        · skip
          refine lv_aload_n hx hb dN_Mod_walk_126 rfl (lv_at hl 1 rfl) ?_
          refine va_get (D := D) (ci := 11) (v := .ref (q 17)) (C := RN_Mod) (T := FN_Mod) (N := 25) hx hb ht fN_Mod hown hK hP 0 rfl rfl 17 (by decide) (ht _ mw_923) (fun _ h9 => h9) rfl dN_Mod_walk_127 ?_
          refine lv_iload hx hb dN_Mod_walk_130 (lv_at hl 0 rfl) ?_
          refine lv_iconst (v := (zi true)) hx hb dN_Mod_walk_132 (by decide) ?_
          refine xz_ast hx hb hK hP hD hS 12 1 rfl rfl dN_Mod_walk_133 (by omega) (by omega) (fun H locs hP hD hS => ?_)
          have hP : va_P D clN [(o, .inr (11, [.int (nI th), .int (nI n), .int (nI b), .ref (q 3), .ref (q 4), .ref (q 5), .ref (q 6), .ref (q 7), .int (nI len), .ref (q 9), .ref (q 10), .ref (q 11), .ref (q 12), .ref (q 13), .ref (q 14), .ref (q 15), .ref (q 16), .ref (q 17), .int (nI (pt1 h2)), .int (nI h2), .ref (q 20), .ref (q 21), .ref (q 22), .ref (q 23), .int (nI ma)])), (q 3, .inl (cI, 200, .inl (ni K))), (q 4, .inl (cI, 200, .inl vI)), (q 5, .inl (cI, 200, .inl fI)), (q 6, .inl (cI, 200, .inl sI)), (q 7, .inl (cI, 200, .inl (ni u))), (q 9, .inl (cZ, 40200, .inl (zb cb))), (q 11, .inl (cI, 20, .inl ((unT tp1 ol1 (pt1 h2) tr2 sv1)))), (q 13, .inl (cI, 500, .inl (ni pl1))), (q 14, .inl (cI, 500, .inl (ni pt1))), (q 15, .inl (cI, 300, .inl (ni tp1))), (q 16, .inl (cI, 300, .inl ol1)), (q 17, .inl (cZ, 200, .inl (zb (ub se1 k6 true))))] H := hP
          have hD : va_D A [(o, .inr (11, [.int (nI th), .int (nI n), .int (nI b), .ref (q 3), .ref (q 4), .ref (q 5), .ref (q 6), .ref (q 7), .int (nI len), .ref (q 9), .ref (q 10), .ref (q 11), .ref (q 12), .ref (q 13), .ref (q 14), .ref (q 15), .ref (q 16), .ref (q 17), .int (nI (pt1 h2)), .int (nI h2), .ref (q 20), .ref (q 21), .ref (q 22), .ref (q 23), .int (nI ma)])), (q 3, .inl (cI, 200, .inl (ni K))), (q 4, .inl (cI, 200, .inl vI)), (q 5, .inl (cI, 200, .inl fI)), (q 6, .inl (cI, 200, .inl sI)), (q 7, .inl (cI, 200, .inl (ni u))), (q 9, .inl (cZ, 40200, .inl (zb cb))), (q 11, .inl (cI, 20, .inl ((unT tp1 ol1 (pt1 h2) tr2 sv1)))), (q 13, .inl (cI, 500, .inl (ni pl1))), (q 14, .inl (cI, 500, .inl (ni pt1))), (q 15, .inl (cI, 300, .inl (ni tp1))), (q 16, .inl (cI, 300, .inl ol1)), (q 17, .inl (cZ, 200, .inl (zb (ub se1 k6 true))))] := hD
          refine lv_iload hx hb dN_Mod_walk_134 (lv_at hl 0 rfl) ?_
          refine xn_ne0 (tgt := 150) hx hb dN_Mod_walk_136 (by decide) (by omega) (fun c_136_8 => ?_) (fun c_136_8 => ?_)
          · skip
            refine lv_aload_n hx hb dN_Mod_walk_150 rfl (lv_at hl 1 rfl) ?_
            refine lv_iload hx hb dN_Mod_walk_151 (lv_at hl 0 rfl) ?_
            refine lv_iload_n hx hb dN_Mod_walk_153 rfl (lv_at hl 4 rfl) ?_
            refine vx_calli (wc := [(o, .inr (11, [.int (nI th), .int (nI n), .int (nI b), .ref (q 3), .ref (q 4), .ref (q 5), .ref (q 6), .ref (q 7), .int (nI len), .ref (q 9), .ref (q 10), .ref (q 11), .ref (q 12), .ref (q 13), .ref (q 14), .ref (q 15), .ref (q 16), .ref (q 17), .int (nI (pt1 h2)), .int (nI h2), .ref (q 20), .ref (q 21), .ref (q 22), .ref (q 23), .int (nI ma)])), (q 3, .inl (cI, 200, .inl (ni K))), (q 4, .inl (cI, 200, .inl vI)), (q 7, .inl (cI, 200, .inl (ni u)))]) (wr := [(q 5, .inl (cI, 200, .inl fI)), (q 6, .inl (cI, 200, .inl sI)), (q 9, .inl (cZ, 40200, .inl (zb cb))), (q 11, .inl (cI, 20, .inl ((unT tp1 ol1 (pt1 h2) tr2 sv1)))), (q 13, .inl (cI, 500, .inl (ni pl1))), (q 14, .inl (cI, 500, .inl (ni pt1))), (q 15, .inl (cI, 300, .inl (ni tp1))), (q 16, .inl (cI, 300, .inl ol1)), (q 17, .inl (cZ, 200, .inl (zb (ub se1 k6 true))))]) [0, 1, 2, 5] [3, 4, 6, 7, 8, 9, 10, 11, 12] hK hP hD hS hA rfl rfl (by decide) (by decide) (va_runV (As := [.int (nI k6), .int (nI p)]) (rest := []) ⟨hx, hb, hml, hown, ht⟩ (kMod_takes l D cI cZ cJ o q th n b len (pt1 h2) h2 ma K V u vI k6 p hn hle hk6 (by omega) hu hK5 hv hvb _) (⟨callB_of 2 ht (TB_in2 gN_Mod_takes) rfl rfl rfl (ht _ mw_6) (ht _ mw_1029) (by decide +kernel) ⟨Nat.le_of_ble_eq_true rfl, Nat.le_of_ble_eq_true rfl⟩, ht _ mw_1031, ht _ ms_38⟩) (vx_preV [0, 1, 2, 5] hK hP hD (by decide) rfl (ci := 11) rfl 0 rfl) rfl rfl hl.1 rfl (lv_room (Nat.le_of_ble_eq_true rfl)) dN_Mod_walk_154 ⟨Nat.le_of_ble_eq_true rfl, Nat.le_of_ble_eq_true rfl⟩) (fun r1 w1 H locs hq hP hD hS => ?_)
            obtain ⟨rfl, rfl⟩ := hq
            have hP : va_P D clN [(o, .inr (11, [.int (nI th), .int (nI n), .int (nI b), .ref (q 3), .ref (q 4), .ref (q 5), .ref (q 6), .ref (q 7), .int (nI len), .ref (q 9), .ref (q 10), .ref (q 11), .ref (q 12), .ref (q 13), .ref (q 14), .ref (q 15), .ref (q 16), .ref (q 17), .int (nI (pt1 h2)), .int (nI h2), .ref (q 20), .ref (q 21), .ref (q 22), .ref (q 23), .int (nI ma)])), (q 3, .inl (cI, 200, .inl (ni K))), (q 4, .inl (cI, 200, .inl vI)), (q 5, .inl (cI, 200, .inl fI)), (q 6, .inl (cI, 200, .inl sI)), (q 7, .inl (cI, 200, .inl (ni u))), (q 9, .inl (cZ, 40200, .inl (zb cb))), (q 11, .inl (cI, 20, .inl ((unT tp1 ol1 (pt1 h2) tr2 sv1)))), (q 13, .inl (cI, 500, .inl (ni pl1))), (q 14, .inl (cI, 500, .inl (ni pt1))), (q 15, .inl (cI, 300, .inl (ni tp1))), (q 16, .inl (cI, 300, .inl ol1)), (q 17, .inl (cZ, 200, .inl (zb (ub se1 k6 true))))] H := hP.sub [9, 10, 11, 0, 1, 12, 2, 3, 4, 5, 6, 7, 8] rfl
            have hD : va_D A [(o, .inr (11, [.int (nI th), .int (nI n), .int (nI b), .ref (q 3), .ref (q 4), .ref (q 5), .ref (q 6), .ref (q 7), .int (nI len), .ref (q 9), .ref (q 10), .ref (q 11), .ref (q 12), .ref (q 13), .ref (q 14), .ref (q 15), .ref (q 16), .ref (q 17), .int (nI (pt1 h2)), .int (nI h2), .ref (q 20), .ref (q 21), .ref (q 22), .ref (q 23), .int (nI ma)])), (q 3, .inl (cI, 200, .inl (ni K))), (q 4, .inl (cI, 200, .inl vI)), (q 5, .inl (cI, 200, .inl fI)), (q 6, .inl (cI, 200, .inl sI)), (q 7, .inl (cI, 200, .inl (ni u))), (q 9, .inl (cZ, 40200, .inl (zb cb))), (q 11, .inl (cI, 20, .inl ((unT tp1 ol1 (pt1 h2) tr2 sv1)))), (q 13, .inl (cI, 500, .inl (ni pl1))), (q 14, .inl (cI, 500, .inl (ni pt1))), (q 15, .inl (cI, 300, .inl (ni tp1))), (q 16, .inl (cI, 300, .inl ol1)), (q 17, .inl (cZ, 200, .inl (zb (ub se1 k6 true))))] := hD.sub [9, 10, 11, 0, 1, 12, 2, 3, 4, 5, 6, 7, 8] (by decide) rfl
            refine xz_eq0 (tgt := 223) hx hb dN_Mod_walk_157 (by decide) (fun c_157_9 => ?_) (fun c_157_9 => ?_)
            · skip
              refine lv_aload_n hx hb dN_Mod_walk_223 rfl (lv_at hl 1 rfl) ?_
              refine lv_iload hx hb dN_Mod_walk_224 (lv_at hl 0 rfl) ?_
              refine lv_iload_n hx hb dN_Mod_walk_226 rfl (lv_at hl 4 rfl) ?_
              refine vx_calli (wc := [(o, .inr (11, [.int (nI th), .int (nI n), .int (nI b), .ref (q 3), .ref (q 4), .ref (q 5), .ref (q 6), .ref (q 7), .int (nI len), .ref (q 9), .ref (q 10), .ref (q 11), .ref (q 12), .ref (q 13), .ref (q 14), .ref (q 15), .ref (q 16), .ref (q 17), .int (nI (pt1 h2)), .int (nI h2), .ref (q 20), .ref (q 21), .ref (q 22), .ref (q 23), .int (nI ma)])), (q 3, .inl (cI, 200, .inl (ni K))), (q 4, .inl (cI, 200, .inl vI)), (q 7, .inl (cI, 200, .inl (ni u)))]) (wr := [(q 5, .inl (cI, 200, .inl fI)), (q 6, .inl (cI, 200, .inl sI)), (q 9, .inl (cZ, 40200, .inl (zb cb))), (q 11, .inl (cI, 20, .inl ((unT tp1 ol1 (pt1 h2) tr2 sv1)))), (q 13, .inl (cI, 500, .inl (ni pl1))), (q 14, .inl (cI, 500, .inl (ni pt1))), (q 15, .inl (cI, 300, .inl (ni tp1))), (q 16, .inl (cI, 300, .inl ol1)), (q 17, .inl (cZ, 200, .inl (zb (ub se1 k6 true))))]) [0, 1, 2, 5] [3, 4, 6, 7, 8, 9, 10, 11, 12] hK hP hD hS hA rfl rfl (by decide) (by decide) (va_runV (As := [.int (nI k6), .int (nI p)]) (rest := []) ⟨hx, hb, hml, hown, ht⟩ (kMod_passes l D cI cZ cJ o q th n b len (pt1 h2) h2 ma K V u vI k6 p hn hle hk6 (by omega) hu hK5 hv hvb hv4 _) (⟨callB_of 2 ht (TB_in2 gN_Mod_passes) rfl rfl rfl (ht _ mw_6) (ht _ mw_1033) (by decide +kernel) ⟨Nat.le_of_ble_eq_true rfl, Nat.le_of_ble_eq_true rfl⟩, ht _ mw_1035, ht _ ms_39⟩) (vx_preV [0, 1, 2, 5] hK hP hD (by decide) rfl (ci := 11) rfl 0 rfl) rfl rfl hl.1 rfl (lv_room (Nat.le_of_ble_eq_true rfl)) dN_Mod_walk_227 ⟨Nat.le_of_ble_eq_true rfl, Nat.le_of_ble_eq_true rfl⟩) (fun r1 w1 H locs hq hP hD hS => ?_)
              obtain ⟨rfl, rfl⟩ := hq
              have hP : va_P D clN [(o, .inr (11, [.int (nI th), .int (nI n), .int (nI b), .ref (q 3), .ref (q 4), .ref (q 5), .ref (q 6), .ref (q 7), .int (nI len), .ref (q 9), .ref (q 10), .ref (q 11), .ref (q 12), .ref (q 13), .ref (q 14), .ref (q 15), .ref (q 16), .ref (q 17), .int (nI (pt1 h2)), .int (nI h2), .ref (q 20), .ref (q 21), .ref (q 22), .ref (q 23), .int (nI ma)])), (q 3, .inl (cI, 200, .inl (ni K))), (q 4, .inl (cI, 200, .inl vI)), (q 5, .inl (cI, 200, .inl fI)), (q 6, .inl (cI, 200, .inl sI)), (q 7, .inl (cI, 200, .inl (ni u))), (q 9, .inl (cZ, 40200, .inl (zb cb))), (q 11, .inl (cI, 20, .inl ((unT tp1 ol1 (pt1 h2) tr2 sv1)))), (q 13, .inl (cI, 500, .inl (ni pl1))), (q 14, .inl (cI, 500, .inl (ni pt1))), (q 15, .inl (cI, 300, .inl (ni tp1))), (q 16, .inl (cI, 300, .inl ol1)), (q 17, .inl (cZ, 200, .inl (zb (ub se1 k6 true))))] H := hP.sub [9, 10, 11, 0, 1, 12, 2, 3, 4, 5, 6, 7, 8] rfl
              have hD : va_D A [(o, .inr (11, [.int (nI th), .int (nI n), .int (nI b), .ref (q 3), .ref (q 4), .ref (q 5), .ref (q 6), .ref (q 7), .int (nI len), .ref (q 9), .ref (q 10), .ref (q 11), .ref (q 12), .ref (q 13), .ref (q 14), .ref (q 15), .ref (q 16), .ref (q 17), .int (nI (pt1 h2)), .int (nI h2), .ref (q 20), .ref (q 21), .ref (q 22), .ref (q 23), .int (nI ma)])), (q 3, .inl (cI, 200, .inl (ni K))), (q 4, .inl (cI, 200, .inl vI)), (q 5, .inl (cI, 200, .inl fI)), (q 6, .inl (cI, 200, .inl sI)), (q 7, .inl (cI, 200, .inl (ni u))), (q 9, .inl (cZ, 40200, .inl (zb cb))), (q 11, .inl (cI, 20, .inl ((unT tp1 ol1 (pt1 h2) tr2 sv1)))), (q 13, .inl (cI, 500, .inl (ni pl1))), (q 14, .inl (cI, 500, .inl (ni pt1))), (q 15, .inl (cI, 300, .inl (ni tp1))), (q 16, .inl (cI, 300, .inl ol1)), (q 17, .inl (cZ, 200, .inl (zb (ub se1 k6 true))))] := hD.sub [9, 10, 11, 0, 1, 12, 2, 3, 4, 5, 6, 7, 8] (by decide) rfl
              refine xz_eq0 (tgt := 337) hx hb dN_Mod_walk_230 (by decide) (fun c_230_10 => ?_) (fun c_230_10 => ?_)
              · skip
                refine lv_goto (tgt := 74) hx hb dN_Mod_walk_337 (by decide) ?_
                exact ih_74_5 (go, k4, unT tp1 ol1 (pt1 h2) tr2 sv1, pl1, pt1, tp1, ol1, ub se1 k6 true, pt1 h2, h2) _ _ _ ⟨hP, hD, hS, lv_sub hl [1, 2, 3, 4, 5, 6] rfl, Or.inl ⟨hg, hk4, Stk_see hsp hk6 c_120_7, m1, by rw [if_neg (show ¬ se1 k6 = true by rw [c_120_7]; decide), if_neg (show ¬ k6 = 0 from c_136_8), if_neg (show ¬ takB K V len u k6 p = true by rw [c_157_9]; decide), if_neg (show ¬ pasB K V len u k6 p = true by rw [c_230_10]; decide)] at hm0; exact hm0⟩⟩ (show (if go = true then 0 else 1 + 2 * cnF n (ub se1 k6 true) + h2) < (if go = true then 0 else 1 + 2 * cnF n se1 + (h2 + 1)) from by rw [if_neg (by rw [c_76_6]; decide), if_neg (by rw [c_76_6]; decide)]; have h9 := cnF_ub hk6 c_120_7; omega)
              · skip
                refine lv_aload_n hx hb dN_Mod_walk_233 rfl (lv_at hl 1 rfl) ?_
                refine va_get (D := D) (ci := 11) (v := .ref (q 3)) (C := RN_Mod) (T := FN_Mod) (N := 25) hx hb ht fN_Mod hown hK hP 0 rfl rfl 3 (by decide) (ht _ mw_909) (fun _ h9 => h9) rfl dN_Mod_walk_234 ?_
                refine lv_iload hx hb dN_Mod_walk_237 (lv_at hl 0 rfl) ?_
                refine xn_ald hx hb hK hP 1 0 rfl rfl dN_Mod_walk_239 (by omega) (by omega) ?_
                refine lv_iconst (v := (nI 3)) hx hb dN_Mod_walk_240 (by decide) ?_
                refine xn_ne (tgt := 304) hx hb dN_Mod_walk_241 (by decide) (by have := hK5 k6; omega) (by omega) (fun c_241_11 => ?_) (fun c_241_11 => ?_)
                · skip
                  refine lv_aload_n hx hb dN_Mod_walk_304 rfl (lv_at hl 1 rfl) ?_
                  refine va_get (D := D) (ci := 11) (v := .ref (q 3)) (C := RN_Mod) (T := FN_Mod) (N := 25) hx hb ht fN_Mod hown hK hP 0 rfl rfl 3 (by decide) (ht _ mw_909) (fun _ h9 => h9) rfl dN_Mod_walk_305 ?_
                  refine lv_iload hx hb dN_Mod_walk_308 (lv_at hl 0 rfl) ?_
                  refine xn_ald hx hb hK hP 1 0 rfl rfl dN_Mod_walk_310 (by omega) (by omega) ?_
                  refine lv_iconst (v := (nI 2)) hx hb dN_Mod_walk_311 (by decide) ?_
                  refine xn_ne (tgt := 326) hx hb dN_Mod_walk_312 (by decide) (by have := hK5 k6; omega) (by omega) (fun c_312_12 => ?_) (fun c_312_12 => ?_)
                  · skip
                    refine lv_aload_n hx hb dN_Mod_walk_326 rfl (lv_at hl 1 rfl) ?_
                    refine lv_aload_n hx hb dN_Mod_walk_327 rfl (lv_at hl 1 rfl) ?_
                    refine va_get (D := D) (ci := 11) (v := .ref (q 5)) (C := RN_Mod) (T := FN_Mod) (N := 25) hx hb ht fN_Mod hown hK hP 0 rfl rfl 5 (by decide) (ht _ mw_911) (fun _ h9 => h9) rfl dN_Mod_walk_328 ?_
                    refine lv_iload hx hb dN_Mod_walk_331 (lv_at hl 0 rfl) ?_
                    refine xi_ald hx hb hK hP 3 0 rfl rfl dN_Mod_walk_333 (by omega) (by omega) ?_
                    refine xn_top (y := (nI (F k6))) (hf k6 (by omega) hk6 (by have := (pasB_K c_230_10).2; omega)).1 ?_
                    refine vx_callv (wc := [(o, .inr (11, [.int (nI th), .int (nI n), .int (nI b), .ref (q 3), .ref (q 4), .ref (q 5), .ref (q 6), .ref (q 7), .int (nI len), .ref (q 9), .ref (q 10), .ref (q 11), .ref (q 12), .ref (q 13), .ref (q 14), .ref (q 15), .ref (q 16), .ref (q 17), .int (nI (pt1 h2)), .int (nI h2), .ref (q 20), .ref (q 21), .ref (q 22), .ref (q 23), .int (nI ma)])), (q 13, .inl (cI, 500, .inl (ni pl1))), (q 14, .inl (cI, 500, .inl (ni pt1)))]) (wr := [(q 3, .inl (cI, 200, .inl (ni K))), (q 4, .inl (cI, 200, .inl vI)), (q 5, .inl (cI, 200, .inl fI)), (q 6, .inl (cI, 200, .inl sI)), (q 7, .inl (cI, 200, .inl (ni u))), (q 9, .inl (cZ, 40200, .inl (zb cb))), (q 11, .inl (cI, 20, .inl ((unT tp1 ol1 (pt1 h2) tr2 sv1)))), (q 15, .inl (cI, 300, .inl (ni tp1))), (q 16, .inl (cI, 300, .inl ol1)), (q 17, .inl (cZ, 200, .inl (zb (ub se1 k6 true))))]) [0, 8, 9] [1, 2, 3, 4, 5, 6, 7, 10, 11, 12] hK hP hD hS hA rfl rfl (by decide) (by decide) (va_runV (As := [.int (nI (F k6))]) (rest := []) ⟨hx, hb, hml, hown, ht⟩ (kMod_heap l D cI cZ cJ o q th n b len (pt1 h2) h2 ma pl1 pt1 (F k6) (by omega) _) (⟨callB_of 1 ht (TB_in2 gN_Mod_heap) rfl rfl rfl (ht _ mw_6) (ht _ mw_1053) (by decide +kernel) ⟨Nat.le_of_ble_eq_true rfl, Nat.le_of_ble_eq_true rfl⟩, ht _ mw_1055, ht _ ms_44⟩) (vx_preV [0, 8, 9] hK hP hD (by decide) rfl (ci := 11) rfl 0 rfl) rfl rfl hl.1 rfl (lv_room (Nat.le_of_ble_eq_true rfl)) dN_Mod_walk_334 ⟨Nat.le_of_ble_eq_true rfl, Nat.le_of_ble_eq_true rfl⟩) (fun w1 H locs hq hP hD hS => ?_)
                    subst hq
                    have hP : va_P D clN [(o, .inr (11, [.int (nI th), .int (nI n), .int (nI b), .ref (q 3), .ref (q 4), .ref (q 5), .ref (q 6), .ref (q 7), .int (nI len), .ref (q 9), .ref (q 10), .ref (q 11), .ref (q 12), .ref (q 13), .ref (q 14), .ref (q 15), .ref (q 16), .ref (q 17), .int (nI (pt1 h2)), .int (nI (h2 + 1)), .ref (q 20), .ref (q 21), .ref (q 22), .ref (q 23), .int (nI ma)])), (q 3, .inl (cI, 200, .inl (ni K))), (q 4, .inl (cI, 200, .inl vI)), (q 5, .inl (cI, 200, .inl fI)), (q 6, .inl (cI, 200, .inl sI)), (q 7, .inl (cI, 200, .inl (ni u))), (q 9, .inl (cZ, 40200, .inl (zb cb))), (q 11, .inl (cI, 20, .inl ((unT tp1 ol1 (pt1 h2) tr2 sv1)))), (q 13, .inl (cI, 500, .inl (ni (un pl1 h2 (F k6))))), (q 14, .inl (cI, 500, .inl (ni (un pt1 h2 (pt1 h2))))), (q 15, .inl (cI, 300, .inl (ni tp1))), (q 16, .inl (cI, 300, .inl ol1)), (q 17, .inl (cZ, 200, .inl (zb (ub se1 k6 true))))] H := hP.sub [10, 0, 1, 2, 3, 4, 5, 6, 11, 12, 7, 8, 9] rfl
                    have hD : va_D A [(o, .inr (11, [.int (nI th), .int (nI n), .int (nI b), .ref (q 3), .ref (q 4), .ref (q 5), .ref (q 6), .ref (q 7), .int (nI len), .ref (q 9), .ref (q 10), .ref (q 11), .ref (q 12), .ref (q 13), .ref (q 14), .ref (q 15), .ref (q 16), .ref (q 17), .int (nI (pt1 h2)), .int (nI (h2 + 1)), .ref (q 20), .ref (q 21), .ref (q 22), .ref (q 23), .int (nI ma)])), (q 3, .inl (cI, 200, .inl (ni K))), (q 4, .inl (cI, 200, .inl vI)), (q 5, .inl (cI, 200, .inl fI)), (q 6, .inl (cI, 200, .inl sI)), (q 7, .inl (cI, 200, .inl (ni u))), (q 9, .inl (cZ, 40200, .inl (zb cb))), (q 11, .inl (cI, 20, .inl ((unT tp1 ol1 (pt1 h2) tr2 sv1)))), (q 13, .inl (cI, 500, .inl (ni (un pl1 h2 (F k6))))), (q 14, .inl (cI, 500, .inl (ni (un pt1 h2 (pt1 h2))))), (q 15, .inl (cI, 300, .inl (ni tp1))), (q 16, .inl (cI, 300, .inl ol1)), (q 17, .inl (cZ, 200, .inl (zb (ub se1 k6 true))))] := hD.sub [10, 0, 1, 2, 3, 4, 5, 6, 11, 12, 7, 8, 9] (by decide) rfl
                    refine lv_goto (tgt := 74) hx hb dN_Mod_walk_337 (by decide) ?_
                    exact ih_74_5 (go, k4, unT tp1 ol1 (pt1 h2) tr2 sv1, un pl1 h2 (F k6), un pt1 h2 (pt1 h2), tp1, ol1, ub se1 k6 true, pt1 h2, h2 + 1) _ _ _ ⟨hP, hD, hS, lv_sub hl [1, 2, 3, 4, 5, 6] rfl, Or.inl ⟨hg, hk4, Stk_one hsp (hf k6 (by omega) hk6 (by have := (pasB_K c_230_10).2; omega)).2 (cnF_ub hk6 c_120_7), m1, by rw [if_neg (show ¬ se1 k6 = true by rw [c_120_7]; decide), if_neg (show ¬ k6 = 0 from c_136_8), if_neg (show ¬ takB K V len u k6 p = true by rw [c_157_9]; decide), if_pos c_230_10, psh, svk, if_neg (show ¬ K k6 = 3 from c_241_11), if_neg (show ¬ K k6 = 2 from c_312_12)] at hm0; rw [abs_one hpt]; exact hm0⟩⟩ (show (if go = true then 0 else 1 + 2 * cnF n (ub se1 k6 true) + (h2 + 1)) < (if go = true then 0 else 1 + 2 * cnF n se1 + (h2 + 1)) from by rw [if_neg (by rw [c_76_6]; decide), if_neg (by rw [c_76_6]; decide)]; have h9 := cnF_ub hk6 c_120_7; omega)
                  · skip
                    refine lv_aload_n hx hb dN_Mod_walk_315 rfl (lv_at hl 1 rfl) ?_
                    refine lv_aload_n hx hb dN_Mod_walk_316 rfl (lv_at hl 1 rfl) ?_
                    refine va_get (D := D) (ci := 11) (v := .ref (q 6)) (C := RN_Mod) (T := FN_Mod) (N := 25) hx hb ht fN_Mod hown hK hP 0 rfl rfl 6 (by decide) (ht _ mw_912) (fun _ h9 => h9) rfl dN_Mod_walk_317 ?_
                    refine lv_iload hx hb dN_Mod_walk_320 (lv_at hl 0 rfl) ?_
                    refine xi_ald hx hb hK hP 4 0 rfl rfl dN_Mod_walk_322 (by omega) (by omega) ?_
                    refine xn_top (y := (nI (S k6))) (hs k6 (by omega) hk6 c_312_12).1 ?_
                    refine vx_callv (wc := [(o, .inr (11, [.int (nI th), .int (nI n), .int (nI b), .ref (q 3), .ref (q 4), .ref (q 5), .ref (q 6), .ref (q 7), .int (nI len), .ref (q 9), .ref (q 10), .ref (q 11), .ref (q 12), .ref (q 13), .ref (q 14), .ref (q 15), .ref (q 16), .ref (q 17), .int (nI (pt1 h2)), .int (nI h2), .ref (q 20), .ref (q 21), .ref (q 22), .ref (q 23), .int (nI ma)])), (q 13, .inl (cI, 500, .inl (ni pl1))), (q 14, .inl (cI, 500, .inl (ni pt1)))]) (wr := [(q 3, .inl (cI, 200, .inl (ni K))), (q 4, .inl (cI, 200, .inl vI)), (q 5, .inl (cI, 200, .inl fI)), (q 6, .inl (cI, 200, .inl sI)), (q 7, .inl (cI, 200, .inl (ni u))), (q 9, .inl (cZ, 40200, .inl (zb cb))), (q 11, .inl (cI, 20, .inl ((unT tp1 ol1 (pt1 h2) tr2 sv1)))), (q 15, .inl (cI, 300, .inl (ni tp1))), (q 16, .inl (cI, 300, .inl ol1)), (q 17, .inl (cZ, 200, .inl (zb (ub se1 k6 true))))]) [0, 8, 9] [1, 2, 3, 4, 5, 6, 7, 10, 11, 12] hK hP hD hS hA rfl rfl (by decide) (by decide) (va_runV (As := [.int (nI (S k6))]) (rest := []) ⟨hx, hb, hml, hown, ht⟩ (kMod_heap l D cI cZ cJ o q th n b len (pt1 h2) h2 ma pl1 pt1 (S k6) (by omega) _) (⟨callB_of 1 ht (TB_in2 gN_Mod_heap) rfl rfl rfl (ht _ mw_6) (ht _ mw_1053) (by decide +kernel) ⟨Nat.le_of_ble_eq_true rfl, Nat.le_of_ble_eq_true rfl⟩, ht _ mw_1055, ht _ ms_44⟩) (vx_preV [0, 8, 9] hK hP hD (by decide) rfl (ci := 11) rfl 0 rfl) rfl rfl hl.1 rfl (lv_room (Nat.le_of_ble_eq_true rfl)) dN_Mod_walk_323 ⟨Nat.le_of_ble_eq_true rfl, Nat.le_of_ble_eq_true rfl⟩) (fun w1 H locs hq hP hD hS => ?_)
                    subst hq
                    have hP : va_P D clN [(o, .inr (11, [.int (nI th), .int (nI n), .int (nI b), .ref (q 3), .ref (q 4), .ref (q 5), .ref (q 6), .ref (q 7), .int (nI len), .ref (q 9), .ref (q 10), .ref (q 11), .ref (q 12), .ref (q 13), .ref (q 14), .ref (q 15), .ref (q 16), .ref (q 17), .int (nI (pt1 h2)), .int (nI (h2 + 1)), .ref (q 20), .ref (q 21), .ref (q 22), .ref (q 23), .int (nI ma)])), (q 3, .inl (cI, 200, .inl (ni K))), (q 4, .inl (cI, 200, .inl vI)), (q 5, .inl (cI, 200, .inl fI)), (q 6, .inl (cI, 200, .inl sI)), (q 7, .inl (cI, 200, .inl (ni u))), (q 9, .inl (cZ, 40200, .inl (zb cb))), (q 11, .inl (cI, 20, .inl ((unT tp1 ol1 (pt1 h2) tr2 sv1)))), (q 13, .inl (cI, 500, .inl (ni (un pl1 h2 (S k6))))), (q 14, .inl (cI, 500, .inl (ni (un pt1 h2 (pt1 h2))))), (q 15, .inl (cI, 300, .inl (ni tp1))), (q 16, .inl (cI, 300, .inl ol1)), (q 17, .inl (cZ, 200, .inl (zb (ub se1 k6 true))))] H := hP.sub [10, 0, 1, 2, 3, 4, 5, 6, 11, 12, 7, 8, 9] rfl
                    have hD : va_D A [(o, .inr (11, [.int (nI th), .int (nI n), .int (nI b), .ref (q 3), .ref (q 4), .ref (q 5), .ref (q 6), .ref (q 7), .int (nI len), .ref (q 9), .ref (q 10), .ref (q 11), .ref (q 12), .ref (q 13), .ref (q 14), .ref (q 15), .ref (q 16), .ref (q 17), .int (nI (pt1 h2)), .int (nI (h2 + 1)), .ref (q 20), .ref (q 21), .ref (q 22), .ref (q 23), .int (nI ma)])), (q 3, .inl (cI, 200, .inl (ni K))), (q 4, .inl (cI, 200, .inl vI)), (q 5, .inl (cI, 200, .inl fI)), (q 6, .inl (cI, 200, .inl sI)), (q 7, .inl (cI, 200, .inl (ni u))), (q 9, .inl (cZ, 40200, .inl (zb cb))), (q 11, .inl (cI, 20, .inl ((unT tp1 ol1 (pt1 h2) tr2 sv1)))), (q 13, .inl (cI, 500, .inl (ni (un pl1 h2 (S k6))))), (q 14, .inl (cI, 500, .inl (ni (un pt1 h2 (pt1 h2))))), (q 15, .inl (cI, 300, .inl (ni tp1))), (q 16, .inl (cI, 300, .inl ol1)), (q 17, .inl (cZ, 200, .inl (zb (ub se1 k6 true))))] := hD.sub [10, 0, 1, 2, 3, 4, 5, 6, 11, 12, 7, 8, 9] (by decide) rfl
                    refine lv_aload_n hx hb dN_Mod_walk_326 rfl (lv_at hl 1 rfl) ?_
                    refine lv_aload_n hx hb dN_Mod_walk_327 rfl (lv_at hl 1 rfl) ?_
                    refine va_get (D := D) (ci := 11) (v := .ref (q 5)) (C := RN_Mod) (T := FN_Mod) (N := 25) hx hb ht fN_Mod hown hK hP 0 rfl rfl 5 (by decide) (ht _ mw_911) (fun _ h9 => h9) rfl dN_Mod_walk_328 ?_
                    refine lv_iload hx hb dN_Mod_walk_331 (lv_at hl 0 rfl) ?_
                    refine xi_ald hx hb hK hP 3 0 rfl rfl dN_Mod_walk_333 (by omega) (by omega) ?_
                    refine xn_top (y := (nI (F k6))) (hf k6 (by omega) hk6 (by have := (pasB_K c_230_10).2; omega)).1 ?_
                    refine vx_callv (wc := [(o, .inr (11, [.int (nI th), .int (nI n), .int (nI b), .ref (q 3), .ref (q 4), .ref (q 5), .ref (q 6), .ref (q 7), .int (nI len), .ref (q 9), .ref (q 10), .ref (q 11), .ref (q 12), .ref (q 13), .ref (q 14), .ref (q 15), .ref (q 16), .ref (q 17), .int (nI (pt1 h2)), .int (nI (h2 + 1)), .ref (q 20), .ref (q 21), .ref (q 22), .ref (q 23), .int (nI ma)])), (q 13, .inl (cI, 500, .inl (ni (un pl1 h2 (S k6))))), (q 14, .inl (cI, 500, .inl (ni (un pt1 h2 (pt1 h2)))))]) (wr := [(q 3, .inl (cI, 200, .inl (ni K))), (q 4, .inl (cI, 200, .inl vI)), (q 5, .inl (cI, 200, .inl fI)), (q 6, .inl (cI, 200, .inl sI)), (q 7, .inl (cI, 200, .inl (ni u))), (q 9, .inl (cZ, 40200, .inl (zb cb))), (q 11, .inl (cI, 20, .inl ((unT tp1 ol1 (pt1 h2) tr2 sv1)))), (q 15, .inl (cI, 300, .inl (ni tp1))), (q 16, .inl (cI, 300, .inl ol1)), (q 17, .inl (cZ, 200, .inl (zb (ub se1 k6 true))))]) [0, 8, 9] [1, 2, 3, 4, 5, 6, 7, 10, 11, 12] hK hP hD hS hA rfl rfl (by decide) (by decide) (va_runV (As := [.int (nI (F k6))]) (rest := []) ⟨hx, hb, hml, hown, ht⟩ (kMod_heap l D cI cZ cJ o q th n b len (pt1 h2) (h2 + 1) ma (un pl1 h2 (S k6)) (un pt1 h2 (pt1 h2)) (F k6) (by omega) _) (⟨callB_of 1 ht (TB_in2 gN_Mod_heap) rfl rfl rfl (ht _ mw_6) (ht _ mw_1053) (by decide +kernel) ⟨Nat.le_of_ble_eq_true rfl, Nat.le_of_ble_eq_true rfl⟩, ht _ mw_1055, ht _ ms_44⟩) (vx_preV [0, 8, 9] hK hP hD (by decide) rfl (ci := 11) rfl 0 rfl) rfl rfl hl.1 rfl (lv_room (Nat.le_of_ble_eq_true rfl)) dN_Mod_walk_334 ⟨Nat.le_of_ble_eq_true rfl, Nat.le_of_ble_eq_true rfl⟩) (fun w1 H locs hq hP hD hS => ?_)
                    subst hq
                    have hP : va_P D clN [(o, .inr (11, [.int (nI th), .int (nI n), .int (nI b), .ref (q 3), .ref (q 4), .ref (q 5), .ref (q 6), .ref (q 7), .int (nI len), .ref (q 9), .ref (q 10), .ref (q 11), .ref (q 12), .ref (q 13), .ref (q 14), .ref (q 15), .ref (q 16), .ref (q 17), .int (nI (pt1 h2)), .int (nI ((h2 + 1) + 1)), .ref (q 20), .ref (q 21), .ref (q 22), .ref (q 23), .int (nI ma)])), (q 3, .inl (cI, 200, .inl (ni K))), (q 4, .inl (cI, 200, .inl vI)), (q 5, .inl (cI, 200, .inl fI)), (q 6, .inl (cI, 200, .inl sI)), (q 7, .inl (cI, 200, .inl (ni u))), (q 9, .inl (cZ, 40200, .inl (zb cb))), (q 11, .inl (cI, 20, .inl ((unT tp1 ol1 (pt1 h2) tr2 sv1)))), (q 13, .inl (cI, 500, .inl (ni (un (un pl1 h2 (S k6)) (h2 + 1) (F k6))))), (q 14, .inl (cI, 500, .inl (ni (un (un pt1 h2 (pt1 h2)) (h2 + 1) (pt1 h2))))), (q 15, .inl (cI, 300, .inl (ni tp1))), (q 16, .inl (cI, 300, .inl ol1)), (q 17, .inl (cZ, 200, .inl (zb (ub se1 k6 true))))] H := hP.sub [10, 0, 1, 2, 3, 4, 5, 6, 11, 12, 7, 8, 9] rfl
                    have hD : va_D A [(o, .inr (11, [.int (nI th), .int (nI n), .int (nI b), .ref (q 3), .ref (q 4), .ref (q 5), .ref (q 6), .ref (q 7), .int (nI len), .ref (q 9), .ref (q 10), .ref (q 11), .ref (q 12), .ref (q 13), .ref (q 14), .ref (q 15), .ref (q 16), .ref (q 17), .int (nI (pt1 h2)), .int (nI ((h2 + 1) + 1)), .ref (q 20), .ref (q 21), .ref (q 22), .ref (q 23), .int (nI ma)])), (q 3, .inl (cI, 200, .inl (ni K))), (q 4, .inl (cI, 200, .inl vI)), (q 5, .inl (cI, 200, .inl fI)), (q 6, .inl (cI, 200, .inl sI)), (q 7, .inl (cI, 200, .inl (ni u))), (q 9, .inl (cZ, 40200, .inl (zb cb))), (q 11, .inl (cI, 20, .inl ((unT tp1 ol1 (pt1 h2) tr2 sv1)))), (q 13, .inl (cI, 500, .inl (ni (un (un pl1 h2 (S k6)) (h2 + 1) (F k6))))), (q 14, .inl (cI, 500, .inl (ni (un (un pt1 h2 (pt1 h2)) (h2 + 1) (pt1 h2))))), (q 15, .inl (cI, 300, .inl (ni tp1))), (q 16, .inl (cI, 300, .inl ol1)), (q 17, .inl (cZ, 200, .inl (zb (ub se1 k6 true))))] := hD.sub [10, 0, 1, 2, 3, 4, 5, 6, 11, 12, 7, 8, 9] (by decide) rfl
                    refine lv_goto (tgt := 74) hx hb dN_Mod_walk_337 (by decide) ?_
                    exact ih_74_5 (go, k4, unT tp1 ol1 (pt1 h2) tr2 sv1, un (un pl1 h2 (S k6)) (h2 + 1) (F k6), un (un pt1 h2 (pt1 h2)) (h2 + 1) (pt1 h2), tp1, ol1, ub se1 k6 true, pt1 h2, (h2 + 1) + 1) _ _ _ ⟨hP, hD, hS, lv_sub hl [1, 2, 3, 4, 5, 6] rfl, Or.inl ⟨hg, hk4, Stk_two hsp (by omega) (hf k6 (by omega) hk6 (by have := (pasB_K c_230_10).2; omega)).2 (hs k6 (by omega) hk6 c_312_12).2 (cnF_ub hk6 c_120_7), m1, by rw [if_neg (show ¬ se1 k6 = true by rw [c_120_7]; decide), if_neg (show ¬ k6 = 0 from c_136_8), if_neg (show ¬ takB K V len u k6 p = true by rw [c_157_9]; decide), if_pos c_230_10, psh, svk, if_neg (show ¬ K k6 = 3 from c_241_11), if_pos c_312_12] at hm0; rw [abs_two hpt]; exact hm0⟩⟩ (show (if go = true then 0 else 1 + 2 * cnF n (ub se1 k6 true) + ((h2 + 1) + 1)) < (if go = true then 0 else 1 + 2 * cnF n se1 + (h2 + 1)) from by rw [if_neg (by rw [c_76_6]; decide), if_neg (by rw [c_76_6]; decide)]; have h9 := cnF_ub hk6 c_120_7; omega)
                · skip
                  refine lv_aload_n hx hb dN_Mod_walk_244 rfl (lv_at hl 1 rfl) ?_
                  refine va_get (D := D) (ci := 11) (v := .ref (q 15)) (C := RN_Mod) (T := FN_Mod) (N := 25) hx hb ht fN_Mod hown hK hP 0 rfl rfl 15 (by decide) (ht _ mw_921) (fun _ h9 => h9) rfl dN_Mod_walk_245 ?_
                  refine lv_aload_n hx hb dN_Mod_walk_248 rfl (lv_at hl 1 rfl) ?_
                  refine va_get (D := D) (ci := 11) (v := .int (nI (pt1 h2))) (C := RN_Mod) (T := FN_Mod) (N := 25) hx hb ht fN_Mod hown hK hP 0 rfl rfl 18 (by decide) (ht _ mw_924) (fun _ h9 => h9) rfl dN_Mod_walk_249 ?_
                  refine lv_aload_n hx hb dN_Mod_walk_252 rfl (lv_at hl 1 rfl) ?_
                  refine va_get (D := D) (ci := 11) (v := .ref (q 4)) (C := RN_Mod) (T := FN_Mod) (N := 25) hx hb ht fN_Mod hown hK hP 0 rfl rfl 4 (by decide) (ht _ mw_910) (fun _ h9 => h9) rfl dN_Mod_walk_253 ?_
                  refine lv_iload hx hb dN_Mod_walk_256 (lv_at hl 0 rfl) ?_
                  refine xi_ald hx hb hK hP 2 0 rfl rfl dN_Mod_walk_258 (by omega) (by omega) ?_
                  refine xn_top (y := (nI (V k6))) (hv k6 (by omega) hk6 (Or.inr (Or.inl c_241_11))) ?_
                  refine xn_ast hx hb hK hP hD hS 10 0 rfl rfl dN_Mod_walk_259 (by omega) (by omega) (fun H locs hP hD hS => ?_)
                  have hP : va_P D clN [(o, .inr (11, [.int (nI th), .int (nI n), .int (nI b), .ref (q 3), .ref (q 4), .ref (q 5), .ref (q 6), .ref (q 7), .int (nI len), .ref (q 9), .ref (q 10), .ref (q 11), .ref (q 12), .ref (q 13), .ref (q 14), .ref (q 15), .ref (q 16), .ref (q 17), .int (nI (pt1 h2)), .int (nI h2), .ref (q 20), .ref (q 21), .ref (q 22), .ref (q 23), .int (nI ma)])), (q 3, .inl (cI, 200, .inl (ni K))), (q 4, .inl (cI, 200, .inl vI)), (q 5, .inl (cI, 200, .inl fI)), (q 6, .inl (cI, 200, .inl sI)), (q 7, .inl (cI, 200, .inl (ni u))), (q 9, .inl (cZ, 40200, .inl (zb cb))), (q 11, .inl (cI, 20, .inl ((unT tp1 ol1 (pt1 h2) tr2 sv1)))), (q 13, .inl (cI, 500, .inl (ni pl1))), (q 14, .inl (cI, 500, .inl (ni pt1))), (q 15, .inl (cI, 300, .inl (ni (un tp1 (pt1 h2) (V k6))))), (q 16, .inl (cI, 300, .inl ol1)), (q 17, .inl (cZ, 200, .inl (zb (ub se1 k6 true))))] H := hP
                  have hD : va_D A [(o, .inr (11, [.int (nI th), .int (nI n), .int (nI b), .ref (q 3), .ref (q 4), .ref (q 5), .ref (q 6), .ref (q 7), .int (nI len), .ref (q 9), .ref (q 10), .ref (q 11), .ref (q 12), .ref (q 13), .ref (q 14), .ref (q 15), .ref (q 16), .ref (q 17), .int (nI (pt1 h2)), .int (nI h2), .ref (q 20), .ref (q 21), .ref (q 22), .ref (q 23), .int (nI ma)])), (q 3, .inl (cI, 200, .inl (ni K))), (q 4, .inl (cI, 200, .inl vI)), (q 5, .inl (cI, 200, .inl fI)), (q 6, .inl (cI, 200, .inl sI)), (q 7, .inl (cI, 200, .inl (ni u))), (q 9, .inl (cZ, 40200, .inl (zb cb))), (q 11, .inl (cI, 20, .inl ((unT tp1 ol1 (pt1 h2) tr2 sv1)))), (q 13, .inl (cI, 500, .inl (ni pl1))), (q 14, .inl (cI, 500, .inl (ni pt1))), (q 15, .inl (cI, 300, .inl (ni (un tp1 (pt1 h2) (V k6))))), (q 16, .inl (cI, 300, .inl ol1)), (q 17, .inl (cZ, 200, .inl (zb (ub se1 k6 true))))] := hD
                  refine lv_aload_n hx hb dN_Mod_walk_260 rfl (lv_at hl 1 rfl) ?_
                  refine va_get (D := D) (ci := 11) (v := .ref (q 16)) (C := RN_Mod) (T := FN_Mod) (N := 25) hx hb ht fN_Mod hown hK hP 0 rfl rfl 16 (by decide) (ht _ mw_922) (fun _ h9 => h9) rfl dN_Mod_walk_261 ?_
                  refine lv_aload_n hx hb dN_Mod_walk_264 rfl (lv_at hl 1 rfl) ?_
                  refine va_get (D := D) (ci := 11) (v := .int (nI (pt1 h2))) (C := RN_Mod) (T := FN_Mod) (N := 25) hx hb ht fN_Mod hown hK hP 0 rfl rfl 18 (by decide) (ht _ mw_924) (fun _ h9 => h9) rfl dN_Mod_walk_265 ?_
                  refine lv_aload_n hx hb dN_Mod_walk_268 rfl (lv_at hl 1 rfl) ?_
                  refine va_get (D := D) (ci := 11) (v := .ref (q 11)) (C := RN_Mod) (T := FN_Mod) (N := 25) hx hb ht fN_Mod hown hK hP 0 rfl rfl 11 (by decide) (ht _ mw_917) (fun _ h9 => h9) rfl dN_Mod_walk_269 ?_
                  refine lv_aload_n hx hb dN_Mod_walk_272 rfl (lv_at hl 1 rfl) ?_
                  refine va_get (D := D) (ci := 11) (v := .ref (q 4)) (C := RN_Mod) (T := FN_Mod) (N := 25) hx hb ht fN_Mod hown hK hP 0 rfl rfl 4 (by decide) (ht _ mw_910) (fun _ h9 => h9) rfl dN_Mod_walk_273 ?_
                  refine lv_iload hx hb dN_Mod_walk_276 (lv_at hl 0 rfl) ?_
                  refine xi_ald hx hb hK hP 2 0 rfl rfl dN_Mod_walk_278 (by omega) (by omega) ?_
                  refine xn_top (y := (nI (V k6))) (hv k6 (by omega) hk6 (Or.inr (Or.inl c_241_11))) ?_
                  refine xi_ald hx hb hK hP 7 0 rfl rfl dN_Mod_walk_279 (hv3 k6 hk6 c_241_11) (by omega) ?_
                  refine xi_ast hx hb hK hP hD hS 11 0 rfl rfl dN_Mod_walk_280 (by omega) (by omega) (fun H locs hP hD hS => ?_)
                  have hP : va_P D clN [(o, .inr (11, [.int (nI th), .int (nI n), .int (nI b), .ref (q 3), .ref (q 4), .ref (q 5), .ref (q 6), .ref (q 7), .int (nI len), .ref (q 9), .ref (q 10), .ref (q 11), .ref (q 12), .ref (q 13), .ref (q 14), .ref (q 15), .ref (q 16), .ref (q 17), .int (nI (pt1 h2)), .int (nI h2), .ref (q 20), .ref (q 21), .ref (q 22), .ref (q 23), .int (nI ma)])), (q 3, .inl (cI, 200, .inl (ni K))), (q 4, .inl (cI, 200, .inl vI)), (q 5, .inl (cI, 200, .inl fI)), (q 6, .inl (cI, 200, .inl sI)), (q 7, .inl (cI, 200, .inl (ni u))), (q 9, .inl (cZ, 40200, .inl (zb cb))), (q 11, .inl (cI, 20, .inl ((unT tp1 ol1 (pt1 h2) tr2 sv1)))), (q 13, .inl (cI, 500, .inl (ni pl1))), (q 14, .inl (cI, 500, .inl (ni pt1))), (q 15, .inl (cI, 300, .inl (ni (un tp1 (pt1 h2) (V k6))))), (q 16, .inl (cI, 300, .inl ((upd ol1 (pt1 h2) ((unT tp1 ol1 (pt1 h2) tr2 sv1) (V k6)))))), (q 17, .inl (cZ, 200, .inl (zb (ub se1 k6 true))))] H := hP
                  have hD : va_D A [(o, .inr (11, [.int (nI th), .int (nI n), .int (nI b), .ref (q 3), .ref (q 4), .ref (q 5), .ref (q 6), .ref (q 7), .int (nI len), .ref (q 9), .ref (q 10), .ref (q 11), .ref (q 12), .ref (q 13), .ref (q 14), .ref (q 15), .ref (q 16), .ref (q 17), .int (nI (pt1 h2)), .int (nI h2), .ref (q 20), .ref (q 21), .ref (q 22), .ref (q 23), .int (nI ma)])), (q 3, .inl (cI, 200, .inl (ni K))), (q 4, .inl (cI, 200, .inl vI)), (q 5, .inl (cI, 200, .inl fI)), (q 6, .inl (cI, 200, .inl sI)), (q 7, .inl (cI, 200, .inl (ni u))), (q 9, .inl (cZ, 40200, .inl (zb cb))), (q 11, .inl (cI, 20, .inl ((unT tp1 ol1 (pt1 h2) tr2 sv1)))), (q 13, .inl (cI, 500, .inl (ni pl1))), (q 14, .inl (cI, 500, .inl (ni pt1))), (q 15, .inl (cI, 300, .inl (ni (un tp1 (pt1 h2) (V k6))))), (q 16, .inl (cI, 300, .inl ((upd ol1 (pt1 h2) ((unT tp1 ol1 (pt1 h2) tr2 sv1) (V k6)))))), (q 17, .inl (cZ, 200, .inl (zb (ub se1 k6 true))))] := hD
                  refine lv_aload_n hx hb dN_Mod_walk_281 rfl (lv_at hl 1 rfl) ?_
                  refine lv_dup hx hb dN_Mod_walk_282 rfl ?_
                  refine va_get (D := D) (ci := 11) (v := .int (nI (pt1 h2))) (C := RN_Mod) (T := FN_Mod) (N := 25) hx hb ht fN_Mod hown hK hP 0 rfl rfl 18 (by decide) (ht _ mw_924) (fun _ h9 => h9) rfl dN_Mod_walk_283 ?_
                  refine lv_iconst (v := (nI 1)) hx hb dN_Mod_walk_286 (by decide) ?_
                  refine xn_add hx hb dN_Mod_walk_287 ?_
                  refine va_put (D := D) (ci := 11) (v := .int (nI ((pt1 h2) + 1))) (ty := .int) (C := RN_Mod) (T := FN_Mod) (N := 25) hx hb ht fN_Mod tN_Mod oN_Mod nN_Mod hown hK hP hD hS 0 rfl rfl 18 (by decide) (ht _ mw_924) (fun _ h9 => h9) rfl (by decide +kernel) (rfl) (rfl) (Nat.le_of_ble_eq_true rfl) dN_Mod_walk_288 (fun H locs hP hD hS => ?_)
                  have hP : va_P D clN [(o, .inr (11, [.int (nI th), .int (nI n), .int (nI b), .ref (q 3), .ref (q 4), .ref (q 5), .ref (q 6), .ref (q 7), .int (nI len), .ref (q 9), .ref (q 10), .ref (q 11), .ref (q 12), .ref (q 13), .ref (q 14), .ref (q 15), .ref (q 16), .ref (q 17), .int (nI ((pt1 h2) + 1)), .int (nI h2), .ref (q 20), .ref (q 21), .ref (q 22), .ref (q 23), .int (nI ma)])), (q 3, .inl (cI, 200, .inl (ni K))), (q 4, .inl (cI, 200, .inl vI)), (q 5, .inl (cI, 200, .inl fI)), (q 6, .inl (cI, 200, .inl sI)), (q 7, .inl (cI, 200, .inl (ni u))), (q 9, .inl (cZ, 40200, .inl (zb cb))), (q 11, .inl (cI, 20, .inl ((unT tp1 ol1 (pt1 h2) tr2 sv1)))), (q 13, .inl (cI, 500, .inl (ni pl1))), (q 14, .inl (cI, 500, .inl (ni pt1))), (q 15, .inl (cI, 300, .inl (ni (un tp1 (pt1 h2) (V k6))))), (q 16, .inl (cI, 300, .inl ((upd ol1 (pt1 h2) ((unT tp1 ol1 (pt1 h2) tr2 sv1) (V k6)))))), (q 17, .inl (cZ, 200, .inl (zb (ub se1 k6 true))))] H := hP
                  have hD : va_D A [(o, .inr (11, [.int (nI th), .int (nI n), .int (nI b), .ref (q 3), .ref (q 4), .ref (q 5), .ref (q 6), .ref (q 7), .int (nI len), .ref (q 9), .ref (q 10), .ref (q 11), .ref (q 12), .ref (q 13), .ref (q 14), .ref (q 15), .ref (q 16), .ref (q 17), .int (nI ((pt1 h2) + 1)), .int (nI h2), .ref (q 20), .ref (q 21), .ref (q 22), .ref (q 23), .int (nI ma)])), (q 3, .inl (cI, 200, .inl (ni K))), (q 4, .inl (cI, 200, .inl vI)), (q 5, .inl (cI, 200, .inl fI)), (q 6, .inl (cI, 200, .inl sI)), (q 7, .inl (cI, 200, .inl (ni u))), (q 9, .inl (cZ, 40200, .inl (zb cb))), (q 11, .inl (cI, 20, .inl ((unT tp1 ol1 (pt1 h2) tr2 sv1)))), (q 13, .inl (cI, 500, .inl (ni pl1))), (q 14, .inl (cI, 500, .inl (ni pt1))), (q 15, .inl (cI, 300, .inl (ni (un tp1 (pt1 h2) (V k6))))), (q 16, .inl (cI, 300, .inl ((upd ol1 (pt1 h2) ((unT tp1 ol1 (pt1 h2) tr2 sv1) (V k6)))))), (q 17, .inl (cZ, 200, .inl (zb (ub se1 k6 true))))] := hD
                  refine lv_aload_n hx hb dN_Mod_walk_291 rfl (lv_at hl 1 rfl) ?_
                  refine va_get (D := D) (ci := 11) (v := .ref (q 11)) (C := RN_Mod) (T := FN_Mod) (N := 25) hx hb ht fN_Mod hown hK hP 0 rfl rfl 11 (by decide) (ht _ mw_917) (fun _ h9 => h9) rfl dN_Mod_walk_292 ?_
                  refine lv_aload_n hx hb dN_Mod_walk_295 rfl (lv_at hl 1 rfl) ?_
                  refine va_get (D := D) (ci := 11) (v := .ref (q 4)) (C := RN_Mod) (T := FN_Mod) (N := 25) hx hb ht fN_Mod hown hK hP 0 rfl rfl 4 (by decide) (ht _ mw_910) (fun _ h9 => h9) rfl dN_Mod_walk_296 ?_
                  refine lv_iload hx hb dN_Mod_walk_299 (lv_at hl 0 rfl) ?_
                  refine xi_ald hx hb hK hP 2 0 rfl rfl dN_Mod_walk_301 (by omega) (by omega) ?_
                  refine xn_top (y := (nI (V k6))) (hv k6 (by omega) hk6 (Or.inr (Or.inl c_241_11))) ?_
                  refine lv_iload_n hx hb dN_Mod_walk_302 rfl (lv_at hl 4 rfl) ?_
                  refine xi_ast hx hb hK hP hD hS 7 0 rfl rfl dN_Mod_walk_303 (hv3 k6 hk6 c_241_11) (by omega) (fun H locs hP hD hS => ?_)
                  have hP : va_P D clN [(o, .inr (11, [.int (nI th), .int (nI n), .int (nI b), .ref (q 3), .ref (q 4), .ref (q 5), .ref (q 6), .ref (q 7), .int (nI len), .ref (q 9), .ref (q 10), .ref (q 11), .ref (q 12), .ref (q 13), .ref (q 14), .ref (q 15), .ref (q 16), .ref (q 17), .int (nI ((pt1 h2) + 1)), .int (nI h2), .ref (q 20), .ref (q 21), .ref (q 22), .ref (q 23), .int (nI ma)])), (q 3, .inl (cI, 200, .inl (ni K))), (q 4, .inl (cI, 200, .inl vI)), (q 5, .inl (cI, 200, .inl fI)), (q 6, .inl (cI, 200, .inl sI)), (q 7, .inl (cI, 200, .inl (ni u))), (q 9, .inl (cZ, 40200, .inl (zb cb))), (q 11, .inl (cI, 20, .inl ((upd (unT tp1 ol1 (pt1 h2) tr2 sv1) (V k6) (nI p))))), (q 13, .inl (cI, 500, .inl (ni pl1))), (q 14, .inl (cI, 500, .inl (ni pt1))), (q 15, .inl (cI, 300, .inl (ni (un tp1 (pt1 h2) (V k6))))), (q 16, .inl (cI, 300, .inl ((upd ol1 (pt1 h2) ((unT tp1 ol1 (pt1 h2) tr2 sv1) (V k6)))))), (q 17, .inl (cZ, 200, .inl (zb (ub se1 k6 true))))] H := hP
                  have hD : va_D A [(o, .inr (11, [.int (nI th), .int (nI n), .int (nI b), .ref (q 3), .ref (q 4), .ref (q 5), .ref (q 6), .ref (q 7), .int (nI len), .ref (q 9), .ref (q 10), .ref (q 11), .ref (q 12), .ref (q 13), .ref (q 14), .ref (q 15), .ref (q 16), .ref (q 17), .int (nI ((pt1 h2) + 1)), .int (nI h2), .ref (q 20), .ref (q 21), .ref (q 22), .ref (q 23), .int (nI ma)])), (q 3, .inl (cI, 200, .inl (ni K))), (q 4, .inl (cI, 200, .inl vI)), (q 5, .inl (cI, 200, .inl fI)), (q 6, .inl (cI, 200, .inl sI)), (q 7, .inl (cI, 200, .inl (ni u))), (q 9, .inl (cZ, 40200, .inl (zb cb))), (q 11, .inl (cI, 20, .inl ((upd (unT tp1 ol1 (pt1 h2) tr2 sv1) (V k6) (nI p))))), (q 13, .inl (cI, 500, .inl (ni pl1))), (q 14, .inl (cI, 500, .inl (ni pt1))), (q 15, .inl (cI, 300, .inl (ni (un tp1 (pt1 h2) (V k6))))), (q 16, .inl (cI, 300, .inl ((upd ol1 (pt1 h2) ((unT tp1 ol1 (pt1 h2) tr2 sv1) (V k6)))))), (q 17, .inl (cZ, 200, .inl (zb (ub se1 k6 true))))] := hD
                  refine lv_aload_n hx hb dN_Mod_walk_304 rfl (lv_at hl 1 rfl) ?_
                  refine va_get (D := D) (ci := 11) (v := .ref (q 3)) (C := RN_Mod) (T := FN_Mod) (N := 25) hx hb ht fN_Mod hown hK hP 0 rfl rfl 3 (by decide) (ht _ mw_909) (fun _ h9 => h9) rfl dN_Mod_walk_305 ?_
                  refine lv_iload hx hb dN_Mod_walk_308 (lv_at hl 0 rfl) ?_
                  refine xn_ald hx hb hK hP 1 0 rfl rfl dN_Mod_walk_310 (by omega) (by omega) ?_
                  refine lv_iconst (v := (nI 2)) hx hb dN_Mod_walk_311 (by decide) ?_
                  refine xn_ne (tgt := 326) hx hb dN_Mod_walk_312 (by decide) (by have := hK5 k6; omega) (by omega) (fun c_312_13 => ?_) (fun c_312_13 => ?_)
                  · skip
                    refine lv_aload_n hx hb dN_Mod_walk_326 rfl (lv_at hl 1 rfl) ?_
                    refine lv_aload_n hx hb dN_Mod_walk_327 rfl (lv_at hl 1 rfl) ?_
                    refine va_get (D := D) (ci := 11) (v := .ref (q 5)) (C := RN_Mod) (T := FN_Mod) (N := 25) hx hb ht fN_Mod hown hK hP 0 rfl rfl 5 (by decide) (ht _ mw_911) (fun _ h9 => h9) rfl dN_Mod_walk_328 ?_
                    refine lv_iload hx hb dN_Mod_walk_331 (lv_at hl 0 rfl) ?_
                    refine xi_ald hx hb hK hP 3 0 rfl rfl dN_Mod_walk_333 (by omega) (by omega) ?_
                    refine xn_top (y := (nI (F k6))) (hf k6 (by omega) hk6 (by have := (pasB_K c_230_10).2; omega)).1 ?_
                    refine vx_callv (wc := [(o, .inr (11, [.int (nI th), .int (nI n), .int (nI b), .ref (q 3), .ref (q 4), .ref (q 5), .ref (q 6), .ref (q 7), .int (nI len), .ref (q 9), .ref (q 10), .ref (q 11), .ref (q 12), .ref (q 13), .ref (q 14), .ref (q 15), .ref (q 16), .ref (q 17), .int (nI ((pt1 h2) + 1)), .int (nI h2), .ref (q 20), .ref (q 21), .ref (q 22), .ref (q 23), .int (nI ma)])), (q 13, .inl (cI, 500, .inl (ni pl1))), (q 14, .inl (cI, 500, .inl (ni pt1)))]) (wr := [(q 3, .inl (cI, 200, .inl (ni K))), (q 4, .inl (cI, 200, .inl vI)), (q 5, .inl (cI, 200, .inl fI)), (q 6, .inl (cI, 200, .inl sI)), (q 7, .inl (cI, 200, .inl (ni u))), (q 9, .inl (cZ, 40200, .inl (zb cb))), (q 11, .inl (cI, 20, .inl ((upd (unT tp1 ol1 (pt1 h2) tr2 sv1) (V k6) (nI p))))), (q 15, .inl (cI, 300, .inl (ni (un tp1 (pt1 h2) (V k6))))), (q 16, .inl (cI, 300, .inl ((upd ol1 (pt1 h2) ((unT tp1 ol1 (pt1 h2) tr2 sv1) (V k6)))))), (q 17, .inl (cZ, 200, .inl (zb (ub se1 k6 true))))]) [0, 8, 9] [1, 2, 3, 4, 5, 6, 7, 10, 11, 12] hK hP hD hS hA rfl rfl (by decide) (by decide) (va_runV (As := [.int (nI (F k6))]) (rest := []) ⟨hx, hb, hml, hown, ht⟩ (kMod_heap l D cI cZ cJ o q th n b len ((pt1 h2) + 1) h2 ma pl1 pt1 (F k6) (by omega) _) (⟨callB_of 1 ht (TB_in2 gN_Mod_heap) rfl rfl rfl (ht _ mw_6) (ht _ mw_1053) (by decide +kernel) ⟨Nat.le_of_ble_eq_true rfl, Nat.le_of_ble_eq_true rfl⟩, ht _ mw_1055, ht _ ms_44⟩) (vx_preV [0, 8, 9] hK hP hD (by decide) rfl (ci := 11) rfl 0 rfl) rfl rfl hl.1 rfl (lv_room (Nat.le_of_ble_eq_true rfl)) dN_Mod_walk_334 ⟨Nat.le_of_ble_eq_true rfl, Nat.le_of_ble_eq_true rfl⟩) (fun w1 H locs hq hP hD hS => ?_)
                    subst hq
                    have hP : va_P D clN [(o, .inr (11, [.int (nI th), .int (nI n), .int (nI b), .ref (q 3), .ref (q 4), .ref (q 5), .ref (q 6), .ref (q 7), .int (nI len), .ref (q 9), .ref (q 10), .ref (q 11), .ref (q 12), .ref (q 13), .ref (q 14), .ref (q 15), .ref (q 16), .ref (q 17), .int (nI ((pt1 h2) + 1)), .int (nI (h2 + 1)), .ref (q 20), .ref (q 21), .ref (q 22), .ref (q 23), .int (nI ma)])), (q 3, .inl (cI, 200, .inl (ni K))), (q 4, .inl (cI, 200, .inl vI)), (q 5, .inl (cI, 200, .inl fI)), (q 6, .inl (cI, 200, .inl sI)), (q 7, .inl (cI, 200, .inl (ni u))), (q 9, .inl (cZ, 40200, .inl (zb cb))), (q 11, .inl (cI, 20, .inl ((upd (unT tp1 ol1 (pt1 h2) tr2 sv1) (V k6) (nI p))))), (q 13, .inl (cI, 500, .inl (ni (un pl1 h2 (F k6))))), (q 14, .inl (cI, 500, .inl (ni (un pt1 h2 ((pt1 h2) + 1))))), (q 15, .inl (cI, 300, .inl (ni (un tp1 (pt1 h2) (V k6))))), (q 16, .inl (cI, 300, .inl ((upd ol1 (pt1 h2) ((unT tp1 ol1 (pt1 h2) tr2 sv1) (V k6)))))), (q 17, .inl (cZ, 200, .inl (zb (ub se1 k6 true))))] H := hP.sub [10, 0, 1, 2, 3, 4, 5, 6, 11, 12, 7, 8, 9] rfl
                    have hD : va_D A [(o, .inr (11, [.int (nI th), .int (nI n), .int (nI b), .ref (q 3), .ref (q 4), .ref (q 5), .ref (q 6), .ref (q 7), .int (nI len), .ref (q 9), .ref (q 10), .ref (q 11), .ref (q 12), .ref (q 13), .ref (q 14), .ref (q 15), .ref (q 16), .ref (q 17), .int (nI ((pt1 h2) + 1)), .int (nI (h2 + 1)), .ref (q 20), .ref (q 21), .ref (q 22), .ref (q 23), .int (nI ma)])), (q 3, .inl (cI, 200, .inl (ni K))), (q 4, .inl (cI, 200, .inl vI)), (q 5, .inl (cI, 200, .inl fI)), (q 6, .inl (cI, 200, .inl sI)), (q 7, .inl (cI, 200, .inl (ni u))), (q 9, .inl (cZ, 40200, .inl (zb cb))), (q 11, .inl (cI, 20, .inl ((upd (unT tp1 ol1 (pt1 h2) tr2 sv1) (V k6) (nI p))))), (q 13, .inl (cI, 500, .inl (ni (un pl1 h2 (F k6))))), (q 14, .inl (cI, 500, .inl (ni (un pt1 h2 ((pt1 h2) + 1))))), (q 15, .inl (cI, 300, .inl (ni (un tp1 (pt1 h2) (V k6))))), (q 16, .inl (cI, 300, .inl ((upd ol1 (pt1 h2) ((unT tp1 ol1 (pt1 h2) tr2 sv1) (V k6)))))), (q 17, .inl (cZ, 200, .inl (zb (ub se1 k6 true))))] := hD.sub [10, 0, 1, 2, 3, 4, 5, 6, 11, 12, 7, 8, 9] (by decide) rfl
                    refine lv_goto (tgt := 74) hx hb dN_Mod_walk_337 (by decide) ?_
                    exact ih_74_5 (go, k4, upd (unT tp1 ol1 (pt1 h2) tr2 sv1) (V k6) (nI p), un pl1 h2 (F k6), un pt1 h2 ((pt1 h2) + 1), un tp1 (pt1 h2) (V k6), upd ol1 (pt1 h2) ((unT tp1 ol1 (pt1 h2) tr2 sv1) (V k6)), ub se1 k6 true, (pt1 h2) + 1, h2 + 1) _ _ _ ⟨hP, hD, hS, lv_sub hl [1, 2, 3, 4, 5, 6] rfl, Or.inl ⟨hg, hk4, Stk_sav hsp (hf k6 (by omega) hk6 (by have := (pasB_K c_230_10).2; omega)).2 (hv3 k6 hk6 c_241_11) (cnF_ub hk6 c_120_7), m1, by rw [if_neg (show ¬ se1 k6 = true by rw [c_120_7]; decide), if_neg (show ¬ k6 = 0 from c_136_8), if_neg (show ¬ takB K V len u k6 p = true by rw [c_157_9]; decide), if_pos c_230_10, psh, svk, if_pos c_241_11, if_neg (show ¬ K k6 = 2 from c_312_13)] at hm0; rw [abs_sav hpt]; exact hm0⟩⟩ (show (if go = true then 0 else 1 + 2 * cnF n (ub se1 k6 true) + (h2 + 1)) < (if go = true then 0 else 1 + 2 * cnF n se1 + (h2 + 1)) from by rw [if_neg (by rw [c_76_6]; decide), if_neg (by rw [c_76_6]; decide)]; have h9 := cnF_ub hk6 c_120_7; omega)
                  · skip
                    exact absurd c_312_13 (by have h8 := c_241_11; omega)
            · skip
              refine vx_join (α := Bool) (fun j15 => j15 = goB K V F S len u L al p k6) (fun j15 => F0 m 199 ls [.int (zi j15)]) (fun j15 hj15 => ?_) (fun Jj15 => ?_)
              · skip
                have hj_go := hj15
                refine lv_istore (lv' := [(5, .int (zi j15)), (6, .int (nI k6)), (0, .ref o), (1, .int (nI fr)), (2, .int x2), (3, .int (nI p)), (4, .int (nI k4))]) hx hb dN_Mod_walk_199 hl (by decide) rfl (fun ls hl => ?_)
                refine lv_iload hx hb dN_Mod_walk_201 (lv_at hl 0 rfl) ?_
                refine xz_eq0 (tgt := 216) hx hb dN_Mod_walk_203 (by decide) (fun c_203_15 => ?_) (fun c_203_15 => ?_)
                · skip
                  refine lv_iload hx hb dN_Mod_walk_216 (lv_at hl 6 rfl) ?_
                  refine lv_istore (lv' := [(4, .int (nI k4)), (5, .int (zi j15)), (6, .int (nI k6)), (0, .ref o), (1, .int (nI fr)), (2, .int x2), (3, .int (nI p))]) hx hb dN_Mod_walk_218 hl (by decide) rfl (fun ls hl => ?_)
                  refine lv_goto (tgt := 337) hx hb dN_Mod_walk_220 (by decide) ?_
                  refine lv_goto (tgt := 74) hx hb dN_Mod_walk_337 (by decide) ?_
                  exact ih_74_5 (j15, k4, unT tp1 ol1 (pt1 h2) tr2 sv1, pl1, pt1, tp1, ol1, ub se1 k6 true, pt1 h2, h2) _ _ _ ⟨hP, hD, hS, lv_sub hl [3, 4, 5, 6, 0, 1] rfl, Or.inl ⟨c_203_15, hk4, Stk_see hsp hk6 c_120_7, m1, by rw [if_neg (show ¬ se1 k6 = true by rw [c_120_7]; decide), if_neg (show ¬ k6 = 0 from c_136_8), if_pos c_157_9, if_neg (by rw [← hj_go, c_203_15]; decide)] at hm0; exact hm0⟩⟩ (show (if j15 = true then 0 else 1 + 2 * cnF n (ub se1 k6 true) + h2) < (if go = true then 0 else 1 + 2 * cnF n se1 + (h2 + 1)) from by rw [if_neg (by rw [c_203_15]; decide), if_neg (by rw [c_76_6]; decide)]; have h9 := cnF_ub hk6 c_120_7; omega)
                · skip
                  refine lv_aload_n hx hb dN_Mod_walk_206 rfl (lv_at hl 2 rfl) ?_
                  refine va_get (D := D) (ci := 11) (v := .ref (q 5)) (C := RN_Mod) (T := FN_Mod) (N := 25) hx hb ht fN_Mod hown hK hP 0 rfl rfl 5 (by decide) (ht _ mw_911) (fun _ h9 => h9) rfl dN_Mod_walk_207 ?_
                  refine lv_iload hx hb dN_Mod_walk_210 (lv_at hl 1 rfl) ?_
                  refine xi_ald hx hb hK hP 3 0 rfl rfl dN_Mod_walk_212 (by omega) (by omega) ?_
                  refine xn_top (y := (nI (F k6))) (hf k6 (by omega) hk6 (Or.inl (takB_K c_157_9).2.1)).1 ?_
                  refine lv_goto (tgt := 218) hx hb dN_Mod_walk_213 (by decide) ?_
                  refine lv_istore (lv' := [(4, .int (nI (F k6))), (5, .int (zi j15)), (6, .int (nI k6)), (0, .ref o), (1, .int (nI fr)), (2, .int x2), (3, .int (nI p))]) hx hb dN_Mod_walk_218 hl (by decide) rfl (fun ls hl => ?_)
                  refine lv_goto (tgt := 337) hx hb dN_Mod_walk_220 (by decide) ?_
                  refine lv_goto (tgt := 74) hx hb dN_Mod_walk_337 (by decide) ?_
                  exact ih_74_5 (j15, F k6, unT tp1 ol1 (pt1 h2) tr2 sv1, pl1, pt1, tp1, ol1, ub se1 k6 true, pt1 h2, h2) _ _ _ ⟨hP, hD, hS, lv_sub hl [3, 4, 5, 6, 0, 1] rfl, Or.inr ⟨c_203_15, by rw [if_neg (show ¬ se1 k6 = true by rw [c_120_7]; decide), if_neg (show ¬ k6 = 0 from c_136_8), if_pos c_157_9, if_pos (by rw [← hj_go]; exact c_203_15)] at hm0; cases hm0; exact ⟨c_136_8, rfl, rfl⟩⟩⟩ (show (if j15 = true then 0 else 1 + 2 * cnF n (ub se1 k6 true) + h2) < (if go = true then 0 else 1 + 2 * cnF n se1 + (h2 + 1)) from by rw [if_pos c_203_15, if_neg (by rw [c_76_6]; decide)]; omega)
              · skip
                refine lv_iload_n hx hb dN_Mod_walk_160 rfl (lv_at hl 3 rfl) ?_
                refine lv_if_lt (tgt := 169) hx hb dN_Mod_walk_161 (by decide) (fun c_161_16 => ?_) (fun c_161_16 => ?_)
                · skip
                  refine lv_aload_n hx hb dN_Mod_walk_169 rfl (lv_at hl 1 rfl) ?_
                  refine va_get (D := D) (ci := 11) (v := .ref (q 9)) (C := RN_Mod) (T := FN_Mod) (N := 25) hx hb ht fN_Mod hown hK hP 0 rfl rfl 9 (by decide) (ht _ mw_915) (fun _ h9 => h9) rfl dN_Mod_walk_170 ?_
                  refine lv_sipush (v := (nI 200)) hx hb dN_Mod_walk_173 (by decide) ?_
                  refine lv_iload_n hx hb dN_Mod_walk_176 rfl (lv_at hl 4 rfl) ?_
                  refine xn_mul hx hb dN_Mod_walk_177 ?_
                  refine lv_sipush (v := (nI 200)) hx hb dN_Mod_walk_178 (by decide) ?_
                  refine xn_add hx hb dN_Mod_walk_181 ?_
                  refine lv_aload_n hx hb dN_Mod_walk_182 rfl (lv_at hl 1 rfl) ?_
                  refine va_get (D := D) (ci := 11) (v := .ref (q 5)) (C := RN_Mod) (T := FN_Mod) (N := 25) hx hb ht fN_Mod hown hK hP 0 rfl rfl 5 (by decide) (ht _ mw_911) (fun _ h9 => h9) rfl dN_Mod_walk_183 ?_
                  refine lv_iload hx hb dN_Mod_walk_186 (lv_at hl 0 rfl) ?_
                  refine xi_ald hx hb hK hP 3 0 rfl rfl dN_Mod_walk_188 (by omega) (by omega) ?_
                  refine xn_top (y := (nI (F k6))) (hf k6 (by omega) hk6 (Or.inl (takB_K c_157_9).2.1)).1 ?_
                  refine xn_add hx hb dN_Mod_walk_189 ?_
                  refine xz_ald hx hb hK hP 6 1 rfl rfl dN_Mod_walk_190 (by have := (hf k6 (by omega) hk6 (Or.inl (takB_K c_157_9).2.1)).2; have := (takB_K c_157_9).2.2.1; omega) (by omega) ?_
                  refine xz_eq0 (tgt := 198) hx hb dN_Mod_walk_191 (by decide) (fun c_191_17 => ?_) (fun c_191_17 => ?_)
                  · skip
                    refine lv_iconst (v := (zi false)) hx hb dN_Mod_walk_198 (by decide) ?_
                    exact Jj15 (false) (by have h7 := Bnd_neg hle hbd c_161_16; have h8 := (takB_K c_157_9).2.2.1; exact (go_false (fun h9 => by have h6 := (hcc (p + 1) (F k6) (by omega) (by omega) (hf k6 (by omega) hk6 (Or.inl (takB_K c_157_9).2.1)).2).mpr h9; rw [show 200 * (p + 1) + F k6 = 200 * p + 200 + F k6 by omega, c_191_17] at h6; cases h6)).symm)
                  · skip
                    refine lv_iconst (v := (zi true)) hx hb dN_Mod_walk_194 (by decide) ?_
                    refine lv_goto (tgt := 199) hx hb dN_Mod_walk_195 (by decide) ?_
                    exact Jj15 (true) (by have h7 := Bnd_neg hle hbd c_161_16; have h8 := (takB_K c_157_9).2.2.1; exact (go_true (by omega) ((hcc (p + 1) (F k6) (by omega) (by omega) (hf k6 (by omega) hk6 (Or.inl (takB_K c_157_9).2.1)).2).mp (by rw [show 200 * (p + 1) + F k6 = 200 * p + 200 + F k6 by omega]; exact c_191_17))).symm)
                · skip
                  refine lv_iload_n hx hb dN_Mod_walk_164 rfl (lv_at hl 4 rfl) ?_
                  refine lv_iload_n hx hb dN_Mod_walk_165 rfl (lv_at hl 3 rfl) ?_
                  refine lv_icmp_ge (tgt := 198) hx hb dN_Mod_walk_166 (by decide) (fun c_166_18 => ?_) (fun c_166_18 => ?_)
                  · skip
                    refine lv_iconst (v := (zi false)) hx hb dN_Mod_walk_198 (by decide) ?_
                    exact Jj15 (false) (by have h7 := Bnd_pos hbd c_161_16; have h8 := c_166_18; rw [h7.2.1, nI_leI (by omega) (by omega)] at h8; exact (go_late (by omega)).symm)
                  · skip
                    refine lv_aload_n hx hb dN_Mod_walk_169 rfl (lv_at hl 1 rfl) ?_
                    refine va_get (D := D) (ci := 11) (v := .ref (q 9)) (C := RN_Mod) (T := FN_Mod) (N := 25) hx hb ht fN_Mod hown hK hP 0 rfl rfl 9 (by decide) (ht _ mw_915) (fun _ h9 => h9) rfl dN_Mod_walk_170 ?_
                    refine lv_sipush (v := (nI 200)) hx hb dN_Mod_walk_173 (by decide) ?_
                    refine lv_iload_n hx hb dN_Mod_walk_176 rfl (lv_at hl 4 rfl) ?_
                    refine xn_mul hx hb dN_Mod_walk_177 ?_
                    refine lv_sipush (v := (nI 200)) hx hb dN_Mod_walk_178 (by decide) ?_
                    refine xn_add hx hb dN_Mod_walk_181 ?_
                    refine lv_aload_n hx hb dN_Mod_walk_182 rfl (lv_at hl 1 rfl) ?_
                    refine va_get (D := D) (ci := 11) (v := .ref (q 5)) (C := RN_Mod) (T := FN_Mod) (N := 25) hx hb ht fN_Mod hown hK hP 0 rfl rfl 5 (by decide) (ht _ mw_911) (fun _ h9 => h9) rfl dN_Mod_walk_183 ?_
                    refine lv_iload hx hb dN_Mod_walk_186 (lv_at hl 0 rfl) ?_
                    refine xi_ald hx hb hK hP 3 0 rfl rfl dN_Mod_walk_188 (by omega) (by omega) ?_
                    refine xn_top (y := (nI (F k6))) (hf k6 (by omega) hk6 (Or.inl (takB_K c_157_9).2.1)).1 ?_
                    refine xn_add hx hb dN_Mod_walk_189 ?_
                    refine xz_ald hx hb hK hP 6 1 rfl rfl dN_Mod_walk_190 (by have := (hf k6 (by omega) hk6 (Or.inl (takB_K c_157_9).2.1)).2; have := (takB_K c_157_9).2.2.1; omega) (by omega) ?_
                    refine xz_eq0 (tgt := 198) hx hb dN_Mod_walk_191 (by decide) (fun c_191_19 => ?_) (fun c_191_19 => ?_)
                    · skip
                      refine lv_iconst (v := (zi false)) hx hb dN_Mod_walk_198 (by decide) ?_
                      exact Jj15 (false) (by have h7 := Bnd_pos hbd c_161_16; have h8 := c_166_18; rw [h7.2.1, nI_leI (by omega) (by omega)] at h8; exact (go_false (fun h9 => by have h6 := (hcc (p + 1) (F k6) (by omega) (by omega) (hf k6 (by omega) hk6 (Or.inl (takB_K c_157_9).2.1)).2).mpr h9; rw [show 200 * (p + 1) + F k6 = 200 * p + 200 + F k6 by omega, c_191_19] at h6; cases h6)).symm)
                    · skip
                      refine lv_iconst (v := (zi true)) hx hb dN_Mod_walk_194 (by decide) ?_
                      refine lv_goto (tgt := 199) hx hb dN_Mod_walk_195 (by decide) ?_
                      exact Jj15 (true) (by have h7 := Bnd_pos hbd c_161_16; have h8 := c_166_18; rw [h7.2.1, nI_leI (by omega) (by omega)] at h8; exact (go_true (by omega) ((hcc (p + 1) (F k6) (by omega) (by omega) (hf k6 (by omega) hk6 (Or.inl (takB_K c_157_9).2.1)).2).mp (by rw [show 200 * (p + 1) + F k6 = 200 * p + 200 + F k6 by omega]; exact c_191_19))).symm)
          · skip
            refine lv_iload_n hx hb dN_Mod_walk_139 rfl (lv_at hl 3 rfl) ?_
            refine lv_if_lt (tgt := 148) hx hb dN_Mod_walk_140 (by decide) (fun c_140_20 => ?_) (fun c_140_20 => ?_)
            · skip
              have hend : endB L al p = true := by rw [endB, (Bnd_neg hle hbd c_140_20).1]; simp
              refine lv_iload_n hx hb dN_Mod_walk_148 rfl (lv_at hl 4 rfl) ?_
              exact vx_iret C hK hP hD hS dN_Mod_walk_149 (Nat.le_of_ble_eq_true rfl) (Nat.le_of_ble_eq_true rfl) (by rw [if_neg (show ¬ se1 k6 = true by rw [c_120_7]; decide), if_pos c_136_8, if_pos hend] at hm0; cases hm0; exact ⟨p, _, _, _, _, _, _, _, _, rfl, (gw_end hp2 hres).symm.trans hgw |>.symm, rfl⟩)
            · skip
              refine lv_iload_n hx hb dN_Mod_walk_143 rfl (lv_at hl 4 rfl) ?_
              refine lv_iload_n hx hb dN_Mod_walk_144 rfl (lv_at hl 3 rfl) ?_
              refine lv_icmp_ne (tgt := 337) hx hb dN_Mod_walk_145 (by decide) (fun c_145_21 => ?_) (fun c_145_21 => ?_)
              · skip
                have hend : ¬ endB L al p = true := by have h7 := Bnd_pos hbd c_140_20; rw [endB, h7.1]; rw [h7.2.1] at c_145_21; simp; intro h8; exact c_145_21 (by rw [h8])
                refine lv_goto (tgt := 74) hx hb dN_Mod_walk_337 (by decide) ?_
                exact ih_74_5 (go, k4, unT tp1 ol1 (pt1 h2) tr2 sv1, pl1, pt1, tp1, ol1, ub se1 k6 true, pt1 h2, h2) _ _ _ ⟨hP, hD, hS, lv_sub hl [1, 2, 3, 4, 5, 6] rfl, Or.inl ⟨hg, hk4, Stk_see hsp hk6 c_120_7, m1, by rw [if_neg (show ¬ se1 k6 = true by rw [c_120_7]; decide), if_pos c_136_8, if_neg hend] at hm0; exact hm0⟩⟩ (show (if go = true then 0 else 1 + 2 * cnF n (ub se1 k6 true) + h2) < (if go = true then 0 else 1 + 2 * cnF n se1 + (h2 + 1)) from by rw [if_neg (by rw [c_76_6]; decide), if_neg (by rw [c_76_6]; decide)]; have h9 := cnF_ub hk6 c_120_7; omega)
              · skip
                have hend : endB L al p = true := by have h7 := Bnd_pos hbd c_140_20; rw [h7.2.1, nI_eq (by omega) (by omega)] at c_145_21; rw [endB]; simp [c_145_21]
                refine lv_iload_n hx hb dN_Mod_walk_148 rfl (lv_at hl 4 rfl) ?_
                exact vx_iret C hK hP hD hS dN_Mod_walk_149 (Nat.le_of_ble_eq_true rfl) (Nat.le_of_ble_eq_true rfl) (by rw [if_neg (show ¬ se1 k6 = true by rw [c_120_7]; decide), if_pos c_136_8, if_pos hend] at hm0; cases hm0; exact ⟨p, _, _, _, _, _, _, _, _, rfl, (gw_end hp2 hres).symm.trans hgw |>.symm, rfl⟩)
        · skip
          refine lv_goto (tgt := 74) hx hb dN_Mod_walk_123 (by decide) ?_
          exact ih_74_5 (go, k4, unT tp1 ol1 (pt1 h2) tr2 sv1, pl1, pt1, tp1, ol1, se1, pt1 h2, h2) _ _ _ ⟨hP, hD, hS, lv_sub hl [1, 2, 3, 4, 5, 6] rfl, Or.inl ⟨hg, hk4, hsp, m1, by rw [if_pos c_120_7] at hm0; exact hm0⟩⟩ (show (if go = true then 0 else 1 + 2 * cnF n se1 + h2) < (if go = true then 0 else 1 + 2 * cnF n se1 + (h2 + 1)) from by rw [if_neg (by rw [c_76_6]; decide), if_neg (by rw [c_76_6]; decide)]; omega)
    · skip
      refine lv_aload_n hx hb dN_Mod_walk_57 rfl (lv_at hl 0 rfl) ?_
      refine va_get (D := D) (ci := 11) (v := .ref (q 17)) (C := RN_Mod) (T := FN_Mod) (N := 25) hx hb ht fN_Mod hown hK hP 0 rfl rfl 17 (by decide) (ht _ mw_923) (fun _ h9 => h9) rfl dN_Mod_walk_58 ?_
      refine lv_iload hx hb dN_Mod_walk_61 (lv_at hl 5 rfl) ?_
      refine lv_iconst (v := (zi false)) hx hb dN_Mod_walk_63 (by decide) ?_
      refine xz_ast hx hb hK hP hD hS 12 1 rfl rfl dN_Mod_walk_64 (by omega) (by omega) (fun H locs hP hD hS => ?_)
      have hP : va_P D clN [(o, .inr (11, [.int (nI th), .int (nI n), .int (nI b), .ref (q 3), .ref (q 4), .ref (q 5), .ref (q 6), .ref (q 7), .int (nI len), .ref (q 9), .ref (q 10), .ref (q 11), .ref (q 12), .ref (q 13), .ref (q 14), .ref (q 15), .ref (q 16), .ref (q 17), .int (nI 0), .int (nI (0 + 1)), .ref (q 20), .ref (q 21), .ref (q 22), .ref (q 23), .int (nI ma)])), (q 3, .inl (cI, 200, .inl (ni K))), (q 4, .inl (cI, 200, .inl vI)), (q 5, .inl (cI, 200, .inl fI)), (q 6, .inl (cI, 200, .inl sI)), (q 7, .inl (cI, 200, .inl (ni u))), (q 9, .inl (cZ, 40200, .inl (zb cb))), (q 11, .inl (cI, 20, .inl sv)), (q 13, .inl (cI, 500, .inl (ni (un pl 0 ka)))), (q 14, .inl (cI, 500, .inl (ni (un pt 0 0)))), (q 15, .inl (cI, 300, .inl (ni tp))), (q 16, .inl (cI, 300, .inl ol)), (q 17, .inl (cZ, 200, .inl (zb (ub se k false))))] H := hP
      have hD : va_D A [(o, .inr (11, [.int (nI th), .int (nI n), .int (nI b), .ref (q 3), .ref (q 4), .ref (q 5), .ref (q 6), .ref (q 7), .int (nI len), .ref (q 9), .ref (q 10), .ref (q 11), .ref (q 12), .ref (q 13), .ref (q 14), .ref (q 15), .ref (q 16), .ref (q 17), .int (nI 0), .int (nI (0 + 1)), .ref (q 20), .ref (q 21), .ref (q 22), .ref (q 23), .int (nI ma)])), (q 3, .inl (cI, 200, .inl (ni K))), (q 4, .inl (cI, 200, .inl vI)), (q 5, .inl (cI, 200, .inl fI)), (q 6, .inl (cI, 200, .inl sI)), (q 7, .inl (cI, 200, .inl (ni u))), (q 9, .inl (cZ, 40200, .inl (zb cb))), (q 11, .inl (cI, 20, .inl sv)), (q 13, .inl (cI, 500, .inl (ni (un pl 0 ka)))), (q 14, .inl (cI, 500, .inl (ni (un pt 0 0)))), (q 15, .inl (cI, 300, .inl (ni tp))), (q 16, .inl (cI, 300, .inl ol)), (q 17, .inl (cZ, 200, .inl (zb (ub se k false))))] := hD
      refine lv_iinc (v := (nI (k + 1))) (lv' := [(5, .int (nI (k + 1))), (0, .ref o), (1, .int (nI fr)), (2, .int x2), (3, .int (nI p)), (4, .int (nI ka))]) hx hb dN_Mod_walk_65 hl (k := 5) rfl (nI_1 _) (by decide) rfl (fun ls hl => ?_)
      refine lv_goto (tgt := 48) hx hb dN_Mod_walk_68 (by decide) ?_
      exact ih_48_3 (ub se k false, k + 1) _ _ _ ⟨hP, hD, hS, lv_sub hl [1, 2, 3, 4, 5, 0] rfl, ⟨by omega, fal_step hse⟩⟩ (show (n - (k + 1)) < (n - k) from by omega)
  · skip
    refine lv_aload_n hx hb dN_Mod_walk_8 rfl (lv_at hl 0 rfl) ?_
    refine va_get (D := D) (ci := 11) (v := .ref (q 11)) (C := RN_Mod) (T := FN_Mod) (N := 25) hx hb ht fN_Mod hown hK hP 0 rfl rfl 11 (by decide) (ht _ mw_917) (fun _ h9 => h9) rfl dN_Mod_walk_9 ?_
    refine lv_iload_n hx hb dN_Mod_walk_12 rfl (lv_at hl 3 rfl) ?_
    refine lv_iconst (v := (-1)) hx hb dN_Mod_walk_13 (by decide) ?_
    refine xi_ast hx hb hK hP hD hS 7 0 rfl rfl dN_Mod_walk_14 (by omega) (by omega) (fun H locs hP hD hS => ?_)
    have hP : va_P D clN [(o, .inr (11, [.int (nI th), .int (nI n), .int (nI b), .ref (q 3), .ref (q 4), .ref (q 5), .ref (q 6), .ref (q 7), .int (nI len), .ref (q 9), .ref (q 10), .ref (q 11), .ref (q 12), .ref (q 13), .ref (q 14), .ref (q 15), .ref (q 16), .ref (q 17), .int (nI tr), .int (nI hi), .ref (q 20), .ref (q 21), .ref (q 22), .ref (q 23), .int (nI ma)])), (q 3, .inl (cI, 200, .inl (ni K))), (q 4, .inl (cI, 200, .inl vI)), (q 5, .inl (cI, 200, .inl fI)), (q 6, .inl (cI, 200, .inl sI)), (q 7, .inl (cI, 200, .inl (ni u))), (q 9, .inl (cZ, 40200, .inl (zb cb))), (q 11, .inl (cI, 20, .inl ((upd sv k (-1))))), (q 13, .inl (cI, 500, .inl (ni pl))), (q 14, .inl (cI, 500, .inl (ni pt))), (q 15, .inl (cI, 300, .inl (ni tp))), (q 16, .inl (cI, 300, .inl ol)), (q 17, .inl (cZ, 200, .inl (zb se)))] H := hP
    have hD : va_D A [(o, .inr (11, [.int (nI th), .int (nI n), .int (nI b), .ref (q 3), .ref (q 4), .ref (q 5), .ref (q 6), .ref (q 7), .int (nI len), .ref (q 9), .ref (q 10), .ref (q 11), .ref (q 12), .ref (q 13), .ref (q 14), .ref (q 15), .ref (q 16), .ref (q 17), .int (nI tr), .int (nI hi), .ref (q 20), .ref (q 21), .ref (q 22), .ref (q 23), .int (nI ma)])), (q 3, .inl (cI, 200, .inl (ni K))), (q 4, .inl (cI, 200, .inl vI)), (q 5, .inl (cI, 200, .inl fI)), (q 6, .inl (cI, 200, .inl sI)), (q 7, .inl (cI, 200, .inl (ni u))), (q 9, .inl (cZ, 40200, .inl (zb cb))), (q 11, .inl (cI, 20, .inl ((upd sv k (-1))))), (q 13, .inl (cI, 500, .inl (ni pl))), (q 14, .inl (cI, 500, .inl (ni pt))), (q 15, .inl (cI, 300, .inl (ni tp))), (q 16, .inl (cI, 300, .inl ol)), (q 17, .inl (cZ, 200, .inl (zb se)))] := hD
    refine lv_iinc (v := (nI (k + 1))) (lv' := [(3, .int (nI (k + 1))), (0, .ref o), (1, .int (nI fr)), (2, .int x2)]) hx hb dN_Mod_walk_15 hl (k := 3) rfl (nI_1 _) (by decide) rfl (fun ls hl => ?_)
    refine lv_goto (tgt := 2) hx hb dN_Mod_walk_18 (by decide) ?_
    exact ih_2_0 (upd sv k (-1), k + 1) _ _ _ ⟨hP, hD, hS, lv_sub hl [1, 2, 3, 0] rfl, ⟨by omega, neg_step hsv⟩⟩ (show (20 - (k + 1)) < (20 - k) from by omega)
end
section
/-! What the reference answers, in its own words: the first place, the bound, the walk. -/
def Start (len how fr p : Nat) : Prop := fr ≤ p ∧ p ≤ len ∧ (how ≠ 0 → p = fr)
def LB (K V F S : Nat → Nat) (len : Nat) (u : Nat → Nat) (b how : Nat) (lo : Bool) (p L : Nat) (al : Bool) : Prop :=
  ((how = 2 ∨ lo = false) ∧ L = len ∧ al = decide (how = 2)) ∨ (how ≠ 2 ∧ lo = true ∧ al = true ∧ L ≤ len ∧ Fw K V F S len u p b L 0 ∧ ∀ p1, Fw K V F S len u p b p1 0 → p1 ≤ L)
def RefR (K V F S : Nat → Nat) (len : Nat) (u : Nat → Nat) (n b how : Nat) (lo : Bool) (fr : Nat) (r : Option (Nat × Nat × Sv)) : Prop :=
  (r = none ∧ ∀ p, Start len how fr p → ¬ Can K V F S len u len (decide (how = 2)) p b) ∨
  ∃ (p e : Nat) (sv : Sv), r = some (p, e, sv) ∧ Start len how fr p ∧ Can K V F S len u len (decide (how = 2)) p b ∧ (∀ p1, p1 < p → Start len how fr p1 → ¬ Can K V F S len u len (decide (how = 2)) p1 b) ∧ ∃ (L : Nat) (al : Bool), LB K V F S len u b how lo p L al ∧ p ≤ L ∧ gwN K V F S len u L al n (L + 1 - p) p b (fun _ => -1) = some (e, sv)
def resI (r : Option (Nat × Nat × Sv)) : Int32 := match r with
  | none => -1
  | some (_, e, _) => nI e
def resS (r : Option (Nat × Nat × Sv)) : Sv := match r with
  | none => fun _ => -1
  | some (p, e, sv) => upd (upd sv 0 (nI p)) 1 (nI e)
section RF
variable {K V F S : Nat → Nat} {len : Nat} {u : Nat → Nat} {L : Nat} {al : Bool} {p0 b p k n : Nat}
theorem Can_leT : ∀ (m p k : Nat), canN K V F S len u L true m p k = true → p ≤ L := by
  intro m
  induction m with
  | zero => intro p k h; simp [canN] at h
  | succ m ih =>
    intro p k h
    rw [canN] at h
    split at h
    · simp at h; omega
    · split at h
      · simp only [Bool.and_eq_true, decide_eq_true_eq] at h; omega
      · split at h
        · simp only [Bool.or_eq_true, Bool.and_eq_true] at h
          rcases h with h | h
          · exact ih _ _ h
          · exact ih _ _ h.2
        · cases h
/-- what can be come to from the beginning, and from which the END can be come to, lies on a way -/
theorem Fw_Can (hx : ∀ p k, Can K V F S len u L al (p + 1) k → p < L) (h : Fw K V F S len u p0 b p k) (hc : Can K V F S len u L al p k) : Can K V F S len u L al p0 b := by
  obtain ⟨m, hm⟩ := h
  induction m generalizing p k with
  | zero => rw [← hm.1, ← hm.2]; exact hc
  | succ m ih =>
    rcases hm with hm | ⟨p1, k1, h1, h2, rfl, rfl⟩ | ⟨k1, h1, h2, h3⟩
    · exact ih hc hm
    · exact ih ((Can_t h2).mpr ⟨hx _ _ hc, hc⟩) h1
    · refine ih ((Can_p h2).mpr ?_) h1
      rcases h3 with rfl | ⟨h3, rfl⟩
      · exact Or.inl hc
      · exact Or.inr ⟨h3, hc⟩
theorem Fw_CanT {e : Nat} (h : Fw K V F S len u p0 b e 0) : Can K V F S len u e true p0 b :=
  Fw_Can (fun p k ⟨m, hm⟩ => by have := Can_leT m _ _ hm; omega) h ((Can_0 e).mpr (Or.inl rfl))
theorem Can_Fw : ∀ (m p k : Nat), Fw K V F S len u p0 b p k → canN K V F S len u L al m p k = true → ∃ e, Fw K V F S len u p0 b e 0 := by
  intro m
  induction m with
  | zero => intro p k _ h; simp [canN] at h
  | succ m ih =>
    intro p k hw h
    by_cases h0 : k = 0
    · subst h0; exact ⟨p, hw⟩
    · cases ht : takB K V len u k p with
      | true => simp [canN, h0, ht] at h; exact ih _ _ (Fw_t hw ht) h.2
      | false =>
        cases hp : pasB K V len u k p with
        | false => simp [canN, h0, ht, hp] at h
        | true =>
          simp [canN, h0, ht, hp] at h
          rcases h with h | h
          · exact ih _ _ (Fw_f hw hp) h
          · exact ih _ _ (Fw_s hw hp h.1) h.2
theorem Las_some {x : Int32} (hp : p0 ≤ len) (h : Las K V F S len u p0 b (len + 1) x) (hc : Can K V F S len u L al p0 b) : ∃ e, x = nI e ∧ e ≤ len ∧ p0 ≤ e ∧ Fw K V F S len u p0 b e 0 ∧ ∀ p1, Fw K V F S len u p0 b p1 0 → p1 ≤ e := by
  obtain ⟨m, hm⟩ := hc
  obtain ⟨e, he⟩ := Can_Fw m p0 b Fw_0 hm
  rcases h with ⟨_, h2⟩ | ⟨e1, h1, h2, h3, h4⟩
  · exact absurd he (h2 e (by have := Fw_len hp he; omega))
  · exact ⟨e1, h1, by omega, Fw_ge h3, h3, fun p1 hw => h4 p1 (by have := Fw_len hp hw; omega) hw⟩
end RF
end
section
set_option maxHeartbeats 4000000 in
set_option maxRecDepth 100000 in
/-- find(how, lo, fr) -/
theorem kMod_find (l : Launch) (D : va_G) (cI cZ cJ : ClassId) (o : Nat) (q : Nat → Nat) (th n b len tr hi ma : Nat) (K V F S u : Nat → Nat) (vI fI sI : Nat → Int32) (cb cm : Nat → Bool) (sv : Sv) (pl pt tp : Nat → Nat) (ol : Sv) (se : Nat → Bool) (how : Nat) (lo : Bool) (fr : Nat) (hn0 : 0 < n) (hn : n ≤ 200) (hle : len ≤ 200) (hu : ∀ i, u i < 256) (hK5 : ∀ i, K i < 6) (hv : ∀ i, 0 < i → i < n → (K i = 1 ∨ K i = 3 ∨ K i = 4) → vI i = nI (V i)) (hvb : ∀ i, V i < 65536) (hv4 : ∀ i, i < n → K i = 4 → V i < 6) (hf : ∀ i, 0 < i → i < n → (K i = 1 ∨ K i = 2 ∨ K i = 3 ∨ K i = 4) → fI i = nI (F i) ∧ F i < n) (hs : ∀ i, 0 < i → i < n → K i = 2 → sI i = nI (S i) ∧ S i < n) (hv3 : ∀ i, i < n → K i = 3 → V i < 20) (hb0 : b < n) (hfr : fr ≤ len) (hh3 : how < 3) : vx_Mi l yN_Mod_find wN_Mod_find ({ frames := 4, cells := 0, slots := 0, locals := 130 }) D clN (tyN cI cZ cJ) [.ref o, .int (nI how), .int (zi lo), .int (nI fr)] [(o, .inr (11, [.int (nI th), .int (nI n), .int (nI b), .ref (q 3), .ref (q 4), .ref (q 5), .ref (q 6), .ref (q 7), .int (nI len), .ref (q 9), .ref (q 10), .ref (q 11), .ref (q 12), .ref (q 13), .ref (q 14), .ref (q 15), .ref (q 16), .ref (q 17), .int (nI tr), .int (nI hi), .ref (q 20), .ref (q 21), .ref (q 22), .ref (q 23), .int (nI ma)])), (q 3, .inl (cI, 200, .inl (ni K))), (q 4, .inl (cI, 200, .inl vI)), (q 5, .inl (cI, 200, .inl fI)), (q 6, .inl (cI, 200, .inl sI)), (q 7, .inl (cI, 200, .inl (ni u))), (q 9, .inl (cZ, 40200, .inl (zb cb))), (q 10, .inl (cZ, 40200, .inl (zb cm))), (q 11, .inl (cI, 20, .inl sv)), (q 13, .inl (cI, 500, .inl (ni pl))), (q 14, .inl (cI, 500, .inl (ni pt))), (q 15, .inl (cI, 300, .inl (ni tp))), (q 16, .inl (cI, 300, .inl ol)), (q 17, .inl (cZ, 200, .inl (zb se)))] (fun r w => ∃ (x : Option (Nat × Nat × Sv)) (cb cm : Nat → Bool) (sv : Sv) (pl pt tp : Nat → Nat) (ol : Sv) (se : Nat → Bool) (tr hi : Nat), RefR K V F S len u n b how lo fr x ∧ r = resI x ∧ (∀ p e s, x = some (p, e, s) → sv = resS x) ∧ w = [(o, .inr (11, [.int (nI th), .int (nI n), .int (nI b), .ref (q 3), .ref (q 4), .ref (q 5), .ref (q 6), .ref (q 7), .int (nI len), .ref (q 9), .ref (q 10), .ref (q 11), .ref (q 12), .ref (q 13), .ref (q 14), .ref (q 15), .ref (q 16), .ref (q 17), .int (nI tr), .int (nI hi), .ref (q 20), .ref (q 21), .ref (q 22), .ref (q 23), .int (nI ma)])), (q 3, .inl (cI, 200, .inl (ni K))), (q 4, .inl (cI, 200, .inl vI)), (q 5, .inl (cI, 200, .inl fI)), (q 6, .inl (cI, 200, .inl sI)), (q 7, .inl (cI, 200, .inl (ni u))), (q 9, .inl (cZ, 40200, .inl (zb cb))), (q 10, .inl (cZ, 40200, .inl (zb cm))), (q 11, .inl (cI, 20, .inl sv)), (q 13, .inl (cI, 500, .inl (ni pl))), (q 14, .inl (cI, 500, .inl (ni pt))), (q 15, .inl (cI, 300, .inl (ni tp))), (q 16, .inl (cI, 300, .inl ol)), (q 17, .inl (cZ, 200, .inl (zb se)))]) := by
  refine vx_startI (cc := cN_Mod_find) (maxL := 7) (ret := (some .int)) (by decide) rfl (Nat.le_of_ble_eq_true rfl) ?_
  intro p e s m below meth c A ls C hK hP hD hS hA hl
  obtain ⟨hx, hb, hr, hml, hown, hts, hlocks, hnm⟩ := id C
  have hown : s.vm.findClass "StepMachinesModel" = some m.cls := hown
  have ht : ∀ w ∈ TB, w.before _ s = true := fun w h => hts w (List.mem_cons_of_mem _ h)
  have hl : lv_has ls 7 [(0, .ref o), (1, .int (nI how)), (2, .int (zi lo)), (3, .int (nI fr))] := hl
  refine lv_aload_n hx hb dN_Mod_find_0 rfl (lv_at hl 0 rfl) ?_
  refine lv_aload_n hx hb dN_Mod_find_1 rfl (lv_at hl 0 rfl) ?_
  refine va_get (D := D) (ci := 11) (v := .int (nI len)) (C := RN_Mod) (T := FN_Mod) (N := 25) hx hb ht fN_Mod hown hK hP 0 rfl rfl 8 (by decide) (ht _ mw_914) (fun _ h9 => h9) rfl dN_Mod_find_2 ?_
  refine lv_iload_n hx hb dN_Mod_find_5 rfl (lv_at hl 3 rfl) ?_
  refine vx_join (α := Bool) (fun j1 => j1 = decide (how = 2)) (fun j1 => F0 m 16 ls [.int (zi j1), .int (nI fr), .int (nI len), .ref o]) (fun j1 hj1 => ?_) (fun Jj1 => ?_)
  · skip
    have hj_al := hj1
    refine vx_callv (wc := [(o, .inr (11, [.int (nI th), .int (nI n), .int (nI b), .ref (q 3), .ref (q 4), .ref (q 5), .ref (q 6), .ref (q 7), .int (nI len), .ref (q 9), .ref (q 10), .ref (q 11), .ref (q 12), .ref (q 13), .ref (q 14), .ref (q 15), .ref (q 16), .ref (q 17), .int (nI tr), .int (nI hi), .ref (q 20), .ref (q 21), .ref (q 22), .ref (q 23), .int (nI ma)])), (q 3, .inl (cI, 200, .inl (ni K))), (q 4, .inl (cI, 200, .inl vI)), (q 5, .inl (cI, 200, .inl fI)), (q 6, .inl (cI, 200, .inl sI)), (q 7, .inl (cI, 200, .inl (ni u))), (q 9, .inl (cZ, 40200, .inl (zb cb)))]) (wr := [(q 10, .inl (cZ, 40200, .inl (zb cm))), (q 11, .inl (cI, 20, .inl sv)), (q 13, .inl (cI, 500, .inl (ni pl))), (q 14, .inl (cI, 500, .inl (ni pt))), (q 15, .inl (cI, 300, .inl (ni tp))), (q 16, .inl (cI, 300, .inl ol)), (q 17, .inl (cZ, 200, .inl (zb se)))]) [0, 1, 2, 3, 4, 5, 6] [7, 8, 9, 10, 11, 12, 13] hK hP hD hS hA rfl rfl (by decide) (by decide) (va_runV (As := [.int (nI len), .int (nI fr), .int (zi j1)]) (rest := []) ⟨hx, hb, hml, hown, ht⟩ (kMod_note l D cI cZ cJ o q th n b len tr hi ma K V F S u vI fI sI cb len fr j1 hn0 hn hle hu hK5 hv hvb hv4 hf hs (Nat.le_refl _) (by omega) _) (⟨callB_of 3 ht (TB_in2 gN_Mod_note) rfl rfl rfl (ht _ mw_6) (ht _ mw_1025) (by decide +kernel) ⟨Nat.le_of_ble_eq_true rfl, Nat.le_of_ble_eq_true rfl⟩, ht _ mw_1027, ht _ ms_37⟩) (vx_preV [0, 1, 2, 3, 4, 5, 6] hK hP hD (by decide) rfl (ci := 11) rfl 0 rfl) rfl rfl hl.1 rfl (lv_room (Nat.le_of_ble_eq_true rfl)) dN_Mod_find_16 ⟨Nat.le_of_ble_eq_true rfl, Nat.le_of_ble_eq_true rfl⟩) (fun w1 H locs hq hP hD hS => ?_)
    obtain ⟨f0, rfl, hcb⟩ := hq
    have hP : va_P D clN [(o, .inr (11, [.int (nI th), .int (nI n), .int (nI b), .ref (q 3), .ref (q 4), .ref (q 5), .ref (q 6), .ref (q 7), .int (nI len), .ref (q 9), .ref (q 10), .ref (q 11), .ref (q 12), .ref (q 13), .ref (q 14), .ref (q 15), .ref (q 16), .ref (q 17), .int (nI tr), .int (nI hi), .ref (q 20), .ref (q 21), .ref (q 22), .ref (q 23), .int (nI ma)])), (q 3, .inl (cI, 200, .inl (ni K))), (q 4, .inl (cI, 200, .inl vI)), (q 5, .inl (cI, 200, .inl fI)), (q 6, .inl (cI, 200, .inl sI)), (q 7, .inl (cI, 200, .inl (ni u))), (q 9, .inl (cZ, 40200, .inl (zb f0))), (q 10, .inl (cZ, 40200, .inl (zb cm))), (q 11, .inl (cI, 20, .inl sv)), (q 13, .inl (cI, 500, .inl (ni pl))), (q 14, .inl (cI, 500, .inl (ni pt))), (q 15, .inl (cI, 300, .inl (ni tp))), (q 16, .inl (cI, 300, .inl ol)), (q 17, .inl (cZ, 200, .inl (zb se)))] H := hP.sub [7, 8, 9, 10, 11, 12, 13, 0, 1, 2, 3, 4, 5, 6] rfl
    have hD : va_D A [(o, .inr (11, [.int (nI th), .int (nI n), .int (nI b), .ref (q 3), .ref (q 4), .ref (q 5), .ref (q 6), .ref (q 7), .int (nI len), .ref (q 9), .ref (q 10), .ref (q 11), .ref (q 12), .ref (q 13), .ref (q 14), .ref (q 15), .ref (q 16), .ref (q 17), .int (nI tr), .int (nI hi), .ref (q 20), .ref (q 21), .ref (q 22), .ref (q 23), .int (nI ma)])), (q 3, .inl (cI, 200, .inl (ni K))), (q 4, .inl (cI, 200, .inl vI)), (q 5, .inl (cI, 200, .inl fI)), (q 6, .inl (cI, 200, .inl sI)), (q 7, .inl (cI, 200, .inl (ni u))), (q 9, .inl (cZ, 40200, .inl (zb f0))), (q 10, .inl (cZ, 40200, .inl (zb cm))), (q 11, .inl (cI, 20, .inl sv)), (q 13, .inl (cI, 500, .inl (ni pl))), (q 14, .inl (cI, 500, .inl (ni pt))), (q 15, .inl (cI, 300, .inl (ni tp))), (q 16, .inl (cI, 300, .inl ol)), (q 17, .inl (cZ, 200, .inl (zb se)))] := hD.sub [7, 8, 9, 10, 11, 12, 13, 0, 1, 2, 3, 4, 5, 6] (by decide) rfl
    refine lv_iload_n hx hb dN_Mod_find_19 rfl (lv_at hl 3 rfl) ?_
    refine lv_istore (lv' := [(4, .int (nI fr)), (0, .ref o), (1, .int (nI how)), (2, .int (zi lo)), (3, .int (nI fr))]) hx hb dN_Mod_find_20 hl (by decide) rfl (fun ls hl => ?_)
    refine vx_loop (α := Nat) (fun (a : Nat) (H : Heap) (locs : List Loc) (ls : Array Slot) => match a with | (p) => va_P D clN [(o, .inr (11, [.int (nI th), .int (nI n), .int (nI b), .ref (q 3), .ref (q 4), .ref (q 5), .ref (q 6), .ref (q 7), .int (nI len), .ref (q 9), .ref (q 10), .ref (q 11), .ref (q 12), .ref (q 13), .ref (q 14), .ref (q 15), .ref (q 16), .ref (q 17), .int (nI tr), .int (nI hi), .ref (q 20), .ref (q 21), .ref (q 22), .ref (q 23), .int (nI ma)])), (q 3, .inl (cI, 200, .inl (ni K))), (q 4, .inl (cI, 200, .inl vI)), (q 5, .inl (cI, 200, .inl fI)), (q 6, .inl (cI, 200, .inl sI)), (q 7, .inl (cI, 200, .inl (ni u))), (q 9, .inl (cZ, 40200, .inl (zb f0))), (q 10, .inl (cZ, 40200, .inl (zb cm))), (q 11, .inl (cI, 20, .inl sv)), (q 13, .inl (cI, 500, .inl (ni pl))), (q 14, .inl (cI, 500, .inl (ni pt))), (q 15, .inl (cI, 300, .inl (ni tp))), (q 16, .inl (cI, 300, .inl ol)), (q 17, .inl (cZ, 200, .inl (zb se)))] H ∧ va_D A [(o, .inr (11, [.int (nI th), .int (nI n), .int (nI b), .ref (q 3), .ref (q 4), .ref (q 5), .ref (q 6), .ref (q 7), .int (nI len), .ref (q 9), .ref (q 10), .ref (q 11), .ref (q 12), .ref (q 13), .ref (q 14), .ref (q 15), .ref (q 16), .ref (q 17), .int (nI tr), .int (nI hi), .ref (q 20), .ref (q 21), .ref (q 22), .ref (q 23), .int (nI ma)])), (q 3, .inl (cI, 200, .inl (ni K))), (q 4, .inl (cI, 200, .inl vI)), (q 5, .inl (cI, 200, .inl fI)), (q 6, .inl (cI, 200, .inl sI)), (q 7, .inl (cI, 200, .inl (ni u))), (q 9, .inl (cZ, 40200, .inl (zb f0))), (q 10, .inl (cZ, 40200, .inl (zb cm))), (q 11, .inl (cI, 20, .inl sv)), (q 13, .inl (cI, 500, .inl (ni pl))), (q 14, .inl (cI, 500, .inl (ni pt))), (q 15, .inl (cI, 300, .inl (ni tp))), (q 16, .inl (cI, 300, .inl ol)), (q 17, .inl (cZ, 200, .inl (zb se)))] ∧ va_S A s.heap H locs ∧ lv_has ls 7 [(0, .ref o), (1, .int (nI how)), (2, .int (zi lo)), (3, .int (nI fr)), (4, .int (nI p))] ∧ (fr ≤ p ∧ p ≤ len ∧ (how ≠ 0 → p = fr) ∧ ∀ p1, fr ≤ p1 → p1 < p → ¬ Can K V F S len u len j1 p1 b)) (fun (a : Nat) => match a with | (p) => len - p) 22 [] ?_ (fr) ⟨hP, hD, hS, lv_sub hl [1, 2, 3, 4, 0] rfl, ⟨by omega, by omega, fun _ => rfl, fun p1 h1 h2 => absurd h1 (by omega)⟩⟩
    intro a H locs ls hq ih_22_1
    obtain ⟨p, rfl⟩ : ∃ z, z = a := ⟨_, rfl⟩
    obtain ⟨hP, hD, hS, hl, hI⟩ := hq
    obtain ⟨hp1, hp2, hhow, hno⟩ := hI
    refine lv_iload_n hx hb dN_Mod_find_22 rfl (lv_at hl 1 rfl) ?_
    refine xn_ne0 (tgt := 60) hx hb dN_Mod_find_23 (by decide) (by omega) (fun c_23_2 => ?_) (fun c_23_2 => ?_)
    · skip
      refine lv_aload_n hx hb dN_Mod_find_60 rfl (lv_at hl 0 rfl) ?_
      refine va_get (D := D) (ci := 11) (v := .ref (q 9)) (C := RN_Mod) (T := FN_Mod) (N := 25) hx hb ht fN_Mod hown hK hP 0 rfl rfl 9 (by decide) (ht _ mw_915) (fun _ h9 => h9) rfl dN_Mod_find_61 ?_
      refine lv_sipush (v := (nI 200)) hx hb dN_Mod_find_64 (by decide) ?_
      refine lv_iload hx hb dN_Mod_find_67 (lv_at hl 4 rfl) ?_
      refine xn_mul hx hb dN_Mod_find_69 ?_
      refine lv_aload_n hx hb dN_Mod_find_70 rfl (lv_at hl 0 rfl) ?_
      refine va_get (D := D) (ci := 11) (v := .int (nI b)) (C := RN_Mod) (T := FN_Mod) (N := 25) hx hb ht fN_Mod hown hK hP 0 rfl rfl 2 (by decide) (ht _ mw_908) (fun _ h9 => h9) rfl dN_Mod_find_71 ?_
      refine xn_add hx hb dN_Mod_find_74 ?_
      refine xz_ald hx hb hK hP 6 1 rfl rfl dN_Mod_find_75 (by omega) (by omega) ?_
      refine xz_ne0 (tgt := 81) hx hb dN_Mod_find_76 (by decide) (fun c_76_3 => ?_) (fun c_76_3 => ?_)
      · skip
        have hcan : Can K V F S len u len (decide (how = 2)) p b := by rw [← hj_al]; exact (hcb p b hp1 hp2 hb0).mp c_76_3
        refine vx_join (α := Int32) (fun j5 => j5 = if how = 2 then nI len else -1) (fun j5 => F0 m 94 ls [.int j5]) (fun j5 hj5 => ?_) (fun Jj5 => ?_)
        · skip
          have hj_x := hj5
          refine lv_istore (lv' := [(5, .int j5), (0, .ref o), (1, .int (nI how)), (2, .int (zi lo)), (3, .int (nI fr)), (4, .int (nI p))]) hx hb dN_Mod_find_94 hl (by decide) rfl (fun ls hl => ?_)
          refine lv_iload_n hx hb dN_Mod_find_96 rfl (lv_at hl 3 rfl) ?_
          refine xz_eq0 (tgt := 122) hx hb dN_Mod_find_97 (by decide) (fun c_97_5 => ?_) (fun c_97_5 => ?_)
          · skip
            refine lv_aload_n hx hb dN_Mod_find_122 rfl (lv_at hl 1 rfl) ?_
            refine lv_iload hx hb dN_Mod_find_123 (lv_at hl 5 rfl) ?_
            refine lv_iload hx hb dN_Mod_find_125 (lv_at hl 0 rfl) ?_
            refine vx_calli (wc := [(o, .inr (11, [.int (nI th), .int (nI n), .int (nI b), .ref (q 3), .ref (q 4), .ref (q 5), .ref (q 6), .ref (q 7), .int (nI len), .ref (q 9), .ref (q 10), .ref (q 11), .ref (q 12), .ref (q 13), .ref (q 14), .ref (q 15), .ref (q 16), .ref (q 17), .int (nI tr), .int (nI hi), .ref (q 20), .ref (q 21), .ref (q 22), .ref (q 23), .int (nI ma)])), (q 3, .inl (cI, 200, .inl (ni K))), (q 4, .inl (cI, 200, .inl vI)), (q 5, .inl (cI, 200, .inl fI)), (q 6, .inl (cI, 200, .inl sI)), (q 7, .inl (cI, 200, .inl (ni u))), (q 9, .inl (cZ, 40200, .inl (zb f0))), (q 11, .inl (cI, 20, .inl sv)), (q 13, .inl (cI, 500, .inl (ni pl))), (q 14, .inl (cI, 500, .inl (ni pt))), (q 15, .inl (cI, 300, .inl (ni tp))), (q 16, .inl (cI, 300, .inl ol)), (q 17, .inl (cZ, 200, .inl (zb se)))]) (wr := [(q 10, .inl (cZ, 40200, .inl (zb cm)))]) [0, 1, 2, 3, 4, 5, 6, 8, 9, 10, 11, 12, 13] [7] hK hP hD hS hA rfl rfl (by decide) (by decide) (va_runV (As := [.int (nI p), .int j5]) (rest := []) ⟨hx, hb, hml, hown, ht⟩ (kMod_walk l D cI cZ cJ o q th n b len tr hi ma K V F S u vI fI sI f0 sv pl pt tp ol se p len (decide (how = 2)) j5 hn0 hn hle hu hK5 hv hvb hv4 hf hs hv3 hb0 (by rw [hj_x]; by_cases h9 : how = 2; (rw [if_pos h9, decide_eq_true h9]; exact Or.inr ⟨rfl, rfl, Nat.le_refl _⟩); (rw [if_neg h9, decide_eq_false h9]; exact Or.inl ⟨rfl, rfl, rfl⟩)) (by omega) (fun p1 k1 h1 h2 h3 => by rw [← hj_al]; exact hcb p1 k1 (by omega) h2 h3) hcan _) (⟨callB_of 2 ht (TB_in2 gN_Mod_walk) rfl rfl rfl (ht _ mw_6) (ht _ mw_1049) (by decide +kernel) ⟨Nat.le_of_ble_eq_true rfl, Nat.le_of_ble_eq_true rfl⟩, ht _ mw_1051, ht _ ms_43⟩) (vx_preV [0, 1, 2, 3, 4, 5, 6, 8, 9, 10, 11, 12, 13] hK hP hD (by decide) rfl (ci := 11) rfl 0 rfl) rfl rfl hl.1 rfl (lv_room (Nat.le_of_ble_eq_true rfl)) dN_Mod_find_127 ⟨Nat.le_of_ble_eq_true rfl, Nat.le_of_ble_eq_true rfl⟩) (fun r1 w1 H locs hq hP hD hS => ?_)
            obtain ⟨e2, sv3, pl3, pt3, tp3, ol3, se3, tr3, hi3, rfl, hgw, rfl⟩ := hq
            have hP : va_P D clN [(o, .inr (11, [.int (nI th), .int (nI n), .int (nI b), .ref (q 3), .ref (q 4), .ref (q 5), .ref (q 6), .ref (q 7), .int (nI len), .ref (q 9), .ref (q 10), .ref (q 11), .ref (q 12), .ref (q 13), .ref (q 14), .ref (q 15), .ref (q 16), .ref (q 17), .int (nI tr3), .int (nI hi3), .ref (q 20), .ref (q 21), .ref (q 22), .ref (q 23), .int (nI ma)])), (q 3, .inl (cI, 200, .inl (ni K))), (q 4, .inl (cI, 200, .inl vI)), (q 5, .inl (cI, 200, .inl fI)), (q 6, .inl (cI, 200, .inl sI)), (q 7, .inl (cI, 200, .inl (ni u))), (q 9, .inl (cZ, 40200, .inl (zb f0))), (q 10, .inl (cZ, 40200, .inl (zb cm))), (q 11, .inl (cI, 20, .inl sv3)), (q 13, .inl (cI, 500, .inl (ni pl3))), (q 14, .inl (cI, 500, .inl (ni pt3))), (q 15, .inl (cI, 300, .inl (ni tp3))), (q 16, .inl (cI, 300, .inl ol3)), (q 17, .inl (cZ, 200, .inl (zb se3)))] H := hP.sub [1, 2, 3, 4, 5, 6, 7, 0, 8, 9, 10, 11, 12, 13] rfl
            have hD : va_D A [(o, .inr (11, [.int (nI th), .int (nI n), .int (nI b), .ref (q 3), .ref (q 4), .ref (q 5), .ref (q 6), .ref (q 7), .int (nI len), .ref (q 9), .ref (q 10), .ref (q 11), .ref (q 12), .ref (q 13), .ref (q 14), .ref (q 15), .ref (q 16), .ref (q 17), .int (nI tr3), .int (nI hi3), .ref (q 20), .ref (q 21), .ref (q 22), .ref (q 23), .int (nI ma)])), (q 3, .inl (cI, 200, .inl (ni K))), (q 4, .inl (cI, 200, .inl vI)), (q 5, .inl (cI, 200, .inl fI)), (q 6, .inl (cI, 200, .inl sI)), (q 7, .inl (cI, 200, .inl (ni u))), (q 9, .inl (cZ, 40200, .inl (zb f0))), (q 10, .inl (cZ, 40200, .inl (zb cm))), (q 11, .inl (cI, 20, .inl sv3)), (q 13, .inl (cI, 500, .inl (ni pl3))), (q 14, .inl (cI, 500, .inl (ni pt3))), (q 15, .inl (cI, 300, .inl (ni tp3))), (q 16, .inl (cI, 300, .inl ol3)), (q 17, .inl (cZ, 200, .inl (zb se3)))] := hD.sub [1, 2, 3, 4, 5, 6, 7, 0, 8, 9, 10, 11, 12, 13] (by decide) rfl
            refine lv_istore (lv' := [(6, .int (nI e2)), (5, .int j5), (0, .ref o), (1, .int (nI how)), (2, .int (zi lo)), (3, .int (nI fr)), (4, .int (nI p))]) hx hb dN_Mod_find_130 hl (by decide) rfl (fun ls hl => ?_)
            refine lv_aload_n hx hb dN_Mod_find_132 rfl (lv_at hl 2 rfl) ?_
            refine va_get (D := D) (ci := 11) (v := .ref (q 11)) (C := RN_Mod) (T := FN_Mod) (N := 25) hx hb ht fN_Mod hown hK hP 0 rfl rfl 11 (by decide) (ht _ mw_917) (fun _ h9 => h9) rfl dN_Mod_find_133 ?_
            refine lv_iconst (v := (nI 0)) hx hb dN_Mod_find_136 (by decide) ?_
            refine lv_iload hx hb dN_Mod_find_137 (lv_at hl 6 rfl) ?_
            refine xi_ast hx hb hK hP hD hS 8 0 rfl rfl dN_Mod_find_139 (by omega) (by omega) (fun H locs hP hD hS => ?_)
            have hP : va_P D clN [(o, .inr (11, [.int (nI th), .int (nI n), .int (nI b), .ref (q 3), .ref (q 4), .ref (q 5), .ref (q 6), .ref (q 7), .int (nI len), .ref (q 9), .ref (q 10), .ref (q 11), .ref (q 12), .ref (q 13), .ref (q 14), .ref (q 15), .ref (q 16), .ref (q 17), .int (nI tr3), .int (nI hi3), .ref (q 20), .ref (q 21), .ref (q 22), .ref (q 23), .int (nI ma)])), (q 3, .inl (cI, 200, .inl (ni K))), (q 4, .inl (cI, 200, .inl vI)), (q 5, .inl (cI, 200, .inl fI)), (q 6, .inl (cI, 200, .inl sI)), (q 7, .inl (cI, 200, .inl (ni u))), (q 9, .inl (cZ, 40200, .inl (zb f0))), (q 10, .inl (cZ, 40200, .inl (zb cm))), (q 11, .inl (cI, 20, .inl ((upd sv3 0 (nI p))))), (q 13, .inl (cI, 500, .inl (ni pl3))), (q 14, .inl (cI, 500, .inl (ni pt3))), (q 15, .inl (cI, 300, .inl (ni tp3))), (q 16, .inl (cI, 300, .inl ol3)), (q 17, .inl (cZ, 200, .inl (zb se3)))] H := hP
            have hD : va_D A [(o, .inr (11, [.int (nI th), .int (nI n), .int (nI b), .ref (q 3), .ref (q 4), .ref (q 5), .ref (q 6), .ref (q 7), .int (nI len), .ref (q 9), .ref (q 10), .ref (q 11), .ref (q 12), .ref (q 13), .ref (q 14), .ref (q 15), .ref (q 16), .ref (q 17), .int (nI tr3), .int (nI hi3), .ref (q 20), .ref (q 21), .ref (q 22), .ref (q 23), .int (nI ma)])), (q 3, .inl (cI, 200, .inl (ni K))), (q 4, .inl (cI, 200, .inl vI)), (q 5, .inl (cI, 200, .inl fI)), (q 6, .inl (cI, 200, .inl sI)), (q 7, .inl (cI, 200, .inl (ni u))), (q 9, .inl (cZ, 40200, .inl (zb f0))), (q 10, .inl (cZ, 40200, .inl (zb cm))), (q 11, .inl (cI, 20, .inl ((upd sv3 0 (nI p))))), (q 13, .inl (cI, 500, .inl (ni pl3))), (q 14, .inl (cI, 500, .inl (ni pt3))), (q 15, .inl (cI, 300, .inl (ni tp3))), (q 16, .inl (cI, 300, .inl ol3)), (q 17, .inl (cZ, 200, .inl (zb se3)))] := hD
            refine lv_aload_n hx hb dN_Mod_find_140 rfl (lv_at hl 2 rfl) ?_
            refine va_get (D := D) (ci := 11) (v := .ref (q 11)) (C := RN_Mod) (T := FN_Mod) (N := 25) hx hb ht fN_Mod hown hK hP 0 rfl rfl 11 (by decide) (ht _ mw_917) (fun _ h9 => h9) rfl dN_Mod_find_141 ?_
            refine lv_iconst (v := (nI 1)) hx hb dN_Mod_find_144 (by decide) ?_
            refine lv_iload hx hb dN_Mod_find_145 (lv_at hl 0 rfl) ?_
            refine xi_ast hx hb hK hP hD hS 8 0 rfl rfl dN_Mod_find_147 (by omega) (by omega) (fun H locs hP hD hS => ?_)
            have hP : va_P D clN [(o, .inr (11, [.int (nI th), .int (nI n), .int (nI b), .ref (q 3), .ref (q 4), .ref (q 5), .ref (q 6), .ref (q 7), .int (nI len), .ref (q 9), .ref (q 10), .ref (q 11), .ref (q 12), .ref (q 13), .ref (q 14), .ref (q 15), .ref (q 16), .ref (q 17), .int (nI tr3), .int (nI hi3), .ref (q 20), .ref (q 21), .ref (q 22), .ref (q 23), .int (nI ma)])), (q 3, .inl (cI, 200, .inl (ni K))), (q 4, .inl (cI, 200, .inl vI)), (q 5, .inl (cI, 200, .inl fI)), (q 6, .inl (cI, 200, .inl sI)), (q 7, .inl (cI, 200, .inl (ni u))), (q 9, .inl (cZ, 40200, .inl (zb f0))), (q 10, .inl (cZ, 40200, .inl (zb cm))), (q 11, .inl (cI, 20, .inl ((upd (upd sv3 0 (nI p)) 1 (nI e2))))), (q 13, .inl (cI, 500, .inl (ni pl3))), (q 14, .inl (cI, 500, .inl (ni pt3))), (q 15, .inl (cI, 300, .inl (ni tp3))), (q 16, .inl (cI, 300, .inl ol3)), (q 17, .inl (cZ, 200, .inl (zb se3)))] H := hP
            have hD : va_D A [(o, .inr (11, [.int (nI th), .int (nI n), .int (nI b), .ref (q 3), .ref (q 4), .ref (q 5), .ref (q 6), .ref (q 7), .int (nI len), .ref (q 9), .ref (q 10), .ref (q 11), .ref (q 12), .ref (q 13), .ref (q 14), .ref (q 15), .ref (q 16), .ref (q 17), .int (nI tr3), .int (nI hi3), .ref (q 20), .ref (q 21), .ref (q 22), .ref (q 23), .int (nI ma)])), (q 3, .inl (cI, 200, .inl (ni K))), (q 4, .inl (cI, 200, .inl vI)), (q 5, .inl (cI, 200, .inl fI)), (q 6, .inl (cI, 200, .inl sI)), (q 7, .inl (cI, 200, .inl (ni u))), (q 9, .inl (cZ, 40200, .inl (zb f0))), (q 10, .inl (cZ, 40200, .inl (zb cm))), (q 11, .inl (cI, 20, .inl ((upd (upd sv3 0 (nI p)) 1 (nI e2))))), (q 13, .inl (cI, 500, .inl (ni pl3))), (q 14, .inl (cI, 500, .inl (ni pt3))), (q 15, .inl (cI, 300, .inl (ni tp3))), (q 16, .inl (cI, 300, .inl ol3)), (q 17, .inl (cZ, 200, .inl (zb se3)))] := hD
            refine lv_iload hx hb dN_Mod_find_148 (lv_at hl 0 rfl) ?_
            exact vx_iret C hK hP hD hS dN_Mod_find_150 (Nat.le_of_ble_eq_true rfl) (Nat.le_of_ble_eq_true rfl) (⟨some (p, e2, sv3), _, _, _, _, _, _, _, _, _, _, Or.inr ⟨p, e2, sv3, rfl, ⟨by omega, by omega, hhow⟩, hcan, (fun p1 h1 h2 => by rw [← hj_al]; exact hno p1 h2.1 h1), len, decide (how = 2), Or.inl ⟨Or.inr c_97_5, rfl, rfl⟩, by omega, hgw⟩, rfl, (fun _ _ _ h => by cases h; rfl), rfl⟩)
          · skip
            refine lv_iload_n hx hb dN_Mod_find_100 rfl (lv_at hl 2 rfl) ?_
            refine lv_iconst (v := (nI 2)) hx hb dN_Mod_find_101 (by decide) ?_
            refine xn_ge (tgt := 122) hx hb dN_Mod_find_102 (by decide) (by omega) (by omega) (fun c_102_6 => ?_) (fun c_102_6 => ?_)
            · skip
              refine lv_aload_n hx hb dN_Mod_find_122 rfl (lv_at hl 1 rfl) ?_
              refine lv_iload hx hb dN_Mod_find_123 (lv_at hl 5 rfl) ?_
              refine lv_iload hx hb dN_Mod_find_125 (lv_at hl 0 rfl) ?_
              refine vx_calli (wc := [(o, .inr (11, [.int (nI th), .int (nI n), .int (nI b), .ref (q 3), .ref (q 4), .ref (q 5), .ref (q 6), .ref (q 7), .int (nI len), .ref (q 9), .ref (q 10), .ref (q 11), .ref (q 12), .ref (q 13), .ref (q 14), .ref (q 15), .ref (q 16), .ref (q 17), .int (nI tr), .int (nI hi), .ref (q 20), .ref (q 21), .ref (q 22), .ref (q 23), .int (nI ma)])), (q 3, .inl (cI, 200, .inl (ni K))), (q 4, .inl (cI, 200, .inl vI)), (q 5, .inl (cI, 200, .inl fI)), (q 6, .inl (cI, 200, .inl sI)), (q 7, .inl (cI, 200, .inl (ni u))), (q 9, .inl (cZ, 40200, .inl (zb f0))), (q 11, .inl (cI, 20, .inl sv)), (q 13, .inl (cI, 500, .inl (ni pl))), (q 14, .inl (cI, 500, .inl (ni pt))), (q 15, .inl (cI, 300, .inl (ni tp))), (q 16, .inl (cI, 300, .inl ol)), (q 17, .inl (cZ, 200, .inl (zb se)))]) (wr := [(q 10, .inl (cZ, 40200, .inl (zb cm)))]) [0, 1, 2, 3, 4, 5, 6, 8, 9, 10, 11, 12, 13] [7] hK hP hD hS hA rfl rfl (by decide) (by decide) (va_runV (As := [.int (nI p), .int j5]) (rest := []) ⟨hx, hb, hml, hown, ht⟩ (kMod_walk l D cI cZ cJ o q th n b len tr hi ma K V F S u vI fI sI f0 sv pl pt tp ol se p len (decide (how = 2)) j5 hn0 hn hle hu hK5 hv hvb hv4 hf hs hv3 hb0 (by rw [hj_x]; by_cases h9 : how = 2; (rw [if_pos h9, decide_eq_true h9]; exact Or.inr ⟨rfl, rfl, Nat.le_refl _⟩); (rw [if_neg h9, decide_eq_false h9]; exact Or.inl ⟨rfl, rfl, rfl⟩)) (by omega) (fun p1 k1 h1 h2 h3 => by rw [← hj_al]; exact hcb p1 k1 (by omega) h2 h3) hcan _) (⟨callB_of 2 ht (TB_in2 gN_Mod_walk) rfl rfl rfl (ht _ mw_6) (ht _ mw_1049) (by decide +kernel) ⟨Nat.le_of_ble_eq_true rfl, Nat.le_of_ble_eq_true rfl⟩, ht _ mw_1051, ht _ ms_43⟩) (vx_preV [0, 1, 2, 3, 4, 5, 6, 8, 9, 10, 11, 12, 13] hK hP hD (by decide) rfl (ci := 11) rfl 0 rfl) rfl rfl hl.1 rfl (lv_room (Nat.le_of_ble_eq_true rfl)) dN_Mod_find_127 ⟨Nat.le_of_ble_eq_true rfl, Nat.le_of_ble_eq_true rfl⟩) (fun r1 w1 H locs hq hP hD hS => ?_)
              obtain ⟨e2, sv3, pl3, pt3, tp3, ol3, se3, tr3, hi3, rfl, hgw, rfl⟩ := hq
              have hP : va_P D clN [(o, .inr (11, [.int (nI th), .int (nI n), .int (nI b), .ref (q 3), .ref (q 4), .ref (q 5), .ref (q 6), .ref (q 7), .int (nI len), .ref (q 9), .ref (q 10), .ref (q 11), .ref (q 12), .ref (q 13), .ref (q 14), .ref (q 15), .ref (q 16), .ref (q 17), .int (nI tr3), .int (nI hi3), .ref (q 20), .ref (q 21), .ref (q 22), .ref (q 23), .int (nI ma)])), (q 3, .inl (cI, 200, .inl (ni K))), (q 4, .inl (cI, 200, .inl vI)), (q 5, .inl (cI, 200, .inl fI)), (q 6, .inl (cI, 200, .inl sI)), (q 7, .inl (cI, 200, .inl (ni u))), (q 9, .inl (cZ, 40200, .inl (zb f0))), (q 10, .inl (cZ, 40200, .inl (zb cm))), (q 11, .inl (cI, 20, .inl sv3)), (q 13, .inl (cI, 500, .inl (ni pl3))), (q 14, .inl (cI, 500, .inl (ni pt3))), (q 15, .inl (cI, 300, .inl (ni tp3))), (q 16, .inl (cI, 300, .inl ol3)), (q 17, .inl (cZ, 200, .inl (zb se3)))] H := hP.sub [1, 2, 3, 4, 5, 6, 7, 0, 8, 9, 10, 11, 12, 13] rfl
              have hD : va_D A [(o, .inr (11, [.int (nI th), .int (nI n), .int (nI b), .ref (q 3), .ref (q 4), .ref (q 5), .ref (q 6), .ref (q 7), .int (nI len), .ref (q 9), .ref (q 10), .ref (q 11), .ref (q 12), .ref (q 13), .ref (q 14), .ref (q 15), .ref (q 16), .ref (q 17), .int (nI tr3), .int (nI hi3), .ref (q 20), .ref (q 21), .ref (q 22), .ref (q 23), .int (nI ma)])), (q 3, .inl (cI, 200, .inl (ni K))), (q 4, .inl (cI, 200, .inl vI)), (q 5, .inl (cI, 200, .inl fI)), (q 6, .inl (cI, 200, .inl sI)), (q 7, .inl (cI, 200, .inl (ni u))), (q 9, .inl (cZ, 40200, .inl (zb f0))), (q 10, .inl (cZ, 40200, .inl (zb cm))), (q 11, .inl (cI, 20, .inl sv3)), (q 13, .inl (cI, 500, .inl (ni pl3))), (q 14, .inl (cI, 500, .inl (ni pt3))), (q 15, .inl (cI, 300, .inl (ni tp3))), (q 16, .inl (cI, 300, .inl ol3)), (q 17, .inl (cZ, 200, .inl (zb se3)))] := hD.sub [1, 2, 3, 4, 5, 6, 7, 0, 8, 9, 10, 11, 12, 13] (by decide) rfl
              refine lv_istore (lv' := [(6, .int (nI e2)), (5, .int j5), (0, .ref o), (1, .int (nI how)), (2, .int (zi lo)), (3, .int (nI fr)), (4, .int (nI p))]) hx hb dN_Mod_find_130 hl (by decide) rfl (fun ls hl => ?_)
              refine lv_aload_n hx hb dN_Mod_find_132 rfl (lv_at hl 2 rfl) ?_
              refine va_get (D := D) (ci := 11) (v := .ref (q 11)) (C := RN_Mod) (T := FN_Mod) (N := 25) hx hb ht fN_Mod hown hK hP 0 rfl rfl 11 (by decide) (ht _ mw_917) (fun _ h9 => h9) rfl dN_Mod_find_133 ?_
              refine lv_iconst (v := (nI 0)) hx hb dN_Mod_find_136 (by decide) ?_
              refine lv_iload hx hb dN_Mod_find_137 (lv_at hl 6 rfl) ?_
              refine xi_ast hx hb hK hP hD hS 8 0 rfl rfl dN_Mod_find_139 (by omega) (by omega) (fun H locs hP hD hS => ?_)
              have hP : va_P D clN [(o, .inr (11, [.int (nI th), .int (nI n), .int (nI b), .ref (q 3), .ref (q 4), .ref (q 5), .ref (q 6), .ref (q 7), .int (nI len), .ref (q 9), .ref (q 10), .ref (q 11), .ref (q 12), .ref (q 13), .ref (q 14), .ref (q 15), .ref (q 16), .ref (q 17), .int (nI tr3), .int (nI hi3), .ref (q 20), .ref (q 21), .ref (q 22), .ref (q 23), .int (nI ma)])), (q 3, .inl (cI, 200, .inl (ni K))), (q 4, .inl (cI, 200, .inl vI)), (q 5, .inl (cI, 200, .inl fI)), (q 6, .inl (cI, 200, .inl sI)), (q 7, .inl (cI, 200, .inl (ni u))), (q 9, .inl (cZ, 40200, .inl (zb f0))), (q 10, .inl (cZ, 40200, .inl (zb cm))), (q 11, .inl (cI, 20, .inl ((upd sv3 0 (nI p))))), (q 13, .inl (cI, 500, .inl (ni pl3))), (q 14, .inl (cI, 500, .inl (ni pt3))), (q 15, .inl (cI, 300, .inl (ni tp3))), (q 16, .inl (cI, 300, .inl ol3)), (q 17, .inl (cZ, 200, .inl (zb se3)))] H := hP
              have hD : va_D A [(o, .inr (11, [.int (nI th), .int (nI n), .int (nI b), .ref (q 3), .ref (q 4), .ref (q 5), .ref (q 6), .ref (q 7), .int (nI len), .ref (q 9), .ref (q 10), .ref (q 11), .ref (q 12), .ref (q 13), .ref (q 14), .ref (q 15), .ref (q 16), .ref (q 17), .int (nI tr3), .int (nI hi3), .ref (q 20), .ref (q 21), .ref (q 22), .ref (q 23), .int (nI ma)])), (q 3, .inl (cI, 200, .inl (ni K))), (q 4, .inl (cI, 200, .inl vI)), (q 5, .inl (cI, 200, .inl fI)), (q 6, .inl (cI, 200, .inl sI)), (q 7, .inl (cI, 200, .inl (ni u))), (q 9, .inl (cZ, 40200, .inl (zb f0))), (q 10, .inl (cZ, 40200, .inl (zb cm))), (q 11, .inl (cI, 20, .inl ((upd sv3 0 (nI p))))), (q 13, .inl (cI, 500, .inl (ni pl3))), (q 14, .inl (cI, 500, .inl (ni pt3))), (q 15, .inl (cI, 300, .inl (ni tp3))), (q 16, .inl (cI, 300, .inl ol3)), (q 17, .inl (cZ, 200, .inl (zb se3)))] := hD
              refine lv_aload_n hx hb dN_Mod_find_140 rfl (lv_at hl 2 rfl) ?_
              refine va_get (D := D) (ci := 11) (v := .ref (q 11)) (C := RN_Mod) (T := FN_Mod) (N := 25) hx hb ht fN_Mod hown hK hP 0 rfl rfl 11 (by decide) (ht _ mw_917) (fun _ h9 => h9) rfl dN_Mod_find_141 ?_
              refine lv_iconst (v := (nI 1)) hx hb dN_Mod_find_144 (by decide) ?_
              refine lv_iload hx hb dN_Mod_find_145 (lv_at hl 0 rfl) ?_
              refine xi_ast hx hb hK hP hD hS 8 0 rfl rfl dN_Mod_find_147 (by omega) (by omega) (fun H locs hP hD hS => ?_)
              have hP : va_P D clN [(o, .inr (11, [.int (nI th), .int (nI n), .int (nI b), .ref (q 3), .ref (q 4), .ref (q 5), .ref (q 6), .ref (q 7), .int (nI len), .ref (q 9), .ref (q 10), .ref (q 11), .ref (q 12), .ref (q 13), .ref (q 14), .ref (q 15), .ref (q 16), .ref (q 17), .int (nI tr3), .int (nI hi3), .ref (q 20), .ref (q 21), .ref (q 22), .ref (q 23), .int (nI ma)])), (q 3, .inl (cI, 200, .inl (ni K))), (q 4, .inl (cI, 200, .inl vI)), (q 5, .inl (cI, 200, .inl fI)), (q 6, .inl (cI, 200, .inl sI)), (q 7, .inl (cI, 200, .inl (ni u))), (q 9, .inl (cZ, 40200, .inl (zb f0))), (q 10, .inl (cZ, 40200, .inl (zb cm))), (q 11, .inl (cI, 20, .inl ((upd (upd sv3 0 (nI p)) 1 (nI e2))))), (q 13, .inl (cI, 500, .inl (ni pl3))), (q 14, .inl (cI, 500, .inl (ni pt3))), (q 15, .inl (cI, 300, .inl (ni tp3))), (q 16, .inl (cI, 300, .inl ol3)), (q 17, .inl (cZ, 200, .inl (zb se3)))] H := hP
              have hD : va_D A [(o, .inr (11, [.int (nI th), .int (nI n), .int (nI b), .ref (q 3), .ref (q 4), .ref (q 5), .ref (q 6), .ref (q 7), .int (nI len), .ref (q 9), .ref (q 10), .ref (q 11), .ref (q 12), .ref (q 13), .ref (q 14), .ref (q 15), .ref (q 16), .ref (q 17), .int (nI tr3), .int (nI hi3), .ref (q 20), .ref (q 21), .ref (q 22), .ref (q 23), .int (nI ma)])), (q 3, .inl (cI, 200, .inl (ni K))), (q 4, .inl (cI, 200, .inl vI)), (q 5, .inl (cI, 200, .inl fI)), (q 6, .inl (cI, 200, .inl sI)), (q 7, .inl (cI, 200, .inl (ni u))), (q 9, .inl (cZ, 40200, .inl (zb f0))), (q 10, .inl (cZ, 40200, .inl (zb cm))), (q 11, .inl (cI, 20, .inl ((upd (upd sv3 0 (nI p)) 1 (nI e2))))), (q 13, .inl (cI, 500, .inl (ni pl3))), (q 14, .inl (cI, 500, .inl (ni pt3))), (q 15, .inl (cI, 300, .inl (ni tp3))), (q 16, .inl (cI, 300, .inl ol3)), (q 17, .inl (cZ, 200, .inl (zb se3)))] := hD
              refine lv_iload hx hb dN_Mod_find_148 (lv_at hl 0 rfl) ?_
              exact vx_iret C hK hP hD hS dN_Mod_find_150 (Nat.le_of_ble_eq_true rfl) (Nat.le_of_ble_eq_true rfl) (⟨some (p, e2, sv3), _, _, _, _, _, _, _, _, _, _, Or.inr ⟨p, e2, sv3, rfl, ⟨by omega, by omega, hhow⟩, hcan, (fun p1 h1 h2 => by rw [← hj_al]; exact hno p1 h2.1 h1), len, decide (how = 2), Or.inl ⟨Or.inl (by omega), rfl, rfl⟩, by omega, hgw⟩, rfl, (fun _ _ _ h => by cases h; rfl), rfl⟩)
            · skip
              refine lv_aload_n hx hb dN_Mod_find_105 rfl (lv_at hl 1 rfl) ?_
              refine lv_iload hx hb dN_Mod_find_106 (lv_at hl 5 rfl) ?_
              refine vx_calli (wc := [(o, .inr (11, [.int (nI th), .int (nI n), .int (nI b), .ref (q 3), .ref (q 4), .ref (q 5), .ref (q 6), .ref (q 7), .int (nI len), .ref (q 9), .ref (q 10), .ref (q 11), .ref (q 12), .ref (q 13), .ref (q 14), .ref (q 15), .ref (q 16), .ref (q 17), .int (nI tr), .int (nI hi), .ref (q 20), .ref (q 21), .ref (q 22), .ref (q 23), .int (nI ma)])), (q 3, .inl (cI, 200, .inl (ni K))), (q 4, .inl (cI, 200, .inl vI)), (q 5, .inl (cI, 200, .inl fI)), (q 6, .inl (cI, 200, .inl sI)), (q 7, .inl (cI, 200, .inl (ni u))), (q 10, .inl (cZ, 40200, .inl (zb cm)))]) (wr := [(q 9, .inl (cZ, 40200, .inl (zb f0))), (q 11, .inl (cI, 20, .inl sv)), (q 13, .inl (cI, 500, .inl (ni pl))), (q 14, .inl (cI, 500, .inl (ni pt))), (q 15, .inl (cI, 300, .inl (ni tp))), (q 16, .inl (cI, 300, .inl ol)), (q 17, .inl (cZ, 200, .inl (zb se)))]) [0, 1, 2, 3, 4, 5, 7] [6, 8, 9, 10, 11, 12, 13] hK hP hD hS hA rfl rfl (by decide) (by decide) (va_runV (As := [.int (nI p)]) (rest := []) ⟨hx, hb, hml, hown, ht⟩ (kMod_lastEnd l D cI cZ cJ o q th n b len tr hi ma K V F S u vI fI sI cm p hn0 hn hle hu hK5 hv hvb hv4 hf hs (by omega) hb0 _) (⟨callB_of 1 ht (TB_in2 gN_Mod_lastEnd) rfl rfl rfl (ht _ mw_6) (ht _ mw_1045) (by decide +kernel) ⟨Nat.le_of_ble_eq_true rfl, Nat.le_of_ble_eq_true rfl⟩, ht _ mw_1047, ht _ ms_42⟩) (vx_preV [0, 1, 2, 3, 4, 5, 7] hK hP hD (by decide) rfl (ci := 11) rfl 0 rfl) rfl rfl hl.1 rfl (lv_room (Nat.le_of_ble_eq_true rfl)) dN_Mod_find_108 ⟨Nat.le_of_ble_eq_true rfl, Nat.le_of_ble_eq_true rfl⟩) (fun r1 w1 H locs hq hP hD hS => ?_)
              obtain ⟨f1, rfl, hla⟩ := hq
              obtain ⟨e1, rfl, he1, he2, he3, he4⟩ := Las_some (by omega) hla hcan
              have hP : va_P D clN [(o, .inr (11, [.int (nI th), .int (nI n), .int (nI b), .ref (q 3), .ref (q 4), .ref (q 5), .ref (q 6), .ref (q 7), .int (nI len), .ref (q 9), .ref (q 10), .ref (q 11), .ref (q 12), .ref (q 13), .ref (q 14), .ref (q 15), .ref (q 16), .ref (q 17), .int (nI tr), .int (nI hi), .ref (q 20), .ref (q 21), .ref (q 22), .ref (q 23), .int (nI ma)])), (q 3, .inl (cI, 200, .inl (ni K))), (q 4, .inl (cI, 200, .inl vI)), (q 5, .inl (cI, 200, .inl fI)), (q 6, .inl (cI, 200, .inl sI)), (q 7, .inl (cI, 200, .inl (ni u))), (q 9, .inl (cZ, 40200, .inl (zb f0))), (q 10, .inl (cZ, 40200, .inl (zb f1))), (q 11, .inl (cI, 20, .inl sv)), (q 13, .inl (cI, 500, .inl (ni pl))), (q 14, .inl (cI, 500, .inl (ni pt))), (q 15, .inl (cI, 300, .inl (ni tp))), (q 16, .inl (cI, 300, .inl ol)), (q 17, .inl (cZ, 200, .inl (zb se)))] H := hP.sub [7, 8, 9, 10, 11, 12, 0, 13, 1, 2, 3, 4, 5, 6] rfl
              have hD : va_D A [(o, .inr (11, [.int (nI th), .int (nI n), .int (nI b), .ref (q 3), .ref (q 4), .ref (q 5), .ref (q 6), .ref (q 7), .int (nI len), .ref (q 9), .ref (q 10), .ref (q 11), .ref (q 12), .ref (q 13), .ref (q 14), .ref (q 15), .ref (q 16), .ref (q 17), .int (nI tr), .int (nI hi), .ref (q 20), .ref (q 21), .ref (q 22), .ref (q 23), .int (nI ma)])), (q 3, .inl (cI, 200, .inl (ni K))), (q 4, .inl (cI, 200, .inl vI)), (q 5, .inl (cI, 200, .inl fI)), (q 6, .inl (cI, 200, .inl sI)), (q 7, .inl (cI, 200, .inl (ni u))), (q 9, .inl (cZ, 40200, .inl (zb f0))), (q 10, .inl (cZ, 40200, .inl (zb f1))), (q 11, .inl (cI, 20, .inl sv)), (q 13, .inl (cI, 500, .inl (ni pl))), (q 14, .inl (cI, 500, .inl (ni pt))), (q 15, .inl (cI, 300, .inl (ni tp))), (q 16, .inl (cI, 300, .inl ol)), (q 17, .inl (cZ, 200, .inl (zb se)))] := hD.sub [7, 8, 9, 10, 11, 12, 0, 13, 1, 2, 3, 4, 5, 6] (by decide) rfl
              refine lv_istore (lv' := [(5, .int (nI e1)), (0, .ref o), (1, .int (nI how)), (2, .int (zi lo)), (3, .int (nI fr)), (4, .int (nI p))]) hx hb dN_Mod_find_111 hl (by decide) rfl (fun ls hl => ?_)
              refine lv_aload_n hx hb dN_Mod_find_113 rfl (lv_at hl 1 rfl) ?_
              refine lv_iload hx hb dN_Mod_find_114 (lv_at hl 0 rfl) ?_
              refine lv_iload hx hb dN_Mod_find_116 (lv_at hl 5 rfl) ?_
              refine lv_iconst (v := (zi true)) hx hb dN_Mod_find_118 (by decide) ?_
              refine vx_callv (wc := [(o, .inr (11, [.int (nI th), .int (nI n), .int (nI b), .ref (q 3), .ref (q 4), .ref (q 5), .ref (q 6), .ref (q 7), .int (nI len), .ref (q 9), .ref (q 10), .ref (q 11), .ref (q 12), .ref (q 13), .ref (q 14), .ref (q 15), .ref (q 16), .ref (q 17), .int (nI tr), .int (nI hi), .ref (q 20), .ref (q 21), .ref (q 22), .ref (q 23), .int (nI ma)])), (q 3, .inl (cI, 200, .inl (ni K))), (q 4, .inl (cI, 200, .inl vI)), (q 5, .inl (cI, 200, .inl fI)), (q 6, .inl (cI, 200, .inl sI)), (q 7, .inl (cI, 200, .inl (ni u))), (q 9, .inl (cZ, 40200, .inl (zb f0)))]) (wr := [(q 10, .inl (cZ, 40200, .inl (zb f1))), (q 11, .inl (cI, 20, .inl sv)), (q 13, .inl (cI, 500, .inl (ni pl))), (q 14, .inl (cI, 500, .inl (ni pt))), (q 15, .inl (cI, 300, .inl (ni tp))), (q 16, .inl (cI, 300, .inl ol)), (q 17, .inl (cZ, 200, .inl (zb se)))]) [0, 1, 2, 3, 4, 5, 6] [7, 8, 9, 10, 11, 12, 13] hK hP hD hS hA rfl rfl (by decide) (by decide) (va_runV (As := [.int (nI e1), .int (nI p), .int (zi true)]) (rest := []) ⟨hx, hb, hml, hown, ht⟩ (kMod_note l D cI cZ cJ o q th n b len tr hi ma K V F S u vI fI sI f0 e1 p true hn0 hn hle hu hK5 hv hvb hv4 hf hs he1 (by omega) _) (⟨callB_of 3 ht (TB_in2 gN_Mod_note) rfl rfl rfl (ht _ mw_6) (ht _ mw_1025) (by decide +kernel) ⟨Nat.le_of_ble_eq_true rfl, Nat.le_of_ble_eq_true rfl⟩, ht _ mw_1027, ht _ ms_37⟩) (vx_preV [0, 1, 2, 3, 4, 5, 6] hK hP hD (by decide) rfl (ci := 11) rfl 0 rfl) rfl rfl hl.1 rfl (lv_room (Nat.le_of_ble_eq_true rfl)) dN_Mod_find_119 ⟨Nat.le_of_ble_eq_true rfl, Nat.le_of_ble_eq_true rfl⟩) (fun w1 H locs hq hP hD hS => ?_)
              obtain ⟨f2, rfl, hcb2⟩ := hq
              have hP : va_P D clN [(o, .inr (11, [.int (nI th), .int (nI n), .int (nI b), .ref (q 3), .ref (q 4), .ref (q 5), .ref (q 6), .ref (q 7), .int (nI len), .ref (q 9), .ref (q 10), .ref (q 11), .ref (q 12), .ref (q 13), .ref (q 14), .ref (q 15), .ref (q 16), .ref (q 17), .int (nI tr), .int (nI hi), .ref (q 20), .ref (q 21), .ref (q 22), .ref (q 23), .int (nI ma)])), (q 3, .inl (cI, 200, .inl (ni K))), (q 4, .inl (cI, 200, .inl vI)), (q 5, .inl (cI, 200, .inl fI)), (q 6, .inl (cI, 200, .inl sI)), (q 7, .inl (cI, 200, .inl (ni u))), (q 9, .inl (cZ, 40200, .inl (zb f2))), (q 10, .inl (cZ, 40200, .inl (zb f1))), (q 11, .inl (cI, 20, .inl sv)), (q 13, .inl (cI, 500, .inl (ni pl))), (q 14, .inl (cI, 500, .inl (ni pt))), (q 15, .inl (cI, 300, .inl (ni tp))), (q 16, .inl (cI, 300, .inl ol)), (q 17, .inl (cZ, 200, .inl (zb se)))] H := hP.sub [7, 8, 9, 10, 11, 12, 13, 0, 1, 2, 3, 4, 5, 6] rfl
              have hD : va_D A [(o, .inr (11, [.int (nI th), .int (nI n), .int (nI b), .ref (q 3), .ref (q 4), .ref (q 5), .ref (q 6), .ref (q 7), .int (nI len), .ref (q 9), .ref (q 10), .ref (q 11), .ref (q 12), .ref (q 13), .ref (q 14), .ref (q 15), .ref (q 16), .ref (q 17), .int (nI tr), .int (nI hi), .ref (q 20), .ref (q 21), .ref (q 22), .ref (q 23), .int (nI ma)])), (q 3, .inl (cI, 200, .inl (ni K))), (q 4, .inl (cI, 200, .inl vI)), (q 5, .inl (cI, 200, .inl fI)), (q 6, .inl (cI, 200, .inl sI)), (q 7, .inl (cI, 200, .inl (ni u))), (q 9, .inl (cZ, 40200, .inl (zb f2))), (q 10, .inl (cZ, 40200, .inl (zb f1))), (q 11, .inl (cI, 20, .inl sv)), (q 13, .inl (cI, 500, .inl (ni pl))), (q 14, .inl (cI, 500, .inl (ni pt))), (q 15, .inl (cI, 300, .inl (ni tp))), (q 16, .inl (cI, 300, .inl ol)), (q 17, .inl (cZ, 200, .inl (zb se)))] := hD.sub [7, 8, 9, 10, 11, 12, 13, 0, 1, 2, 3, 4, 5, 6] (by decide) rfl
              refine lv_aload_n hx hb dN_Mod_find_122 rfl (lv_at hl 1 rfl) ?_
              refine lv_iload hx hb dN_Mod_find_123 (lv_at hl 5 rfl) ?_
              refine lv_iload hx hb dN_Mod_find_125 (lv_at hl 0 rfl) ?_
              refine vx_calli (wc := [(o, .inr (11, [.int (nI th), .int (nI n), .int (nI b), .ref (q 3), .ref (q 4), .ref (q 5), .ref (q 6), .ref (q 7), .int (nI len), .ref (q 9), .ref (q 10), .ref (q 11), .ref (q 12), .ref (q 13), .ref (q 14), .ref (q 15), .ref (q 16), .ref (q 17), .int (nI tr), .int (nI hi), .ref (q 20), .ref (q 21), .ref (q 22), .ref (q 23), .int (nI ma)])), (q 3, .inl (cI, 200, .inl (ni K))), (q 4, .inl (cI, 200, .inl vI)), (q 5, .inl (cI, 200, .inl fI)), (q 6, .inl (cI, 200, .inl sI)), (q 7, .inl (cI, 200, .inl (ni u))), (q 9, .inl (cZ, 40200, .inl (zb f2))), (q 11, .inl (cI, 20, .inl sv)), (q 13, .inl (cI, 500, .inl (ni pl))), (q 14, .inl (cI, 500, .inl (ni pt))), (q 15, .inl (cI, 300, .inl (ni tp))), (q 16, .inl (cI, 300, .inl ol)), (q 17, .inl (cZ, 200, .inl (zb se)))]) (wr := [(q 10, .inl (cZ, 40200, .inl (zb f1)))]) [0, 1, 2, 3, 4, 5, 6, 8, 9, 10, 11, 12, 13] [7] hK hP hD hS hA rfl rfl (by decide) (by decide) (va_runV (As := [.int (nI p), .int (nI e1)]) (rest := []) ⟨hx, hb, hml, hown, ht⟩ (kMod_walk l D cI cZ cJ o q th n b len tr hi ma K V F S u vI fI sI f2 sv pl pt tp ol se p e1 true (nI e1) hn0 hn hle hu hK5 hv hvb hv4 hf hs hv3 hb0 (Or.inr ⟨rfl, rfl, he1⟩) he2 hcb2 (Fw_CanT he3) _) (⟨callB_of 2 ht (TB_in2 gN_Mod_walk) rfl rfl rfl (ht _ mw_6) (ht _ mw_1049) (by decide +kernel) ⟨Nat.le_of_ble_eq_true rfl, Nat.le_of_ble_eq_true rfl⟩, ht _ mw_1051, ht _ ms_43⟩) (vx_preV [0, 1, 2, 3, 4, 5, 6, 8, 9, 10, 11, 12, 13] hK hP hD (by decide) rfl (ci := 11) rfl 0 rfl) rfl rfl hl.1 rfl (lv_room (Nat.le_of_ble_eq_true rfl)) dN_Mod_find_127 ⟨Nat.le_of_ble_eq_true rfl, Nat.le_of_ble_eq_true rfl⟩) (fun r1 w1 H locs hq hP hD hS => ?_)
              obtain ⟨e2, sv3, pl3, pt3, tp3, ol3, se3, tr3, hi3, rfl, hgw, rfl⟩ := hq
              have hP : va_P D clN [(o, .inr (11, [.int (nI th), .int (nI n), .int (nI b), .ref (q 3), .ref (q 4), .ref (q 5), .ref (q 6), .ref (q 7), .int (nI len), .ref (q 9), .ref (q 10), .ref (q 11), .ref (q 12), .ref (q 13), .ref (q 14), .ref (q 15), .ref (q 16), .ref (q 17), .int (nI tr3), .int (nI hi3), .ref (q 20), .ref (q 21), .ref (q 22), .ref (q 23), .int (nI ma)])), (q 3, .inl (cI, 200, .inl (ni K))), (q 4, .inl (cI, 200, .inl vI)), (q 5, .inl (cI, 200, .inl fI)), (q 6, .inl (cI, 200, .inl sI)), (q 7, .inl (cI, 200, .inl (ni u))), (q 9, .inl (cZ, 40200, .inl (zb f2))), (q 10, .inl (cZ, 40200, .inl (zb f1))), (q 11, .inl (cI, 20, .inl sv3)), (q 13, .inl (cI, 500, .inl (ni pl3))), (q 14, .inl (cI, 500, .inl (ni pt3))), (q 15, .inl (cI, 300, .inl (ni tp3))), (q 16, .inl (cI, 300, .inl ol3)), (q 17, .inl (cZ, 200, .inl (zb se3)))] H := hP.sub [1, 2, 3, 4, 5, 6, 7, 0, 8, 9, 10, 11, 12, 13] rfl
              have hD : va_D A [(o, .inr (11, [.int (nI th), .int (nI n), .int (nI b), .ref (q 3), .ref (q 4), .ref (q 5), .ref (q 6), .ref (q 7), .int (nI len), .ref (q 9), .ref (q 10), .ref (q 11), .ref (q 12), .ref (q 13), .ref (q 14), .ref (q 15), .ref (q 16), .ref (q 17), .int (nI tr3), .int (nI hi3), .ref (q 20), .ref (q 21), .ref (q 22), .ref (q 23), .int (nI ma)])), (q 3, .inl (cI, 200, .inl (ni K))), (q 4, .inl (cI, 200, .inl vI)), (q 5, .inl (cI, 200, .inl fI)), (q 6, .inl (cI, 200, .inl sI)), (q 7, .inl (cI, 200, .inl (ni u))), (q 9, .inl (cZ, 40200, .inl (zb f2))), (q 10, .inl (cZ, 40200, .inl (zb f1))), (q 11, .inl (cI, 20, .inl sv3)), (q 13, .inl (cI, 500, .inl (ni pl3))), (q 14, .inl (cI, 500, .inl (ni pt3))), (q 15, .inl (cI, 300, .inl (ni tp3))), (q 16, .inl (cI, 300, .inl ol3)), (q 17, .inl (cZ, 200, .inl (zb se3)))] := hD.sub [1, 2, 3, 4, 5, 6, 7, 0, 8, 9, 10, 11, 12, 13] (by decide) rfl
              refine lv_istore (lv' := [(6, .int (nI e2)), (5, .int (nI e1)), (0, .ref o), (1, .int (nI how)), (2, .int (zi lo)), (3, .int (nI fr)), (4, .int (nI p))]) hx hb dN_Mod_find_130 hl (by decide) rfl (fun ls hl => ?_)
              refine lv_aload_n hx hb dN_Mod_find_132 rfl (lv_at hl 2 rfl) ?_
              refine va_get (D := D) (ci := 11) (v := .ref (q 11)) (C := RN_Mod) (T := FN_Mod) (N := 25) hx hb ht fN_Mod hown hK hP 0 rfl rfl 11 (by decide) (ht _ mw_917) (fun _ h9 => h9) rfl dN_Mod_find_133 ?_
              refine lv_iconst (v := (nI 0)) hx hb dN_Mod_find_136 (by decide) ?_
              refine lv_iload hx hb dN_Mod_find_137 (lv_at hl 6 rfl) ?_
              refine xi_ast hx hb hK hP hD hS 8 0 rfl rfl dN_Mod_find_139 (by omega) (by omega) (fun H locs hP hD hS => ?_)
              have hP : va_P D clN [(o, .inr (11, [.int (nI th), .int (nI n), .int (nI b), .ref (q 3), .ref (q 4), .ref (q 5), .ref (q 6), .ref (q 7), .int (nI len), .ref (q 9), .ref (q 10), .ref (q 11), .ref (q 12), .ref (q 13), .ref (q 14), .ref (q 15), .ref (q 16), .ref (q 17), .int (nI tr3), .int (nI hi3), .ref (q 20), .ref (q 21), .ref (q 22), .ref (q 23), .int (nI ma)])), (q 3, .inl (cI, 200, .inl (ni K))), (q 4, .inl (cI, 200, .inl vI)), (q 5, .inl (cI, 200, .inl fI)), (q 6, .inl (cI, 200, .inl sI)), (q 7, .inl (cI, 200, .inl (ni u))), (q 9, .inl (cZ, 40200, .inl (zb f2))), (q 10, .inl (cZ, 40200, .inl (zb f1))), (q 11, .inl (cI, 20, .inl ((upd sv3 0 (nI p))))), (q 13, .inl (cI, 500, .inl (ni pl3))), (q 14, .inl (cI, 500, .inl (ni pt3))), (q 15, .inl (cI, 300, .inl (ni tp3))), (q 16, .inl (cI, 300, .inl ol3)), (q 17, .inl (cZ, 200, .inl (zb se3)))] H := hP
              have hD : va_D A [(o, .inr (11, [.int (nI th), .int (nI n), .int (nI b), .ref (q 3), .ref (q 4), .ref (q 5), .ref (q 6), .ref (q 7), .int (nI len), .ref (q 9), .ref (q 10), .ref (q 11), .ref (q 12), .ref (q 13), .ref (q 14), .ref (q 15), .ref (q 16), .ref (q 17), .int (nI tr3), .int (nI hi3), .ref (q 20), .ref (q 21), .ref (q 22), .ref (q 23), .int (nI ma)])), (q 3, .inl (cI, 200, .inl (ni K))), (q 4, .inl (cI, 200, .inl vI)), (q 5, .inl (cI, 200, .inl fI)), (q 6, .inl (cI, 200, .inl sI)), (q 7, .inl (cI, 200, .inl (ni u))), (q 9, .inl (cZ, 40200, .inl (zb f2))), (q 10, .inl (cZ, 40200, .inl (zb f1))), (q 11, .inl (cI, 20, .inl ((upd sv3 0 (nI p))))), (q 13, .inl (cI, 500, .inl (ni pl3))), (q 14, .inl (cI, 500, .inl (ni pt3))), (q 15, .inl (cI, 300, .inl (ni tp3))), (q 16, .inl (cI, 300, .inl ol3)), (q 17, .inl (cZ, 200, .inl (zb se3)))] := hD
              refine lv_aload_n hx hb dN_Mod_find_140 rfl (lv_at hl 2 rfl) ?_
              refine va_get (D := D) (ci := 11) (v := .ref (q 11)) (C := RN_Mod) (T := FN_Mod) (N := 25) hx hb ht fN_Mod hown hK hP 0 rfl rfl 11 (by decide) (ht _ mw_917) (fun _ h9 => h9) rfl dN_Mod_find_141 ?_
              refine lv_iconst (v := (nI 1)) hx hb dN_Mod_find_144 (by decide) ?_
              refine lv_iload hx hb dN_Mod_find_145 (lv_at hl 0 rfl) ?_
              refine xi_ast hx hb hK hP hD hS 8 0 rfl rfl dN_Mod_find_147 (by omega) (by omega) (fun H locs hP hD hS => ?_)
              have hP : va_P D clN [(o, .inr (11, [.int (nI th), .int (nI n), .int (nI b), .ref (q 3), .ref (q 4), .ref (q 5), .ref (q 6), .ref (q 7), .int (nI len), .ref (q 9), .ref (q 10), .ref (q 11), .ref (q 12), .ref (q 13), .ref (q 14), .ref (q 15), .ref (q 16), .ref (q 17), .int (nI tr3), .int (nI hi3), .ref (q 20), .ref (q 21), .ref (q 22), .ref (q 23), .int (nI ma)])), (q 3, .inl (cI, 200, .inl (ni K))), (q 4, .inl (cI, 200, .inl vI)), (q 5, .inl (cI, 200, .inl fI)), (q 6, .inl (cI, 200, .inl sI)), (q 7, .inl (cI, 200, .inl (ni u))), (q 9, .inl (cZ, 40200, .inl (zb f2))), (q 10, .inl (cZ, 40200, .inl (zb f1))), (q 11, .inl (cI, 20, .inl ((upd (upd sv3 0 (nI p)) 1 (nI e2))))), (q 13, .inl (cI, 500, .inl (ni pl3))), (q 14, .inl (cI, 500, .inl (ni pt3))), (q 15, .inl (cI, 300, .inl (ni tp3))), (q 16, .inl (cI, 300, .inl ol3)), (q 17, .inl (cZ, 200, .inl (zb se3)))] H := hP
              have hD : va_D A [(o, .inr (11, [.int (nI th), .int (nI n), .int (nI b), .ref (q 3), .ref (q 4), .ref (q 5), .ref (q 6), .ref (q 7), .int (nI len), .ref (q 9), .ref (q 10), .ref (q 11), .ref (q 12), .ref (q 13), .ref (q 14), .ref (q 15), .ref (q 16), .ref (q 17), .int (nI tr3), .int (nI hi3), .ref (q 20), .ref (q 21), .ref (q 22), .ref (q 23), .int (nI ma)])), (q 3, .inl (cI, 200, .inl (ni K))), (q 4, .inl (cI, 200, .inl vI)), (q 5, .inl (cI, 200, .inl fI)), (q 6, .inl (cI, 200, .inl sI)), (q 7, .inl (cI, 200, .inl (ni u))), (q 9, .inl (cZ, 40200, .inl (zb f2))), (q 10, .inl (cZ, 40200, .inl (zb f1))), (q 11, .inl (cI, 20, .inl ((upd (upd sv3 0 (nI p)) 1 (nI e2))))), (q 13, .inl (cI, 500, .inl (ni pl3))), (q 14, .inl (cI, 500, .inl (ni pt3))), (q 15, .inl (cI, 300, .inl (ni tp3))), (q 16, .inl (cI, 300, .inl ol3)), (q 17, .inl (cZ, 200, .inl (zb se3)))] := hD
              refine lv_iload hx hb dN_Mod_find_148 (lv_at hl 0 rfl) ?_
              exact vx_iret C hK hP hD hS dN_Mod_find_150 (Nat.le_of_ble_eq_true rfl) (Nat.le_of_ble_eq_true rfl) (⟨some (p, e2, sv3), _, _, _, _, _, _, _, _, _, _, Or.inr ⟨p, e2, sv3, rfl, ⟨by omega, by omega, hhow⟩, hcan, (fun p1 h1 h2 => by rw [← hj_al]; exact hno p1 h2.1 h1), e1, true, Or.inr ⟨by omega, c_97_5, rfl, he1, he3, he4⟩, by omega, hgw⟩, rfl, (fun _ _ _ h => by cases h; rfl), rfl⟩)
        · skip
          refine lv_iload_n hx hb dN_Mod_find_81 rfl (lv_at hl 1 rfl) ?_
          refine lv_iconst (v := (nI 2)) hx hb dN_Mod_find_82 (by decide) ?_
          refine xn_ne (tgt := 93) hx hb dN_Mod_find_83 (by decide) (by omega) (by omega) (fun c_83_7 => ?_) (fun c_83_7 => ?_)
          · skip
            refine lv_iconst (v := (-1)) hx hb dN_Mod_find_93 (by decide) ?_
            exact Jj5 (-1) (by rw [if_neg c_83_7])
          · skip
            refine lv_aload_n hx hb dN_Mod_find_86 rfl (lv_at hl 0 rfl) ?_
            refine va_get (D := D) (ci := 11) (v := .int (nI len)) (C := RN_Mod) (T := FN_Mod) (N := 25) hx hb ht fN_Mod hown hK hP 0 rfl rfl 8 (by decide) (ht _ mw_914) (fun _ h9 => h9) rfl dN_Mod_find_87 ?_
            refine lv_goto (tgt := 94) hx hb dN_Mod_find_90 (by decide) ?_
            exact Jj5 (nI (len)) (by rw [if_pos c_83_7])
      · skip
        refine lv_iconst (v := (-1)) hx hb dN_Mod_find_79 (by decide) ?_
        exact vx_iret C hK hP hD hS dN_Mod_find_80 (Nat.le_of_ble_eq_true rfl) (Nat.le_of_ble_eq_true rfl) (⟨none, _, _, _, _, _, _, _, _, _, _, Or.inl ⟨rfl, fun p1 ⟨h1, h2, h3⟩ => by rw [← hj_al]; rcases Nat.lt_trichotomy p1 p with h4 | h4 | h4; (exact hno p1 h1 h4); (subst h4; exact fun h5 => by have h6 := (hcb p1 b h1 h2 hb0).mpr h5; rw [c_76_3] at h6; cases h6); (exact absurd (h3 c_23_2) (by omega))⟩, rfl, (fun _ _ _ h => by cases h), rfl⟩)
    · skip
      refine lv_iload hx hb dN_Mod_find_26 (lv_at hl 4 rfl) ?_
      refine lv_aload_n hx hb dN_Mod_find_28 rfl (lv_at hl 0 rfl) ?_
      refine va_get (D := D) (ci := 11) (v := .int (nI len)) (C := RN_Mod) (T := FN_Mod) (N := 25) hx hb ht fN_Mod hown hK hP 0 rfl rfl 8 (by decide) (ht _ mw_914) (fun _ h9 => h9) rfl dN_Mod_find_29 ?_
      refine xn_ge (tgt := 60) hx hb dN_Mod_find_32 (by decide) (by omega) (by omega) (fun c_32_8 => ?_) (fun c_32_8 => ?_)
      · skip
        refine lv_aload_n hx hb dN_Mod_find_60 rfl (lv_at hl 0 rfl) ?_
        refine va_get (D := D) (ci := 11) (v := .ref (q 9)) (C := RN_Mod) (T := FN_Mod) (N := 25) hx hb ht fN_Mod hown hK hP 0 rfl rfl 9 (by decide) (ht _ mw_915) (fun _ h9 => h9) rfl dN_Mod_find_61 ?_
        refine lv_sipush (v := (nI 200)) hx hb dN_Mod_find_64 (by decide) ?_
        refine lv_iload hx hb dN_Mod_find_67 (lv_at hl 4 rfl) ?_
        refine xn_mul hx hb dN_Mod_find_69 ?_
        refine lv_aload_n hx hb dN_Mod_find_70 rfl (lv_at hl 0 rfl) ?_
        refine va_get (D := D) (ci := 11) (v := .int (nI b)) (C := RN_Mod) (T := FN_Mod) (N := 25) hx hb ht fN_Mod hown hK hP 0 rfl rfl 2 (by decide) (ht _ mw_908) (fun _ h9 => h9) rfl dN_Mod_find_71 ?_
        refine xn_add hx hb dN_Mod_find_74 ?_
        refine xz_ald hx hb hK hP 6 1 rfl rfl dN_Mod_find_75 (by omega) (by omega) ?_
        refine xz_ne0 (tgt := 81) hx hb dN_Mod_find_76 (by decide) (fun c_76_9 => ?_) (fun c_76_9 => ?_)
        · skip
          have hcan : Can K V F S len u len (decide (how = 2)) p b := by rw [← hj_al]; exact (hcb p b hp1 hp2 hb0).mp c_76_9
          refine vx_join (α := Int32) (fun j11 => j11 = if how = 2 then nI len else -1) (fun j11 => F0 m 94 ls [.int j11]) (fun j11 hj11 => ?_) (fun Jj11 => ?_)
          · skip
            have hj_x := hj11
            refine lv_istore (lv' := [(5, .int j11), (0, .ref o), (1, .int (nI how)), (2, .int (zi lo)), (3, .int (nI fr)), (4, .int (nI p))]) hx hb dN_Mod_find_94 hl (by decide) rfl (fun ls hl => ?_)
            refine lv_iload_n hx hb dN_Mod_find_96 rfl (lv_at hl 3 rfl) ?_
            refine xz_eq0 (tgt := 122) hx hb dN_Mod_find_97 (by decide) (fun c_97_11 => ?_) (fun c_97_11 => ?_)
            · skip
              refine lv_aload_n hx hb dN_Mod_find_122 rfl (lv_at hl 1 rfl) ?_
              refine lv_iload hx hb dN_Mod_find_123 (lv_at hl 5 rfl) ?_
              refine lv_iload hx hb dN_Mod_find_125 (lv_at hl 0 rfl) ?_
              refine vx_calli (wc := [(o, .inr (11, [.int (nI th), .int (nI n), .int (nI b), .ref (q 3), .ref (q 4), .ref (q 5), .ref (q 6), .ref (q 7), .int (nI len), .ref (q 9), .ref (q 10), .ref (q 11), .ref (q 12), .ref (q 13), .ref (q 14), .ref (q 15), .ref (q 16), .ref (q 17), .int (nI tr), .int (nI hi), .ref (q 20), .ref (q 21), .ref (q 22), .ref (q 23), .int (nI ma)])), (q 3, .inl (cI, 200, .inl (ni K))), (q 4, .inl (cI, 200, .inl vI)), (q 5, .inl (cI, 200, .inl fI)), (q 6, .inl (cI, 200, .inl sI)), (q 7, .inl (cI, 200, .inl (ni u))), (q 9, .inl (cZ, 40200, .inl (zb f0))), (q 11, .inl (cI, 20, .inl sv)), (q 13, .inl (cI, 500, .inl (ni pl))), (q 14, .inl (cI, 500, .inl (ni pt))), (q 15, .inl (cI, 300, .inl (ni tp))), (q 16, .inl (cI, 300, .inl ol)), (q 17, .inl (cZ, 200, .inl (zb se)))]) (wr := [(q 10, .inl (cZ, 40200, .inl (zb cm)))]) [0, 1, 2, 3, 4, 5, 6, 8, 9, 10, 11, 12, 13] [7] hK hP hD hS hA rfl rfl (by decide) (by decide) (va_runV (As := [.int (nI p), .int j11]) (rest := []) ⟨hx, hb, hml, hown, ht⟩ (kMod_walk l D cI cZ cJ o q th n b len tr hi ma K V F S u vI fI sI f0 sv pl pt tp ol se p len (decide (how = 2)) j11 hn0 hn hle hu hK5 hv hvb hv4 hf hs hv3 hb0 (by rw [hj_x]; by_cases h9 : how = 2; (rw [if_pos h9, decide_eq_true h9]; exact Or.inr ⟨rfl, rfl, Nat.le_refl _⟩); (rw [if_neg h9, decide_eq_false h9]; exact Or.inl ⟨rfl, rfl, rfl⟩)) (by omega) (fun p1 k1 h1 h2 h3 => by rw [← hj_al]; exact hcb p1 k1 (by omega) h2 h3) hcan _) (⟨callB_of 2 ht (TB_in2 gN_Mod_walk) rfl rfl rfl (ht _ mw_6) (ht _ mw_1049) (by decide +kernel) ⟨Nat.le_of_ble_eq_true rfl, Nat.le_of_ble_eq_true rfl⟩, ht _ mw_1051, ht _ ms_43⟩) (vx_preV [0, 1, 2, 3, 4, 5, 6, 8, 9, 10, 11, 12, 13] hK hP hD (by decide) rfl (ci := 11) rfl 0 rfl) rfl rfl hl.1 rfl (lv_room (Nat.le_of_ble_eq_true rfl)) dN_Mod_find_127 ⟨Nat.le_of_ble_eq_true rfl, Nat.le_of_ble_eq_true rfl⟩) (fun r1 w1 H locs hq hP hD hS => ?_)
              obtain ⟨e2, sv3, pl3, pt3, tp3, ol3, se3, tr3, hi3, rfl, hgw, rfl⟩ := hq
              have hP : va_P D clN [(o, .inr (11, [.int (nI th), .int (nI n), .int (nI b), .ref (q 3), .ref (q 4), .ref (q 5), .ref (q 6), .ref (q 7), .int (nI len), .ref (q 9), .ref (q 10), .ref (q 11), .ref (q 12), .ref (q 13), .ref (q 14), .ref (q 15), .ref (q 16), .ref (q 17), .int (nI tr3), .int (nI hi3), .ref (q 20), .ref (q 21), .ref (q 22), .ref (q 23), .int (nI ma)])), (q 3, .inl (cI, 200, .inl (ni K))), (q 4, .inl (cI, 200, .inl vI)), (q 5, .inl (cI, 200, .inl fI)), (q 6, .inl (cI, 200, .inl sI)), (q 7, .inl (cI, 200, .inl (ni u))), (q 9, .inl (cZ, 40200, .inl (zb f0))), (q 10, .inl (cZ, 40200, .inl (zb cm))), (q 11, .inl (cI, 20, .inl sv3)), (q 13, .inl (cI, 500, .inl (ni pl3))), (q 14, .inl (cI, 500, .inl (ni pt3))), (q 15, .inl (cI, 300, .inl (ni tp3))), (q 16, .inl (cI, 300, .inl ol3)), (q 17, .inl (cZ, 200, .inl (zb se3)))] H := hP.sub [1, 2, 3, 4, 5, 6, 7, 0, 8, 9, 10, 11, 12, 13] rfl
              have hD : va_D A [(o, .inr (11, [.int (nI th), .int (nI n), .int (nI b), .ref (q 3), .ref (q 4), .ref (q 5), .ref (q 6), .ref (q 7), .int (nI len), .ref (q 9), .ref (q 10), .ref (q 11), .ref (q 12), .ref (q 13), .ref (q 14), .ref (q 15), .ref (q 16), .ref (q 17), .int (nI tr3), .int (nI hi3), .ref (q 20), .ref (q 21), .ref (q 22), .ref (q 23), .int (nI ma)])), (q 3, .inl (cI, 200, .inl (ni K))), (q 4, .inl (cI, 200, .inl vI)), (q 5, .inl (cI, 200, .inl fI)), (q 6, .inl (cI, 200, .inl sI)), (q 7, .inl (cI, 200, .inl (ni u))), (q 9, .inl (cZ, 40200, .inl (zb f0))), (q 10, .inl (cZ, 40200, .inl (zb cm))), (q 11, .inl (cI, 20, .inl sv3)), (q 13, .inl (cI, 500, .inl (ni pl3))), (q 14, .inl (cI, 500, .inl (ni pt3))), (q 15, .inl (cI, 300, .inl (ni tp3))), (q 16, .inl (cI, 300, .inl ol3)), (q 17, .inl (cZ, 200, .inl (zb se3)))] := hD.sub [1, 2, 3, 4, 5, 6, 7, 0, 8, 9, 10, 11, 12, 13] (by decide) rfl
              refine lv_istore (lv' := [(6, .int (nI e2)), (5, .int j11), (0, .ref o), (1, .int (nI how)), (2, .int (zi lo)), (3, .int (nI fr)), (4, .int (nI p))]) hx hb dN_Mod_find_130 hl (by decide) rfl (fun ls hl => ?_)
              refine lv_aload_n hx hb dN_Mod_find_132 rfl (lv_at hl 2 rfl) ?_
              refine va_get (D := D) (ci := 11) (v := .ref (q 11)) (C := RN_Mod) (T := FN_Mod) (N := 25) hx hb ht fN_Mod hown hK hP 0 rfl rfl 11 (by decide) (ht _ mw_917) (fun _ h9 => h9) rfl dN_Mod_find_133 ?_
              refine lv_iconst (v := (nI 0)) hx hb dN_Mod_find_136 (by decide) ?_
              refine lv_iload hx hb dN_Mod_find_137 (lv_at hl 6 rfl) ?_
              refine xi_ast hx hb hK hP hD hS 8 0 rfl rfl dN_Mod_find_139 (by omega) (by omega) (fun H locs hP hD hS => ?_)
              have hP : va_P D clN [(o, .inr (11, [.int (nI th), .int (nI n), .int (nI b), .ref (q 3), .ref (q 4), .ref (q 5), .ref (q 6), .ref (q 7), .int (nI len), .ref (q 9), .ref (q 10), .ref (q 11), .ref (q 12), .ref (q 13), .ref (q 14), .ref (q 15), .ref (q 16), .ref (q 17), .int (nI tr3), .int (nI hi3), .ref (q 20), .ref (q 21), .ref (q 22), .ref (q 23), .int (nI ma)])), (q 3, .inl (cI, 200, .inl (ni K))), (q 4, .inl (cI, 200, .inl vI)), (q 5, .inl (cI, 200, .inl fI)), (q 6, .inl (cI, 200, .inl sI)), (q 7, .inl (cI, 200, .inl (ni u))), (q 9, .inl (cZ, 40200, .inl (zb f0))), (q 10, .inl (cZ, 40200, .inl (zb cm))), (q 11, .inl (cI, 20, .inl ((upd sv3 0 (nI p))))), (q 13, .inl (cI, 500, .inl (ni pl3))), (q 14, .inl (cI, 500, .inl (ni pt3))), (q 15, .inl (cI, 300, .inl (ni tp3))), (q 16, .inl (cI, 300, .inl ol3)), (q 17, .inl (cZ, 200, .inl (zb se3)))] H := hP
              have hD : va_D A [(o, .inr (11, [.int (nI th), .int (nI n), .int (nI b), .ref (q 3), .ref (q 4), .ref (q 5), .ref (q 6), .ref (q 7), .int (nI len), .ref (q 9), .ref (q 10), .ref (q 11), .ref (q 12), .ref (q 13), .ref (q 14), .ref (q 15), .ref (q 16), .ref (q 17), .int (nI tr3), .int (nI hi3), .ref (q 20), .ref (q 21), .ref (q 22), .ref (q 23), .int (nI ma)])), (q 3, .inl (cI, 200, .inl (ni K))), (q 4, .inl (cI, 200, .inl vI)), (q 5, .inl (cI, 200, .inl fI)), (q 6, .inl (cI, 200, .inl sI)), (q 7, .inl (cI, 200, .inl (ni u))), (q 9, .inl (cZ, 40200, .inl (zb f0))), (q 10, .inl (cZ, 40200, .inl (zb cm))), (q 11, .inl (cI, 20, .inl ((upd sv3 0 (nI p))))), (q 13, .inl (cI, 500, .inl (ni pl3))), (q 14, .inl (cI, 500, .inl (ni pt3))), (q 15, .inl (cI, 300, .inl (ni tp3))), (q 16, .inl (cI, 300, .inl ol3)), (q 17, .inl (cZ, 200, .inl (zb se3)))] := hD
              refine lv_aload_n hx hb dN_Mod_find_140 rfl (lv_at hl 2 rfl) ?_
              refine va_get (D := D) (ci := 11) (v := .ref (q 11)) (C := RN_Mod) (T := FN_Mod) (N := 25) hx hb ht fN_Mod hown hK hP 0 rfl rfl 11 (by decide) (ht _ mw_917) (fun _ h9 => h9) rfl dN_Mod_find_141 ?_
              refine lv_iconst (v := (nI 1)) hx hb dN_Mod_find_144 (by decide) ?_
              refine lv_iload hx hb dN_Mod_find_145 (lv_at hl 0 rfl) ?_
              refine xi_ast hx hb hK hP hD hS 8 0 rfl rfl dN_Mod_find_147 (by omega) (by omega) (fun H locs hP hD hS => ?_)
              have hP : va_P D clN [(o, .inr (11, [.int (nI th), .int (nI n), .int (nI b), .ref (q 3), .ref (q 4), .ref (q 5), .ref (q 6), .ref (q 7), .int (nI len), .ref (q 9), .ref (q 10), .ref (q 11), .ref (q 12), .ref (q 13), .ref (q 14), .ref (q 15), .ref (q 16), .ref (q 17), .int (nI tr3), .int (nI hi3), .ref (q 20), .ref (q 21), .ref (q 22), .ref (q 23), .int (nI ma)])), (q 3, .inl (cI, 200, .inl (ni K))), (q 4, .inl (cI, 200, .inl vI)), (q 5, .inl (cI, 200, .inl fI)), (q 6, .inl (cI, 200, .inl sI)), (q 7, .inl (cI, 200, .inl (ni u))), (q 9, .inl (cZ, 40200, .inl (zb f0))), (q 10, .inl (cZ, 40200, .inl (zb cm))), (q 11, .inl (cI, 20, .inl ((upd (upd sv3 0 (nI p)) 1 (nI e2))))), (q 13, .inl (cI, 500, .inl (ni pl3))), (q 14, .inl (cI, 500, .inl (ni pt3))), (q 15, .inl (cI, 300, .inl (ni tp3))), (q 16, .inl (cI, 300, .inl ol3)), (q 17, .inl (cZ, 200, .inl (zb se3)))] H := hP
              have hD : va_D A [(o, .inr (11, [.int (nI th), .int (nI n), .int (nI b), .ref (q 3), .ref (q 4), .ref (q 5), .ref (q 6), .ref (q 7), .int (nI len), .ref (q 9), .ref (q 10), .ref (q 11), .ref (q 12), .ref (q 13), .ref (q 14), .ref (q 15), .ref (q 16), .ref (q 17), .int (nI tr3), .int (nI hi3), .ref (q 20), .ref (q 21), .ref (q 22), .ref (q 23), .int (nI ma)])), (q 3, .inl (cI, 200, .inl (ni K))), (q 4, .inl (cI, 200, .inl vI)), (q 5, .inl (cI, 200, .inl fI)), (q 6, .inl (cI, 200, .inl sI)), (q 7, .inl (cI, 200, .inl (ni u))), (q 9, .inl (cZ, 40200, .inl (zb f0))), (q 10, .inl (cZ, 40200, .inl (zb cm))), (q 11, .inl (cI, 20, .inl ((upd (upd sv3 0 (nI p)) 1 (nI e2))))), (q 13, .inl (cI, 500, .inl (ni pl3))), (q 14, .inl (cI, 500, .inl (ni pt3))), (q 15, .inl (cI, 300, .inl (ni tp3))), (q 16, .inl (cI, 300, .inl ol3)), (q 17, .inl (cZ, 200, .inl (zb se3)))] := hD
              refine lv_iload hx hb dN_Mod_find_148 (lv_at hl 0 rfl) ?_
              exact vx_iret C hK hP hD hS dN_Mod_find_150 (Nat.le_of_ble_eq_true rfl) (Nat.le_of_ble_eq_true rfl) (⟨some (p, e2, sv3), _, _, _, _, _, _, _, _, _, _, Or.inr ⟨p, e2, sv3, rfl, ⟨by omega, by omega, hhow⟩, hcan, (fun p1 h1 h2 => by rw [← hj_al]; exact hno p1 h2.1 h1), len, decide (how = 2), Or.inl ⟨Or.inr c_97_11, rfl, rfl⟩, by omega, hgw⟩, rfl, (fun _ _ _ h => by cases h; rfl), rfl⟩)
            · skip
              refine lv_iload_n hx hb dN_Mod_find_100 rfl (lv_at hl 2 rfl) ?_
              refine lv_iconst (v := (nI 2)) hx hb dN_Mod_find_101 (by decide) ?_
              refine xn_ge (tgt := 122) hx hb dN_Mod_find_102 (by decide) (by omega) (by omega) (fun c_102_12 => ?_) (fun c_102_12 => ?_)
              · skip
                refine lv_aload_n hx hb dN_Mod_find_122 rfl (lv_at hl 1 rfl) ?_
                refine lv_iload hx hb dN_Mod_find_123 (lv_at hl 5 rfl) ?_
                refine lv_iload hx hb dN_Mod_find_125 (lv_at hl 0 rfl) ?_
                refine vx_calli (wc := [(o, .inr (11, [.int (nI th), .int (nI n), .int (nI b), .ref (q 3), .ref (q 4), .ref (q 5), .ref (q 6), .ref (q 7), .int (nI len), .ref (q 9), .ref (q 10), .ref (q 11), .ref (q 12), .ref (q 13), .ref (q 14), .ref (q 15), .ref (q 16), .ref (q 17), .int (nI tr), .int (nI hi), .ref (q 20), .ref (q 21), .ref (q 22), .ref (q 23), .int (nI ma)])), (q 3, .inl (cI, 200, .inl (ni K))), (q 4, .inl (cI, 200, .inl vI)), (q 5, .inl (cI, 200, .inl fI)), (q 6, .inl (cI, 200, .inl sI)), (q 7, .inl (cI, 200, .inl (ni u))), (q 9, .inl (cZ, 40200, .inl (zb f0))), (q 11, .inl (cI, 20, .inl sv)), (q 13, .inl (cI, 500, .inl (ni pl))), (q 14, .inl (cI, 500, .inl (ni pt))), (q 15, .inl (cI, 300, .inl (ni tp))), (q 16, .inl (cI, 300, .inl ol)), (q 17, .inl (cZ, 200, .inl (zb se)))]) (wr := [(q 10, .inl (cZ, 40200, .inl (zb cm)))]) [0, 1, 2, 3, 4, 5, 6, 8, 9, 10, 11, 12, 13] [7] hK hP hD hS hA rfl rfl (by decide) (by decide) (va_runV (As := [.int (nI p), .int j11]) (rest := []) ⟨hx, hb, hml, hown, ht⟩ (kMod_walk l D cI cZ cJ o q th n b len tr hi ma K V F S u vI fI sI f0 sv pl pt tp ol se p len (decide (how = 2)) j11 hn0 hn hle hu hK5 hv hvb hv4 hf hs hv3 hb0 (by rw [hj_x]; by_cases h9 : how = 2; (rw [if_pos h9, decide_eq_true h9]; exact Or.inr ⟨rfl, rfl, Nat.le_refl _⟩); (rw [if_neg h9, decide_eq_false h9]; exact Or.inl ⟨rfl, rfl, rfl⟩)) (by omega) (fun p1 k1 h1 h2 h3 => by rw [← hj_al]; exact hcb p1 k1 (by omega) h2 h3) hcan _) (⟨callB_of 2 ht (TB_in2 gN_Mod_walk) rfl rfl rfl (ht _ mw_6) (ht _ mw_1049) (by decide +kernel) ⟨Nat.le_of_ble_eq_true rfl, Nat.le_of_ble_eq_true rfl⟩, ht _ mw_1051, ht _ ms_43⟩) (vx_preV [0, 1, 2, 3, 4, 5, 6, 8, 9, 10, 11, 12, 13] hK hP hD (by decide) rfl (ci := 11) rfl 0 rfl) rfl rfl hl.1 rfl (lv_room (Nat.le_of_ble_eq_true rfl)) dN_Mod_find_127 ⟨Nat.le_of_ble_eq_true rfl, Nat.le_of_ble_eq_true rfl⟩) (fun r1 w1 H locs hq hP hD hS => ?_)
                obtain ⟨e2, sv3, pl3, pt3, tp3, ol3, se3, tr3, hi3, rfl, hgw, rfl⟩ := hq
                have hP : va_P D clN [(o, .inr (11, [.int (nI th), .int (nI n), .int (nI b), .ref (q 3), .ref (q 4), .ref (q 5), .ref (q 6), .ref (q 7), .int (nI len), .ref (q 9), .ref (q 10), .ref (q 11), .ref (q 12), .ref (q 13), .ref (q 14), .ref (q 15), .ref (q 16), .ref (q 17), .int (nI tr3), .int (nI hi3), .ref (q 20), .ref (q 21), .ref (q 22), .ref (q 23), .int (nI ma)])), (q 3, .inl (cI, 200, .inl (ni K))), (q 4, .inl (cI, 200, .inl vI)), (q 5, .inl (cI, 200, .inl fI)), (q 6, .inl (cI, 200, .inl sI)), (q 7, .inl (cI, 200, .inl (ni u))), (q 9, .inl (cZ, 40200, .inl (zb f0))), (q 10, .inl (cZ, 40200, .inl (zb cm))), (q 11, .inl (cI, 20, .inl sv3)), (q 13, .inl (cI, 500, .inl (ni pl3))), (q 14, .inl (cI, 500, .inl (ni pt3))), (q 15, .inl (cI, 300, .inl (ni tp3))), (q 16, .inl (cI, 300, .inl ol3)), (q 17, .inl (cZ, 200, .inl (zb se3)))] H := hP.sub [1, 2, 3, 4, 5, 6, 7, 0, 8, 9, 10, 11, 12, 13] rfl
                have hD : va_D A [(o, .inr (11, [.int (nI th), .int (nI n), .int (nI b), .ref (q 3), .ref (q 4), .ref (q 5), .ref (q 6), .ref (q 7), .int (nI len), .ref (q 9), .ref (q 10), .ref (q 11), .ref (q 12), .ref (q 13), .ref (q 14), .ref (q 15), .ref (q 16), .ref (q 17), .int (nI tr3), .int (nI hi3), .ref (q 20), .ref (q 21), .ref (q 22), .ref (q 23), .int (nI ma)])), (q 3, .inl (cI, 200, .inl (ni K))), (q 4, .inl (cI, 200, .inl vI)), (q 5, .inl (cI, 200, .inl fI)), (q 6, .inl (cI, 200, .inl sI)), (q 7, .inl (cI, 200, .inl (ni u))), (q 9, .inl (cZ, 40200, .inl (zb f0))), (q 10, .inl (cZ, 40200, .inl (zb cm))), (q 11, .inl (cI, 20, .inl sv3)), (q 13, .inl (cI, 500, .inl (ni pl3))), (q 14, .inl (cI, 500, .inl (ni pt3))), (q 15, .inl (cI, 300, .inl (ni tp3))), (q 16, .inl (cI, 300, .inl ol3)), (q 17, .inl (cZ, 200, .inl (zb se3)))] := hD.sub [1, 2, 3, 4, 5, 6, 7, 0, 8, 9, 10, 11, 12, 13] (by decide) rfl
                refine lv_istore (lv' := [(6, .int (nI e2)), (5, .int j11), (0, .ref o), (1, .int (nI how)), (2, .int (zi lo)), (3, .int (nI fr)), (4, .int (nI p))]) hx hb dN_Mod_find_130 hl (by decide) rfl (fun ls hl => ?_)
                refine lv_aload_n hx hb dN_Mod_find_132 rfl (lv_at hl 2 rfl) ?_
                refine va_get (D := D) (ci := 11) (v := .ref (q 11)) (C := RN_Mod) (T := FN_Mod) (N := 25) hx hb ht fN_Mod hown hK hP 0 rfl rfl 11 (by decide) (ht _ mw_917) (fun _ h9 => h9) rfl dN_Mod_find_133 ?_
                refine lv_iconst (v := (nI 0)) hx hb dN_Mod_find_136 (by decide) ?_
                refine lv_iload hx hb dN_Mod_find_137 (lv_at hl 6 rfl) ?_
                refine xi_ast hx hb hK hP hD hS 8 0 rfl rfl dN_Mod_find_139 (by omega) (by omega) (fun H locs hP hD hS => ?_)
                have hP : va_P D clN [(o, .inr (11, [.int (nI th), .int (nI n), .int (nI b), .ref (q 3), .ref (q 4), .ref (q 5), .ref (q 6), .ref (q 7), .int (nI len), .ref (q 9), .ref (q 10), .ref (q 11), .ref (q 12), .ref (q 13), .ref (q 14), .ref (q 15), .ref (q 16), .ref (q 17), .int (nI tr3), .int (nI hi3), .ref (q 20), .ref (q 21), .ref (q 22), .ref (q 23), .int (nI ma)])), (q 3, .inl (cI, 200, .inl (ni K))), (q 4, .inl (cI, 200, .inl vI)), (q 5, .inl (cI, 200, .inl fI)), (q 6, .inl (cI, 200, .inl sI)), (q 7, .inl (cI, 200, .inl (ni u))), (q 9, .inl (cZ, 40200, .inl (zb f0))), (q 10, .inl (cZ, 40200, .inl (zb cm))), (q 11, .inl (cI, 20, .inl ((upd sv3 0 (nI p))))), (q 13, .inl (cI, 500, .inl (ni pl3))), (q 14, .inl (cI, 500, .inl (ni pt3))), (q 15, .inl (cI, 300, .inl (ni tp3))), (q 16, .inl (cI, 300, .inl ol3)), (q 17, .inl (cZ, 200, .inl (zb se3)))] H := hP
                have hD : va_D A [(o, .inr (11, [.int (nI th), .int (nI n), .int (nI b), .ref (q 3), .ref (q 4), .ref (q 5), .ref (q 6), .ref (q 7), .int (nI len), .ref (q 9), .ref (q 10), .ref (q 11), .ref (q 12), .ref (q 13), .ref (q 14), .ref (q 15), .ref (q 16), .ref (q 17), .int (nI tr3), .int (nI hi3), .ref (q 20), .ref (q 21), .ref (q 22), .ref (q 23), .int (nI ma)])), (q 3, .inl (cI, 200, .inl (ni K))), (q 4, .inl (cI, 200, .inl vI)), (q 5, .inl (cI, 200, .inl fI)), (q 6, .inl (cI, 200, .inl sI)), (q 7, .inl (cI, 200, .inl (ni u))), (q 9, .inl (cZ, 40200, .inl (zb f0))), (q 10, .inl (cZ, 40200, .inl (zb cm))), (q 11, .inl (cI, 20, .inl ((upd sv3 0 (nI p))))), (q 13, .inl (cI, 500, .inl (ni pl3))), (q 14, .inl (cI, 500, .inl (ni pt3))), (q 15, .inl (cI, 300, .inl (ni tp3))), (q 16, .inl (cI, 300, .inl ol3)), (q 17, .inl (cZ, 200, .inl (zb se3)))] := hD
                refine lv_aload_n hx hb dN_Mod_find_140 rfl (lv_at hl 2 rfl) ?_
                refine va_get (D := D) (ci := 11) (v := .ref (q 11)) (C := RN_Mod) (T := FN_Mod) (N := 25) hx hb ht fN_Mod hown hK hP 0 rfl rfl 11 (by decide) (ht _ mw_917) (fun _ h9 => h9) rfl dN_Mod_find_141 ?_
                refine lv_iconst (v := (nI 1)) hx hb dN_Mod_find_144 (by decide) ?_
                refine lv_iload hx hb dN_Mod_find_145 (lv_at hl 0 rfl) ?_
                refine xi_ast hx hb hK hP hD hS 8 0 rfl rfl dN_Mod_find_147 (by omega) (by omega) (fun H locs hP hD hS => ?_)
                have hP : va_P D clN [(o, .inr (11, [.int (nI th), .int (nI n), .int (nI b), .ref (q 3), .ref (q 4), .ref (q 5), .ref (q 6), .ref (q 7), .int (nI len), .ref (q 9), .ref (q 10), .ref (q 11), .ref (q 12), .ref (q 13), .ref (q 14), .ref (q 15), .ref (q 16), .ref (q 17), .int (nI tr3), .int (nI hi3), .ref (q 20), .ref (q 21), .ref (q 22), .ref (q 23), .int (nI ma)])), (q 3, .inl (cI, 200, .inl (ni K))), (q 4, .inl (cI, 200, .inl vI)), (q 5, .inl (cI, 200, .inl fI)), (q 6, .inl (cI, 200, .inl sI)), (q 7, .inl (cI, 200, .inl (ni u))), (q 9, .inl (cZ, 40200, .inl (zb f0))), (q 10, .inl (cZ, 40200, .inl (zb cm))), (q 11, .inl (cI, 20, .inl ((upd (upd sv3 0 (nI p)) 1 (nI e2))))), (q 13, .inl (cI, 500, .inl (ni pl3))), (q 14, .inl (cI, 500, .inl (ni pt3))), (q 15, .inl (cI, 300, .inl (ni tp3))), (q 16, .inl (cI, 300, .inl ol3)), (q 17, .inl (cZ, 200, .inl (zb se3)))] H := hP
                have hD : va_D A [(o, .inr (11, [.int (nI th), .int (nI n), .int (nI b), .ref (q 3), .ref (q 4), .ref (q 5), .ref (q 6), .ref (q 7), .int (nI len), .ref (q 9), .ref (q 10), .ref (q 11), .ref (q 12), .ref (q 13), .ref (q 14), .ref (q 15), .ref (q 16), .ref (q 17), .int (nI tr3), .int (nI hi3), .ref (q 20), .ref (q 21), .ref (q 22), .ref (q 23), .int (nI ma)])), (q 3, .inl (cI, 200, .inl (ni K))), (q 4, .inl (cI, 200, .inl vI)), (q 5, .inl (cI, 200, .inl fI)), (q 6, .inl (cI, 200, .inl sI)), (q 7, .inl (cI, 200, .inl (ni u))), (q 9, .inl (cZ, 40200, .inl (zb f0))), (q 10, .inl (cZ, 40200, .inl (zb cm))), (q 11, .inl (cI, 20, .inl ((upd (upd sv3 0 (nI p)) 1 (nI e2))))), (q 13, .inl (cI, 500, .inl (ni pl3))), (q 14, .inl (cI, 500, .inl (ni pt3))), (q 15, .inl (cI, 300, .inl (ni tp3))), (q 16, .inl (cI, 300, .inl ol3)), (q 17, .inl (cZ, 200, .inl (zb se3)))] := hD
                refine lv_iload hx hb dN_Mod_find_148 (lv_at hl 0 rfl) ?_
                exact vx_iret C hK hP hD hS dN_Mod_find_150 (Nat.le_of_ble_eq_true rfl) (Nat.le_of_ble_eq_true rfl) (⟨some (p, e2, sv3), _, _, _, _, _, _, _, _, _, _, Or.inr ⟨p, e2, sv3, rfl, ⟨by omega, by omega, hhow⟩, hcan, (fun p1 h1 h2 => by rw [← hj_al]; exact hno p1 h2.1 h1), len, decide (how = 2), Or.inl ⟨Or.inl (by omega), rfl, rfl⟩, by omega, hgw⟩, rfl, (fun _ _ _ h => by cases h; rfl), rfl⟩)
              · skip
                refine lv_aload_n hx hb dN_Mod_find_105 rfl (lv_at hl 1 rfl) ?_
                refine lv_iload hx hb dN_Mod_find_106 (lv_at hl 5 rfl) ?_
                refine vx_calli (wc := [(o, .inr (11, [.int (nI th), .int (nI n), .int (nI b), .ref (q 3), .ref (q 4), .ref (q 5), .ref (q 6), .ref (q 7), .int (nI len), .ref (q 9), .ref (q 10), .ref (q 11), .ref (q 12), .ref (q 13), .ref (q 14), .ref (q 15), .ref (q 16), .ref (q 17), .int (nI tr), .int (nI hi), .ref (q 20), .ref (q 21), .ref (q 22), .ref (q 23), .int (nI ma)])), (q 3, .inl (cI, 200, .inl (ni K))), (q 4, .inl (cI, 200, .inl vI)), (q 5, .inl (cI, 200, .inl fI)), (q 6, .inl (cI, 200, .inl sI)), (q 7, .inl (cI, 200, .inl (ni u))), (q 10, .inl (cZ, 40200, .inl (zb cm)))]) (wr := [(q 9, .inl (cZ, 40200, .inl (zb f0))), (q 11, .inl (cI, 20, .inl sv)), (q 13, .inl (cI, 500, .inl (ni pl))), (q 14, .inl (cI, 500, .inl (ni pt))), (q 15, .inl (cI, 300, .inl (ni tp))), (q 16, .inl (cI, 300, .inl ol)), (q 17, .inl (cZ, 200, .inl (zb se)))]) [0, 1, 2, 3, 4, 5, 7] [6, 8, 9, 10, 11, 12, 13] hK hP hD hS hA rfl rfl (by decide) (by decide) (va_runV (As := [.int (nI p)]) (rest := []) ⟨hx, hb, hml, hown, ht⟩ (kMod_lastEnd l D cI cZ cJ o q th n b len tr hi ma K V F S u vI fI sI cm p hn0 hn hle hu hK5 hv hvb hv4 hf hs (by omega) hb0 _) (⟨callB_of 1 ht (TB_in2 gN_Mod_lastEnd) rfl rfl rfl (ht _ mw_6) (ht _ mw_1045) (by decide +kernel) ⟨Nat.le_of_ble_eq_true rfl, Nat.le_of_ble_eq_true rfl⟩, ht _ mw_1047, ht _ ms_42⟩) (vx_preV [0, 1, 2, 3, 4, 5, 7] hK hP hD (by decide) rfl (ci := 11) rfl 0 rfl) rfl rfl hl.1 rfl (lv_room (Nat.le_of_ble_eq_true rfl)) dN_Mod_find_108 ⟨Nat.le_of_ble_eq_true rfl, Nat.le_of_ble_eq_true rfl⟩) (fun r1 w1 H locs hq hP hD hS => ?_)
                obtain ⟨f1, rfl, hla⟩ := hq
                obtain ⟨e1, rfl, he1, he2, he3, he4⟩ := Las_some (by omega) hla hcan
                have hP : va_P D clN [(o, .inr (11, [.int (nI th), .int (nI n), .int (nI b), .ref (q 3), .ref (q 4), .ref (q 5), .ref (q 6), .ref (q 7), .int (nI len), .ref (q 9), .ref (q 10), .ref (q 11), .ref (q 12), .ref (q 13), .ref (q 14), .ref (q 15), .ref (q 16), .ref (q 17), .int (nI tr), .int (nI hi), .ref (q 20), .ref (q 21), .ref (q 22), .ref (q 23), .int (nI ma)])), (q 3, .inl (cI, 200, .inl (ni K))), (q 4, .inl (cI, 200, .inl vI)), (q 5, .inl (cI, 200, .inl fI)), (q 6, .inl (cI, 200, .inl sI)), (q 7, .inl (cI, 200, .inl (ni u))), (q 9, .inl (cZ, 40200, .inl (zb f0))), (q 10, .inl (cZ, 40200, .inl (zb f1))), (q 11, .inl (cI, 20, .inl sv)), (q 13, .inl (cI, 500, .inl (ni pl))), (q 14, .inl (cI, 500, .inl (ni pt))), (q 15, .inl (cI, 300, .inl (ni tp))), (q 16, .inl (cI, 300, .inl ol)), (q 17, .inl (cZ, 200, .inl (zb se)))] H := hP.sub [7, 8, 9, 10, 11, 12, 0, 13, 1, 2, 3, 4, 5, 6] rfl
                have hD : va_D A [(o, .inr (11, [.int (nI th), .int (nI n), .int (nI b), .ref (q 3), .ref (q 4), .ref (q 5), .ref (q 6), .ref (q 7), .int (nI len), .ref (q 9), .ref (q 10), .ref (q 11), .ref (q 12), .ref (q 13), .ref (q 14), .ref (q 15), .ref (q 16), .ref (q 17), .int (nI tr), .int (nI hi), .ref (q 20), .ref (q 21), .ref (q 22), .ref (q 23), .int (nI ma)])), (q 3, .inl (cI, 200, .inl (ni K))), (q 4, .inl (cI, 200, .inl vI)), (q 5, .inl (cI, 200, .inl fI)), (q 6, .inl (cI, 200, .inl sI)), (q 7, .inl (cI, 200, .inl (ni u))), (q 9, .inl (cZ, 40200, .inl (zb f0))), (q 10, .inl (cZ, 40200, .inl (zb f1))), (q 11, .inl (cI, 20, .inl sv)), (q 13, .inl (cI, 500, .inl (ni pl))), (q 14, .inl (cI, 500, .inl (ni pt))), (q 15, .inl (cI, 300, .inl (ni tp))), (q 16, .inl (cI, 300, .inl ol)), (q 17, .inl (cZ, 200, .inl (zb se)))] := hD.sub [7, 8, 9, 10, 11, 12, 0, 13, 1, 2, 3, 4, 5, 6] (by decide) rfl
                refine lv_istore (lv' := [(5, .int (nI e1)), (0, .ref o), (1, .int (nI how)), (2, .int (zi lo)), (3, .int (nI fr)), (4, .int (nI p))]) hx hb dN_Mod_find_111 hl (by decide) rfl (fun ls hl => ?_)
                refine lv_aload_n hx hb dN_Mod_find_113 rfl (lv_at hl 1 rfl) ?_
                refine lv_iload hx hb dN_Mod_find_114 (lv_at hl 0 rfl) ?_
                refine lv_iload hx hb dN_Mod_find_116 (lv_at hl 5 rfl) ?_
                refine lv_iconst (v := (zi true)) hx hb dN_Mod_find_118 (by decide) ?_
                refine vx_callv (wc := [(o, .inr (11, [.int (nI th), .int (nI n), .int (nI b), .ref (q 3), .ref (q 4), .ref (q 5), .ref (q 6), .ref (q 7), .int (nI len), .ref (q 9), .ref (q 10), .ref (q 11), .ref (q 12), .ref (q 13), .ref (q 14), .ref (q 15), .ref (q 16), .ref (q 17), .int (nI tr), .int (nI hi), .ref (q 20), .ref (q 21), .ref (q 22), .ref (q 23), .int (nI ma)])), (q 3, .inl (cI, 200, .inl (ni K))), (q 4, .inl (cI, 200, .inl vI)), (q 5, .inl (cI, 200, .inl fI)), (q 6, .inl (cI, 200, .inl sI)), (q 7, .inl (cI, 200, .inl (ni u))), (q 9, .inl (cZ, 40200, .inl (zb f0)))]) (wr := [(q 10, .inl (cZ, 40200, .inl (zb f1))), (q 11, .inl (cI, 20, .inl sv)), (q 13, .inl (cI, 500, .inl (ni pl))), (q 14, .inl (cI, 500, .inl (ni pt))), (q 15, .inl (cI, 300, .inl (ni tp))), (q 16, .inl (cI, 300, .inl ol)), (q 17, .inl (cZ, 200, .inl (zb se)))]) [0, 1, 2, 3, 4, 5, 6] [7, 8, 9, 10, 11, 12, 13] hK hP hD hS hA rfl rfl (by decide) (by decide) (va_runV (As := [.int (nI e1), .int (nI p), .int (zi true)]) (rest := []) ⟨hx, hb, hml, hown, ht⟩ (kMod_note l D cI cZ cJ o q th n b len tr hi ma K V F S u vI fI sI f0 e1 p true hn0 hn hle hu hK5 hv hvb hv4 hf hs he1 (by omega) _) (⟨callB_of 3 ht (TB_in2 gN_Mod_note) rfl rfl rfl (ht _ mw_6) (ht _ mw_1025) (by decide +kernel) ⟨Nat.le_of_ble_eq_true rfl, Nat.le_of_ble_eq_true rfl⟩, ht _ mw_1027, ht _ ms_37⟩) (vx_preV [0, 1, 2, 3, 4, 5, 6] hK hP hD (by decide) rfl (ci := 11) rfl 0 rfl) rfl rfl hl.1 rfl (lv_room (Nat.le_of_ble_eq_true rfl)) dN_Mod_find_119 ⟨Nat.le_of_ble_eq_true rfl, Nat.le_of_ble_eq_true rfl⟩) (fun w1 H locs hq hP hD hS => ?_)
                obtain ⟨f2, rfl, hcb2⟩ := hq
                have hP : va_P D clN [(o, .inr (11, [.int (nI th), .int (nI n), .int (nI b), .ref (q 3), .ref (q 4), .ref (q 5), .ref (q 6), .ref (q 7), .int (nI len), .ref (q 9), .ref (q 10), .ref (q 11), .ref (q 12), .ref (q 13), .ref (q 14), .ref (q 15), .ref (q 16), .ref (q 17), .int (nI tr), .int (nI hi), .ref (q 20), .ref (q 21), .ref (q 22), .ref (q 23), .int (nI ma)])), (q 3, .inl (cI, 200, .inl (ni K))), (q 4, .inl (cI, 200, .inl vI)), (q 5, .inl (cI, 200, .inl fI)), (q 6, .inl (cI, 200, .inl sI)), (q 7, .inl (cI, 200, .inl (ni u))), (q 9, .inl (cZ, 40200, .inl (zb f2))), (q 10, .inl (cZ, 40200, .inl (zb f1))), (q 11, .inl (cI, 20, .inl sv)), (q 13, .inl (cI, 500, .inl (ni pl))), (q 14, .inl (cI, 500, .inl (ni pt))), (q 15, .inl (cI, 300, .inl (ni tp))), (q 16, .inl (cI, 300, .inl ol)), (q 17, .inl (cZ, 200, .inl (zb se)))] H := hP.sub [7, 8, 9, 10, 11, 12, 13, 0, 1, 2, 3, 4, 5, 6] rfl
                have hD : va_D A [(o, .inr (11, [.int (nI th), .int (nI n), .int (nI b), .ref (q 3), .ref (q 4), .ref (q 5), .ref (q 6), .ref (q 7), .int (nI len), .ref (q 9), .ref (q 10), .ref (q 11), .ref (q 12), .ref (q 13), .ref (q 14), .ref (q 15), .ref (q 16), .ref (q 17), .int (nI tr), .int (nI hi), .ref (q 20), .ref (q 21), .ref (q 22), .ref (q 23), .int (nI ma)])), (q 3, .inl (cI, 200, .inl (ni K))), (q 4, .inl (cI, 200, .inl vI)), (q 5, .inl (cI, 200, .inl fI)), (q 6, .inl (cI, 200, .inl sI)), (q 7, .inl (cI, 200, .inl (ni u))), (q 9, .inl (cZ, 40200, .inl (zb f2))), (q 10, .inl (cZ, 40200, .inl (zb f1))), (q 11, .inl (cI, 20, .inl sv)), (q 13, .inl (cI, 500, .inl (ni pl))), (q 14, .inl (cI, 500, .inl (ni pt))), (q 15, .inl (cI, 300, .inl (ni tp))), (q 16, .inl (cI, 300, .inl ol)), (q 17, .inl (cZ, 200, .inl (zb se)))] := hD.sub [7, 8, 9, 10, 11, 12, 13, 0, 1, 2, 3, 4, 5, 6] (by decide) rfl
                refine lv_aload_n hx hb dN_Mod_find_122 rfl (lv_at hl 1 rfl) ?_
                refine lv_iload hx hb dN_Mod_find_123 (lv_at hl 5 rfl) ?_
                refine lv_iload hx hb dN_Mod_find_125 (lv_at hl 0 rfl) ?_
                refine vx_calli (wc := [(o, .inr (11, [.int (nI th), .int (nI n), .int (nI b), .ref (q 3), .ref (q 4), .ref (q 5), .ref (q 6), .ref (q 7), .int (nI len), .ref (q 9), .ref (q 10), .ref (q 11), .ref (q 12), .ref (q 13), .ref (q 14), .ref (q 15), .ref (q 16), .ref (q 17), .int (nI tr), .int (nI hi), .ref (q 20), .ref (q 21), .ref (q 22), .ref (q 23), .int (nI ma)])), (q 3, .inl (cI, 200, .inl (ni K))), (q 4, .inl (cI, 200, .inl vI)), (q 5, .inl (cI, 200, .inl fI)), (q 6, .inl (cI, 200, .inl sI)), (q 7, .inl (cI, 200, .inl (ni u))), (q 9, .inl (cZ, 40200, .inl (zb f2))), (q 11, .inl (cI, 20, .inl sv)), (q 13, .inl (cI, 500, .inl (ni pl))), (q 14, .inl (cI, 500, .inl (ni pt))), (q 15, .inl (cI, 300, .inl (ni tp))), (q 16, .inl (cI, 300, .inl ol)), (q 17, .inl (cZ, 200, .inl (zb se)))]) (wr := [(q 10, .inl (cZ, 40200, .inl (zb f1)))]) [0, 1, 2, 3, 4, 5, 6, 8, 9, 10, 11, 12, 13] [7] hK hP hD hS hA rfl rfl (by decide) (by decide) (va_runV (As := [.int (nI p), .int (nI e1)]) (rest := []) ⟨hx, hb, hml, hown, ht⟩ (kMod_walk l D cI cZ cJ o q th n b len tr hi ma K V F S u vI fI sI f2 sv pl pt tp ol se p e1 true (nI e1) hn0 hn hle hu hK5 hv hvb hv4 hf hs hv3 hb0 (Or.inr ⟨rfl, rfl, he1⟩) he2 hcb2 (Fw_CanT he3) _) (⟨callB_of 2 ht (TB_in2 gN_Mod_walk) rfl rfl rfl (ht _ mw_6) (ht _ mw_1049) (by decide +kernel) ⟨Nat.le_of_ble_eq_true rfl, Nat.le_of_ble_eq_true rfl⟩, ht _ mw_1051, ht _ ms_43⟩) (vx_preV [0, 1, 2, 3, 4, 5, 6, 8, 9, 10, 11, 12, 13] hK hP hD (by decide) rfl (ci := 11) rfl 0 rfl) rfl rfl hl.1 rfl (lv_room (Nat.le_of_ble_eq_true rfl)) dN_Mod_find_127 ⟨Nat.le_of_ble_eq_true rfl, Nat.le_of_ble_eq_true rfl⟩) (fun r1 w1 H locs hq hP hD hS => ?_)
                obtain ⟨e2, sv3, pl3, pt3, tp3, ol3, se3, tr3, hi3, rfl, hgw, rfl⟩ := hq
                have hP : va_P D clN [(o, .inr (11, [.int (nI th), .int (nI n), .int (nI b), .ref (q 3), .ref (q 4), .ref (q 5), .ref (q 6), .ref (q 7), .int (nI len), .ref (q 9), .ref (q 10), .ref (q 11), .ref (q 12), .ref (q 13), .ref (q 14), .ref (q 15), .ref (q 16), .ref (q 17), .int (nI tr3), .int (nI hi3), .ref (q 20), .ref (q 21), .ref (q 22), .ref (q 23), .int (nI ma)])), (q 3, .inl (cI, 200, .inl (ni K))), (q 4, .inl (cI, 200, .inl vI)), (q 5, .inl (cI, 200, .inl fI)), (q 6, .inl (cI, 200, .inl sI)), (q 7, .inl (cI, 200, .inl (ni u))), (q 9, .inl (cZ, 40200, .inl (zb f2))), (q 10, .inl (cZ, 40200, .inl (zb f1))), (q 11, .inl (cI, 20, .inl sv3)), (q 13, .inl (cI, 500, .inl (ni pl3))), (q 14, .inl (cI, 500, .inl (ni pt3))), (q 15, .inl (cI, 300, .inl (ni tp3))), (q 16, .inl (cI, 300, .inl ol3)), (q 17, .inl (cZ, 200, .inl (zb se3)))] H := hP.sub [1, 2, 3, 4, 5, 6, 7, 0, 8, 9, 10, 11, 12, 13] rfl
                have hD : va_D A [(o, .inr (11, [.int (nI th), .int (nI n), .int (nI b), .ref (q 3), .ref (q 4), .ref (q 5), .ref (q 6), .ref (q 7), .int (nI len), .ref (q 9), .ref (q 10), .ref (q 11), .ref (q 12), .ref (q 13), .ref (q 14), .ref (q 15), .ref (q 16), .ref (q 17), .int (nI tr3), .int (nI hi3), .ref (q 20), .ref (q 21), .ref (q 22), .ref (q 23), .int (nI ma)])), (q 3, .inl (cI, 200, .inl (ni K))), (q 4, .inl (cI, 200, .inl vI)), (q 5, .inl (cI, 200, .inl fI)), (q 6, .inl (cI, 200, .inl sI)), (q 7, .inl (cI, 200, .inl (ni u))), (q 9, .inl (cZ, 40200, .inl (zb f2))), (q 10, .inl (cZ, 40200, .inl (zb f1))), (q 11, .inl (cI, 20, .inl sv3)), (q 13, .inl (cI, 500, .inl (ni pl3))), (q 14, .inl (cI, 500, .inl (ni pt3))), (q 15, .inl (cI, 300, .inl (ni tp3))), (q 16, .inl (cI, 300, .inl ol3)), (q 17, .inl (cZ, 200, .inl (zb se3)))] := hD.sub [1, 2, 3, 4, 5, 6, 7, 0, 8, 9, 10, 11, 12, 13] (by decide) rfl
                refine lv_istore (lv' := [(6, .int (nI e2)), (5, .int (nI e1)), (0, .ref o), (1, .int (nI how)), (2, .int (zi lo)), (3, .int (nI fr)), (4, .int (nI p))]) hx hb dN_Mod_find_130 hl (by decide) rfl (fun ls hl => ?_)
                refine lv_aload_n hx hb dN_Mod_find_132 rfl (lv_at hl 2 rfl) ?_
                refine va_get (D := D) (ci := 11) (v := .ref (q 11)) (C := RN_Mod) (T := FN_Mod) (N := 25) hx hb ht fN_Mod hown hK hP 0 rfl rfl 11 (by decide) (ht _ mw_917) (fun _ h9 => h9) rfl dN_Mod_find_133 ?_
                refine lv_iconst (v := (nI 0)) hx hb dN_Mod_find_136 (by decide) ?_
                refine lv_iload hx hb dN_Mod_find_137 (lv_at hl 6 rfl) ?_
                refine xi_ast hx hb hK hP hD hS 8 0 rfl rfl dN_Mod_find_139 (by omega) (by omega) (fun H locs hP hD hS => ?_)
                have hP : va_P D clN [(o, .inr (11, [.int (nI th), .int (nI n), .int (nI b), .ref (q 3), .ref (q 4), .ref (q 5), .ref (q 6), .ref (q 7), .int (nI len), .ref (q 9), .ref (q 10), .ref (q 11), .ref (q 12), .ref (q 13), .ref (q 14), .ref (q 15), .ref (q 16), .ref (q 17), .int (nI tr3), .int (nI hi3), .ref (q 20), .ref (q 21), .ref (q 22), .ref (q 23), .int (nI ma)])), (q 3, .inl (cI, 200, .inl (ni K))), (q 4, .inl (cI, 200, .inl vI)), (q 5, .inl (cI, 200, .inl fI)), (q 6, .inl (cI, 200, .inl sI)), (q 7, .inl (cI, 200, .inl (ni u))), (q 9, .inl (cZ, 40200, .inl (zb f2))), (q 10, .inl (cZ, 40200, .inl (zb f1))), (q 11, .inl (cI, 20, .inl ((upd sv3 0 (nI p))))), (q 13, .inl (cI, 500, .inl (ni pl3))), (q 14, .inl (cI, 500, .inl (ni pt3))), (q 15, .inl (cI, 300, .inl (ni tp3))), (q 16, .inl (cI, 300, .inl ol3)), (q 17, .inl (cZ, 200, .inl (zb se3)))] H := hP
                have hD : va_D A [(o, .inr (11, [.int (nI th), .int (nI n), .int (nI b), .ref (q 3), .ref (q 4), .ref (q 5), .ref (q 6), .ref (q 7), .int (nI len), .ref (q 9), .ref (q 10), .ref (q 11), .ref (q 12), .ref (q 13), .ref (q 14), .ref (q 15), .ref (q 16), .ref (q 17), .int (nI tr3), .int (nI hi3), .ref (q 20), .ref (q 21), .ref (q 22), .ref (q 23), .int (nI ma)])), (q 3, .inl (cI, 200, .inl (ni K))), (q 4, .inl (cI, 200, .inl vI)), (q 5, .inl (cI, 200, .inl fI)), (q 6, .inl (cI, 200, .inl sI)), (q 7, .inl (cI, 200, .inl (ni u))), (q 9, .inl (cZ, 40200, .inl (zb f2))), (q 10, .inl (cZ, 40200, .inl (zb f1))), (q 11, .inl (cI, 20, .inl ((upd sv3 0 (nI p))))), (q 13, .inl (cI, 500, .inl (ni pl3))), (q 14, .inl (cI, 500, .inl (ni pt3))), (q 15, .inl (cI, 300, .inl (ni tp3))), (q 16, .inl (cI, 300, .inl ol3)), (q 17, .inl (cZ, 200, .inl (zb se3)))] := hD
                refine lv_aload_n hx hb dN_Mod_find_140 rfl (lv_at hl 2 rfl) ?_
                refine va_get (D := D) (ci := 11) (v := .ref (q 11)) (C := RN_Mod) (T := FN_Mod) (N := 25) hx hb ht fN_Mod hown hK hP 0 rfl rfl 11 (by decide) (ht _ mw_917) (fun _ h9 => h9) rfl dN_Mod_find_141 ?_
                refine lv_iconst (v := (nI 1)) hx hb dN_Mod_find_144 (by decide) ?_
                refine lv_iload hx hb dN_Mod_find_145 (lv_at hl 0 rfl) ?_
                refine xi_ast hx hb hK hP hD hS 8 0 rfl rfl dN_Mod_find_147 (by omega) (by omega) (fun H locs hP hD hS => ?_)
                have hP : va_P D clN [(o, .inr (11, [.int (nI th), .int (nI n), .int (nI b), .ref (q 3), .ref (q 4), .ref (q 5), .ref (q 6), .ref (q 7), .int (nI len), .ref (q 9), .ref (q 10), .ref (q 11), .ref (q 12), .ref (q 13), .ref (q 14), .ref (q 15), .ref (q 16), .ref (q 17), .int (nI tr3), .int (nI hi3), .ref (q 20), .ref (q 21), .ref (q 22), .ref (q 23), .int (nI ma)])), (q 3, .inl (cI, 200, .inl (ni K))), (q 4, .inl (cI, 200, .inl vI)), (q 5, .inl (cI, 200, .inl fI)), (q 6, .inl (cI, 200, .inl sI)), (q 7, .inl (cI, 200, .inl (ni u))), (q 9, .inl (cZ, 40200, .inl (zb f2))), (q 10, .inl (cZ, 40200, .inl (zb f1))), (q 11, .inl (cI, 20, .inl ((upd (upd sv3 0 (nI p)) 1 (nI e2))))), (q 13, .inl (cI, 500, .inl (ni pl3))), (q 14, .inl (cI, 500, .inl (ni pt3))), (q 15, .inl (cI, 300, .inl (ni tp3))), (q 16, .inl (cI, 300, .inl ol3)), (q 17, .inl (cZ, 200, .inl (zb se3)))] H := hP
                have hD : va_D A [(o, .inr (11, [.int (nI th), .int (nI n), .int (nI b), .ref (q 3), .ref (q 4), .ref (q 5), .ref (q 6), .ref (q 7), .int (nI len), .ref (q 9), .ref (q 10), .ref (q 11), .ref (q 12), .ref (q 13), .ref (q 14), .ref (q 15), .ref (q 16), .ref (q 17), .int (nI tr3), .int (nI hi3), .ref (q 20), .ref (q 21), .ref (q 22), .ref (q 23), .int (nI ma)])), (q 3, .inl (cI, 200, .inl (ni K))), (q 4, .inl (cI, 200, .inl vI)), (q 5, .inl (cI, 200, .inl fI)), (q 6, .inl (cI, 200, .inl sI)), (q 7, .inl (cI, 200, .inl (ni u))), (q 9, .inl (cZ, 40200, .inl (zb f2))), (q 10, .inl (cZ, 40200, .inl (zb f1))), (q 11, .inl (cI, 20, .inl ((upd (upd sv3 0 (nI p)) 1 (nI e2))))), (q 13, .inl (cI, 500, .inl (ni pl3))), (q 14, .inl (cI, 500, .inl (ni pt3))), (q 15, .inl (cI, 300, .inl (ni tp3))), (q 16, .inl (cI, 300, .inl ol3)), (q 17, .inl (cZ, 200, .inl (zb se3)))] := hD
                refine lv_iload hx hb dN_Mod_find_148 (lv_at hl 0 rfl) ?_
                exact vx_iret C hK hP hD hS dN_Mod_find_150 (Nat.le_of_ble_eq_true rfl) (Nat.le_of_ble_eq_true rfl) (⟨some (p, e2, sv3), _, _, _, _, _, _, _, _, _, _, Or.inr ⟨p, e2, sv3, rfl, ⟨by omega, by omega, hhow⟩, hcan, (fun p1 h1 h2 => by rw [← hj_al]; exact hno p1 h2.1 h1), e1, true, Or.inr ⟨by omega, c_97_11, rfl, he1, he3, he4⟩, by omega, hgw⟩, rfl, (fun _ _ _ h => by cases h; rfl), rfl⟩)
          · skip
            refine lv_iload_n hx hb dN_Mod_find_81 rfl (lv_at hl 1 rfl) ?_
            refine lv_iconst (v := (nI 2)) hx hb dN_Mod_find_82 (by decide) ?_
            refine xn_ne (tgt := 93) hx hb dN_Mod_find_83 (by decide) (by omega) (by omega) (fun c_83_13 => ?_) (fun c_83_13 => ?_)
            · skip
              refine lv_iconst (v := (-1)) hx hb dN_Mod_find_93 (by decide) ?_
              exact Jj11 (-1) (by rw [if_neg c_83_13])
            · skip
              refine lv_aload_n hx hb dN_Mod_find_86 rfl (lv_at hl 0 rfl) ?_
              refine va_get (D := D) (ci := 11) (v := .int (nI len)) (C := RN_Mod) (T := FN_Mod) (N := 25) hx hb ht fN_Mod hown hK hP 0 rfl rfl 8 (by decide) (ht _ mw_914) (fun _ h9 => h9) rfl dN_Mod_find_87 ?_
              refine lv_goto (tgt := 94) hx hb dN_Mod_find_90 (by decide) ?_
              exact Jj11 (nI (len)) (by rw [if_pos c_83_13])
        · skip
          refine lv_iconst (v := (-1)) hx hb dN_Mod_find_79 (by decide) ?_
          exact vx_iret C hK hP hD hS dN_Mod_find_80 (Nat.le_of_ble_eq_true rfl) (Nat.le_of_ble_eq_true rfl) (⟨none, _, _, _, _, _, _, _, _, _, _, Or.inl ⟨rfl, fun p1 ⟨h1, h2, h3⟩ => by rw [← hj_al]; rcases Nat.lt_trichotomy p1 p with h4 | h4 | h4; (exact hno p1 h1 h4); (subst h4; exact fun h5 => by have h6 := (hcb p1 b h1 h2 hb0).mpr h5; rw [c_76_9] at h6; cases h6); (exact absurd h2 (by omega))⟩, rfl, (fun _ _ _ h => by cases h), rfl⟩)
      · skip
        refine lv_aload_n hx hb dN_Mod_find_35 rfl (lv_at hl 0 rfl) ?_
        refine va_get (D := D) (ci := 11) (v := .ref (q 9)) (C := RN_Mod) (T := FN_Mod) (N := 25) hx hb ht fN_Mod hown hK hP 0 rfl rfl 9 (by decide) (ht _ mw_915) (fun _ h9 => h9) rfl dN_Mod_find_36 ?_
        refine lv_sipush (v := (nI 200)) hx hb dN_Mod_find_39 (by decide) ?_
        refine lv_iload hx hb dN_Mod_find_42 (lv_at hl 4 rfl) ?_
        refine xn_mul hx hb dN_Mod_find_44 ?_
        refine lv_aload_n hx hb dN_Mod_find_45 rfl (lv_at hl 0 rfl) ?_
        refine va_get (D := D) (ci := 11) (v := .int (nI b)) (C := RN_Mod) (T := FN_Mod) (N := 25) hx hb ht fN_Mod hown hK hP 0 rfl rfl 2 (by decide) (ht _ mw_908) (fun _ h9 => h9) rfl dN_Mod_find_46 ?_
        refine xn_add hx hb dN_Mod_find_49 ?_
        refine xz_ald hx hb hK hP 6 1 rfl rfl dN_Mod_find_50 (by omega) (by omega) ?_
        refine xz_ne0 (tgt := 60) hx hb dN_Mod_find_51 (by decide) (fun c_51_14 => ?_) (fun c_51_14 => ?_)
        · skip
          refine lv_aload_n hx hb dN_Mod_find_60 rfl (lv_at hl 0 rfl) ?_
          refine va_get (D := D) (ci := 11) (v := .ref (q 9)) (C := RN_Mod) (T := FN_Mod) (N := 25) hx hb ht fN_Mod hown hK hP 0 rfl rfl 9 (by decide) (ht _ mw_915) (fun _ h9 => h9) rfl dN_Mod_find_61 ?_
          refine lv_sipush (v := (nI 200)) hx hb dN_Mod_find_64 (by decide) ?_
          refine lv_iload hx hb dN_Mod_find_67 (lv_at hl 4 rfl) ?_
          refine xn_mul hx hb dN_Mod_find_69 ?_
          refine lv_aload_n hx hb dN_Mod_find_70 rfl (lv_at hl 0 rfl) ?_
          refine va_get (D := D) (ci := 11) (v := .int (nI b)) (C := RN_Mod) (T := FN_Mod) (N := 25) hx hb ht fN_Mod hown hK hP 0 rfl rfl 2 (by decide) (ht _ mw_908) (fun _ h9 => h9) rfl dN_Mod_find_71 ?_
          refine xn_add hx hb dN_Mod_find_74 ?_
          refine xz_ald hx hb hK hP 6 1 rfl rfl dN_Mod_find_75 (by omega) (by omega) ?_
          refine xz_ne0 (tgt := 81) hx hb dN_Mod_find_76 (by decide) (fun c_76_15 => ?_) (fun c_76_15 => ?_)
          · skip
            have hcan : Can K V F S len u len (decide (how = 2)) p b := by rw [← hj_al]; exact (hcb p b hp1 hp2 hb0).mp c_76_15
            refine vx_join (α := Int32) (fun j17 => j17 = if how = 2 then nI len else -1) (fun j17 => F0 m 94 ls [.int j17]) (fun j17 hj17 => ?_) (fun Jj17 => ?_)
            · skip
              have hj_x := hj17
              refine lv_istore (lv' := [(5, .int j17), (0, .ref o), (1, .int (nI how)), (2, .int (zi lo)), (3, .int (nI fr)), (4, .int (nI p))]) hx hb dN_Mod_find_94 hl (by decide) rfl (fun ls hl => ?_)
              refine lv_iload_n hx hb dN_Mod_find_96 rfl (lv_at hl 3 rfl) ?_
              refine xz_eq0 (tgt := 122) hx hb dN_Mod_find_97 (by decide) (fun c_97_17 => ?_) (fun c_97_17 => ?_)
              · skip
                refine lv_aload_n hx hb dN_Mod_find_122 rfl (lv_at hl 1 rfl) ?_
                refine lv_iload hx hb dN_Mod_find_123 (lv_at hl 5 rfl) ?_
                refine lv_iload hx hb dN_Mod_find_125 (lv_at hl 0 rfl) ?_
                refine vx_calli (wc := [(o, .inr (11, [.int (nI th), .int (nI n), .int (nI b), .ref (q 3), .ref (q 4), .ref (q 5), .ref (q 6), .ref (q 7), .int (nI len), .ref (q 9), .ref (q 10), .ref (q 11), .ref (q 12), .ref (q 13), .ref (q 14), .ref (q 15), .ref (q 16), .ref (q 17), .int (nI tr), .int (nI hi), .ref (q 20), .ref (q 21), .ref (q 22), .ref (q 23), .int (nI ma)])), (q 3, .inl (cI, 200, .inl (ni K))), (q 4, .inl (cI, 200, .inl vI)), (q 5, .inl (cI, 200, .inl fI)), (q 6, .inl (cI, 200, .inl sI)), (q 7, .inl (cI, 200, .inl (ni u))), (q 9, .inl (cZ, 40200, .inl (zb f0))), (q 11, .inl (cI, 20, .inl sv)), (q 13, .inl (cI, 500, .inl (ni pl))), (q 14, .inl (cI, 500, .inl (ni pt))), (q 15, .inl (cI, 300, .inl (ni tp))), (q 16, .inl (cI, 300, .inl ol)), (q 17, .inl (cZ, 200, .inl (zb se)))]) (wr := [(q 10, .inl (cZ, 40200, .inl (zb cm)))]) [0, 1, 2, 3, 4, 5, 6, 8, 9, 10, 11, 12, 13] [7] hK hP hD hS hA rfl rfl (by decide) (by decide) (va_runV (As := [.int (nI p), .int j17]) (rest := []) ⟨hx, hb, hml, hown, ht⟩ (kMod_walk l D cI cZ cJ o q th n b len tr hi ma K V F S u vI fI sI f0 sv pl pt tp ol se p len (decide (how = 2)) j17 hn0 hn hle hu hK5 hv hvb hv4 hf hs hv3 hb0 (by rw [hj_x]; by_cases h9 : how = 2; (rw [if_pos h9, decide_eq_true h9]; exact Or.inr ⟨rfl, rfl, Nat.le_refl _⟩); (rw [if_neg h9, decide_eq_false h9]; exact Or.inl ⟨rfl, rfl, rfl⟩)) (by omega) (fun p1 k1 h1 h2 h3 => by rw [← hj_al]; exact hcb p1 k1 (by omega) h2 h3) hcan _) (⟨callB_of 2 ht (TB_in2 gN_Mod_walk) rfl rfl rfl (ht _ mw_6) (ht _ mw_1049) (by decide +kernel) ⟨Nat.le_of_ble_eq_true rfl, Nat.le_of_ble_eq_true rfl⟩, ht _ mw_1051, ht _ ms_43⟩) (vx_preV [0, 1, 2, 3, 4, 5, 6, 8, 9, 10, 11, 12, 13] hK hP hD (by decide) rfl (ci := 11) rfl 0 rfl) rfl rfl hl.1 rfl (lv_room (Nat.le_of_ble_eq_true rfl)) dN_Mod_find_127 ⟨Nat.le_of_ble_eq_true rfl, Nat.le_of_ble_eq_true rfl⟩) (fun r1 w1 H locs hq hP hD hS => ?_)
                obtain ⟨e2, sv3, pl3, pt3, tp3, ol3, se3, tr3, hi3, rfl, hgw, rfl⟩ := hq
                have hP : va_P D clN [(o, .inr (11, [.int (nI th), .int (nI n), .int (nI b), .ref (q 3), .ref (q 4), .ref (q 5), .ref (q 6), .ref (q 7), .int (nI len), .ref (q 9), .ref (q 10), .ref (q 11), .ref (q 12), .ref (q 13), .ref (q 14), .ref (q 15), .ref (q 16), .ref (q 17), .int (nI tr3), .int (nI hi3), .ref (q 20), .ref (q 21), .ref (q 22), .ref (q 23), .int (nI ma)])), (q 3, .inl (cI, 200, .inl (ni K))), (q 4, .inl (cI, 200, .inl vI)), (q 5, .inl (cI, 200, .inl fI)), (q 6, .inl (cI, 200, .inl sI)), (q 7, .inl (cI, 200, .inl (ni u))), (q 9, .inl (cZ, 40200, .inl (zb f0))), (q 10, .inl (cZ, 40200, .inl (zb cm))), (q 11, .inl (cI, 20, .inl sv3)), (q 13, .inl (cI, 500, .inl (ni pl3))), (q 14, .inl (cI, 500, .inl (ni pt3))), (q 15, .inl (cI, 300, .inl (ni tp3))), (q 16, .inl (cI, 300, .inl ol3)), (q 17, .inl (cZ, 200, .inl (zb se3)))] H := hP.sub [1, 2, 3, 4, 5, 6, 7, 0, 8, 9, 10, 11, 12, 13] rfl
                have hD : va_D A [(o, .inr (11, [.int (nI th), .int (nI n), .int (nI b), .ref (q 3), .ref (q 4), .ref (q 5), .ref (q 6), .ref (q 7), .int (nI len), .ref (q 9), .ref (q 10), .ref (q 11), .ref (q 12), .ref (q 13), .ref (q 14), .ref (q 15), .ref (q 16), .ref (q 17), .int (nI tr3), .int (nI hi3), .ref (q 20), .ref (q 21), .ref (q 22), .ref (q 23), .int (nI ma)])), (q 3, .inl (cI, 200, .inl (ni K))), (q 4, .inl (cI, 200, .inl vI)), (q 5, .inl (cI, 200, .inl fI)), (q 6, .inl (cI, 200, .inl sI)), (q 7, .inl (cI, 200, .inl (ni u))), (q 9, .inl (cZ, 40200, .inl (zb f0))), (q 10, .inl (cZ, 40200, .inl (zb cm))), (q 11, .inl (cI, 20, .inl sv3)), (q 13, .inl (cI, 500, .inl (ni pl3))), (q 14, .inl (cI, 500, .inl (ni pt3))), (q 15, .inl (cI, 300, .inl (ni tp3))), (q 16, .inl (cI, 300, .inl ol3)), (q 17, .inl (cZ, 200, .inl (zb se3)))] := hD.sub [1, 2, 3, 4, 5, 6, 7, 0, 8, 9, 10, 11, 12, 13] (by decide) rfl
                refine lv_istore (lv' := [(6, .int (nI e2)), (5, .int j17), (0, .ref o), (1, .int (nI how)), (2, .int (zi lo)), (3, .int (nI fr)), (4, .int (nI p))]) hx hb dN_Mod_find_130 hl (by decide) rfl (fun ls hl => ?_)
                refine lv_aload_n hx hb dN_Mod_find_132 rfl (lv_at hl 2 rfl) ?_
                refine va_get (D := D) (ci := 11) (v := .ref (q 11)) (C := RN_Mod) (T := FN_Mod) (N := 25) hx hb ht fN_Mod hown hK hP 0 rfl rfl 11 (by decide) (ht _ mw_917) (fun _ h9 => h9) rfl dN_Mod_find_133 ?_
                refine lv_iconst (v := (nI 0)) hx hb dN_Mod_find_136 (by decide) ?_
                refine lv_iload hx hb dN_Mod_find_137 (lv_at hl 6 rfl) ?_
                refine xi_ast hx hb hK hP hD hS 8 0 rfl rfl dN_Mod_find_139 (by omega) (by omega) (fun H locs hP hD hS => ?_)
                have hP : va_P D clN [(o, .inr (11, [.int (nI th), .int (nI n), .int (nI b), .ref (q 3), .ref (q 4), .ref (q 5), .ref (q 6), .ref (q 7), .int (nI len), .ref (q 9), .ref (q 10), .ref (q 11), .ref (q 12), .ref (q 13), .ref (q 14), .ref (q 15), .ref (q 16), .ref (q 17), .int (nI tr3), .int (nI hi3), .ref (q 20), .ref (q 21), .ref (q 22), .ref (q 23), .int (nI ma)])), (q 3, .inl (cI, 200, .inl (ni K))), (q 4, .inl (cI, 200, .inl vI)), (q 5, .inl (cI, 200, .inl fI)), (q 6, .inl (cI, 200, .inl sI)), (q 7, .inl (cI, 200, .inl (ni u))), (q 9, .inl (cZ, 40200, .inl (zb f0))), (q 10, .inl (cZ, 40200, .inl (zb cm))), (q 11, .inl (cI, 20, .inl ((upd sv3 0 (nI p))))), (q 13, .inl (cI, 500, .inl (ni pl3))), (q 14, .inl (cI, 500, .inl (ni pt3))), (q 15, .inl (cI, 300, .inl (ni tp3))), (q 16, .inl (cI, 300, .inl ol3)), (q 17, .inl (cZ, 200, .inl (zb se3)))] H := hP
                have hD : va_D A [(o, .inr (11, [.int (nI th), .int (nI n), .int (nI b), .ref (q 3), .ref (q 4), .ref (q 5), .ref (q 6), .ref (q 7), .int (nI len), .ref (q 9), .ref (q 10), .ref (q 11), .ref (q 12), .ref (q 13), .ref (q 14), .ref (q 15), .ref (q 16), .ref (q 17), .int (nI tr3), .int (nI hi3), .ref (q 20), .ref (q 21), .ref (q 22), .ref (q 23), .int (nI ma)])), (q 3, .inl (cI, 200, .inl (ni K))), (q 4, .inl (cI, 200, .inl vI)), (q 5, .inl (cI, 200, .inl fI)), (q 6, .inl (cI, 200, .inl sI)), (q 7, .inl (cI, 200, .inl (ni u))), (q 9, .inl (cZ, 40200, .inl (zb f0))), (q 10, .inl (cZ, 40200, .inl (zb cm))), (q 11, .inl (cI, 20, .inl ((upd sv3 0 (nI p))))), (q 13, .inl (cI, 500, .inl (ni pl3))), (q 14, .inl (cI, 500, .inl (ni pt3))), (q 15, .inl (cI, 300, .inl (ni tp3))), (q 16, .inl (cI, 300, .inl ol3)), (q 17, .inl (cZ, 200, .inl (zb se3)))] := hD
                refine lv_aload_n hx hb dN_Mod_find_140 rfl (lv_at hl 2 rfl) ?_
                refine va_get (D := D) (ci := 11) (v := .ref (q 11)) (C := RN_Mod) (T := FN_Mod) (N := 25) hx hb ht fN_Mod hown hK hP 0 rfl rfl 11 (by decide) (ht _ mw_917) (fun _ h9 => h9) rfl dN_Mod_find_141 ?_
                refine lv_iconst (v := (nI 1)) hx hb dN_Mod_find_144 (by decide) ?_
                refine lv_iload hx hb dN_Mod_find_145 (lv_at hl 0 rfl) ?_
                refine xi_ast hx hb hK hP hD hS 8 0 rfl rfl dN_Mod_find_147 (by omega) (by omega) (fun H locs hP hD hS => ?_)
                have hP : va_P D clN [(o, .inr (11, [.int (nI th), .int (nI n), .int (nI b), .ref (q 3), .ref (q 4), .ref (q 5), .ref (q 6), .ref (q 7), .int (nI len), .ref (q 9), .ref (q 10), .ref (q 11), .ref (q 12), .ref (q 13), .ref (q 14), .ref (q 15), .ref (q 16), .ref (q 17), .int (nI tr3), .int (nI hi3), .ref (q 20), .ref (q 21), .ref (q 22), .ref (q 23), .int (nI ma)])), (q 3, .inl (cI, 200, .inl (ni K))), (q 4, .inl (cI, 200, .inl vI)), (q 5, .inl (cI, 200, .inl fI)), (q 6, .inl (cI, 200, .inl sI)), (q 7, .inl (cI, 200, .inl (ni u))), (q 9, .inl (cZ, 40200, .inl (zb f0))), (q 10, .inl (cZ, 40200, .inl (zb cm))), (q 11, .inl (cI, 20, .inl ((upd (upd sv3 0 (nI p)) 1 (nI e2))))), (q 13, .inl (cI, 500, .inl (ni pl3))), (q 14, .inl (cI, 500, .inl (ni pt3))), (q 15, .inl (cI, 300, .inl (ni tp3))), (q 16, .inl (cI, 300, .inl ol3)), (q 17, .inl (cZ, 200, .inl (zb se3)))] H := hP
                have hD : va_D A [(o, .inr (11, [.int (nI th), .int (nI n), .int (nI b), .ref (q 3), .ref (q 4), .ref (q 5), .ref (q 6), .ref (q 7), .int (nI len), .ref (q 9), .ref (q 10), .ref (q 11), .ref (q 12), .ref (q 13), .ref (q 14), .ref (q 15), .ref (q 16), .ref (q 17), .int (nI tr3), .int (nI hi3), .ref (q 20), .ref (q 21), .ref (q 22), .ref (q 23), .int (nI ma)])), (q 3, .inl (cI, 200, .inl (ni K))), (q 4, .inl (cI, 200, .inl vI)), (q 5, .inl (cI, 200, .inl fI)), (q 6, .inl (cI, 200, .inl sI)), (q 7, .inl (cI, 200, .inl (ni u))), (q 9, .inl (cZ, 40200, .inl (zb f0))), (q 10, .inl (cZ, 40200, .inl (zb cm))), (q 11, .inl (cI, 20, .inl ((upd (upd sv3 0 (nI p)) 1 (nI e2))))), (q 13, .inl (cI, 500, .inl (ni pl3))), (q 14, .inl (cI, 500, .inl (ni pt3))), (q 15, .inl (cI, 300, .inl (ni tp3))), (q 16, .inl (cI, 300, .inl ol3)), (q 17, .inl (cZ, 200, .inl (zb se3)))] := hD
                refine lv_iload hx hb dN_Mod_find_148 (lv_at hl 0 rfl) ?_
                exact vx_iret C hK hP hD hS dN_Mod_find_150 (Nat.le_of_ble_eq_true rfl) (Nat.le_of_ble_eq_true rfl) (⟨some (p, e2, sv3), _, _, _, _, _, _, _, _, _, _, Or.inr ⟨p, e2, sv3, rfl, ⟨by omega, by omega, hhow⟩, hcan, (fun p1 h1 h2 => by rw [← hj_al]; exact hno p1 h2.1 h1), len, decide (how = 2), Or.inl ⟨Or.inr c_97_17, rfl, rfl⟩, by omega, hgw⟩, rfl, (fun _ _ _ h => by cases h; rfl), rfl⟩)
              · skip
                refine lv_iload_n hx hb dN_Mod_find_100 rfl (lv_at hl 2 rfl) ?_
                refine lv_iconst (v := (nI 2)) hx hb dN_Mod_find_101 (by decide) ?_
                refine xn_ge (tgt := 122) hx hb dN_Mod_find_102 (by decide) (by omega) (by omega) (fun c_102_18 => ?_) (fun c_102_18 => ?_)
                · skip
                  refine lv_aload_n hx hb dN_Mod_find_122 rfl (lv_at hl 1 rfl) ?_
                  refine lv_iload hx hb dN_Mod_find_123 (lv_at hl 5 rfl) ?_
                  refine lv_iload hx hb dN_Mod_find_125 (lv_at hl 0 rfl) ?_
                  refine vx_calli (wc := [(o, .inr (11, [.int (nI th), .int (nI n), .int (nI b), .ref (q 3), .ref (q 4), .ref (q 5), .ref (q 6), .ref (q 7), .int (nI len), .ref (q 9), .ref (q 10), .ref (q 11), .ref (q 12), .ref (q 13), .ref (q 14), .ref (q 15), .ref (q 16), .ref (q 17), .int (nI tr), .int (nI hi), .ref (q 20), .ref (q 21), .ref (q 22), .ref (q 23), .int (nI ma)])), (q 3, .inl (cI, 200, .inl (ni K))), (q 4, .inl (cI, 200, .inl vI)), (q 5, .inl (cI, 200, .inl fI)), (q 6, .inl (cI, 200, .inl sI)), (q 7, .inl (cI, 200, .inl (ni u))), (q 9, .inl (cZ, 40200, .inl (zb f0))), (q 11, .inl (cI, 20, .inl sv)), (q 13, .inl (cI, 500, .inl (ni pl))), (q 14, .inl (cI, 500, .inl (ni pt))), (q 15, .inl (cI, 300, .inl (ni tp))), (q 16, .inl (cI, 300, .inl ol)), (q 17, .inl (cZ, 200, .inl (zb se)))]) (wr := [(q 10, .inl (cZ, 40200, .inl (zb cm)))]) [0, 1, 2, 3, 4, 5, 6, 8, 9, 10, 11, 12, 13] [7] hK hP hD hS hA rfl rfl (by decide) (by decide) (va_runV (As := [.int (nI p), .int j17]) (rest := []) ⟨hx, hb, hml, hown, ht⟩ (kMod_walk l D cI cZ cJ o q th n b len tr hi ma K V F S u vI fI sI f0 sv pl pt tp ol se p len (decide (how = 2)) j17 hn0 hn hle hu hK5 hv hvb hv4 hf hs hv3 hb0 (by rw [hj_x]; by_cases h9 : how = 2; (rw [if_pos h9, decide_eq_true h9]; exact Or.inr ⟨rfl, rfl, Nat.le_refl _⟩); (rw [if_neg h9, decide_eq_false h9]; exact Or.inl ⟨rfl, rfl, rfl⟩)) (by omega) (fun p1 k1 h1 h2 h3 => by rw [← hj_al]; exact hcb p1 k1 (by omega) h2 h3) hcan _) (⟨callB_of 2 ht (TB_in2 gN_Mod_walk) rfl rfl rfl (ht _ mw_6) (ht _ mw_1049) (by decide +kernel) ⟨Nat.le_of_ble_eq_true rfl, Nat.le_of_ble_eq_true rfl⟩, ht _ mw_1051, ht _ ms_43⟩) (vx_preV [0, 1, 2, 3, 4, 5, 6, 8, 9, 10, 11, 12, 13] hK hP hD (by decide) rfl (ci := 11) rfl 0 rfl) rfl rfl hl.1 rfl (lv_room (Nat.le_of_ble_eq_true rfl)) dN_Mod_find_127 ⟨Nat.le_of_ble_eq_true rfl, Nat.le_of_ble_eq_true rfl⟩) (fun r1 w1 H locs hq hP hD hS => ?_)
                  obtain ⟨e2, sv3, pl3, pt3, tp3, ol3, se3, tr3, hi3, rfl, hgw, rfl⟩ := hq
                  have hP : va_P D clN [(o, .inr (11, [.int (nI th), .int (nI n), .int (nI b), .ref (q 3), .ref (q 4), .ref (q 5), .ref (q 6), .ref (q 7), .int (nI len), .ref (q 9), .ref (q 10), .ref (q 11), .ref (q 12), .ref (q 13), .ref (q 14), .ref (q 15), .ref (q 16), .ref (q 17), .int (nI tr3), .int (nI hi3), .ref (q 20), .ref (q 21), .ref (q 22), .ref (q 23), .int (nI ma)])), (q 3, .inl (cI, 200, .inl (ni K))), (q 4, .inl (cI, 200, .inl vI)), (q 5, .inl (cI, 200, .inl fI)), (q 6, .inl (cI, 200, .inl sI)), (q 7, .inl (cI, 200, .inl (ni u))), (q 9, .inl (cZ, 40200, .inl (zb f0))), (q 10, .inl (cZ, 40200, .inl (zb cm))), (q 11, .inl (cI, 20, .inl sv3)), (q 13, .inl (cI, 500, .inl (ni pl3))), (q 14, .inl (cI, 500, .inl (ni pt3))), (q 15, .inl (cI, 300, .inl (ni tp3))), (q 16, .inl (cI, 300, .inl ol3)), (q 17, .inl (cZ, 200, .inl (zb se3)))] H := hP.sub [1, 2, 3, 4, 5, 6, 7, 0, 8, 9, 10, 11, 12, 13] rfl
                  have hD : va_D A [(o, .inr (11, [.int (nI th), .int (nI n), .int (nI b), .ref (q 3), .ref (q 4), .ref (q 5), .ref (q 6), .ref (q 7), .int (nI len), .ref (q 9), .ref (q 10), .ref (q 11), .ref (q 12), .ref (q 13), .ref (q 14), .ref (q 15), .ref (q 16), .ref (q 17), .int (nI tr3), .int (nI hi3), .ref (q 20), .ref (q 21), .ref (q 22), .ref (q 23), .int (nI ma)])), (q 3, .inl (cI, 200, .inl (ni K))), (q 4, .inl (cI, 200, .inl vI)), (q 5, .inl (cI, 200, .inl fI)), (q 6, .inl (cI, 200, .inl sI)), (q 7, .inl (cI, 200, .inl (ni u))), (q 9, .inl (cZ, 40200, .inl (zb f0))), (q 10, .inl (cZ, 40200, .inl (zb cm))), (q 11, .inl (cI, 20, .inl sv3)), (q 13, .inl (cI, 500, .inl (ni pl3))), (q 14, .inl (cI, 500, .inl (ni pt3))), (q 15, .inl (cI, 300, .inl (ni tp3))), (q 16, .inl (cI, 300, .inl ol3)), (q 17, .inl (cZ, 200, .inl (zb se3)))] := hD.sub [1, 2, 3, 4, 5, 6, 7, 0, 8, 9, 10, 11, 12, 13] (by decide) rfl
                  refine lv_istore (lv' := [(6, .int (nI e2)), (5, .int j17), (0, .ref o), (1, .int (nI how)), (2, .int (zi lo)), (3, .int (nI fr)), (4, .int (nI p))]) hx hb dN_Mod_find_130 hl (by decide) rfl (fun ls hl => ?_)
                  refine lv_aload_n hx hb dN_Mod_find_132 rfl (lv_at hl 2 rfl) ?_
                  refine va_get (D := D) (ci := 11) (v := .ref (q 11)) (C := RN_Mod) (T := FN_Mod) (N := 25) hx hb ht fN_Mod hown hK hP 0 rfl rfl 11 (by decide) (ht _ mw_917) (fun _ h9 => h9) rfl dN_Mod_find_133 ?_
                  refine lv_iconst (v := (nI 0)) hx hb dN_Mod_find_136 (by decide) ?_
                  refine lv_iload hx hb dN_Mod_find_137 (lv_at hl 6 rfl) ?_
                  refine xi_ast hx hb hK hP hD hS 8 0 rfl rfl dN_Mod_find_139 (by omega) (by omega) (fun H locs hP hD hS => ?_)
                  have hP : va_P D clN [(o, .inr (11, [.int (nI th), .int (nI n), .int (nI b), .ref (q 3), .ref (q 4), .ref (q 5), .ref (q 6), .ref (q 7), .int (nI len), .ref (q 9), .ref (q 10), .ref (q 11), .ref (q 12), .ref (q 13), .ref (q 14), .ref (q 15), .ref (q 16), .ref (q 17), .int (nI tr3), .int (nI hi3), .ref (q 20), .ref (q 21), .ref (q 22), .ref (q 23), .int (nI ma)])), (q 3, .inl (cI, 200, .inl (ni K))), (q 4, .inl (cI, 200, .inl vI)), (q 5, .inl (cI, 200, .inl fI)), (q 6, .inl (cI, 200, .inl sI)), (q 7, .inl (cI, 200, .inl (ni u))), (q 9, .inl (cZ, 40200, .inl (zb f0))), (q 10, .inl (cZ, 40200, .inl (zb cm))), (q 11, .inl (cI, 20, .inl ((upd sv3 0 (nI p))))), (q 13, .inl (cI, 500, .inl (ni pl3))), (q 14, .inl (cI, 500, .inl (ni pt3))), (q 15, .inl (cI, 300, .inl (ni tp3))), (q 16, .inl (cI, 300, .inl ol3)), (q 17, .inl (cZ, 200, .inl (zb se3)))] H := hP
                  have hD : va_D A [(o, .inr (11, [.int (nI th), .int (nI n), .int (nI b), .ref (q 3), .ref (q 4), .ref (q 5), .ref (q 6), .ref (q 7), .int (nI len), .ref (q 9), .ref (q 10), .ref (q 11), .ref (q 12), .ref (q 13), .ref (q 14), .ref (q 15), .ref (q 16), .ref (q 17), .int (nI tr3), .int (nI hi3), .ref (q 20), .ref (q 21), .ref (q 22), .ref (q 23), .int (nI ma)])), (q 3, .inl (cI, 200, .inl (ni K))), (q 4, .inl (cI, 200, .inl vI)), (q 5, .inl (cI, 200, .inl fI)), (q 6, .inl (cI, 200, .inl sI)), (q 7, .inl (cI, 200, .inl (ni u))), (q 9, .inl (cZ, 40200, .inl (zb f0))), (q 10, .inl (cZ, 40200, .inl (zb cm))), (q 11, .inl (cI, 20, .inl ((upd sv3 0 (nI p))))), (q 13, .inl (cI, 500, .inl (ni pl3))), (q 14, .inl (cI, 500, .inl (ni pt3))), (q 15, .inl (cI, 300, .inl (ni tp3))), (q 16, .inl (cI, 300, .inl ol3)), (q 17, .inl (cZ, 200, .inl (zb se3)))] := hD
                  refine lv_aload_n hx hb dN_Mod_find_140 rfl (lv_at hl 2 rfl) ?_
                  refine va_get (D := D) (ci := 11) (v := .ref (q 11)) (C := RN_Mod) (T := FN_Mod) (N := 25) hx hb ht fN_Mod hown hK hP 0 rfl rfl 11 (by decide) (ht _ mw_917) (fun _ h9 => h9) rfl dN_Mod_find_141 ?_
                  refine lv_iconst (v := (nI 1)) hx hb dN_Mod_find_144 (by decide) ?_
                  refine lv_iload hx hb dN_Mod_find_145 (lv_at hl 0 rfl) ?_
                  refine xi_ast hx hb hK hP hD hS 8 0 rfl rfl dN_Mod_find_147 (by omega) (by omega) (fun H locs hP hD hS => ?_)
                  have hP : va_P D clN [(o, .inr (11, [.int (nI th), .int (nI n), .int (nI b), .ref (q 3), .ref (q 4), .ref (q 5), .ref (q 6), .ref (q 7), .int (nI len), .ref (q 9), .ref (q 10), .ref (q 11), .ref (q 12), .ref (q 13), .ref (q 14), .ref (q 15), .ref (q 16), .ref (q 17), .int (nI tr3), .int (nI hi3), .ref (q 20), .ref (q 21), .ref (q 22), .ref (q 23), .int (nI ma)])), (q 3, .inl (cI, 200, .inl (ni K))), (q 4, .inl (cI, 200, .inl vI)), (q 5, .inl (cI, 200, .inl fI)), (q 6, .inl (cI, 200, .inl sI)), (q 7, .inl (cI, 200, .inl (ni u))), (q 9, .inl (cZ, 40200, .inl (zb f0))), (q 10, .inl (cZ, 40200, .inl (zb cm))), (q 11, .inl (cI, 20, .inl ((upd (upd sv3 0 (nI p)) 1 (nI e2))))), (q 13, .inl (cI, 500, .inl (ni pl3))), (q 14, .inl (cI, 500, .inl (ni pt3))), (q 15, .inl (cI, 300, .inl (ni tp3))), (q 16, .inl (cI, 300, .inl ol3)), (q 17, .inl (cZ, 200, .inl (zb se3)))] H := hP
                  have hD : va_D A [(o, .inr (11, [.int (nI th), .int (nI n), .int (nI b), .ref (q 3), .ref (q 4), .ref (q 5), .ref (q 6), .ref (q 7), .int (nI len), .ref (q 9), .ref (q 10), .ref (q 11), .ref (q 12), .ref (q 13), .ref (q 14), .ref (q 15), .ref (q 16), .ref (q 17), .int (nI tr3), .int (nI hi3), .ref (q 20), .ref (q 21), .ref (q 22), .ref (q 23), .int (nI ma)])), (q 3, .inl (cI, 200, .inl (ni K))), (q 4, .inl (cI, 200, .inl vI)), (q 5, .inl (cI, 200, .inl fI)), (q 6, .inl (cI, 200, .inl sI)), (q 7, .inl (cI, 200, .inl (ni u))), (q 9, .inl (cZ, 40200, .inl (zb f0))), (q 10, .inl (cZ, 40200, .inl (zb cm))), (q 11, .inl (cI, 20, .inl ((upd (upd sv3 0 (nI p)) 1 (nI e2))))), (q 13, .inl (cI, 500, .inl (ni pl3))), (q 14, .inl (cI, 500, .inl (ni pt3))), (q 15, .inl (cI, 300, .inl (ni tp3))), (q 16, .inl (cI, 300, .inl ol3)), (q 17, .inl (cZ, 200, .inl (zb se3)))] := hD
                  refine lv_iload hx hb dN_Mod_find_148 (lv_at hl 0 rfl) ?_
                  exact vx_iret C hK hP hD hS dN_Mod_find_150 (Nat.le_of_ble_eq_true rfl) (Nat.le_of_ble_eq_true rfl) (⟨some (p, e2, sv3), _, _, _, _, _, _, _, _, _, _, Or.inr ⟨p, e2, sv3, rfl, ⟨by omega, by omega, hhow⟩, hcan, (fun p1 h1 h2 => by rw [← hj_al]; exact hno p1 h2.1 h1), len, decide (how = 2), Or.inl ⟨Or.inl (by omega), rfl, rfl⟩, by omega, hgw⟩, rfl, (fun _ _ _ h => by cases h; rfl), rfl⟩)
                · skip
                  refine lv_aload_n hx hb dN_Mod_find_105 rfl (lv_at hl 1 rfl) ?_
                  refine lv_iload hx hb dN_Mod_find_106 (lv_at hl 5 rfl) ?_
                  refine vx_calli (wc := [(o, .inr (11, [.int (nI th), .int (nI n), .int (nI b), .ref (q 3), .ref (q 4), .ref (q 5), .ref (q 6), .ref (q 7), .int (nI len), .ref (q 9), .ref (q 10), .ref (q 11), .ref (q 12), .ref (q 13), .ref (q 14), .ref (q 15), .ref (q 16), .ref (q 17), .int (nI tr), .int (nI hi), .ref (q 20), .ref (q 21), .ref (q 22), .ref (q 23), .int (nI ma)])), (q 3, .inl (cI, 200, .inl (ni K))), (q 4, .inl (cI, 200, .inl vI)), (q 5, .inl (cI, 200, .inl fI)), (q 6, .inl (cI, 200, .inl sI)), (q 7, .inl (cI, 200, .inl (ni u))), (q 10, .inl (cZ, 40200, .inl (zb cm)))]) (wr := [(q 9, .inl (cZ, 40200, .inl (zb f0))), (q 11, .inl (cI, 20, .inl sv)), (q 13, .inl (cI, 500, .inl (ni pl))), (q 14, .inl (cI, 500, .inl (ni pt))), (q 15, .inl (cI, 300, .inl (ni tp))), (q 16, .inl (cI, 300, .inl ol)), (q 17, .inl (cZ, 200, .inl (zb se)))]) [0, 1, 2, 3, 4, 5, 7] [6, 8, 9, 10, 11, 12, 13] hK hP hD hS hA rfl rfl (by decide) (by decide) (va_runV (As := [.int (nI p)]) (rest := []) ⟨hx, hb, hml, hown, ht⟩ (kMod_lastEnd l D cI cZ cJ o q th n b len tr hi ma K V F S u vI fI sI cm p hn0 hn hle hu hK5 hv hvb hv4 hf hs (by omega) hb0 _) (⟨callB_of 1 ht (TB_in2 gN_Mod_lastEnd) rfl rfl rfl (ht _ mw_6) (ht _ mw_1045) (by decide +kernel) ⟨Nat.le_of_ble_eq_true rfl, Nat.le_of_ble_eq_true rfl⟩, ht _ mw_1047, ht _ ms_42⟩) (vx_preV [0, 1, 2, 3, 4, 5, 7] hK hP hD (by decide) rfl (ci := 11) rfl 0 rfl) rfl rfl hl.1 rfl (lv_room (Nat.le_of_ble_eq_true rfl)) dN_Mod_find_108 ⟨Nat.le_of_ble_eq_true rfl, Nat.le_of_ble_eq_true rfl⟩) (fun r1 w1 H locs hq hP hD hS => ?_)
                  obtain ⟨f1, rfl, hla⟩ := hq
                  obtain ⟨e1, rfl, he1, he2, he3, he4⟩ := Las_some (by omega) hla hcan
                  have hP : va_P D clN [(o, .inr (11, [.int (nI th), .int (nI n), .int (nI b), .ref (q 3), .ref (q 4), .ref (q 5), .ref (q 6), .ref (q 7), .int (nI len), .ref (q 9), .ref (q 10), .ref (q 11), .ref (q 12), .ref (q 13), .ref (q 14), .ref (q 15), .ref (q 16), .ref (q 17), .int (nI tr), .int (nI hi), .ref (q 20), .ref (q 21), .ref (q 22), .ref (q 23), .int (nI ma)])), (q 3, .inl (cI, 200, .inl (ni K))), (q 4, .inl (cI, 200, .inl vI)), (q 5, .inl (cI, 200, .inl fI)), (q 6, .inl (cI, 200, .inl sI)), (q 7, .inl (cI, 200, .inl (ni u))), (q 9, .inl (cZ, 40200, .inl (zb f0))), (q 10, .inl (cZ, 40200, .inl (zb f1))), (q 11, .inl (cI, 20, .inl sv)), (q 13, .inl (cI, 500, .inl (ni pl))), (q 14, .inl (cI, 500, .inl (ni pt))), (q 15, .inl (cI, 300, .inl (ni tp))), (q 16, .inl (cI, 300, .inl ol)), (q 17, .inl (cZ, 200, .inl (zb se)))] H := hP.sub [7, 8, 9, 10, 11, 12, 0, 13, 1, 2, 3, 4, 5, 6] rfl
                  have hD : va_D A [(o, .inr (11, [.int (nI th), .int (nI n), .int (nI b), .ref (q 3), .ref (q 4), .ref (q 5), .ref (q 6), .ref (q 7), .int (nI len), .ref (q 9), .ref (q 10), .ref (q 11), .ref (q 12), .ref (q 13), .ref (q 14), .ref (q 15), .ref (q 16), .ref (q 17), .int (nI tr), .int (nI hi), .ref (q 20), .ref (q 21), .ref (q 22), .ref (q 23), .int (nI ma)])), (q 3, .inl (cI, 200, .inl (ni K))), (q 4, .inl (cI, 200, .inl vI)), (q 5, .inl (cI, 200, .inl fI)), (q 6, .inl (cI, 200, .inl sI)), (q 7, .inl (cI, 200, .inl (ni u))), (q 9, .inl (cZ, 40200, .inl (zb f0))), (q 10, .inl (cZ, 40200, .inl (zb f1))), (q 11, .inl (cI, 20, .inl sv)), (q 13, .inl (cI, 500, .inl (ni pl))), (q 14, .inl (cI, 500, .inl (ni pt))), (q 15, .inl (cI, 300, .inl (ni tp))), (q 16, .inl (cI, 300, .inl ol)), (q 17, .inl (cZ, 200, .inl (zb se)))] := hD.sub [7, 8, 9, 10, 11, 12, 0, 13, 1, 2, 3, 4, 5, 6] (by decide) rfl
                  refine lv_istore (lv' := [(5, .int (nI e1)), (0, .ref o), (1, .int (nI how)), (2, .int (zi lo)), (3, .int (nI fr)), (4, .int (nI p))]) hx hb dN_Mod_find_111 hl (by decide) rfl (fun ls hl => ?_)
                  refine lv_aload_n hx hb dN_Mod_find_113 rfl (lv_at hl 1 rfl) ?_
                  refine lv_iload hx hb dN_Mod_find_114 (lv_at hl 0 rfl) ?_
                  refine lv_iload hx hb dN_Mod_find_116 (lv_at hl 5 rfl) ?_
                  refine lv_iconst (v := (zi true)) hx hb dN_Mod_find_118 (by decide) ?_
                  refine vx_callv (wc := [(o, .inr (11, [.int (nI th), .int (nI n), .int (nI b), .ref (q 3), .ref (q 4), .ref (q 5), .ref (q 6), .ref (q 7), .int (nI len), .ref (q 9), .ref (q 10), .ref (q 11), .ref (q 12), .ref (q 13), .ref (q 14), .ref (q 15), .ref (q 16), .ref (q 17), .int (nI tr), .int (nI hi), .ref (q 20), .ref (q 21), .ref (q 22), .ref (q 23), .int (nI ma)])), (q 3, .inl (cI, 200, .inl (ni K))), (q 4, .inl (cI, 200, .inl vI)), (q 5, .inl (cI, 200, .inl fI)), (q 6, .inl (cI, 200, .inl sI)), (q 7, .inl (cI, 200, .inl (ni u))), (q 9, .inl (cZ, 40200, .inl (zb f0)))]) (wr := [(q 10, .inl (cZ, 40200, .inl (zb f1))), (q 11, .inl (cI, 20, .inl sv)), (q 13, .inl (cI, 500, .inl (ni pl))), (q 14, .inl (cI, 500, .inl (ni pt))), (q 15, .inl (cI, 300, .inl (ni tp))), (q 16, .inl (cI, 300, .inl ol)), (q 17, .inl (cZ, 200, .inl (zb se)))]) [0, 1, 2, 3, 4, 5, 6] [7, 8, 9, 10, 11, 12, 13] hK hP hD hS hA rfl rfl (by decide) (by decide) (va_runV (As := [.int (nI e1), .int (nI p), .int (zi true)]) (rest := []) ⟨hx, hb, hml, hown, ht⟩ (kMod_note l D cI cZ cJ o q th n b len tr hi ma K V F S u vI fI sI f0 e1 p true hn0 hn hle hu hK5 hv hvb hv4 hf hs he1 (by omega) _) (⟨callB_of 3 ht (TB_in2 gN_Mod_note) rfl rfl rfl (ht _ mw_6) (ht _ mw_1025) (by decide +kernel) ⟨Nat.le_of_ble_eq_true rfl, Nat.le_of_ble_eq_true rfl⟩, ht _ mw_1027, ht _ ms_37⟩) (vx_preV [0, 1, 2, 3, 4, 5, 6] hK hP hD (by decide) rfl (ci := 11) rfl 0 rfl) rfl rfl hl.1 rfl (lv_room (Nat.le_of_ble_eq_true rfl)) dN_Mod_find_119 ⟨Nat.le_of_ble_eq_true rfl, Nat.le_of_ble_eq_true rfl⟩) (fun w1 H locs hq hP hD hS => ?_)
                  obtain ⟨f2, rfl, hcb2⟩ := hq
                  have hP : va_P D clN [(o, .inr (11, [.int (nI th), .int (nI n), .int (nI b), .ref (q 3), .ref (q 4), .ref (q 5), .ref (q 6), .ref (q 7), .int (nI len), .ref (q 9), .ref (q 10), .ref (q 11), .ref (q 12), .ref (q 13), .ref (q 14), .ref (q 15), .ref (q 16), .ref (q 17), .int (nI tr), .int (nI hi), .ref (q 20), .ref (q 21), .ref (q 22), .ref (q 23), .int (nI ma)])), (q 3, .inl (cI, 200, .inl (ni K))), (q 4, .inl (cI, 200, .inl vI)), (q 5, .inl (cI, 200, .inl fI)), (q 6, .inl (cI, 200, .inl sI)), (q 7, .inl (cI, 200, .inl (ni u))), (q 9, .inl (cZ, 40200, .inl (zb f2))), (q 10, .inl (cZ, 40200, .inl (zb f1))), (q 11, .inl (cI, 20, .inl sv)), (q 13, .inl (cI, 500, .inl (ni pl))), (q 14, .inl (cI, 500, .inl (ni pt))), (q 15, .inl (cI, 300, .inl (ni tp))), (q 16, .inl (cI, 300, .inl ol)), (q 17, .inl (cZ, 200, .inl (zb se)))] H := hP.sub [7, 8, 9, 10, 11, 12, 13, 0, 1, 2, 3, 4, 5, 6] rfl
                  have hD : va_D A [(o, .inr (11, [.int (nI th), .int (nI n), .int (nI b), .ref (q 3), .ref (q 4), .ref (q 5), .ref (q 6), .ref (q 7), .int (nI len), .ref (q 9), .ref (q 10), .ref (q 11), .ref (q 12), .ref (q 13), .ref (q 14), .ref (q 15), .ref (q 16), .ref (q 17), .int (nI tr), .int (nI hi), .ref (q 20), .ref (q 21), .ref (q 22), .ref (q 23), .int (nI ma)])), (q 3, .inl (cI, 200, .inl (ni K))), (q 4, .inl (cI, 200, .inl vI)), (q 5, .inl (cI, 200, .inl fI)), (q 6, .inl (cI, 200, .inl sI)), (q 7, .inl (cI, 200, .inl (ni u))), (q 9, .inl (cZ, 40200, .inl (zb f2))), (q 10, .inl (cZ, 40200, .inl (zb f1))), (q 11, .inl (cI, 20, .inl sv)), (q 13, .inl (cI, 500, .inl (ni pl))), (q 14, .inl (cI, 500, .inl (ni pt))), (q 15, .inl (cI, 300, .inl (ni tp))), (q 16, .inl (cI, 300, .inl ol)), (q 17, .inl (cZ, 200, .inl (zb se)))] := hD.sub [7, 8, 9, 10, 11, 12, 13, 0, 1, 2, 3, 4, 5, 6] (by decide) rfl
                  refine lv_aload_n hx hb dN_Mod_find_122 rfl (lv_at hl 1 rfl) ?_
                  refine lv_iload hx hb dN_Mod_find_123 (lv_at hl 5 rfl) ?_
                  refine lv_iload hx hb dN_Mod_find_125 (lv_at hl 0 rfl) ?_
                  refine vx_calli (wc := [(o, .inr (11, [.int (nI th), .int (nI n), .int (nI b), .ref (q 3), .ref (q 4), .ref (q 5), .ref (q 6), .ref (q 7), .int (nI len), .ref (q 9), .ref (q 10), .ref (q 11), .ref (q 12), .ref (q 13), .ref (q 14), .ref (q 15), .ref (q 16), .ref (q 17), .int (nI tr), .int (nI hi), .ref (q 20), .ref (q 21), .ref (q 22), .ref (q 23), .int (nI ma)])), (q 3, .inl (cI, 200, .inl (ni K))), (q 4, .inl (cI, 200, .inl vI)), (q 5, .inl (cI, 200, .inl fI)), (q 6, .inl (cI, 200, .inl sI)), (q 7, .inl (cI, 200, .inl (ni u))), (q 9, .inl (cZ, 40200, .inl (zb f2))), (q 11, .inl (cI, 20, .inl sv)), (q 13, .inl (cI, 500, .inl (ni pl))), (q 14, .inl (cI, 500, .inl (ni pt))), (q 15, .inl (cI, 300, .inl (ni tp))), (q 16, .inl (cI, 300, .inl ol)), (q 17, .inl (cZ, 200, .inl (zb se)))]) (wr := [(q 10, .inl (cZ, 40200, .inl (zb f1)))]) [0, 1, 2, 3, 4, 5, 6, 8, 9, 10, 11, 12, 13] [7] hK hP hD hS hA rfl rfl (by decide) (by decide) (va_runV (As := [.int (nI p), .int (nI e1)]) (rest := []) ⟨hx, hb, hml, hown, ht⟩ (kMod_walk l D cI cZ cJ o q th n b len tr hi ma K V F S u vI fI sI f2 sv pl pt tp ol se p e1 true (nI e1) hn0 hn hle hu hK5 hv hvb hv4 hf hs hv3 hb0 (Or.inr ⟨rfl, rfl, he1⟩) he2 hcb2 (Fw_CanT he3) _) (⟨callB_of 2 ht (TB_in2 gN_Mod_walk) rfl rfl rfl (ht _ mw_6) (ht _ mw_1049) (by decide +kernel) ⟨Nat.le_of_ble_eq_true rfl, Nat.le_of_ble_eq_true rfl⟩, ht _ mw_1051, ht _ ms_43⟩) (vx_preV [0, 1, 2, 3, 4, 5, 6, 8, 9, 10, 11, 12, 13] hK hP hD (by decide) rfl (ci := 11) rfl 0 rfl) rfl rfl hl.1 rfl (lv_room (Nat.le_of_ble_eq_true rfl)) dN_Mod_find_127 ⟨Nat.le_of_ble_eq_true rfl, Nat.le_of_ble_eq_true rfl⟩) (fun r1 w1 H locs hq hP hD hS => ?_)
                  obtain ⟨e2, sv3, pl3, pt3, tp3, ol3, se3, tr3, hi3, rfl, hgw, rfl⟩ := hq
                  have hP : va_P D clN [(o, .inr (11, [.int (nI th), .int (nI n), .int (nI b), .ref (q 3), .ref (q 4), .ref (q 5), .ref (q 6), .ref (q 7), .int (nI len), .ref (q 9), .ref (q 10), .ref (q 11), .ref (q 12), .ref (q 13), .ref (q 14), .ref (q 15), .ref (q 16), .ref (q 17), .int (nI tr3), .int (nI hi3), .ref (q 20), .ref (q 21), .ref (q 22), .ref (q 23), .int (nI ma)])), (q 3, .inl (cI, 200, .inl (ni K))), (q 4, .inl (cI, 200, .inl vI)), (q 5, .inl (cI, 200, .inl fI)), (q 6, .inl (cI, 200, .inl sI)), (q 7, .inl (cI, 200, .inl (ni u))), (q 9, .inl (cZ, 40200, .inl (zb f2))), (q 10, .inl (cZ, 40200, .inl (zb f1))), (q 11, .inl (cI, 20, .inl sv3)), (q 13, .inl (cI, 500, .inl (ni pl3))), (q 14, .inl (cI, 500, .inl (ni pt3))), (q 15, .inl (cI, 300, .inl (ni tp3))), (q 16, .inl (cI, 300, .inl ol3)), (q 17, .inl (cZ, 200, .inl (zb se3)))] H := hP.sub [1, 2, 3, 4, 5, 6, 7, 0, 8, 9, 10, 11, 12, 13] rfl
                  have hD : va_D A [(o, .inr (11, [.int (nI th), .int (nI n), .int (nI b), .ref (q 3), .ref (q 4), .ref (q 5), .ref (q 6), .ref (q 7), .int (nI len), .ref (q 9), .ref (q 10), .ref (q 11), .ref (q 12), .ref (q 13), .ref (q 14), .ref (q 15), .ref (q 16), .ref (q 17), .int (nI tr3), .int (nI hi3), .ref (q 20), .ref (q 21), .ref (q 22), .ref (q 23), .int (nI ma)])), (q 3, .inl (cI, 200, .inl (ni K))), (q 4, .inl (cI, 200, .inl vI)), (q 5, .inl (cI, 200, .inl fI)), (q 6, .inl (cI, 200, .inl sI)), (q 7, .inl (cI, 200, .inl (ni u))), (q 9, .inl (cZ, 40200, .inl (zb f2))), (q 10, .inl (cZ, 40200, .inl (zb f1))), (q 11, .inl (cI, 20, .inl sv3)), (q 13, .inl (cI, 500, .inl (ni pl3))), (q 14, .inl (cI, 500, .inl (ni pt3))), (q 15, .inl (cI, 300, .inl (ni tp3))), (q 16, .inl (cI, 300, .inl ol3)), (q 17, .inl (cZ, 200, .inl (zb se3)))] := hD.sub [1, 2, 3, 4, 5, 6, 7, 0, 8, 9, 10, 11, 12, 13] (by decide) rfl
                  refine lv_istore (lv' := [(6, .int (nI e2)), (5, .int (nI e1)), (0, .ref o), (1, .int (nI how)), (2, .int (zi lo)), (3, .int (nI fr)), (4, .int (nI p))]) hx hb dN_Mod_find_130 hl (by decide) rfl (fun ls hl => ?_)
                  refine lv_aload_n hx hb dN_Mod_find_132 rfl (lv_at hl 2 rfl) ?_
                  refine va_get (D := D) (ci := 11) (v := .ref (q 11)) (C := RN_Mod) (T := FN_Mod) (N := 25) hx hb ht fN_Mod hown hK hP 0 rfl rfl 11 (by decide) (ht _ mw_917) (fun _ h9 => h9) rfl dN_Mod_find_133 ?_
                  refine lv_iconst (v := (nI 0)) hx hb dN_Mod_find_136 (by decide) ?_
                  refine lv_iload hx hb dN_Mod_find_137 (lv_at hl 6 rfl) ?_
                  refine xi_ast hx hb hK hP hD hS 8 0 rfl rfl dN_Mod_find_139 (by omega) (by omega) (fun H locs hP hD hS => ?_)
                  have hP : va_P D clN [(o, .inr (11, [.int (nI th), .int (nI n), .int (nI b), .ref (q 3), .ref (q 4), .ref (q 5), .ref (q 6), .ref (q 7), .int (nI len), .ref (q 9), .ref (q 10), .ref (q 11), .ref (q 12), .ref (q 13), .ref (q 14), .ref (q 15), .ref (q 16), .ref (q 17), .int (nI tr3), .int (nI hi3), .ref (q 20), .ref (q 21), .ref (q 22), .ref (q 23), .int (nI ma)])), (q 3, .inl (cI, 200, .inl (ni K))), (q 4, .inl (cI, 200, .inl vI)), (q 5, .inl (cI, 200, .inl fI)), (q 6, .inl (cI, 200, .inl sI)), (q 7, .inl (cI, 200, .inl (ni u))), (q 9, .inl (cZ, 40200, .inl (zb f2))), (q 10, .inl (cZ, 40200, .inl (zb f1))), (q 11, .inl (cI, 20, .inl ((upd sv3 0 (nI p))))), (q 13, .inl (cI, 500, .inl (ni pl3))), (q 14, .inl (cI, 500, .inl (ni pt3))), (q 15, .inl (cI, 300, .inl (ni tp3))), (q 16, .inl (cI, 300, .inl ol3)), (q 17, .inl (cZ, 200, .inl (zb se3)))] H := hP
                  have hD : va_D A [(o, .inr (11, [.int (nI th), .int (nI n), .int (nI b), .ref (q 3), .ref (q 4), .ref (q 5), .ref (q 6), .ref (q 7), .int (nI len), .ref (q 9), .ref (q 10), .ref (q 11), .ref (q 12), .ref (q 13), .ref (q 14), .ref (q 15), .ref (q 16), .ref (q 17), .int (nI tr3), .int (nI hi3), .ref (q 20), .ref (q 21), .ref (q 22), .ref (q 23), .int (nI ma)])), (q 3, .inl (cI, 200, .inl (ni K))), (q 4, .inl (cI, 200, .inl vI)), (q 5, .inl (cI, 200, .inl fI)), (q 6, .inl (cI, 200, .inl sI)), (q 7, .inl (cI, 200, .inl (ni u))), (q 9, .inl (cZ, 40200, .inl (zb f2))), (q 10, .inl (cZ, 40200, .inl (zb f1))), (q 11, .inl (cI, 20, .inl ((upd sv3 0 (nI p))))), (q 13, .inl (cI, 500, .inl (ni pl3))), (q 14, .inl (cI, 500, .inl (ni pt3))), (q 15, .inl (cI, 300, .inl (ni tp3))), (q 16, .inl (cI, 300, .inl ol3)), (q 17, .inl (cZ, 200, .inl (zb se3)))] := hD
                  refine lv_aload_n hx hb dN_Mod_find_140 rfl (lv_at hl 2 rfl) ?_
                  refine va_get (D := D) (ci := 11) (v := .ref (q 11)) (C := RN_Mod) (T := FN_Mod) (N := 25) hx hb ht fN_Mod hown hK hP 0 rfl rfl 11 (by decide) (ht _ mw_917) (fun _ h9 => h9) rfl dN_Mod_find_141 ?_
                  refine lv_iconst (v := (nI 1)) hx hb dN_Mod_find_144 (by decide) ?_
                  refine lv_iload hx hb dN_Mod_find_145 (lv_at hl 0 rfl) ?_
                  refine xi_ast hx hb hK hP hD hS 8 0 rfl rfl dN_Mod_find_147 (by omega) (by omega) (fun H locs hP hD hS => ?_)
                  have hP : va_P D clN [(o, .inr (11, [.int (nI th), .int (nI n), .int (nI b), .ref (q 3), .ref (q 4), .ref (q 5), .ref (q 6), .ref (q 7), .int (nI len), .ref (q 9), .ref (q 10), .ref (q 11), .ref (q 12), .ref (q 13), .ref (q 14), .ref (q 15), .ref (q 16), .ref (q 17), .int (nI tr3), .int (nI hi3), .ref (q 20), .ref (q 21), .ref (q 22), .ref (q 23), .int (nI ma)])), (q 3, .inl (cI, 200, .inl (ni K))), (q 4, .inl (cI, 200, .inl vI)), (q 5, .inl (cI, 200, .inl fI)), (q 6, .inl (cI, 200, .inl sI)), (q 7, .inl (cI, 200, .inl (ni u))), (q 9, .inl (cZ, 40200, .inl (zb f2))), (q 10, .inl (cZ, 40200, .inl (zb f1))), (q 11, .inl (cI, 20, .inl ((upd (upd sv3 0 (nI p)) 1 (nI e2))))), (q 13, .inl (cI, 500, .inl (ni pl3))), (q 14, .inl (cI, 500, .inl (ni pt3))), (q 15, .inl (cI, 300, .inl (ni tp3))), (q 16, .inl (cI, 300, .inl ol3)), (q 17, .inl (cZ, 200, .inl (zb se3)))] H := hP
                  have hD : va_D A [(o, .inr (11, [.int (nI th), .int (nI n), .int (nI b), .ref (q 3), .ref (q 4), .ref (q 5), .ref (q 6), .ref (q 7), .int (nI len), .ref (q 9), .ref (q 10), .ref (q 11), .ref (q 12), .ref (q 13), .ref (q 14), .ref (q 15), .ref (q 16), .ref (q 17), .int (nI tr3), .int (nI hi3), .ref (q 20), .ref (q 21), .ref (q 22), .ref (q 23), .int (nI ma)])), (q 3, .inl (cI, 200, .inl (ni K))), (q 4, .inl (cI, 200, .inl vI)), (q 5, .inl (cI, 200, .inl fI)), (q 6, .inl (cI, 200, .inl sI)), (q 7, .inl (cI, 200, .inl (ni u))), (q 9, .inl (cZ, 40200, .inl (zb f2))), (q 10, .inl (cZ, 40200, .inl (zb f1))), (q 11, .inl (cI, 20, .inl ((upd (upd sv3 0 (nI p)) 1 (nI e2))))), (q 13, .inl (cI, 500, .inl (ni pl3))), (q 14, .inl (cI, 500, .inl (ni pt3))), (q 15, .inl (cI, 300, .inl (ni tp3))), (q 16, .inl (cI, 300, .inl ol3)), (q 17, .inl (cZ, 200, .inl (zb se3)))] := hD
                  refine lv_iload hx hb dN_Mod_find_148 (lv_at hl 0 rfl) ?_
                  exact vx_iret C hK hP hD hS dN_Mod_find_150 (Nat.le_of_ble_eq_true rfl) (Nat.le_of_ble_eq_true rfl) (⟨some (p, e2, sv3), _, _, _, _, _, _, _, _, _, _, Or.inr ⟨p, e2, sv3, rfl, ⟨by omega, by omega, hhow⟩, hcan, (fun p1 h1 h2 => by rw [← hj_al]; exact hno p1 h2.1 h1), e1, true, Or.inr ⟨by omega, c_97_17, rfl, he1, he3, he4⟩, by omega, hgw⟩, rfl, (fun _ _ _ h => by cases h; rfl), rfl⟩)
            · skip
              refine lv_iload_n hx hb dN_Mod_find_81 rfl (lv_at hl 1 rfl) ?_
              refine lv_iconst (v := (nI 2)) hx hb dN_Mod_find_82 (by decide) ?_
              refine xn_ne (tgt := 93) hx hb dN_Mod_find_83 (by decide) (by omega) (by omega) (fun c_83_19 => ?_) (fun c_83_19 => ?_)
              · skip
                refine lv_iconst (v := (-1)) hx hb dN_Mod_find_93 (by decide) ?_
                exact Jj17 (-1) (by rw [if_neg c_83_19])
              · skip
                refine lv_aload_n hx hb dN_Mod_find_86 rfl (lv_at hl 0 rfl) ?_
                refine va_get (D := D) (ci := 11) (v := .int (nI len)) (C := RN_Mod) (T := FN_Mod) (N := 25) hx hb ht fN_Mod hown hK hP 0 rfl rfl 8 (by decide) (ht _ mw_914) (fun _ h9 => h9) rfl dN_Mod_find_87 ?_
                refine lv_goto (tgt := 94) hx hb dN_Mod_find_90 (by decide) ?_
                exact Jj17 (nI (len)) (by rw [if_pos c_83_19])
          · skip
            refine lv_iconst (v := (-1)) hx hb dN_Mod_find_79 (by decide) ?_
            exact vx_iret C hK hP hD hS dN_Mod_find_80 (Nat.le_of_ble_eq_true rfl) (Nat.le_of_ble_eq_true rfl) (⟨none, _, _, _, _, _, _, _, _, _, _, Or.inl ⟨rfl, fun p1 ⟨h1, h2, h3⟩ => by rw [← hj_al]; rcases Nat.lt_trichotomy p1 p with h4 | h4 | h4; (exact hno p1 h1 h4); (subst h4; exact fun h5 => by have h6 := (hcb p1 b h1 h2 hb0).mpr h5; rw [c_76_15] at h6; cases h6); (exact absurd c_51_14 (by rw [c_76_15]; decide))⟩, rfl, (fun _ _ _ h => by cases h), rfl⟩)
        · skip
          refine lv_iinc (v := (nI (p + 1))) (lv' := [(4, .int (nI (p + 1))), (0, .ref o), (1, .int (nI how)), (2, .int (zi lo)), (3, .int (nI fr))]) hx hb dN_Mod_find_54 hl (k := 4) rfl (nI_1 _) (by decide) rfl (fun ls hl => ?_)
          refine lv_goto (tgt := 22) hx hb dN_Mod_find_57 (by decide) ?_
          exact ih_22_1 (p + 1) _ _ _ ⟨hP, hD, hS, lv_sub hl [1, 2, 3, 4, 0] rfl, ⟨by omega, by omega, fun h => absurd h (by have := c_23_2; omega), fun p1 h1 h2 h3 => by rcases Nat.lt_succ_iff_lt_or_eq.mp h2 with h4 | h4; (exact hno p1 h1 h4 h3); (subst h4; have h6 := (hcb p1 b h1 (by omega) hb0).mpr h3; rw [c_51_14] at h6; cases h6)⟩⟩ (show (len - (p + 1)) < (len - p) from by omega)
  · skip
    refine lv_iload_n hx hb dN_Mod_find_6 rfl (lv_at hl 1 rfl) ?_
    refine lv_iconst (v := (nI 2)) hx hb dN_Mod_find_7 (by decide) ?_
    refine xn_ne (tgt := 15) hx hb dN_Mod_find_8 (by decide) (by omega) (by omega) (fun c_8_20 => ?_) (fun c_8_20 => ?_)
    · skip
      refine lv_iconst (v := (zi false)) hx hb dN_Mod_find_15 (by decide) ?_
      exact Jj1 (false) (by simp [c_8_20])
    · skip
      refine lv_iconst (v := (zi true)) hx hb dN_Mod_find_11 (by decide) ?_
      refine lv_goto (tgt := 16) hx hb dN_Mod_find_12 (by decide) ?_
      exact Jj1 (true) (by simp [c_8_20])
end
