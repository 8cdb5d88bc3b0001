/-! My own rows over the kit's: one for a contract's start, one for a call with its frame, one for an end, joins and loops in place. -/
section VXA
variable {p : Program} {l : Launch} {e : Env} {R : Room} {s : State} {m : MethodId} {args : Array Value} {below : List Frame} {meth : Method} {c : Code} {H : Heap} {locs : List Loc} {cells slots : Nat} {Q : State → Prop}
/-- two ways meet: the heap is the same on both -/
theorem vx_join {α : Type} (I : α → Prop) (g1 : α → JFrame) {g : JFrame} (k : ∀ a, I a → W p l e R s m args below meth c H locs cells slots Q (g1 a)) (b : (∀ a, I a → W p l e R s m args below meth c H locs cells slots Q (g1 a)) → W p l e R s m args below meth c H locs cells slots Q g) : W p l e R s m args below meth c H locs cells slots Q g := b k
/-- two ways meet: with the heap -/
theorem vx_joinH {α : Type} (I : α → Heap → List Loc → Array Slot → Prop) (pc : Nat) (st : α → List Value) {g : JFrame} (k : ∀ a H locs ls, I a H locs ls → W p l e R s m args below meth c H locs cells slots Q (F0 m pc ls (st a))) (b : (∀ a H locs ls, I a H locs ls → W p l e R s m args below meth c H locs cells slots Q (F0 m pc ls (st a))) → W p l e R s m args below meth c H locs cells slots Q g) : W p l e R s m args below meth c H locs cells slots Q g := b k
/-- a loop: from every state with the invariant, if from every such state with a smaller measure -/
theorem vx_loop {α : Type} (I : α → Heap → List Loc → Array Slot → Prop) (mu : α → Nat) (pc : Nat) (st : List Value)
    (body : ∀ a H locs ls, I a H locs ls → (∀ a1 H1 locs1 ls1, I a1 H1 locs1 ls1 → mu a1 < mu a → W p l e R s m args below meth c H1 locs1 cells slots Q (F0 m pc ls1 st)) → W p l e R s m args below meth c H locs cells slots Q (F0 m pc ls st))
    (a : α) {H : Heap} {locs : List Loc} {ls : Array Slot} (h : I a H locs ls) : W p l e R s m args below meth c H locs cells slots Q (F0 m pc ls st) := by
  have key : ∀ n a H locs ls, mu a < n → I a H locs ls → W p l e R s m args below meth c H locs cells slots Q (F0 m pc ls st) := by
    intro n
    induction n with
    | zero => intro a H locs ls h; exact absurd h (Nat.not_lt_zero _)
    | succ n ih => intro a H locs ls hn hI; exact body a H locs ls hI (fun a1 H1 locs1 ls1 hI1 hm => ih a1 H1 locs1 ls1 (by omega) hI1)
  exact key (mu a + 1) a H locs ls (Nat.lt_succ_self _) h
end VXA
/-- a contract's start: the arguments, the cells of the world, the tables -/
def vx_Pc (D : va_G) (cl : List vw_C) (tys : List (ClassId × FieldType)) (av : List Value) (ws : va_W) (sz : Nat) : Array Value → State → Prop := va_Pc av (fun U => U.heap.size = sz ∧ va_P D cl ws U.heap ∧ va_K D cl tys U ∧ va_D (fun _ => True) ws)
/-- a contract's end: the cells of the world that is left, apart, in A -/
def vx_B (D : va_G) (cl : List vw_C) (tys : List (ClassId × FieldType)) (A : Nat → Prop) : va_W → State → Prop := fun w t => va_P D cl w t.heap ∧ va_K D cl tys t ∧ va_D A w
def vx_Br (D : va_G) (cl : List vw_C) (tys : List (ClassId × FieldType)) (A : Nat → Prop) : va_W × Nat → Nat → State → Prop := fun u a t => a = u.2 ∧ vx_B D cl tys A u.1 t
theorem vx_blind {D : va_G} {cl : List vw_C} {tys : List (ClassId × FieldType)} {av : List Value} {ws : va_W} {sz : Nat} : FrameBlind (vx_Pc D cl tys av ws sz) := fun a U g mk q => by
  obtain ⟨q0, q1, qP, qK, qD⟩ := q
  exact ⟨q0, q1, qP, va_K.moved (u := U) (U := U.calling g mk a) (Vm.Alike.refl U.vm) qK, qD⟩
/-- contracts: an int (or boolean) answer, none, a reference. 'post' is of the answer and of the cells that are left -/
def vx_Mi (l : Launch) (y : MethodName) (wy : List Cond) (rm : Room) (D : va_G) (cl : List vw_C) (tys : List (ClassId × FieldType)) (av : List Value) (ws : va_W) (post : Int32 → va_W → Prop) : Prop := ∀ sz : Nat, Met l y wy rm (vx_Pc D cl tys av ws sz) (va_Qi post (vx_B D cl tys (va_A ws sz)) (va_A ws sz)) rm.cells rm.slots (va_A ws sz)
def vx_Mv (l : Launch) (y : MethodName) (wy : List Cond) (rm : Room) (D : va_G) (cl : List vw_C) (tys : List (ClassId × FieldType)) (av : List Value) (ws : va_W) (post : va_W → Prop) : Prop := ∀ sz : Nat, Met l y wy rm (vx_Pc D cl tys av ws sz) (va_Qv post (vx_B D cl tys (va_A ws sz)) (va_A ws sz)) rm.cells rm.slots (va_A ws sz)
def vx_Mr (l : Launch) (y : MethodName) (wy : List Cond) (rm : Room) (D : va_G) (cl : List vw_C) (tys : List (ClassId × FieldType)) (av : List Value) (ws : va_W) (post : va_W × Nat → Prop) : Prop := ∀ sz : Nat, Met l y wy rm (vx_Pc D cl tys av ws sz) (va_Qr post (vx_Br D cl tys (va_A ws sz)) (va_A ws sz)) rm.cells rm.slots (va_A ws sz)
/-- what a walk stands on -/
def vx_C (p : Program) (s : State) (m : MethodId) (args : Array Value) (meth : Method) (c : Code) (cc : ByteArray) (nL : Nat) (y : MethodName) (ret : Option FieldType) (wy : List Cond) : Prop :=
  p.tables.exec = Jvm.exec ∧ c.code = cc ∧ meth.sig.returnType = ret ∧ c.maxLocals = nL ∧ s.vm.findClass y.cls = some m.cls ∧ (∀ w ∈ wy, w.before args s = true) ∧ meth.locks = false ∧ meth.name = y.name
section VXS
variable {l : Launch} {y : MethodName} {wy wy' : List Cond} {rm : Room} {D : va_G} {cl : List vw_C} {tys : List (ClassId × FieldType)} {av : List Value} {ws : va_W} {cc : ByteArray} {maxL : Nat} {ret : Option FieldType}
theorem vx_start {Qc : Nat → Array Value → State → Outcome → State → Prop} (hy : plainName y.cls = true) (hw : wy = Cond.code y cc maxL ret :: wy') (hlen : (lg_sl av).length ≤ maxL)
    (body : ∀ (p : Program) (e : Env) (s : State) (m : MethodId) (below : List Frame) (meth : Method) (c : Code) (ls : Array Slot), vx_C p s m av.toArray meth c cc maxL y ret wy → va_K D cl tys s → va_P D cl ws s.heap → va_D (va_A ws s.heap.size) ws → lv_has ls maxL (lv_args 0 av) →
      W p l e rm s m av.toArray below meth c s.heap [] 0 0 (MQ below (Qc s.heap.size) av.toArray s rm.cells rm.slots (va_A ws s.heap.size)) (F0 m 0 ls [])) :
    ∀ sz : Nat, Met l y wy rm (vx_Pc D cl tys av ws sz) (Qc sz) rm.cells rm.slots (va_A ws sz) := by
  intro sz
  refine Met.ofW (cc := cc) (maxL := maxL) (ret := ret) hy hw ?_
  intro p e s m args below meth c s₁ B hml hv
  obtain ⟨rfl, hsz, hP, hK, hD0⟩ := hv
  subst hsz
  have hl := lv_entry av (n := maxL) hlen
  rw [lg_entry_eq]
  exact body p e s m below meth c _ ⟨B.exec, B.bytes, B.returns, hml, findClass_of_methodNamed B.named, atoms_spec (ws := wy) B.pre, B.notSynchronized, (name_of_methodNamed B.named B.method).1⟩ hK hP hD0.self hl
theorem vx_startI {post : Int32 → va_W → Prop} (hy : plainName y.cls = true) (hw : wy = Cond.code y cc maxL ret :: wy') (hlen : (lg_sl av).length ≤ maxL)
    (body : ∀ (p : Program) (e : Env) (s : State) (m : MethodId) (below : List Frame) (meth : Method) (c : Code) (A : Nat → Prop) (ls : Array Slot), vx_C p s m av.toArray meth c cc maxL y ret wy → va_K D cl tys s → va_P D cl ws s.heap → va_D A ws → va_S A s.heap s.heap [] → (∀ q : Nat, s.heap.size ≤ q → A q) → lv_has ls maxL (lv_args 0 av) →
      W p l e rm s m av.toArray below meth c s.heap [] 0 0 (MQ below (va_Qi post (vx_B D cl tys A) A) av.toArray s rm.cells rm.slots A) (F0 m 0 ls [])) : vx_Mi l y wy rm D cl tys av ws post :=
  vx_start (Qc := fun sz => va_Qi post (vx_B D cl tys (va_A ws sz)) (va_A ws sz)) hy hw hlen (fun p e s m below meth c ls C hK hP hD hl => body p e s m below meth c _ ls C hK hP hD va_S.rf (fun _ h => Or.inr h) hl)
theorem vx_startV {post : va_W → Prop} (hy : plainName y.cls = true) (hw : wy = Cond.code y cc maxL ret :: wy') (hlen : (lg_sl av).length ≤ maxL)
    (body : ∀ (p : Program) (e : Env) (s : State) (m : MethodId) (below : List Frame) (meth : Method) (c : Code) (A : Nat → Prop) (ls : Array Slot), vx_C p s m av.toArray meth c cc maxL y ret wy → va_K D cl tys s → va_P D cl ws s.heap → va_D A ws → va_S A s.heap s.heap [] → (∀ q : Nat, s.heap.size ≤ q → A q) → lv_has ls maxL (lv_args 0 av) →
      W p l e rm s m av.toArray below meth c s.heap [] 0 0 (MQ below (va_Qv post (vx_B D cl tys A) A) av.toArray s rm.cells rm.slots A) (F0 m 0 ls [])) : vx_Mv l y wy rm D cl tys av ws post :=
  vx_start (Qc := fun sz => va_Qv post (vx_B D cl tys (va_A ws sz)) (va_A ws sz)) hy hw hlen (fun p e s m below meth c ls C hK hP hD hl => body p e s m below meth c _ ls C hK hP hD va_S.rf (fun _ h => Or.inr h) hl)
theorem vx_startR {post : va_W × Nat → Prop} (hy : plainName y.cls = true) (hw : wy = Cond.code y cc maxL ret :: wy') (hlen : (lg_sl av).length ≤ maxL)
    (body : ∀ (p : Program) (e : Env) (s : State) (m : MethodId) (below : List Frame) (meth : Method) (c : Code) (A : Nat → Prop) (ls : Array Slot), vx_C p s m av.toArray meth c cc maxL y ret wy → va_K D cl tys s → va_P D cl ws s.heap → va_D A ws → va_S A s.heap s.heap [] → (∀ q : Nat, s.heap.size ≤ q → A q) → lv_has ls maxL (lv_args 0 av) →
      W p l e rm s m av.toArray below meth c s.heap [] 0 0 (MQ below (va_Qr post (vx_Br D cl tys A) A) av.toArray s rm.cells rm.slots A) (F0 m 0 ls [])) : vx_Mr l y wy rm D cl tys av ws post :=
  vx_start (Qc := fun sz => va_Qr post (vx_Br D cl tys (va_A ws sz)) (va_A ws sz)) hy hw hlen (fun p e s m below meth c ls C hK hP hD hl => body p e s m below meth c _ ls C hK hP hD va_S.rf (fun _ h => Or.inr h) hl)
end VXS
section VXE
variable {p : Program} {l : Launch} {e : Env} {R : Room} {s : State} {m : MethodId} {args : Array Value} {below : List Frame} {meth : Method} {c : Code} {H : Heap} {locs : List Loc} {cells slots : Nat}
variable {y : MethodName} {wy : List Cond} {D : va_G} {cl : List vw_C} {tys : List (ClassId × FieldType)} {cc : ByteArray} {nL mc ms pc : Nat} {A : Nat → Prop} {w : va_W} {ls : Array Slot}
theorem vx_iret {post : Int32 → va_W → Prop} {v : Int32} (C : vx_C p s m args meth c cc nL y (some .int) wy) (hK : va_K D cl tys s) (hP : va_P D cl w H) (hD : va_D A w) (hS : va_S A s.heap H locs) (hdg : decode cc pc = .ok (.ireturn, 1)) (hc : cells ≤ mc) (hs : slots ≤ ms) (hpost : post v w) :
    W p l e R s m args below meth c H locs cells slots (MQ below (va_Qi post (vx_B D cl tys A) A) args s mc ms A) (F0 m pc ls [.int v]) := by
  obtain ⟨hx, hb, hr, hml, hown, hts, hlocks, hnm⟩ := C
  refine W.widen hc hs ?_
  exact W.iret hx hb hr (fun t ht hW => ⟨⟨v, w, rfl, hpost, by rw [ht]; exact hP, va_K.moved hW.alike hK, hD⟩, hS.F ht⟩) hS.2.2 hdg hlocks
theorem vx_zret {post : Int32 → va_W → Prop} {v : Int32} (C : vx_C p s m args meth c cc nL y (some .boolean) wy) (hK : va_K D cl tys s) (hP : va_P D cl w H) (hD : va_D A w) (hS : va_S A s.heap H locs) (hdg : decode cc pc = .ok (.ireturn, 1)) (hc : cells ≤ mc) (hs : slots ≤ ms) (hv : narrow .boolean (.int v) = .int v) (hpost : post v w) :
    W p l e R s m args below meth c H locs cells slots (MQ below (va_Qi post (vx_B D cl tys A) A) args s mc ms A) (F0 m pc ls [.int v]) := by
  obtain ⟨hx, hb, hr, hml, hown, hts, hlocks, hnm⟩ := C
  refine W.widen hc hs ?_
  exact W.zret hx hb hr hv (fun t ht hW => ⟨⟨v, w, rfl, hpost, by rw [ht]; exact hP, va_K.moved hW.alike hK, hD⟩, hS.F ht⟩) hS.2.2 hdg hlocks
theorem vx_vret {post : va_W → Prop} (C : vx_C p s m args meth c cc nL y none wy) (hK : va_K D cl tys s) (hP : va_P D cl w H) (hD : va_D A w) (hS : va_S A s.heap H locs) (hdg : decode cc pc = .ok (.return_, 1)) (hc : cells ≤ mc) (hs : slots ≤ ms) (hpost : post w) :
    W p l e R s m args below meth c H locs cells slots (MQ below (va_Qv post (vx_B D cl tys A) A) args s mc ms A) (F0 m pc ls []) := by
  obtain ⟨hx, hb, hr, hml, hown, hts, hlocks, hnm⟩ := C
  refine W.widen hc hs ?_
  exact W.vret hx hb hr (fun t ht hW => ⟨⟨w, rfl, hpost, by rw [ht]; exact hP, va_K.moved hW.alike hK, hD⟩, hS.F ht⟩) hS.2.2 hdg hlocks
theorem vx_aret {post : va_W × Nat → Prop} {v : Nat} {cn : String} (C : vx_C p s m args meth c cc nL y (some (.object cn)) wy) (hK : va_K D cl tys s) (hP : va_P D cl w H) (hD : va_D A w) (hS : va_S A s.heap H locs) (hdg : decode cc pc = .ok (.areturn, 1)) (hc : cells ≤ mc) (hs : slots ≤ ms) (hpost : post (w, v)) :
    W p l e R s m args below meth c H locs cells slots (MQ below (va_Qr post (vx_Br D cl tys A) A) args s mc ms A) (F0 m pc ls [.ref v]) := by
  obtain ⟨hx, hb, hr, hml, hown, hts, hlocks, hnm⟩ := C
  refine W.widen hc hs ?_
  exact W.aret hx hb hr (Or.inl ⟨_, rfl⟩) (Or.inr ⟨_, rfl⟩) (fun t ht hW => ⟨⟨(w, v), v, rfl, hpost, rfl, by rw [ht]; exact hP, va_K.moved hW.alike hK, hD⟩, hS.F ht⟩) hS.2.2 hdg hlocks
/-- behind a call: the world is what came back and what the callee didn't have -/
theorem vx_calli {rest st0 : List Value} {a : Array Value} {post : Int32 → va_W → Prop} {ws wc wr : va_W} {Q : State → Prop} (isC isR : List Nat) (hK : va_K D cl tys s) (hP : va_P D cl ws H) (hD : va_D A ws) (hS : va_S A s.heap H locs) (hA : ∀ q : Nat, s.heap.size ≤ q → A q) (hC : isC.map (fun i => ws[i]?) = wc.map some) (hR : isR.map (fun i => ws[i]?) = wr.map some) (hn : va_nd isR = true) (hdis : ∀ i ∈ isR, i ∉ isC)
    (hr : va_Run p l e R s m args below meth c H locs cells slots mc ms (F0 m pc ls st0) rest (va_Qi post (vx_B D cl tys (va_A wc H.size)) (va_A wc H.size) a) (va_A wc H.size))
    (kk : ∀ (r : Int32) (w1 : va_W) (H1 : Heap) (locs1 : List Loc), post r w1 → va_P D cl (wr ++ w1) H1 → va_D A (wr ++ w1) → va_S A s.heap H1 locs1 → W p l e R s m args below meth c H1 locs1 (cells + mc) (slots + ms) Q (F0 m (pc + 3) ls (.int r :: rest))) :
    W p l e R s m args below meth c H locs cells slots Q (F0 m pc ls st0) := by
  have hF := va_free (wc := wc) hD hS hA isC hC
  refine va_calli hr hS (fun q _ h => hF q h) hF (fun r u t H1 locs1 ht hvm hw hB hz1 hk1 hS1 => ?_)
  obtain ⟨hP1, hK1, hD1⟩ := hB
  rw [ht] at hP1
  obtain ⟨hP2, hD2⟩ := va_join hP hD isC isR hC hR hn hdis hk1 hF hP1 hD1
  exact kk r u H1 locs1 hw hP2 hD2 hS1
theorem vx_callv {rest st0 : List Value} {a : Array Value} {post : va_W → Prop} {ws wc wr : va_W} {Q : State → Prop} (isC isR : List Nat) (hK : va_K D cl tys s) (hP : va_P D cl ws H) (hD : va_D A ws) (hS : va_S A s.heap H locs) (hA : ∀ q : Nat, s.heap.size ≤ q → A q) (hC : isC.map (fun i => ws[i]?) = wc.map some) (hR : isR.map (fun i => ws[i]?) = wr.map some) (hn : va_nd isR = true) (hdis : ∀ i ∈ isR, i ∉ isC)
    (hr : va_Run p l e R s m args below meth c H locs cells slots mc ms (F0 m pc ls st0) rest (va_Qv post (vx_B D cl tys (va_A wc H.size)) (va_A wc H.size) a) (va_A wc H.size))
    (kk : ∀ (w1 : va_W) (H1 : Heap) (locs1 : List Loc), post w1 → va_P D cl (wr ++ w1) H1 → va_D A (wr ++ w1) → va_S A s.heap H1 locs1 → W p l e R s m args below meth c H1 locs1 (cells + mc) (slots + ms) Q (F0 m (pc + 3) ls rest)) :
    W p l e R s m args below meth c H locs cells slots Q (F0 m pc ls st0) := by
  have hF := va_free (wc := wc) hD hS hA isC hC
  refine va_callv hr hS (fun q _ h => hF q h) hF (fun u t H1 locs1 ht hvm hw hB hz1 hk1 hS1 => ?_)
  obtain ⟨hP1, hK1, hD1⟩ := hB
  rw [ht] at hP1
  obtain ⟨hP2, hD2⟩ := va_join hP hD isC isR hC hR hn hdis hk1 hF hP1 hD1
  exact kk u H1 locs1 hw hP2 hD2 hS1
theorem vx_callr {rest st0 : List Value} {a : Array Value} {post : va_W × Nat → Prop} {ws wc wr : va_W} {Q : State → Prop} (isC isR : List Nat) (hK : va_K D cl tys s) (hP : va_P D cl ws H) (hD : va_D A ws) (hS : va_S A s.heap H locs) (hA : ∀ q : Nat, s.heap.size ≤ q → A q) (hC : isC.map (fun i => ws[i]?) = wc.map some) (hR : isR.map (fun i => ws[i]?) = wr.map some) (hn : va_nd isR = true) (hdis : ∀ i ∈ isR, i ∉ isC)
    (hr : va_Run p l e R s m args below meth c H locs cells slots mc ms (F0 m pc ls st0) rest (va_Qr post (vx_Br D cl tys (va_A wc H.size)) (va_A wc H.size) a) (va_A wc H.size))
    (kk : ∀ (r : Nat) (w1 : va_W) (H1 : Heap) (locs1 : List Loc), post (w1, r) → va_P D cl (wr ++ w1) H1 → va_D A (wr ++ w1) → va_S A s.heap H1 locs1 → W p l e R s m args below meth c H1 locs1 (cells + mc) (slots + ms) Q (F0 m (pc + 3) ls (.ref r :: rest))) :
    W p l e R s m args below meth c H locs cells slots Q (F0 m pc ls st0) := by
  have hF := va_free (wc := wc) hD hS hA isC hC
  refine va_callr hr hS (fun q _ h => hF q h) hF (fun u ra t H1 locs1 ht hvm hw hB hz1 hk1 hS1 => ?_)
  obtain ⟨e1, hP1, hK1, hD1⟩ := hB
  rw [ht] at hP1
  obtain ⟨hP2, hD2⟩ := va_join hP hD isC isR hC hR hn hdis hk1 hF hP1 hD1
  subst e1
  exact kk u.2 u.1 H1 locs1 hw hP2 hD2 hS1
/-- what a call asks of the world: the callee's cells -/
theorem vx_preV {ws wc : va_W} {C : String} {b : Nat} {As : List Value} {T : u_T} {N ci : Nat} {fs : List Value} (isC : List Nat) (hK : va_K D cl tys s) (hP : va_P D cl ws H) (hD : va_D A ws) (hn : va_nd isC = true) (hC : isC.map (fun i => ws[i]?) = wc.map some) (hc : cl[ci]? = some (C, T, N)) (q0 : Nat) (hq : ws[q0]? = some (b, .inr (ci, fs))) : PreV s H C b (vx_Pc D cl tys (.ref b :: As) wc H.size) As := by
  refine ⟨vx_blind, va_recv hK hP hc hq, fun U hU hW => ⟨rfl, by rw [hU], ?_, va_K.moved hW.alike hK, (hD.sub isC hn hC).weaken (fun _ _ _ _ => trivial)⟩⟩
  rw [hU]
  refine hP.sub isC ?_
  have h2 := congrArg (List.filterMap id) hC
  simpa [List.filterMap_map, Function.comp_def] using h2
theorem vx_preS {ws wc : va_W} {As : List Value} (isC : List Nat) (hK : va_K D cl tys s) (hP : va_P D cl ws H) (hD : va_D A ws) (hn : va_nd isC = true) (hC : isC.map (fun i => ws[i]?) = wc.map some) : PreS s H (vx_Pc D cl tys As wc H.size) As := by
  refine ⟨vx_blind, fun U hU hW => ⟨rfl, by rw [hU], ?_, va_K.moved hW.alike hK, (hD.sub isC hn hC).weaken (fun _ _ _ _ => trivial)⟩⟩
  rw [hU]
  refine hP.sub isC ?_
  have h2 := congrArg (List.filterMap id) hC
  simpa [List.filterMap_map, Function.comp_def] using h2
end VXE
