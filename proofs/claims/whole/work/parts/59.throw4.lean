/-! A call that throws, from a method that catches. -/
section VXC
variable {p : Program} {l : Launch} {e : Env} {R : Room} {s : State} {m : MethodId} {args : Array Value} {below : List Frame} {meth : Method} {c : Code} {H : Heap} {locs : List Loc} {cells slots : Nat}
variable {y : MethodName} {D : va_G} {cl : List vw_C} {tys : List (ClassId × FieldType)} {cc : ByteArray} {nL mc ms pc : Nat} {A : Nat → Prop} {ls : Array Slot} {ret : Option FieldType} {xW : List Cond} {own own' : String} {xS : List (Nat × String)}
/-- what a throwing call asks of the world -/
theorem vx_preX {ws wc : va_W} {C : String} {b : Nat} {As : List Value} {T : u_T} {N ci : Nat} {fs : List Value} (isC : List Nat) (hX : vx_XT xW own' xS s) (hN : ∀ (q : Nat) (cell : Cell), A q → s.heap[q]? = some cell → cell.vm.isStatics = false) (hS : va_S A s.heap H locs) (hK : va_K D cl tys s) (hP : va_P D cl ws H) (hD : va_D A ws) (hn : va_nd isC = true) (hC : isC.map (fun i => ws[i]?) = wc.map some) (hc : cl[ci]? = some (C, T, N)) (q0 : Nat) (hq : ws[q0]? = some (b, .inr (ci, fs))) : PreV s H C b (vx_Px xW own' xS D cl tys (.ref b :: As) wc H.size) As := by
  obtain ⟨-, h2, h3⟩ := vx_preV (As := As) isC hK hP hD hn hC hc q0 hq
  exact ⟨vx_Px.blind, h2, fun U hU hW => ⟨h3 U hU hW, hX.move hW (by rw [hU]; exact vx_hs.of hS hN)⟩⟩
theorem vx_callx {rest : List Value} {post : va_W → Prop} {ws wc wr : va_W} {Q : State → Prop} {X Cn : String} {b index n maxL hpc : Nat} {As : List Value} {bytes : ByteArray} {ws' Ts : List Cond} {rm : Room} (isC isR : List Nat)
    (hK : va_K D cl tys s) (hP : va_P D cl ws H) (hD : va_D A ws) (hS : va_S A s.heap H locs) (hA : ∀ q : Nat, s.heap.size ≤ q → A q) (hC : isC.map (fun i => ws[i]?) = wc.map some) (hR : isR.map (fun i => ws[i]?) = wr.map some) (hn : va_nd isR = true) (hdis : ∀ i ∈ isR, i ∉ isC)
    (S : CallFix p m c cc nL s args Ts own) (hM : vx_Mx l y ws' rm xW own' xS D cl tys (.ref b :: As) wc X post) (cw : CallW R s args own Cn index y bytes maxL ret ws' rm mc ms n) (hp : PreV s H Cn b (vx_Px xW own' xS D cl tys (.ref b :: As) wc H.size) As)
    (hnA : As.length = n) (hsize : ls.size = nL) (hW : (rest.map fun v => v.category).sum ≤ 8) (hdg : decode cc pc = .ok (.invokevirtual index, 3)) (hf : cells + mc ≤ R.cells ∧ slots + ms ≤ R.slots)
    (hcat : l.admits e → ∀ (b' : Nat) (S : State) (cell : Cell), s.WarmedH S.vm → S.heap[b']? = some cell → cell.vm = .none → s.vm.findClass X = some cell.cls → ∃ vm', s.WarmedH vm' ∧ vx_Fd e (F0 m pc ls rest) b' c.exceptionTable.toList S hpc vm')
    (kk : ∀ (x : Nat) (w1 : va_W) (H1 : Heap) (locs1 : List Loc), post w1 → va_P D cl (wr ++ w1) H1 → va_D A (wr ++ w1) → va_S A s.heap H1 locs1 → W p l e R s m args below meth c H1 locs1 (cells + mc) (slots + ms) Q (F0 m hpc ls [.ref x])) :
    W p l e R s m args below meth c H locs cells slots Q (F0 m pc ls (As.reverse ++ .ref b :: rest)) := by
  obtain ⟨⟨hrc, hrs, hfr, hlo, hws, hcw, hcode, hini, hy, hlen, hl⟩, hinst, hsel⟩ := cw
  obtain ⟨hx, hb, hml, ho, -⟩ := S
  obtain ⟨-, ⟨cellB, hcB, hoB, hclB⟩, hPc⟩ := hp
  intro T hT X0
  obtain ⟨mk, methM, hnamed, hmethM, hstM, habM⟩ := Cond.instanceMethod_spec hinst
  obtain ⟨methM', cM, hmethM', -, -, -, -, -, -, hsigM⟩ := Cond.code_spec hnamed hcode
  cases hmethM.symm.trans hmethM'
  obtain ⟨c2, r2, m2, q1, q2, q3, q4, kP, hkP, hkPi⟩ := Cond.selects_spec hsel
  cases hclB.symm.trans q1
  cases (State.methodFound?_of_named hnamed hy).symm.trans q2
  cases hnamed.symm.trans q3
  have hselP : selectMethod e.platform s.vm cellB.cls mk = .method mk := by rw [Launch.admits_selectMethod X0.admits]; exact q4
  obtain ⟨vm₁, X₁, hstep₁⟩ := X0.invokevirtual hx ho hl hnamed hmethM hstM hkP hkPi hy (a := b) (cell := cellB) (by rw [hT]; exact hcB)
    (fun z h => by rw [h] at hoB; cases hoB) hselP hmethM habM hkP hkPi (g := F0 m pc ls (As.reverse ++ .ref b :: rest)) rfl (argsL := As) (rest := rest) (hnA.trans (hlen _ hsigM)) rfl (by rw [hb]; exact hdg)
  have hW1 := X₁.warmed
  obtain ⟨x, L, k, n', t, V, XV, eH, eV, ⟨hk, hn', hsz, ce, w1, hce, hfX, hvm, hpost, hB, hF, hL⟩, st2⟩ := vx_back (bytes := bytes) (maxL := maxL) (ret := ret) (Wt := 8) (len := 3) (a := (Value.ref b :: As).toArray) (mk := mk)
    (E := fun x L k n' t => k = mc ∧ n' = ms ∧ H.size ≤ x ∧ ∃ (ce : Cell) (w1 : va_W), t.heap[x]? = some ce ∧ s.vm.findClass X = some ce.cls ∧ ce.vm = .none ∧ post w1 ∧ vx_B D cl tys (va_A wc H.size) w1 t ∧ va_F (va_A wc H.size) (T.setVm vm₁) t ∧ ∀ q ∈ L, va_A wc H.size q.base)
    (hM H.size) hfr hlo X₁ (g := F0 m pc ls rest) rfl (hsize.trans hml.symm) (by rw [hb]; exact hdg) (by show 2 * 0 + (rest.map fun v => v.category).sum ≤ 8; omega) (X₁.named hnamed) (atoms_intro fun w hw => hws w hw _ _ hW1) (hws _ hcw _ _ hW1) (word_at hW1 (Or.inl (by first | rfl | simp [Cond.onTables, Cond.keeps, Cond.steady])) hini)
    (by rw [show (headSpec ws' rm).room.cells = mc from hrc]; exact hf.1) (by rw [show (headSpec ws' rm).room.slots = ms from hrs]; exact hf.2) (vx_Px.blind _ _ _ _ (hPc (T.setVm vm₁) hT hW1)) (by
      intro o t hq
      obtain ⟨x, ce, w1, L, rfl, g1, g2, g3, g4, g5, g6, g7, g8, g9, g10⟩ := hq
      rw [hrc, hrs] at g9
      refine ⟨x, L, mc, ms, rfl, g8, g9, rfl, rfl, ?_, ce, w1, g2, ?_, g4, g5, g6, g7, g10⟩
      · rw [← hT]; exact g1
      · rw [← hW1.alike.findClass]; exact g3)
  subst hk; subst hn'
  have hWV := XV.warmed
  obtain ⟨vm', hW', hFd⟩ := hcat X0.admits x ((V.setTop (F0 m pc ls rest)).pushFrame (.throwing x)) ce (by rw [Stand.throwing_vm]; exact hWV) (by rw [Stand.throwing_heap, eH]; exact hce) hvm hfX
  obtain ⟨X2, st3⟩ := vx_catch XV (g := F0 m pc ls rest) rfl hW' hFd
  have hFr := va_free (wc := wc) hD hS hA isC hC
  obtain ⟨hz, hkp⟩ := hF
  have hz' : H.size ≤ t.heap.size := by rw [← hT]; exact hz
  have hkp' : ∀ q : Nat, q < H.size → ¬ va_A wc H.size q → t.heap[q]? = H[q]? := fun q h1 h2 => by rw [hkp q (by show q < T.heap.size; rw [hT]; exact h1) h2]; show T.heap[q]? = _; rw [hT]
  obtain ⟨hP1, hK1, hD1⟩ := hB
  obtain ⟨hP2, hD2⟩ := va_join hP hD isC isR hC hR hn hdis hkp' hFr hP1 hD1
  have hS2 : va_S A s.heap t.heap (locs ++ L) := ⟨Nat.le_trans hS.1 hz', fun q h1 h2 => by rw [hkp' q (Nat.lt_of_lt_of_le h1 hS.1) (fun z => h2 (hFr q z))]; exact hS.2.1 q h1 h2, fun q hq => by
      rcases List.mem_append.mp hq with h | h
      · exact hS.2.2 q h
      · exact hFr _ (hL q h)⟩
  obtain ⟨t2, a1, b1⟩ := kk x w1 t.heap (locs ++ L) hpost hP2 hD2 hS2 (V.setVm vm') eH X2
  exact ⟨t2, hstep₁ _ fun acts => by rw [doInvoke_state]; exact st2.trans (st3 _ a1), b1⟩
/-- one row: its class takes what was thrown -/
theorem vx_cat1 {own X : String} {f : JFrame} {x : ExceptionTableEntry} (hown : s.vm.findClass own = some m.cls) (hg : f.method = m) (ht : c.exceptionTable.toList = [x]) (hx : covers x f.pc = true) (h0 : x.catchType ≠ 0) (hl : (Cond.classLink own x.catchType X).before args s = true) (hc : (Cond.castable X X).before args s = true) :
    l.admits e → ∀ (b' : Nat) (S : State) (cell : Cell), s.WarmedH S.vm → S.heap[b']? = some cell → cell.vm = .none → s.vm.findClass X = some cell.cls → ∃ vm', s.WarmedH vm' ∧ vx_Fd e f b' c.exceptionTable.toList S x.handlerPc vm' := by
  intro ha b' S cell hW hcell hvm hfX
  have hpl : e.platform.magicAccessors = ({} : Platform).magicAccessors := by rw [ha.platform]
  obtain ⟨c', hc', hcl⟩ := Cond.classLink_spec hown hl e.platform hpl
  obtain ⟨c3, c4, h3, h4, hfit⟩ := Cond.castable_spec hc
  cases hfX.symm.trans hc'
  cases hfX.symm.trans h3
  cases hfX.symm.trans h4
  obtain ⟨vm1, w1, w2, -⟩ := vx_Fd.row (e := e) (f := f) (a := b') (t := []) hW hx h0 (by rw [hg]; exact hcl) hcell (fun k => by rw [hvm]; exact fun z => by cases z) (Vm.classAt_of_findClass hfX)
  rw [ht]
  exact ⟨vm1, w1, w2 hfit⟩
/-- two rows: the first takes it -/
theorem vx_cat2a {own X : String} {f : JFrame} {x x2 : ExceptionTableEntry} (hown : s.vm.findClass own = some m.cls) (hg : f.method = m) (ht : c.exceptionTable.toList = [x, x2]) (hx : covers x f.pc = true) (h0 : x.catchType ≠ 0) (hl : (Cond.classLink own x.catchType X).before args s = true) (hc : (Cond.castable X X).before args s = true) :
    l.admits e → ∀ (b' : Nat) (S : State) (cell : Cell), s.WarmedH S.vm → S.heap[b']? = some cell → cell.vm = .none → s.vm.findClass X = some cell.cls → ∃ vm', s.WarmedH vm' ∧ vx_Fd e f b' c.exceptionTable.toList S x.handlerPc vm' := by
  intro ha b' S cell hW hcell hvm hfX
  have hpl : e.platform.magicAccessors = ({} : Platform).magicAccessors := by rw [ha.platform]
  obtain ⟨c', hc', hcl⟩ := Cond.classLink_spec hown hl e.platform hpl
  obtain ⟨c3, c4, h3, h4, hfit⟩ := Cond.castable_spec hc
  cases hfX.symm.trans hc'
  cases hfX.symm.trans h3
  cases hfX.symm.trans h4
  obtain ⟨vm1, w1, w2, -⟩ := vx_Fd.row (e := e) (f := f) (a := b') (t := [x2]) hW hx h0 (by rw [hg]; exact hcl) hcell (fun k => by rw [hvm]; exact fun z => by cases z) (Vm.classAt_of_findClass hfX)
  rw [ht]
  exact ⟨vm1, w1, w2 hfit⟩
/-- two rows: the first does not take it, the second does -/
theorem vx_cat2b {own X Y : String} {f : JFrame} {x x2 : ExceptionTableEntry} (hown : s.vm.findClass own = some m.cls) (hg : f.method = m) (ht : c.exceptionTable.toList = [x, x2]) (hx : covers x f.pc = true) (h0 : x.catchType ≠ 0) (hl : (Cond.classLink own x.catchType Y).before args s = true) (hnc : (Cond.not (.castable X Y)).before args s = true)
    (hx2 : covers x2 f.pc = true) (h02 : x2.catchType ≠ 0) (hl2 : (Cond.classLink own x2.catchType X).before args s = true) (hc : (Cond.castable X X).before args s = true) :
    l.admits e → ∀ (b' : Nat) (S : State) (cell : Cell), s.WarmedH S.vm → S.heap[b']? = some cell → cell.vm = .none → s.vm.findClass X = some cell.cls → ∃ vm', s.WarmedH vm' ∧ vx_Fd e f b' c.exceptionTable.toList S x2.handlerPc vm' := by
  intro ha b' S cell hW hcell hvm hfX
  have hpl : e.platform.magicAccessors = ({} : Platform).magicAccessors := by rw [ha.platform]
  obtain ⟨c', hc', hcl⟩ := Cond.classLink_spec hown hl e.platform hpl
  obtain ⟨c5, hc5, hcl2⟩ := Cond.classLink_spec hown hl2 e.platform hpl
  obtain ⟨c3, c4, h3, h4, hfit⟩ := Cond.castable_spec hc
  cases hfX.symm.trans hc5
  cases hfX.symm.trans h3
  cases hfX.symm.trans h4
  have hv := Cond.holds_not_iff.mp hnc
  simp only [Cond.value, hfX, hc'] at hv
  have hno := Option.some.inj hv
  obtain ⟨vm1, w1, -, w3⟩ := vx_Fd.row (e := e) (f := f) (a := b') (t := [x2]) hW hx h0 (by rw [hg]; exact hcl) hcell (fun k => by rw [hvm]; exact fun z => by cases z) (Vm.classAt_of_findClass hfX)
  obtain ⟨vm2, w4, w5, -⟩ := vx_Fd.row (e := e) (f := f) (a := b') (t := []) (S := S.setVm vm1) w1 hx2 h02 (by rw [hg]; exact hcl2) hcell (fun k => by rw [hvm]; exact fun z => by cases z) (Vm.classAt_of_findClass hfX)
  rw [ht]
  exact ⟨vm2, w4, w3 hno _ _ (w5 hfit)⟩
end VXC
