/-! The throw itself. -/
section VXW
variable {p : Program} {l : Launch} {e : Env} {R : Room} {s : State} {m : MethodId} {args : Array Value} {below : List Frame} {meth : Method} {c : Code} {T : State} {H : Heap} {locs : List Loc} {cells slots : Nat}
/-- as if the method had begun with this heap -/
theorem vx_rebase (X : Stand p l e R s m args below meth c T locs cells slots) {R' : Room} (hf : R'.frames ≤ R.frames) (hlo : R'.locals ≤ R.locals) (hc : cells + R'.cells ≤ R.cells) (hs : slots + R'.slots ≤ R.slots) :
    Stand p l e R' ({ s with heap := T.heap, slotsUsed := T.slotsUsed } : State) m args below meth c T [] 0 0 := by
  have hr := X.room
  obtain ⟨r1, r2⟩ := X.roomAbove hc hs
  have hb := X.book
  have e0 : T.setVm s.vm = { s.setFrames T.frames with heap := T.heap, slotsUsed := T.slotsUsed } := X.same.1
  have hd : T.heap.toList.drop T.heap.size = [] := List.drop_eq_nil_of_le (by rw [Array.length_toList]; exact Nat.le_refl _)
  refine ⟨X.admits, X.cas, X.clock, X.frames, ?_, X.hears, X.method, X.code, X.here, X.tail, X.warmed, X.limits, X.bytes, ?_⟩
  · simp only [State.hasRoom, Bool.and_eq_true, decide_eq_true_eq] at hr ⊢
    obtain ⟨⟨⟨⟨h1, h2⟩, h3⟩, h4⟩, h5⟩ := hr
    have l1 : (({ s with heap := T.heap, slotsUsed := T.slotsUsed } : State)).localsInUse = s.localsInUse := rfl
    have l2 : (({ s with heap := T.heap, slotsUsed := T.slotsUsed } : State)).frames = s.frames := rfl
    have l3 : (({ s with heap := T.heap, slotsUsed := T.slotsUsed } : State)).me = s.me := rfl
    rw [l1, l2, l3]
    exact ⟨⟨⟨⟨by omega, by omega, by omega, by omega, by omega, h2.2.2.2.2⟩, r1⟩, r2⟩, hb⟩
  · refine ⟨?_, Nat.le_refl _, Nat.le_refl _, ?_, ?_, fun a c0 h => ⟨c0, h, rfl, rfl, fun _ _ => rfl⟩⟩
    · exact e0
    · show T.slotsUsed = T.slotsUsed + ((T.heap.toList.drop T.heap.size).map (·.slots.size)).sum
      rw [hd]; rfl
    · show ((T.heap.toList.drop T.heap.size).map (·.slots.size)).sum ≤ 0
      rw [hd]; exact Nat.le_refl _
variable {y : MethodName} {wy : List Cond} {D : va_G} {cl : List vw_C} {tys : List (ClassId × FieldType)} {cc : ByteArray} {nL mc ms pc : Nat} {A : Nat → Prop} {w : va_W} {ls : Array Slot} {ret : Option FieldType} {xW : List Cond} {own : String} {xS : List (Nat × String)}
def vx_four : List Cond := [.laysStatic Bundle.tN "UNASSIGNED_STACK" Bundle.steD, .laysStatic Bundle.tN "SUPPRESSED_SENTINEL" Bundle.listD, .isRef (.static Bundle.tN "UNASSIGNED_STACK" Bundle.steD), .isRef (.static Bundle.tN "SUPPRESSED_SENTINEL" Bundle.listD)]
theorem vx_XT.four {U : State} (h : vx_XT xW own xS U) : ∀ q ∈ vx_four, ∀ A, q.before A U = true := by
  intro q hq A
  simp only [vx_four, List.mem_cons, List.not_mem_nil, or_false] at hq
  rcases hq with rfl | rfl | rfl | rfl
  · exact h.1.1 A
  · exact h.2.1.1 A
  · exact h.1.2 A
  · exact h.2.1.2 A
theorem vx_throw {post : va_W → Prop} {X tx : String} {names : List String} {iN iS iC : Nat} (ho : y.cls = own) (C : vx_C p s m args meth c cc nL y ret wy)
    (Z : e.platform.stackTraces = false ∧ (∀ pc, ∀ x ∈ c.exceptionTable.toList, covers x pc = false) ∧ vx_XT xW own xS s ∧ ∀ (q : Nat) (cell : Cell), A q → s.heap[q]? = some cell → cell.vm.isStatics = false)
    (hK : va_K D cl tys s) (hP : va_P D cl w H) (hD : va_D A w) (hS : va_S A s.heap H locs) (hA : ∀ q : Nat, s.heap.size ≤ q → A q)
    (hgood : ∀ q ∈ wy, (q.onTables && q.keeps) = true ∨ ∃ ty, q = .arrayClass ty)
    (hat : ∀ q ∈ Bundle.ownAtoms own iC X names, q ∈ wy ∨ q ∈ xW ∨ q ∈ vx_four) (hfit : Bundle.fit X = true) (hnm : ∀ n ∈ names, Bundle.fit n = true)
    (hcl : Cond.classLink own iN X ∈ wy) (hin : Cond.initialized X ∈ wy) (htx : (iS, tx) ∈ xS)
    (hd0 : decode cc pc = .ok (.new iN, 3)) (hd3 : decode cc (pc + 3) = .ok (.dup, 1)) (hd4 : decode cc (pc + 4) = .ok (.ldc iS, 2)) (hd6 : decode cc (pc + 6) = .ok (.invokespecial iC, 3)) (hd9 : decode cc (pc + 9) = .ok (.athrow, 1))
    (hls : ls.size = nL) (hf : names.length + 3 < R.frames) (hlo : 1 + (13 * (names.length + 1) + 42) ≤ R.locals) (hrc : cells + 1 ≤ R.cells) (hrs : slots + 6 ≤ R.slots) (hmc : cells + 1 ≤ mc) (hms : slots + 6 ≤ ms) (hpost : post w) :
    W p l e R s m args below meth c H locs cells slots (vx_MQ below (vx_Qx X D cl tys A mc ms post) args s) (F0 m pc ls []) := by
  subst ho
  obtain ⟨hx, hb, hr, hml, hown, hts, hlocks, hnm0⟩ := C
  obtain ⟨htr, hout, hXT, hN⟩ := Z
  intro T hT X0
  have X1 := vx_rebase X0 (R' := { frames := R.frames, cells := 1, slots := 6, locals := R.locals }) (Nat.le_refl _) (Nat.le_refl _) hrc hrs
  generalize hs' : ({ s with heap := T.heap, slotsUsed := T.slotsUsed } : State) = s' at X1
  have hvm : s'.vm = s.vm := by rw [← hs']
  have hh : s'.heap = H := by rw [← hs', ← hT]
  have hW' : s.WarmedH s'.vm := by rw [hvm]; exact State.WarmedH.refl s
  have hXT' : vx_XT xW y.cls xS s' := hXT.move hW' (by rw [hh]; exact vx_hs.of hS hN)
  have hown' : s'.vm.findClass y.cls = some m.cls := by rw [hvm]; exact hown
  have hts' : ∀ q ∈ wy, q.before args s' = true := fun q hq => word_at hW' (hgood q hq) (hts q hq)
  have hall : ∀ q ∈ Bundle.ownAtoms y.cls iC X names, q.before args s' = true := by
    intro q hq
    rcases hat q hq with h | h | h
    · exact hts' q h
    · exact (hXT'.2.2.1 q h).2 args
    · exact hXT'.four q h args
  obtain ⟨aS, hq⟩ := hXT'.2.2.2 _ htx
  obtain ⟨vm₁, cX, kX, hfX, hkX, -, -, X₁, st1⟩ := X1.newCold hx (own := y.cls) (C := X) (index := iN) (n := 6) hown' (hts' _ hcl) (hall (.instantiable X 6) (by simp [Bundle.ownAtoms])) (hts' _ hin)
    (g := F0 m pc ls []) rfl (by rw [hb]; exact hd0) (Nat.le_refl _) (Nat.le_refl _)
  generalize hT1 : (T.setVm vm₁).pushCell { cls := cX, slots := kX.instanceTypes.map defaultValue, vm := .none } = T1 at X₁ st1
  have hcellA : T1.heap[T.heap.size]? = some (freshCell cX kX) := by rw [← hT1]; exact State.heap_pushCell_size _ _
  obtain ⟨U, hsteps, hrun, hend, hWU, hsame, ce, hce, K⟩ := X₁.ctorThrowS hx htr (own := y.cls) (cls := X) (names := names) (ic := iC) hown' hfit hnm hall (fun z hz => by cases hz) hfX hkX hcellA (by rw [hh, hT]; exact Nat.le_refl _) (msg := .ref aS) rfl
    (g := F0 m (pc + 6) ls [.ref aS, .ref T.heap.size, .ref T.heap.size]) rfl (by rw [hml]; exact hls) rfl rfl (rest := []) rfl (by rw [hb]; exact hd6) (by rw [hb]; exact hd9) (hout _) hf (by show 2 * 0 + 1 + _ ≤ R.locals; omega)
  have hsz : H.size ≤ T.heap.size := by rw [hT]; exact Nat.le_refl _
  obtain ⟨g1, g2, g3, g4, g5, g6⟩ := hsame
  have hold : ∀ q : Nat, q < H.size → U.heap[q]? = H[q]? := by
    intro q hq
    obtain ⟨c0, hc0⟩ : ∃ c0, H[q]? = some c0 := ⟨_, Array.getElem?_eq_getElem hq⟩
    obtain ⟨c1, h1, h2, h3, h4⟩ := g6 q c0 (by rw [hh]; exact hc0)
    have h5 : c1.slots = c0.slots := Array.ext_getElem? (fun i => h4 i (by simp))
    have h6 : U.heap[q]? = some c1 := h1
    rw [h6, hc0, h2, h5]
  refine ⟨U, st1 _ ?_, .threw T.heap.size, hrun, hend, T.heap.size, ce, w, locs, rfl, by rw [hT]; exact hS.1, hce, by rw [← hvm]; exact K.cls, K.vm, hpost, ⟨?_, ?_, hD⟩, ⟨?_, ?_⟩, ?_, ?_, hS.2.2⟩
  · show Steps p.tables e below (T1.setTop (F0 m (pc + 3) ls [.ref T.heap.size])) U
    jvm_step X₁.here [X₁.here.top, hx, hb, hd3, Value.category]
    exact X₁.ldcString hx hown' (text := tx) (a := aS) hq.1 hq.2 (g := F0 m (pc + 4) ls [.ref T.heap.size, .ref T.heap.size]) rfl (by rw [hb]; exact hd4) _ hsteps
  · intro k q hk
    have h1 := hP k q hk
    refine h1.kept (hold q.1 ?_)
    obtain ⟨q1, en⟩ := q
    rcases en with a | o
    · have h2 : H[q1]? = some (vp_cell a.1 a.2) := h1
      exact (Array.getElem?_eq_some_iff.mp h2).1
    · obtain ⟨r, -, cell', k1, -⟩ := h1
      exact (Array.getElem?_eq_some_iff.mp k1).1
  · refine va_K.moved ?_ hK
    have h := hWU.alike
    rw [hvm] at h
    exact h
  · have h : s'.heap.size ≤ U.heap.size := g2
    rw [hh] at h
    exact Nat.le_trans hS.1 h
  · intro q h1 h2
    rw [hold q (Nat.lt_of_lt_of_le h1 hS.1)]
    exact hS.2.1 q h1 h2
  · rw [← hs'] at hWU
    exact hWU
  · have e0 : T.setVm s.vm = { s.setFrames T.frames with heap := T.heap, slotsUsed := T.slotsUsed } := X0.same.1
    have hm : (T.setVm s.vm).sameButNew ({ U with vm := s.vm } : State) [] 1 6 := by
      have hhT : s'.heap = (T.setVm s.vm).heap := by rw [← hs']; rfl
      have huT : s'.slotsUsed = (T.setVm s.vm).slotsUsed := by rw [← hs']; rfl
      rw [hhT] at g2 g3 g4 g5 g6
      rw [huT] at g4
      refine ⟨?_, g2, g3, g4, g5, g6⟩
      rw [hvm] at g1
      refine g1.trans ?_
      rw [e0, ← hs']
      show _ = ({ (s.setFrames T.frames).setFrames U.frames with heap := U.heap, slotsUsed := U.slotsUsed } : State)
      rw [State.setFrames_setFrames]
      rfl
    have h3 := X0.same.trans hm
    rw [List.append_nil] at h3
    exact h3.weaken (fun _ h _ => h) hmc hms
end VXW
