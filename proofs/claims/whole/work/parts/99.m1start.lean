/-! What the law's start gives. -/
theorem ms_len {args : Array Value} {s : State} {t : Term} {v : Value} (h : (Term.length t).eval args s none [] s = some v) : ∃ a cell, t.eval args s none [] s = some (.ref a) ∧ s.arrayAt? a = some cell ∧ cell.slots.size < 2 ^ 31 ∧ v = .int cell.slots.size.toInt32 := by
  simp only [Term.eval, Option.bind_eq_bind] at h
  cases ht : t.eval args s none [] s with
  | none => simp [ht] at h
  | some x =>
    cases x <;> simp [ht] at h
    case ref a =>
      obtain ⟨cell, hcell, h⟩ := Option.bind_eq_some_iff.mp h
      by_cases hn : cell.slots.size < 2147483648
      · rw [if_pos hn] at h; cases h; exact ⟨a, cell, rfl, hcell, hn, rfl⟩
      · rw [if_neg hn] at h; cases h
/-- an array of known ints that a term names -/
theorem ms_X {args : Array Value} {s : State} {tm : Term} {N : Nat} {f : Nat → Int32} (hN : N < 2 ^ 31) (harr : (Cond.arrayOf tm .int).before args s = true) (hlen : (Term.length tm).eval args s none [] s = some (.int (nI N))) (hel : ∀ j : Nat, j < N → (Term.elem tm (.int (nI j))).eval args s none [] s = some (.int (f j))) : ∃ t, tm.eval args s none [] s = some (.ref t) ∧ va_X t N f s s.heap := by
  obtain ⟨t, cell, ht, hat, hsz, hv⟩ := ms_len hlen
  obtain ⟨hcell, hkn, -, -⟩ := State.arrayAt?_spec hat
  obtain ⟨hof, -⟩ := Cond.arrayOf_spec harr ht hcell
  have hs : cell.slots.size = N := by
    have h9 := Value.int.inj hv
    have e : (nI N).toInt = (nI cell.slots.size).toInt := congrArg Int32.toInt h9
    rw [nI_toInt hN, nI_toInt hsz] at e
    omega
  refine ⟨t, ht, cell, hcell, hof, hkn, hs, fun j hj => ?_⟩
  obtain ⟨a, i, cell2, h1, h2, h3, h4, h5⟩ := Term.elem_spec (hel j hj)
  cases ht.symm.trans h1
  cases hat.symm.trans h3
  have hi : i = nI j := by
    have e : (Term.int (nI j)).eval args s none [] s = some (.int (nI j)) := rfl
    cases h2.symm.trans e
    rfl
  have hc : i.toNatClampNeg = j := by rw [hi]; exact Int32.toNatClampNeg_ofNat_of_lt (Nat.lt_trans hj hN)
  rw [hc] at h5
  exact h5
theorem ms_R {own tx : String} {k : Nat} {A : Array Value} {U : State} (h : (Cond.stringRef own k tx).before A U = true) : ∃ a, vk_R own k tx a U := by
  have h0 : (Cond.stringRef own k tx).before #[] U = true := h
  simp only [Cond.before, Cond.holds, Cond.value] at h
  cases hr : U.resolvedAt? own k with
  | none => cases hc : U.vm.findClass own <;> simp [hr, hc] at h
  | some r =>
    cases r with
    | string a =>
      simp only [State.resolvedAt?, Option.bind_eq_bind, Option.bind_eq_some_iff] at hr
      obtain ⟨c, hc, k2, hk, hr2⟩ := hr
      exact ⟨a, h0, by simp [Term.eval, hc, hk, hr2]⟩
    | _ => cases hc : U.vm.findClass own <;> simp [hr, hc] at h
theorem ms_vy {s : State} {b : Nat} (hts : ∀ w ∈ lw_tbl, w.before #[Value.ref b] s = true) (hgv : (Jvm.Cond.and given_1 narrow_1).before #[Value.ref b] s = true) : ∃ q, vy_E xW_N "StepMachines" xS_N q s := by
  have hs := flat_of_before _ hgv
  have ha : (Cond.arrayOf (.static vy_C vy_n vy_d) .int).before #[Value.ref b] s = true := hs _ (by decide +kernel)
  have hl : (Cond.eq (.length (.static vy_C vy_n vy_d)) (.int 4)).before #[Value.ref b] s = true := hs _ (by decide +kernel)
  have h0 : (Cond.eq (.elem (.static vy_C vy_n vy_d) (.int 0)) (.int (-1))).before #[Value.ref b] s = true := hs _ (by decide +kernel)
  have h1 : (Cond.eq (.elem (.static vy_C vy_n vy_d) (.int 1)) (.int 10)).before #[Value.ref b] s = true := hs _ (by decide +kernel)
  have h2 : (Cond.eq (.elem (.static vy_C vy_n vy_d) (.int 2)) (.int 97)).before #[Value.ref b] s = true := hs _ (by decide +kernel)
  have h3 : (Cond.eq (.elem (.static vy_C vy_n vy_d) (.int 3)) (.int 0)).before #[Value.ref b] s = true := hs _ (by decide +kernel)
  obtain ⟨q, hq, hX⟩ := ms_X (N := 4) (f := repI) (by decide) ha (va_eqt hl) (fun j hj => by
    rcases (by omega : j = 0 ∨ j = 1 ∨ j = 2 ∨ j = 3) with rfl | rfl | rfl | rfl
    · exact va_eqt h0
    · exact va_eqt h1
    · exact va_eqt h2
    · exact va_eqt h3)
  have e1 : (Cond.isRef (.static Bundle.tN "UNASSIGNED_STACK" Bundle.steD)).before #[Value.ref b] s = true := hs _ (by decide +kernel)
  have e2 : (Cond.isRef (.static Bundle.tN "SUPPRESSED_SENTINEL" Bundle.listD)).before #[Value.ref b] s = true := hs _ (by decide +kernel)
  have l1 : (Cond.laysStatic Bundle.tN "UNASSIGNED_STACK" Bundle.steD).before #[Value.ref b] s = true := hts _ (by decide +kernel)
  have l2 : (Cond.laysStatic Bundle.tN "SUPPRESSED_SENTINEL" Bundle.listD).before #[Value.ref b] s = true := hts _ (by decide +kernel)
  have l3 : (Cond.laysStatic vy_C vy_n vy_d).before #[Value.ref b] s = true := hts _ (by decide +kernel)
  have l4 : (Cond.initialized vy_C).before #[Value.ref b] s = true := hts _ (by decide +kernel)
  refine ⟨q, ⟨⟨fun A => l1, fun A => e1⟩, ⟨fun A => l2, fun A => e2⟩, fun w hw => ?_, fun x hx => ?_⟩, va_Zof l3 l4 hq (fun a _ h => h), hX⟩
  · simp only [xW_N, List.mem_cons, List.not_mem_nil, or_false] at hw
    rcases hw with rfl | rfl | rfl | rfl | rfl | rfl | rfl | rfl | rfl | rfl | rfl | rfl | rfl | rfl
    · exact ⟨rfl, fun A => hts (Cond.castable "java/lang/IllegalArgumentException" "java/lang/IllegalArgumentException") (by decide +kernel)⟩
    · exact ⟨rfl, fun A => hts (Cond.castable "java/lang/IndexOutOfBoundsException" "java/lang/IndexOutOfBoundsException") (by decide +kernel)⟩
    · exact ⟨rfl, fun A => hts (Cond.declares ⟨"java/lang/RuntimeException", "<init>", "(Ljava/lang/String;)V"⟩) (by decide +kernel)⟩
    · exact ⟨rfl, fun A => hts (Cond.declares ⟨"java/lang/Exception", "<init>", "(Ljava/lang/String;)V"⟩) (by decide +kernel)⟩
    · exact ⟨rfl, fun A => hts (Cond.declares ⟨"java/lang/Throwable", "<init>", "(Ljava/lang/String;)V"⟩) (by decide +kernel)⟩
    · exact ⟨rfl, fun A => hs (Cond.not (Cond.castable "java/lang/IllegalArgumentException" "java/lang/IndexOutOfBoundsException")) (by decide +kernel)⟩
    · exact ⟨rfl, fun A => hs (Cond.not (Cond.castable "java/lang/IndexOutOfBoundsException" "java/lang/IllegalArgumentException")) (by decide +kernel)⟩
    · exact ⟨rfl, fun A => hts (Cond.methodLinkNest "StepMachines" 9 ⟨"StepMachines$Program", "<init>", "()V"⟩ "StepMachines") (by decide +kernel)⟩
    · exact ⟨rfl, fun A => hts (Cond.methodLinkNest "StepMachines" 18 ⟨"StepMachines$Subject", "<init>", "()V"⟩ "StepMachines") (by decide +kernel)⟩
    · exact ⟨rfl, fun A => hts (Cond.methodLinkNest "StepMachines" 25 ⟨"StepMachines$Tally", "<init>", "()V"⟩ "StepMachines") (by decide +kernel)⟩
    · exact ⟨rfl, fun A => hts (Cond.methodLinkNest "StepMachines$Threads" 26 ⟨"StepMachines$Row", "<init>", "()V"⟩ "StepMachines") (by decide +kernel)⟩
    · exact ⟨rfl, fun A => hts (Cond.methodLinkNest "StepMachines$Table" 32 ⟨"StepMachines$Row", "<init>", "()V"⟩ "StepMachines") (by decide +kernel)⟩
    · exact ⟨rfl, fun A => hts (Cond.methodLinkNest "StepMachines$States" 11 ⟨"StepMachines$Kept", "<init>", "()V"⟩ "StepMachines") (by decide +kernel)⟩
    · exact ⟨rfl, fun A => hts (Cond.methodLinkNest "StepMachines$States" 20 ⟨"StepMachines$Row", "<init>", "()V"⟩ "StepMachines") (by decide +kernel)⟩
  · simp only [xS_N, List.mem_cons, List.not_mem_nil, or_false] at hx
    rcases hx with rfl | rfl | rfl | rfl | rfl | rfl | rfl | rfl | rfl | rfl | rfl
    all_goals exact ms_R (hts (Cond.stringRef "StepMachines" _ _) (by decide +kernel))
