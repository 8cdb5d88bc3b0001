/-! The classes and the arrays' classes, as the law's start gives them. -/
theorem mk_A {s : State} {A : Array Value} {ty : FieldType} (hp : ∀ U cA, U.vm.findClass ("[" ++ ty.toString) = some cA → va_RA U cA ty) (h : (Cond.arrayClass ty).before A s = true) : ∃ cA, ArrOfT s cA ty ∧ va_RA s cA ty := by
  obtain ⟨c, k, comp, h1, h2, h3⟩ := Cond.arrayClass_spec h
  exact ⟨c, fun n z => ⟨fun k h => (by cases h), k, h2, comp, h3⟩, hp _ _ h1⟩
theorem mk_K {s : State} {b : Nat} (hts : ∀ w ∈ TB, w.before #[Value.ref b] s = true) (hI : (Cond.arrayClass .int).before #[Value.ref b] s = true) (hZ : (Cond.arrayClass .boolean).before #[Value.ref b] s = true) (hJ : (Cond.arrayClass .long).before #[Value.ref b] s = true) : ∃ (D : va_G) (cI cZ cJ : ClassId), va_K D clN (tyN cI cZ cJ) s := by
  obtain ⟨cI, i1, i2⟩ := mk_A (ty := .int) (fun _ _ h => h) hI
  obtain ⟨cZ, z1, z2⟩ := mk_A (ty := .boolean) (fun _ _ h => h) hZ
  obtain ⟨cJ, j1, j2⟩ := mk_A (ty := .long) (fun _ _ h => h) hJ
  obtain ⟨c0, f0, k0⟩ := u_known (n := 2) hts fN_Jobs (hts _ mw_90)
  obtain ⟨c1, f1, k1⟩ := u_known (n := 7) hts fN_Kept (hts _ mw_250)
  obtain ⟨c2, f2, k2⟩ := u_known (n := 7) hts fN_Marks (hts _ mw_157)
  obtain ⟨c3, f3, k3⟩ := u_known (n := 1) hts fN_Packed (hts _ mw_256)
  obtain ⟨c4, f4, k4⟩ := u_known (n := 6) hts fN_Program (hts _ mw_31)
  obtain ⟨c5, f5, k5⟩ := u_known (n := 4) hts fN_Row (hts _ mw_104)
  obtain ⟨c6, f6, k6⟩ := u_known (n := 8) hts fN_States (hts _ mw_244)
  obtain ⟨c7, f7, k7⟩ := u_known (n := 2) hts fN_Subject (hts _ mw_57)
  obtain ⟨c8, f8, k8⟩ := u_known (n := 15) hts fN_Table (hts _ mw_188)
  obtain ⟨c9, f9, k9⟩ := u_known (n := 2) hts fN_Tally (hts _ mw_70)
  obtain ⟨c10, f10, k10⟩ := u_known (n := 11) hts fN_Threads (hts _ mw_84)
  obtain ⟨c11, f11, k11⟩ := u_known (n := 8) hts fN_Mach (hts _ mw_23)
  obtain ⟨c12, f12, k12⟩ := u_known (n := 25) hts fN_Mod (hts _ mw_966)
  refine ⟨(fun k => match k with | 0 => c0 | 1 => c1 | 2 => c2 | 3 => c3 | 4 => c4 | 5 => c5 | 6 => c6 | 7 => c7 | 8 => c8 | 9 => c9 | 10 => c10 | 11 => c11 | 12 => c12 | _ => 0, fun k => match k with | 0 => f0 | 1 => f1 | 2 => f2 | 3 => f3 | 4 => f4 | 5 => f5 | 6 => f6 | 7 => f7 | 8 => f8 | 9 => f9 | 10 => f10 | 11 => f11 | 12 => f12 | _ => fun _ => 0), cI, cZ, cJ, fun c q hq => ?_, fun k q hq => ?_⟩
  · match c, hq with
    | 0, hq => cases hq; exact k0
    | 1, hq => cases hq; exact k1
    | 2, hq => cases hq; exact k2
    | 3, hq => cases hq; exact k3
    | 4, hq => cases hq; exact k4
    | 5, hq => cases hq; exact k5
    | 6, hq => cases hq; exact k6
    | 7, hq => cases hq; exact k7
    | 8, hq => cases hq; exact k8
    | 9, hq => cases hq; exact k9
    | 10, hq => cases hq; exact k10
    | 11, hq => cases hq; exact k11
    | 12, hq => cases hq; exact k12
    | c + 13, hq => cases hq
  · match k, hq with
    | 0, hq => cases hq; exact ⟨i1, i2⟩
    | 1, hq => cases hq; exact ⟨z1, z2⟩
    | 2, hq => cases hq; exact ⟨j1, j2⟩
    | k + 3, hq => cases hq
