set_option maxHeartbeats 4000000 in
set_option maxRecDepth 100000 in
/-- new Tally -/
theorem kTally_init (l : Launch) (D : va_G) (cI cZ cJ : ClassId) (ta : Nat)  : vx_Mv l yN_Tally_init wN_Tally_init ({ frames := 1, cells := 0, slots := 0, locals := 20 }) D clN (tyN cI cZ cJ) [.ref ta] [(ta, .inr (9, [.int (nI 0), .int (nI 0)]))] (fun w => w = [(ta, .inr (9, [.int (nI 0), .int (nI 0)]))]) := by
  refine vx_startV (cc := cN_Tally_init) (maxL := 1) (ret := none) (by decide) rfl (Nat.le_of_ble_eq_true rfl) ?_
  intro p_0 e_0 s m below meth c_0 A ls C hK hP hD hS hA hl
  obtain ⟨hx, hb, hr, hml, hown, hts, hlocks, hnm⟩ := id C
  have hown : s.vm.findClass "StepMachines$Tally" = some m.cls := hown
  have ht : ∀ w ∈ TB, w.before _ s = true := fun w h => hts w (List.mem_cons_of_mem _ h)
  have hl : lv_has ls 1 [(0, .ref ta)] := hl
  refine lv_aload_n hx hb dN_Tally_init_0 rfl (lv_at hl 0 rfl) ?_
  refine W.objInit hx hb hown (ht _ mw_74) (ht _ mw_28) (ht _ mw_29) rfl (by rw [hml]; exact hl.1) rfl dN_Tally_init_1 (Nat.le_of_ble_eq_true rfl) (Nat.le_of_ble_eq_true rfl) ?_
  refine W.eq (g2 := F0 m 4 ls []) rfl ?_
  refine lv_aload_n hx hb dN_Tally_init_4 rfl (lv_at hl 0 rfl) ?_
  refine lv_iconst (v := (nI 0)) hx hb dN_Tally_init_5 (by decide) ?_
  refine va_put (D := D) (ci := 9) (v := .int (nI 0)) (ty := .int) (C := RN_Tally) (T := FN_Tally) (N := 2) hx hb ht fN_Tally tN_Tally oN_Tally nN_Tally hown hK hP hD hS 0 rfl rfl 0 (by decide) (ht _ mw_75) (fun _ h9 => h9) rfl (by decide +kernel) (rfl) (rfl) (Nat.le_of_ble_eq_true rfl) dN_Tally_init_6 (fun H locs hP hD hS => ?_)
  have hP : va_P D clN [(ta, .inr (9, [.int (nI 0), .int (nI 0)]))] H := hP
  have hD : va_D A [(ta, .inr (9, [.int (nI 0), .int (nI 0)]))] := hD
  refine lv_aload_n hx hb dN_Tally_init_9 rfl (lv_at hl 0 rfl) ?_
  refine lv_iconst (v := (nI 0)) hx hb dN_Tally_init_10 (by decide) ?_
  refine va_put (D := D) (ci := 9) (v := .int (nI 0)) (ty := .int) (C := RN_Tally) (T := FN_Tally) (N := 2) hx hb ht fN_Tally tN_Tally oN_Tally nN_Tally hown hK hP hD hS 0 rfl rfl 1 (by decide) (ht _ mw_76) (fun _ h9 => h9) rfl (by decide +kernel) (rfl) (rfl) (Nat.le_of_ble_eq_true rfl) dN_Tally_init_11 (fun H locs hP hD hS => ?_)
  have hP : va_P D clN [(ta, .inr (9, [.int (nI 0), .int (nI 0)]))] H := hP
  have hD : va_D A [(ta, .inr (9, [.int (nI 0), .int (nI 0)]))] := hD
  exact vx_vret C hK hP hD hS dN_Tally_init_14 (Nat.le_of_ble_eq_true rfl) (Nat.le_of_ble_eq_true rfl) (rfl)
set_option maxHeartbeats 4000000 in
set_option maxRecDepth 100000 in
/-- new Program -/
theorem kProgram_init (l : Launch) (D : va_G) (cI cZ cJ : ClassId) (pr : Nat)  : vx_Mv l yN_Program_init wN_Program_init ({ frames := 1, cells := 4, slots := 800, locals := 20 }) D clN (tyN cI cZ cJ) [.ref pr] [(pr, .inr (4, [.null, .null, .null, .null, .int (nI 0), .int (nI 0)]))] (fun w => ∃ pK pV pF pS : Nat, w = [(pr, .inr (4, [.ref pK, .ref pV, .ref pF, .ref pS, .int (nI 1), .int (nI 0)])), (pK, .inl (cI, 200, .inl (ni (fun _ => 0)))), (pV, .inl (cI, 200, .inl (ni (fun _ => 0)))), (pF, .inl (cI, 200, .inl (ni (fun _ => 0)))), (pS, .inl (cI, 200, .inl (ni (fun _ => 0))))]) := by
  refine vx_startV (cc := cN_Program_init) (maxL := 1) (ret := none) (by decide) rfl (Nat.le_of_ble_eq_true rfl) ?_
  intro p_0 e_0 s m below meth c_0 A ls C hK hP hD hS hA hl
  obtain ⟨hx, hb, hr, hml, hown, hts, hlocks, hnm⟩ := id C
  have hown : s.vm.findClass "StepMachines$Program" = some m.cls := hown
  have ht : ∀ w ∈ TB, w.before _ s = true := fun w h => hts w (List.mem_cons_of_mem _ h)
  have hl : lv_has ls 1 [(0, .ref pr)] := hl
  refine lv_aload_n hx hb dN_Program_init_0 rfl (lv_at hl 0 rfl) ?_
  refine W.objInit hx hb hown (ht _ mw_35) (ht _ mw_28) (ht _ mw_29) rfl (by rw [hml]; exact hl.1) rfl dN_Program_init_1 (Nat.le_of_ble_eq_true rfl) (Nat.le_of_ble_eq_true rfl) ?_
  refine W.eq (g2 := F0 m 4 ls []) rfl ?_
  refine lv_aload_n hx hb dN_Program_init_4 rfl (lv_at hl 0 rfl) ?_
  refine lv_sipush (v := (nI 200)) hx hb dN_Program_init_5 (by decide) ?_
  refine xi_new hx hb (ht _ mw_55) hK hP hD hS hA 0 rfl dN_Program_init_8 (by omega) (Nat.le_of_ble_eq_true rfl) (Nat.le_of_ble_eq_true rfl) (fun pK H hP hD hS => ?_)
  have hP : va_P D clN [(pr, .inr (4, [.null, .null, .null, .null, .int (nI 0), .int (nI 0)])), (pK, .inl (cI, 200, .inl ((fun _ => 0))))] H := hP
  have hD : va_D A [(pr, .inr (4, [.null, .null, .null, .null, .int (nI 0), .int (nI 0)])), (pK, .inl (cI, 200, .inl ((fun _ => 0))))] := hD
  refine va_putF (D := D) (ci := 4) (v := .ref pK) (ty := .array .int) (C := RN_Program) (T := FN_Program) (N := 6) hx hb ht fN_Program tN_Program oN_Program nN_Program hown hK hP hD hS 0 rfl rfl 0 (by decide) (ht _ mw_36) (fun _ h9 => h9) rfl hnm rfl (by decide +kernel) (rfl) (rfl) (Nat.le_of_ble_eq_true rfl) dN_Program_init_10 (fun H locs hP hD hS => ?_)
  have hP : va_P D clN [(pr, .inr (4, [.ref pK, .null, .null, .null, .int (nI 0), .int (nI 0)])), (pK, .inl (cI, 200, .inl ((fun _ => 0))))] H := hP
  have hD : va_D A [(pr, .inr (4, [.ref pK, .null, .null, .null, .int (nI 0), .int (nI 0)])), (pK, .inl (cI, 200, .inl ((fun _ => 0))))] := hD
  refine lv_aload_n hx hb dN_Program_init_13 rfl (lv_at hl 0 rfl) ?_
  refine lv_sipush (v := (nI 200)) hx hb dN_Program_init_14 (by decide) ?_
  refine xi_new hx hb (ht _ mw_55) hK hP hD hS hA 0 rfl dN_Program_init_17 (by omega) (Nat.le_of_ble_eq_true rfl) (Nat.le_of_ble_eq_true rfl) (fun pV H hP hD hS => ?_)
  have hP : va_P D clN [(pr, .inr (4, [.ref pK, .null, .null, .null, .int (nI 0), .int (nI 0)])), (pK, .inl (cI, 200, .inl ((fun _ => 0)))), (pV, .inl (cI, 200, .inl ((fun _ => 0))))] H := hP
  have hD : va_D A [(pr, .inr (4, [.ref pK, .null, .null, .null, .int (nI 0), .int (nI 0)])), (pK, .inl (cI, 200, .inl ((fun _ => 0)))), (pV, .inl (cI, 200, .inl ((fun _ => 0))))] := hD
  refine va_putF (D := D) (ci := 4) (v := .ref pV) (ty := .array .int) (C := RN_Program) (T := FN_Program) (N := 6) hx hb ht fN_Program tN_Program oN_Program nN_Program hown hK hP hD hS 0 rfl rfl 1 (by decide) (ht _ mw_37) (fun _ h9 => h9) rfl hnm rfl (by decide +kernel) (rfl) (rfl) (Nat.le_of_ble_eq_true rfl) dN_Program_init_19 (fun H locs hP hD hS => ?_)
  have hP : va_P D clN [(pr, .inr (4, [.ref pK, .ref pV, .null, .null, .int (nI 0), .int (nI 0)])), (pK, .inl (cI, 200, .inl ((fun _ => 0)))), (pV, .inl (cI, 200, .inl ((fun _ => 0))))] H := hP
  have hD : va_D A [(pr, .inr (4, [.ref pK, .ref pV, .null, .null, .int (nI 0), .int (nI 0)])), (pK, .inl (cI, 200, .inl ((fun _ => 0)))), (pV, .inl (cI, 200, .inl ((fun _ => 0))))] := hD
  refine lv_aload_n hx hb dN_Program_init_22 rfl (lv_at hl 0 rfl) ?_
  refine lv_sipush (v := (nI 200)) hx hb dN_Program_init_23 (by decide) ?_
  refine xi_new hx hb (ht _ mw_55) hK hP hD hS hA 0 rfl dN_Program_init_26 (by omega) (Nat.le_of_ble_eq_true rfl) (Nat.le_of_ble_eq_true rfl) (fun pF H hP hD hS => ?_)
  have hP : va_P D clN [(pr, .inr (4, [.ref pK, .ref pV, .null, .null, .int (nI 0), .int (nI 0)])), (pK, .inl (cI, 200, .inl ((fun _ => 0)))), (pV, .inl (cI, 200, .inl ((fun _ => 0)))), (pF, .inl (cI, 200, .inl ((fun _ => 0))))] H := hP
  have hD : va_D A [(pr, .inr (4, [.ref pK, .ref pV, .null, .null, .int (nI 0), .int (nI 0)])), (pK, .inl (cI, 200, .inl ((fun _ => 0)))), (pV, .inl (cI, 200, .inl ((fun _ => 0)))), (pF, .inl (cI, 200, .inl ((fun _ => 0))))] := hD
  refine va_putF (D := D) (ci := 4) (v := .ref pF) (ty := .array .int) (C := RN_Program) (T := FN_Program) (N := 6) hx hb ht fN_Program tN_Program oN_Program nN_Program hown hK hP hD hS 0 rfl rfl 2 (by decide) (ht _ mw_38) (fun _ h9 => h9) rfl hnm rfl (by decide +kernel) (rfl) (rfl) (Nat.le_of_ble_eq_true rfl) dN_Program_init_28 (fun H locs hP hD hS => ?_)
  have hP : va_P D clN [(pr, .inr (4, [.ref pK, .ref pV, .ref pF, .null, .int (nI 0), .int (nI 0)])), (pK, .inl (cI, 200, .inl ((fun _ => 0)))), (pV, .inl (cI, 200, .inl ((fun _ => 0)))), (pF, .inl (cI, 200, .inl ((fun _ => 0))))] H := hP
  have hD : va_D A [(pr, .inr (4, [.ref pK, .ref pV, .ref pF, .null, .int (nI 0), .int (nI 0)])), (pK, .inl (cI, 200, .inl ((fun _ => 0)))), (pV, .inl (cI, 200, .inl ((fun _ => 0)))), (pF, .inl (cI, 200, .inl ((fun _ => 0))))] := hD
  refine lv_aload_n hx hb dN_Program_init_31 rfl (lv_at hl 0 rfl) ?_
  refine lv_sipush (v := (nI 200)) hx hb dN_Program_init_32 (by decide) ?_
  refine xi_new hx hb (ht _ mw_55) hK hP hD hS hA 0 rfl dN_Program_init_35 (by omega) (Nat.le_of_ble_eq_true rfl) (Nat.le_of_ble_eq_true rfl) (fun pS H hP hD hS => ?_)
  have hP : va_P D clN [(pr, .inr (4, [.ref pK, .ref pV, .ref pF, .null, .int (nI 0), .int (nI 0)])), (pK, .inl (cI, 200, .inl ((fun _ => 0)))), (pV, .inl (cI, 200, .inl ((fun _ => 0)))), (pF, .inl (cI, 200, .inl ((fun _ => 0)))), (pS, .inl (cI, 200, .inl ((fun _ => 0))))] H := hP
  have hD : va_D A [(pr, .inr (4, [.ref pK, .ref pV, .ref pF, .null, .int (nI 0), .int (nI 0)])), (pK, .inl (cI, 200, .inl ((fun _ => 0)))), (pV, .inl (cI, 200, .inl ((fun _ => 0)))), (pF, .inl (cI, 200, .inl ((fun _ => 0)))), (pS, .inl (cI, 200, .inl ((fun _ => 0))))] := hD
  refine va_putF (D := D) (ci := 4) (v := .ref pS) (ty := .array .int) (C := RN_Program) (T := FN_Program) (N := 6) hx hb ht fN_Program tN_Program oN_Program nN_Program hown hK hP hD hS 0 rfl rfl 3 (by decide) (ht _ mw_39) (fun _ h9 => h9) rfl hnm rfl (by decide +kernel) (rfl) (rfl) (Nat.le_of_ble_eq_true rfl) dN_Program_init_37 (fun H locs hP hD hS => ?_)
  have hP : va_P D clN [(pr, .inr (4, [.ref pK, .ref pV, .ref pF, .ref pS, .int (nI 0), .int (nI 0)])), (pK, .inl (cI, 200, .inl ((fun _ => 0)))), (pV, .inl (cI, 200, .inl ((fun _ => 0)))), (pF, .inl (cI, 200, .inl ((fun _ => 0)))), (pS, .inl (cI, 200, .inl ((fun _ => 0))))] H := hP
  have hD : va_D A [(pr, .inr (4, [.ref pK, .ref pV, .ref pF, .ref pS, .int (nI 0), .int (nI 0)])), (pK, .inl (cI, 200, .inl ((fun _ => 0)))), (pV, .inl (cI, 200, .inl ((fun _ => 0)))), (pF, .inl (cI, 200, .inl ((fun _ => 0)))), (pS, .inl (cI, 200, .inl ((fun _ => 0))))] := hD
  refine lv_aload_n hx hb dN_Program_init_40 rfl (lv_at hl 0 rfl) ?_
  refine lv_iconst (v := (nI 1)) hx hb dN_Program_init_41 (by decide) ?_
  refine va_put (D := D) (ci := 4) (v := .int (nI 1)) (ty := .int) (C := RN_Program) (T := FN_Program) (N := 6) hx hb ht fN_Program tN_Program oN_Program nN_Program hown hK hP hD hS 0 rfl rfl 4 (by decide) (ht _ mw_40) (fun _ h9 => h9) rfl (by decide +kernel) (rfl) (rfl) (Nat.le_of_ble_eq_true rfl) dN_Program_init_42 (fun H locs hP hD hS => ?_)
  have hP : va_P D clN [(pr, .inr (4, [.ref pK, .ref pV, .ref pF, .ref pS, .int (nI 1), .int (nI 0)])), (pK, .inl (cI, 200, .inl ((fun _ => 0)))), (pV, .inl (cI, 200, .inl ((fun _ => 0)))), (pF, .inl (cI, 200, .inl ((fun _ => 0)))), (pS, .inl (cI, 200, .inl ((fun _ => 0))))] H := hP
  have hD : va_D A [(pr, .inr (4, [.ref pK, .ref pV, .ref pF, .ref pS, .int (nI 1), .int (nI 0)])), (pK, .inl (cI, 200, .inl ((fun _ => 0)))), (pV, .inl (cI, 200, .inl ((fun _ => 0)))), (pF, .inl (cI, 200, .inl ((fun _ => 0)))), (pS, .inl (cI, 200, .inl ((fun _ => 0))))] := hD
  refine lv_aload_n hx hb dN_Program_init_45 rfl (lv_at hl 0 rfl) ?_
  refine lv_iconst (v := (nI 0)) hx hb dN_Program_init_46 (by decide) ?_
  refine va_put (D := D) (ci := 4) (v := .int (nI 0)) (ty := .int) (C := RN_Program) (T := FN_Program) (N := 6) hx hb ht fN_Program tN_Program oN_Program nN_Program hown hK hP hD hS 0 rfl rfl 5 (by decide) (ht _ mw_41) (fun _ h9 => h9) rfl (by decide +kernel) (rfl) (rfl) (Nat.le_of_ble_eq_true rfl) dN_Program_init_47 (fun H locs hP hD hS => ?_)
  have hP : va_P D clN [(pr, .inr (4, [.ref pK, .ref pV, .ref pF, .ref pS, .int (nI 1), .int (nI 0)])), (pK, .inl (cI, 200, .inl ((fun _ => 0)))), (pV, .inl (cI, 200, .inl ((fun _ => 0)))), (pF, .inl (cI, 200, .inl ((fun _ => 0)))), (pS, .inl (cI, 200, .inl ((fun _ => 0))))] H := hP
  have hD : va_D A [(pr, .inr (4, [.ref pK, .ref pV, .ref pF, .ref pS, .int (nI 1), .int (nI 0)])), (pK, .inl (cI, 200, .inl ((fun _ => 0)))), (pV, .inl (cI, 200, .inl ((fun _ => 0)))), (pF, .inl (cI, 200, .inl ((fun _ => 0)))), (pS, .inl (cI, 200, .inl ((fun _ => 0))))] := hD
  exact vx_vret C hK hP hD hS dN_Program_init_50 (Nat.le_of_ble_eq_true rfl) (Nat.le_of_ble_eq_true rfl) (⟨pK, pV, pF, pS, rfl⟩)
set_option maxHeartbeats 4000000 in
set_option maxRecDepth 100000 in
/-- new Subject -/
theorem kSubject_init (l : Launch) (D : va_G) (cI cZ cJ : ClassId) (su : Nat)  : vx_Mv l yN_Subject_init wN_Subject_init ({ frames := 1, cells := 1, slots := 200, locals := 20 }) D clN (tyN cI cZ cJ) [.ref su] [(su, .inr (7, [.null, .int (nI 0)]))] (fun w => ∃ sb : Nat, w = [(su, .inr (7, [.ref sb, .int (nI 0)])), (sb, .inl (cI, 200, .inl (ni (fun _ => 0))))]) := by
  refine vx_startV (cc := cN_Subject_init) (maxL := 1) (ret := none) (by decide) rfl (Nat.le_of_ble_eq_true rfl) ?_
  intro p_0 e_0 s m below meth c_0 A ls C hK hP hD hS hA hl
  obtain ⟨hx, hb, hr, hml, hown, hts, hlocks, hnm⟩ := id C
  have hown : s.vm.findClass "StepMachines$Subject" = some m.cls := hown
  have ht : ∀ w ∈ TB, w.before _ s = true := fun w h => hts w (List.mem_cons_of_mem _ h)
  have hl : lv_has ls 1 [(0, .ref su)] := hl
  refine lv_aload_n hx hb dN_Subject_init_0 rfl (lv_at hl 0 rfl) ?_
  refine W.objInit hx hb hown (ht _ mw_61) (ht _ mw_28) (ht _ mw_29) rfl (by rw [hml]; exact hl.1) rfl dN_Subject_init_1 (Nat.le_of_ble_eq_true rfl) (Nat.le_of_ble_eq_true rfl) ?_
  refine W.eq (g2 := F0 m 4 ls []) rfl ?_
  refine lv_aload_n hx hb dN_Subject_init_4 rfl (lv_at hl 0 rfl) ?_
  refine lv_sipush (v := (nI 200)) hx hb dN_Subject_init_5 (by decide) ?_
  refine xi_new hx hb (ht _ mw_55) hK hP hD hS hA 0 rfl dN_Subject_init_8 (by omega) (Nat.le_of_ble_eq_true rfl) (Nat.le_of_ble_eq_true rfl) (fun sb H hP hD hS => ?_)
  have hP : va_P D clN [(su, .inr (7, [.null, .int (nI 0)])), (sb, .inl (cI, 200, .inl ((fun _ => 0))))] H := hP
  have hD : va_D A [(su, .inr (7, [.null, .int (nI 0)])), (sb, .inl (cI, 200, .inl ((fun _ => 0))))] := hD
  refine va_putF (D := D) (ci := 7) (v := .ref sb) (ty := .array .int) (C := RN_Subject) (T := FN_Subject) (N := 2) hx hb ht fN_Subject tN_Subject oN_Subject nN_Subject hown hK hP hD hS 0 rfl rfl 0 (by decide) (ht _ mw_62) (fun _ h9 => h9) rfl hnm rfl (by decide +kernel) (rfl) (rfl) (Nat.le_of_ble_eq_true rfl) dN_Subject_init_10 (fun H locs hP hD hS => ?_)
  have hP : va_P D clN [(su, .inr (7, [.ref sb, .int (nI 0)])), (sb, .inl (cI, 200, .inl ((fun _ => 0))))] H := hP
  have hD : va_D A [(su, .inr (7, [.ref sb, .int (nI 0)])), (sb, .inl (cI, 200, .inl ((fun _ => 0))))] := hD
  refine lv_aload_n hx hb dN_Subject_init_13 rfl (lv_at hl 0 rfl) ?_
  refine lv_iconst (v := (nI 0)) hx hb dN_Subject_init_14 (by decide) ?_
  refine va_put (D := D) (ci := 7) (v := .int (nI 0)) (ty := .int) (C := RN_Subject) (T := FN_Subject) (N := 2) hx hb ht fN_Subject tN_Subject oN_Subject nN_Subject hown hK hP hD hS 0 rfl rfl 1 (by decide) (ht _ mw_63) (fun _ h9 => h9) rfl (by decide +kernel) (rfl) (rfl) (Nat.le_of_ble_eq_true rfl) dN_Subject_init_15 (fun H locs hP hD hS => ?_)
  have hP : va_P D clN [(su, .inr (7, [.ref sb, .int (nI 0)])), (sb, .inl (cI, 200, .inl ((fun _ => 0))))] H := hP
  have hD : va_D A [(su, .inr (7, [.ref sb, .int (nI 0)])), (sb, .inl (cI, 200, .inl ((fun _ => 0))))] := hD
  exact vx_vret C hK hP hD hS dN_Subject_init_18 (Nat.le_of_ble_eq_true rfl) (Nat.le_of_ble_eq_true rfl) (⟨sb, rfl⟩)
set_option maxHeartbeats 4000000 in
set_option maxRecDepth 100000 in
/-- new Row -/
theorem kRow_init (l : Launch) (D : va_G) (cI cZ cJ : ClassId) (r : Nat)  : vx_Mv l yN_Row_init wN_Row_init ({ frames := 1, cells := 2, slots := 400, locals := 20 }) D clN (tyN cI cZ cJ) [.ref r] [(r, .inr (5, [.null, .null, .int (nI 0), .int (nI 0)]))] (fun w => ∃ rs rm : Nat, w = [(r, .inr (5, [.ref rs, .ref rm, .int (nI 0), .int (nI 1)])), (rs, .inl (cI, 200, .inl (ni (fun _ => 0)))), (rm, .inl (cI, 200, .inl (ni (fun _ => 0))))]) := by
  refine vx_startV (cc := cN_Row_init) (maxL := 1) (ret := none) (by decide) rfl (Nat.le_of_ble_eq_true rfl) ?_
  intro p_0 e_0 s m below meth c_0 A ls C hK hP hD hS hA hl
  obtain ⟨hx, hb, hr, hml, hown, hts, hlocks, hnm⟩ := id C
  have hown : s.vm.findClass "StepMachines$Row" = some m.cls := hown
  have ht : ∀ w ∈ TB, w.before _ s = true := fun w h => hts w (List.mem_cons_of_mem _ h)
  have hl : lv_has ls 1 [(0, .ref r)] := hl
  refine lv_aload_n hx hb dN_Row_init_0 rfl (lv_at hl 0 rfl) ?_
  refine W.objInit hx hb hown (ht _ mw_108) (ht _ mw_28) (ht _ mw_29) rfl (by rw [hml]; exact hl.1) rfl dN_Row_init_1 (Nat.le_of_ble_eq_true rfl) (Nat.le_of_ble_eq_true rfl) ?_
  refine W.eq (g2 := F0 m 4 ls []) rfl ?_
  refine lv_aload_n hx hb dN_Row_init_4 rfl (lv_at hl 0 rfl) ?_
  refine lv_sipush (v := (nI 200)) hx hb dN_Row_init_5 (by decide) ?_
  refine xi_new hx hb (ht _ mw_55) hK hP hD hS hA 0 rfl dN_Row_init_8 (by omega) (Nat.le_of_ble_eq_true rfl) (Nat.le_of_ble_eq_true rfl) (fun rs H hP hD hS => ?_)
  have hP : va_P D clN [(r, .inr (5, [.null, .null, .int (nI 0), .int (nI 0)])), (rs, .inl (cI, 200, .inl ((fun _ => 0))))] H := hP
  have hD : va_D A [(r, .inr (5, [.null, .null, .int (nI 0), .int (nI 0)])), (rs, .inl (cI, 200, .inl ((fun _ => 0))))] := hD
  refine va_putF (D := D) (ci := 5) (v := .ref rs) (ty := .array .int) (C := RN_Row) (T := FN_Row) (N := 4) hx hb ht fN_Row tN_Row oN_Row nN_Row hown hK hP hD hS 0 rfl rfl 0 (by decide) (ht _ mw_109) (fun _ h9 => h9) rfl hnm rfl (by decide +kernel) (rfl) (rfl) (Nat.le_of_ble_eq_true rfl) dN_Row_init_10 (fun H locs hP hD hS => ?_)
  have hP : va_P D clN [(r, .inr (5, [.ref rs, .null, .int (nI 0), .int (nI 0)])), (rs, .inl (cI, 200, .inl ((fun _ => 0))))] H := hP
  have hD : va_D A [(r, .inr (5, [.ref rs, .null, .int (nI 0), .int (nI 0)])), (rs, .inl (cI, 200, .inl ((fun _ => 0))))] := hD
  refine lv_aload_n hx hb dN_Row_init_13 rfl (lv_at hl 0 rfl) ?_
  refine lv_sipush (v := (nI 200)) hx hb dN_Row_init_14 (by decide) ?_
  refine xi_new hx hb (ht _ mw_55) hK hP hD hS hA 0 rfl dN_Row_init_17 (by omega) (Nat.le_of_ble_eq_true rfl) (Nat.le_of_ble_eq_true rfl) (fun rm H hP hD hS => ?_)
  have hP : va_P D clN [(r, .inr (5, [.ref rs, .null, .int (nI 0), .int (nI 0)])), (rs, .inl (cI, 200, .inl ((fun _ => 0)))), (rm, .inl (cI, 200, .inl ((fun _ => 0))))] H := hP
  have hD : va_D A [(r, .inr (5, [.ref rs, .null, .int (nI 0), .int (nI 0)])), (rs, .inl (cI, 200, .inl ((fun _ => 0)))), (rm, .inl (cI, 200, .inl ((fun _ => 0))))] := hD
  refine va_putF (D := D) (ci := 5) (v := .ref rm) (ty := .array .int) (C := RN_Row) (T := FN_Row) (N := 4) hx hb ht fN_Row tN_Row oN_Row nN_Row hown hK hP hD hS 0 rfl rfl 1 (by decide) (ht _ mw_110) (fun _ h9 => h9) rfl hnm rfl (by decide +kernel) (rfl) (rfl) (Nat.le_of_ble_eq_true rfl) dN_Row_init_19 (fun H locs hP hD hS => ?_)
  have hP : va_P D clN [(r, .inr (5, [.ref rs, .ref rm, .int (nI 0), .int (nI 0)])), (rs, .inl (cI, 200, .inl ((fun _ => 0)))), (rm, .inl (cI, 200, .inl ((fun _ => 0))))] H := hP
  have hD : va_D A [(r, .inr (5, [.ref rs, .ref rm, .int (nI 0), .int (nI 0)])), (rs, .inl (cI, 200, .inl ((fun _ => 0)))), (rm, .inl (cI, 200, .inl ((fun _ => 0))))] := hD
  refine lv_aload_n hx hb dN_Row_init_22 rfl (lv_at hl 0 rfl) ?_
  refine lv_iconst (v := (nI 0)) hx hb dN_Row_init_23 (by decide) ?_
  refine va_put (D := D) (ci := 5) (v := .int (nI 0)) (ty := .int) (C := RN_Row) (T := FN_Row) (N := 4) hx hb ht fN_Row tN_Row oN_Row nN_Row hown hK hP hD hS 0 rfl rfl 2 (by decide) (ht _ mw_111) (fun _ h9 => h9) rfl (by decide +kernel) (rfl) (rfl) (Nat.le_of_ble_eq_true rfl) dN_Row_init_24 (fun H locs hP hD hS => ?_)
  have hP : va_P D clN [(r, .inr (5, [.ref rs, .ref rm, .int (nI 0), .int (nI 0)])), (rs, .inl (cI, 200, .inl ((fun _ => 0)))), (rm, .inl (cI, 200, .inl ((fun _ => 0))))] H := hP
  have hD : va_D A [(r, .inr (5, [.ref rs, .ref rm, .int (nI 0), .int (nI 0)])), (rs, .inl (cI, 200, .inl ((fun _ => 0)))), (rm, .inl (cI, 200, .inl ((fun _ => 0))))] := hD
  refine lv_aload_n hx hb dN_Row_init_27 rfl (lv_at hl 0 rfl) ?_
  refine lv_iconst (v := (nI 1)) hx hb dN_Row_init_28 (by decide) ?_
  refine va_put (D := D) (ci := 5) (v := .int (nI 1)) (ty := .int) (C := RN_Row) (T := FN_Row) (N := 4) hx hb ht fN_Row tN_Row oN_Row nN_Row hown hK hP hD hS 0 rfl rfl 3 (by decide) (ht _ mw_112) (fun _ h9 => h9) rfl (by decide +kernel) (rfl) (rfl) (Nat.le_of_ble_eq_true rfl) dN_Row_init_29 (fun H locs hP hD hS => ?_)
  have hP : va_P D clN [(r, .inr (5, [.ref rs, .ref rm, .int (nI 0), .int (nI 1)])), (rs, .inl (cI, 200, .inl ((fun _ => 0)))), (rm, .inl (cI, 200, .inl ((fun _ => 0))))] H := hP
  have hD : va_D A [(r, .inr (5, [.ref rs, .ref rm, .int (nI 0), .int (nI 1)])), (rs, .inl (cI, 200, .inl ((fun _ => 0)))), (rm, .inl (cI, 200, .inl ((fun _ => 0))))] := hD
  exact vx_vret C hK hP hD hS dN_Row_init_32 (Nat.le_of_ble_eq_true rfl) (Nat.le_of_ble_eq_true rfl) (⟨rs, rm, rfl⟩)
set_option maxHeartbeats 4000000 in
set_option maxRecDepth 100000 in
/-- new Jobs(402) -/
theorem kJobs_init402 (l : Launch) (D : va_G) (cI cZ cJ : ClassId) (jo : Nat)  : vx_Mv l yN_Jobs_init wN_Jobs_init ({ frames := 1, cells := 1, slots := 101, locals := 20 }) D clN (tyN cI cZ cJ) [.ref jo, .int (nI 402)] [(jo, .inr (0, [.null, .int (nI 0)]))] (fun w => ∃ jf : Nat, w = [(jo, .inr (0, [.ref jf, .int (nI 0)])), (jf, .inl (cJ, 101, .inr (.inl ((pkJ (fun _ => 0))))))]) := by
  refine vx_startV (cc := cN_Jobs_init) (maxL := 2) (ret := none) (by decide) rfl (Nat.le_of_ble_eq_true rfl) ?_
  intro p_0 e_0 s m below meth c_0 A ls C hK hP hD hS hA hl
  obtain ⟨hx, hb, hr, hml, hown, hts, hlocks, hnm⟩ := id C
  have hown : s.vm.findClass "StepMachines$Jobs" = some m.cls := hown
  have ht : ∀ w ∈ TB, w.before _ s = true := fun w h => hts w (List.mem_cons_of_mem _ h)
  have hl : lv_has ls 2 [(0, .ref jo), (1, .int (nI 402))] := hl
  refine lv_aload_n hx hb dN_Jobs_init_0 rfl (lv_at hl 0 rfl) ?_
  refine W.objInit hx hb hown (ht _ mw_94) (ht _ mw_28) (ht _ mw_29) rfl (by rw [hml]; exact hl.1) rfl dN_Jobs_init_1 (Nat.le_of_ble_eq_true rfl) (Nat.le_of_ble_eq_true rfl) ?_
  refine W.eq (g2 := F0 m 4 ls []) rfl ?_
  refine lv_aload_n hx hb dN_Jobs_init_4 rfl (lv_at hl 0 rfl) ?_
  refine lv_iconst (v := (nI 0)) hx hb dN_Jobs_init_5 (by decide) ?_
  refine va_put (D := D) (ci := 0) (v := .int (nI 0)) (ty := .int) (C := RN_Jobs) (T := FN_Jobs) (N := 2) hx hb ht fN_Jobs tN_Jobs oN_Jobs nN_Jobs hown hK hP hD hS 0 rfl rfl 1 (by decide) (ht _ mw_96) (fun _ h9 => h9) rfl (by decide +kernel) (rfl) (rfl) (Nat.le_of_ble_eq_true rfl) dN_Jobs_init_6 (fun H locs hP hD hS => ?_)
  have hP : va_P D clN [(jo, .inr (0, [.null, .int (nI 0)]))] H := hP
  have hD : va_D A [(jo, .inr (0, [.null, .int (nI 0)]))] := hD
  refine lv_aload_n hx hb dN_Jobs_init_9 rfl (lv_at hl 0 rfl) ?_
  refine lv_iload_n hx hb dN_Jobs_init_10 rfl (lv_at hl 1 rfl) ?_
  refine xn_ge0 (tgt := 18) hx hb dN_Jobs_init_11 (by decide) (by omega) ?_
  refine lv_iload_n hx hb dN_Jobs_init_18 rfl (lv_at hl 1 rfl) ?_
  refine lv_iconst (v := (nI 4)) hx hb dN_Jobs_init_19 (by decide) ?_
  refine xn_div hx hb dN_Jobs_init_20 (by omega) (by omega) (by omega) ?_
  refine lv_iconst (v := (nI 1)) hx hb dN_Jobs_init_21 (by decide) ?_
  refine xn_add hx hb dN_Jobs_init_22 ?_
  refine xn_top (y := (nI 101)) rfl ?_
  refine xl_new hx hb (ht _ mw_102) hK hP hD hS hA 2 rfl dN_Jobs_init_23 (by omega) (Nat.le_of_ble_eq_true rfl) (Nat.le_of_ble_eq_true rfl) (fun jf H hP hD hS => ?_)
  have hP : va_P D clN [(jo, .inr (0, [.null, .int (nI 0)])), (jf, .inl (cJ, 101, .inr (.inl ((fun _ => 0)))))] H := hP
  have hD : va_D A [(jo, .inr (0, [.null, .int (nI 0)])), (jf, .inl (cJ, 101, .inr (.inl ((fun _ => 0)))))] := hD
  have hP : va_P D clN [(jo, .inr (0, [.null, .int (nI 0)])), (jf, .inl (cJ, 101, .inr (.inl ((pkJ (fun _ => 0))))))] _ := xP_fnL (q := 1) (g := pkJ (fun _ => 0)) hP rfl ((pkW_0 16 4).symm)
  have hD : va_D A [(jo, .inr (0, [.null, .int (nI 0)])), (jf, .inl (cJ, 101, .inr (.inl ((pkJ (fun _ => 0))))))] := xD_fn (q := 1) hD rfl
  refine va_putF (D := D) (ci := 0) (v := .ref jf) (ty := .array .long) (C := RN_Jobs) (T := FN_Jobs) (N := 2) hx hb ht fN_Jobs tN_Jobs oN_Jobs nN_Jobs hown hK hP hD hS 0 rfl rfl 0 (by decide) (ht _ mw_95) (fun _ h9 => h9) rfl hnm rfl (by decide +kernel) (rfl) (rfl) (Nat.le_of_ble_eq_true rfl) dN_Jobs_init_25 (fun H locs hP hD hS => ?_)
  have hP : va_P D clN [(jo, .inr (0, [.ref jf, .int (nI 0)])), (jf, .inl (cJ, 101, .inr (.inl ((pkJ (fun _ => 0))))))] H := hP
  have hD : va_D A [(jo, .inr (0, [.ref jf, .int (nI 0)])), (jf, .inl (cJ, 101, .inr (.inl ((pkJ (fun _ => 0))))))] := hD
  exact vx_vret C hK hP hD hS dN_Jobs_init_28 (Nat.le_of_ble_eq_true rfl) (Nat.le_of_ble_eq_true rfl) (⟨jf, rfl⟩)
set_option maxHeartbeats 4000000 in
set_option maxRecDepth 100000 in
/-- new Jobs(40202) -/
theorem kJobs_init40202 (l : Launch) (D : va_G) (cI cZ cJ : ClassId) (jo : Nat)  : vx_Mv l yN_Jobs_init wN_Jobs_init ({ frames := 1, cells := 1, slots := 10051, locals := 20 }) D clN (tyN cI cZ cJ) [.ref jo, .int (nI 40202)] [(jo, .inr (0, [.null, .int (nI 0)]))] (fun w => ∃ jf : Nat, w = [(jo, .inr (0, [.ref jf, .int (nI 0)])), (jf, .inl (cJ, 10051, .inr (.inl ((pkJ (fun _ => 0))))))]) := by
  refine vx_startV (cc := cN_Jobs_init) (maxL := 2) (ret := none) (by decide) rfl (Nat.le_of_ble_eq_true rfl) ?_
  intro p_0 e_0 s m below meth c_0 A ls C hK hP hD hS hA hl
  obtain ⟨hx, hb, hr, hml, hown, hts, hlocks, hnm⟩ := id C
  have hown : s.vm.findClass "StepMachines$Jobs" = some m.cls := hown
  have ht : ∀ w ∈ TB, w.before _ s = true := fun w h => hts w (List.mem_cons_of_mem _ h)
  have hl : lv_has ls 2 [(0, .ref jo), (1, .int (nI 40202))] := hl
  refine lv_aload_n hx hb dN_Jobs_init_0 rfl (lv_at hl 0 rfl) ?_
  refine W.objInit hx hb hown (ht _ mw_94) (ht _ mw_28) (ht _ mw_29) rfl (by rw [hml]; exact hl.1) rfl dN_Jobs_init_1 (Nat.le_of_ble_eq_true rfl) (Nat.le_of_ble_eq_true rfl) ?_
  refine W.eq (g2 := F0 m 4 ls []) rfl ?_
  refine lv_aload_n hx hb dN_Jobs_init_4 rfl (lv_at hl 0 rfl) ?_
  refine lv_iconst (v := (nI 0)) hx hb dN_Jobs_init_5 (by decide) ?_
  refine va_put (D := D) (ci := 0) (v := .int (nI 0)) (ty := .int) (C := RN_Jobs) (T := FN_Jobs) (N := 2) hx hb ht fN_Jobs tN_Jobs oN_Jobs nN_Jobs hown hK hP hD hS 0 rfl rfl 1 (by decide) (ht _ mw_96) (fun _ h9 => h9) rfl (by decide +kernel) (rfl) (rfl) (Nat.le_of_ble_eq_true rfl) dN_Jobs_init_6 (fun H locs hP hD hS => ?_)
  have hP : va_P D clN [(jo, .inr (0, [.null, .int (nI 0)]))] H := hP
  have hD : va_D A [(jo, .inr (0, [.null, .int (nI 0)]))] := hD
  refine lv_aload_n hx hb dN_Jobs_init_9 rfl (lv_at hl 0 rfl) ?_
  refine lv_iload_n hx hb dN_Jobs_init_10 rfl (lv_at hl 1 rfl) ?_
  refine xn_ge0 (tgt := 18) hx hb dN_Jobs_init_11 (by decide) (by omega) ?_
  refine lv_iload_n hx hb dN_Jobs_init_18 rfl (lv_at hl 1 rfl) ?_
  refine lv_iconst (v := (nI 4)) hx hb dN_Jobs_init_19 (by decide) ?_
  refine xn_div hx hb dN_Jobs_init_20 (by omega) (by omega) (by omega) ?_
  refine lv_iconst (v := (nI 1)) hx hb dN_Jobs_init_21 (by decide) ?_
  refine xn_add hx hb dN_Jobs_init_22 ?_
  refine xn_top (y := (nI 10051)) rfl ?_
  refine xl_new hx hb (ht _ mw_102) hK hP hD hS hA 2 rfl dN_Jobs_init_23 (by omega) (Nat.le_of_ble_eq_true rfl) (Nat.le_of_ble_eq_true rfl) (fun jf H hP hD hS => ?_)
  have hP : va_P D clN [(jo, .inr (0, [.null, .int (nI 0)])), (jf, .inl (cJ, 10051, .inr (.inl ((fun _ => 0)))))] H := hP
  have hD : va_D A [(jo, .inr (0, [.null, .int (nI 0)])), (jf, .inl (cJ, 10051, .inr (.inl ((fun _ => 0)))))] := hD
  have hP : va_P D clN [(jo, .inr (0, [.null, .int (nI 0)])), (jf, .inl (cJ, 10051, .inr (.inl ((pkJ (fun _ => 0))))))] _ := xP_fnL (q := 1) (g := pkJ (fun _ => 0)) hP rfl ((pkW_0 16 4).symm)
  have hD : va_D A [(jo, .inr (0, [.null, .int (nI 0)])), (jf, .inl (cJ, 10051, .inr (.inl ((pkJ (fun _ => 0))))))] := xD_fn (q := 1) hD rfl
  refine va_putF (D := D) (ci := 0) (v := .ref jf) (ty := .array .long) (C := RN_Jobs) (T := FN_Jobs) (N := 2) hx hb ht fN_Jobs tN_Jobs oN_Jobs nN_Jobs hown hK hP hD hS 0 rfl rfl 0 (by decide) (ht _ mw_95) (fun _ h9 => h9) rfl hnm rfl (by decide +kernel) (rfl) (rfl) (Nat.le_of_ble_eq_true rfl) dN_Jobs_init_25 (fun H locs hP hD hS => ?_)
  have hP : va_P D clN [(jo, .inr (0, [.ref jf, .int (nI 0)])), (jf, .inl (cJ, 10051, .inr (.inl ((pkJ (fun _ => 0))))))] H := hP
  have hD : va_D A [(jo, .inr (0, [.ref jf, .int (nI 0)])), (jf, .inl (cJ, 10051, .inr (.inl ((pkJ (fun _ => 0))))))] := hD
  exact vx_vret C hK hP hD hS dN_Jobs_init_28 (Nat.le_of_ble_eq_true rfl) (Nat.le_of_ble_eq_true rfl) (⟨jf, rfl⟩)
set_option maxHeartbeats 4000000 in
set_option maxRecDepth 100000 in
/-- new Packed(12800) -/
theorem kPacked_init12800 (l : Launch) (D : va_G) (cI cZ cJ : ClassId) (pk : Nat)  : vx_Mv l yN_Packed_init wN_Packed_init ({ frames := 1, cells := 1, slots := 1601, locals := 20 }) D clN (tyN cI cZ cJ) [.ref pk, .int (nI 12800)] [(pk, .inr (3, [.null]))] (fun w => ∃ pe : Nat, w = [(pk, .inr (3, [.ref pe])), (pe, .inl (cJ, 1601, .inr (.inl ((pkB (fun _ => 0))))))]) := by
  refine vx_startV (cc := cN_Packed_init) (maxL := 2) (ret := none) (by decide) rfl (Nat.le_of_ble_eq_true rfl) ?_
  intro p_0 e_0 s m below meth c_0 A ls C hK hP hD hS hA hl
  obtain ⟨hx, hb, hr, hml, hown, hts, hlocks, hnm⟩ := id C
  have hown : s.vm.findClass "StepMachines$Packed" = some m.cls := hown
  have ht : ∀ w ∈ TB, w.before _ s = true := fun w h => hts w (List.mem_cons_of_mem _ h)
  have hl : lv_has ls 2 [(0, .ref pk), (1, .int (nI 12800))] := hl
  refine lv_aload_n hx hb dN_Packed_init_0 rfl (lv_at hl 0 rfl) ?_
  refine W.objInit hx hb hown (ht _ mw_260) (ht _ mw_28) (ht _ mw_29) rfl (by rw [hml]; exact hl.1) rfl dN_Packed_init_1 (Nat.le_of_ble_eq_true rfl) (Nat.le_of_ble_eq_true rfl) ?_
  refine W.eq (g2 := F0 m 4 ls []) rfl ?_
  refine lv_aload_n hx hb dN_Packed_init_4 rfl (lv_at hl 0 rfl) ?_
  refine lv_iload_n hx hb dN_Packed_init_5 rfl (lv_at hl 1 rfl) ?_
  refine xn_ge0 (tgt := 13) hx hb dN_Packed_init_6 (by decide) (by omega) ?_
  refine lv_iload_n hx hb dN_Packed_init_13 rfl (lv_at hl 1 rfl) ?_
  refine lv_bipush (v := (nI 8)) hx hb dN_Packed_init_14 (by decide) ?_
  refine xn_div hx hb dN_Packed_init_16 (by omega) (by omega) (by omega) ?_
  refine lv_iconst (v := (nI 1)) hx hb dN_Packed_init_17 (by decide) ?_
  refine xn_add hx hb dN_Packed_init_18 ?_
  refine xn_top (y := (nI 1601)) rfl ?_
  refine xl_new hx hb (ht _ mw_102) hK hP hD hS hA 2 rfl dN_Packed_init_19 (by omega) (Nat.le_of_ble_eq_true rfl) (Nat.le_of_ble_eq_true rfl) (fun pe H hP hD hS => ?_)
  have hP : va_P D clN [(pk, .inr (3, [.null])), (pe, .inl (cJ, 1601, .inr (.inl ((fun _ => 0)))))] H := hP
  have hD : va_D A [(pk, .inr (3, [.null])), (pe, .inl (cJ, 1601, .inr (.inl ((fun _ => 0)))))] := hD
  have hP : va_P D clN [(pk, .inr (3, [.null])), (pe, .inl (cJ, 1601, .inr (.inl ((pkB (fun _ => 0))))))] _ := xP_fnL (q := 1) (g := pkB (fun _ => 0)) hP rfl ((pkW_0 8 8).symm)
  have hD : va_D A [(pk, .inr (3, [.null])), (pe, .inl (cJ, 1601, .inr (.inl ((pkB (fun _ => 0))))))] := xD_fn (q := 1) hD rfl
  refine va_putF (D := D) (ci := 3) (v := .ref pe) (ty := .array .long) (C := RN_Packed) (T := FN_Packed) (N := 1) hx hb ht fN_Packed tN_Packed oN_Packed nN_Packed hown hK hP hD hS 0 rfl rfl 0 (by decide) (ht _ mw_261) (fun _ h9 => h9) rfl hnm rfl (by decide +kernel) (rfl) (rfl) (Nat.le_of_ble_eq_true rfl) dN_Packed_init_21 (fun H locs hP hD hS => ?_)
  have hP : va_P D clN [(pk, .inr (3, [.ref pe])), (pe, .inl (cJ, 1601, .inr (.inl ((pkB (fun _ => 0))))))] H := hP
  have hD : va_D A [(pk, .inr (3, [.ref pe])), (pe, .inl (cJ, 1601, .inr (.inl ((pkB (fun _ => 0))))))] := hD
  exact vx_vret C hK hP hD hS dN_Packed_init_24 (Nat.le_of_ble_eq_true rfl) (Nat.le_of_ble_eq_true rfl) (⟨pe, rfl⟩)
set_option maxHeartbeats 4000000 in
set_option maxRecDepth 100000 in
/-- new Packed(16896) -/
theorem kPacked_init16896 (l : Launch) (D : va_G) (cI cZ cJ : ClassId) (pk : Nat)  : vx_Mv l yN_Packed_init wN_Packed_init ({ frames := 1, cells := 1, slots := 2113, locals := 20 }) D clN (tyN cI cZ cJ) [.ref pk, .int (nI 16896)] [(pk, .inr (3, [.null]))] (fun w => ∃ pe : Nat, w = [(pk, .inr (3, [.ref pe])), (pe, .inl (cJ, 2113, .inr (.inl ((pkB (fun _ => 0))))))]) := by
  refine vx_startV (cc := cN_Packed_init) (maxL := 2) (ret := none) (by decide) rfl (Nat.le_of_ble_eq_true rfl) ?_
  intro p_0 e_0 s m below meth c_0 A ls C hK hP hD hS hA hl
  obtain ⟨hx, hb, hr, hml, hown, hts, hlocks, hnm⟩ := id C
  have hown : s.vm.findClass "StepMachines$Packed" = some m.cls := hown
  have ht : ∀ w ∈ TB, w.before _ s = true := fun w h => hts w (List.mem_cons_of_mem _ h)
  have hl : lv_has ls 2 [(0, .ref pk), (1, .int (nI 16896))] := hl
  refine lv_aload_n hx hb dN_Packed_init_0 rfl (lv_at hl 0 rfl) ?_
  refine W.objInit hx hb hown (ht _ mw_260) (ht _ mw_28) (ht _ mw_29) rfl (by rw [hml]; exact hl.1) rfl dN_Packed_init_1 (Nat.le_of_ble_eq_true rfl) (Nat.le_of_ble_eq_true rfl) ?_
  refine W.eq (g2 := F0 m 4 ls []) rfl ?_
  refine lv_aload_n hx hb dN_Packed_init_4 rfl (lv_at hl 0 rfl) ?_
  refine lv_iload_n hx hb dN_Packed_init_5 rfl (lv_at hl 1 rfl) ?_
  refine xn_ge0 (tgt := 13) hx hb dN_Packed_init_6 (by decide) (by omega) ?_
  refine lv_iload_n hx hb dN_Packed_init_13 rfl (lv_at hl 1 rfl) ?_
  refine lv_bipush (v := (nI 8)) hx hb dN_Packed_init_14 (by decide) ?_
  refine xn_div hx hb dN_Packed_init_16 (by omega) (by omega) (by omega) ?_
  refine lv_iconst (v := (nI 1)) hx hb dN_Packed_init_17 (by decide) ?_
  refine xn_add hx hb dN_Packed_init_18 ?_
  refine xn_top (y := (nI 2113)) rfl ?_
  refine xl_new hx hb (ht _ mw_102) hK hP hD hS hA 2 rfl dN_Packed_init_19 (by omega) (Nat.le_of_ble_eq_true rfl) (Nat.le_of_ble_eq_true rfl) (fun pe H hP hD hS => ?_)
  have hP : va_P D clN [(pk, .inr (3, [.null])), (pe, .inl (cJ, 2113, .inr (.inl ((fun _ => 0)))))] H := hP
  have hD : va_D A [(pk, .inr (3, [.null])), (pe, .inl (cJ, 2113, .inr (.inl ((fun _ => 0)))))] := hD
  have hP : va_P D clN [(pk, .inr (3, [.null])), (pe, .inl (cJ, 2113, .inr (.inl ((pkB (fun _ => 0))))))] _ := xP_fnL (q := 1) (g := pkB (fun _ => 0)) hP rfl ((pkW_0 8 8).symm)
  have hD : va_D A [(pk, .inr (3, [.null])), (pe, .inl (cJ, 2113, .inr (.inl ((pkB (fun _ => 0))))))] := xD_fn (q := 1) hD rfl
  refine va_putF (D := D) (ci := 3) (v := .ref pe) (ty := .array .long) (C := RN_Packed) (T := FN_Packed) (N := 1) hx hb ht fN_Packed tN_Packed oN_Packed nN_Packed hown hK hP hD hS 0 rfl rfl 0 (by decide) (ht _ mw_261) (fun _ h9 => h9) rfl hnm rfl (by decide +kernel) (rfl) (rfl) (Nat.le_of_ble_eq_true rfl) dN_Packed_init_21 (fun H locs hP hD hS => ?_)
  have hP : va_P D clN [(pk, .inr (3, [.ref pe])), (pe, .inl (cJ, 2113, .inr (.inl ((pkB (fun _ => 0))))))] H := hP
  have hD : va_D A [(pk, .inr (3, [.ref pe])), (pe, .inl (cJ, 2113, .inr (.inl ((pkB (fun _ => 0))))))] := hD
  exact vx_vret C hK hP hD hS dN_Packed_init_24 (Nat.le_of_ble_eq_true rfl) (Nat.le_of_ble_eq_true rfl) (⟨pe, rfl⟩)
