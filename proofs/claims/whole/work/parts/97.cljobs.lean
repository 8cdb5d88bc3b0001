set_option maxHeartbeats 4000000 in
set_option maxRecDepth 100000 in
/-- stepAt(k, p) -/
theorem kJobs_stepAt (l : Launch) (D : va_G) (cI cZ cJ : ClassId) (k p : Nat)  : vx_Mi l yN_Jobs_stepAt wN_Jobs_stepAt ({ frames := 0, cells := 0, slots := 0, locals := 0 }) D clN (tyN cI cZ cJ) [.int (nI k), .int (nI p)] [] (fun r w => r = nI (p * 256 + k) ∧ w = []) := by
  refine vx_startI (cc := cN_Jobs_stepAt) (maxL := 2) (ret := (some .int)) (by decide) rfl (Nat.le_of_ble_eq_true rfl) ?_
  intro p_0 e_0 s m below meth c_0 A ls C hK hP hD hS hA hl
  obtain ⟨hx, hb, hr, hml, hown, hts, hlocks, hnm⟩ := id C
  have hown : s.vm.findClass "StepMachines$Jobs" = some m.cls := hown
  have ht : ∀ w ∈ TB, w.before _ s = true := fun w h => hts w (List.mem_cons_of_mem _ h)
  have hl : lv_has ls 2 [(0, .int (nI k)), (1, .int (nI p))] := hl
  refine lv_iload_n hx hb dN_Jobs_stepAt_0 rfl (lv_at hl 1 rfl) ?_
  refine lv_sipush (v := (nI 256)) hx hb dN_Jobs_stepAt_1 (by decide) ?_
  refine xn_mul hx hb dN_Jobs_stepAt_4 ?_
  refine lv_iload_n hx hb dN_Jobs_stepAt_5 rfl (lv_at hl 0 rfl) ?_
  refine xn_add hx hb dN_Jobs_stepAt_6 ?_
  exact vx_iret C hK hP hD hS dN_Jobs_stepAt_7 (Nat.le_of_ble_eq_true rfl) (Nat.le_of_ble_eq_true rfl) (⟨rfl, rfl⟩)
set_option maxHeartbeats 4000000 in
set_option maxRecDepth 100000 in
/-- stepOf(j) -/
theorem kJobs_stepOf (l : Launch) (D : va_G) (cI cZ cJ : ClassId) (j : Nat) (hj : j < 65536) : vx_Mi l yN_Jobs_stepOf wN_Jobs_stepOf ({ frames := 0, cells := 0, slots := 0, locals := 0 }) D clN (tyN cI cZ cJ) [.int (nI j)] [] (fun r w => r = nI (j % 256) ∧ w = []) := by
  refine vx_startI (cc := cN_Jobs_stepOf) (maxL := 1) (ret := (some .int)) (by decide) rfl (Nat.le_of_ble_eq_true rfl) ?_
  intro p_0 e_0 s m below meth c_0 A ls C hK hP hD hS hA hl
  obtain ⟨hx, hb, hr, hml, hown, hts, hlocks, hnm⟩ := id C
  have hown : s.vm.findClass "StepMachines$Jobs" = some m.cls := hown
  have ht : ∀ w ∈ TB, w.before _ s = true := fun w h => hts w (List.mem_cons_of_mem _ h)
  have hl : lv_has ls 1 [(0, .int (nI j))] := hl
  refine lv_iload_n hx hb dN_Jobs_stepOf_0 rfl (lv_at hl 0 rfl) ?_
  refine lv_sipush (v := (nI 256)) hx hb dN_Jobs_stepOf_1 (by decide) ?_
  refine xn_rem hx hb dN_Jobs_stepOf_4 (by omega) (by omega) (by omega) ?_
  exact vx_iret C hK hP hD hS dN_Jobs_stepOf_5 (Nat.le_of_ble_eq_true rfl) (Nat.le_of_ble_eq_true rfl) (⟨rfl, rfl⟩)
set_option maxHeartbeats 4000000 in
set_option maxRecDepth 100000 in
/-- placeOf(j) -/
theorem kJobs_placeOf (l : Launch) (D : va_G) (cI cZ cJ : ClassId) (j : Nat) (hj : j < 65536) : vx_Mi l yN_Jobs_placeOf wN_Jobs_placeOf ({ frames := 0, cells := 0, slots := 0, locals := 0 }) D clN (tyN cI cZ cJ) [.int (nI j)] [] (fun r w => r = nI (j / 256) ∧ w = []) := by
  refine vx_startI (cc := cN_Jobs_placeOf) (maxL := 1) (ret := (some .int)) (by decide) rfl (Nat.le_of_ble_eq_true rfl) ?_
  intro p_0 e_0 s m below meth c_0 A ls C hK hP hD hS hA hl
  obtain ⟨hx, hb, hr, hml, hown, hts, hlocks, hnm⟩ := id C
  have hown : s.vm.findClass "StepMachines$Jobs" = some m.cls := hown
  have ht : ∀ w ∈ TB, w.before _ s = true := fun w h => hts w (List.mem_cons_of_mem _ h)
  have hl : lv_has ls 1 [(0, .int (nI j))] := hl
  refine lv_iload_n hx hb dN_Jobs_placeOf_0 rfl (lv_at hl 0 rfl) ?_
  refine lv_sipush (v := (nI 256)) hx hb dN_Jobs_placeOf_1 (by decide) ?_
  refine xn_div hx hb dN_Jobs_placeOf_4 (by omega) (by omega) (by omega) ?_
  exact vx_iret C hK hP hD hS dN_Jobs_placeOf_5 (Nat.le_of_ble_eq_true rfl) (Nat.le_of_ble_eq_true rfl) (⟨rfl, rfl⟩)
set_option maxHeartbeats 4000000 in
set_option maxRecDepth 100000 in
/-- putBackOf(k, h - 1) -/
theorem kJobs_putBackOf (l : Launch) (D : va_G) (cI cZ cJ : ClassId) (k h : Nat) (x : Int32) (ex : x = nI h - nI 1) : vx_Mi l yN_Jobs_putBackOf wN_Jobs_putBackOf ({ frames := 0, cells := 0, slots := 0, locals := 0 }) D clN (tyN cI cZ cJ) [.int (nI k), .int x] [] (fun r w => r = nI (51456 + k * 256 + h) ∧ w = []) := by
  refine vx_startI (cc := cN_Jobs_putBackOf) (maxL := 2) (ret := (some .int)) (by decide) rfl (Nat.le_of_ble_eq_true rfl) ?_
  intro p_0 e_0 s m below meth c_0 A ls C hK hP hD hS hA hl
  obtain ⟨hx, hb, hr, hml, hown, hts, hlocks, hnm⟩ := id C
  have hown : s.vm.findClass "StepMachines$Jobs" = some m.cls := hown
  have ht : ∀ w ∈ TB, w.before _ s = true := fun w h => hts w (List.mem_cons_of_mem _ h)
  have hl : lv_has ls 2 [(0, .int (nI k)), (1, .int x)] := hl
  refine lv_ldc (v := nI 51456) hx hb hown (ht _ mw_661) dN_Jobs_putBackOf_0 ?_
  refine lv_iload_n hx hb dN_Jobs_putBackOf_2 rfl (lv_at hl 0 rfl) ?_
  refine lv_sipush (v := (nI 256)) hx hb dN_Jobs_putBackOf_3 (by decide) ?_
  refine xn_mul hx hb dN_Jobs_putBackOf_6 ?_
  refine xn_add hx hb dN_Jobs_putBackOf_7 ?_
  refine lv_iload_n hx hb dN_Jobs_putBackOf_8 rfl (lv_at hl 1 rfl) ?_
  refine lv_iadd hx hb dN_Jobs_putBackOf_9 ?_
  refine lv_iconst (v := (nI 1)) hx hb dN_Jobs_putBackOf_10 (by decide) ?_
  refine lv_iadd hx hb dN_Jobs_putBackOf_11 ?_
  exact vx_iret C hK hP hD hS dN_Jobs_putBackOf_12 (Nat.le_of_ble_eq_true rfl) (Nat.le_of_ble_eq_true rfl) (⟨by rw [ex, pb_eq], rfl⟩)
set_option maxHeartbeats 4000000 in
set_option maxRecDepth 100000 in
/-- isPutBack(j) -/
theorem kJobs_isPutBack (l : Launch) (D : va_G) (cI cZ cJ : ClassId) (j : Nat) (hj : j < 65536) : vx_Mi l yN_Jobs_isPutBack wN_Jobs_isPutBack ({ frames := 0, cells := 0, slots := 0, locals := 0 }) D clN (tyN cI cZ cJ) [.int (nI j)] [] (fun r w => r = zi (decide (51456 ≤ j)) ∧ w = []) := by
  refine vx_startI (cc := cN_Jobs_isPutBack) (maxL := 1) (ret := (some .boolean)) (by decide) rfl (Nat.le_of_ble_eq_true rfl) ?_
  intro p_0 e_0 s m below meth c_0 A ls C hK hP hD hS hA hl
  obtain ⟨hx, hb, hr, hml, hown, hts, hlocks, hnm⟩ := id C
  have hown : s.vm.findClass "StepMachines$Jobs" = some m.cls := hown
  have ht : ∀ w ∈ TB, w.before _ s = true := fun w h => hts w (List.mem_cons_of_mem _ h)
  have hl : lv_has ls 1 [(0, .int (nI j))] := hl
  refine lv_iload_n hx hb dN_Jobs_isPutBack_0 rfl (lv_at hl 0 rfl) ?_
  refine lv_ldc (v := nI 51456) hx hb hown (ht _ mw_661) dN_Jobs_isPutBack_1 ?_
  refine xn_lt (tgt := 10) hx hb dN_Jobs_isPutBack_3 (by decide) (by omega) (by omega) (fun c_3_0 => ?_) (fun c_3_0 => ?_)
  · skip
    refine lv_iconst (v := (nI 0)) hx hb dN_Jobs_isPutBack_10 (by decide) ?_
    refine xn_top (y := zi false) rfl ?_
    exact vx_zret C hK hP hD hS dN_Jobs_isPutBack_11 (Nat.le_of_ble_eq_true rfl) (Nat.le_of_ble_eq_true rfl) (zi_nar2 _) (⟨by rw [decide_eq_false (by omega)], rfl⟩)
  · skip
    refine lv_iconst (v := (nI 1)) hx hb dN_Jobs_isPutBack_6 (by decide) ?_
    refine lv_goto (tgt := 11) hx hb dN_Jobs_isPutBack_7 (by decide) ?_
    refine xn_top (y := zi true) rfl ?_
    exact vx_zret C hK hP hD hS dN_Jobs_isPutBack_11 (Nat.le_of_ble_eq_true rfl) (Nat.le_of_ble_eq_true rfl) (zi_nar2 _) (⟨by rw [decide_eq_true (by omega)], rfl⟩)
set_option maxHeartbeats 4000000 in
set_option maxRecDepth 100000 in
/-- putBack(j) -/
theorem kJobs_putBack (l : Launch) (D : va_G) (cI cZ cJ : ClassId) (nw j : Nat) (sv : Sv) (h1 : 51456 ≤ j) (h2 : (j - 51456) / 256 < 20) (hj : j < 65536) : vx_Mv l yN_Jobs_putBack wN_Jobs_putBack ({ frames := 0, cells := 0, slots := 0, locals := 0 }) D clN (tyN cI cZ cJ) [.int (nI j), .ref nw] [(nw, .inl (cI, 20, .inl sv))] (fun w => w = [(nw, .inl (cI, 20, .inl ((pbS sv j))))]) := by
  refine vx_startV (cc := cN_Jobs_putBack) (maxL := 3) (ret := none) (by decide) rfl (Nat.le_of_ble_eq_true rfl) ?_
  intro p_0 e_0 s m below meth c_0 A ls C hK hP hD hS hA hl
  obtain ⟨hx, hb, hr, hml, hown, hts, hlocks, hnm⟩ := id C
  have hown : s.vm.findClass "StepMachines$Jobs" = some m.cls := hown
  have ht : ∀ w ∈ TB, w.before _ s = true := fun w h => hts w (List.mem_cons_of_mem _ h)
  have hl : lv_has ls 3 [(0, .int (nI j)), (1, .ref nw)] := hl
  refine lv_iload_n hx hb dN_Jobs_putBack_0 rfl (lv_at hl 0 rfl) ?_
  refine lv_ldc (v := nI 51456) hx hb hown (ht _ mw_661) dN_Jobs_putBack_1 ?_
  refine xn_sub hx hb dN_Jobs_putBack_3 (by omega) ?_
  refine lv_sipush (v := (nI 256)) hx hb dN_Jobs_putBack_4 (by decide) ?_
  refine xn_div hx hb dN_Jobs_putBack_7 (by omega) (by omega) (by omega) ?_
  refine lv_istore_n (lv' := [(2, .int (nI ((j - 51456) / 256))), (0, .int (nI j)), (1, .ref nw)]) hx hb dN_Jobs_putBack_8 rfl hl (by decide) rfl (fun ls hl => ?_)
  refine lv_iload_n hx hb dN_Jobs_putBack_9 rfl (lv_at hl 0 rfl) ?_
  refine xn_lt0 (tgt := 32) hx hb dN_Jobs_putBack_10 (by decide) (by omega) ?_
  refine lv_iload_n hx hb dN_Jobs_putBack_13 rfl (lv_at hl 0 rfl) ?_
  refine lv_aload_n hx hb dN_Jobs_putBack_14 rfl (lv_at hl 2 rfl) ?_
  refine va_alen (v := nI (20)) hx hb hK hP 0 0 rfl rfl rfl dN_Jobs_putBack_15 ?_
  refine xn_ge (tgt := 32) hx hb dN_Jobs_putBack_16 (by decide) (by omega) (by omega) (fun c_16_1 => ?_) (fun c_16_1 => ?_)
  · skip
    exact absurd c_16_1 (by omega)
  · skip
    refine lv_aload_n hx hb dN_Jobs_putBack_19 rfl (lv_at hl 2 rfl) ?_
    refine lv_iload_n hx hb dN_Jobs_putBack_20 rfl (lv_at hl 0 rfl) ?_
    refine lv_iload_n hx hb dN_Jobs_putBack_21 rfl (lv_at hl 1 rfl) ?_
    refine lv_ldc (v := nI 51456) hx hb hown (ht _ mw_661) dN_Jobs_putBack_22 ?_
    refine xn_sub hx hb dN_Jobs_putBack_24 (by omega) ?_
    refine lv_sipush (v := (nI 256)) hx hb dN_Jobs_putBack_25 (by decide) ?_
    refine xn_rem hx hb dN_Jobs_putBack_28 (by omega) (by omega) (by omega) ?_
    refine lv_iconst (v := (nI 1)) hx hb dN_Jobs_putBack_29 (by decide) ?_
    refine lv_isub hx hb dN_Jobs_putBack_30 ?_
    refine xi_ast hx hb hK hP hD hS 0 0 rfl rfl dN_Jobs_putBack_31 (by omega) (by omega) (fun H locs hP hD hS => ?_)
    have hP : va_P D clN [(nw, .inl (cI, 20, .inl ((upd sv ((j - 51456) / 256) ((nI ((j - 51456) % 256)) - (nI 1))))))] H := hP
    have hD : va_D A [(nw, .inl (cI, 20, .inl ((upd sv ((j - 51456) / 256) ((nI ((j - 51456) % 256)) - (nI 1))))))] := hD
    have hP : va_P D clN [(nw, .inl (cI, 20, .inl ((pbS sv j))))] _ := xP_fn (q := 0) (g := (pbS sv j)) hP rfl (fun j _ => congrFun (rfl) j)
    have hD : va_D A [(nw, .inl (cI, 20, .inl ((pbS sv j))))] := xD_fn (q := 0) hD rfl
    exact vx_vret C hK hP hD hS dN_Jobs_putBack_32 (Nat.le_of_ble_eq_true rfl) (Nat.le_of_ble_eq_true rfl) (rfl)
set_option maxHeartbeats 4000000 in
set_option maxRecDepth 100000 in
/-- drop() -/
theorem kJobs_drop (l : Launch) (D : va_G) (cI cZ cJ : ClassId) (jo jf L c : Nat) (js : Nat → Nat)  : vx_Mv l yN_Jobs_drop wN_Jobs_drop ({ frames := 0, cells := 0, slots := 0, locals := 0 }) D clN (tyN cI cZ cJ) [.ref jo] [(jo, .inr (0, [.ref jf, .int (nI c)]))] (fun w => w = [(jo, .inr (0, [.ref jf, .int (nI 0)]))]) := by
  refine vx_startV (cc := cN_Jobs_drop) (maxL := 1) (ret := none) (by decide) rfl (Nat.le_of_ble_eq_true rfl) ?_
  intro p_0 e_0 s m below meth c_0 A ls C hK hP hD hS hA hl
  obtain ⟨hx, hb, hr, hml, hown, hts, hlocks, hnm⟩ := id C
  have hown : s.vm.findClass "StepMachines$Jobs" = some m.cls := hown
  have ht : ∀ w ∈ TB, w.before _ s = true := fun w h => hts w (List.mem_cons_of_mem _ h)
  have hl : lv_has ls 1 [(0, .ref jo)] := hl
  refine lv_aload_n hx hb dN_Jobs_drop_0 rfl (lv_at hl 0 rfl) ?_
  refine lv_iconst (v := (nI 0)) hx hb dN_Jobs_drop_1 (by decide) ?_
  refine va_put (D := D) (ci := 0) (v := .int (nI 0)) (ty := .int) (C := RN_Jobs) (T := FN_Jobs) (N := 2) hx hb ht fN_Jobs tN_Jobs oN_Jobs nN_Jobs hown hK hP hD hS 0 rfl rfl 1 (by decide) (ht _ mw_96) (fun _ h9 => h9) rfl (by decide +kernel) (rfl) (rfl) (Nat.le_of_ble_eq_true rfl) dN_Jobs_drop_2 (fun H locs hP hD hS => ?_)
  have hP : va_P D clN [(jo, .inr (0, [.ref jf, .int (nI 0)]))] H := hP
  have hD : va_D A [(jo, .inr (0, [.ref jf, .int (nI 0)]))] := hD
  exact vx_vret C hK hP hD hS dN_Jobs_drop_5 (Nat.le_of_ble_eq_true rfl) (Nat.le_of_ble_eq_true rfl) (rfl)
set_option maxHeartbeats 4000000 in
set_option maxRecDepth 100000 in
/-- isEmpty() -/
theorem kJobs_isEmpty (l : Launch) (D : va_G) (cI cZ cJ : ClassId) (jo jf L c : Nat) (js : Nat → Nat) (hc : c < 2 ^ 31) : vx_Mi l yN_Jobs_isEmpty wN_Jobs_isEmpty ({ frames := 0, cells := 0, slots := 0, locals := 0 }) D clN (tyN cI cZ cJ) [.ref jo] [(jo, .inr (0, [.ref jf, .int (nI c)]))] (fun r w => r = zi (decide (c = 0)) ∧ w = [(jo, .inr (0, [.ref jf, .int (nI c)]))]) := by
  refine vx_startI (cc := cN_Jobs_isEmpty) (maxL := 1) (ret := (some .boolean)) (by decide) rfl (Nat.le_of_ble_eq_true rfl) ?_
  intro p_0 e_0 s m below meth c_0 A ls C hK hP hD hS hA hl
  obtain ⟨hx, hb, hr, hml, hown, hts, hlocks, hnm⟩ := id C
  have hown : s.vm.findClass "StepMachines$Jobs" = some m.cls := hown
  have ht : ∀ w ∈ TB, w.before _ s = true := fun w h => hts w (List.mem_cons_of_mem _ h)
  have hl : lv_has ls 1 [(0, .ref jo)] := hl
  refine lv_aload_n hx hb dN_Jobs_isEmpty_0 rfl (lv_at hl 0 rfl) ?_
  refine va_get (D := D) (ci := 0) (v := .int (nI c)) (C := RN_Jobs) (T := FN_Jobs) (N := 2) hx hb ht fN_Jobs hown hK hP 0 rfl rfl 1 (by decide) (ht _ mw_96) (fun _ h9 => h9) rfl dN_Jobs_isEmpty_1 ?_
  refine xn_ne0 (tgt := 11) hx hb dN_Jobs_isEmpty_4 (by decide) (by omega) (fun c_4_0 => ?_) (fun c_4_0 => ?_)
  · skip
    refine lv_iconst (v := (nI 0)) hx hb dN_Jobs_isEmpty_11 (by decide) ?_
    refine xn_top (y := zi false) rfl ?_
    exact vx_zret C hK hP hD hS dN_Jobs_isEmpty_12 (Nat.le_of_ble_eq_true rfl) (Nat.le_of_ble_eq_true rfl) (zi_nar2 _) (⟨by rw [decide_eq_false (by omega)], rfl⟩)
  · skip
    refine lv_iconst (v := (nI 1)) hx hb dN_Jobs_isEmpty_7 (by decide) ?_
    refine lv_goto (tgt := 12) hx hb dN_Jobs_isEmpty_8 (by decide) ?_
    refine xn_top (y := zi true) rfl ?_
    exact vx_zret C hK hP hD hS dN_Jobs_isEmpty_12 (Nat.le_of_ble_eq_true rfl) (Nat.le_of_ble_eq_true rfl) (zi_nar2 _) (⟨by rw [decide_eq_true (by omega)], rfl⟩)
set_option maxHeartbeats 4000000 in
set_option maxRecDepth 100000 in
/-- add(j) -/
theorem kJobs_add (l : Launch) (D : va_G) (cI cZ cJ : ClassId) (jo jf L c : Nat) (js : Nat → Nat) (j : Nat) (hc : c / 4 < L) (hL : L < 2 ^ 20) (hj : j < 65536) : vx_Mv l yN_Jobs_add wN_Jobs_add ({ frames := 0, cells := 0, slots := 0, locals := 0 }) D clN (tyN cI cZ cJ) [.ref jo, .int (nI j)] [(jo, .inr (0, [.ref jf, .int (nI c)])), (jf, .inl (cJ, L, .inr (.inl ((pkJ js)))))] (fun w => w = [(jo, .inr (0, [.ref jf, .int (nI (c + 1))])), (jf, .inl (cJ, L, .inr (.inl ((pkJ (un js c j))))))]) := by
  refine vx_startV (cc := cN_Jobs_add) (maxL := 4) (ret := none) (by decide) rfl (Nat.le_of_ble_eq_true rfl) ?_
  intro p_0 e_0 s m below meth c_0 A ls C hK hP hD hS hA hl
  obtain ⟨hx, hb, hr, hml, hown, hts, hlocks, hnm⟩ := id C
  have hown : s.vm.findClass "StepMachines$Jobs" = some m.cls := hown
  have ht : ∀ w ∈ TB, w.before _ s = true := fun w h => hts w (List.mem_cons_of_mem _ h)
  have hl : lv_has ls 4 [(0, .ref jo), (1, .int (nI j))] := hl
  refine lv_aload_n hx hb dN_Jobs_add_0 rfl (lv_at hl 0 rfl) ?_
  refine va_get (D := D) (ci := 0) (v := .int (nI c)) (C := RN_Jobs) (T := FN_Jobs) (N := 2) hx hb ht fN_Jobs hown hK hP 0 rfl rfl 1 (by decide) (ht _ mw_96) (fun _ h9 => h9) rfl dN_Jobs_add_1 ?_
  refine lv_iconst (v := (nI 4)) hx hb dN_Jobs_add_4 (by decide) ?_
  refine xn_div hx hb dN_Jobs_add_5 (by omega) (by omega) (by omega) ?_
  refine lv_istore_n (lv' := [(2, .int (nI (c / 4))), (0, .ref jo), (1, .int (nI j))]) hx hb dN_Jobs_add_6 rfl hl (by decide) rfl (fun ls hl => ?_)
  refine lv_iload_n hx hb dN_Jobs_add_7 rfl (lv_at hl 0 rfl) ?_
  refine lv_aload_n hx hb dN_Jobs_add_8 rfl (lv_at hl 1 rfl) ?_
  refine va_get (D := D) (ci := 0) (v := .ref jf) (C := RN_Jobs) (T := FN_Jobs) (N := 2) hx hb ht fN_Jobs hown hK hP 0 rfl rfl 0 (by decide) (ht _ mw_95) (fun _ h9 => h9) rfl dN_Jobs_add_9 ?_
  refine va_alen (v := nI (L)) hx hb hK hP 1 2 rfl rfl rfl dN_Jobs_add_12 ?_
  refine xn_ge (tgt := 67) hx hb dN_Jobs_add_13 (by decide) (by omega) (by omega) (fun c_13_0 => ?_) (fun c_13_0 => ?_)
  · skip
    exact absurd c_13_0 (by omega)
  · skip
    refine lv_aload_n hx hb dN_Jobs_add_16 rfl (lv_at hl 1 rfl) ?_
    refine va_get (D := D) (ci := 0) (v := .int (nI c)) (C := RN_Jobs) (T := FN_Jobs) (N := 2) hx hb ht fN_Jobs hown hK hP 0 rfl rfl 1 (by decide) (ht _ mw_96) (fun _ h9 => h9) rfl dN_Jobs_add_17 ?_
    refine lv_iconst (v := (nI 4)) hx hb dN_Jobs_add_20 (by decide) ?_
    refine xn_rem hx hb dN_Jobs_add_21 (by omega) (by omega) (by omega) ?_
    refine lv_bipush (v := (nI 16)) hx hb dN_Jobs_add_22 (by decide) ?_
    refine xn_mul hx hb dN_Jobs_add_24 ?_
    refine lv_istore_n (lv' := [(3, .int (nI ((c % 4) * 16))), (2, .int (nI (c / 4))), (0, .ref jo), (1, .int (nI j))]) hx hb dN_Jobs_add_25 rfl hl (by decide) rfl (fun ls hl => ?_)
    refine lv_aload_n hx hb dN_Jobs_add_26 rfl (lv_at hl 2 rfl) ?_
    refine va_get (D := D) (ci := 0) (v := .ref jf) (C := RN_Jobs) (T := FN_Jobs) (N := 2) hx hb ht fN_Jobs hown hK hP 0 rfl rfl 0 (by decide) (ht _ mw_95) (fun _ h9 => h9) rfl dN_Jobs_add_27 ?_
    refine lv_iload_n hx hb dN_Jobs_add_30 rfl (lv_at hl 1 rfl) ?_
    refine lv_aload_n hx hb dN_Jobs_add_31 rfl (lv_at hl 2 rfl) ?_
    refine va_get (D := D) (ci := 0) (v := .ref jf) (C := RN_Jobs) (T := FN_Jobs) (N := 2) hx hb ht fN_Jobs hown hK hP 0 rfl rfl 0 (by decide) (ht _ mw_95) (fun _ h9 => h9) rfl dN_Jobs_add_32 ?_
    refine lv_iload_n hx hb dN_Jobs_add_35 rfl (lv_at hl 1 rfl) ?_
    refine xl_ald hx hb hK hP 1 2 rfl rfl dN_Jobs_add_36 (by omega) (by omega) ?_
    refine lv_ldc2 (v := (65535 : Int64)) hx hb hown (ht _ mw_413) dN_Jobs_add_37 ?_
    refine lv_iload_n hx hb dN_Jobs_add_40 rfl (lv_at hl 0 rfl) ?_
    refine lv_lshl (v := ((65535 : Int64)) <<< (((nI ((c % 4) * 16))).toInt64 &&& 63)) hx hb dN_Jobs_add_41 rfl ?_
    refine lv_ldc2 (v := (-1 : Int64)) hx hb hown (ht _ mw_414) dN_Jobs_add_42 ?_
    refine lv_lxor hx hb dN_Jobs_add_45 ?_
    refine lv_land hx hb dN_Jobs_add_46 ?_
    refine lv_iload_n hx hb dN_Jobs_add_47 rfl (lv_at hl 3 rfl) ?_
    refine lv_i2l (v := (nI j).toInt64) hx hb dN_Jobs_add_48 rfl ?_
    refine lv_ldc2 (v := (65535 : Int64)) hx hb hown (ht _ mw_413) dN_Jobs_add_49 ?_
    refine lv_land hx hb dN_Jobs_add_52 ?_
    refine lv_iload_n hx hb dN_Jobs_add_53 rfl (lv_at hl 0 rfl) ?_
    refine lv_lshl (v := (((nI j).toInt64) &&& ((65535 : Int64))) <<< (((nI ((c % 4) * 16))).toInt64 &&& 63)) hx hb dN_Jobs_add_54 rfl ?_
    refine lv_lor hx hb dN_Jobs_add_55 ?_
    refine xl_ast hx hb hK hP hD hS 1 2 rfl rfl dN_Jobs_add_56 (by omega) (by omega) (fun H locs hP hD hS => ?_)
    have hP : va_P D clN [(jo, .inr (0, [.ref jf, .int (nI c)])), (jf, .inl (cJ, L, .inr (.inl ((vp_updL (pkJ js) (c / 4) ((((pkJ js) (c / 4)) &&& ((((65535 : Int64)) <<< (((nI ((c % 4) * 16))).toInt64 &&& 63)) ^^^ ((-1 : Int64)))) ||| ((((nI j).toInt64) &&& ((65535 : Int64))) <<< (((nI ((c % 4) * 16))).toInt64 &&& 63))))))))] H := hP
    have hD : va_D A [(jo, .inr (0, [.ref jf, .int (nI c)])), (jf, .inl (cJ, L, .inr (.inl ((vp_updL (pkJ js) (c / 4) ((((pkJ js) (c / 4)) &&& ((((65535 : Int64)) <<< (((nI ((c % 4) * 16))).toInt64 &&& 63)) ^^^ ((-1 : Int64)))) ||| ((((nI j).toInt64) &&& ((65535 : Int64))) <<< (((nI ((c % 4) * 16))).toInt64 &&& 63))))))))] := hD
    have hP : va_P D clN [(jo, .inr (0, [.ref jf, .int (nI c)])), (jf, .inl (cJ, L, .inr (.inl ((pkJ (un js c j))))))] _ := xP_fnL (q := 1) (g := pkJ (un js c j)) hP rfl (pj_wr2 hj)
    have hD : va_D A [(jo, .inr (0, [.ref jf, .int (nI c)])), (jf, .inl (cJ, L, .inr (.inl ((pkJ (un js c j))))))] := xD_fn (q := 1) hD rfl
    refine lv_aload_n hx hb dN_Jobs_add_57 rfl (lv_at hl 2 rfl) ?_
    refine lv_dup hx hb dN_Jobs_add_58 rfl ?_
    refine va_get (D := D) (ci := 0) (v := .int (nI c)) (C := RN_Jobs) (T := FN_Jobs) (N := 2) hx hb ht fN_Jobs hown hK hP 0 rfl rfl 1 (by decide) (ht _ mw_96) (fun _ h9 => h9) rfl dN_Jobs_add_59 ?_
    refine lv_iconst (v := (nI 1)) hx hb dN_Jobs_add_62 (by decide) ?_
    refine xn_add hx hb dN_Jobs_add_63 ?_
    refine va_put (D := D) (ci := 0) (v := .int (nI (c + 1))) (ty := .int) (C := RN_Jobs) (T := FN_Jobs) (N := 2) hx hb ht fN_Jobs tN_Jobs oN_Jobs nN_Jobs hown hK hP hD hS 0 rfl rfl 1 (by decide) (ht _ mw_96) (fun _ h9 => h9) rfl (by decide +kernel) (rfl) (rfl) (Nat.le_of_ble_eq_true rfl) dN_Jobs_add_64 (fun H locs hP hD hS => ?_)
    have hP : va_P D clN [(jo, .inr (0, [.ref jf, .int (nI (c + 1))])), (jf, .inl (cJ, L, .inr (.inl ((pkJ (un js c j))))))] H := hP
    have hD : va_D A [(jo, .inr (0, [.ref jf, .int (nI (c + 1))])), (jf, .inl (cJ, L, .inr (.inl ((pkJ (un js c j))))))] := hD
    exact vx_vret C hK hP hD hS dN_Jobs_add_67 (Nat.le_of_ble_eq_true rfl) (Nat.le_of_ble_eq_true rfl) (rfl)
set_option maxHeartbeats 4000000 in
set_option maxRecDepth 100000 in
/-- save(k, p) -/
theorem kJobs_save (l : Launch) (D : va_G) (cI cZ cJ : ClassId) (jo jf L c : Nat) (js : Nat → Nat) (nw k p hv : Nat) (sv : Sv) (hk : k < 20) (he : sv k = nI hv - nI 1) (hc : c / 4 < L) (hL : L < 2 ^ 20) (hj : 51456 + k * 256 + hv < 65536) : vx_Mv l yN_Jobs_save wN_Jobs_save ({ frames := 1, cells := 0, slots := 0, locals := 23 }) D clN (tyN cI cZ cJ) [.ref jo, .int (nI k), .int (nI p), .ref nw] [(jo, .inr (0, [.ref jf, .int (nI c)])), (jf, .inl (cJ, L, .inr (.inl ((pkJ js))))), (nw, .inl (cI, 20, .inl sv))] (fun w => w = [(jo, .inr (0, [.ref jf, .int (nI (c + 1))])), (jf, .inl (cJ, L, .inr (.inl ((pkJ (un js c (51456 + k * 256 + hv))))))), (nw, .inl (cI, 20, .inl ((upd sv k (nI p)))))]) := by
  refine vx_startV (cc := cN_Jobs_save) (maxL := 4) (ret := none) (by decide) rfl (Nat.le_of_ble_eq_true rfl) ?_
  intro p_0 e_0 s m below meth c_0 A ls C hK hP hD hS hA hl
  obtain ⟨hx, hb, hr, hml, hown, hts, hlocks, hnm⟩ := id C
  have hown : s.vm.findClass "StepMachines$Jobs" = some m.cls := hown
  have ht : ∀ w ∈ TB, w.before _ s = true := fun w h => hts w (List.mem_cons_of_mem _ h)
  have hl : lv_has ls 4 [(0, .ref jo), (1, .int (nI k)), (2, .int (nI p)), (3, .ref nw)] := hl
  refine lv_iload_n hx hb dN_Jobs_save_0 rfl (lv_at hl 1 rfl) ?_
  refine xn_lt0 (tgt := 25) hx hb dN_Jobs_save_1 (by decide) (by omega) ?_
  refine lv_iload_n hx hb dN_Jobs_save_4 rfl (lv_at hl 1 rfl) ?_
  refine lv_aload_n hx hb dN_Jobs_save_5 rfl (lv_at hl 3 rfl) ?_
  refine va_alen (v := nI (20)) hx hb hK hP 2 0 rfl rfl rfl dN_Jobs_save_6 ?_
  refine xn_ge (tgt := 25) hx hb dN_Jobs_save_7 (by decide) (by omega) (by omega) (fun c_7_1 => ?_) (fun c_7_1 => ?_)
  · skip
    exact absurd c_7_1 (by omega)
  · skip
    refine lv_aload_n hx hb dN_Jobs_save_10 rfl (lv_at hl 0 rfl) ?_
    refine lv_iload_n hx hb dN_Jobs_save_11 rfl (lv_at hl 1 rfl) ?_
    refine lv_aload_n hx hb dN_Jobs_save_12 rfl (lv_at hl 3 rfl) ?_
    refine lv_iload_n hx hb dN_Jobs_save_13 rfl (lv_at hl 1 rfl) ?_
    refine xi_ald hx hb hK hP 2 0 rfl rfl dN_Jobs_save_14 (by omega) (by omega) ?_
    refine vx_calli (wc := []) (wr := [(jo, .inr (0, [.ref jf, .int (nI c)])), (jf, .inl (cJ, L, .inr (.inl ((pkJ js))))), (nw, .inl (cI, 20, .inl sv))]) [] [0, 1, 2] hK hP hD hS hA rfl rfl (by decide) (by decide) (va_runS (As := [.int (nI k), .int (sv k)]) (rest := [.ref jo]) ⟨hx, hb, hml, hown, ht⟩ (kJobs_putBackOf l D cI cZ cJ k hv (sv k) he _) (⟨callB_of 2 ht (TB_in2 gN_Jobs_putBackOf) rfl rfl rfl (ht _ mw_6) (ht _ mw_707) (by decide +kernel) ⟨Nat.le_of_ble_eq_true rfl, Nat.le_of_ble_eq_true rfl⟩, ht _ mw_708⟩) (vx_preS [] hK hP hD (by decide) rfl) rfl rfl hl.1 rfl (lv_room (Nat.le_of_ble_eq_true rfl)) dN_Jobs_save_15 ⟨Nat.le_of_ble_eq_true rfl, Nat.le_of_ble_eq_true rfl⟩) (fun r1 w1 H locs hq hP hD hS => ?_)
    obtain ⟨rfl, rfl⟩ := hq
    have hP : va_P D clN [(jo, .inr (0, [.ref jf, .int (nI c)])), (jf, .inl (cJ, L, .inr (.inl ((pkJ js))))), (nw, .inl (cI, 20, .inl sv))] H := hP.sub [0, 1, 2] rfl
    have hD : va_D A [(jo, .inr (0, [.ref jf, .int (nI c)])), (jf, .inl (cJ, L, .inr (.inl ((pkJ js))))), (nw, .inl (cI, 20, .inl sv))] := hD.sub [0, 1, 2] (by decide) rfl
    refine vx_callv (wc := [(jo, .inr (0, [.ref jf, .int (nI c)])), (jf, .inl (cJ, L, .inr (.inl ((pkJ js)))))]) (wr := [(nw, .inl (cI, 20, .inl sv))]) [0, 1] [2] hK hP hD hS hA rfl rfl (by decide) (by decide) (va_runV (As := [.int (nI (51456 + k * 256 + hv))]) (rest := []) ⟨hx, hb, hml, hown, ht⟩ (kJobs_add l D cI cZ cJ jo jf L c js (51456 + k * 256 + hv) hc hL hj _) (⟨callB_of 1 ht (TB_in2 gN_Jobs_add) rfl rfl rfl (ht _ mw_6) (ht _ mw_710) (by decide +kernel) ⟨Nat.le_of_ble_eq_true rfl, Nat.le_of_ble_eq_true rfl⟩, ht _ mw_410, ht _ mw_411⟩) (vx_preV [0, 1] hK hP hD (by decide) rfl (ci := 0) rfl 0 rfl) rfl rfl hl.1 rfl (lv_room (Nat.le_of_ble_eq_true rfl)) dN_Jobs_save_18 ⟨Nat.le_of_ble_eq_true rfl, Nat.le_of_ble_eq_true rfl⟩) (fun w1 H locs hq hP hD hS => ?_)
    subst hq
    have hP : va_P D clN [(jo, .inr (0, [.ref jf, .int (nI (c + 1))])), (jf, .inl (cJ, L, .inr (.inl ((pkJ (un js c (51456 + k * 256 + hv))))))), (nw, .inl (cI, 20, .inl sv))] H := hP.sub [1, 2, 0] rfl
    have hD : va_D A [(jo, .inr (0, [.ref jf, .int (nI (c + 1))])), (jf, .inl (cJ, L, .inr (.inl ((pkJ (un js c (51456 + k * 256 + hv))))))), (nw, .inl (cI, 20, .inl sv))] := hD.sub [1, 2, 0] (by decide) rfl
    refine lv_aload_n hx hb dN_Jobs_save_21 rfl (lv_at hl 3 rfl) ?_
    refine lv_iload_n hx hb dN_Jobs_save_22 rfl (lv_at hl 1 rfl) ?_
    refine lv_iload_n hx hb dN_Jobs_save_23 rfl (lv_at hl 2 rfl) ?_
    refine xi_ast hx hb hK hP hD hS 2 0 rfl rfl dN_Jobs_save_24 (by omega) (by omega) (fun H locs hP hD hS => ?_)
    have hP : va_P D clN [(jo, .inr (0, [.ref jf, .int (nI (c + 1))])), (jf, .inl (cJ, L, .inr (.inl ((pkJ (un js c (51456 + k * 256 + hv))))))), (nw, .inl (cI, 20, .inl ((upd sv k (nI p)))))] H := hP
    have hD : va_D A [(jo, .inr (0, [.ref jf, .int (nI (c + 1))])), (jf, .inl (cJ, L, .inr (.inl ((pkJ (un js c (51456 + k * 256 + hv))))))), (nw, .inl (cI, 20, .inl ((upd sv k (nI p)))))] := hD
    exact vx_vret C hK hP hD hS dN_Jobs_save_25 (Nat.le_of_ble_eq_true rfl) (Nat.le_of_ble_eq_true rfl) (rfl)
set_option maxHeartbeats 4000000 in
set_option maxRecDepth 100000 in
/-- take() -/
theorem kJobs_take (l : Launch) (D : va_G) (cI cZ cJ : ClassId) (jo jf L c : Nat) (js : Nat → Nat) (h0 : 0 < c) (hc : (c - 1) / 4 < L) (hL : L < 2 ^ 20) (hj : js (c - 1) < 65536) : vx_Mi l yN_Jobs_take wN_Jobs_take ({ frames := 0, cells := 0, slots := 0, locals := 0 }) D clN (tyN cI cZ cJ) [.ref jo] [(jo, .inr (0, [.ref jf, .int (nI c)])), (jf, .inl (cJ, L, .inr (.inl ((pkJ js)))))] (fun r w => r = nI (js (c - 1)) ∧ w = [(jo, .inr (0, [.ref jf, .int (nI (c - 1))])), (jf, .inl (cJ, L, .inr (.inl ((pkJ js)))))]) := by
  refine vx_startI (cc := cN_Jobs_take) (maxL := 1) (ret := (some .int)) (by decide) rfl (Nat.le_of_ble_eq_true rfl) ?_
  intro p_0 e_0 s m below meth c_0 A ls C hK hP hD hS hA hl
  obtain ⟨hx, hb, hr, hml, hown, hts, hlocks, hnm⟩ := id C
  have hown : s.vm.findClass "StepMachines$Jobs" = some m.cls := hown
  have ht : ∀ w ∈ TB, w.before _ s = true := fun w h => hts w (List.mem_cons_of_mem _ h)
  have hl : lv_has ls 1 [(0, .ref jo)] := hl
  refine lv_aload_n hx hb dN_Jobs_take_0 rfl (lv_at hl 0 rfl) ?_
  refine va_get (D := D) (ci := 0) (v := .int (nI c)) (C := RN_Jobs) (T := FN_Jobs) (N := 2) hx hb ht fN_Jobs hown hK hP 0 rfl rfl 1 (by decide) (ht _ mw_96) (fun _ h9 => h9) rfl dN_Jobs_take_1 ?_
  refine xn_ne0 (tgt := 9) hx hb dN_Jobs_take_4 (by decide) (by omega) (fun c_4_0 => ?_) (fun c_4_0 => ?_)
  · skip
    refine lv_aload_n hx hb dN_Jobs_take_9 rfl (lv_at hl 0 rfl) ?_
    refine lv_dup hx hb dN_Jobs_take_10 rfl ?_
    refine va_get (D := D) (ci := 0) (v := .int (nI c)) (C := RN_Jobs) (T := FN_Jobs) (N := 2) hx hb ht fN_Jobs hown hK hP 0 rfl rfl 1 (by decide) (ht _ mw_96) (fun _ h9 => h9) rfl dN_Jobs_take_11 ?_
    refine lv_iconst (v := (nI 1)) hx hb dN_Jobs_take_14 (by decide) ?_
    refine xn_sub hx hb dN_Jobs_take_15 (by omega) ?_
    refine va_put (D := D) (ci := 0) (v := .int (nI (c - 1))) (ty := .int) (C := RN_Jobs) (T := FN_Jobs) (N := 2) hx hb ht fN_Jobs tN_Jobs oN_Jobs nN_Jobs hown hK hP hD hS 0 rfl rfl 1 (by decide) (ht _ mw_96) (fun _ h9 => h9) rfl (by decide +kernel) (rfl) (rfl) (Nat.le_of_ble_eq_true rfl) dN_Jobs_take_16 (fun H locs hP hD hS => ?_)
    have hP : va_P D clN [(jo, .inr (0, [.ref jf, .int (nI (c - 1))])), (jf, .inl (cJ, L, .inr (.inl ((pkJ js)))))] H := hP
    have hD : va_D A [(jo, .inr (0, [.ref jf, .int (nI (c - 1))])), (jf, .inl (cJ, L, .inr (.inl ((pkJ js)))))] := hD
    refine lv_aload_n hx hb dN_Jobs_take_19 rfl (lv_at hl 0 rfl) ?_
    refine va_get (D := D) (ci := 0) (v := .ref jf) (C := RN_Jobs) (T := FN_Jobs) (N := 2) hx hb ht fN_Jobs hown hK hP 0 rfl rfl 0 (by decide) (ht _ mw_95) (fun _ h9 => h9) rfl dN_Jobs_take_20 ?_
    refine lv_aload_n hx hb dN_Jobs_take_23 rfl (lv_at hl 0 rfl) ?_
    refine va_get (D := D) (ci := 0) (v := .int (nI (c - 1))) (C := RN_Jobs) (T := FN_Jobs) (N := 2) hx hb ht fN_Jobs hown hK hP 0 rfl rfl 1 (by decide) (ht _ mw_96) (fun _ h9 => h9) rfl dN_Jobs_take_24 ?_
    refine lv_iconst (v := (nI 4)) hx hb dN_Jobs_take_27 (by decide) ?_
    refine xn_div hx hb dN_Jobs_take_28 (by omega) (by omega) (by omega) ?_
    refine xl_ald hx hb hK hP 1 2 rfl rfl dN_Jobs_take_29 (by omega) (by omega) ?_
    refine lv_aload_n hx hb dN_Jobs_take_30 rfl (lv_at hl 0 rfl) ?_
    refine va_get (D := D) (ci := 0) (v := .int (nI (c - 1))) (C := RN_Jobs) (T := FN_Jobs) (N := 2) hx hb ht fN_Jobs hown hK hP 0 rfl rfl 1 (by decide) (ht _ mw_96) (fun _ h9 => h9) rfl dN_Jobs_take_31 ?_
    refine lv_iconst (v := (nI 4)) hx hb dN_Jobs_take_34 (by decide) ?_
    refine xn_rem hx hb dN_Jobs_take_35 (by omega) (by omega) (by omega) ?_
    refine lv_bipush (v := (nI 16)) hx hb dN_Jobs_take_36 (by decide) ?_
    refine xn_mul hx hb dN_Jobs_take_38 ?_
    refine lv_lushr (v := ((((pkJ js) ((c - 1) / 4))).toUInt64 >>> (((nI (((c - 1) % 4) * 16))).toInt64.toUInt64 &&& Int64.toUInt64 63)).toInt64) hx hb dN_Jobs_take_39 rfl ?_
    refine lv_ldc2 (v := (65535 : Int64)) hx hb hown (ht _ mw_413) dN_Jobs_take_40 ?_
    refine lv_land hx hb dN_Jobs_take_43 ?_
    refine lv_l2i (v := ((((((pkJ js) ((c - 1) / 4))).toUInt64 >>> (((nI (((c - 1) % 4) * 16))).toInt64.toUInt64 &&& Int64.toUInt64 63)).toInt64) &&& ((65535 : Int64))).toInt32) hx hb dN_Jobs_take_44 rfl ?_
    refine xn_top (y := (nI (js (c - 1)))) (pj_rd hj) ?_
    exact vx_iret C hK hP hD hS dN_Jobs_take_45 (Nat.le_of_ble_eq_true rfl) (Nat.le_of_ble_eq_true rfl) (⟨rfl, rfl⟩)
  · skip
    exact absurd c_4_0 (by omega)
set_option maxHeartbeats 4000000 in
set_option maxRecDepth 100000 in
/-- get(i) -/
theorem kPacked_get (l : Launch) (D : va_G) (cI cZ cJ : ClassId) (pk pe L : Nat) (g9 : Nat → Nat) (i : Nat) (hi : i / 8 < L) (hL : L < 2 ^ 20) (hg : g9 i < 256) : vx_Mi l yN_Packed_get wN_Packed_get ({ frames := 0, cells := 0, slots := 0, locals := 0 }) D clN (tyN cI cZ cJ) [.ref pk, .int (nI i)] [(pk, .inr (3, [.ref pe])), (pe, .inl (cJ, L, .inr (.inl ((pkB g9)))))] (fun r w => r = nI (g9 i) ∧ w = [(pk, .inr (3, [.ref pe])), (pe, .inl (cJ, L, .inr (.inl ((pkB g9)))))]) := by
  refine vx_startI (cc := cN_Packed_get) (maxL := 3) (ret := (some .int)) (by decide) rfl (Nat.le_of_ble_eq_true rfl) ?_
  intro p_0 e_0 s m below meth c_0 A ls C hK hP hD hS hA hl
  obtain ⟨hx, hb, hr, hml, hown, hts, hlocks, hnm⟩ := id C
  have hown : s.vm.findClass "StepMachines$Packed" = some m.cls := hown
  have ht : ∀ w ∈ TB, w.before _ s = true := fun w h => hts w (List.mem_cons_of_mem _ h)
  have hl : lv_has ls 3 [(0, .ref pk), (1, .int (nI i))] := hl
  refine lv_iload_n hx hb dN_Packed_get_0 rfl (lv_at hl 1 rfl) ?_
  refine lv_bipush (v := (nI 8)) hx hb dN_Packed_get_1 (by decide) ?_
  refine xn_div hx hb dN_Packed_get_3 (by omega) (by omega) (by omega) ?_
  refine lv_istore_n (lv' := [(2, .int (nI (i / 8))), (0, .ref pk), (1, .int (nI i))]) hx hb dN_Packed_get_4 rfl hl (by decide) rfl (fun ls hl => ?_)
  refine lv_iload_n hx hb dN_Packed_get_5 rfl (lv_at hl 2 rfl) ?_
  refine xn_lt0 (tgt := 18) hx hb dN_Packed_get_6 (by decide) (by omega) ?_
  refine lv_iload_n hx hb dN_Packed_get_9 rfl (lv_at hl 0 rfl) ?_
  refine lv_aload_n hx hb dN_Packed_get_10 rfl (lv_at hl 1 rfl) ?_
  refine va_get (D := D) (ci := 3) (v := .ref pe) (C := RN_Packed) (T := FN_Packed) (N := 1) hx hb ht fN_Packed hown hK hP 0 rfl rfl 0 (by decide) (ht _ mw_261) (fun _ h9 => h9) rfl dN_Packed_get_11 ?_
  refine va_alen (v := nI (L)) hx hb hK hP 1 2 rfl rfl rfl dN_Packed_get_14 ?_
  refine xn_lt (tgt := 22) hx hb dN_Packed_get_15 (by decide) (by omega) (by omega) (fun c_15_1 => ?_) (fun c_15_1 => ?_)
  · skip
    refine lv_aload_n hx hb dN_Packed_get_22 rfl (lv_at hl 1 rfl) ?_
    refine va_get (D := D) (ci := 3) (v := .ref pe) (C := RN_Packed) (T := FN_Packed) (N := 1) hx hb ht fN_Packed hown hK hP 0 rfl rfl 0 (by decide) (ht _ mw_261) (fun _ h9 => h9) rfl dN_Packed_get_23 ?_
    refine lv_iload_n hx hb dN_Packed_get_26 rfl (lv_at hl 0 rfl) ?_
    refine xl_ald hx hb hK hP 1 2 rfl rfl dN_Packed_get_27 (by omega) (by omega) ?_
    refine lv_iload_n hx hb dN_Packed_get_28 rfl (lv_at hl 2 rfl) ?_
    refine lv_bipush (v := (nI 8)) hx hb dN_Packed_get_29 (by decide) ?_
    refine xn_rem hx hb dN_Packed_get_31 (by omega) (by omega) (by omega) ?_
    refine lv_bipush (v := (nI 8)) hx hb dN_Packed_get_32 (by decide) ?_
    refine xn_mul hx hb dN_Packed_get_34 ?_
    refine lv_lushr (v := ((((pkB g9) (i / 8))).toUInt64 >>> (((nI ((i % 8) * 8))).toInt64.toUInt64 &&& Int64.toUInt64 63)).toInt64) hx hb dN_Packed_get_35 rfl ?_
    refine lv_ldc2 (v := (255 : Int64)) hx hb hown (ht _ mw_873) dN_Packed_get_36 ?_
    refine lv_land hx hb dN_Packed_get_39 ?_
    refine lv_l2i (v := ((((((pkB g9) (i / 8))).toUInt64 >>> (((nI ((i % 8) * 8))).toInt64.toUInt64 &&& Int64.toUInt64 63)).toInt64) &&& ((255 : Int64))).toInt32) hx hb dN_Packed_get_40 rfl ?_
    refine xn_top (y := (nI (g9 i))) (pb_rd hg) ?_
    exact vx_iret C hK hP hD hS dN_Packed_get_41 (Nat.le_of_ble_eq_true rfl) (Nat.le_of_ble_eq_true rfl) (⟨rfl, rfl⟩)
  · skip
    exact absurd c_15_1 (by omega)
set_option maxHeartbeats 4000000 in
set_option maxRecDepth 100000 in
/-- set(i, v) -/
theorem kPacked_set (l : Launch) (D : va_G) (cI cZ cJ : ClassId) (pk pe L : Nat) (g9 : Nat → Nat) (i v : Nat) (hi : i / 8 < L) (hL : L < 2 ^ 20) (hv : v < 256) : vx_Mv l yN_Packed_set wN_Packed_set ({ frames := 0, cells := 0, slots := 0, locals := 0 }) D clN (tyN cI cZ cJ) [.ref pk, .int (nI i), .int (nI v)] [(pk, .inr (3, [.ref pe])), (pe, .inl (cJ, L, .inr (.inl ((pkB g9)))))] (fun w => w = [(pk, .inr (3, [.ref pe])), (pe, .inl (cJ, L, .inr (.inl ((pkB (un g9 i v))))))]) := by
  refine vx_startV (cc := cN_Packed_set) (maxL := 5) (ret := none) (by decide) rfl (Nat.le_of_ble_eq_true rfl) ?_
  intro p_0 e_0 s m below meth c_0 A ls C hK hP hD hS hA hl
  obtain ⟨hx, hb, hr, hml, hown, hts, hlocks, hnm⟩ := id C
  have hown : s.vm.findClass "StepMachines$Packed" = some m.cls := hown
  have ht : ∀ w ∈ TB, w.before _ s = true := fun w h => hts w (List.mem_cons_of_mem _ h)
  have hl : lv_has ls 5 [(0, .ref pk), (1, .int (nI i)), (2, .int (nI v))] := hl
  refine lv_iload_n hx hb dN_Packed_set_0 rfl (lv_at hl 1 rfl) ?_
  refine lv_bipush (v := (nI 8)) hx hb dN_Packed_set_1 (by decide) ?_
  refine xn_div hx hb dN_Packed_set_3 (by omega) (by omega) (by omega) ?_
  refine lv_istore_n (lv' := [(3, .int (nI (i / 8))), (0, .ref pk), (1, .int (nI i)), (2, .int (nI v))]) hx hb dN_Packed_set_4 rfl hl (by decide) rfl (fun ls hl => ?_)
  refine lv_iload_n hx hb dN_Packed_set_5 rfl (lv_at hl 2 rfl) ?_
  refine xn_lt0 (tgt := 60) hx hb dN_Packed_set_6 (by decide) (by omega) ?_
  refine lv_iload_n hx hb dN_Packed_set_9 rfl (lv_at hl 0 rfl) ?_
  refine lv_aload_n hx hb dN_Packed_set_10 rfl (lv_at hl 1 rfl) ?_
  refine va_get (D := D) (ci := 3) (v := .ref pe) (C := RN_Packed) (T := FN_Packed) (N := 1) hx hb ht fN_Packed hown hK hP 0 rfl rfl 0 (by decide) (ht _ mw_261) (fun _ h9 => h9) rfl dN_Packed_set_11 ?_
  refine va_alen (v := nI (L)) hx hb hK hP 1 2 rfl rfl rfl dN_Packed_set_14 ?_
  refine xn_ge (tgt := 60) hx hb dN_Packed_set_15 (by decide) (by omega) (by omega) (fun c_15_1 => ?_) (fun c_15_1 => ?_)
  · skip
    exact absurd c_15_1 (by omega)
  · skip
    refine lv_iload_n hx hb dN_Packed_set_18 rfl (lv_at hl 2 rfl) ?_
    refine lv_bipush (v := (nI 8)) hx hb dN_Packed_set_19 (by decide) ?_
    refine xn_rem hx hb dN_Packed_set_21 (by omega) (by omega) (by omega) ?_
    refine lv_bipush (v := (nI 8)) hx hb dN_Packed_set_22 (by decide) ?_
    refine xn_mul hx hb dN_Packed_set_24 ?_
    refine lv_istore (lv' := [(4, .int (nI ((i % 8) * 8))), (3, .int (nI (i / 8))), (0, .ref pk), (1, .int (nI i)), (2, .int (nI v))]) hx hb dN_Packed_set_25 hl (by decide) rfl (fun ls hl => ?_)
    refine lv_aload_n hx hb dN_Packed_set_27 rfl (lv_at hl 2 rfl) ?_
    refine va_get (D := D) (ci := 3) (v := .ref pe) (C := RN_Packed) (T := FN_Packed) (N := 1) hx hb ht fN_Packed hown hK hP 0 rfl rfl 0 (by decide) (ht _ mw_261) (fun _ h9 => h9) rfl dN_Packed_set_28 ?_
    refine lv_iload_n hx hb dN_Packed_set_31 rfl (lv_at hl 1 rfl) ?_
    refine lv_aload_n hx hb dN_Packed_set_32 rfl (lv_at hl 2 rfl) ?_
    refine va_get (D := D) (ci := 3) (v := .ref pe) (C := RN_Packed) (T := FN_Packed) (N := 1) hx hb ht fN_Packed hown hK hP 0 rfl rfl 0 (by decide) (ht _ mw_261) (fun _ h9 => h9) rfl dN_Packed_set_33 ?_
    refine lv_iload_n hx hb dN_Packed_set_36 rfl (lv_at hl 1 rfl) ?_
    refine xl_ald hx hb hK hP 1 2 rfl rfl dN_Packed_set_37 (by omega) (by omega) ?_
    refine lv_ldc2 (v := (255 : Int64)) hx hb hown (ht _ mw_873) dN_Packed_set_38 ?_
    refine lv_iload hx hb dN_Packed_set_41 (lv_at hl 0 rfl) ?_
    refine lv_lshl (v := ((255 : Int64)) <<< (((nI ((i % 8) * 8))).toInt64 &&& 63)) hx hb dN_Packed_set_43 rfl ?_
    refine lv_ldc2 (v := (-1 : Int64)) hx hb hown (ht _ mw_883) dN_Packed_set_44 ?_
    refine lv_lxor hx hb dN_Packed_set_47 ?_
    refine lv_land hx hb dN_Packed_set_48 ?_
    refine lv_iload_n hx hb dN_Packed_set_49 rfl (lv_at hl 4 rfl) ?_
    refine lv_i2l (v := (nI v).toInt64) hx hb dN_Packed_set_50 rfl ?_
    refine lv_ldc2 (v := (255 : Int64)) hx hb hown (ht _ mw_873) dN_Packed_set_51 ?_
    refine lv_land hx hb dN_Packed_set_54 ?_
    refine lv_iload hx hb dN_Packed_set_55 (lv_at hl 0 rfl) ?_
    refine lv_lshl (v := (((nI v).toInt64) &&& ((255 : Int64))) <<< (((nI ((i % 8) * 8))).toInt64 &&& 63)) hx hb dN_Packed_set_57 rfl ?_
    refine lv_lor hx hb dN_Packed_set_58 ?_
    refine xl_ast hx hb hK hP hD hS 1 2 rfl rfl dN_Packed_set_59 (by omega) (by omega) (fun H locs hP hD hS => ?_)
    have hP : va_P D clN [(pk, .inr (3, [.ref pe])), (pe, .inl (cJ, L, .inr (.inl ((vp_updL (pkB g9) (i / 8) ((((pkB g9) (i / 8)) &&& ((((255 : Int64)) <<< (((nI ((i % 8) * 8))).toInt64 &&& 63)) ^^^ ((-1 : Int64)))) ||| ((((nI v).toInt64) &&& ((255 : Int64))) <<< (((nI ((i % 8) * 8))).toInt64 &&& 63))))))))] H := hP
    have hD : va_D A [(pk, .inr (3, [.ref pe])), (pe, .inl (cJ, L, .inr (.inl ((vp_updL (pkB g9) (i / 8) ((((pkB g9) (i / 8)) &&& ((((255 : Int64)) <<< (((nI ((i % 8) * 8))).toInt64 &&& 63)) ^^^ ((-1 : Int64)))) ||| ((((nI v).toInt64) &&& ((255 : Int64))) <<< (((nI ((i % 8) * 8))).toInt64 &&& 63))))))))] := hD
    have hP : va_P D clN [(pk, .inr (3, [.ref pe])), (pe, .inl (cJ, L, .inr (.inl ((pkB (un g9 i v))))))] _ := xP_fnL (q := 1) (g := pkB (un g9 i v)) hP rfl (pb_wr hv)
    have hD : va_D A [(pk, .inr (3, [.ref pe])), (pe, .inl (cJ, L, .inr (.inl ((pkB (un g9 i v))))))] := xD_fn (q := 1) hD rfl
    exact vx_vret C hK hP hD hS dN_Packed_set_60 (Nat.le_of_ble_eq_true rfl) (Nat.le_of_ble_eq_true rfl) (rfl)
def wpR (g9 : Nat → Nat) (a at9 : Nat) : Nat → Nat := fun j => if a ≤ j / 8 ∧ j / 8 < at9 then 0 else g9 j
theorem wpR_0 (g9 : Nat → Nat) (a : Nat) : wpR g9 a a = g9 := by funext j; unfold wpR; rw [if_neg (by omega)]
theorem wpR_s (g9 : Nat → Nat) (a t : Nat) (h : a ≤ t) : wpB (wpR g9 a t) t = wpR g9 a (t + 1) := by
  funext j; unfold wpB wpR
  by_cases h1 : j / 8 = t
  · rw [if_pos h1, if_pos (by omega)]
  · rw [if_neg h1]
    by_cases h2 : a ≤ j / 8 ∧ j / 8 < t
    · rw [if_pos h2, if_pos (by omega)]
    · rw [if_neg h2, if_neg (by omega)]
set_option maxHeartbeats 4000000 in
set_option maxRecDepth 100000 in
/-- wipe(8 a, 8 t) -/
theorem kPacked_wipe (l : Launch) (D : va_G) (cI cZ cJ : ClassId) (pk pe L : Nat) (g9 : Nat → Nat) (a t : Nat) (hL : a + t ≤ L) (hL2 : L < 2 ^ 20) : vx_Mv l yN_Packed_wipe wN_Packed_wipe ({ frames := 0, cells := 0, slots := 0, locals := 0 }) D clN (tyN cI cZ cJ) [.ref pk, .int (nI (8 * a)), .int (nI (8 * t))] [(pk, .inr (3, [.ref pe])), (pe, .inl (cJ, L, .inr (.inl ((pkB g9)))))] (fun w => w = [(pk, .inr (3, [.ref pe])), (pe, .inl (cJ, L, .inr (.inl ((pkB (wpR g9 a (a + t)))))))]) := by
  refine vx_startV (cc := cN_Packed_wipe) (maxL := 5) (ret := none) (by decide) rfl (Nat.le_of_ble_eq_true rfl) ?_
  intro p_0 e_0 s m below meth c_0 A ls C hK hP hD hS hA hl
  obtain ⟨hx, hb, hr, hml, hown, hts, hlocks, hnm⟩ := id C
  have hown : s.vm.findClass "StepMachines$Packed" = some m.cls := hown
  have ht : ∀ w ∈ TB, w.before _ s = true := fun w h => hts w (List.mem_cons_of_mem _ h)
  have hl : lv_has ls 5 [(0, .ref pk), (1, .int (nI (8 * a))), (2, .int (nI (8 * t)))] := hl
  refine lv_iload_n hx hb dN_Packed_wipe_0 rfl (lv_at hl 1 rfl) ?_
  refine lv_iload_n hx hb dN_Packed_wipe_1 rfl (lv_at hl 2 rfl) ?_
  refine xn_add hx hb dN_Packed_wipe_2 ?_
  refine lv_bipush (v := (nI 8)) hx hb dN_Packed_wipe_3 (by decide) ?_
  refine xn_div hx hb dN_Packed_wipe_5 (by omega) (by omega) (by omega) ?_
  refine xn_top (y := (nI (a + t))) (by rw [show (8 * a + 8 * t) / 8 = a + t by omega]) ?_
  refine lv_istore_n (lv' := [(3, .int (nI (a + t))), (0, .ref pk), (1, .int (nI (8 * a))), (2, .int (nI (8 * t)))]) hx hb dN_Packed_wipe_6 rfl hl (by decide) rfl (fun ls hl => ?_)
  refine lv_iload_n hx hb dN_Packed_wipe_7 rfl (lv_at hl 2 rfl) ?_
  refine lv_bipush (v := (nI 8)) hx hb dN_Packed_wipe_8 (by decide) ?_
  refine xn_div hx hb dN_Packed_wipe_10 (by omega) (by omega) (by omega) ?_
  refine xn_top (y := (nI a)) (by rw [show 8 * a / 8 = a by omega]) ?_
  have hP : va_P D clN [(pk, .inr (3, [.ref pe])), (pe, .inl (cJ, L, .inr (.inl ((pkB (wpR g9 a a))))))] _ := xP_fnL (q := 1) (g := pkB (wpR g9 a a)) hP rfl ((by rw [wpR_0]))
  have hD : va_D A [(pk, .inr (3, [.ref pe])), (pe, .inl (cJ, L, .inr (.inl ((pkB (wpR g9 a a))))))] := xD_fn (q := 1) hD rfl
  refine lv_istore (lv' := [(4, .int (nI a)), (3, .int (nI (a + t))), (0, .ref pk), (1, .int (nI (8 * a))), (2, .int (nI (8 * t)))]) hx hb dN_Packed_wipe_11 hl (by decide) rfl (fun ls hl => ?_)
  refine vx_loop (α := Nat) (fun (vv : Nat) (H : Heap) (locs : List Loc) (ls : Array Slot) => match vv with | (i) => va_P D clN [(pk, .inr (3, [.ref pe])), (pe, .inl (cJ, L, .inr (.inl ((pkB (wpR g9 a i))))))] H ∧ va_D A [(pk, .inr (3, [.ref pe])), (pe, .inl (cJ, L, .inr (.inl ((pkB (wpR g9 a i))))))] ∧ va_S A s.heap H locs ∧ lv_has ls 5 [(0, .ref pk), (3, .int (nI (a + t))), (4, .int (nI i))] ∧ (a ≤ i ∧ i ≤ a + t)) (fun (vv : Nat) => match vv with | (i) => a + t - i) 13 [] ?_ (a) ⟨hP, hD, hS, lv_sub hl [2, 1, 0] rfl, ⟨by omega, by omega⟩⟩
  intro vv H locs ls hq ih_13_0
  obtain ⟨i, rfl⟩ : ∃ z, z = vv := ⟨_, rfl⟩
  obtain ⟨hP, hD, hS, hl, hI⟩ := hq
  obtain ⟨hi1, hi2⟩ := hI
  refine lv_iload hx hb dN_Packed_wipe_13 (lv_at hl 2 rfl) ?_
  refine xn_lt0 (tgt := 48) hx hb dN_Packed_wipe_15 (by decide) (by omega) ?_
  refine lv_iload hx hb dN_Packed_wipe_18 (lv_at hl 2 rfl) ?_
  refine lv_iload_n hx hb dN_Packed_wipe_20 rfl (lv_at hl 1 rfl) ?_
  refine xn_ge (tgt := 48) hx hb dN_Packed_wipe_21 (by decide) (by omega) (by omega) (fun c_21_2 => ?_) (fun c_21_2 => ?_)
  · skip
    exact vx_vret C hK hP hD hS dN_Packed_wipe_48 (Nat.le_of_ble_eq_true rfl) (Nat.le_of_ble_eq_true rfl) (by rw [show i = a + t by omega])
  · skip
    refine lv_iload hx hb dN_Packed_wipe_24 (lv_at hl 2 rfl) ?_
    refine lv_aload_n hx hb dN_Packed_wipe_26 rfl (lv_at hl 0 rfl) ?_
    refine va_get (D := D) (ci := 3) (v := .ref pe) (C := RN_Packed) (T := FN_Packed) (N := 1) hx hb ht fN_Packed hown hK hP 0 rfl rfl 0 (by decide) (ht _ mw_261) (fun _ h9 => h9) rfl dN_Packed_wipe_27 ?_
    refine va_alen (v := nI (L)) hx hb hK hP 1 2 rfl rfl rfl dN_Packed_wipe_30 ?_
    refine xn_ge (tgt := 48) hx hb dN_Packed_wipe_31 (by decide) (by omega) (by omega) (fun c_31_3 => ?_) (fun c_31_3 => ?_)
    · skip
      exact absurd c_31_3 (by omega)
    · skip
      refine lv_aload_n hx hb dN_Packed_wipe_34 rfl (lv_at hl 0 rfl) ?_
      refine va_get (D := D) (ci := 3) (v := .ref pe) (C := RN_Packed) (T := FN_Packed) (N := 1) hx hb ht fN_Packed hown hK hP 0 rfl rfl 0 (by decide) (ht _ mw_261) (fun _ h9 => h9) rfl dN_Packed_wipe_35 ?_
      refine lv_iload hx hb dN_Packed_wipe_38 (lv_at hl 2 rfl) ?_
      refine lv_lconst (v := 0) hx hb dN_Packed_wipe_40 (by decide) ?_
      refine xl_ast hx hb hK hP hD hS 1 2 rfl rfl dN_Packed_wipe_41 (by omega) (by omega) (fun H locs hP hD hS => ?_)
      have hP : va_P D clN [(pk, .inr (3, [.ref pe])), (pe, .inl (cJ, L, .inr (.inl ((vp_updL (pkB (wpR g9 a i)) i 0)))))] H := hP
      have hD : va_D A [(pk, .inr (3, [.ref pe])), (pe, .inl (cJ, L, .inr (.inl ((vp_updL (pkB (wpR g9 a i)) i 0)))))] := hD
      have hP : va_P D clN [(pk, .inr (3, [.ref pe])), (pe, .inl (cJ, L, .inr (.inl ((pkB (wpR g9 a (i + 1)))))))] _ := xP_fnL (q := 1) (g := pkB (wpR g9 a (i + 1))) hP rfl ((by rw [pb_wp, wpR_s _ _ _ (by omega)]))
      have hD : va_D A [(pk, .inr (3, [.ref pe])), (pe, .inl (cJ, L, .inr (.inl ((pkB (wpR g9 a (i + 1)))))))] := xD_fn (q := 1) hD rfl
      refine lv_iinc (v := (nI (i + 1))) (lv' := [(4, .int (nI (i + 1))), (0, .ref pk), (3, .int (nI (a + t)))]) hx hb dN_Packed_wipe_42 hl (k := 2) rfl (nI_1 _) (by decide) rfl (fun ls hl => ?_)
      refine lv_goto (tgt := 13) hx hb dN_Packed_wipe_45 (by decide) ?_
      exact ih_13_0 (i + 1) _ _ _ ⟨hP, hD, hS, lv_sub hl [1, 2, 0] rfl, ⟨by omega, by omega⟩⟩ (show (a + t - (i + 1)) < (a + t - i) from by omega)
