set_option maxHeartbeats 4000000 in
set_option maxRecDepth 100000 in
/-- open() -/
theorem kTally_open (l : Launch) (D : va_G) (cI cZ cJ : ClassId) (ta tk ov : Nat)  : vx_Mv l yN_Tally_open wN_Tally_open ({ frames := 0, cells := 0, slots := 0, locals := 0 }) D clN (tyN cI cZ cJ) [.ref ta] [(ta, .inr (9, [.int (nI tk), .int (nI ov)]))] (fun w => w = [(ta, .inr (9, [.int (nI 0), .int (nI ov)]))]) := by
  refine vx_startV (cc := cN_Tally_open) (maxL := 1) (ret := none) (by decide) rfl (Nat.le_of_ble_eq_true rfl) ?_
  intro p_0 e_0 s m below meth c_0 A ls C hK hP hD hS hA hl
  obtain ⟨hx, hb, hr, hml, hown, hts, hlocks, hnm⟩ := id C
  have hown : s.vm.findClass "StepMachines$Tally" = some m.cls := hown
  have ht : ∀ w ∈ TB, w.before _ s = true := fun w h => hts w (List.mem_cons_of_mem _ h)
  have hl : lv_has ls 1 [(0, .ref ta)] := hl
  refine lv_aload_n hx hb dN_Tally_open_0 rfl (lv_at hl 0 rfl) ?_
  refine lv_iconst (v := (nI 0)) hx hb dN_Tally_open_1 (by decide) ?_
  refine va_put (D := D) (ci := 9) (v := .int (nI 0)) (ty := .int) (C := RN_Tally) (T := FN_Tally) (N := 2) hx hb ht fN_Tally tN_Tally oN_Tally nN_Tally hown hK hP hD hS 0 rfl rfl 0 (by decide) (ht _ mw_75) (fun _ h9 => h9) rfl (by decide +kernel) (rfl) (rfl) (Nat.le_of_ble_eq_true rfl) dN_Tally_open_2 (fun H locs hP hD hS => ?_)
  have hP : va_P D clN [(ta, .inr (9, [.int (nI 0), .int (nI ov)]))] H := hP
  have hD : va_D A [(ta, .inr (9, [.int (nI 0), .int (nI ov)]))] := hD
  exact vx_vret C hK hP hD hS dN_Tally_open_5 (Nat.le_of_ble_eq_true rfl) (Nat.le_of_ble_eq_true rfl) (rfl)
set_option maxHeartbeats 4000000 in
set_option maxRecDepth 100000 in
/-- count() -/
theorem kTally_count (l : Launch) (D : va_G) (cI cZ cJ : ClassId) (ta tk ov : Nat)  : vx_Mv l yN_Tally_count wN_Tally_count ({ frames := 0, cells := 0, slots := 0, locals := 0 }) D clN (tyN cI cZ cJ) [.ref ta] [(ta, .inr (9, [.int (nI tk), .int (nI ov)]))] (fun w => w = [(ta, .inr (9, [.int (nI (tk + 1)), .int (nI ov)]))]) := by
  refine vx_startV (cc := cN_Tally_count) (maxL := 1) (ret := none) (by decide) rfl (Nat.le_of_ble_eq_true rfl) ?_
  intro p_0 e_0 s m below meth c_0 A ls C hK hP hD hS hA hl
  obtain ⟨hx, hb, hr, hml, hown, hts, hlocks, hnm⟩ := id C
  have hown : s.vm.findClass "StepMachines$Tally" = some m.cls := hown
  have ht : ∀ w ∈ TB, w.before _ s = true := fun w h => hts w (List.mem_cons_of_mem _ h)
  have hl : lv_has ls 1 [(0, .ref ta)] := hl
  refine lv_aload_n hx hb dN_Tally_count_0 rfl (lv_at hl 0 rfl) ?_
  refine lv_dup hx hb dN_Tally_count_1 rfl ?_
  refine va_get (D := D) (ci := 9) (v := .int (nI tk)) (C := RN_Tally) (T := FN_Tally) (N := 2) hx hb ht fN_Tally hown hK hP 0 rfl rfl 0 (by decide) (ht _ mw_75) (fun _ h9 => h9) rfl dN_Tally_count_2 ?_
  refine lv_iconst (v := (nI 1)) hx hb dN_Tally_count_5 (by decide) ?_
  refine xn_add hx hb dN_Tally_count_6 ?_
  refine va_put (D := D) (ci := 9) (v := .int (nI (tk + 1))) (ty := .int) (C := RN_Tally) (T := FN_Tally) (N := 2) hx hb ht fN_Tally tN_Tally oN_Tally nN_Tally hown hK hP hD hS 0 rfl rfl 0 (by decide) (ht _ mw_75) (fun _ h9 => h9) rfl (by decide +kernel) (rfl) (rfl) (Nat.le_of_ble_eq_true rfl) dN_Tally_count_7 (fun H locs hP hD hS => ?_)
  have hP : va_P D clN [(ta, .inr (9, [.int (nI (tk + 1)), .int (nI ov)]))] H := hP
  have hD : va_D A [(ta, .inr (9, [.int (nI (tk + 1)), .int (nI ov)]))] := hD
  exact vx_vret C hK hP hD hS dN_Tally_count_10 (Nat.le_of_ble_eq_true rfl) (Nat.le_of_ble_eq_true rfl) (rfl)
set_option maxHeartbeats 4000000 in
set_option maxRecDepth 100000 in
/-- close(x): not too many -/
theorem kTally_close (l : Launch) (D : va_G) (cI cZ cJ : ClassId) (ta tk ov : Nat) (x : Nat) (hx0 : tk ≤ x) (hx1 : x < 2 ^ 31) : vx_Mv l yN_Tally_close wN_Tally_close ({ frames := 0, cells := 0, slots := 0, locals := 0 }) D clN (tyN cI cZ cJ) [.ref ta, .int (nI x)] [(ta, .inr (9, [.int (nI tk), .int (nI ov)]))] (fun w => w = [(ta, .inr (9, [.int (nI tk), .int (nI ov)]))]) := by
  refine vx_startV (cc := cN_Tally_close) (maxL := 2) (ret := none) (by decide) rfl (Nat.le_of_ble_eq_true rfl) ?_
  intro p_0 e_0 s m below meth c_0 A ls C hK hP hD hS hA hl
  obtain ⟨hx, hb, hr, hml, hown, hts, hlocks, hnm⟩ := id C
  have hown : s.vm.findClass "StepMachines$Tally" = some m.cls := hown
  have ht : ∀ w ∈ TB, w.before _ s = true := fun w h => hts w (List.mem_cons_of_mem _ h)
  have hl : lv_has ls 2 [(0, .ref ta), (1, .int (nI x))] := hl
  refine lv_aload_n hx hb dN_Tally_close_0 rfl (lv_at hl 0 rfl) ?_
  refine va_get (D := D) (ci := 9) (v := .int (nI tk)) (C := RN_Tally) (T := FN_Tally) (N := 2) hx hb ht fN_Tally hown hK hP 0 rfl rfl 0 (by decide) (ht _ mw_75) (fun _ h9 => h9) rfl dN_Tally_close_1 ?_
  refine lv_iload_n hx hb dN_Tally_close_4 rfl (lv_at hl 1 rfl) ?_
  refine xn_le (tgt := 18) hx hb dN_Tally_close_5 (by decide) (by omega) (by omega) (fun c_5_0 => ?_) (fun c_5_0 => ?_)
  · skip
    exact vx_vret C hK hP hD hS dN_Tally_close_18 (Nat.le_of_ble_eq_true rfl) (Nat.le_of_ble_eq_true rfl) (rfl)
  · skip
    exact absurd c_5_0 (by omega)
set_option maxHeartbeats 4000000 in
set_option maxRecDepth 100000 in
/-- empty() -/
theorem kRow_empty (l : Launch) (D : va_G) (cI cZ cJ : ClassId) (r rs rm ct tu : Nat)  : vx_Mv l yN_Row_empty wN_Row_empty ({ frames := 0, cells := 0, slots := 0, locals := 0 }) D clN (tyN cI cZ cJ) [.ref r] [(r, .inr (5, [.ref rs, .ref rm, .int (nI ct), .int (nI tu)]))] (fun w => w = [(r, .inr (5, [.ref rs, .ref rm, .int (nI 0), .int (nI (tu + 1))]))]) := by
  refine vx_startV (cc := cN_Row_empty) (maxL := 1) (ret := none) (by decide) rfl (Nat.le_of_ble_eq_true rfl) ?_
  intro p_0 e_0 s m below meth c_0 A ls C hK hP hD hS hA hl
  obtain ⟨hx, hb, hr, hml, hown, hts, hlocks, hnm⟩ := id C
  have hown : s.vm.findClass "StepMachines$Row" = some m.cls := hown
  have ht : ∀ w ∈ TB, w.before _ s = true := fun w h => hts w (List.mem_cons_of_mem _ h)
  have hl : lv_has ls 1 [(0, .ref r)] := hl
  refine lv_aload_n hx hb dN_Row_empty_0 rfl (lv_at hl 0 rfl) ?_
  refine lv_iconst (v := (nI 0)) hx hb dN_Row_empty_1 (by decide) ?_
  refine va_put (D := D) (ci := 5) (v := .int (nI 0)) (ty := .int) (C := RN_Row) (T := FN_Row) (N := 4) hx hb ht fN_Row tN_Row oN_Row nN_Row hown hK hP hD hS 0 rfl rfl 2 (by decide) (ht _ mw_111) (fun _ h9 => h9) rfl (by decide +kernel) (rfl) (rfl) (Nat.le_of_ble_eq_true rfl) dN_Row_empty_2 (fun H locs hP hD hS => ?_)
  have hP : va_P D clN [(r, .inr (5, [.ref rs, .ref rm, .int (nI 0), .int (nI tu)]))] H := hP
  have hD : va_D A [(r, .inr (5, [.ref rs, .ref rm, .int (nI 0), .int (nI tu)]))] := hD
  refine lv_aload_n hx hb dN_Row_empty_5 rfl (lv_at hl 0 rfl) ?_
  refine lv_dup hx hb dN_Row_empty_6 rfl ?_
  refine va_get (D := D) (ci := 5) (v := .int (nI tu)) (C := RN_Row) (T := FN_Row) (N := 4) hx hb ht fN_Row hown hK hP 0 rfl rfl 3 (by decide) (ht _ mw_112) (fun _ h9 => h9) rfl dN_Row_empty_7 ?_
  refine lv_iconst (v := (nI 1)) hx hb dN_Row_empty_10 (by decide) ?_
  refine xn_add hx hb dN_Row_empty_11 ?_
  refine va_put (D := D) (ci := 5) (v := .int (nI (tu + 1))) (ty := .int) (C := RN_Row) (T := FN_Row) (N := 4) hx hb ht fN_Row tN_Row oN_Row nN_Row hown hK hP hD hS 0 rfl rfl 3 (by decide) (ht _ mw_112) (fun _ h9 => h9) rfl (by decide +kernel) (rfl) (rfl) (Nat.le_of_ble_eq_true rfl) dN_Row_empty_12 (fun H locs hP hD hS => ?_)
  have hP : va_P D clN [(r, .inr (5, [.ref rs, .ref rm, .int (nI 0), .int (nI (tu + 1))]))] H := hP
  have hD : va_D A [(r, .inr (5, [.ref rs, .ref rm, .int (nI 0), .int (nI (tu + 1))]))] := hD
  exact vx_vret C hK hP hD hS dN_Row_empty_15 (Nat.le_of_ble_eq_true rfl) (Nat.le_of_ble_eq_true rfl) (rfl)
set_option maxHeartbeats 4000000 in
set_option maxRecDepth 100000 in
/-- meets(k) -/
theorem kRow_meets (l : Launch) (D : va_G) (cI cZ cJ : ClassId) (r rs rm ct tu : Nat) (me : Nat → Nat) (k : Nat) (hk : k < 200) (hme : ∀ j, me j ≤ tu) (htu : tu < 2 ^ 31) : vx_Mi l yN_Row_meets wN_Row_meets ({ frames := 0, cells := 0, slots := 0, locals := 0 }) D clN (tyN cI cZ cJ) [.ref r, .int (nI k)] [(r, .inr (5, [.ref rs, .ref rm, .int (nI ct), .int (nI tu)])), (rm, .inl (cI, 200, .inl (ni me)))] (fun x w => x = zi (decide (me k ≠ tu)) ∧ w = [(r, .inr (5, [.ref rs, .ref rm, .int (nI ct), .int (nI tu)])), (rm, .inl (cI, 200, .inl (ni (un me k tu))))]) := by
  refine vx_startI (cc := cN_Row_meets) (maxL := 2) (ret := (some .boolean)) (by decide) rfl (Nat.le_of_ble_eq_true rfl) ?_
  intro p_0 e_0 s m below meth c_0 A ls C hK hP hD hS hA hl
  obtain ⟨hx, hb, hr, hml, hown, hts, hlocks, hnm⟩ := id C
  have hown : s.vm.findClass "StepMachines$Row" = some m.cls := hown
  have ht : ∀ w ∈ TB, w.before _ s = true := fun w h => hts w (List.mem_cons_of_mem _ h)
  have hl : lv_has ls 2 [(0, .ref r), (1, .int (nI k))] := hl
  refine lv_iload_n hx hb dN_Row_meets_0 rfl (lv_at hl 1 rfl) ?_
  refine xn_lt0 (tgt := 24) hx hb dN_Row_meets_1 (by decide) (by omega) ?_
  refine lv_iload_n hx hb dN_Row_meets_4 rfl (lv_at hl 1 rfl) ?_
  refine lv_sipush (v := (nI 200)) hx hb dN_Row_meets_5 (by decide) ?_
  refine xn_ge (tgt := 24) hx hb dN_Row_meets_8 (by decide) (by omega) (by omega) (fun c_10008_1 => ?_) (fun c_10008_1 => ?_)
  · skip
    exact absurd c_10008_1 (by omega)
  · skip
    refine lv_aload_n hx hb dN_Row_meets_11 rfl (lv_at hl 0 rfl) ?_
    refine va_get (D := D) (ci := 5) (v := .ref rm) (C := RN_Row) (T := FN_Row) (N := 4) hx hb ht fN_Row hown hK hP 0 rfl rfl 1 (by decide) (ht _ mw_110) (fun _ h9 => h9) rfl dN_Row_meets_12 ?_
    refine lv_iload_n hx hb dN_Row_meets_15 rfl (lv_at hl 1 rfl) ?_
    refine xn_ald hx hb hK hP 1 0 rfl rfl dN_Row_meets_16 (by omega) (by omega) ?_
    refine lv_aload_n hx hb dN_Row_meets_17 rfl (lv_at hl 0 rfl) ?_
    refine va_get (D := D) (ci := 5) (v := .int (nI tu)) (C := RN_Row) (T := FN_Row) (N := 4) hx hb ht fN_Row hown hK hP 0 rfl rfl 3 (by decide) (ht _ mw_112) (fun _ h9 => h9) rfl dN_Row_meets_18 ?_
    refine xn_ne (tgt := 26) hx hb dN_Row_meets_21 (by decide) (by have := hme k; omega) (by omega) (fun c_10_2 => ?_) (fun c_10_2 => ?_)
    · skip
      refine lv_aload_n hx hb dN_Row_meets_26 rfl (lv_at hl 0 rfl) ?_
      refine va_get (D := D) (ci := 5) (v := .ref rm) (C := RN_Row) (T := FN_Row) (N := 4) hx hb ht fN_Row hown hK hP 0 rfl rfl 1 (by decide) (ht _ mw_110) (fun _ h9 => h9) rfl dN_Row_meets_27 ?_
      refine lv_iload_n hx hb dN_Row_meets_30 rfl (lv_at hl 1 rfl) ?_
      refine lv_aload_n hx hb dN_Row_meets_31 rfl (lv_at hl 0 rfl) ?_
      refine va_get (D := D) (ci := 5) (v := .int (nI tu)) (C := RN_Row) (T := FN_Row) (N := 4) hx hb ht fN_Row hown hK hP 0 rfl rfl 3 (by decide) (ht _ mw_112) (fun _ h9 => h9) rfl dN_Row_meets_32 ?_
      refine xn_ast hx hb hK hP hD hS 1 0 rfl rfl dN_Row_meets_35 (by omega) (by omega) (fun H locs hP hD hS => ?_)
      have hP : va_P D clN [(r, .inr (5, [.ref rs, .ref rm, .int (nI ct), .int (nI tu)])), (rm, .inl (cI, 200, .inl (ni (un me k tu))))] H := hP
      have hD : va_D A [(r, .inr (5, [.ref rs, .ref rm, .int (nI ct), .int (nI tu)])), (rm, .inl (cI, 200, .inl (ni (un me k tu))))] := hD
      refine lv_iconst (v := (nI 1)) hx hb dN_Row_meets_36 (by decide) ?_
      refine xn_top (y := zi true) rfl ?_
      exact vx_zret C hK hP hD hS dN_Row_meets_37 (Nat.le_of_ble_eq_true rfl) (Nat.le_of_ble_eq_true rfl) (zi_nar2 _) (⟨by simp [c_10_2], rfl⟩)
    · skip
      refine lv_iconst (v := (nI 0)) hx hb dN_Row_meets_24 (by decide) ?_
      refine xn_top (y := zi false) rfl ?_
      exact vx_zret C hK hP hD hS dN_Row_meets_25 (Nat.le_of_ble_eq_true rfl) (Nat.le_of_ble_eq_true rfl) (zi_nar2 _) (⟨by simp [c_10_2], by rw [un_same c_10_2]⟩)
set_option maxHeartbeats 4000000 in
set_option maxRecDepth 100000 in
/-- add(k) -/
theorem kRow_add (l : Launch) (D : va_G) (cI cZ cJ : ClassId) (r rs rm ct tu : Nat) (st : Nat → Nat) (k : Nat) (hct : ct < 200) : vx_Mv l yN_Row_add wN_Row_add ({ frames := 0, cells := 0, slots := 0, locals := 0 }) D clN (tyN cI cZ cJ) [.ref r, .int (nI k)] [(r, .inr (5, [.ref rs, .ref rm, .int (nI ct), .int (nI tu)])), (rs, .inl (cI, 200, .inl (ni st)))] (fun w => w = [(r, .inr (5, [.ref rs, .ref rm, .int (nI (ct + 1)), .int (nI tu)])), (rs, .inl (cI, 200, .inl (ni (un st ct k))))]) := by
  refine vx_startV (cc := cN_Row_add) (maxL := 2) (ret := none) (by decide) rfl (Nat.le_of_ble_eq_true rfl) ?_
  intro p_0 e_0 s m below meth c_0 A ls C hK hP hD hS hA hl
  obtain ⟨hx, hb, hr, hml, hown, hts, hlocks, hnm⟩ := id C
  have hown : s.vm.findClass "StepMachines$Row" = some m.cls := hown
  have ht : ∀ w ∈ TB, w.before _ s = true := fun w h => hts w (List.mem_cons_of_mem _ h)
  have hl : lv_has ls 2 [(0, .ref r), (1, .int (nI k))] := hl
  refine lv_aload_n hx hb dN_Row_add_0 rfl (lv_at hl 0 rfl) ?_
  refine va_get (D := D) (ci := 5) (v := .int (nI ct)) (C := RN_Row) (T := FN_Row) (N := 4) hx hb ht fN_Row hown hK hP 0 rfl rfl 2 (by decide) (ht _ mw_111) (fun _ h9 => h9) rfl dN_Row_add_1 ?_
  refine lv_sipush (v := (nI 200)) hx hb dN_Row_add_4 (by decide) ?_
  refine xn_ge (tgt := 30) hx hb dN_Row_add_7 (by decide) (by omega) (by omega) (fun c_7_0 => ?_) (fun c_7_0 => ?_)
  · skip
    exact absurd c_7_0 (by omega)
  · skip
    refine lv_aload_n hx hb dN_Row_add_10 rfl (lv_at hl 0 rfl) ?_
    refine va_get (D := D) (ci := 5) (v := .ref rs) (C := RN_Row) (T := FN_Row) (N := 4) hx hb ht fN_Row hown hK hP 0 rfl rfl 0 (by decide) (ht _ mw_109) (fun _ h9 => h9) rfl dN_Row_add_11 ?_
    refine lv_aload_n hx hb dN_Row_add_14 rfl (lv_at hl 0 rfl) ?_
    refine va_get (D := D) (ci := 5) (v := .int (nI ct)) (C := RN_Row) (T := FN_Row) (N := 4) hx hb ht fN_Row hown hK hP 0 rfl rfl 2 (by decide) (ht _ mw_111) (fun _ h9 => h9) rfl dN_Row_add_15 ?_
    refine lv_iload_n hx hb dN_Row_add_18 rfl (lv_at hl 1 rfl) ?_
    refine xn_ast hx hb hK hP hD hS 1 0 rfl rfl dN_Row_add_19 (by omega) (by omega) (fun H locs hP hD hS => ?_)
    have hP : va_P D clN [(r, .inr (5, [.ref rs, .ref rm, .int (nI ct), .int (nI tu)])), (rs, .inl (cI, 200, .inl (ni (un st ct k))))] H := hP
    have hD : va_D A [(r, .inr (5, [.ref rs, .ref rm, .int (nI ct), .int (nI tu)])), (rs, .inl (cI, 200, .inl (ni (un st ct k))))] := hD
    refine lv_aload_n hx hb dN_Row_add_20 rfl (lv_at hl 0 rfl) ?_
    refine lv_dup hx hb dN_Row_add_21 rfl ?_
    refine va_get (D := D) (ci := 5) (v := .int (nI ct)) (C := RN_Row) (T := FN_Row) (N := 4) hx hb ht fN_Row hown hK hP 0 rfl rfl 2 (by decide) (ht _ mw_111) (fun _ h9 => h9) rfl dN_Row_add_22 ?_
    refine lv_iconst (v := (nI 1)) hx hb dN_Row_add_25 (by decide) ?_
    refine xn_add hx hb dN_Row_add_26 ?_
    refine va_put (D := D) (ci := 5) (v := .int (nI (ct + 1))) (ty := .int) (C := RN_Row) (T := FN_Row) (N := 4) hx hb ht fN_Row tN_Row oN_Row nN_Row hown hK hP hD hS 0 rfl rfl 2 (by decide) (ht _ mw_111) (fun _ h9 => h9) rfl (by decide +kernel) (rfl) (rfl) (Nat.le_of_ble_eq_true rfl) dN_Row_add_27 (fun H locs hP hD hS => ?_)
    have hP : va_P D clN [(r, .inr (5, [.ref rs, .ref rm, .int (nI (ct + 1)), .int (nI tu)])), (rs, .inl (cI, 200, .inl (ni (un st ct k))))] H := hP
    have hD : va_D A [(r, .inr (5, [.ref rs, .ref rm, .int (nI (ct + 1)), .int (nI tu)])), (rs, .inl (cI, 200, .inl (ni (un st ct k))))] := hD
    exact vx_vret C hK hP hD hS dN_Row_add_30 (Nat.le_of_ble_eq_true rfl) (Nat.le_of_ble_eq_true rfl) (rfl)
set_option maxHeartbeats 4000000 in
set_option maxRecDepth 100000 in
/-- count() -/
theorem kRow_count (l : Launch) (D : va_G) (cI cZ cJ : ClassId) (r rs rm ct tu : Nat)  : vx_Mi l yN_Row_count wN_Row_count ({ frames := 0, cells := 0, slots := 0, locals := 0 }) D clN (tyN cI cZ cJ) [.ref r] [(r, .inr (5, [.ref rs, .ref rm, .int (nI ct), .int (nI tu)]))] (fun x w => x = nI ct ∧ w = [(r, .inr (5, [.ref rs, .ref rm, .int (nI ct), .int (nI tu)]))]) := by
  refine vx_startI (cc := cN_Row_count) (maxL := 1) (ret := (some .int)) (by decide) rfl (Nat.le_of_ble_eq_true rfl) ?_
  intro p_0 e_0 s m below meth c_0 A ls C hK hP hD hS hA hl
  obtain ⟨hx, hb, hr, hml, hown, hts, hlocks, hnm⟩ := id C
  have hown : s.vm.findClass "StepMachines$Row" = some m.cls := hown
  have ht : ∀ w ∈ TB, w.before _ s = true := fun w h => hts w (List.mem_cons_of_mem _ h)
  have hl : lv_has ls 1 [(0, .ref r)] := hl
  refine lv_aload_n hx hb dN_Row_count_0 rfl (lv_at hl 0 rfl) ?_
  refine va_get (D := D) (ci := 5) (v := .int (nI ct)) (C := RN_Row) (T := FN_Row) (N := 4) hx hb ht fN_Row hown hK hP 0 rfl rfl 2 (by decide) (ht _ mw_111) (fun _ h9 => h9) rfl dN_Row_count_1 ?_
  exact vx_iret C hK hP hD hS dN_Row_count_4 (Nat.le_of_ble_eq_true rfl) (Nat.le_of_ble_eq_true rfl) (⟨rfl, rfl⟩)
set_option maxHeartbeats 4000000 in
set_option maxRecDepth 100000 in
/-- get(i) -/
theorem kRow_get (l : Launch) (D : va_G) (cI cZ cJ : ClassId) (r rs rm ct tu : Nat) (st : Nat → Nat) (i : Nat) (hi : i < ct) (hct : ct ≤ 200) : vx_Mi l yN_Row_get wN_Row_get ({ frames := 0, cells := 0, slots := 0, locals := 0 }) D clN (tyN cI cZ cJ) [.ref r, .int (nI i)] [(r, .inr (5, [.ref rs, .ref rm, .int (nI ct), .int (nI tu)])), (rs, .inl (cI, 200, .inl (ni st)))] (fun x w => x = nI (st i) ∧ w = [(r, .inr (5, [.ref rs, .ref rm, .int (nI ct), .int (nI tu)])), (rs, .inl (cI, 200, .inl (ni st)))]) := by
  refine vx_startI (cc := cN_Row_get) (maxL := 2) (ret := (some .int)) (by decide) rfl (Nat.le_of_ble_eq_true rfl) ?_
  intro p_0 e_0 s m below meth c_0 A ls C hK hP hD hS hA hl
  obtain ⟨hx, hb, hr, hml, hown, hts, hlocks, hnm⟩ := id C
  have hown : s.vm.findClass "StepMachines$Row" = some m.cls := hown
  have ht : ∀ w ∈ TB, w.before _ s = true := fun w h => hts w (List.mem_cons_of_mem _ h)
  have hl : lv_has ls 2 [(0, .ref r), (1, .int (nI i))] := hl
  refine lv_iload_n hx hb dN_Row_get_0 rfl (lv_at hl 1 rfl) ?_
  refine xn_lt0 (tgt := 21) hx hb dN_Row_get_1 (by decide) (by omega) ?_
  refine lv_iload_n hx hb dN_Row_get_4 rfl (lv_at hl 1 rfl) ?_
  refine lv_aload_n hx hb dN_Row_get_5 rfl (lv_at hl 0 rfl) ?_
  refine va_get (D := D) (ci := 5) (v := .int (nI ct)) (C := RN_Row) (T := FN_Row) (N := 4) hx hb ht fN_Row hown hK hP 0 rfl rfl 2 (by decide) (ht _ mw_111) (fun _ h9 => h9) rfl dN_Row_get_6 ?_
  refine xn_ge (tgt := 21) hx hb dN_Row_get_9 (by decide) (by omega) (by omega) (fun c_9_1 => ?_) (fun c_9_1 => ?_)
  · skip
    exact absurd c_9_1 (by omega)
  · skip
    refine lv_aload_n hx hb dN_Row_get_12 rfl (lv_at hl 0 rfl) ?_
    refine va_get (D := D) (ci := 5) (v := .ref rs) (C := RN_Row) (T := FN_Row) (N := 4) hx hb ht fN_Row hown hK hP 0 rfl rfl 0 (by decide) (ht _ mw_109) (fun _ h9 => h9) rfl dN_Row_get_13 ?_
    refine lv_iload_n hx hb dN_Row_get_16 rfl (lv_at hl 1 rfl) ?_
    refine xn_ald hx hb hK hP 1 0 rfl rfl dN_Row_get_17 (by omega) (by omega) ?_
    refine lv_goto (tgt := 22) hx hb dN_Row_get_18 (by decide) ?_
    exact vx_iret C hK hP hD hS dN_Row_get_22 (Nat.le_of_ble_eq_true rfl) (Nat.le_of_ble_eq_true rfl) (⟨rfl, rfl⟩)
set_option maxHeartbeats 4000000 in
set_option maxRecDepth 100000 in
/-- isWord(x) -/
theorem kSubject_isWord (l : Launch) (D : va_G) (cI cZ cJ : ClassId) (x : Int32)  : vx_Mi l yN_Subject_isWord wN_Subject_isWord ({ frames := 0, cells := 0, slots := 0, locals := 0 }) D clN (tyN cI cZ cJ) [.int x] [] (fun r w => r = zi (isWI x) ∧ w = []) := by
  refine vx_startI (cc := cN_Subject_isWord) (maxL := 1) (ret := (some .boolean)) (by decide) rfl (Nat.le_of_ble_eq_true rfl) ?_
  intro p_0 e_0 s m below meth c_0 A ls C hK hP hD hS hA hl
  obtain ⟨hx, hb, hr, hml, hown, hts, hlocks, hnm⟩ := id C
  have hown : s.vm.findClass "StepMachines$Subject" = some m.cls := hown
  have ht : ∀ w ∈ TB, w.before _ s = true := fun w h => hts w (List.mem_cons_of_mem _ h)
  have hl : lv_has ls 1 [(0, .int x)] := hl
  refine lv_iload_n hx hb dN_Subject_isWord_0 rfl (lv_at hl 0 rfl) ?_
  refine lv_bipush (v := (nI 48)) hx hb dN_Subject_isWord_1 (by decide) ?_
  refine lv_icmp_lt (tgt := 12) hx hb dN_Subject_isWord_3 (by decide) (fun c_3_0 => ?_) (fun c_3_0 => ?_)
  · skip
    refine lv_iload_n hx hb dN_Subject_isWord_12 rfl (lv_at hl 0 rfl) ?_
    refine lv_bipush (v := (nI 65)) hx hb dN_Subject_isWord_13 (by decide) ?_
    refine lv_icmp_lt (tgt := 24) hx hb dN_Subject_isWord_15 (by decide) (fun c_15_1 => ?_) (fun c_15_1 => ?_)
    · skip
      refine lv_iload_n hx hb dN_Subject_isWord_24 rfl (lv_at hl 0 rfl) ?_
      refine lv_bipush (v := (nI 97)) hx hb dN_Subject_isWord_25 (by decide) ?_
      refine lv_icmp_lt (tgt := 36) hx hb dN_Subject_isWord_27 (by decide) (fun c_27_2 => ?_) (fun c_27_2 => ?_)
      · skip
        refine lv_iload_n hx hb dN_Subject_isWord_36 rfl (lv_at hl 0 rfl) ?_
        refine lv_bipush (v := (nI 95)) hx hb dN_Subject_isWord_37 (by decide) ?_
        refine lv_icmp_ne (tgt := 46) hx hb dN_Subject_isWord_39 (by decide) (fun c_39_3 => ?_) (fun c_39_3 => ?_)
        · skip
          refine lv_iconst (v := (nI 0)) hx hb dN_Subject_isWord_46 (by decide) ?_
          refine xn_top (y := zi false) rfl ?_
          exact vx_zret C hK hP hD hS dN_Subject_isWord_47 (Nat.le_of_ble_eq_true rfl) (Nat.le_of_ble_eq_true rfl) (zi_nar2 _) (⟨by simp [isWI, c_3_0, c_15_1, c_27_2, c_39_3], rfl⟩)
        · skip
          refine lv_iconst (v := (nI 1)) hx hb dN_Subject_isWord_42 (by decide) ?_
          refine lv_goto (tgt := 47) hx hb dN_Subject_isWord_43 (by decide) ?_
          refine xn_top (y := zi true) rfl ?_
          exact vx_zret C hK hP hD hS dN_Subject_isWord_47 (Nat.le_of_ble_eq_true rfl) (Nat.le_of_ble_eq_true rfl) (zi_nar2 _) (⟨by simp [isWI, c_3_0, c_15_1, c_27_2, c_39_3], rfl⟩)
      · skip
        refine lv_iload_n hx hb dN_Subject_isWord_30 rfl (lv_at hl 0 rfl) ?_
        refine lv_bipush (v := (nI 122)) hx hb dN_Subject_isWord_31 (by decide) ?_
        refine lv_icmp_le (tgt := 42) hx hb dN_Subject_isWord_33 (by decide) (fun c_33_4 => ?_) (fun c_33_4 => ?_)
        · skip
          refine lv_iconst (v := (nI 1)) hx hb dN_Subject_isWord_42 (by decide) ?_
          refine lv_goto (tgt := 47) hx hb dN_Subject_isWord_43 (by decide) ?_
          refine xn_top (y := zi true) rfl ?_
          exact vx_zret C hK hP hD hS dN_Subject_isWord_47 (Nat.le_of_ble_eq_true rfl) (Nat.le_of_ble_eq_true rfl) (zi_nar2 _) (⟨by simp [isWI, c_3_0, c_15_1, c_27_2, c_33_4], rfl⟩)
        · skip
          refine lv_iload_n hx hb dN_Subject_isWord_36 rfl (lv_at hl 0 rfl) ?_
          refine lv_bipush (v := (nI 95)) hx hb dN_Subject_isWord_37 (by decide) ?_
          refine lv_icmp_ne (tgt := 46) hx hb dN_Subject_isWord_39 (by decide) (fun c_39_5 => ?_) (fun c_39_5 => ?_)
          · skip
            refine lv_iconst (v := (nI 0)) hx hb dN_Subject_isWord_46 (by decide) ?_
            refine xn_top (y := zi false) rfl ?_
            exact vx_zret C hK hP hD hS dN_Subject_isWord_47 (Nat.le_of_ble_eq_true rfl) (Nat.le_of_ble_eq_true rfl) (zi_nar2 _) (⟨by simp [isWI, c_3_0, c_15_1, c_27_2, c_33_4, c_39_5], rfl⟩)
          · skip
            refine lv_iconst (v := (nI 1)) hx hb dN_Subject_isWord_42 (by decide) ?_
            refine lv_goto (tgt := 47) hx hb dN_Subject_isWord_43 (by decide) ?_
            refine xn_top (y := zi true) rfl ?_
            exact vx_zret C hK hP hD hS dN_Subject_isWord_47 (Nat.le_of_ble_eq_true rfl) (Nat.le_of_ble_eq_true rfl) (zi_nar2 _) (⟨by simp [isWI, c_3_0, c_15_1, c_27_2, c_33_4, c_39_5], rfl⟩)
    · skip
      refine lv_iload_n hx hb dN_Subject_isWord_18 rfl (lv_at hl 0 rfl) ?_
      refine lv_bipush (v := (nI 90)) hx hb dN_Subject_isWord_19 (by decide) ?_
      refine lv_icmp_le (tgt := 42) hx hb dN_Subject_isWord_21 (by decide) (fun c_21_6 => ?_) (fun c_21_6 => ?_)
      · skip
        refine lv_iconst (v := (nI 1)) hx hb dN_Subject_isWord_42 (by decide) ?_
        refine lv_goto (tgt := 47) hx hb dN_Subject_isWord_43 (by decide) ?_
        refine xn_top (y := zi true) rfl ?_
        exact vx_zret C hK hP hD hS dN_Subject_isWord_47 (Nat.le_of_ble_eq_true rfl) (Nat.le_of_ble_eq_true rfl) (zi_nar2 _) (⟨by simp [isWI, c_3_0, c_15_1, c_21_6], rfl⟩)
      · skip
        refine lv_iload_n hx hb dN_Subject_isWord_24 rfl (lv_at hl 0 rfl) ?_
        refine lv_bipush (v := (nI 97)) hx hb dN_Subject_isWord_25 (by decide) ?_
        refine lv_icmp_lt (tgt := 36) hx hb dN_Subject_isWord_27 (by decide) (fun c_27_7 => ?_) (fun c_27_7 => ?_)
        · skip
          refine lv_iload_n hx hb dN_Subject_isWord_36 rfl (lv_at hl 0 rfl) ?_
          refine lv_bipush (v := (nI 95)) hx hb dN_Subject_isWord_37 (by decide) ?_
          refine lv_icmp_ne (tgt := 46) hx hb dN_Subject_isWord_39 (by decide) (fun c_39_8 => ?_) (fun c_39_8 => ?_)
          · skip
            refine lv_iconst (v := (nI 0)) hx hb dN_Subject_isWord_46 (by decide) ?_
            refine xn_top (y := zi false) rfl ?_
            exact vx_zret C hK hP hD hS dN_Subject_isWord_47 (Nat.le_of_ble_eq_true rfl) (Nat.le_of_ble_eq_true rfl) (zi_nar2 _) (⟨by simp [isWI, c_3_0, c_15_1, c_21_6, c_27_7, c_39_8], rfl⟩)
          · skip
            refine lv_iconst (v := (nI 1)) hx hb dN_Subject_isWord_42 (by decide) ?_
            refine lv_goto (tgt := 47) hx hb dN_Subject_isWord_43 (by decide) ?_
            refine xn_top (y := zi true) rfl ?_
            exact vx_zret C hK hP hD hS dN_Subject_isWord_47 (Nat.le_of_ble_eq_true rfl) (Nat.le_of_ble_eq_true rfl) (zi_nar2 _) (⟨by simp [isWI, c_3_0, c_15_1, c_21_6, c_27_7, c_39_8], rfl⟩)
        · skip
          refine lv_iload_n hx hb dN_Subject_isWord_30 rfl (lv_at hl 0 rfl) ?_
          refine lv_bipush (v := (nI 122)) hx hb dN_Subject_isWord_31 (by decide) ?_
          refine lv_icmp_le (tgt := 42) hx hb dN_Subject_isWord_33 (by decide) (fun c_33_9 => ?_) (fun c_33_9 => ?_)
          · skip
            refine lv_iconst (v := (nI 1)) hx hb dN_Subject_isWord_42 (by decide) ?_
            refine lv_goto (tgt := 47) hx hb dN_Subject_isWord_43 (by decide) ?_
            refine xn_top (y := zi true) rfl ?_
            exact vx_zret C hK hP hD hS dN_Subject_isWord_47 (Nat.le_of_ble_eq_true rfl) (Nat.le_of_ble_eq_true rfl) (zi_nar2 _) (⟨by simp [isWI, c_3_0, c_15_1, c_21_6, c_27_7, c_33_9], rfl⟩)
          · skip
            refine lv_iload_n hx hb dN_Subject_isWord_36 rfl (lv_at hl 0 rfl) ?_
            refine lv_bipush (v := (nI 95)) hx hb dN_Subject_isWord_37 (by decide) ?_
            refine lv_icmp_ne (tgt := 46) hx hb dN_Subject_isWord_39 (by decide) (fun c_39_10 => ?_) (fun c_39_10 => ?_)
            · skip
              refine lv_iconst (v := (nI 0)) hx hb dN_Subject_isWord_46 (by decide) ?_
              refine xn_top (y := zi false) rfl ?_
              exact vx_zret C hK hP hD hS dN_Subject_isWord_47 (Nat.le_of_ble_eq_true rfl) (Nat.le_of_ble_eq_true rfl) (zi_nar2 _) (⟨by simp [isWI, c_3_0, c_15_1, c_21_6, c_27_7, c_33_9, c_39_10], rfl⟩)
            · skip
              refine lv_iconst (v := (nI 1)) hx hb dN_Subject_isWord_42 (by decide) ?_
              refine lv_goto (tgt := 47) hx hb dN_Subject_isWord_43 (by decide) ?_
              refine xn_top (y := zi true) rfl ?_
              exact vx_zret C hK hP hD hS dN_Subject_isWord_47 (Nat.le_of_ble_eq_true rfl) (Nat.le_of_ble_eq_true rfl) (zi_nar2 _) (⟨by simp [isWI, c_3_0, c_15_1, c_21_6, c_27_7, c_33_9, c_39_10], rfl⟩)
  · skip
    refine lv_iload_n hx hb dN_Subject_isWord_6 rfl (lv_at hl 0 rfl) ?_
    refine lv_bipush (v := (nI 57)) hx hb dN_Subject_isWord_7 (by decide) ?_
    refine lv_icmp_le (tgt := 42) hx hb dN_Subject_isWord_9 (by decide) (fun c_9_11 => ?_) (fun c_9_11 => ?_)
    · skip
      refine lv_iconst (v := (nI 1)) hx hb dN_Subject_isWord_42 (by decide) ?_
      refine lv_goto (tgt := 47) hx hb dN_Subject_isWord_43 (by decide) ?_
      refine xn_top (y := zi true) rfl ?_
      exact vx_zret C hK hP hD hS dN_Subject_isWord_47 (Nat.le_of_ble_eq_true rfl) (Nat.le_of_ble_eq_true rfl) (zi_nar2 _) (⟨by simp [isWI, c_3_0, c_9_11], rfl⟩)
    · skip
      refine lv_iload_n hx hb dN_Subject_isWord_12 rfl (lv_at hl 0 rfl) ?_
      refine lv_bipush (v := (nI 65)) hx hb dN_Subject_isWord_13 (by decide) ?_
      refine lv_icmp_lt (tgt := 24) hx hb dN_Subject_isWord_15 (by decide) (fun c_15_12 => ?_) (fun c_15_12 => ?_)
      · skip
        refine lv_iload_n hx hb dN_Subject_isWord_24 rfl (lv_at hl 0 rfl) ?_
        refine lv_bipush (v := (nI 97)) hx hb dN_Subject_isWord_25 (by decide) ?_
        refine lv_icmp_lt (tgt := 36) hx hb dN_Subject_isWord_27 (by decide) (fun c_27_13 => ?_) (fun c_27_13 => ?_)
        · skip
          refine lv_iload_n hx hb dN_Subject_isWord_36 rfl (lv_at hl 0 rfl) ?_
          refine lv_bipush (v := (nI 95)) hx hb dN_Subject_isWord_37 (by decide) ?_
          refine lv_icmp_ne (tgt := 46) hx hb dN_Subject_isWord_39 (by decide) (fun c_39_14 => ?_) (fun c_39_14 => ?_)
          · skip
            refine lv_iconst (v := (nI 0)) hx hb dN_Subject_isWord_46 (by decide) ?_
            refine xn_top (y := zi false) rfl ?_
            exact vx_zret C hK hP hD hS dN_Subject_isWord_47 (Nat.le_of_ble_eq_true rfl) (Nat.le_of_ble_eq_true rfl) (zi_nar2 _) (⟨by simp [isWI, c_3_0, c_9_11, c_15_12, c_27_13, c_39_14], rfl⟩)
          · skip
            refine lv_iconst (v := (nI 1)) hx hb dN_Subject_isWord_42 (by decide) ?_
            refine lv_goto (tgt := 47) hx hb dN_Subject_isWord_43 (by decide) ?_
            refine xn_top (y := zi true) rfl ?_
            exact vx_zret C hK hP hD hS dN_Subject_isWord_47 (Nat.le_of_ble_eq_true rfl) (Nat.le_of_ble_eq_true rfl) (zi_nar2 _) (⟨by simp [isWI, c_3_0, c_9_11, c_15_12, c_27_13, c_39_14], rfl⟩)
        · skip
          refine lv_iload_n hx hb dN_Subject_isWord_30 rfl (lv_at hl 0 rfl) ?_
          refine lv_bipush (v := (nI 122)) hx hb dN_Subject_isWord_31 (by decide) ?_
          refine lv_icmp_le (tgt := 42) hx hb dN_Subject_isWord_33 (by decide) (fun c_33_15 => ?_) (fun c_33_15 => ?_)
          · skip
            refine lv_iconst (v := (nI 1)) hx hb dN_Subject_isWord_42 (by decide) ?_
            refine lv_goto (tgt := 47) hx hb dN_Subject_isWord_43 (by decide) ?_
            refine xn_top (y := zi true) rfl ?_
            exact vx_zret C hK hP hD hS dN_Subject_isWord_47 (Nat.le_of_ble_eq_true rfl) (Nat.le_of_ble_eq_true rfl) (zi_nar2 _) (⟨by simp [isWI, c_3_0, c_9_11, c_15_12, c_27_13, c_33_15], rfl⟩)
          · skip
            refine lv_iload_n hx hb dN_Subject_isWord_36 rfl (lv_at hl 0 rfl) ?_
            refine lv_bipush (v := (nI 95)) hx hb dN_Subject_isWord_37 (by decide) ?_
            refine lv_icmp_ne (tgt := 46) hx hb dN_Subject_isWord_39 (by decide) (fun c_39_16 => ?_) (fun c_39_16 => ?_)
            · skip
              refine lv_iconst (v := (nI 0)) hx hb dN_Subject_isWord_46 (by decide) ?_
              refine xn_top (y := zi false) rfl ?_
              exact vx_zret C hK hP hD hS dN_Subject_isWord_47 (Nat.le_of_ble_eq_true rfl) (Nat.le_of_ble_eq_true rfl) (zi_nar2 _) (⟨by simp [isWI, c_3_0, c_9_11, c_15_12, c_27_13, c_33_15, c_39_16], rfl⟩)
            · skip
              refine lv_iconst (v := (nI 1)) hx hb dN_Subject_isWord_42 (by decide) ?_
              refine lv_goto (tgt := 47) hx hb dN_Subject_isWord_43 (by decide) ?_
              refine xn_top (y := zi true) rfl ?_
              exact vx_zret C hK hP hD hS dN_Subject_isWord_47 (Nat.le_of_ble_eq_true rfl) (Nat.le_of_ble_eq_true rfl) (zi_nar2 _) (⟨by simp [isWI, c_3_0, c_9_11, c_15_12, c_27_13, c_33_15, c_39_16], rfl⟩)
      · skip
        refine lv_iload_n hx hb dN_Subject_isWord_18 rfl (lv_at hl 0 rfl) ?_
        refine lv_bipush (v := (nI 90)) hx hb dN_Subject_isWord_19 (by decide) ?_
        refine lv_icmp_le (tgt := 42) hx hb dN_Subject_isWord_21 (by decide) (fun c_21_17 => ?_) (fun c_21_17 => ?_)
        · skip
          refine lv_iconst (v := (nI 1)) hx hb dN_Subject_isWord_42 (by decide) ?_
          refine lv_goto (tgt := 47) hx hb dN_Subject_isWord_43 (by decide) ?_
          refine xn_top (y := zi true) rfl ?_
          exact vx_zret C hK hP hD hS dN_Subject_isWord_47 (Nat.le_of_ble_eq_true rfl) (Nat.le_of_ble_eq_true rfl) (zi_nar2 _) (⟨by simp [isWI, c_3_0, c_9_11, c_15_12, c_21_17], rfl⟩)
        · skip
          refine lv_iload_n hx hb dN_Subject_isWord_24 rfl (lv_at hl 0 rfl) ?_
          refine lv_bipush (v := (nI 97)) hx hb dN_Subject_isWord_25 (by decide) ?_
          refine lv_icmp_lt (tgt := 36) hx hb dN_Subject_isWord_27 (by decide) (fun c_27_18 => ?_) (fun c_27_18 => ?_)
          · skip
            refine lv_iload_n hx hb dN_Subject_isWord_36 rfl (lv_at hl 0 rfl) ?_
            refine lv_bipush (v := (nI 95)) hx hb dN_Subject_isWord_37 (by decide) ?_
            refine lv_icmp_ne (tgt := 46) hx hb dN_Subject_isWord_39 (by decide) (fun c_39_19 => ?_) (fun c_39_19 => ?_)
            · skip
              refine lv_iconst (v := (nI 0)) hx hb dN_Subject_isWord_46 (by decide) ?_
              refine xn_top (y := zi false) rfl ?_
              exact vx_zret C hK hP hD hS dN_Subject_isWord_47 (Nat.le_of_ble_eq_true rfl) (Nat.le_of_ble_eq_true rfl) (zi_nar2 _) (⟨by simp [isWI, c_3_0, c_9_11, c_15_12, c_21_17, c_27_18, c_39_19], rfl⟩)
            · skip
              refine lv_iconst (v := (nI 1)) hx hb dN_Subject_isWord_42 (by decide) ?_
              refine lv_goto (tgt := 47) hx hb dN_Subject_isWord_43 (by decide) ?_
              refine xn_top (y := zi true) rfl ?_
              exact vx_zret C hK hP hD hS dN_Subject_isWord_47 (Nat.le_of_ble_eq_true rfl) (Nat.le_of_ble_eq_true rfl) (zi_nar2 _) (⟨by simp [isWI, c_3_0, c_9_11, c_15_12, c_21_17, c_27_18, c_39_19], rfl⟩)
          · skip
            refine lv_iload_n hx hb dN_Subject_isWord_30 rfl (lv_at hl 0 rfl) ?_
            refine lv_bipush (v := (nI 122)) hx hb dN_Subject_isWord_31 (by decide) ?_
            refine lv_icmp_le (tgt := 42) hx hb dN_Subject_isWord_33 (by decide) (fun c_33_20 => ?_) (fun c_33_20 => ?_)
            · skip
              refine lv_iconst (v := (nI 1)) hx hb dN_Subject_isWord_42 (by decide) ?_
              refine lv_goto (tgt := 47) hx hb dN_Subject_isWord_43 (by decide) ?_
              refine xn_top (y := zi true) rfl ?_
              exact vx_zret C hK hP hD hS dN_Subject_isWord_47 (Nat.le_of_ble_eq_true rfl) (Nat.le_of_ble_eq_true rfl) (zi_nar2 _) (⟨by simp [isWI, c_3_0, c_9_11, c_15_12, c_21_17, c_27_18, c_33_20], rfl⟩)
            · skip
              refine lv_iload_n hx hb dN_Subject_isWord_36 rfl (lv_at hl 0 rfl) ?_
              refine lv_bipush (v := (nI 95)) hx hb dN_Subject_isWord_37 (by decide) ?_
              refine lv_icmp_ne (tgt := 46) hx hb dN_Subject_isWord_39 (by decide) (fun c_39_21 => ?_) (fun c_39_21 => ?_)
              · skip
                refine lv_iconst (v := (nI 0)) hx hb dN_Subject_isWord_46 (by decide) ?_
                refine xn_top (y := zi false) rfl ?_
                exact vx_zret C hK hP hD hS dN_Subject_isWord_47 (Nat.le_of_ble_eq_true rfl) (Nat.le_of_ble_eq_true rfl) (zi_nar2 _) (⟨by simp [isWI, c_3_0, c_9_11, c_15_12, c_21_17, c_27_18, c_33_20, c_39_21], rfl⟩)
              · skip
                refine lv_iconst (v := (nI 1)) hx hb dN_Subject_isWord_42 (by decide) ?_
                refine lv_goto (tgt := 47) hx hb dN_Subject_isWord_43 (by decide) ?_
                refine xn_top (y := zi true) rfl ?_
                exact vx_zret C hK hP hD hS dN_Subject_isWord_47 (Nat.le_of_ble_eq_true rfl) (Nat.le_of_ble_eq_true rfl) (zi_nar2 _) (⟨by simp [isWI, c_3_0, c_9_11, c_15_12, c_21_17, c_27_18, c_33_20, c_39_21], rfl⟩)
set_option maxHeartbeats 4000000 in
set_option maxRecDepth 100000 in
/-- whatIsSo(x, y) -/
theorem kSubject_whatIsSo (l : Launch) (D : va_G) (cI cZ cJ : ClassId) (x y : Int32)  : vx_Mi l yN_Subject_whatIsSo wN_Subject_whatIsSo ({ frames := 1, cells := 0, slots := 0, locals := 20 }) D clN (tyN cI cZ cJ) [.int x, .int y] [] (fun r w => r = nI (soW x y) ∧ w = []) := by
  refine vx_startI (cc := cN_Subject_whatIsSo) (maxL := 3) (ret := (some .int)) (by decide) rfl (Nat.le_of_ble_eq_true rfl) ?_
  intro p_0 e_0 s m below meth c_0 A ls C hK hP hD hS hA hl
  obtain ⟨hx, hb, hr, hml, hown, hts, hlocks, hnm⟩ := id C
  have hown : s.vm.findClass "StepMachines$Subject" = some m.cls := hown
  have ht : ∀ w ∈ TB, w.before _ s = true := fun w h => hts w (List.mem_cons_of_mem _ h)
  have hl : lv_has ls 3 [(0, .int x), (1, .int y)] := hl
  refine lv_iload_n hx hb dN_Subject_whatIsSo_0 rfl (lv_at hl 0 rfl) ?_
  refine vx_calli (wc := []) (wr := []) [] [] hK hP hD hS hA rfl rfl (by decide) (by decide) (va_runS (As := [.int x]) (rest := []) ⟨hx, hb, hml, hown, ht⟩ (kSubject_isWord l D cI cZ cJ x _) (⟨callB_of 1 ht (TB_in2 gN_Subject_isWord) rfl rfl rfl (ht _ mw_3) (ht _ mw_719) (by decide +kernel) ⟨Nat.le_of_ble_eq_true rfl, Nat.le_of_ble_eq_true rfl⟩, ht _ mw_720⟩) (vx_preS [] hK hP hD (by decide) rfl) rfl rfl hl.1 rfl (lv_room (Nat.le_of_ble_eq_true rfl)) dN_Subject_whatIsSo_1 ⟨Nat.le_of_ble_eq_true rfl, Nat.le_of_ble_eq_true rfl⟩) (fun r1 w1 H locs hq hP hD hS => ?_)
  obtain ⟨rfl, rfl⟩ := hq
  have hP : va_P D clN [] H := hP.sub [] rfl
  have hD : va_D A [] := hD.sub [] (by decide) rfl
  refine lv_iload_n hx hb dN_Subject_whatIsSo_4 rfl (lv_at hl 1 rfl) ?_
  refine vx_calli (wc := []) (wr := []) [] [] hK hP hD hS hA rfl rfl (by decide) (by decide) (va_runS (As := [.int y]) (rest := [.int (zi (isWI x))]) ⟨hx, hb, hml, hown, ht⟩ (kSubject_isWord l D cI cZ cJ y _) (⟨callB_of 1 ht (TB_in2 gN_Subject_isWord) rfl rfl rfl (ht _ mw_3) (ht _ mw_719) (by decide +kernel) ⟨Nat.le_of_ble_eq_true rfl, Nat.le_of_ble_eq_true rfl⟩, ht _ mw_720⟩) (vx_preS [] hK hP hD (by decide) rfl) rfl rfl hl.1 rfl (lv_room (Nat.le_of_ble_eq_true rfl)) dN_Subject_whatIsSo_5 ⟨Nat.le_of_ble_eq_true rfl, Nat.le_of_ble_eq_true rfl⟩) (fun r1 w1 H locs hq hP hD hS => ?_)
  obtain ⟨rfl, rfl⟩ := hq
  have hP : va_P D clN [] H := hP.sub [] rfl
  have hD : va_D A [] := hD.sub [] (by decide) rfl
  refine lv_icmp_eq (tgt := 16) hx hb dN_Subject_whatIsSo_8 (by decide) (fun c_8_0 => ?_) (fun c_8_0 => ?_)
  · skip
    rw [zi_eq] at c_8_0
    refine lv_bipush (v := (nI 32)) hx hb dN_Subject_whatIsSo_16 (by decide) ?_
    refine lv_istore_n (lv' := [(2, .int (nI 32)), (0, .int x), (1, .int y)]) hx hb dN_Subject_whatIsSo_18 rfl hl (by decide) rfl (fun ls hl => ?_)
    refine lv_iload_n hx hb dN_Subject_whatIsSo_19 rfl (lv_at hl 1 rfl) ?_
    refine lv_iconst (v := (-1)) hx hb dN_Subject_whatIsSo_20 (by decide) ?_
    refine lv_icmp_ne (tgt := 28) hx hb dN_Subject_whatIsSo_21 (by decide) (fun c_21_1 => ?_) (fun c_21_1 => ?_)
    · skip
      refine lv_iload_n hx hb dN_Subject_whatIsSo_28 rfl (lv_at hl 2 rfl) ?_
      refine lv_iconst (v := (-1)) hx hb dN_Subject_whatIsSo_29 (by decide) ?_
      refine lv_icmp_ne (tgt := 38) hx hb dN_Subject_whatIsSo_30 (by decide) (fun c_30_2 => ?_) (fun c_30_2 => ?_)
      · skip
        refine lv_iload_n hx hb dN_Subject_whatIsSo_38 rfl (lv_at hl 1 rfl) ?_
        refine lv_bipush (v := (nI 10)) hx hb dN_Subject_whatIsSo_39 (by decide) ?_
        refine lv_icmp_ne (tgt := 48) hx hb dN_Subject_whatIsSo_41 (by decide) (fun c_41_3 => ?_) (fun c_41_3 => ?_)
        · skip
          refine lv_iload_n hx hb dN_Subject_whatIsSo_48 rfl (lv_at hl 2 rfl) ?_
          refine lv_bipush (v := (nI 10)) hx hb dN_Subject_whatIsSo_49 (by decide) ?_
          refine lv_icmp_ne (tgt := 59) hx hb dN_Subject_whatIsSo_51 (by decide) (fun c_51_4 => ?_) (fun c_51_4 => ?_)
          · skip
            refine lv_iload_n hx hb dN_Subject_whatIsSo_59 rfl (lv_at hl 0 rfl) ?_
            exact vx_iret C hK hP hD hS dN_Subject_whatIsSo_60 (Nat.le_of_ble_eq_true rfl) (Nat.le_of_ble_eq_true rfl) (⟨by rw [soW, decide_eq_true c_8_0, decide_eq_false c_21_1, decide_eq_false c_30_2, decide_eq_false c_41_3, decide_eq_false c_51_4]; decide, rfl⟩)
          · skip
            refine lv_iload_n hx hb dN_Subject_whatIsSo_54 rfl (lv_at hl 0 rfl) ?_
            refine lv_bipush (v := (nI 8)) hx hb dN_Subject_whatIsSo_55 (by decide) ?_
            refine lv_ior hx hb dN_Subject_whatIsSo_57 ?_
            refine lv_istore_n (lv' := [(2, .int ((nI 32) ||| (nI 8))), (0, .int x), (1, .int y)]) hx hb dN_Subject_whatIsSo_58 rfl hl (by decide) rfl (fun ls hl => ?_)
            refine lv_iload_n hx hb dN_Subject_whatIsSo_59 rfl (lv_at hl 0 rfl) ?_
            exact vx_iret C hK hP hD hS dN_Subject_whatIsSo_60 (Nat.le_of_ble_eq_true rfl) (Nat.le_of_ble_eq_true rfl) (⟨by rw [soW, decide_eq_true c_8_0, decide_eq_false c_21_1, decide_eq_false c_30_2, decide_eq_false c_41_3, decide_eq_true c_51_4]; decide, rfl⟩)
        · skip
          refine lv_iload_n hx hb dN_Subject_whatIsSo_44 rfl (lv_at hl 0 rfl) ?_
          refine lv_iconst (v := (nI 4)) hx hb dN_Subject_whatIsSo_45 (by decide) ?_
          refine lv_ior hx hb dN_Subject_whatIsSo_46 ?_
          refine lv_istore_n (lv' := [(2, .int ((nI 32) ||| (nI 4))), (0, .int x), (1, .int y)]) hx hb dN_Subject_whatIsSo_47 rfl hl (by decide) rfl (fun ls hl => ?_)
          refine lv_iload_n hx hb dN_Subject_whatIsSo_48 rfl (lv_at hl 2 rfl) ?_
          refine lv_bipush (v := (nI 10)) hx hb dN_Subject_whatIsSo_49 (by decide) ?_
          refine lv_icmp_ne (tgt := 59) hx hb dN_Subject_whatIsSo_51 (by decide) (fun c_51_5 => ?_) (fun c_51_5 => ?_)
          · skip
            refine lv_iload_n hx hb dN_Subject_whatIsSo_59 rfl (lv_at hl 0 rfl) ?_
            exact vx_iret C hK hP hD hS dN_Subject_whatIsSo_60 (Nat.le_of_ble_eq_true rfl) (Nat.le_of_ble_eq_true rfl) (⟨by rw [soW, decide_eq_true c_8_0, decide_eq_false c_21_1, decide_eq_false c_30_2, decide_eq_true c_41_3, decide_eq_false c_51_5]; decide, rfl⟩)
          · skip
            refine lv_iload_n hx hb dN_Subject_whatIsSo_54 rfl (lv_at hl 0 rfl) ?_
            refine lv_bipush (v := (nI 8)) hx hb dN_Subject_whatIsSo_55 (by decide) ?_
            refine lv_ior hx hb dN_Subject_whatIsSo_57 ?_
            refine lv_istore_n (lv' := [(2, .int (((nI 32) ||| (nI 4)) ||| (nI 8))), (0, .int x), (1, .int y)]) hx hb dN_Subject_whatIsSo_58 rfl hl (by decide) rfl (fun ls hl => ?_)
            refine lv_iload_n hx hb dN_Subject_whatIsSo_59 rfl (lv_at hl 0 rfl) ?_
            exact vx_iret C hK hP hD hS dN_Subject_whatIsSo_60 (Nat.le_of_ble_eq_true rfl) (Nat.le_of_ble_eq_true rfl) (⟨by rw [soW, decide_eq_true c_8_0, decide_eq_false c_21_1, decide_eq_false c_30_2, decide_eq_true c_41_3, decide_eq_true c_51_5]; decide, rfl⟩)
      · skip
        refine lv_iload_n hx hb dN_Subject_whatIsSo_33 rfl (lv_at hl 0 rfl) ?_
        refine lv_bipush (v := (nI 10)) hx hb dN_Subject_whatIsSo_34 (by decide) ?_
        refine lv_ior hx hb dN_Subject_whatIsSo_36 ?_
        refine lv_istore_n (lv' := [(2, .int ((nI 32) ||| (nI 10))), (0, .int x), (1, .int y)]) hx hb dN_Subject_whatIsSo_37 rfl hl (by decide) rfl (fun ls hl => ?_)
        refine lv_iload_n hx hb dN_Subject_whatIsSo_38 rfl (lv_at hl 1 rfl) ?_
        refine lv_bipush (v := (nI 10)) hx hb dN_Subject_whatIsSo_39 (by decide) ?_
        refine lv_icmp_ne (tgt := 48) hx hb dN_Subject_whatIsSo_41 (by decide) (fun c_41_6 => ?_) (fun c_41_6 => ?_)
        · skip
          refine lv_iload_n hx hb dN_Subject_whatIsSo_48 rfl (lv_at hl 2 rfl) ?_
          refine lv_bipush (v := (nI 10)) hx hb dN_Subject_whatIsSo_49 (by decide) ?_
          refine lv_icmp_ne (tgt := 59) hx hb dN_Subject_whatIsSo_51 (by decide) (fun c_51_7 => ?_) (fun c_51_7 => ?_)
          · skip
            refine lv_iload_n hx hb dN_Subject_whatIsSo_59 rfl (lv_at hl 0 rfl) ?_
            exact vx_iret C hK hP hD hS dN_Subject_whatIsSo_60 (Nat.le_of_ble_eq_true rfl) (Nat.le_of_ble_eq_true rfl) (⟨by rw [soW, decide_eq_true c_8_0, decide_eq_false c_21_1, decide_eq_true c_30_2, decide_eq_false c_41_6, decide_eq_false c_51_7]; decide, rfl⟩)
          · skip
            refine lv_iload_n hx hb dN_Subject_whatIsSo_54 rfl (lv_at hl 0 rfl) ?_
            refine lv_bipush (v := (nI 8)) hx hb dN_Subject_whatIsSo_55 (by decide) ?_
            refine lv_ior hx hb dN_Subject_whatIsSo_57 ?_
            refine lv_istore_n (lv' := [(2, .int (((nI 32) ||| (nI 10)) ||| (nI 8))), (0, .int x), (1, .int y)]) hx hb dN_Subject_whatIsSo_58 rfl hl (by decide) rfl (fun ls hl => ?_)
            refine lv_iload_n hx hb dN_Subject_whatIsSo_59 rfl (lv_at hl 0 rfl) ?_
            exact vx_iret C hK hP hD hS dN_Subject_whatIsSo_60 (Nat.le_of_ble_eq_true rfl) (Nat.le_of_ble_eq_true rfl) (⟨by rw [soW, decide_eq_true c_8_0, decide_eq_false c_21_1, decide_eq_true c_30_2, decide_eq_false c_41_6, decide_eq_true c_51_7]; decide, rfl⟩)
        · skip
          refine lv_iload_n hx hb dN_Subject_whatIsSo_44 rfl (lv_at hl 0 rfl) ?_
          refine lv_iconst (v := (nI 4)) hx hb dN_Subject_whatIsSo_45 (by decide) ?_
          refine lv_ior hx hb dN_Subject_whatIsSo_46 ?_
          refine lv_istore_n (lv' := [(2, .int (((nI 32) ||| (nI 10)) ||| (nI 4))), (0, .int x), (1, .int y)]) hx hb dN_Subject_whatIsSo_47 rfl hl (by decide) rfl (fun ls hl => ?_)
          refine lv_iload_n hx hb dN_Subject_whatIsSo_48 rfl (lv_at hl 2 rfl) ?_
          refine lv_bipush (v := (nI 10)) hx hb dN_Subject_whatIsSo_49 (by decide) ?_
          refine lv_icmp_ne (tgt := 59) hx hb dN_Subject_whatIsSo_51 (by decide) (fun c_51_8 => ?_) (fun c_51_8 => ?_)
          · skip
            refine lv_iload_n hx hb dN_Subject_whatIsSo_59 rfl (lv_at hl 0 rfl) ?_
            exact vx_iret C hK hP hD hS dN_Subject_whatIsSo_60 (Nat.le_of_ble_eq_true rfl) (Nat.le_of_ble_eq_true rfl) (⟨by rw [soW, decide_eq_true c_8_0, decide_eq_false c_21_1, decide_eq_true c_30_2, decide_eq_true c_41_6, decide_eq_false c_51_8]; decide, rfl⟩)
          · skip
            refine lv_iload_n hx hb dN_Subject_whatIsSo_54 rfl (lv_at hl 0 rfl) ?_
            refine lv_bipush (v := (nI 8)) hx hb dN_Subject_whatIsSo_55 (by decide) ?_
            refine lv_ior hx hb dN_Subject_whatIsSo_57 ?_
            refine lv_istore_n (lv' := [(2, .int ((((nI 32) ||| (nI 10)) ||| (nI 4)) ||| (nI 8))), (0, .int x), (1, .int y)]) hx hb dN_Subject_whatIsSo_58 rfl hl (by decide) rfl (fun ls hl => ?_)
            refine lv_iload_n hx hb dN_Subject_whatIsSo_59 rfl (lv_at hl 0 rfl) ?_
            exact vx_iret C hK hP hD hS dN_Subject_whatIsSo_60 (Nat.le_of_ble_eq_true rfl) (Nat.le_of_ble_eq_true rfl) (⟨by rw [soW, decide_eq_true c_8_0, decide_eq_false c_21_1, decide_eq_true c_30_2, decide_eq_true c_41_6, decide_eq_true c_51_8]; decide, rfl⟩)
    · skip
      refine lv_iload_n hx hb dN_Subject_whatIsSo_24 rfl (lv_at hl 0 rfl) ?_
      refine lv_iconst (v := (nI 5)) hx hb dN_Subject_whatIsSo_25 (by decide) ?_
      refine lv_ior hx hb dN_Subject_whatIsSo_26 ?_
      refine lv_istore_n (lv' := [(2, .int ((nI 32) ||| (nI 5))), (0, .int x), (1, .int y)]) hx hb dN_Subject_whatIsSo_27 rfl hl (by decide) rfl (fun ls hl => ?_)
      refine lv_iload_n hx hb dN_Subject_whatIsSo_28 rfl (lv_at hl 2 rfl) ?_
      refine lv_iconst (v := (-1)) hx hb dN_Subject_whatIsSo_29 (by decide) ?_
      refine lv_icmp_ne (tgt := 38) hx hb dN_Subject_whatIsSo_30 (by decide) (fun c_30_9 => ?_) (fun c_30_9 => ?_)
      · skip
        refine lv_iload_n hx hb dN_Subject_whatIsSo_38 rfl (lv_at hl 1 rfl) ?_
        refine lv_bipush (v := (nI 10)) hx hb dN_Subject_whatIsSo_39 (by decide) ?_
        refine lv_icmp_ne (tgt := 48) hx hb dN_Subject_whatIsSo_41 (by decide) (fun c_41_10 => ?_) (fun c_41_10 => ?_)
        · skip
          refine lv_iload_n hx hb dN_Subject_whatIsSo_48 rfl (lv_at hl 2 rfl) ?_
          refine lv_bipush (v := (nI 10)) hx hb dN_Subject_whatIsSo_49 (by decide) ?_
          refine lv_icmp_ne (tgt := 59) hx hb dN_Subject_whatIsSo_51 (by decide) (fun c_51_11 => ?_) (fun c_51_11 => ?_)
          · skip
            refine lv_iload_n hx hb dN_Subject_whatIsSo_59 rfl (lv_at hl 0 rfl) ?_
            exact vx_iret C hK hP hD hS dN_Subject_whatIsSo_60 (Nat.le_of_ble_eq_true rfl) (Nat.le_of_ble_eq_true rfl) (⟨by rw [soW, decide_eq_true c_8_0, decide_eq_true c_21_1, decide_eq_false c_30_9, decide_eq_false c_41_10, decide_eq_false c_51_11]; decide, rfl⟩)
          · skip
            refine lv_iload_n hx hb dN_Subject_whatIsSo_54 rfl (lv_at hl 0 rfl) ?_
            refine lv_bipush (v := (nI 8)) hx hb dN_Subject_whatIsSo_55 (by decide) ?_
            refine lv_ior hx hb dN_Subject_whatIsSo_57 ?_
            refine lv_istore_n (lv' := [(2, .int (((nI 32) ||| (nI 5)) ||| (nI 8))), (0, .int x), (1, .int y)]) hx hb dN_Subject_whatIsSo_58 rfl hl (by decide) rfl (fun ls hl => ?_)
            refine lv_iload_n hx hb dN_Subject_whatIsSo_59 rfl (lv_at hl 0 rfl) ?_
            exact vx_iret C hK hP hD hS dN_Subject_whatIsSo_60 (Nat.le_of_ble_eq_true rfl) (Nat.le_of_ble_eq_true rfl) (⟨by rw [soW, decide_eq_true c_8_0, decide_eq_true c_21_1, decide_eq_false c_30_9, decide_eq_false c_41_10, decide_eq_true c_51_11]; decide, rfl⟩)
        · skip
          refine lv_iload_n hx hb dN_Subject_whatIsSo_44 rfl (lv_at hl 0 rfl) ?_
          refine lv_iconst (v := (nI 4)) hx hb dN_Subject_whatIsSo_45 (by decide) ?_
          refine lv_ior hx hb dN_Subject_whatIsSo_46 ?_
          refine lv_istore_n (lv' := [(2, .int (((nI 32) ||| (nI 5)) ||| (nI 4))), (0, .int x), (1, .int y)]) hx hb dN_Subject_whatIsSo_47 rfl hl (by decide) rfl (fun ls hl => ?_)
          refine lv_iload_n hx hb dN_Subject_whatIsSo_48 rfl (lv_at hl 2 rfl) ?_
          refine lv_bipush (v := (nI 10)) hx hb dN_Subject_whatIsSo_49 (by decide) ?_
          refine lv_icmp_ne (tgt := 59) hx hb dN_Subject_whatIsSo_51 (by decide) (fun c_51_12 => ?_) (fun c_51_12 => ?_)
          · skip
            refine lv_iload_n hx hb dN_Subject_whatIsSo_59 rfl (lv_at hl 0 rfl) ?_
            exact vx_iret C hK hP hD hS dN_Subject_whatIsSo_60 (Nat.le_of_ble_eq_true rfl) (Nat.le_of_ble_eq_true rfl) (⟨by rw [soW, decide_eq_true c_8_0, decide_eq_true c_21_1, decide_eq_false c_30_9, decide_eq_true c_41_10, decide_eq_false c_51_12]; decide, rfl⟩)
          · skip
            refine lv_iload_n hx hb dN_Subject_whatIsSo_54 rfl (lv_at hl 0 rfl) ?_
            refine lv_bipush (v := (nI 8)) hx hb dN_Subject_whatIsSo_55 (by decide) ?_
            refine lv_ior hx hb dN_Subject_whatIsSo_57 ?_
            refine lv_istore_n (lv' := [(2, .int ((((nI 32) ||| (nI 5)) ||| (nI 4)) ||| (nI 8))), (0, .int x), (1, .int y)]) hx hb dN_Subject_whatIsSo_58 rfl hl (by decide) rfl (fun ls hl => ?_)
            refine lv_iload_n hx hb dN_Subject_whatIsSo_59 rfl (lv_at hl 0 rfl) ?_
            exact vx_iret C hK hP hD hS dN_Subject_whatIsSo_60 (Nat.le_of_ble_eq_true rfl) (Nat.le_of_ble_eq_true rfl) (⟨by rw [soW, decide_eq_true c_8_0, decide_eq_true c_21_1, decide_eq_false c_30_9, decide_eq_true c_41_10, decide_eq_true c_51_12]; decide, rfl⟩)
      · skip
        refine lv_iload_n hx hb dN_Subject_whatIsSo_33 rfl (lv_at hl 0 rfl) ?_
        refine lv_bipush (v := (nI 10)) hx hb dN_Subject_whatIsSo_34 (by decide) ?_
        refine lv_ior hx hb dN_Subject_whatIsSo_36 ?_
        refine lv_istore_n (lv' := [(2, .int (((nI 32) ||| (nI 5)) ||| (nI 10))), (0, .int x), (1, .int y)]) hx hb dN_Subject_whatIsSo_37 rfl hl (by decide) rfl (fun ls hl => ?_)
        refine lv_iload_n hx hb dN_Subject_whatIsSo_38 rfl (lv_at hl 1 rfl) ?_
        refine lv_bipush (v := (nI 10)) hx hb dN_Subject_whatIsSo_39 (by decide) ?_
        refine lv_icmp_ne (tgt := 48) hx hb dN_Subject_whatIsSo_41 (by decide) (fun c_41_13 => ?_) (fun c_41_13 => ?_)
        · skip
          refine lv_iload_n hx hb dN_Subject_whatIsSo_48 rfl (lv_at hl 2 rfl) ?_
          refine lv_bipush (v := (nI 10)) hx hb dN_Subject_whatIsSo_49 (by decide) ?_
          refine lv_icmp_ne (tgt := 59) hx hb dN_Subject_whatIsSo_51 (by decide) (fun c_51_14 => ?_) (fun c_51_14 => ?_)
          · skip
            refine lv_iload_n hx hb dN_Subject_whatIsSo_59 rfl (lv_at hl 0 rfl) ?_
            exact vx_iret C hK hP hD hS dN_Subject_whatIsSo_60 (Nat.le_of_ble_eq_true rfl) (Nat.le_of_ble_eq_true rfl) (⟨by rw [soW, decide_eq_true c_8_0, decide_eq_true c_21_1, decide_eq_true c_30_9, decide_eq_false c_41_13, decide_eq_false c_51_14]; decide, rfl⟩)
          · skip
            refine lv_iload_n hx hb dN_Subject_whatIsSo_54 rfl (lv_at hl 0 rfl) ?_
            refine lv_bipush (v := (nI 8)) hx hb dN_Subject_whatIsSo_55 (by decide) ?_
            refine lv_ior hx hb dN_Subject_whatIsSo_57 ?_
            refine lv_istore_n (lv' := [(2, .int ((((nI 32) ||| (nI 5)) ||| (nI 10)) ||| (nI 8))), (0, .int x), (1, .int y)]) hx hb dN_Subject_whatIsSo_58 rfl hl (by decide) rfl (fun ls hl => ?_)
            refine lv_iload_n hx hb dN_Subject_whatIsSo_59 rfl (lv_at hl 0 rfl) ?_
            exact vx_iret C hK hP hD hS dN_Subject_whatIsSo_60 (Nat.le_of_ble_eq_true rfl) (Nat.le_of_ble_eq_true rfl) (⟨by rw [soW, decide_eq_true c_8_0, decide_eq_true c_21_1, decide_eq_true c_30_9, decide_eq_false c_41_13, decide_eq_true c_51_14]; decide, rfl⟩)
        · skip
          refine lv_iload_n hx hb dN_Subject_whatIsSo_44 rfl (lv_at hl 0 rfl) ?_
          refine lv_iconst (v := (nI 4)) hx hb dN_Subject_whatIsSo_45 (by decide) ?_
          refine lv_ior hx hb dN_Subject_whatIsSo_46 ?_
          refine lv_istore_n (lv' := [(2, .int ((((nI 32) ||| (nI 5)) ||| (nI 10)) ||| (nI 4))), (0, .int x), (1, .int y)]) hx hb dN_Subject_whatIsSo_47 rfl hl (by decide) rfl (fun ls hl => ?_)
          refine lv_iload_n hx hb dN_Subject_whatIsSo_48 rfl (lv_at hl 2 rfl) ?_
          refine lv_bipush (v := (nI 10)) hx hb dN_Subject_whatIsSo_49 (by decide) ?_
          refine lv_icmp_ne (tgt := 59) hx hb dN_Subject_whatIsSo_51 (by decide) (fun c_51_15 => ?_) (fun c_51_15 => ?_)
          · skip
            refine lv_iload_n hx hb dN_Subject_whatIsSo_59 rfl (lv_at hl 0 rfl) ?_
            exact vx_iret C hK hP hD hS dN_Subject_whatIsSo_60 (Nat.le_of_ble_eq_true rfl) (Nat.le_of_ble_eq_true rfl) (⟨by rw [soW, decide_eq_true c_8_0, decide_eq_true c_21_1, decide_eq_true c_30_9, decide_eq_true c_41_13, decide_eq_false c_51_15]; decide, rfl⟩)
          · skip
            refine lv_iload_n hx hb dN_Subject_whatIsSo_54 rfl (lv_at hl 0 rfl) ?_
            refine lv_bipush (v := (nI 8)) hx hb dN_Subject_whatIsSo_55 (by decide) ?_
            refine lv_ior hx hb dN_Subject_whatIsSo_57 ?_
            refine lv_istore_n (lv' := [(2, .int (((((nI 32) ||| (nI 5)) ||| (nI 10)) ||| (nI 4)) ||| (nI 8))), (0, .int x), (1, .int y)]) hx hb dN_Subject_whatIsSo_58 rfl hl (by decide) rfl (fun ls hl => ?_)
            refine lv_iload_n hx hb dN_Subject_whatIsSo_59 rfl (lv_at hl 0 rfl) ?_
            exact vx_iret C hK hP hD hS dN_Subject_whatIsSo_60 (Nat.le_of_ble_eq_true rfl) (Nat.le_of_ble_eq_true rfl) (⟨by rw [soW, decide_eq_true c_8_0, decide_eq_true c_21_1, decide_eq_true c_30_9, decide_eq_true c_41_13, decide_eq_true c_51_15]; decide, rfl⟩)
  · skip
    rw [zi_eq] at c_8_0
    refine lv_bipush (v := (nI 16)) hx hb dN_Subject_whatIsSo_11 (by decide) ?_
    refine lv_goto (tgt := 18) hx hb dN_Subject_whatIsSo_13 (by decide) ?_
    refine lv_istore_n (lv' := [(2, .int (nI 16)), (0, .int x), (1, .int y)]) hx hb dN_Subject_whatIsSo_18 rfl hl (by decide) rfl (fun ls hl => ?_)
    refine lv_iload_n hx hb dN_Subject_whatIsSo_19 rfl (lv_at hl 1 rfl) ?_
    refine lv_iconst (v := (-1)) hx hb dN_Subject_whatIsSo_20 (by decide) ?_
    refine lv_icmp_ne (tgt := 28) hx hb dN_Subject_whatIsSo_21 (by decide) (fun c_21_16 => ?_) (fun c_21_16 => ?_)
    · skip
      refine lv_iload_n hx hb dN_Subject_whatIsSo_28 rfl (lv_at hl 2 rfl) ?_
      refine lv_iconst (v := (-1)) hx hb dN_Subject_whatIsSo_29 (by decide) ?_
      refine lv_icmp_ne (tgt := 38) hx hb dN_Subject_whatIsSo_30 (by decide) (fun c_30_17 => ?_) (fun c_30_17 => ?_)
      · skip
        refine lv_iload_n hx hb dN_Subject_whatIsSo_38 rfl (lv_at hl 1 rfl) ?_
        refine lv_bipush (v := (nI 10)) hx hb dN_Subject_whatIsSo_39 (by decide) ?_
        refine lv_icmp_ne (tgt := 48) hx hb dN_Subject_whatIsSo_41 (by decide) (fun c_41_18 => ?_) (fun c_41_18 => ?_)
        · skip
          refine lv_iload_n hx hb dN_Subject_whatIsSo_48 rfl (lv_at hl 2 rfl) ?_
          refine lv_bipush (v := (nI 10)) hx hb dN_Subject_whatIsSo_49 (by decide) ?_
          refine lv_icmp_ne (tgt := 59) hx hb dN_Subject_whatIsSo_51 (by decide) (fun c_51_19 => ?_) (fun c_51_19 => ?_)
          · skip
            refine lv_iload_n hx hb dN_Subject_whatIsSo_59 rfl (lv_at hl 0 rfl) ?_
            exact vx_iret C hK hP hD hS dN_Subject_whatIsSo_60 (Nat.le_of_ble_eq_true rfl) (Nat.le_of_ble_eq_true rfl) (⟨by rw [soW, decide_eq_false c_8_0, decide_eq_false c_21_16, decide_eq_false c_30_17, decide_eq_false c_41_18, decide_eq_false c_51_19]; decide, rfl⟩)
          · skip
            refine lv_iload_n hx hb dN_Subject_whatIsSo_54 rfl (lv_at hl 0 rfl) ?_
            refine lv_bipush (v := (nI 8)) hx hb dN_Subject_whatIsSo_55 (by decide) ?_
            refine lv_ior hx hb dN_Subject_whatIsSo_57 ?_
            refine lv_istore_n (lv' := [(2, .int ((nI 16) ||| (nI 8))), (0, .int x), (1, .int y)]) hx hb dN_Subject_whatIsSo_58 rfl hl (by decide) rfl (fun ls hl => ?_)
            refine lv_iload_n hx hb dN_Subject_whatIsSo_59 rfl (lv_at hl 0 rfl) ?_
            exact vx_iret C hK hP hD hS dN_Subject_whatIsSo_60 (Nat.le_of_ble_eq_true rfl) (Nat.le_of_ble_eq_true rfl) (⟨by rw [soW, decide_eq_false c_8_0, decide_eq_false c_21_16, decide_eq_false c_30_17, decide_eq_false c_41_18, decide_eq_true c_51_19]; decide, rfl⟩)
        · skip
          refine lv_iload_n hx hb dN_Subject_whatIsSo_44 rfl (lv_at hl 0 rfl) ?_
          refine lv_iconst (v := (nI 4)) hx hb dN_Subject_whatIsSo_45 (by decide) ?_
          refine lv_ior hx hb dN_Subject_whatIsSo_46 ?_
          refine lv_istore_n (lv' := [(2, .int ((nI 16) ||| (nI 4))), (0, .int x), (1, .int y)]) hx hb dN_Subject_whatIsSo_47 rfl hl (by decide) rfl (fun ls hl => ?_)
          refine lv_iload_n hx hb dN_Subject_whatIsSo_48 rfl (lv_at hl 2 rfl) ?_
          refine lv_bipush (v := (nI 10)) hx hb dN_Subject_whatIsSo_49 (by decide) ?_
          refine lv_icmp_ne (tgt := 59) hx hb dN_Subject_whatIsSo_51 (by decide) (fun c_51_20 => ?_) (fun c_51_20 => ?_)
          · skip
            refine lv_iload_n hx hb dN_Subject_whatIsSo_59 rfl (lv_at hl 0 rfl) ?_
            exact vx_iret C hK hP hD hS dN_Subject_whatIsSo_60 (Nat.le_of_ble_eq_true rfl) (Nat.le_of_ble_eq_true rfl) (⟨by rw [soW, decide_eq_false c_8_0, decide_eq_false c_21_16, decide_eq_false c_30_17, decide_eq_true c_41_18, decide_eq_false c_51_20]; decide, rfl⟩)
          · skip
            refine lv_iload_n hx hb dN_Subject_whatIsSo_54 rfl (lv_at hl 0 rfl) ?_
            refine lv_bipush (v := (nI 8)) hx hb dN_Subject_whatIsSo_55 (by decide) ?_
            refine lv_ior hx hb dN_Subject_whatIsSo_57 ?_
            refine lv_istore_n (lv' := [(2, .int (((nI 16) ||| (nI 4)) ||| (nI 8))), (0, .int x), (1, .int y)]) hx hb dN_Subject_whatIsSo_58 rfl hl (by decide) rfl (fun ls hl => ?_)
            refine lv_iload_n hx hb dN_Subject_whatIsSo_59 rfl (lv_at hl 0 rfl) ?_
            exact vx_iret C hK hP hD hS dN_Subject_whatIsSo_60 (Nat.le_of_ble_eq_true rfl) (Nat.le_of_ble_eq_true rfl) (⟨by rw [soW, decide_eq_false c_8_0, decide_eq_false c_21_16, decide_eq_false c_30_17, decide_eq_true c_41_18, decide_eq_true c_51_20]; decide, rfl⟩)
      · skip
        refine lv_iload_n hx hb dN_Subject_whatIsSo_33 rfl (lv_at hl 0 rfl) ?_
        refine lv_bipush (v := (nI 10)) hx hb dN_Subject_whatIsSo_34 (by decide) ?_
        refine lv_ior hx hb dN_Subject_whatIsSo_36 ?_
        refine lv_istore_n (lv' := [(2, .int ((nI 16) ||| (nI 10))), (0, .int x), (1, .int y)]) hx hb dN_Subject_whatIsSo_37 rfl hl (by decide) rfl (fun ls hl => ?_)
        refine lv_iload_n hx hb dN_Subject_whatIsSo_38 rfl (lv_at hl 1 rfl) ?_
        refine lv_bipush (v := (nI 10)) hx hb dN_Subject_whatIsSo_39 (by decide) ?_
        refine lv_icmp_ne (tgt := 48) hx hb dN_Subject_whatIsSo_41 (by decide) (fun c_41_21 => ?_) (fun c_41_21 => ?_)
        · skip
          refine lv_iload_n hx hb dN_Subject_whatIsSo_48 rfl (lv_at hl 2 rfl) ?_
          refine lv_bipush (v := (nI 10)) hx hb dN_Subject_whatIsSo_49 (by decide) ?_
          refine lv_icmp_ne (tgt := 59) hx hb dN_Subject_whatIsSo_51 (by decide) (fun c_51_22 => ?_) (fun c_51_22 => ?_)
          · skip
            refine lv_iload_n hx hb dN_Subject_whatIsSo_59 rfl (lv_at hl 0 rfl) ?_
            exact vx_iret C hK hP hD hS dN_Subject_whatIsSo_60 (Nat.le_of_ble_eq_true rfl) (Nat.le_of_ble_eq_true rfl) (⟨by rw [soW, decide_eq_false c_8_0, decide_eq_false c_21_16, decide_eq_true c_30_17, decide_eq_false c_41_21, decide_eq_false c_51_22]; decide, rfl⟩)
          · skip
            refine lv_iload_n hx hb dN_Subject_whatIsSo_54 rfl (lv_at hl 0 rfl) ?_
            refine lv_bipush (v := (nI 8)) hx hb dN_Subject_whatIsSo_55 (by decide) ?_
            refine lv_ior hx hb dN_Subject_whatIsSo_57 ?_
            refine lv_istore_n (lv' := [(2, .int (((nI 16) ||| (nI 10)) ||| (nI 8))), (0, .int x), (1, .int y)]) hx hb dN_Subject_whatIsSo_58 rfl hl (by decide) rfl (fun ls hl => ?_)
            refine lv_iload_n hx hb dN_Subject_whatIsSo_59 rfl (lv_at hl 0 rfl) ?_
            exact vx_iret C hK hP hD hS dN_Subject_whatIsSo_60 (Nat.le_of_ble_eq_true rfl) (Nat.le_of_ble_eq_true rfl) (⟨by rw [soW, decide_eq_false c_8_0, decide_eq_false c_21_16, decide_eq_true c_30_17, decide_eq_false c_41_21, decide_eq_true c_51_22]; decide, rfl⟩)
        · skip
          refine lv_iload_n hx hb dN_Subject_whatIsSo_44 rfl (lv_at hl 0 rfl) ?_
          refine lv_iconst (v := (nI 4)) hx hb dN_Subject_whatIsSo_45 (by decide) ?_
          refine lv_ior hx hb dN_Subject_whatIsSo_46 ?_
          refine lv_istore_n (lv' := [(2, .int (((nI 16) ||| (nI 10)) ||| (nI 4))), (0, .int x), (1, .int y)]) hx hb dN_Subject_whatIsSo_47 rfl hl (by decide) rfl (fun ls hl => ?_)
          refine lv_iload_n hx hb dN_Subject_whatIsSo_48 rfl (lv_at hl 2 rfl) ?_
          refine lv_bipush (v := (nI 10)) hx hb dN_Subject_whatIsSo_49 (by decide) ?_
          refine lv_icmp_ne (tgt := 59) hx hb dN_Subject_whatIsSo_51 (by decide) (fun c_51_23 => ?_) (fun c_51_23 => ?_)
          · skip
            refine lv_iload_n hx hb dN_Subject_whatIsSo_59 rfl (lv_at hl 0 rfl) ?_
            exact vx_iret C hK hP hD hS dN_Subject_whatIsSo_60 (Nat.le_of_ble_eq_true rfl) (Nat.le_of_ble_eq_true rfl) (⟨by rw [soW, decide_eq_false c_8_0, decide_eq_false c_21_16, decide_eq_true c_30_17, decide_eq_true c_41_21, decide_eq_false c_51_23]; decide, rfl⟩)
          · skip
            refine lv_iload_n hx hb dN_Subject_whatIsSo_54 rfl (lv_at hl 0 rfl) ?_
            refine lv_bipush (v := (nI 8)) hx hb dN_Subject_whatIsSo_55 (by decide) ?_
            refine lv_ior hx hb dN_Subject_whatIsSo_57 ?_
            refine lv_istore_n (lv' := [(2, .int ((((nI 16) ||| (nI 10)) ||| (nI 4)) ||| (nI 8))), (0, .int x), (1, .int y)]) hx hb dN_Subject_whatIsSo_58 rfl hl (by decide) rfl (fun ls hl => ?_)
            refine lv_iload_n hx hb dN_Subject_whatIsSo_59 rfl (lv_at hl 0 rfl) ?_
            exact vx_iret C hK hP hD hS dN_Subject_whatIsSo_60 (Nat.le_of_ble_eq_true rfl) (Nat.le_of_ble_eq_true rfl) (⟨by rw [soW, decide_eq_false c_8_0, decide_eq_false c_21_16, decide_eq_true c_30_17, decide_eq_true c_41_21, decide_eq_true c_51_23]; decide, rfl⟩)
    · skip
      refine lv_iload_n hx hb dN_Subject_whatIsSo_24 rfl (lv_at hl 0 rfl) ?_
      refine lv_iconst (v := (nI 5)) hx hb dN_Subject_whatIsSo_25 (by decide) ?_
      refine lv_ior hx hb dN_Subject_whatIsSo_26 ?_
      refine lv_istore_n (lv' := [(2, .int ((nI 16) ||| (nI 5))), (0, .int x), (1, .int y)]) hx hb dN_Subject_whatIsSo_27 rfl hl (by decide) rfl (fun ls hl => ?_)
      refine lv_iload_n hx hb dN_Subject_whatIsSo_28 rfl (lv_at hl 2 rfl) ?_
      refine lv_iconst (v := (-1)) hx hb dN_Subject_whatIsSo_29 (by decide) ?_
      refine lv_icmp_ne (tgt := 38) hx hb dN_Subject_whatIsSo_30 (by decide) (fun c_30_24 => ?_) (fun c_30_24 => ?_)
      · skip
        refine lv_iload_n hx hb dN_Subject_whatIsSo_38 rfl (lv_at hl 1 rfl) ?_
        refine lv_bipush (v := (nI 10)) hx hb dN_Subject_whatIsSo_39 (by decide) ?_
        refine lv_icmp_ne (tgt := 48) hx hb dN_Subject_whatIsSo_41 (by decide) (fun c_41_25 => ?_) (fun c_41_25 => ?_)
        · skip
          refine lv_iload_n hx hb dN_Subject_whatIsSo_48 rfl (lv_at hl 2 rfl) ?_
          refine lv_bipush (v := (nI 10)) hx hb dN_Subject_whatIsSo_49 (by decide) ?_
          refine lv_icmp_ne (tgt := 59) hx hb dN_Subject_whatIsSo_51 (by decide) (fun c_51_26 => ?_) (fun c_51_26 => ?_)
          · skip
            refine lv_iload_n hx hb dN_Subject_whatIsSo_59 rfl (lv_at hl 0 rfl) ?_
            exact vx_iret C hK hP hD hS dN_Subject_whatIsSo_60 (Nat.le_of_ble_eq_true rfl) (Nat.le_of_ble_eq_true rfl) (⟨by rw [soW, decide_eq_false c_8_0, decide_eq_true c_21_16, decide_eq_false c_30_24, decide_eq_false c_41_25, decide_eq_false c_51_26]; decide, rfl⟩)
          · skip
            refine lv_iload_n hx hb dN_Subject_whatIsSo_54 rfl (lv_at hl 0 rfl) ?_
            refine lv_bipush (v := (nI 8)) hx hb dN_Subject_whatIsSo_55 (by decide) ?_
            refine lv_ior hx hb dN_Subject_whatIsSo_57 ?_
            refine lv_istore_n (lv' := [(2, .int (((nI 16) ||| (nI 5)) ||| (nI 8))), (0, .int x), (1, .int y)]) hx hb dN_Subject_whatIsSo_58 rfl hl (by decide) rfl (fun ls hl => ?_)
            refine lv_iload_n hx hb dN_Subject_whatIsSo_59 rfl (lv_at hl 0 rfl) ?_
            exact vx_iret C hK hP hD hS dN_Subject_whatIsSo_60 (Nat.le_of_ble_eq_true rfl) (Nat.le_of_ble_eq_true rfl) (⟨by rw [soW, decide_eq_false c_8_0, decide_eq_true c_21_16, decide_eq_false c_30_24, decide_eq_false c_41_25, decide_eq_true c_51_26]; decide, rfl⟩)
        · skip
          refine lv_iload_n hx hb dN_Subject_whatIsSo_44 rfl (lv_at hl 0 rfl) ?_
          refine lv_iconst (v := (nI 4)) hx hb dN_Subject_whatIsSo_45 (by decide) ?_
          refine lv_ior hx hb dN_Subject_whatIsSo_46 ?_
          refine lv_istore_n (lv' := [(2, .int (((nI 16) ||| (nI 5)) ||| (nI 4))), (0, .int x), (1, .int y)]) hx hb dN_Subject_whatIsSo_47 rfl hl (by decide) rfl (fun ls hl => ?_)
          refine lv_iload_n hx hb dN_Subject_whatIsSo_48 rfl (lv_at hl 2 rfl) ?_
          refine lv_bipush (v := (nI 10)) hx hb dN_Subject_whatIsSo_49 (by decide) ?_
          refine lv_icmp_ne (tgt := 59) hx hb dN_Subject_whatIsSo_51 (by decide) (fun c_51_27 => ?_) (fun c_51_27 => ?_)
          · skip
            refine lv_iload_n hx hb dN_Subject_whatIsSo_59 rfl (lv_at hl 0 rfl) ?_
            exact vx_iret C hK hP hD hS dN_Subject_whatIsSo_60 (Nat.le_of_ble_eq_true rfl) (Nat.le_of_ble_eq_true rfl) (⟨by rw [soW, decide_eq_false c_8_0, decide_eq_true c_21_16, decide_eq_false c_30_24, decide_eq_true c_41_25, decide_eq_false c_51_27]; decide, rfl⟩)
          · skip
            refine lv_iload_n hx hb dN_Subject_whatIsSo_54 rfl (lv_at hl 0 rfl) ?_
            refine lv_bipush (v := (nI 8)) hx hb dN_Subject_whatIsSo_55 (by decide) ?_
            refine lv_ior hx hb dN_Subject_whatIsSo_57 ?_
            refine lv_istore_n (lv' := [(2, .int ((((nI 16) ||| (nI 5)) ||| (nI 4)) ||| (nI 8))), (0, .int x), (1, .int y)]) hx hb dN_Subject_whatIsSo_58 rfl hl (by decide) rfl (fun ls hl => ?_)
            refine lv_iload_n hx hb dN_Subject_whatIsSo_59 rfl (lv_at hl 0 rfl) ?_
            exact vx_iret C hK hP hD hS dN_Subject_whatIsSo_60 (Nat.le_of_ble_eq_true rfl) (Nat.le_of_ble_eq_true rfl) (⟨by rw [soW, decide_eq_false c_8_0, decide_eq_true c_21_16, decide_eq_false c_30_24, decide_eq_true c_41_25, decide_eq_true c_51_27]; decide, rfl⟩)
      · skip
        refine lv_iload_n hx hb dN_Subject_whatIsSo_33 rfl (lv_at hl 0 rfl) ?_
        refine lv_bipush (v := (nI 10)) hx hb dN_Subject_whatIsSo_34 (by decide) ?_
        refine lv_ior hx hb dN_Subject_whatIsSo_36 ?_
        refine lv_istore_n (lv' := [(2, .int (((nI 16) ||| (nI 5)) ||| (nI 10))), (0, .int x), (1, .int y)]) hx hb dN_Subject_whatIsSo_37 rfl hl (by decide) rfl (fun ls hl => ?_)
        refine lv_iload_n hx hb dN_Subject_whatIsSo_38 rfl (lv_at hl 1 rfl) ?_
        refine lv_bipush (v := (nI 10)) hx hb dN_Subject_whatIsSo_39 (by decide) ?_
        refine lv_icmp_ne (tgt := 48) hx hb dN_Subject_whatIsSo_41 (by decide) (fun c_41_28 => ?_) (fun c_41_28 => ?_)
        · skip
          refine lv_iload_n hx hb dN_Subject_whatIsSo_48 rfl (lv_at hl 2 rfl) ?_
          refine lv_bipush (v := (nI 10)) hx hb dN_Subject_whatIsSo_49 (by decide) ?_
          refine lv_icmp_ne (tgt := 59) hx hb dN_Subject_whatIsSo_51 (by decide) (fun c_51_29 => ?_) (fun c_51_29 => ?_)
          · skip
            refine lv_iload_n hx hb dN_Subject_whatIsSo_59 rfl (lv_at hl 0 rfl) ?_
            exact vx_iret C hK hP hD hS dN_Subject_whatIsSo_60 (Nat.le_of_ble_eq_true rfl) (Nat.le_of_ble_eq_true rfl) (⟨by rw [soW, decide_eq_false c_8_0, decide_eq_true c_21_16, decide_eq_true c_30_24, decide_eq_false c_41_28, decide_eq_false c_51_29]; decide, rfl⟩)
          · skip
            refine lv_iload_n hx hb dN_Subject_whatIsSo_54 rfl (lv_at hl 0 rfl) ?_
            refine lv_bipush (v := (nI 8)) hx hb dN_Subject_whatIsSo_55 (by decide) ?_
            refine lv_ior hx hb dN_Subject_whatIsSo_57 ?_
            refine lv_istore_n (lv' := [(2, .int ((((nI 16) ||| (nI 5)) ||| (nI 10)) ||| (nI 8))), (0, .int x), (1, .int y)]) hx hb dN_Subject_whatIsSo_58 rfl hl (by decide) rfl (fun ls hl => ?_)
            refine lv_iload_n hx hb dN_Subject_whatIsSo_59 rfl (lv_at hl 0 rfl) ?_
            exact vx_iret C hK hP hD hS dN_Subject_whatIsSo_60 (Nat.le_of_ble_eq_true rfl) (Nat.le_of_ble_eq_true rfl) (⟨by rw [soW, decide_eq_false c_8_0, decide_eq_true c_21_16, decide_eq_true c_30_24, decide_eq_false c_41_28, decide_eq_true c_51_29]; decide, rfl⟩)
        · skip
          refine lv_iload_n hx hb dN_Subject_whatIsSo_44 rfl (lv_at hl 0 rfl) ?_
          refine lv_iconst (v := (nI 4)) hx hb dN_Subject_whatIsSo_45 (by decide) ?_
          refine lv_ior hx hb dN_Subject_whatIsSo_46 ?_
          refine lv_istore_n (lv' := [(2, .int ((((nI 16) ||| (nI 5)) ||| (nI 10)) ||| (nI 4))), (0, .int x), (1, .int y)]) hx hb dN_Subject_whatIsSo_47 rfl hl (by decide) rfl (fun ls hl => ?_)
          refine lv_iload_n hx hb dN_Subject_whatIsSo_48 rfl (lv_at hl 2 rfl) ?_
          refine lv_bipush (v := (nI 10)) hx hb dN_Subject_whatIsSo_49 (by decide) ?_
          refine lv_icmp_ne (tgt := 59) hx hb dN_Subject_whatIsSo_51 (by decide) (fun c_51_30 => ?_) (fun c_51_30 => ?_)
          · skip
            refine lv_iload_n hx hb dN_Subject_whatIsSo_59 rfl (lv_at hl 0 rfl) ?_
            exact vx_iret C hK hP hD hS dN_Subject_whatIsSo_60 (Nat.le_of_ble_eq_true rfl) (Nat.le_of_ble_eq_true rfl) (⟨by rw [soW, decide_eq_false c_8_0, decide_eq_true c_21_16, decide_eq_true c_30_24, decide_eq_true c_41_28, decide_eq_false c_51_30]; decide, rfl⟩)
          · skip
            refine lv_iload_n hx hb dN_Subject_whatIsSo_54 rfl (lv_at hl 0 rfl) ?_
            refine lv_bipush (v := (nI 8)) hx hb dN_Subject_whatIsSo_55 (by decide) ?_
            refine lv_ior hx hb dN_Subject_whatIsSo_57 ?_
            refine lv_istore_n (lv' := [(2, .int (((((nI 16) ||| (nI 5)) ||| (nI 10)) ||| (nI 4)) ||| (nI 8))), (0, .int x), (1, .int y)]) hx hb dN_Subject_whatIsSo_58 rfl hl (by decide) rfl (fun ls hl => ?_)
            refine lv_iload_n hx hb dN_Subject_whatIsSo_59 rfl (lv_at hl 0 rfl) ?_
            exact vx_iret C hK hP hD hS dN_Subject_whatIsSo_60 (Nat.le_of_ble_eq_true rfl) (Nat.le_of_ble_eq_true rfl) (⟨by rw [soW, decide_eq_false c_8_0, decide_eq_true c_21_16, decide_eq_true c_30_24, decide_eq_true c_41_28, decide_eq_true c_51_30]; decide, rfl⟩)
theorem and255 {x : Nat} (h : x < 256) : nI x &&& nI 255 = nI x := by
  rw [andI (by omega) (by omega), show (255 : Nat) = 2 ^ 8 - 1 from rfl, Nat.and_two_pow_sub_one_eq_mod, Nat.mod_eq_of_lt (by omega)]
theorem and63 {x : Nat} (h : x < 2 ^ 31) : nI x &&& nI 63 = nI (x % 64) := by
  rw [andI h (by omega), show (63 : Nat) = 2 ^ 6 - 1 from rfl, Nat.and_two_pow_sub_one_eq_mod]
theorem l65535 {v : Nat} (h : v < 65536) : ((nI v).toInt64 &&& 65535).toBitVec = BitVec.ofNat 64 v := by
  rw [Int64.toBitVec_and, nI_l64 (by omega)]
  apply BitVec.eq_of_toNat_eq
  rw [BitVec.toNat_and, BitVec.toNat_ofNat, Nat.mod_eq_of_lt (by omega), show (65535 : Int64).toBitVec.toNat = 2 ^ 16 - 1 from rfl, Nat.and_two_pow_sub_one_eq_mod, Nat.mod_eq_of_lt (by omega)]
theorem pj_wr2 {g : Nat → Nat} {c v : Nat} (h : v < 65536) : vp_updL (pkJ g) (c / 4) (((pkJ g) (c / 4) &&& (65535 <<< ((nI (c % 4 * 16)).toInt64 &&& 63) ^^^ -1)) ||| ((nI v).toInt64 &&& 65535) <<< ((nI (c % 4 * 16)).toInt64 &&& 63)) = pkJ (un g c v) :=
  pkW_wr 16 4 (by decide) rfl g c v h _ _ rfl (l65535 h) _ (sh16l _ (Nat.mod_lt _ (by decide)))
theorem mx1I {m : Nat} (h1 : 1 ≤ m) (hm : m ≤ 200) : (if nI 1 < nI m then nI m else nI 1) = nI m := by
  by_cases h : m = 1
  · subst h; rfl
  · rw [if_pos ((nI_ltI (by omega) (by omega)).mpr (by omega))]
theorem mx0I {m : Nat} (hm : m < 2 ^ 31) : (if nI 0 < nI m then nI m else nI 0) = nI m := by
  by_cases h : m = 0
  · subst h; rfl
  · rw [if_pos ((nI_ltI (by omega) (by omega)).mpr (by omega))]
theorem mnI {a b : Nat} (h : a ≤ b) (hb : b < 2 ^ 31) : (if nI b < nI a then nI b else nI a) = nI a := by
  rw [if_neg (by rw [nI_ltI (by omega) (by omega)]; omega)]
set_option maxHeartbeats 4000000 in
set_option maxRecDepth 100000 in
/-- empty() -/
theorem kSubject_empty (l : Launch) (D : va_G) (cI cZ cJ : ClassId) (su sb len : Nat)  : vx_Mv l yN_Subject_empty wN_Subject_empty ({ frames := 0, cells := 0, slots := 0, locals := 0 }) D clN (tyN cI cZ cJ) [.ref su] [(su, .inr (7, [.ref sb, .int (nI len)]))] (fun w => w = [(su, .inr (7, [.ref sb, .int (nI 0)]))]) := by
  refine vx_startV (cc := cN_Subject_empty) (maxL := 1) (ret := none) (by decide) rfl (Nat.le_of_ble_eq_true rfl) ?_
  intro p_0 e_0 s m below meth c_0 A ls C hK hP hD hS hA hl
  obtain ⟨hx, hb, hr, hml, hown, hts, hlocks, hnm⟩ := id C
  have hown : s.vm.findClass "StepMachines$Subject" = some m.cls := hown
  have ht : ∀ w ∈ TB, w.before _ s = true := fun w h => hts w (List.mem_cons_of_mem _ h)
  have hl : lv_has ls 1 [(0, .ref su)] := hl
  refine lv_aload_n hx hb dN_Subject_empty_0 rfl (lv_at hl 0 rfl) ?_
  refine lv_iconst (v := (nI 0)) hx hb dN_Subject_empty_1 (by decide) ?_
  refine va_put (D := D) (ci := 7) (v := .int (nI 0)) (ty := .int) (C := RN_Subject) (T := FN_Subject) (N := 2) hx hb ht fN_Subject tN_Subject oN_Subject nN_Subject hown hK hP hD hS 0 rfl rfl 1 (by decide) (ht _ mw_63) (fun _ h9 => h9) rfl (by decide +kernel) (rfl) (rfl) (Nat.le_of_ble_eq_true rfl) dN_Subject_empty_2 (fun H locs hP hD hS => ?_)
  have hP : va_P D clN [(su, .inr (7, [.ref sb, .int (nI 0)]))] H := hP
  have hD : va_D A [(su, .inr (7, [.ref sb, .int (nI 0)]))] := hD
  exact vx_vret C hK hP hD hS dN_Subject_empty_5 (Nat.le_of_ble_eq_true rfl) (Nat.le_of_ble_eq_true rfl) (rfl)
set_option maxHeartbeats 4000000 in
set_option maxRecDepth 100000 in
/-- length() -/
theorem kSubject_length (l : Launch) (D : va_G) (cI cZ cJ : ClassId) (su sb len : Nat)  : vx_Mi l yN_Subject_length wN_Subject_length ({ frames := 0, cells := 0, slots := 0, locals := 0 }) D clN (tyN cI cZ cJ) [.ref su] [(su, .inr (7, [.ref sb, .int (nI len)]))] (fun x w => x = nI len ∧ w = [(su, .inr (7, [.ref sb, .int (nI len)]))]) := by
  refine vx_startI (cc := cN_Subject_length) (maxL := 1) (ret := (some .int)) (by decide) rfl (Nat.le_of_ble_eq_true rfl) ?_
  intro p_0 e_0 s m below meth c_0 A ls C hK hP hD hS hA hl
  obtain ⟨hx, hb, hr, hml, hown, hts, hlocks, hnm⟩ := id C
  have hown : s.vm.findClass "StepMachines$Subject" = some m.cls := hown
  have ht : ∀ w ∈ TB, w.before _ s = true := fun w h => hts w (List.mem_cons_of_mem _ h)
  have hl : lv_has ls 1 [(0, .ref su)] := hl
  refine lv_aload_n hx hb dN_Subject_length_0 rfl (lv_at hl 0 rfl) ?_
  refine va_get (D := D) (ci := 7) (v := .int (nI len)) (C := RN_Subject) (T := FN_Subject) (N := 2) hx hb ht fN_Subject hown hK hP 0 rfl rfl 1 (by decide) (ht _ mw_63) (fun _ h9 => h9) rfl dN_Subject_length_1 ?_
  exact vx_iret C hK hP hD hS dN_Subject_length_4 (Nat.le_of_ble_eq_true rfl) (Nat.le_of_ble_eq_true rfl) (⟨rfl, rfl⟩)
set_option maxHeartbeats 4000000 in
set_option maxRecDepth 100000 in
/-- append(x) -/
theorem kSubject_append (l : Launch) (D : va_G) (cI cZ cJ : ClassId) (su sb len : Nat) (u : Nat → Nat) (x : Nat) (hlen : len < 200) (hxb : x < 256) : vx_Mv l yN_Subject_append wN_Subject_append ({ frames := 0, cells := 0, slots := 0, locals := 0 }) D clN (tyN cI cZ cJ) [.ref su, .int (nI x)] [(su, .inr (7, [.ref sb, .int (nI len)])), (sb, .inl (cI, 200, .inl (ni u)))] (fun w => w = [(su, .inr (7, [.ref sb, .int (nI (len + 1))])), (sb, .inl (cI, 200, .inl (ni (un u len x))))]) := by
  refine vx_startV (cc := cN_Subject_append) (maxL := 2) (ret := none) (by decide) rfl (Nat.le_of_ble_eq_true rfl) ?_
  intro p_0 e_0 s m below meth c_0 A ls C hK hP hD hS hA hl
  obtain ⟨hx, hb, hr, hml, hown, hts, hlocks, hnm⟩ := id C
  have hown : s.vm.findClass "StepMachines$Subject" = some m.cls := hown
  have ht : ∀ w ∈ TB, w.before _ s = true := fun w h => hts w (List.mem_cons_of_mem _ h)
  have hl : lv_has ls 2 [(0, .ref su), (1, .int (nI x))] := hl
  refine lv_aload_n hx hb dN_Subject_append_0 rfl (lv_at hl 0 rfl) ?_
  refine va_get (D := D) (ci := 7) (v := .int (nI len)) (C := RN_Subject) (T := FN_Subject) (N := 2) hx hb ht fN_Subject hown hK hP 0 rfl rfl 1 (by decide) (ht _ mw_63) (fun _ h9 => h9) rfl dN_Subject_append_1 ?_
  refine lv_sipush (v := (nI 200)) hx hb dN_Subject_append_4 (by decide) ?_
  refine xn_ge (tgt := 34) hx hb dN_Subject_append_7 (by decide) (by omega) (by omega) (fun c_7_0 => ?_) (fun c_7_0 => ?_)
  · skip
    exact absurd c_7_0 (by omega)
  · skip
    refine lv_aload_n hx hb dN_Subject_append_10 rfl (lv_at hl 0 rfl) ?_
    refine va_get (D := D) (ci := 7) (v := .ref sb) (C := RN_Subject) (T := FN_Subject) (N := 2) hx hb ht fN_Subject hown hK hP 0 rfl rfl 0 (by decide) (ht _ mw_62) (fun _ h9 => h9) rfl dN_Subject_append_11 ?_
    refine lv_aload_n hx hb dN_Subject_append_14 rfl (lv_at hl 0 rfl) ?_
    refine va_get (D := D) (ci := 7) (v := .int (nI len)) (C := RN_Subject) (T := FN_Subject) (N := 2) hx hb ht fN_Subject hown hK hP 0 rfl rfl 1 (by decide) (ht _ mw_63) (fun _ h9 => h9) rfl dN_Subject_append_15 ?_
    refine lv_iload_n hx hb dN_Subject_append_18 rfl (lv_at hl 1 rfl) ?_
    refine lv_sipush (v := (nI 255)) hx hb dN_Subject_append_19 (by decide) ?_
    refine lv_iand hx hb dN_Subject_append_22 ?_
    refine xn_top (y := (nI x)) (and255 hxb) ?_
    refine xn_ast hx hb hK hP hD hS 1 0 rfl rfl dN_Subject_append_23 (by omega) (by omega) (fun H locs hP hD hS => ?_)
    have hP : va_P D clN [(su, .inr (7, [.ref sb, .int (nI len)])), (sb, .inl (cI, 200, .inl (ni (un u len x))))] H := hP
    have hD : va_D A [(su, .inr (7, [.ref sb, .int (nI len)])), (sb, .inl (cI, 200, .inl (ni (un u len x))))] := hD
    refine lv_aload_n hx hb dN_Subject_append_24 rfl (lv_at hl 0 rfl) ?_
    refine lv_dup hx hb dN_Subject_append_25 rfl ?_
    refine va_get (D := D) (ci := 7) (v := .int (nI len)) (C := RN_Subject) (T := FN_Subject) (N := 2) hx hb ht fN_Subject hown hK hP 0 rfl rfl 1 (by decide) (ht _ mw_63) (fun _ h9 => h9) rfl dN_Subject_append_26 ?_
    refine lv_iconst (v := (nI 1)) hx hb dN_Subject_append_29 (by decide) ?_
    refine xn_add hx hb dN_Subject_append_30 ?_
    refine va_put (D := D) (ci := 7) (v := .int (nI (len + 1))) (ty := .int) (C := RN_Subject) (T := FN_Subject) (N := 2) hx hb ht fN_Subject tN_Subject oN_Subject nN_Subject hown hK hP hD hS 0 rfl rfl 1 (by decide) (ht _ mw_63) (fun _ h9 => h9) rfl (by decide +kernel) (rfl) (rfl) (Nat.le_of_ble_eq_true rfl) dN_Subject_append_31 (fun H locs hP hD hS => ?_)
    have hP : va_P D clN [(su, .inr (7, [.ref sb, .int (nI (len + 1))])), (sb, .inl (cI, 200, .inl (ni (un u len x))))] H := hP
    have hD : va_D A [(su, .inr (7, [.ref sb, .int (nI (len + 1))])), (sb, .inl (cI, 200, .inl (ni (un u len x))))] := hD
    exact vx_vret C hK hP hD hS dN_Subject_append_34 (Nat.le_of_ble_eq_true rfl) (Nat.le_of_ble_eq_true rfl) (rfl)
set_option maxHeartbeats 4000000 in
set_option maxRecDepth 100000 in
/-- byteBehind(t - 1) -/
theorem kSubject_byteBehind (l : Launch) (D : va_G) (cI cZ cJ : ClassId) (su sb len : Nat) (u : Nat → Nat) (x : Int32) (t : Nat) (ex : x = nI t - nI 1) (ht0 : t < 2 ^ 30) (hle : len ≤ 200) : vx_Mi l yN_Subject_byteBehind wN_Subject_byteBehind ({ frames := 0, cells := 0, slots := 0, locals := 0 }) D clN (tyN cI cZ cJ) [.ref su, .int x] [(su, .inr (7, [.ref sb, .int (nI len)])), (sb, .inl (cI, 200, .inl (ni u)))] (fun r w => r = bvI len u t ∧ w = [(su, .inr (7, [.ref sb, .int (nI len)])), (sb, .inl (cI, 200, .inl (ni u)))]) := by
  refine vx_startI (cc := cN_Subject_byteBehind) (maxL := 2) (ret := (some .int)) (by decide) rfl (Nat.le_of_ble_eq_true rfl) ?_
  intro p_0 e_0 s m below meth c_0 A ls C hK hP hD hS hA hl
  obtain ⟨hx, hb, hr, hml, hown, hts, hlocks, hnm⟩ := id C
  have hown : s.vm.findClass "StepMachines$Subject" = some m.cls := hown
  have ht : ∀ w ∈ TB, w.before _ s = true := fun w h => hts w (List.mem_cons_of_mem _ h)
  have hl : lv_has ls 2 [(0, .ref su), (1, .int x)] := hl
  refine lv_iload_n hx hb dN_Subject_byteBehind_0 rfl (lv_at hl 1 rfl) ?_
  refine lv_if_lt (tgt := 21) hx hb dN_Subject_byteBehind_1 (by decide) (fun c_1_0 => ?_) (fun c_1_0 => ?_)
  · skip
    rw [ex, m1_lt (by omega)] at c_1_0
    refine lv_iconst (v := (-1)) hx hb dN_Subject_byteBehind_21 (by decide) ?_
    exact vx_iret C hK hP hD hS dN_Subject_byteBehind_22 (Nat.le_of_ble_eq_true rfl) (Nat.le_of_ble_eq_true rfl) (⟨by rw [bvI, if_neg (by omega)], rfl⟩)
  · skip
    rw [ex, m1_lt (by omega)] at c_1_0
    refine lv_iload_n hx hb dN_Subject_byteBehind_4 rfl (lv_at hl 1 rfl) ?_
    refine lv_aload_n hx hb dN_Subject_byteBehind_5 rfl (lv_at hl 0 rfl) ?_
    refine va_get (D := D) (ci := 7) (v := .int (nI len)) (C := RN_Subject) (T := FN_Subject) (N := 2) hx hb ht fN_Subject hown hK hP 0 rfl rfl 1 (by decide) (ht _ mw_63) (fun _ h9 => h9) rfl dN_Subject_byteBehind_6 ?_
    refine lv_icmp_ge (tgt := 21) hx hb dN_Subject_byteBehind_9 (by decide) (fun c_9_1 => ?_) (fun c_9_1 => ?_)
    · skip
      rw [ex, pk_sub (by omega), nI_leI (by omega) (by omega)] at c_9_1
      refine lv_iconst (v := (-1)) hx hb dN_Subject_byteBehind_21 (by decide) ?_
      exact vx_iret C hK hP hD hS dN_Subject_byteBehind_22 (Nat.le_of_ble_eq_true rfl) (Nat.le_of_ble_eq_true rfl) (⟨by rw [bvI, if_neg (by omega)], rfl⟩)
    · skip
      rw [ex, pk_sub (by omega), nI_leI (by omega) (by omega)] at c_9_1
      refine lv_aload_n hx hb dN_Subject_byteBehind_12 rfl (lv_at hl 0 rfl) ?_
      refine va_get (D := D) (ci := 7) (v := .ref sb) (C := RN_Subject) (T := FN_Subject) (N := 2) hx hb ht fN_Subject hown hK hP 0 rfl rfl 0 (by decide) (ht _ mw_62) (fun _ h9 => h9) rfl dN_Subject_byteBehind_13 ?_
      refine lv_iload_n hx hb dN_Subject_byteBehind_16 rfl (lv_at hl 1 rfl) ?_
      refine xn_top (y := (nI (t - 1))) (by rw [ex, pk_sub (by omega)]) ?_
      refine xn_ald hx hb hK hP 1 0 rfl rfl dN_Subject_byteBehind_17 (by omega) (by omega) ?_
      refine lv_goto (tgt := 22) hx hb dN_Subject_byteBehind_18 (by decide) ?_
      exact vx_iret C hK hP hD hS dN_Subject_byteBehind_22 (Nat.le_of_ble_eq_true rfl) (Nat.le_of_ble_eq_true rfl) (⟨by rw [bvI, if_pos (by omega)], rfl⟩)
set_option maxHeartbeats 4000000 in
set_option maxRecDepth 100000 in
/-- whatIsSoAt(p) -/
theorem kSubject_whatIsSoAt (l : Launch) (D : va_G) (cI cZ cJ : ClassId) (su sb len : Nat) (u : Nat → Nat) (p : Nat) (hp0 : p < 2 ^ 29) (hle : len ≤ 200) : vx_Mi l yN_Subject_whatIsSoAt wN_Subject_whatIsSoAt ({ frames := 2, cells := 0, slots := 0, locals := 42 }) D clN (tyN cI cZ cJ) [.ref su, .int (nI p)] [(su, .inr (7, [.ref sb, .int (nI len)])), (sb, .inl (cI, 200, .inl (ni u)))] (fun r w => r = nI (soP len u p) ∧ w = [(su, .inr (7, [.ref sb, .int (nI len)])), (sb, .inl (cI, 200, .inl (ni u)))]) := by
  refine vx_startI (cc := cN_Subject_whatIsSoAt) (maxL := 2) (ret := (some .int)) (by decide) rfl (Nat.le_of_ble_eq_true rfl) ?_
  intro p_0 e_0 s m below meth c_0 A ls C hK hP hD hS hA hl
  obtain ⟨hx, hb, hr, hml, hown, hts, hlocks, hnm⟩ := id C
  have hown : s.vm.findClass "StepMachines$Subject" = some m.cls := hown
  have ht : ∀ w ∈ TB, w.before _ s = true := fun w h => hts w (List.mem_cons_of_mem _ h)
  have hl : lv_has ls 2 [(0, .ref su), (1, .int (nI p))] := hl
  refine lv_aload_n hx hb dN_Subject_whatIsSoAt_0 rfl (lv_at hl 0 rfl) ?_
  refine lv_iload_n hx hb dN_Subject_whatIsSoAt_1 rfl (lv_at hl 1 rfl) ?_
  refine lv_iconst (v := (nI 1)) hx hb dN_Subject_whatIsSoAt_2 (by decide) ?_
  refine lv_isub hx hb dN_Subject_whatIsSoAt_3 ?_
  refine vx_calli (wc := [(su, .inr (7, [.ref sb, .int (nI len)])), (sb, .inl (cI, 200, .inl (ni u)))]) (wr := []) [0, 1] [] hK hP hD hS hA rfl rfl (by decide) (by decide) (va_runV (As := [.int ((nI p) - (nI 1))]) (rest := []) ⟨hx, hb, hml, hown, ht⟩ (kSubject_byteBehind l D cI cZ cJ su sb len u ((nI p) - (nI 1)) p rfl (by omega) hle _) (⟨callB_of 1 ht (TB_in2 gN_Subject_byteBehind) rfl rfl rfl (ht _ mw_3) (ht _ mw_715) (by decide +kernel) ⟨Nat.le_of_ble_eq_true rfl, Nat.le_of_ble_eq_true rfl⟩, ht _ mw_694, ht _ mw_695⟩) (vx_preV [0, 1] hK hP hD (by decide) rfl (ci := 7) rfl 0 rfl) rfl rfl hl.1 rfl (lv_room (Nat.le_of_ble_eq_true rfl)) dN_Subject_whatIsSoAt_4 ⟨Nat.le_of_ble_eq_true rfl, Nat.le_of_ble_eq_true rfl⟩) (fun r1 w1 H locs hq hP hD hS => ?_)
  obtain ⟨rfl, rfl⟩ := hq
  have hP : va_P D clN [(su, .inr (7, [.ref sb, .int (nI len)])), (sb, .inl (cI, 200, .inl (ni u)))] H := hP.sub [0, 1] rfl
  have hD : va_D A [(su, .inr (7, [.ref sb, .int (nI len)])), (sb, .inl (cI, 200, .inl (ni u)))] := hD.sub [0, 1] (by decide) rfl
  refine lv_aload_n hx hb dN_Subject_whatIsSoAt_7 rfl (lv_at hl 0 rfl) ?_
  refine lv_iload_n hx hb dN_Subject_whatIsSoAt_8 rfl (lv_at hl 1 rfl) ?_
  refine xn_top (y := ((nI (p + 1)) - (nI 1))) (by rw [pk_sub (by omega)]; rfl) ?_
  refine vx_calli (wc := [(su, .inr (7, [.ref sb, .int (nI len)])), (sb, .inl (cI, 200, .inl (ni u)))]) (wr := []) [0, 1] [] hK hP hD hS hA rfl rfl (by decide) (by decide) (va_runV (As := [.int ((nI (p + 1)) - (nI 1))]) (rest := [.int (bvI len u p)]) ⟨hx, hb, hml, hown, ht⟩ (kSubject_byteBehind l D cI cZ cJ su sb len u ((nI (p + 1)) - (nI 1)) (p + 1) rfl (by omega) hle _) (⟨callB_of 1 ht (TB_in2 gN_Subject_byteBehind) rfl rfl rfl (ht _ mw_3) (ht _ mw_715) (by decide +kernel) ⟨Nat.le_of_ble_eq_true rfl, Nat.le_of_ble_eq_true rfl⟩, ht _ mw_694, ht _ mw_695⟩) (vx_preV [0, 1] hK hP hD (by decide) rfl (ci := 7) rfl 0 rfl) rfl rfl hl.1 rfl (lv_room (Nat.le_of_ble_eq_true rfl)) dN_Subject_whatIsSoAt_9 ⟨Nat.le_of_ble_eq_true rfl, Nat.le_of_ble_eq_true rfl⟩) (fun r1 w1 H locs hq hP hD hS => ?_)
  obtain ⟨rfl, rfl⟩ := hq
  have hP : va_P D clN [(su, .inr (7, [.ref sb, .int (nI len)])), (sb, .inl (cI, 200, .inl (ni u)))] H := hP.sub [0, 1] rfl
  have hD : va_D A [(su, .inr (7, [.ref sb, .int (nI len)])), (sb, .inl (cI, 200, .inl (ni u)))] := hD.sub [0, 1] (by decide) rfl
  refine vx_calli (wc := []) (wr := [(su, .inr (7, [.ref sb, .int (nI len)])), (sb, .inl (cI, 200, .inl (ni u)))]) [] [0, 1] hK hP hD hS hA rfl rfl (by decide) (by decide) (va_runS (As := [.int (bvI len u p), .int (bvI len u (p + 1))]) (rest := []) ⟨hx, hb, hml, hown, ht⟩ (kSubject_whatIsSo l D cI cZ cJ (bvI len u p) (bvI len u (p + 1)) _) (⟨callB_of 2 ht (TB_in2 gN_Subject_whatIsSo) rfl rfl rfl (ht _ mw_3) (ht _ mw_716) (by decide +kernel) ⟨Nat.le_of_ble_eq_true rfl, Nat.le_of_ble_eq_true rfl⟩, ht _ mw_717⟩) (vx_preS [] hK hP hD (by decide) rfl) rfl rfl hl.1 rfl (lv_room (Nat.le_of_ble_eq_true rfl)) dN_Subject_whatIsSoAt_12 ⟨Nat.le_of_ble_eq_true rfl, Nat.le_of_ble_eq_true rfl⟩) (fun r1 w1 H locs hq hP hD hS => ?_)
  obtain ⟨rfl, rfl⟩ := hq
  have hP : va_P D clN [(su, .inr (7, [.ref sb, .int (nI len)])), (sb, .inl (cI, 200, .inl (ni u)))] H := hP.sub [0, 1] rfl
  have hD : va_D A [(su, .inr (7, [.ref sb, .int (nI len)])), (sb, .inl (cI, 200, .inl (ni u)))] := hD.sub [0, 1] (by decide) rfl
  exact vx_iret C hK hP hD hS dN_Subject_whatIsSoAt_15 (Nat.le_of_ble_eq_true rfl) (Nat.le_of_ble_eq_true rfl) (⟨rfl, rfl⟩)
set_option maxHeartbeats 4000000 in
set_option maxRecDepth 100000 in
/-- mayEnd(how, p) -/
theorem kSubject_mayEnd (l : Launch) (D : va_G) (cI cZ cJ : ClassId) (su sb len : Nat) (how p : Nat) (hh : how < 3) (hp : p < 2 ^ 31) (hle : len ≤ 200) : vx_Mi l yN_Subject_mayEnd wN_Subject_mayEnd ({ frames := 0, cells := 0, slots := 0, locals := 0 }) D clN (tyN cI cZ cJ) [.ref su, .int (nI how), .int (nI p)] [(su, .inr (7, [.ref sb, .int (nI len)]))] (fun r w => r = zi (mayB len how p) ∧ w = [(su, .inr (7, [.ref sb, .int (nI len)]))]) := by
  refine vx_startI (cc := cN_Subject_mayEnd) (maxL := 3) (ret := (some .boolean)) (by decide) rfl (Nat.le_of_ble_eq_true rfl) ?_
  intro p_0 e_0 s m below meth c_0 A ls C hK hP hD hS hA hl
  obtain ⟨hx, hb, hr, hml, hown, hts, hlocks, hnm⟩ := id C
  have hown : s.vm.findClass "StepMachines$Subject" = some m.cls := hown
  have ht : ∀ w ∈ TB, w.before _ s = true := fun w h => hts w (List.mem_cons_of_mem _ h)
  have hl : lv_has ls 3 [(0, .ref su), (1, .int (nI how)), (2, .int (nI p))] := hl
  refine lv_iload_n hx hb dN_Subject_mayEnd_0 rfl (lv_at hl 1 rfl) ?_
  refine lv_iconst (v := (nI 2)) hx hb dN_Subject_mayEnd_1 (by decide) ?_
  refine xn_ne (tgt := 13) hx hb dN_Subject_mayEnd_2 (by decide) (by omega) (by omega) (fun c_2_0 => ?_) (fun c_2_0 => ?_)
  · skip
    refine lv_iconst (v := (nI 1)) hx hb dN_Subject_mayEnd_13 (by decide) ?_
    refine lv_goto (tgt := 18) hx hb dN_Subject_mayEnd_14 (by decide) ?_
    refine xn_top (y := zi true) rfl ?_
    exact vx_zret C hK hP hD hS dN_Subject_mayEnd_18 (Nat.le_of_ble_eq_true rfl) (Nat.le_of_ble_eq_true rfl) (zi_nar2 _) (⟨by simp [mayB, c_2_0], rfl⟩)
  · skip
    refine lv_iload_n hx hb dN_Subject_mayEnd_5 rfl (lv_at hl 2 rfl) ?_
    refine lv_aload_n hx hb dN_Subject_mayEnd_6 rfl (lv_at hl 0 rfl) ?_
    refine va_get (D := D) (ci := 7) (v := .int (nI len)) (C := RN_Subject) (T := FN_Subject) (N := 2) hx hb ht fN_Subject hown hK hP 0 rfl rfl 1 (by decide) (ht _ mw_63) (fun _ h9 => h9) rfl dN_Subject_mayEnd_7 ?_
    refine xn_ne (tgt := 17) hx hb dN_Subject_mayEnd_10 (by decide) (by omega) (by omega) (fun c_10_1 => ?_) (fun c_10_1 => ?_)
    · skip
      refine lv_iconst (v := (nI 0)) hx hb dN_Subject_mayEnd_17 (by decide) ?_
      refine xn_top (y := zi false) rfl ?_
      exact vx_zret C hK hP hD hS dN_Subject_mayEnd_18 (Nat.le_of_ble_eq_true rfl) (Nat.le_of_ble_eq_true rfl) (zi_nar2 _) (⟨by simp [mayB, c_2_0, c_10_1], rfl⟩)
    · skip
      refine lv_iconst (v := (nI 1)) hx hb dN_Subject_mayEnd_13 (by decide) ?_
      refine lv_goto (tgt := 18) hx hb dN_Subject_mayEnd_14 (by decide) ?_
      refine xn_top (y := zi true) rfl ?_
      exact vx_zret C hK hP hD hS dN_Subject_mayEnd_18 (Nat.le_of_ble_eq_true rfl) (Nat.le_of_ble_eq_true rfl) (zi_nar2 _) (⟨by simp [mayB, c_2_0, c_10_1], rfl⟩)
set_option maxHeartbeats 4000000 in
set_option maxRecDepth 100000 in
/-- isValue(kd, x) -/
theorem kProgram_isValue (l : Launch) (D : va_G) (cI cZ cJ : ClassId) (kd : Nat) (x : Int32) (h1 : 1 ≤ kd) (h5 : kd < 6) : vx_Mi l yN_Program_isValue wN_Program_isValue ({ frames := 0, cells := 0, slots := 0, locals := 0 }) D clN (tyN cI cZ cJ) [.int (nI kd), .int x] [] (fun r w => r = zi (gdB (nI kd) x) ∧ w = []) := by
  refine vx_startI (cc := cN_Program_isValue) (maxL := 2) (ret := (some .boolean)) (by decide) rfl (Nat.le_of_ble_eq_true rfl) ?_
  intro p_0 e_0 s m below meth c_0 A ls C hK hP hD hS hA hl
  obtain ⟨hx, hb, hr, hml, hown, hts, hlocks, hnm⟩ := id C
  have hown : s.vm.findClass "StepMachines$Program" = some m.cls := hown
  have ht : ∀ w ∈ TB, w.before _ s = true := fun w h => hts w (List.mem_cons_of_mem _ h)
  have hl : lv_has ls 2 [(0, .int (nI kd)), (1, .int x)] := hl
  refine lv_iload_n hx hb dN_Program_isValue_0 rfl (lv_at hl 0 rfl) ?_
  by_cases h_1_1 : kd = 1
  · refine xn_tin (k := 1) (tgt := 32) hx hb dN_Program_isValue_1 h_1_1 (by decide) rfl (by decide) ?_
    refine lv_iload_n hx hb dN_Program_isValue_32 rfl (lv_at hl 1 rfl) ?_
    refine lv_if_lt (tgt := 59) hx hb dN_Program_isValue_33 (by decide) (fun c_33_0 => ?_) (fun c_33_0 => ?_)
    · skip
      refine lv_iconst (v := (nI 0)) hx hb dN_Program_isValue_59 (by decide) ?_
      refine xn_top (y := zi false) rfl ?_
      exact vx_zret C hK hP hD hS dN_Program_isValue_60 (Nat.le_of_ble_eq_true rfl) (Nat.le_of_ble_eq_true rfl) (zi_nar2 _) (⟨by rw [h_1_1, gdB_1]; simp [h_1_1, c_33_0], rfl⟩)
    · skip
      refine lv_iload_n hx hb dN_Program_isValue_36 rfl (lv_at hl 1 rfl) ?_
      refine lv_ldc (v := nI 65536) hx hb hown (ht _ mw_598) dN_Program_isValue_37 ?_
      refine lv_icmp_ge (tgt := 59) hx hb dN_Program_isValue_39 (by decide) (fun c_39_1 => ?_) (fun c_39_1 => ?_)
      · skip
        refine lv_iconst (v := (nI 0)) hx hb dN_Program_isValue_59 (by decide) ?_
        refine xn_top (y := zi false) rfl ?_
        exact vx_zret C hK hP hD hS dN_Program_isValue_60 (Nat.le_of_ble_eq_true rfl) (Nat.le_of_ble_eq_true rfl) (zi_nar2 _) (⟨by rw [h_1_1, gdB_1]; simp [h_1_1, c_33_0, c_39_1], rfl⟩)
      · skip
        refine lv_iload_n hx hb dN_Program_isValue_42 rfl (lv_at hl 1 rfl) ?_
        refine lv_sipush (v := (nI 256)) hx hb dN_Program_isValue_43 (by decide) ?_
        refine lv_idiv hx hb dN_Program_isValue_46 (by decide) ?_
        refine lv_iload_n hx hb dN_Program_isValue_47 rfl (lv_at hl 1 rfl) ?_
        refine lv_sipush (v := (nI 256)) hx hb dN_Program_isValue_48 (by decide) ?_
        refine lv_irem hx hb dN_Program_isValue_51 (by decide) ?_
        refine lv_icmp_gt (tgt := 59) hx hb dN_Program_isValue_52 (by decide) (fun c_52_2 => ?_) (fun c_52_2 => ?_)
        · skip
          have d9 : ¬ x / nI 256 ≤ x - x / nI 256 * nI 256 := Int32.not_le.mpr c_52_2
          refine lv_iconst (v := (nI 0)) hx hb dN_Program_isValue_59 (by decide) ?_
          refine xn_top (y := zi false) rfl ?_
          exact vx_zret C hK hP hD hS dN_Program_isValue_60 (Nat.le_of_ble_eq_true rfl) (Nat.le_of_ble_eq_true rfl) (zi_nar2 _) (⟨by rw [h_1_1, gdB_1]; simp [h_1_1, c_33_0, c_39_1, c_52_2, d9], rfl⟩)
        · skip
          have d9 : x / nI 256 ≤ x - x / nI 256 * nI 256 := Int32.not_lt.mp c_52_2
          refine lv_iconst (v := (nI 1)) hx hb dN_Program_isValue_55 (by decide) ?_
          refine lv_goto (tgt := 60) hx hb dN_Program_isValue_56 (by decide) ?_
          refine xn_top (y := zi true) rfl ?_
          exact vx_zret C hK hP hD hS dN_Program_isValue_60 (Nat.le_of_ble_eq_true rfl) (Nat.le_of_ble_eq_true rfl) (zi_nar2 _) (⟨by rw [h_1_1, gdB_1]; simp [h_1_1, c_33_0, c_39_1, c_52_2, d9], rfl⟩)
  by_cases h_1_2 : kd = 2
  · refine xn_tin (k := 2) (tgt := 94) hx hb dN_Program_isValue_1 h_1_2 (by decide) rfl (by decide) ?_
    refine lv_iconst (v := (nI 1)) hx hb dN_Program_isValue_94 (by decide) ?_
    refine xn_top (y := zi true) rfl ?_
    exact vx_zret C hK hP hD hS dN_Program_isValue_95 (Nat.le_of_ble_eq_true rfl) (Nat.le_of_ble_eq_true rfl) (zi_nar2 _) (⟨by rw [h_1_2, gdB_2], rfl⟩)
  by_cases h_1_3 : kd = 3
  · refine xn_tin (k := 3) (tgt := 61) hx hb dN_Program_isValue_1 h_1_3 (by decide) rfl (by decide) ?_
    refine lv_iload_n hx hb dN_Program_isValue_61 rfl (lv_at hl 1 rfl) ?_
    refine lv_iconst (v := (nI 2)) hx hb dN_Program_isValue_62 (by decide) ?_
    refine lv_icmp_lt (tgt := 76) hx hb dN_Program_isValue_63 (by decide) (fun c_63_3 => ?_) (fun c_63_3 => ?_)
    · skip
      refine lv_iconst (v := (nI 0)) hx hb dN_Program_isValue_76 (by decide) ?_
      refine xn_top (y := zi false) rfl ?_
      exact vx_zret C hK hP hD hS dN_Program_isValue_77 (Nat.le_of_ble_eq_true rfl) (Nat.le_of_ble_eq_true rfl) (zi_nar2 _) (⟨by rw [h_1_3, gdB_3]; simp [h_1_3, c_63_3], rfl⟩)
    · skip
      refine lv_iload_n hx hb dN_Program_isValue_66 rfl (lv_at hl 1 rfl) ?_
      refine lv_bipush (v := (nI 20)) hx hb dN_Program_isValue_67 (by decide) ?_
      refine lv_icmp_ge (tgt := 76) hx hb dN_Program_isValue_69 (by decide) (fun c_69_4 => ?_) (fun c_69_4 => ?_)
      · skip
        have d9 : ¬ x < nI 20 := Int32.not_lt.mpr c_69_4
        refine lv_iconst (v := (nI 0)) hx hb dN_Program_isValue_76 (by decide) ?_
        refine xn_top (y := zi false) rfl ?_
        exact vx_zret C hK hP hD hS dN_Program_isValue_77 (Nat.le_of_ble_eq_true rfl) (Nat.le_of_ble_eq_true rfl) (zi_nar2 _) (⟨by rw [h_1_3, gdB_3]; simp [h_1_3, c_63_3, c_69_4, d9], rfl⟩)
      · skip
        have d9 : x < nI 20 := Int32.not_le.mp c_69_4
        refine lv_iconst (v := (nI 1)) hx hb dN_Program_isValue_72 (by decide) ?_
        refine lv_goto (tgt := 77) hx hb dN_Program_isValue_73 (by decide) ?_
        refine xn_top (y := zi true) rfl ?_
        exact vx_zret C hK hP hD hS dN_Program_isValue_77 (Nat.le_of_ble_eq_true rfl) (Nat.le_of_ble_eq_true rfl) (zi_nar2 _) (⟨by rw [h_1_3, gdB_3]; simp [h_1_3, c_63_3, c_69_4, d9], rfl⟩)
  by_cases h_1_4 : kd = 4
  · refine xn_tin (k := 4) (tgt := 78) hx hb dN_Program_isValue_1 h_1_4 (by decide) rfl (by decide) ?_
    refine lv_iload_n hx hb dN_Program_isValue_78 rfl (lv_at hl 1 rfl) ?_
    refine lv_if_lt (tgt := 92) hx hb dN_Program_isValue_79 (by decide) (fun c_79_5 => ?_) (fun c_79_5 => ?_)
    · skip
      refine lv_iconst (v := (nI 0)) hx hb dN_Program_isValue_92 (by decide) ?_
      refine xn_top (y := zi false) rfl ?_
      exact vx_zret C hK hP hD hS dN_Program_isValue_93 (Nat.le_of_ble_eq_true rfl) (Nat.le_of_ble_eq_true rfl) (zi_nar2 _) (⟨by rw [h_1_4, gdB_4]; simp [h_1_4, c_79_5], rfl⟩)
    · skip
      refine lv_iload_n hx hb dN_Program_isValue_82 rfl (lv_at hl 1 rfl) ?_
      refine lv_bipush (v := (nI 6)) hx hb dN_Program_isValue_83 (by decide) ?_
      refine lv_icmp_ge (tgt := 92) hx hb dN_Program_isValue_85 (by decide) (fun c_85_6 => ?_) (fun c_85_6 => ?_)
      · skip
        refine lv_iconst (v := (nI 0)) hx hb dN_Program_isValue_92 (by decide) ?_
        refine xn_top (y := zi false) rfl ?_
        exact vx_zret C hK hP hD hS dN_Program_isValue_93 (Nat.le_of_ble_eq_true rfl) (Nat.le_of_ble_eq_true rfl) (zi_nar2 _) (⟨by rw [h_1_4, gdB_4]; simp [h_1_4, c_79_5, c_85_6], rfl⟩)
      · skip
        refine lv_iconst (v := (nI 1)) hx hb dN_Program_isValue_88 (by decide) ?_
        refine lv_goto (tgt := 93) hx hb dN_Program_isValue_89 (by decide) ?_
        refine xn_top (y := zi true) rfl ?_
        exact vx_zret C hK hP hD hS dN_Program_isValue_93 (Nat.le_of_ble_eq_true rfl) (Nat.le_of_ble_eq_true rfl) (zi_nar2 _) (⟨by rw [h_1_4, gdB_4]; simp [h_1_4, c_79_5, c_85_6], rfl⟩)
  refine xn_tout (tgt := 94) hx hb dN_Program_isValue_1 (by omega) (by omega) (by decide) ?_
  refine lv_iconst (v := (nI 1)) hx hb dN_Program_isValue_94 (by decide) ?_
  refine xn_top (y := zi true) rfl ?_
  exact vx_zret C hK hP hD hS dN_Program_isValue_95 (Nat.le_of_ble_eq_true rfl) (Nat.le_of_ble_eq_true rfl) (zi_nar2 _) (⟨by rw [show kd = 5 by omega, gdB_5], rfl⟩)
set_option maxHeartbeats 4000000 in
set_option maxRecDepth 100000 in
/-- has(x) -/
theorem kProgram_has (l : Launch) (D : va_G) (cI cZ cJ : ClassId) (pr pK pV pF pS n b : Nat) (x : Int32)  : vx_Mi l yN_Program_has wN_Program_has ({ frames := 0, cells := 0, slots := 0, locals := 0 }) D clN (tyN cI cZ cJ) [.ref pr, .int x] [(pr, .inr (4, [.ref pK, .ref pV, .ref pF, .ref pS, .int (nI n), .int (nI b)]))] (fun r w => r = zi (stepB n x) ∧ w = [(pr, .inr (4, [.ref pK, .ref pV, .ref pF, .ref pS, .int (nI n), .int (nI b)]))]) := by
  refine vx_startI (cc := cN_Program_has) (maxL := 2) (ret := (some .boolean)) (by decide) rfl (Nat.le_of_ble_eq_true rfl) ?_
  intro p_0 e_0 s m below meth c_0 A ls C hK hP hD hS hA hl
  obtain ⟨hx, hb, hr, hml, hown, hts, hlocks, hnm⟩ := id C
  have hown : s.vm.findClass "StepMachines$Program" = some m.cls := hown
  have ht : ∀ w ∈ TB, w.before _ s = true := fun w h => hts w (List.mem_cons_of_mem _ h)
  have hl : lv_has ls 2 [(0, .ref pr), (1, .int x)] := hl
  refine lv_iload_n hx hb dN_Program_has_0 rfl (lv_at hl 1 rfl) ?_
  refine lv_if_lt (tgt := 16) hx hb dN_Program_has_1 (by decide) (fun c_1_0 => ?_) (fun c_1_0 => ?_)
  · skip
    refine lv_iconst (v := (nI 0)) hx hb dN_Program_has_16 (by decide) ?_
    refine xn_top (y := zi false) rfl ?_
    exact vx_zret C hK hP hD hS dN_Program_has_17 (Nat.le_of_ble_eq_true rfl) (Nat.le_of_ble_eq_true rfl) (zi_nar2 _) (⟨by simp [stepB, c_1_0], rfl⟩)
  · skip
    refine lv_iload_n hx hb dN_Program_has_4 rfl (lv_at hl 1 rfl) ?_
    refine lv_aload_n hx hb dN_Program_has_5 rfl (lv_at hl 0 rfl) ?_
    refine va_get (D := D) (ci := 4) (v := .int (nI n)) (C := RN_Program) (T := FN_Program) (N := 6) hx hb ht fN_Program hown hK hP 0 rfl rfl 4 (by decide) (ht _ mw_40) (fun _ h9 => h9) rfl dN_Program_has_6 ?_
    refine lv_icmp_ge (tgt := 16) hx hb dN_Program_has_9 (by decide) (fun c_9_1 => ?_) (fun c_9_1 => ?_)
    · skip
      refine lv_iconst (v := (nI 0)) hx hb dN_Program_has_16 (by decide) ?_
      refine xn_top (y := zi false) rfl ?_
      exact vx_zret C hK hP hD hS dN_Program_has_17 (Nat.le_of_ble_eq_true rfl) (Nat.le_of_ble_eq_true rfl) (zi_nar2 _) (⟨by simp [stepB, c_1_0, c_9_1], rfl⟩)
    · skip
      refine lv_iconst (v := (nI 1)) hx hb dN_Program_has_12 (by decide) ?_
      refine lv_goto (tgt := 17) hx hb dN_Program_has_13 (by decide) ?_
      refine xn_top (y := zi true) rfl ?_
      exact vx_zret C hK hP hD hS dN_Program_has_17 (Nat.le_of_ble_eq_true rfl) (Nat.le_of_ble_eq_true rfl) (zi_nar2 _) (⟨by simp [stepB, c_1_0, c_9_1], rfl⟩)
set_option maxHeartbeats 4000000 in
set_option maxRecDepth 100000 in
/-- size() -/
theorem kProgram_size (l : Launch) (D : va_G) (cI cZ cJ : ClassId) (pr pK pV pF pS n b : Nat)  : vx_Mi l yN_Program_size wN_Program_size ({ frames := 0, cells := 0, slots := 0, locals := 0 }) D clN (tyN cI cZ cJ) [.ref pr] [(pr, .inr (4, [.ref pK, .ref pV, .ref pF, .ref pS, .int (nI n), .int (nI b)]))] (fun x w => x = nI n ∧ w = [(pr, .inr (4, [.ref pK, .ref pV, .ref pF, .ref pS, .int (nI n), .int (nI b)]))]) := by
  refine vx_startI (cc := cN_Program_size) (maxL := 1) (ret := (some .int)) (by decide) rfl (Nat.le_of_ble_eq_true rfl) ?_
  intro p_0 e_0 s m below meth c_0 A ls C hK hP hD hS hA hl
  obtain ⟨hx, hb, hr, hml, hown, hts, hlocks, hnm⟩ := id C
  have hown : s.vm.findClass "StepMachines$Program" = some m.cls := hown
  have ht : ∀ w ∈ TB, w.before _ s = true := fun w h => hts w (List.mem_cons_of_mem _ h)
  have hl : lv_has ls 1 [(0, .ref pr)] := hl
  refine lv_aload_n hx hb dN_Program_size_0 rfl (lv_at hl 0 rfl) ?_
  refine va_get (D := D) (ci := 4) (v := .int (nI n)) (C := RN_Program) (T := FN_Program) (N := 6) hx hb ht fN_Program hown hK hP 0 rfl rfl 4 (by decide) (ht _ mw_40) (fun _ h9 => h9) rfl dN_Program_size_1 ?_
  exact vx_iret C hK hP hD hS dN_Program_size_4 (Nat.le_of_ble_eq_true rfl) (Nat.le_of_ble_eq_true rfl) (⟨rfl, rfl⟩)
set_option maxHeartbeats 4000000 in
set_option maxRecDepth 100000 in
/-- beginning() -/
theorem kProgram_beginning (l : Launch) (D : va_G) (cI cZ cJ : ClassId) (pr pK pV pF pS n b : Nat)  : vx_Mi l yN_Program_beginning wN_Program_beginning ({ frames := 0, cells := 0, slots := 0, locals := 0 }) D clN (tyN cI cZ cJ) [.ref pr] [(pr, .inr (4, [.ref pK, .ref pV, .ref pF, .ref pS, .int (nI n), .int (nI b)]))] (fun x w => x = nI b ∧ w = [(pr, .inr (4, [.ref pK, .ref pV, .ref pF, .ref pS, .int (nI n), .int (nI b)]))]) := by
  refine vx_startI (cc := cN_Program_beginning) (maxL := 1) (ret := (some .int)) (by decide) rfl (Nat.le_of_ble_eq_true rfl) ?_
  intro p_0 e_0 s m below meth c_0 A ls C hK hP hD hS hA hl
  obtain ⟨hx, hb, hr, hml, hown, hts, hlocks, hnm⟩ := id C
  have hown : s.vm.findClass "StepMachines$Program" = some m.cls := hown
  have ht : ∀ w ∈ TB, w.before _ s = true := fun w h => hts w (List.mem_cons_of_mem _ h)
  have hl : lv_has ls 1 [(0, .ref pr)] := hl
  refine lv_aload_n hx hb dN_Program_beginning_0 rfl (lv_at hl 0 rfl) ?_
  refine va_get (D := D) (ci := 4) (v := .int (nI b)) (C := RN_Program) (T := FN_Program) (N := 6) hx hb ht fN_Program hown hK hP 0 rfl rfl 5 (by decide) (ht _ mw_41) (fun _ h9 => h9) rfl dN_Program_beginning_1 ?_
  exact vx_iret C hK hP hD hS dN_Program_beginning_4 (Nat.le_of_ble_eq_true rfl) (Nat.le_of_ble_eq_true rfl) (⟨rfl, rfl⟩)
set_option maxHeartbeats 4000000 in
set_option maxRecDepth 100000 in
/-- kindOf(k) -/
theorem kProgram_kindOf (l : Launch) (D : va_G) (cI cZ cJ : ClassId) (pr pK pV pF pS n b : Nat) (gC : Nat → Nat) (k : Nat) (hk : k < n) (hn : n ≤ 200) : vx_Mi l yN_Program_kindOf wN_Program_kindOf ({ frames := 1, cells := 0, slots := 0, locals := 21 }) D clN (tyN cI cZ cJ) [.ref pr, .int (nI k)] [(pr, .inr (4, [.ref pK, .ref pV, .ref pF, .ref pS, .int (nI n), .int (nI b)])), (pK, .inl (cI, 200, .inl (ni gC)))] (fun x w => x = nI (gC k) ∧ w = [(pr, .inr (4, [.ref pK, .ref pV, .ref pF, .ref pS, .int (nI n), .int (nI b)])), (pK, .inl (cI, 200, .inl (ni gC)))]) := by
  refine vx_startI (cc := cN_Program_kindOf) (maxL := 2) (ret := (some .int)) (by decide) rfl (Nat.le_of_ble_eq_true rfl) ?_
  intro p_0 e_0 s m below meth c_0 A ls C hK hP hD hS hA hl
  obtain ⟨hx, hb, hr, hml, hown, hts, hlocks, hnm⟩ := id C
  have hown : s.vm.findClass "StepMachines$Program" = some m.cls := hown
  have ht : ∀ w ∈ TB, w.before _ s = true := fun w h => hts w (List.mem_cons_of_mem _ h)
  have hl : lv_has ls 2 [(0, .ref pr), (1, .int (nI k))] := hl
  refine lv_aload_n hx hb dN_Program_kindOf_0 rfl (lv_at hl 0 rfl) ?_
  refine lv_iload_n hx hb dN_Program_kindOf_1 rfl (lv_at hl 1 rfl) ?_
  refine vx_calli (wc := [(pr, .inr (4, [.ref pK, .ref pV, .ref pF, .ref pS, .int (nI n), .int (nI b)]))]) (wr := [(pK, .inl (cI, 200, .inl (ni gC)))]) [0] [1] hK hP hD hS hA rfl rfl (by decide) (by decide) (va_runV (As := [.int (nI k)]) (rest := []) ⟨hx, hb, hml, hown, ht⟩ (kProgram_has l D cI cZ cJ pr pK pV pF pS n b (nI k) _) (⟨callB_of 1 ht (TB_in2 gN_Program_has) rfl rfl rfl (ht _ mw_2) (ht _ mw_440) (by decide +kernel) ⟨Nat.le_of_ble_eq_true rfl, Nat.le_of_ble_eq_true rfl⟩, ht _ mw_390, ht _ mw_391⟩) (vx_preV [0] hK hP hD (by decide) rfl (ci := 4) rfl 0 rfl) rfl rfl hl.1 rfl (lv_room (Nat.le_of_ble_eq_true rfl)) dN_Program_kindOf_2 ⟨Nat.le_of_ble_eq_true rfl, Nat.le_of_ble_eq_true rfl⟩) (fun r1 w1 H locs hq hP hD hS => ?_)
  obtain ⟨rfl, rfl⟩ := hq
  have hP : va_P D clN [(pr, .inr (4, [.ref pK, .ref pV, .ref pF, .ref pS, .int (nI n), .int (nI b)])), (pK, .inl (cI, 200, .inl (ni gC)))] H := hP.sub [1, 0] rfl
  have hD : va_D A [(pr, .inr (4, [.ref pK, .ref pV, .ref pF, .ref pS, .int (nI n), .int (nI b)])), (pK, .inl (cI, 200, .inl (ni gC)))] := hD.sub [1, 0] (by decide) rfl
  refine xz_eq0 (tgt := 17) hx hb dN_Program_kindOf_5 (by decide) (fun c_5_0 => ?_) (fun c_5_0 => ?_)
  · skip
    exact absurd (stepB_ok (hn) (hk)) (by rw [c_5_0]; decide)
  · skip
    refine lv_aload_n hx hb dN_Program_kindOf_8 rfl (lv_at hl 0 rfl) ?_
    refine va_get (D := D) (ci := 4) (v := .ref pK) (C := RN_Program) (T := FN_Program) (N := 6) hx hb ht fN_Program hown hK hP 0 rfl rfl 0 (by decide) (ht _ mw_36) (fun _ h9 => h9) rfl dN_Program_kindOf_9 ?_
    refine lv_iload_n hx hb dN_Program_kindOf_12 rfl (lv_at hl 1 rfl) ?_
    refine xn_ald hx hb hK hP 1 0 rfl rfl dN_Program_kindOf_13 (by omega) (by omega) ?_
    refine lv_goto (tgt := 18) hx hb dN_Program_kindOf_14 (by decide) ?_
    exact vx_iret C hK hP hD hS dN_Program_kindOf_18 (Nat.le_of_ble_eq_true rfl) (Nat.le_of_ble_eq_true rfl) (⟨rfl, rfl⟩)
set_option maxHeartbeats 4000000 in
set_option maxRecDepth 100000 in
/-- valueOf(k) -/
theorem kProgram_valueOf (l : Launch) (D : va_G) (cI cZ cJ : ClassId) (pr pK pV pF pS n b : Nat) (gC : Nat → Nat) (k : Nat) (hk : k < n) (hn : n ≤ 200) : vx_Mi l yN_Program_valueOf wN_Program_valueOf ({ frames := 1, cells := 0, slots := 0, locals := 21 }) D clN (tyN cI cZ cJ) [.ref pr, .int (nI k)] [(pr, .inr (4, [.ref pK, .ref pV, .ref pF, .ref pS, .int (nI n), .int (nI b)])), (pV, .inl (cI, 200, .inl (ni gC)))] (fun x w => x = nI (gC k) ∧ w = [(pr, .inr (4, [.ref pK, .ref pV, .ref pF, .ref pS, .int (nI n), .int (nI b)])), (pV, .inl (cI, 200, .inl (ni gC)))]) := by
  refine vx_startI (cc := cN_Program_valueOf) (maxL := 2) (ret := (some .int)) (by decide) rfl (Nat.le_of_ble_eq_true rfl) ?_
  intro p_0 e_0 s m below meth c_0 A ls C hK hP hD hS hA hl
  obtain ⟨hx, hb, hr, hml, hown, hts, hlocks, hnm⟩ := id C
  have hown : s.vm.findClass "StepMachines$Program" = some m.cls := hown
  have ht : ∀ w ∈ TB, w.before _ s = true := fun w h => hts w (List.mem_cons_of_mem _ h)
  have hl : lv_has ls 2 [(0, .ref pr), (1, .int (nI k))] := hl
  refine lv_aload_n hx hb dN_Program_valueOf_0 rfl (lv_at hl 0 rfl) ?_
  refine lv_iload_n hx hb dN_Program_valueOf_1 rfl (lv_at hl 1 rfl) ?_
  refine vx_calli (wc := [(pr, .inr (4, [.ref pK, .ref pV, .ref pF, .ref pS, .int (nI n), .int (nI b)]))]) (wr := [(pV, .inl (cI, 200, .inl (ni gC)))]) [0] [1] hK hP hD hS hA rfl rfl (by decide) (by decide) (va_runV (As := [.int (nI k)]) (rest := []) ⟨hx, hb, hml, hown, ht⟩ (kProgram_has l D cI cZ cJ pr pK pV pF pS n b (nI k) _) (⟨callB_of 1 ht (TB_in2 gN_Program_has) rfl rfl rfl (ht _ mw_2) (ht _ mw_440) (by decide +kernel) ⟨Nat.le_of_ble_eq_true rfl, Nat.le_of_ble_eq_true rfl⟩, ht _ mw_390, ht _ mw_391⟩) (vx_preV [0] hK hP hD (by decide) rfl (ci := 4) rfl 0 rfl) rfl rfl hl.1 rfl (lv_room (Nat.le_of_ble_eq_true rfl)) dN_Program_valueOf_2 ⟨Nat.le_of_ble_eq_true rfl, Nat.le_of_ble_eq_true rfl⟩) (fun r1 w1 H locs hq hP hD hS => ?_)
  obtain ⟨rfl, rfl⟩ := hq
  have hP : va_P D clN [(pr, .inr (4, [.ref pK, .ref pV, .ref pF, .ref pS, .int (nI n), .int (nI b)])), (pV, .inl (cI, 200, .inl (ni gC)))] H := hP.sub [1, 0] rfl
  have hD : va_D A [(pr, .inr (4, [.ref pK, .ref pV, .ref pF, .ref pS, .int (nI n), .int (nI b)])), (pV, .inl (cI, 200, .inl (ni gC)))] := hD.sub [1, 0] (by decide) rfl
  refine xz_eq0 (tgt := 17) hx hb dN_Program_valueOf_5 (by decide) (fun c_5_0 => ?_) (fun c_5_0 => ?_)
  · skip
    exact absurd (stepB_ok (hn) (hk)) (by rw [c_5_0]; decide)
  · skip
    refine lv_aload_n hx hb dN_Program_valueOf_8 rfl (lv_at hl 0 rfl) ?_
    refine va_get (D := D) (ci := 4) (v := .ref pV) (C := RN_Program) (T := FN_Program) (N := 6) hx hb ht fN_Program hown hK hP 0 rfl rfl 1 (by decide) (ht _ mw_37) (fun _ h9 => h9) rfl dN_Program_valueOf_9 ?_
    refine lv_iload_n hx hb dN_Program_valueOf_12 rfl (lv_at hl 1 rfl) ?_
    refine xn_ald hx hb hK hP 1 0 rfl rfl dN_Program_valueOf_13 (by omega) (by omega) ?_
    refine lv_goto (tgt := 18) hx hb dN_Program_valueOf_14 (by decide) ?_
    exact vx_iret C hK hP hD hS dN_Program_valueOf_18 (Nat.le_of_ble_eq_true rfl) (Nat.le_of_ble_eq_true rfl) (⟨rfl, rfl⟩)
set_option maxHeartbeats 4000000 in
set_option maxRecDepth 100000 in
/-- firstOf(k) -/
theorem kProgram_firstOf (l : Launch) (D : va_G) (cI cZ cJ : ClassId) (pr pK pV pF pS n b : Nat) (gC : Nat → Nat) (k : Nat) (hk : k < n) (hn : n ≤ 200) : vx_Mi l yN_Program_firstOf wN_Program_firstOf ({ frames := 1, cells := 0, slots := 0, locals := 21 }) D clN (tyN cI cZ cJ) [.ref pr, .int (nI k)] [(pr, .inr (4, [.ref pK, .ref pV, .ref pF, .ref pS, .int (nI n), .int (nI b)])), (pF, .inl (cI, 200, .inl (ni gC)))] (fun x w => x = nI (gC k) ∧ w = [(pr, .inr (4, [.ref pK, .ref pV, .ref pF, .ref pS, .int (nI n), .int (nI b)])), (pF, .inl (cI, 200, .inl (ni gC)))]) := by
  refine vx_startI (cc := cN_Program_firstOf) (maxL := 2) (ret := (some .int)) (by decide) rfl (Nat.le_of_ble_eq_true rfl) ?_
  intro p_0 e_0 s m below meth c_0 A ls C hK hP hD hS hA hl
  obtain ⟨hx, hb, hr, hml, hown, hts, hlocks, hnm⟩ := id C
  have hown : s.vm.findClass "StepMachines$Program" = some m.cls := hown
  have ht : ∀ w ∈ TB, w.before _ s = true := fun w h => hts w (List.mem_cons_of_mem _ h)
  have hl : lv_has ls 2 [(0, .ref pr), (1, .int (nI k))] := hl
  refine lv_aload_n hx hb dN_Program_firstOf_0 rfl (lv_at hl 0 rfl) ?_
  refine lv_iload_n hx hb dN_Program_firstOf_1 rfl (lv_at hl 1 rfl) ?_
  refine vx_calli (wc := [(pr, .inr (4, [.ref pK, .ref pV, .ref pF, .ref pS, .int (nI n), .int (nI b)]))]) (wr := [(pF, .inl (cI, 200, .inl (ni gC)))]) [0] [1] hK hP hD hS hA rfl rfl (by decide) (by decide) (va_runV (As := [.int (nI k)]) (rest := []) ⟨hx, hb, hml, hown, ht⟩ (kProgram_has l D cI cZ cJ pr pK pV pF pS n b (nI k) _) (⟨callB_of 1 ht (TB_in2 gN_Program_has) rfl rfl rfl (ht _ mw_2) (ht _ mw_440) (by decide +kernel) ⟨Nat.le_of_ble_eq_true rfl, Nat.le_of_ble_eq_true rfl⟩, ht _ mw_390, ht _ mw_391⟩) (vx_preV [0] hK hP hD (by decide) rfl (ci := 4) rfl 0 rfl) rfl rfl hl.1 rfl (lv_room (Nat.le_of_ble_eq_true rfl)) dN_Program_firstOf_2 ⟨Nat.le_of_ble_eq_true rfl, Nat.le_of_ble_eq_true rfl⟩) (fun r1 w1 H locs hq hP hD hS => ?_)
  obtain ⟨rfl, rfl⟩ := hq
  have hP : va_P D clN [(pr, .inr (4, [.ref pK, .ref pV, .ref pF, .ref pS, .int (nI n), .int (nI b)])), (pF, .inl (cI, 200, .inl (ni gC)))] H := hP.sub [1, 0] rfl
  have hD : va_D A [(pr, .inr (4, [.ref pK, .ref pV, .ref pF, .ref pS, .int (nI n), .int (nI b)])), (pF, .inl (cI, 200, .inl (ni gC)))] := hD.sub [1, 0] (by decide) rfl
  refine xz_eq0 (tgt := 17) hx hb dN_Program_firstOf_5 (by decide) (fun c_5_0 => ?_) (fun c_5_0 => ?_)
  · skip
    exact absurd (stepB_ok (hn) (hk)) (by rw [c_5_0]; decide)
  · skip
    refine lv_aload_n hx hb dN_Program_firstOf_8 rfl (lv_at hl 0 rfl) ?_
    refine va_get (D := D) (ci := 4) (v := .ref pF) (C := RN_Program) (T := FN_Program) (N := 6) hx hb ht fN_Program hown hK hP 0 rfl rfl 2 (by decide) (ht _ mw_38) (fun _ h9 => h9) rfl dN_Program_firstOf_9 ?_
    refine lv_iload_n hx hb dN_Program_firstOf_12 rfl (lv_at hl 1 rfl) ?_
    refine xn_ald hx hb hK hP 1 0 rfl rfl dN_Program_firstOf_13 (by omega) (by omega) ?_
    refine lv_goto (tgt := 18) hx hb dN_Program_firstOf_14 (by decide) ?_
    exact vx_iret C hK hP hD hS dN_Program_firstOf_18 (Nat.le_of_ble_eq_true rfl) (Nat.le_of_ble_eq_true rfl) (⟨rfl, rfl⟩)
set_option maxHeartbeats 4000000 in
set_option maxRecDepth 100000 in
/-- secondOf(k) -/
theorem kProgram_secondOf (l : Launch) (D : va_G) (cI cZ cJ : ClassId) (pr pK pV pF pS n b : Nat) (gC : Nat → Nat) (k : Nat) (hk : k < n) (hn : n ≤ 200) : vx_Mi l yN_Program_secondOf wN_Program_secondOf ({ frames := 1, cells := 0, slots := 0, locals := 21 }) D clN (tyN cI cZ cJ) [.ref pr, .int (nI k)] [(pr, .inr (4, [.ref pK, .ref pV, .ref pF, .ref pS, .int (nI n), .int (nI b)])), (pS, .inl (cI, 200, .inl (ni gC)))] (fun x w => x = nI (gC k) ∧ w = [(pr, .inr (4, [.ref pK, .ref pV, .ref pF, .ref pS, .int (nI n), .int (nI b)])), (pS, .inl (cI, 200, .inl (ni gC)))]) := by
  refine vx_startI (cc := cN_Program_secondOf) (maxL := 2) (ret := (some .int)) (by decide) rfl (Nat.le_of_ble_eq_true rfl) ?_
  intro p_0 e_0 s m below meth c_0 A ls C hK hP hD hS hA hl
  obtain ⟨hx, hb, hr, hml, hown, hts, hlocks, hnm⟩ := id C
  have hown : s.vm.findClass "StepMachines$Program" = some m.cls := hown
  have ht : ∀ w ∈ TB, w.before _ s = true := fun w h => hts w (List.mem_cons_of_mem _ h)
  have hl : lv_has ls 2 [(0, .ref pr), (1, .int (nI k))] := hl
  refine lv_aload_n hx hb dN_Program_secondOf_0 rfl (lv_at hl 0 rfl) ?_
  refine lv_iload_n hx hb dN_Program_secondOf_1 rfl (lv_at hl 1 rfl) ?_
  refine vx_calli (wc := [(pr, .inr (4, [.ref pK, .ref pV, .ref pF, .ref pS, .int (nI n), .int (nI b)]))]) (wr := [(pS, .inl (cI, 200, .inl (ni gC)))]) [0] [1] hK hP hD hS hA rfl rfl (by decide) (by decide) (va_runV (As := [.int (nI k)]) (rest := []) ⟨hx, hb, hml, hown, ht⟩ (kProgram_has l D cI cZ cJ pr pK pV pF pS n b (nI k) _) (⟨callB_of 1 ht (TB_in2 gN_Program_has) rfl rfl rfl (ht _ mw_2) (ht _ mw_440) (by decide +kernel) ⟨Nat.le_of_ble_eq_true rfl, Nat.le_of_ble_eq_true rfl⟩, ht _ mw_390, ht _ mw_391⟩) (vx_preV [0] hK hP hD (by decide) rfl (ci := 4) rfl 0 rfl) rfl rfl hl.1 rfl (lv_room (Nat.le_of_ble_eq_true rfl)) dN_Program_secondOf_2 ⟨Nat.le_of_ble_eq_true rfl, Nat.le_of_ble_eq_true rfl⟩) (fun r1 w1 H locs hq hP hD hS => ?_)
  obtain ⟨rfl, rfl⟩ := hq
  have hP : va_P D clN [(pr, .inr (4, [.ref pK, .ref pV, .ref pF, .ref pS, .int (nI n), .int (nI b)])), (pS, .inl (cI, 200, .inl (ni gC)))] H := hP.sub [1, 0] rfl
  have hD : va_D A [(pr, .inr (4, [.ref pK, .ref pV, .ref pF, .ref pS, .int (nI n), .int (nI b)])), (pS, .inl (cI, 200, .inl (ni gC)))] := hD.sub [1, 0] (by decide) rfl
  refine xz_eq0 (tgt := 17) hx hb dN_Program_secondOf_5 (by decide) (fun c_5_0 => ?_) (fun c_5_0 => ?_)
  · skip
    exact absurd (stepB_ok (hn) (hk)) (by rw [c_5_0]; decide)
  · skip
    refine lv_aload_n hx hb dN_Program_secondOf_8 rfl (lv_at hl 0 rfl) ?_
    refine va_get (D := D) (ci := 4) (v := .ref pS) (C := RN_Program) (T := FN_Program) (N := 6) hx hb ht fN_Program hown hK hP 0 rfl rfl 3 (by decide) (ht _ mw_39) (fun _ h9 => h9) rfl dN_Program_secondOf_9 ?_
    refine lv_iload_n hx hb dN_Program_secondOf_12 rfl (lv_at hl 1 rfl) ?_
    refine xn_ald hx hb hK hP 1 0 rfl rfl dN_Program_secondOf_13 (by omega) (by omega) ?_
    refine lv_goto (tgt := 18) hx hb dN_Program_secondOf_14 (by decide) ?_
    exact vx_iret C hK hP hD hS dN_Program_secondOf_18 (Nat.le_of_ble_eq_true rfl) (Nat.le_of_ble_eq_true rfl) (⟨rfl, rfl⟩)
set_option maxHeartbeats 4000000 in
set_option maxRecDepth 100000 in
/-- beginWith(k) -/
theorem kProgram_beginWith (l : Launch) (D : va_G) (cI cZ cJ : ClassId) (pr pK pV pF pS n b : Nat) (k : Nat) (hk : k < n) (hn : n ≤ 200) : vx_Mv l yN_Program_beginWith wN_Program_beginWith ({ frames := 1, cells := 0, slots := 0, locals := 21 }) D clN (tyN cI cZ cJ) [.ref pr, .int (nI k)] [(pr, .inr (4, [.ref pK, .ref pV, .ref pF, .ref pS, .int (nI n), .int (nI b)]))] (fun w => w = [(pr, .inr (4, [.ref pK, .ref pV, .ref pF, .ref pS, .int (nI n), .int (nI k)]))]) := by
  refine vx_startV (cc := cN_Program_beginWith) (maxL := 2) (ret := none) (by decide) rfl (Nat.le_of_ble_eq_true rfl) ?_
  intro p_0 e_0 s m below meth c_0 A ls C hK hP hD hS hA hl
  obtain ⟨hx, hb, hr, hml, hown, hts, hlocks, hnm⟩ := id C
  have hown : s.vm.findClass "StepMachines$Program" = some m.cls := hown
  have ht : ∀ w ∈ TB, w.before _ s = true := fun w h => hts w (List.mem_cons_of_mem _ h)
  have hl : lv_has ls 2 [(0, .ref pr), (1, .int (nI k))] := hl
  refine lv_aload_n hx hb dN_Program_beginWith_0 rfl (lv_at hl 0 rfl) ?_
  refine lv_aload_n hx hb dN_Program_beginWith_1 rfl (lv_at hl 0 rfl) ?_
  refine lv_iload_n hx hb dN_Program_beginWith_2 rfl (lv_at hl 1 rfl) ?_
  refine vx_calli (wc := [(pr, .inr (4, [.ref pK, .ref pV, .ref pF, .ref pS, .int (nI n), .int (nI b)]))]) (wr := []) [0] [] hK hP hD hS hA rfl rfl (by decide) (by decide) (va_runV (As := [.int (nI k)]) (rest := [.ref pr]) ⟨hx, hb, hml, hown, ht⟩ (kProgram_has l D cI cZ cJ pr pK pV pF pS n b (nI k) _) (⟨callB_of 1 ht (TB_in2 gN_Program_has) rfl rfl rfl (ht _ mw_2) (ht _ mw_440) (by decide +kernel) ⟨Nat.le_of_ble_eq_true rfl, Nat.le_of_ble_eq_true rfl⟩, ht _ mw_390, ht _ mw_391⟩) (vx_preV [0] hK hP hD (by decide) rfl (ci := 4) rfl 0 rfl) rfl rfl hl.1 rfl (lv_room (Nat.le_of_ble_eq_true rfl)) dN_Program_beginWith_3 ⟨Nat.le_of_ble_eq_true rfl, Nat.le_of_ble_eq_true rfl⟩) (fun r1 w1 H locs hq hP hD hS => ?_)
  obtain ⟨rfl, rfl⟩ := hq
  have hP : va_P D clN [(pr, .inr (4, [.ref pK, .ref pV, .ref pF, .ref pS, .int (nI n), .int (nI b)]))] H := hP.sub [0] rfl
  have hD : va_D A [(pr, .inr (4, [.ref pK, .ref pV, .ref pF, .ref pS, .int (nI n), .int (nI b)]))] := hD.sub [0] (by decide) rfl
  refine xz_eq0 (tgt := 13) hx hb dN_Program_beginWith_6 (by decide) (fun c_6_0 => ?_) (fun c_6_0 => ?_)
  · skip
    exact absurd (stepB_ok (hn) (hk)) (by rw [c_6_0]; decide)
  · skip
    refine lv_iload_n hx hb dN_Program_beginWith_9 rfl (lv_at hl 1 rfl) ?_
    refine lv_goto (tgt := 17) hx hb dN_Program_beginWith_10 (by decide) ?_
    refine va_put (D := D) (ci := 4) (v := .int (nI k)) (ty := .int) (C := RN_Program) (T := FN_Program) (N := 6) hx hb ht fN_Program tN_Program oN_Program nN_Program hown hK hP hD hS 0 rfl rfl 5 (by decide) (ht _ mw_41) (fun _ h9 => h9) rfl (by decide +kernel) (rfl) (rfl) (Nat.le_of_ble_eq_true rfl) dN_Program_beginWith_17 (fun H locs hP hD hS => ?_)
    have hP : va_P D clN [(pr, .inr (4, [.ref pK, .ref pV, .ref pF, .ref pS, .int (nI n), .int (nI k)]))] H := hP
    have hD : va_D A [(pr, .inr (4, [.ref pK, .ref pV, .ref pF, .ref pS, .int (nI n), .int (nI k)]))] := hD
    exact vx_vret C hK hP hD hS dN_Program_beginWith_20 (Nat.le_of_ble_eq_true rfl) (Nat.le_of_ble_eq_true rfl) (rfl)
set_option maxHeartbeats 4000000 in
set_option maxRecDepth 100000 in
/-- takes(k, x) -/
theorem kProgram_takes (l : Launch) (D : va_G) (cI cZ cJ : ClassId) (pr pK pV pF pS n b : Nat) (kC vC : Nat → Nat) (k : Nat) (x : Int32) (hk : k < n) (hn : n ≤ 200) (hk1 : kC k = 1) (hv : vC k < 2 ^ 31) : vx_Mi l yN_Program_takes wN_Program_takes ({ frames := 1, cells := 0, slots := 0, locals := 21 }) D clN (tyN cI cZ cJ) [.ref pr, .int (nI k), .int x] [(pr, .inr (4, [.ref pK, .ref pV, .ref pF, .ref pS, .int (nI n), .int (nI b)])), (pK, .inl (cI, 200, .inl (ni kC))), (pV, .inl (cI, 200, .inl (ni vC)))] (fun r w => r = zi (tkI vC k x) ∧ w = [(pr, .inr (4, [.ref pK, .ref pV, .ref pF, .ref pS, .int (nI n), .int (nI b)])), (pK, .inl (cI, 200, .inl (ni kC))), (pV, .inl (cI, 200, .inl (ni vC)))]) := by
  refine vx_startI (cc := cN_Program_takes) (maxL := 3) (ret := (some .boolean)) (by decide) rfl (Nat.le_of_ble_eq_true rfl) ?_
  intro p_0 e_0 s m below meth c_0 A ls C hK hP hD hS hA hl
  obtain ⟨hx, hb, hr, hml, hown, hts, hlocks, hnm⟩ := id C
  have hown : s.vm.findClass "StepMachines$Program" = some m.cls := hown
  have ht : ∀ w ∈ TB, w.before _ s = true := fun w h => hts w (List.mem_cons_of_mem _ h)
  have hl : lv_has ls 3 [(0, .ref pr), (1, .int (nI k)), (2, .int x)] := hl
  refine lv_aload_n hx hb dN_Program_takes_0 rfl (lv_at hl 0 rfl) ?_
  refine lv_iload_n hx hb dN_Program_takes_1 rfl (lv_at hl 1 rfl) ?_
  refine vx_calli (wc := [(pr, .inr (4, [.ref pK, .ref pV, .ref pF, .ref pS, .int (nI n), .int (nI b)]))]) (wr := [(pK, .inl (cI, 200, .inl (ni kC))), (pV, .inl (cI, 200, .inl (ni vC)))]) [0] [1, 2] hK hP hD hS hA rfl rfl (by decide) (by decide) (va_runV (As := [.int (nI k)]) (rest := []) ⟨hx, hb, hml, hown, ht⟩ (kProgram_has l D cI cZ cJ pr pK pV pF pS n b (nI k) _) (⟨callB_of 1 ht (TB_in2 gN_Program_has) rfl rfl rfl (ht _ mw_2) (ht _ mw_440) (by decide +kernel) ⟨Nat.le_of_ble_eq_true rfl, Nat.le_of_ble_eq_true rfl⟩, ht _ mw_390, ht _ mw_391⟩) (vx_preV [0] hK hP hD (by decide) rfl (ci := 4) rfl 0 rfl) rfl rfl hl.1 rfl (lv_room (Nat.le_of_ble_eq_true rfl)) dN_Program_takes_2 ⟨Nat.le_of_ble_eq_true rfl, Nat.le_of_ble_eq_true rfl⟩) (fun r1 w1 H locs hq hP hD hS => ?_)
  obtain ⟨rfl, rfl⟩ := hq
  have hP : va_P D clN [(pr, .inr (4, [.ref pK, .ref pV, .ref pF, .ref pS, .int (nI n), .int (nI b)])), (pK, .inl (cI, 200, .inl (ni kC))), (pV, .inl (cI, 200, .inl (ni vC)))] H := hP.sub [2, 0, 1] rfl
  have hD : va_D A [(pr, .inr (4, [.ref pK, .ref pV, .ref pF, .ref pS, .int (nI n), .int (nI b)])), (pK, .inl (cI, 200, .inl (ni kC))), (pV, .inl (cI, 200, .inl (ni vC)))] := hD.sub [2, 0, 1] (by decide) rfl
  refine xz_eq0 (tgt := 50) hx hb dN_Program_takes_5 (by decide) (fun c_10005_0 => ?_) (fun c_10005_0 => ?_)
  · skip
    exact absurd (stepB_ok (hn) (hk)) (by rw [c_10005_0]; decide)
  · skip
    refine lv_aload_n hx hb dN_Program_takes_8 rfl (lv_at hl 0 rfl) ?_
    refine va_get (D := D) (ci := 4) (v := .ref pK) (C := RN_Program) (T := FN_Program) (N := 6) hx hb ht fN_Program hown hK hP 0 rfl rfl 0 (by decide) (ht _ mw_36) (fun _ h9 => h9) rfl dN_Program_takes_9 ?_
    refine lv_iload_n hx hb dN_Program_takes_12 rfl (lv_at hl 1 rfl) ?_
    refine xn_ald hx hb hK hP 1 0 rfl rfl dN_Program_takes_13 (by omega) (by omega) ?_
    refine lv_iconst (v := (nI 1)) hx hb dN_Program_takes_14 (by decide) ?_
    refine xn_ne (tgt := 50) hx hb dN_Program_takes_15 (by decide) (by omega) (by omega) (fun c_10015_1 => ?_) (fun c_10015_1 => ?_)
    · skip
      exact absurd c_10015_1 (by omega)
    · skip
      refine lv_iload_n hx hb dN_Program_takes_18 rfl (lv_at hl 2 rfl) ?_
      refine lv_aload_n hx hb dN_Program_takes_19 rfl (lv_at hl 0 rfl) ?_
      refine va_get (D := D) (ci := 4) (v := .ref pV) (C := RN_Program) (T := FN_Program) (N := 6) hx hb ht fN_Program hown hK hP 0 rfl rfl 1 (by decide) (ht _ mw_37) (fun _ h9 => h9) rfl dN_Program_takes_20 ?_
      refine lv_iload_n hx hb dN_Program_takes_23 rfl (lv_at hl 1 rfl) ?_
      refine xn_ald hx hb hK hP 2 0 rfl rfl dN_Program_takes_24 (by omega) (by omega) ?_
      refine lv_sipush (v := (nI 256)) hx hb dN_Program_takes_25 (by decide) ?_
      refine xn_div hx hb dN_Program_takes_28 (by omega) (by omega) (by omega) ?_
      refine lv_icmp_lt (tgt := 50) hx hb dN_Program_takes_29 (by decide) (fun c_11_2 => ?_) (fun c_11_2 => ?_)
      · skip
        refine lv_iconst (v := (nI 0)) hx hb dN_Program_takes_50 (by decide) ?_
        refine xn_top (y := zi false) rfl ?_
        exact vx_zret C hK hP hD hS dN_Program_takes_51 (Nat.le_of_ble_eq_true rfl) (Nat.le_of_ble_eq_true rfl) (zi_nar2 _) (⟨by simp [tkI, c_10005_0, c_10015_1, c_11_2], rfl⟩)
      · skip
        refine lv_iload_n hx hb dN_Program_takes_32 rfl (lv_at hl 2 rfl) ?_
        refine lv_aload_n hx hb dN_Program_takes_33 rfl (lv_at hl 0 rfl) ?_
        refine va_get (D := D) (ci := 4) (v := .ref pV) (C := RN_Program) (T := FN_Program) (N := 6) hx hb ht fN_Program hown hK hP 0 rfl rfl 1 (by decide) (ht _ mw_37) (fun _ h9 => h9) rfl dN_Program_takes_34 ?_
        refine lv_iload_n hx hb dN_Program_takes_37 rfl (lv_at hl 1 rfl) ?_
        refine xn_ald hx hb hK hP 2 0 rfl rfl dN_Program_takes_38 (by omega) (by omega) ?_
        refine lv_sipush (v := (nI 256)) hx hb dN_Program_takes_39 (by decide) ?_
        refine xn_rem hx hb dN_Program_takes_42 (by omega) (by omega) (by omega) ?_
        refine lv_icmp_gt (tgt := 50) hx hb dN_Program_takes_43 (by decide) (fun c_25_3 => ?_) (fun c_25_3 => ?_)
        · skip
          have d9 : ¬ x ≤ nI (vC k % 256) := Int32.not_le.mpr c_25_3
          refine lv_iconst (v := (nI 0)) hx hb dN_Program_takes_50 (by decide) ?_
          refine xn_top (y := zi false) rfl ?_
          exact vx_zret C hK hP hD hS dN_Program_takes_51 (Nat.le_of_ble_eq_true rfl) (Nat.le_of_ble_eq_true rfl) (zi_nar2 _) (⟨by simp [tkI, c_10005_0, c_10015_1, c_11_2, c_25_3, d9], rfl⟩)
        · skip
          have d9 : x ≤ nI (vC k % 256) := Int32.not_lt.mp c_25_3
          refine lv_iconst (v := (nI 1)) hx hb dN_Program_takes_46 (by decide) ?_
          refine lv_goto (tgt := 51) hx hb dN_Program_takes_47 (by decide) ?_
          refine xn_top (y := zi true) rfl ?_
          exact vx_zret C hK hP hD hS dN_Program_takes_51 (Nat.le_of_ble_eq_true rfl) (Nat.le_of_ble_eq_true rfl) (zi_nar2 _) (⟨by simp [tkI, c_10005_0, c_10015_1, c_11_2, c_25_3, d9], rfl⟩)
set_option maxHeartbeats 4000000 in
set_option maxRecDepth 100000 in
/-- change -/
theorem kProgram_change (l : Launch) (D : va_G) (cI cZ cJ : ClassId) (pr pK pV pF pS n b : Nat) (kC vC fC sC : Nat → Nat) (k kd v a d : Nat) (x y z : Int32) (hk0 : 0 < k) (hk : k < n) (hn : n ≤ 200) (hkd : kd < 6) (hx1 : kd ≠ 2 → kd ≠ 5 → x = nI v) (hy1 : kd ≠ 5 → y = nI a) (hz1 : kd = 2 → z = nI d) : vx_Mv l yN_Program_change wN_Program_change ({ frames := 1, cells := 0, slots := 0, locals := 21 }) D clN (tyN cI cZ cJ) [.ref pr, .int (nI k), .int (nI kd), .int x, .int y, .int z] [(pr, .inr (4, [.ref pK, .ref pV, .ref pF, .ref pS, .int (nI n), .int (nI b)])), (pK, .inl (cI, 200, .inl (ni kC))), (pV, .inl (cI, 200, .inl (ni vC))), (pF, .inl (cI, 200, .inl (ni fC))), (pS, .inl (cI, 200, .inl (ni sC)))] (fun w => w = [(pr, .inr (4, [.ref pK, .ref pV, .ref pF, .ref pS, .int (nI n), .int (nI b)])), (pK, .inl (cI, 200, .inl (ni (un kC k kd)))), (pV, .inl (cI, 200, .inl (ni (un vC k (if kd = 2 ∨ kd = 5 then 0 else v))))), (pF, .inl (cI, 200, .inl (ni (un fC k (if kd = 5 then 0 else a))))), (pS, .inl (cI, 200, .inl (ni (un sC k (if kd = 2 then d else 0)))))]) := by
  refine vx_startV (cc := cN_Program_change) (maxL := 6) (ret := none) (by decide) rfl (Nat.le_of_ble_eq_true rfl) ?_
  intro p_0 e_0 s m below meth c_0 A ls C hK hP hD hS hA hl
  obtain ⟨hx, hb, hr, hml, hown, hts, hlocks, hnm⟩ := id C
  have hown : s.vm.findClass "StepMachines$Program" = some m.cls := hown
  have ht : ∀ w ∈ TB, w.before _ s = true := fun w h => hts w (List.mem_cons_of_mem _ h)
  have hl : lv_has ls 6 [(0, .ref pr), (1, .int (nI k)), (2, .int (nI kd)), (3, .int x), (4, .int y), (5, .int z)] := hl
  refine lv_iload_n hx hb dN_Program_change_0 rfl (lv_at hl 1 rfl) ?_
  refine xn_eq0 (tgt := 74) hx hb dN_Program_change_1 (by decide) (by omega) (fun c_10001_0 => ?_) (fun c_10001_0 => ?_)
  · skip
    exact absurd c_10001_0 (by omega)
  · skip
    refine lv_aload_n hx hb dN_Program_change_4 rfl (lv_at hl 0 rfl) ?_
    refine lv_iload_n hx hb dN_Program_change_5 rfl (lv_at hl 1 rfl) ?_
    refine vx_calli (wc := [(pr, .inr (4, [.ref pK, .ref pV, .ref pF, .ref pS, .int (nI n), .int (nI b)]))]) (wr := [(pK, .inl (cI, 200, .inl (ni kC))), (pV, .inl (cI, 200, .inl (ni vC))), (pF, .inl (cI, 200, .inl (ni fC))), (pS, .inl (cI, 200, .inl (ni sC)))]) [0] [1, 2, 3, 4] hK hP hD hS hA rfl rfl (by decide) (by decide) (va_runV (As := [.int (nI k)]) (rest := []) ⟨hx, hb, hml, hown, ht⟩ (kProgram_has l D cI cZ cJ pr pK pV pF pS n b (nI k) _) (⟨callB_of 1 ht (TB_in2 gN_Program_has) rfl rfl rfl (ht _ mw_2) (ht _ mw_440) (by decide +kernel) ⟨Nat.le_of_ble_eq_true rfl, Nat.le_of_ble_eq_true rfl⟩, ht _ mw_390, ht _ mw_391⟩) (vx_preV [0] hK hP hD (by decide) rfl (ci := 4) rfl 0 rfl) rfl rfl hl.1 rfl (lv_room (Nat.le_of_ble_eq_true rfl)) dN_Program_change_6 ⟨Nat.le_of_ble_eq_true rfl, Nat.le_of_ble_eq_true rfl⟩) (fun r1 w1 H locs hq hP hD hS => ?_)
    obtain ⟨rfl, rfl⟩ := hq
    have hP : va_P D clN [(pr, .inr (4, [.ref pK, .ref pV, .ref pF, .ref pS, .int (nI n), .int (nI b)])), (pK, .inl (cI, 200, .inl (ni kC))), (pV, .inl (cI, 200, .inl (ni vC))), (pF, .inl (cI, 200, .inl (ni fC))), (pS, .inl (cI, 200, .inl (ni sC)))] H := hP.sub [4, 0, 1, 2, 3] rfl
    have hD : va_D A [(pr, .inr (4, [.ref pK, .ref pV, .ref pF, .ref pS, .int (nI n), .int (nI b)])), (pK, .inl (cI, 200, .inl (ni kC))), (pV, .inl (cI, 200, .inl (ni vC))), (pF, .inl (cI, 200, .inl (ni fC))), (pS, .inl (cI, 200, .inl (ni sC)))] := hD.sub [4, 0, 1, 2, 3] (by decide) rfl
    refine xz_eq0 (tgt := 74) hx hb dN_Program_change_9 (by decide) (fun c_10009_1 => ?_) (fun c_10009_1 => ?_)
    · skip
      exact absurd (stepB_ok (hn) (hk)) (by rw [c_10009_1]; decide)
    · skip
      refine lv_aload_n hx hb dN_Program_change_12 rfl (lv_at hl 0 rfl) ?_
      refine va_get (D := D) (ci := 4) (v := .ref pK) (C := RN_Program) (T := FN_Program) (N := 6) hx hb ht fN_Program hown hK hP 0 rfl rfl 0 (by decide) (ht _ mw_36) (fun _ h9 => h9) rfl dN_Program_change_13 ?_
      refine lv_iload_n hx hb dN_Program_change_16 rfl (lv_at hl 1 rfl) ?_
      refine lv_iload_n hx hb dN_Program_change_17 rfl (lv_at hl 2 rfl) ?_
      refine xn_ast hx hb hK hP hD hS 1 0 rfl rfl dN_Program_change_18 (by omega) (by omega) (fun H locs hP hD hS => ?_)
      have hP : va_P D clN [(pr, .inr (4, [.ref pK, .ref pV, .ref pF, .ref pS, .int (nI n), .int (nI b)])), (pK, .inl (cI, 200, .inl (ni (un kC k kd)))), (pV, .inl (cI, 200, .inl (ni vC))), (pF, .inl (cI, 200, .inl (ni fC))), (pS, .inl (cI, 200, .inl (ni sC)))] H := hP
      have hD : va_D A [(pr, .inr (4, [.ref pK, .ref pV, .ref pF, .ref pS, .int (nI n), .int (nI b)])), (pK, .inl (cI, 200, .inl (ni (un kC k kd)))), (pV, .inl (cI, 200, .inl (ni vC))), (pF, .inl (cI, 200, .inl (ni fC))), (pS, .inl (cI, 200, .inl (ni sC)))] := hD
      refine lv_aload_n hx hb dN_Program_change_19 rfl (lv_at hl 0 rfl) ?_
      refine va_get (D := D) (ci := 4) (v := .ref pV) (C := RN_Program) (T := FN_Program) (N := 6) hx hb ht fN_Program hown hK hP 0 rfl rfl 1 (by decide) (ht _ mw_37) (fun _ h9 => h9) rfl dN_Program_change_20 ?_
      refine lv_iload_n hx hb dN_Program_change_23 rfl (lv_at hl 1 rfl) ?_
      refine vx_join (α := Nat) (fun j3 => j3 = (if kd = 2 ∨ kd = 5 then 0 else v)) (fun j3 => F0 m 39 ls [.int (nI j3), .int (nI k), .ref pV]) (fun j3 hj3 => ?_) (fun Jj3 => ?_)
      · skip
        have hjv := hj3
        refine xn_ast hx hb hK hP hD hS 2 0 rfl rfl dN_Program_change_39 (by omega) (by omega) (fun H locs hP hD hS => ?_)
        have hP : va_P D clN [(pr, .inr (4, [.ref pK, .ref pV, .ref pF, .ref pS, .int (nI n), .int (nI b)])), (pK, .inl (cI, 200, .inl (ni (un kC k kd)))), (pV, .inl (cI, 200, .inl (ni (un vC k j3)))), (pF, .inl (cI, 200, .inl (ni fC))), (pS, .inl (cI, 200, .inl (ni sC)))] H := hP
        have hD : va_D A [(pr, .inr (4, [.ref pK, .ref pV, .ref pF, .ref pS, .int (nI n), .int (nI b)])), (pK, .inl (cI, 200, .inl (ni (un kC k kd)))), (pV, .inl (cI, 200, .inl (ni (un vC k j3)))), (pF, .inl (cI, 200, .inl (ni fC))), (pS, .inl (cI, 200, .inl (ni sC)))] := hD
        refine lv_aload_n hx hb dN_Program_change_40 rfl (lv_at hl 0 rfl) ?_
        refine va_get (D := D) (ci := 4) (v := .ref pF) (C := RN_Program) (T := FN_Program) (N := 6) hx hb ht fN_Program hown hK hP 0 rfl rfl 2 (by decide) (ht _ mw_38) (fun _ h9 => h9) rfl dN_Program_change_41 ?_
        refine lv_iload_n hx hb dN_Program_change_44 rfl (lv_at hl 1 rfl) ?_
        refine vx_join (α := Nat) (fun j4 => j4 = (if kd = 5 then 0 else a)) (fun j4 => F0 m 56 ls [.int (nI j4), .int (nI k), .ref pF]) (fun j4 hj4 => ?_) (fun Jj4 => ?_)
        · skip
          have hja := hj4
          refine xn_ast hx hb hK hP hD hS 3 0 rfl rfl dN_Program_change_56 (by omega) (by omega) (fun H locs hP hD hS => ?_)
          have hP : va_P D clN [(pr, .inr (4, [.ref pK, .ref pV, .ref pF, .ref pS, .int (nI n), .int (nI b)])), (pK, .inl (cI, 200, .inl (ni (un kC k kd)))), (pV, .inl (cI, 200, .inl (ni (un vC k j3)))), (pF, .inl (cI, 200, .inl (ni (un fC k j4)))), (pS, .inl (cI, 200, .inl (ni sC)))] H := hP
          have hD : va_D A [(pr, .inr (4, [.ref pK, .ref pV, .ref pF, .ref pS, .int (nI n), .int (nI b)])), (pK, .inl (cI, 200, .inl (ni (un kC k kd)))), (pV, .inl (cI, 200, .inl (ni (un vC k j3)))), (pF, .inl (cI, 200, .inl (ni (un fC k j4)))), (pS, .inl (cI, 200, .inl (ni sC)))] := hD
          refine lv_aload_n hx hb dN_Program_change_57 rfl (lv_at hl 0 rfl) ?_
          refine va_get (D := D) (ci := 4) (v := .ref pS) (C := RN_Program) (T := FN_Program) (N := 6) hx hb ht fN_Program hown hK hP 0 rfl rfl 3 (by decide) (ht _ mw_39) (fun _ h9 => h9) rfl dN_Program_change_58 ?_
          refine lv_iload_n hx hb dN_Program_change_61 rfl (lv_at hl 1 rfl) ?_
          refine vx_join (α := Nat) (fun j5 => j5 = (if kd = 2 then d else 0)) (fun j5 => F0 m 73 ls [.int (nI j5), .int (nI k), .ref pS]) (fun j5 hj5 => ?_) (fun Jj5 => ?_)
          · skip
            have hjd := hj5
            refine xn_ast hx hb hK hP hD hS 4 0 rfl rfl dN_Program_change_73 (by omega) (by omega) (fun H locs hP hD hS => ?_)
            have hP : va_P D clN [(pr, .inr (4, [.ref pK, .ref pV, .ref pF, .ref pS, .int (nI n), .int (nI b)])), (pK, .inl (cI, 200, .inl (ni (un kC k kd)))), (pV, .inl (cI, 200, .inl (ni (un vC k j3)))), (pF, .inl (cI, 200, .inl (ni (un fC k j4)))), (pS, .inl (cI, 200, .inl (ni (un sC k j5))))] H := hP
            have hD : va_D A [(pr, .inr (4, [.ref pK, .ref pV, .ref pF, .ref pS, .int (nI n), .int (nI b)])), (pK, .inl (cI, 200, .inl (ni (un kC k kd)))), (pV, .inl (cI, 200, .inl (ni (un vC k j3)))), (pF, .inl (cI, 200, .inl (ni (un fC k j4)))), (pS, .inl (cI, 200, .inl (ni (un sC k j5))))] := hD
            exact vx_vret C hK hP hD hS dN_Program_change_74 (Nat.le_of_ble_eq_true rfl) (Nat.le_of_ble_eq_true rfl) (by rw [hjv, hja, hjd])
          · skip
            refine lv_iload_n hx hb dN_Program_change_62 rfl (lv_at hl 2 rfl) ?_
            refine lv_iconst (v := (nI 2)) hx hb dN_Program_change_63 (by decide) ?_
            refine xn_ne (tgt := 72) hx hb dN_Program_change_64 (by decide) (by omega) (by omega) (fun c_52_5 => ?_) (fun c_52_5 => ?_)
            · skip
              refine lv_iconst (v := (nI 0)) hx hb dN_Program_change_72 (by decide) ?_
              exact Jj5 (0) (by rw [if_neg (by omega)])
            · skip
              refine lv_iload hx hb dN_Program_change_67 (lv_at hl 5 rfl) ?_
              refine xn_top (y := (nI d)) (hz1 c_52_5) ?_
              refine lv_goto (tgt := 73) hx hb dN_Program_change_69 (by decide) ?_
              exact Jj5 (d) (by rw [if_pos (by omega)])
        · skip
          refine lv_iload_n hx hb dN_Program_change_45 rfl (lv_at hl 2 rfl) ?_
          refine lv_iconst (v := (nI 5)) hx hb dN_Program_change_46 (by decide) ?_
          refine xn_ne (tgt := 54) hx hb dN_Program_change_47 (by decide) (by omega) (by omega) (fun c_35_6 => ?_) (fun c_35_6 => ?_)
          · skip
            refine lv_iload hx hb dN_Program_change_54 (lv_at hl 4 rfl) ?_
            refine xn_top (y := (nI a)) (hy1 c_35_6) ?_
            exact Jj4 (a) (by rw [if_neg (by omega)])
          · skip
            refine lv_iconst (v := (nI 0)) hx hb dN_Program_change_50 (by decide) ?_
            refine lv_goto (tgt := 56) hx hb dN_Program_change_51 (by decide) ?_
            exact Jj4 (0) (by rw [if_pos (by omega)])
      · skip
        refine lv_iload_n hx hb dN_Program_change_24 rfl (lv_at hl 2 rfl) ?_
        refine lv_iconst (v := (nI 2)) hx hb dN_Program_change_25 (by decide) ?_
        refine xn_eq (tgt := 34) hx hb dN_Program_change_26 (by decide) (by omega) (by omega) (fun c_14_7 => ?_) (fun c_14_7 => ?_)
        · skip
          refine lv_iconst (v := (nI 0)) hx hb dN_Program_change_34 (by decide) ?_
          refine lv_goto (tgt := 39) hx hb dN_Program_change_35 (by decide) ?_
          exact Jj3 (0) (by rw [if_pos (by omega)])
        · skip
          refine lv_iload_n hx hb dN_Program_change_29 rfl (lv_at hl 2 rfl) ?_
          refine lv_iconst (v := (nI 5)) hx hb dN_Program_change_30 (by decide) ?_
          refine xn_ne (tgt := 38) hx hb dN_Program_change_31 (by decide) (by omega) (by omega) (fun c_19_8 => ?_) (fun c_19_8 => ?_)
          · skip
            refine lv_iload_n hx hb dN_Program_change_38 rfl (lv_at hl 3 rfl) ?_
            refine xn_top (y := (nI v)) (hx1 c_14_7 c_19_8) ?_
            exact Jj3 (v) (by rw [if_neg (by omega)])
          · skip
            refine lv_iconst (v := (nI 0)) hx hb dN_Program_change_34 (by decide) ?_
            refine lv_goto (tgt := 39) hx hb dN_Program_change_35 (by decide) ?_
            exact Jj3 (0) (by rw [if_pos (by omega)])
def lyC (f : Nat → Nat) (v m : Nat) : Nat → Nat := fun i => if 1 ≤ i ∧ i < m then v else f i
theorem lyC_s (f : Nat → Nat) (v m : Nat) (h : 1 ≤ m) : un (lyC f v m) m v = lyC f v (m + 1) := by
  funext i; unfold un lyC
  by_cases h1 : i = m
  · subst h1; rw [if_pos rfl, if_pos (by omega)]
  · rw [if_neg h1]
    by_cases h2 : 1 ≤ i ∧ i < m
    · rw [if_pos h2, if_pos (by omega)]
    · rw [if_neg h2, if_neg (by omega)]
theorem lyC_1 (f : Nat → Nat) (v : Nat) : lyC f v 1 = f := by
  funext i; unfold lyC; rw [if_neg (by omega)]
set_option maxHeartbeats 4000000 in
set_option maxRecDepth 100000 in
/-- layOut(n2) -/
theorem kProgram_layOut (l : Launch) (D : va_G) (cI cZ cJ : ClassId) (pr pK pV pF pS n b : Nat) (kC vC fC sC : Nat → Nat) (n2 : Nat) (h1 : 1 ≤ n2) (h2 : n2 ≤ 200) : vx_Mv l yN_Program_layOut wN_Program_layOut ({ frames := 2, cells := 0, slots := 0, locals := 46 }) D clN (tyN cI cZ cJ) [.ref pr, .int (nI n2)] [(pr, .inr (4, [.ref pK, .ref pV, .ref pF, .ref pS, .int (nI n), .int (nI b)])), (pK, .inl (cI, 200, .inl (ni kC))), (pV, .inl (cI, 200, .inl (ni vC))), (pF, .inl (cI, 200, .inl (ni fC))), (pS, .inl (cI, 200, .inl (ni sC)))] (fun w => w = [(pr, .inr (4, [.ref pK, .ref pV, .ref pF, .ref pS, .int (nI n2), .int (nI 0)])), (pK, .inl (cI, 200, .inl (ni (lyC kC 5 n2)))), (pV, .inl (cI, 200, .inl (ni (lyC vC 0 n2)))), (pF, .inl (cI, 200, .inl (ni (lyC fC 0 n2)))), (pS, .inl (cI, 200, .inl (ni (lyC sC 0 n2))))]) := by
  refine vx_startV (cc := cN_Program_layOut) (maxL := 3) (ret := none) (by decide) rfl (Nat.le_of_ble_eq_true rfl) ?_
  intro p_0 e_0 s m below meth c_0 A ls C hK hP hD hS hA hl
  obtain ⟨hx, hb, hr, hml, hown, hts, hlocks, hnm⟩ := id C
  have hown : s.vm.findClass "StepMachines$Program" = some m.cls := hown
  have ht : ∀ w ∈ TB, w.before _ s = true := fun w h => hts w (List.mem_cons_of_mem _ h)
  have hl : lv_has ls 3 [(0, .ref pr), (1, .int (nI n2))] := hl
  refine lv_aload_n hx hb dN_Program_layOut_0 rfl (lv_at hl 0 rfl) ?_
  refine lv_iconst (v := (nI 1)) hx hb dN_Program_layOut_1 (by decide) ?_
  refine lv_iload_n hx hb dN_Program_layOut_2 rfl (lv_at hl 1 rfl) ?_
  refine lv_sipush (v := (nI 200)) hx hb dN_Program_layOut_3 (by decide) ?_
  refine va_mmin hx hb (by rw [hml]; exact hl.1.symm) hown (ht _ mw_543) (ht _ mw_544) (ht _ mw_19) (ht _ mw_545) (Nat.le_of_ble_eq_true rfl) (Nat.le_of_ble_eq_true rfl) (Nat.le_of_ble_eq_true rfl) (Nat.le_of_ble_eq_true rfl) dN_Program_layOut_6 ?_
  refine xn_top (y := (nI n2)) (mnI h2 (by omega)) ?_
  refine va_mmax hx hb (by rw [hml]; exact hl.1.symm) hown (ht _ mw_546) (ht _ mw_454) (ht _ mw_19) (ht _ mw_455) (Nat.le_of_ble_eq_true rfl) (Nat.le_of_ble_eq_true rfl) (Nat.le_of_ble_eq_true rfl) (Nat.le_of_ble_eq_true rfl) dN_Program_layOut_9 ?_
  refine xn_top (y := (nI n2)) (mx1I h1 h2) ?_
  refine va_put (D := D) (ci := 4) (v := .int (nI n2)) (ty := .int) (C := RN_Program) (T := FN_Program) (N := 6) hx hb ht fN_Program tN_Program oN_Program nN_Program hown hK hP hD hS 0 rfl rfl 4 (by decide) (ht _ mw_40) (fun _ h9 => h9) rfl (by decide +kernel) (rfl) (rfl) (Nat.le_of_ble_eq_true rfl) dN_Program_layOut_12 (fun H locs hP hD hS => ?_)
  have hP : va_P D clN [(pr, .inr (4, [.ref pK, .ref pV, .ref pF, .ref pS, .int (nI n2), .int (nI b)])), (pK, .inl (cI, 200, .inl (ni kC))), (pV, .inl (cI, 200, .inl (ni vC))), (pF, .inl (cI, 200, .inl (ni fC))), (pS, .inl (cI, 200, .inl (ni sC)))] H := hP
  have hD : va_D A [(pr, .inr (4, [.ref pK, .ref pV, .ref pF, .ref pS, .int (nI n2), .int (nI b)])), (pK, .inl (cI, 200, .inl (ni kC))), (pV, .inl (cI, 200, .inl (ni vC))), (pF, .inl (cI, 200, .inl (ni fC))), (pS, .inl (cI, 200, .inl (ni sC)))] := hD
  refine lv_aload_n hx hb dN_Program_layOut_15 rfl (lv_at hl 0 rfl) ?_
  refine lv_iconst (v := (nI 0)) hx hb dN_Program_layOut_16 (by decide) ?_
  refine va_put (D := D) (ci := 4) (v := .int (nI 0)) (ty := .int) (C := RN_Program) (T := FN_Program) (N := 6) hx hb ht fN_Program tN_Program oN_Program nN_Program hown hK hP hD hS 0 rfl rfl 5 (by decide) (ht _ mw_41) (fun _ h9 => h9) rfl (by decide +kernel) (rfl) (rfl) (Nat.le_of_ble_eq_true rfl) dN_Program_layOut_17 (fun H locs hP hD hS => ?_)
  have hP : va_P D clN [(pr, .inr (4, [.ref pK, .ref pV, .ref pF, .ref pS, .int (nI n2), .int (nI 0)])), (pK, .inl (cI, 200, .inl (ni kC))), (pV, .inl (cI, 200, .inl (ni vC))), (pF, .inl (cI, 200, .inl (ni fC))), (pS, .inl (cI, 200, .inl (ni sC)))] H := hP
  have hD : va_D A [(pr, .inr (4, [.ref pK, .ref pV, .ref pF, .ref pS, .int (nI n2), .int (nI 0)])), (pK, .inl (cI, 200, .inl (ni kC))), (pV, .inl (cI, 200, .inl (ni vC))), (pF, .inl (cI, 200, .inl (ni fC))), (pS, .inl (cI, 200, .inl (ni sC)))] := hD
  refine lv_iconst (v := (nI 1)) hx hb dN_Program_layOut_20 (by decide) ?_
  have hP : va_P D clN [(pr, .inr (4, [.ref pK, .ref pV, .ref pF, .ref pS, .int (nI n2), .int (nI 0)])), (pK, .inl (cI, 200, .inl (ni (lyC kC 5 1)))), (pV, .inl (cI, 200, .inl (ni vC))), (pF, .inl (cI, 200, .inl (ni fC))), (pS, .inl (cI, 200, .inl (ni sC)))] _ := xP_fn (q := 1) (g := ni (lyC kC 5 1)) hP rfl (fun j _ => congrFun ((by rw [lyC_1])) j)
  have hD : va_D A [(pr, .inr (4, [.ref pK, .ref pV, .ref pF, .ref pS, .int (nI n2), .int (nI 0)])), (pK, .inl (cI, 200, .inl (ni (lyC kC 5 1)))), (pV, .inl (cI, 200, .inl (ni vC))), (pF, .inl (cI, 200, .inl (ni fC))), (pS, .inl (cI, 200, .inl (ni sC)))] := xD_fn (q := 1) hD rfl
  have hP : va_P D clN [(pr, .inr (4, [.ref pK, .ref pV, .ref pF, .ref pS, .int (nI n2), .int (nI 0)])), (pK, .inl (cI, 200, .inl (ni (lyC kC 5 1)))), (pV, .inl (cI, 200, .inl (ni (lyC vC 0 1)))), (pF, .inl (cI, 200, .inl (ni fC))), (pS, .inl (cI, 200, .inl (ni sC)))] _ := xP_fn (q := 2) (g := ni (lyC vC 0 1)) hP rfl (fun j _ => congrFun ((by rw [lyC_1])) j)
  have hD : va_D A [(pr, .inr (4, [.ref pK, .ref pV, .ref pF, .ref pS, .int (nI n2), .int (nI 0)])), (pK, .inl (cI, 200, .inl (ni (lyC kC 5 1)))), (pV, .inl (cI, 200, .inl (ni (lyC vC 0 1)))), (pF, .inl (cI, 200, .inl (ni fC))), (pS, .inl (cI, 200, .inl (ni sC)))] := xD_fn (q := 2) hD rfl
  have hP : va_P D clN [(pr, .inr (4, [.ref pK, .ref pV, .ref pF, .ref pS, .int (nI n2), .int (nI 0)])), (pK, .inl (cI, 200, .inl (ni (lyC kC 5 1)))), (pV, .inl (cI, 200, .inl (ni (lyC vC 0 1)))), (pF, .inl (cI, 200, .inl (ni (lyC fC 0 1)))), (pS, .inl (cI, 200, .inl (ni sC)))] _ := xP_fn (q := 3) (g := ni (lyC fC 0 1)) hP rfl (fun j _ => congrFun ((by rw [lyC_1])) j)
  have hD : va_D A [(pr, .inr (4, [.ref pK, .ref pV, .ref pF, .ref pS, .int (nI n2), .int (nI 0)])), (pK, .inl (cI, 200, .inl (ni (lyC kC 5 1)))), (pV, .inl (cI, 200, .inl (ni (lyC vC 0 1)))), (pF, .inl (cI, 200, .inl (ni (lyC fC 0 1)))), (pS, .inl (cI, 200, .inl (ni sC)))] := xD_fn (q := 3) hD rfl
  have hP : va_P D clN [(pr, .inr (4, [.ref pK, .ref pV, .ref pF, .ref pS, .int (nI n2), .int (nI 0)])), (pK, .inl (cI, 200, .inl (ni (lyC kC 5 1)))), (pV, .inl (cI, 200, .inl (ni (lyC vC 0 1)))), (pF, .inl (cI, 200, .inl (ni (lyC fC 0 1)))), (pS, .inl (cI, 200, .inl (ni (lyC sC 0 1))))] _ := xP_fn (q := 4) (g := ni (lyC sC 0 1)) hP rfl (fun j _ => congrFun ((by rw [lyC_1])) j)
  have hD : va_D A [(pr, .inr (4, [.ref pK, .ref pV, .ref pF, .ref pS, .int (nI n2), .int (nI 0)])), (pK, .inl (cI, 200, .inl (ni (lyC kC 5 1)))), (pV, .inl (cI, 200, .inl (ni (lyC vC 0 1)))), (pF, .inl (cI, 200, .inl (ni (lyC fC 0 1)))), (pS, .inl (cI, 200, .inl (ni (lyC sC 0 1))))] := xD_fn (q := 4) hD rfl
  refine lv_istore_n (lv' := [(2, .int (nI 1)), (0, .ref pr), (1, .int (nI n2))]) hx hb dN_Program_layOut_21 rfl hl (by decide) rfl (fun ls hl => ?_)
  refine vx_loop (α := Nat) (fun (vv : Nat) (H : Heap) (locs : List Loc) (ls : Array Slot) => match vv with | (k) => va_P D clN [(pr, .inr (4, [.ref pK, .ref pV, .ref pF, .ref pS, .int (nI n2), .int (nI 0)])), (pK, .inl (cI, 200, .inl (ni (lyC kC 5 k)))), (pV, .inl (cI, 200, .inl (ni (lyC vC 0 k)))), (pF, .inl (cI, 200, .inl (ni (lyC fC 0 k)))), (pS, .inl (cI, 200, .inl (ni (lyC sC 0 k))))] H ∧ va_D A [(pr, .inr (4, [.ref pK, .ref pV, .ref pF, .ref pS, .int (nI n2), .int (nI 0)])), (pK, .inl (cI, 200, .inl (ni (lyC kC 5 k)))), (pV, .inl (cI, 200, .inl (ni (lyC vC 0 k)))), (pF, .inl (cI, 200, .inl (ni (lyC fC 0 k)))), (pS, .inl (cI, 200, .inl (ni (lyC sC 0 k))))] ∧ va_S A s.heap H locs ∧ lv_has ls 3 [(0, .ref pr), (1, .int (nI n2)), (2, .int (nI k))] ∧ (1 ≤ k ∧ k ≤ n2)) (fun (vv : Nat) => match vv with | (k) => n2 - k) 22 [] ?_ (1) ⟨hP, hD, hS, lv_sub hl [1, 2, 0] rfl, ⟨by omega, by omega⟩⟩
  intro vv H locs ls hq ih_22_0
  obtain ⟨k, rfl⟩ : ∃ z, z = vv := ⟨_, rfl⟩
  obtain ⟨hP, hD, hS, hl, hI⟩ := hq
  obtain ⟨hk1, hk2⟩ := hI
  refine lv_iload_n hx hb dN_Program_layOut_22 rfl (lv_at hl 2 rfl) ?_
  refine lv_aload_n hx hb dN_Program_layOut_23 rfl (lv_at hl 0 rfl) ?_
  refine va_get (D := D) (ci := 4) (v := .int (nI n2)) (C := RN_Program) (T := FN_Program) (N := 6) hx hb ht fN_Program hown hK hP 0 rfl rfl 4 (by decide) (ht _ mw_40) (fun _ h9 => h9) rfl dN_Program_layOut_24 ?_
  refine xn_ge (tgt := 45) hx hb dN_Program_layOut_27 (by decide) (by omega) (by omega) (fun c_16_1 => ?_) (fun c_16_1 => ?_)
  · skip
    exact vx_vret C hK hP hD hS dN_Program_layOut_45 (Nat.le_of_ble_eq_true rfl) (Nat.le_of_ble_eq_true rfl) (by rw [show k = n2 by omega])
  · skip
    refine lv_aload_n hx hb dN_Program_layOut_30 rfl (lv_at hl 0 rfl) ?_
    refine lv_iload_n hx hb dN_Program_layOut_31 rfl (lv_at hl 2 rfl) ?_
    refine lv_iconst (v := (nI 5)) hx hb dN_Program_layOut_32 (by decide) ?_
    refine lv_iconst (v := 0) hx hb dN_Program_layOut_33 (by decide) ?_
    refine lv_iconst (v := 0) hx hb dN_Program_layOut_34 (by decide) ?_
    refine lv_iconst (v := 0) hx hb dN_Program_layOut_35 (by decide) ?_
    refine vx_callv (wc := [(pr, .inr (4, [.ref pK, .ref pV, .ref pF, .ref pS, .int (nI n2), .int (nI 0)])), (pK, .inl (cI, 200, .inl (ni (lyC kC 5 k)))), (pV, .inl (cI, 200, .inl (ni (lyC vC 0 k)))), (pF, .inl (cI, 200, .inl (ni (lyC fC 0 k)))), (pS, .inl (cI, 200, .inl (ni (lyC sC 0 k))))]) (wr := []) [0, 1, 2, 3, 4] [] hK hP hD hS hA rfl rfl (by decide) (by decide) (va_runV (As := [.int (nI k), .int (nI 5), .int 0, .int 0, .int 0]) (rest := []) ⟨hx, hb, hml, hown, ht⟩ (kProgram_change l D cI cZ cJ pr pK pV pF pS n2 0 (lyC kC 5 k) (lyC vC 0 k) (lyC fC 0 k) (lyC sC 0 k) k 5 0 0 0 0 0 0 (by omega) (by omega) (by omega) (by omega) (fun _ h => absurd rfl h) (fun h => absurd rfl h) (fun h => absurd h (by decide)) _) (⟨callB_of 5 ht (TB_in2 gN_Program_change) rfl rfl rfl (ht _ mw_2) (ht _ mw_547) (by decide +kernel) ⟨Nat.le_of_ble_eq_true rfl, Nat.le_of_ble_eq_true rfl⟩, ht _ mw_548, ht _ mw_549⟩) (vx_preV [0, 1, 2, 3, 4] hK hP hD (by decide) rfl (ci := 4) rfl 0 rfl) rfl rfl hl.1 rfl (lv_room (Nat.le_of_ble_eq_true rfl)) dN_Program_layOut_36 ⟨Nat.le_of_ble_eq_true rfl, Nat.le_of_ble_eq_true rfl⟩) (fun w1 H locs hq hP hD hS => ?_)
    subst hq
    have hP : va_P D clN [(pr, .inr (4, [.ref pK, .ref pV, .ref pF, .ref pS, .int (nI n2), .int (nI 0)])), (pK, .inl (cI, 200, .inl (ni (un (lyC kC 5 k) k 5)))), (pV, .inl (cI, 200, .inl (ni (un (lyC vC 0 k) k (if 5 = 2 ∨ 5 = 5 then 0 else 0))))), (pF, .inl (cI, 200, .inl (ni (un (lyC fC 0 k) k (if 5 = 5 then 0 else 0))))), (pS, .inl (cI, 200, .inl (ni (un (lyC sC 0 k) k (if 5 = 2 then 0 else 0)))))] H := hP.sub [0, 1, 2, 3, 4] rfl
    have hD : va_D A [(pr, .inr (4, [.ref pK, .ref pV, .ref pF, .ref pS, .int (nI n2), .int (nI 0)])), (pK, .inl (cI, 200, .inl (ni (un (lyC kC 5 k) k 5)))), (pV, .inl (cI, 200, .inl (ni (un (lyC vC 0 k) k (if 5 = 2 ∨ 5 = 5 then 0 else 0))))), (pF, .inl (cI, 200, .inl (ni (un (lyC fC 0 k) k (if 5 = 5 then 0 else 0))))), (pS, .inl (cI, 200, .inl (ni (un (lyC sC 0 k) k (if 5 = 2 then 0 else 0)))))] := hD.sub [0, 1, 2, 3, 4] (by decide) rfl
    have hP : va_P D clN [(pr, .inr (4, [.ref pK, .ref pV, .ref pF, .ref pS, .int (nI n2), .int (nI 0)])), (pK, .inl (cI, 200, .inl (ni (lyC kC 5 (k + 1))))), (pV, .inl (cI, 200, .inl (ni (un (lyC vC 0 k) k (if 5 = 2 ∨ 5 = 5 then 0 else 0))))), (pF, .inl (cI, 200, .inl (ni (un (lyC fC 0 k) k (if 5 = 5 then 0 else 0))))), (pS, .inl (cI, 200, .inl (ni (un (lyC sC 0 k) k (if 5 = 2 then 0 else 0)))))] _ := xP_fn (q := 1) (g := ni (lyC kC 5 (k + 1))) hP rfl (fun j _ => congrFun ((by rw [← lyC_s _ _ _ (by omega)] <;> rfl)) j)
    have hD : va_D A [(pr, .inr (4, [.ref pK, .ref pV, .ref pF, .ref pS, .int (nI n2), .int (nI 0)])), (pK, .inl (cI, 200, .inl (ni (lyC kC 5 (k + 1))))), (pV, .inl (cI, 200, .inl (ni (un (lyC vC 0 k) k (if 5 = 2 ∨ 5 = 5 then 0 else 0))))), (pF, .inl (cI, 200, .inl (ni (un (lyC fC 0 k) k (if 5 = 5 then 0 else 0))))), (pS, .inl (cI, 200, .inl (ni (un (lyC sC 0 k) k (if 5 = 2 then 0 else 0)))))] := xD_fn (q := 1) hD rfl
    have hP : va_P D clN [(pr, .inr (4, [.ref pK, .ref pV, .ref pF, .ref pS, .int (nI n2), .int (nI 0)])), (pK, .inl (cI, 200, .inl (ni (lyC kC 5 (k + 1))))), (pV, .inl (cI, 200, .inl (ni (lyC vC 0 (k + 1))))), (pF, .inl (cI, 200, .inl (ni (un (lyC fC 0 k) k (if 5 = 5 then 0 else 0))))), (pS, .inl (cI, 200, .inl (ni (un (lyC sC 0 k) k (if 5 = 2 then 0 else 0)))))] _ := xP_fn (q := 2) (g := ni (lyC vC 0 (k + 1))) hP rfl (fun j _ => congrFun ((by rw [← lyC_s _ _ _ (by omega)] <;> rfl)) j)
    have hD : va_D A [(pr, .inr (4, [.ref pK, .ref pV, .ref pF, .ref pS, .int (nI n2), .int (nI 0)])), (pK, .inl (cI, 200, .inl (ni (lyC kC 5 (k + 1))))), (pV, .inl (cI, 200, .inl (ni (lyC vC 0 (k + 1))))), (pF, .inl (cI, 200, .inl (ni (un (lyC fC 0 k) k (if 5 = 5 then 0 else 0))))), (pS, .inl (cI, 200, .inl (ni (un (lyC sC 0 k) k (if 5 = 2 then 0 else 0)))))] := xD_fn (q := 2) hD rfl
    have hP : va_P D clN [(pr, .inr (4, [.ref pK, .ref pV, .ref pF, .ref pS, .int (nI n2), .int (nI 0)])), (pK, .inl (cI, 200, .inl (ni (lyC kC 5 (k + 1))))), (pV, .inl (cI, 200, .inl (ni (lyC vC 0 (k + 1))))), (pF, .inl (cI, 200, .inl (ni (lyC fC 0 (k + 1))))), (pS, .inl (cI, 200, .inl (ni (un (lyC sC 0 k) k (if 5 = 2 then 0 else 0)))))] _ := xP_fn (q := 3) (g := ni (lyC fC 0 (k + 1))) hP rfl (fun j _ => congrFun ((by rw [← lyC_s _ _ _ (by omega)] <;> rfl)) j)
    have hD : va_D A [(pr, .inr (4, [.ref pK, .ref pV, .ref pF, .ref pS, .int (nI n2), .int (nI 0)])), (pK, .inl (cI, 200, .inl (ni (lyC kC 5 (k + 1))))), (pV, .inl (cI, 200, .inl (ni (lyC vC 0 (k + 1))))), (pF, .inl (cI, 200, .inl (ni (lyC fC 0 (k + 1))))), (pS, .inl (cI, 200, .inl (ni (un (lyC sC 0 k) k (if 5 = 2 then 0 else 0)))))] := xD_fn (q := 3) hD rfl
    have hP : va_P D clN [(pr, .inr (4, [.ref pK, .ref pV, .ref pF, .ref pS, .int (nI n2), .int (nI 0)])), (pK, .inl (cI, 200, .inl (ni (lyC kC 5 (k + 1))))), (pV, .inl (cI, 200, .inl (ni (lyC vC 0 (k + 1))))), (pF, .inl (cI, 200, .inl (ni (lyC fC 0 (k + 1))))), (pS, .inl (cI, 200, .inl (ni (lyC sC 0 (k + 1)))))] _ := xP_fn (q := 4) (g := ni (lyC sC 0 (k + 1))) hP rfl (fun j _ => congrFun ((by rw [← lyC_s _ _ _ (by omega)] <;> rfl)) j)
    have hD : va_D A [(pr, .inr (4, [.ref pK, .ref pV, .ref pF, .ref pS, .int (nI n2), .int (nI 0)])), (pK, .inl (cI, 200, .inl (ni (lyC kC 5 (k + 1))))), (pV, .inl (cI, 200, .inl (ni (lyC vC 0 (k + 1))))), (pF, .inl (cI, 200, .inl (ni (lyC fC 0 (k + 1))))), (pS, .inl (cI, 200, .inl (ni (lyC sC 0 (k + 1)))))] := xD_fn (q := 4) hD rfl
    refine lv_iinc (v := (nI (k + 1))) (lv' := [(2, .int (nI (k + 1))), (0, .ref pr), (1, .int (nI n2))]) hx hb dN_Program_layOut_39 hl (k := 2) rfl (nI_1 _) (by decide) rfl (fun ls hl => ?_)
    refine lv_goto (tgt := 22) hx hb dN_Program_layOut_42 (by decide) ?_
    exact ih_22_0 (k + 1) _ _ _ ⟨hP, hD, hS, lv_sub hl [1, 2, 0] rfl, ⟨by omega, by omega⟩⟩ (show (n2 - (k + 1)) < (n2 - k) from by omega)
