set_option maxHeartbeats 4000000 in
set_option maxRecDepth 100000 in
/-- saved(x) -/
theorem kMod_saved (l : Launch) (D : va_G) (cI cZ cJ : ClassId) (o : Nat) (q : Nat → Nat) (th n b len tr hi ma : Nat) (kp : Sv) (x : Int32)  : vx_Mi l yN_Mod_saved wN_Mod_saved ({ frames := 0, cells := 0, slots := 0, locals := 0 }) D clN (tyN cI cZ cJ) [.ref o, .int x] [(o, .inr (12, [.int (nI th), .int (nI n), .int (nI b), .ref (q 3), .ref (q 4), .ref (q 5), .ref (q 6), .ref (q 7), .int (nI len), .ref (q 9), .ref (q 10), .ref (q 11), .ref (q 12), .ref (q 13), .ref (q 14), .ref (q 15), .ref (q 16), .ref (q 17), .int (nI tr), .int (nI hi), .ref (q 20), .ref (q 21), .ref (q 22), .ref (q 23), .int (nI ma)])), (q 12, .inl (cI, 20, .inl kp))] (fun r w => r = svd kp x ∧ w = [(o, .inr (12, [.int (nI 0), .int (nI n), .int (nI b), .ref (q 3), .ref (q 4), .ref (q 5), .ref (q 6), .ref (q 7), .int (nI len), .ref (q 9), .ref (q 10), .ref (q 11), .ref (q 12), .ref (q 13), .ref (q 14), .ref (q 15), .ref (q 16), .ref (q 17), .int (nI tr), .int (nI hi), .ref (q 20), .ref (q 21), .ref (q 22), .ref (q 23), .int (nI ma)])), (q 12, .inl (cI, 20, .inl kp))]) := by
  refine vx_startI (cc := cN_Mod_saved) (maxL := 2) (ret := (some .int)) (by decide) rfl (Nat.le_of_ble_eq_true rfl) ?_
  intro p_0 e_0 s m below meth c_0 A ls C hK hP hD hS hA hl
  obtain ⟨hx, hb, hr, hml, hown, hts, hlocks, hnm⟩ := id C
  have hown : s.vm.findClass "StepMachinesModel" = some m.cls := hown
  have ht : ∀ w ∈ TB, w.before _ s = true := fun w h => hts w (List.mem_cons_of_mem _ h)
  have hl : lv_has ls 2 [(0, .ref o), (1, .int x)] := hl
  refine lv_aload_n hx hb dN_Mod_saved_0 rfl (lv_at hl 0 rfl) ?_
  refine lv_iconst (v := (nI 0)) hx hb dN_Mod_saved_1 (by decide) ?_
  refine va_put (D := D) (ci := 12) (v := .int (nI 0)) (ty := .int) (C := RN_Mod) (T := FN_Mod) (N := 25) hx hb ht fN_Mod tN_Mod oN_Mod nN_Mod hown hK hP hD hS 0 rfl rfl 0 (by decide) (ht _ mw_972) (fun _ h9 => h9) rfl (by decide +kernel) (rfl) (rfl) (Nat.le_of_ble_eq_true rfl) dN_Mod_saved_2 (fun H locs hP hD hS => ?_)
  have hP : va_P D clN [(o, .inr (12, [.int (nI 0), .int (nI n), .int (nI b), .ref (q 3), .ref (q 4), .ref (q 5), .ref (q 6), .ref (q 7), .int (nI len), .ref (q 9), .ref (q 10), .ref (q 11), .ref (q 12), .ref (q 13), .ref (q 14), .ref (q 15), .ref (q 16), .ref (q 17), .int (nI tr), .int (nI hi), .ref (q 20), .ref (q 21), .ref (q 22), .ref (q 23), .int (nI ma)])), (q 12, .inl (cI, 20, .inl kp))] H := hP
  have hD : va_D A [(o, .inr (12, [.int (nI 0), .int (nI n), .int (nI b), .ref (q 3), .ref (q 4), .ref (q 5), .ref (q 6), .ref (q 7), .int (nI len), .ref (q 9), .ref (q 10), .ref (q 11), .ref (q 12), .ref (q 13), .ref (q 14), .ref (q 15), .ref (q 16), .ref (q 17), .int (nI tr), .int (nI hi), .ref (q 20), .ref (q 21), .ref (q 22), .ref (q 23), .int (nI ma)])), (q 12, .inl (cI, 20, .inl kp))] := hD
  refine lv_iload_n hx hb dN_Mod_saved_5 rfl (lv_at hl 1 rfl) ?_
  refine lv_if_lt (tgt := 15) hx hb dN_Mod_saved_6 (by decide) (fun c_6_0 => ?_) (fun c_6_0 => ?_)
  · skip
    refine lv_iconst (v := (-1)) hx hb dN_Mod_saved_15 (by decide) ?_
    refine lv_goto (tgt := 25) hx hb dN_Mod_saved_16 (by decide) ?_
    exact vx_iret C hK hP hD hS dN_Mod_saved_25 (Nat.le_of_ble_eq_true rfl) (Nat.le_of_ble_eq_true rfl) (⟨by rw [svd, if_pos c_6_0], rfl⟩)
  · skip
    refine lv_iload_n hx hb dN_Mod_saved_9 rfl (lv_at hl 1 rfl) ?_
    refine lv_bipush (v := (nI 19)) hx hb dN_Mod_saved_10 (by decide) ?_
    refine lv_icmp_le (tgt := 19) hx hb dN_Mod_saved_12 (by decide) (fun c_12_1 => ?_) (fun c_12_1 => ?_)
    · skip
      obtain ⟨j, hj, rfl⟩ : ∃ j : Nat, j ≤ 19 ∧ x = nI j := by obtain ⟨j, hj, rfl⟩ := nI_of c_6_0; rw [nI_leI (by omega) (by omega)] at c_12_1; exact ⟨j, by omega, rfl⟩
      refine lv_aload_n hx hb dN_Mod_saved_19 rfl (lv_at hl 0 rfl) ?_
      refine va_get (D := D) (ci := 12) (v := .ref (q 12)) (C := RN_Mod) (T := FN_Mod) (N := 25) hx hb ht fN_Mod hown hK hP 0 rfl rfl 12 (by decide) (ht _ mw_984) (fun _ h9 => h9) rfl dN_Mod_saved_20 ?_
      refine lv_iload_n hx hb dN_Mod_saved_23 rfl (lv_at hl 1 rfl) ?_
      refine xi_ald hx hb hK hP 1 0 rfl rfl dN_Mod_saved_24 (by omega) (by omega) ?_
      exact vx_iret C hK hP hD hS dN_Mod_saved_25 (Nat.le_of_ble_eq_true rfl) (Nat.le_of_ble_eq_true rfl) (⟨by rw [svd, if_neg (nI_pos (by omega)), if_neg (by rw [nI_ltI (by omega) (by omega)]; omega), nI_clamp (by omega)], rfl⟩)
    · skip
      refine lv_iconst (v := (-1)) hx hb dN_Mod_saved_15 (by decide) ?_
      refine lv_goto (tgt := 25) hx hb dN_Mod_saved_16 (by decide) ?_
      exact vx_iret C hK hP hD hS dN_Mod_saved_25 (Nat.le_of_ble_eq_true rfl) (Nat.le_of_ble_eq_true rfl) (⟨by rw [svd, if_neg c_6_0, if_pos (by have h9 := c_12_1; exact Int32.not_le.mp h9)], rfl⟩)
set_option maxHeartbeats 4000000 in
set_option maxRecDepth 100000 in
/-- keep(x) -/
theorem kMod_keep (l : Launch) (D : va_G) (cI cZ cJ : ClassId) (o : Nat) (q : Nat → Nat) (th n b len tr hi ma : Nat) (x : Int32)  : vx_Mv l yN_Mod_keep wN_Mod_keep ({ frames := 0, cells := 0, slots := 0, locals := 0 }) D clN (tyN cI cZ cJ) [.ref o, .int x] [(o, .inr (12, [.int (nI th), .int (nI n), .int (nI b), .ref (q 3), .ref (q 4), .ref (q 5), .ref (q 6), .ref (q 7), .int (nI len), .ref (q 9), .ref (q 10), .ref (q 11), .ref (q 12), .ref (q 13), .ref (q 14), .ref (q 15), .ref (q 16), .ref (q 17), .int (nI tr), .int (nI hi), .ref (q 20), .ref (q 21), .ref (q 22), .ref (q 23), .int (nI ma)]))] (fun w => w = [(o, .inr (12, [.int (nI (keepT x)), .int (nI n), .int (nI b), .ref (q 3), .ref (q 4), .ref (q 5), .ref (q 6), .ref (q 7), .int (nI len), .ref (q 9), .ref (q 10), .ref (q 11), .ref (q 12), .ref (q 13), .ref (q 14), .ref (q 15), .ref (q 16), .ref (q 17), .int (nI tr), .int (nI hi), .ref (q 20), .ref (q 21), .ref (q 22), .ref (q 23), .int (nI ma)]))]) := by
  refine vx_startV (cc := cN_Mod_keep) (maxL := 2) (ret := none) (by decide) rfl (Nat.le_of_ble_eq_true rfl) ?_
  intro p_0 e_0 s m below meth c_0 A ls C hK hP hD hS hA hl
  obtain ⟨hx, hb, hr, hml, hown, hts, hlocks, hnm⟩ := id C
  have hown : s.vm.findClass "StepMachinesModel" = some m.cls := hown
  have ht : ∀ w ∈ TB, w.before _ s = true := fun w h => hts w (List.mem_cons_of_mem _ h)
  have hl : lv_has ls 2 [(0, .ref o), (1, .int x)] := hl
  refine lv_aload_n hx hb dN_Mod_keep_0 rfl (lv_at hl 0 rfl) ?_
  refine vx_join (α := Nat) (fun j1 => j1 = keepT x) (fun j1 => F0 m 17 ls [.int (nI j1), .ref o]) (fun j1 hj1 => ?_) (fun Jj1 => ?_)
  · skip
    refine va_put (D := D) (ci := 12) (v := .int (nI j1)) (ty := .int) (C := RN_Mod) (T := FN_Mod) (N := 25) hx hb ht fN_Mod tN_Mod oN_Mod nN_Mod hown hK hP hD hS 0 rfl rfl 0 (by decide) (ht _ mw_972) (fun _ h9 => h9) rfl (by decide +kernel) (rfl) (rfl) (Nat.le_of_ble_eq_true rfl) dN_Mod_keep_17 (fun H locs hP hD hS => ?_)
    have hP : va_P D clN [(o, .inr (12, [.int (nI j1), .int (nI n), .int (nI b), .ref (q 3), .ref (q 4), .ref (q 5), .ref (q 6), .ref (q 7), .int (nI len), .ref (q 9), .ref (q 10), .ref (q 11), .ref (q 12), .ref (q 13), .ref (q 14), .ref (q 15), .ref (q 16), .ref (q 17), .int (nI tr), .int (nI hi), .ref (q 20), .ref (q 21), .ref (q 22), .ref (q 23), .int (nI ma)]))] H := hP
    have hD : va_D A [(o, .inr (12, [.int (nI j1), .int (nI n), .int (nI b), .ref (q 3), .ref (q 4), .ref (q 5), .ref (q 6), .ref (q 7), .int (nI len), .ref (q 9), .ref (q 10), .ref (q 11), .ref (q 12), .ref (q 13), .ref (q 14), .ref (q 15), .ref (q 16), .ref (q 17), .int (nI tr), .int (nI hi), .ref (q 20), .ref (q 21), .ref (q 22), .ref (q 23), .int (nI ma)]))] := hD
    exact vx_vret C hK hP hD hS dN_Mod_keep_20 (Nat.le_of_ble_eq_true rfl) (Nat.le_of_ble_eq_true rfl) (by rw [hj1])
  · skip
    refine lv_iload_n hx hb dN_Mod_keep_1 rfl (lv_at hl 1 rfl) ?_
    refine lv_iconst (v := (nI 4)) hx hb dN_Mod_keep_2 (by decide) ?_
    refine lv_icmp_lt (tgt := 12) hx hb dN_Mod_keep_3 (by decide) (fun c_3_1 => ?_) (fun c_3_1 => ?_)
    · skip
      refine lv_iconst (v := (nI 1)) hx hb dN_Mod_keep_12 (by decide) ?_
      refine lv_goto (tgt := 17) hx hb dN_Mod_keep_13 (by decide) ?_
      exact Jj1 (1) (by rw [keepT, if_pos c_3_1])
    · skip
      refine lv_iload_n hx hb dN_Mod_keep_6 rfl (lv_at hl 1 rfl) ?_
      refine lv_bipush (v := (nI 64)) hx hb dN_Mod_keep_7 (by decide) ?_
      refine lv_icmp_le (tgt := 16) hx hb dN_Mod_keep_9 (by decide) (fun c_9_2 => ?_) (fun c_9_2 => ?_)
      · skip
        refine lv_iconst (v := (nI 0)) hx hb dN_Mod_keep_16 (by decide) ?_
        exact Jj1 (0) (by rw [keepT, if_neg c_3_1, if_neg (Int32.not_lt.mpr c_9_2)])
      · skip
        refine lv_iconst (v := (nI 1)) hx hb dN_Mod_keep_12 (by decide) ?_
        refine lv_goto (tgt := 17) hx hb dN_Mod_keep_13 (by decide) ?_
        exact Jj1 (1) (by rw [keepT, if_neg c_3_1, if_pos (Int32.not_le.mp c_9_2)])
set_option maxHeartbeats 4000000 in
set_option maxRecDepth 100000 in
/-- over() -/
theorem kMod_over (l : Launch) (D : va_G) (cI cZ cJ : ClassId) (o : Nat) (q : Nat → Nat) (th n b len tr hi ma : Nat)  : vx_Mi l yN_Mod_over wN_Mod_over ({ frames := 0, cells := 0, slots := 0, locals := 0 }) D clN (tyN cI cZ cJ) [.ref o] [(o, .inr (12, [.int (nI th), .int (nI n), .int (nI b), .ref (q 3), .ref (q 4), .ref (q 5), .ref (q 6), .ref (q 7), .int (nI len), .ref (q 9), .ref (q 10), .ref (q 11), .ref (q 12), .ref (q 13), .ref (q 14), .ref (q 15), .ref (q 16), .ref (q 17), .int (nI tr), .int (nI hi), .ref (q 20), .ref (q 21), .ref (q 22), .ref (q 23), .int (nI ma)]))] (fun r w => r = nI 0 ∧ w = [(o, .inr (12, [.int (nI 0), .int (nI n), .int (nI b), .ref (q 3), .ref (q 4), .ref (q 5), .ref (q 6), .ref (q 7), .int (nI len), .ref (q 9), .ref (q 10), .ref (q 11), .ref (q 12), .ref (q 13), .ref (q 14), .ref (q 15), .ref (q 16), .ref (q 17), .int (nI tr), .int (nI hi), .ref (q 20), .ref (q 21), .ref (q 22), .ref (q 23), .int (nI ma)]))]) := by
  refine vx_startI (cc := cN_Mod_over) (maxL := 1) (ret := (some .int)) (by decide) rfl (Nat.le_of_ble_eq_true rfl) ?_
  intro p_0 e_0 s m below meth c_0 A ls C hK hP hD hS hA hl
  obtain ⟨hx, hb, hr, hml, hown, hts, hlocks, hnm⟩ := id C
  have hown : s.vm.findClass "StepMachinesModel" = some m.cls := hown
  have ht : ∀ w ∈ TB, w.before _ s = true := fun w h => hts w (List.mem_cons_of_mem _ h)
  have hl : lv_has ls 1 [(0, .ref o)] := hl
  refine lv_aload_n hx hb dN_Mod_over_0 rfl (lv_at hl 0 rfl) ?_
  refine lv_iconst (v := (nI 0)) hx hb dN_Mod_over_1 (by decide) ?_
  refine va_put (D := D) (ci := 12) (v := .int (nI 0)) (ty := .int) (C := RN_Mod) (T := FN_Mod) (N := 25) hx hb ht fN_Mod tN_Mod oN_Mod nN_Mod hown hK hP hD hS 0 rfl rfl 0 (by decide) (ht _ mw_972) (fun _ h9 => h9) rfl (by decide +kernel) (rfl) (rfl) (Nat.le_of_ble_eq_true rfl) dN_Mod_over_2 (fun H locs hP hD hS => ?_)
  have hP : va_P D clN [(o, .inr (12, [.int (nI 0), .int (nI n), .int (nI b), .ref (q 3), .ref (q 4), .ref (q 5), .ref (q 6), .ref (q 7), .int (nI len), .ref (q 9), .ref (q 10), .ref (q 11), .ref (q 12), .ref (q 13), .ref (q 14), .ref (q 15), .ref (q 16), .ref (q 17), .int (nI tr), .int (nI hi), .ref (q 20), .ref (q 21), .ref (q 22), .ref (q 23), .int (nI ma)]))] H := hP
  have hD : va_D A [(o, .inr (12, [.int (nI 0), .int (nI n), .int (nI b), .ref (q 3), .ref (q 4), .ref (q 5), .ref (q 6), .ref (q 7), .int (nI len), .ref (q 9), .ref (q 10), .ref (q 11), .ref (q 12), .ref (q 13), .ref (q 14), .ref (q 15), .ref (q 16), .ref (q 17), .int (nI tr), .int (nI hi), .ref (q 20), .ref (q 21), .ref (q 22), .ref (q 23), .int (nI ma)]))] := hD
  refine lv_iconst (v := (nI 0)) hx hb dN_Mod_over_5 (by decide) ?_
  exact vx_iret C hK hP hD hS dN_Mod_over_6 (Nat.le_of_ble_eq_true rfl) (Nat.le_of_ble_eq_true rfl) (⟨rfl, rfl⟩)
set_option maxHeartbeats 4000000 in
set_option maxRecDepth 100000 in
/-- clear() -/
theorem kMod_clear (l : Launch) (D : va_G) (cI cZ cJ : ClassId) (o : Nat) (q : Nat → Nat) (th n b len tr hi ma : Nat)  : vx_Mv l yN_Mod_clear wN_Mod_clear ({ frames := 0, cells := 0, slots := 0, locals := 0 }) D clN (tyN cI cZ cJ) [.ref o] [(o, .inr (12, [.int (nI th), .int (nI n), .int (nI b), .ref (q 3), .ref (q 4), .ref (q 5), .ref (q 6), .ref (q 7), .int (nI len), .ref (q 9), .ref (q 10), .ref (q 11), .ref (q 12), .ref (q 13), .ref (q 14), .ref (q 15), .ref (q 16), .ref (q 17), .int (nI tr), .int (nI hi), .ref (q 20), .ref (q 21), .ref (q 22), .ref (q 23), .int (nI ma)]))] (fun w => w = [(o, .inr (12, [.int (nI 0), .int (nI n), .int (nI b), .ref (q 3), .ref (q 4), .ref (q 5), .ref (q 6), .ref (q 7), .int (nI 0), .ref (q 9), .ref (q 10), .ref (q 11), .ref (q 12), .ref (q 13), .ref (q 14), .ref (q 15), .ref (q 16), .ref (q 17), .int (nI tr), .int (nI hi), .ref (q 20), .ref (q 21), .ref (q 22), .ref (q 23), .int (nI ma)]))]) := by
  refine vx_startV (cc := cN_Mod_clear) (maxL := 1) (ret := none) (by decide) rfl (Nat.le_of_ble_eq_true rfl) ?_
  intro p_0 e_0 s m below meth c_0 A ls C hK hP hD hS hA hl
  obtain ⟨hx, hb, hr, hml, hown, hts, hlocks, hnm⟩ := id C
  have hown : s.vm.findClass "StepMachinesModel" = some m.cls := hown
  have ht : ∀ w ∈ TB, w.before _ s = true := fun w h => hts w (List.mem_cons_of_mem _ h)
  have hl : lv_has ls 1 [(0, .ref o)] := hl
  refine lv_aload_n hx hb dN_Mod_clear_0 rfl (lv_at hl 0 rfl) ?_
  refine lv_iconst (v := (nI 0)) hx hb dN_Mod_clear_1 (by decide) ?_
  refine va_put (D := D) (ci := 12) (v := .int (nI 0)) (ty := .int) (C := RN_Mod) (T := FN_Mod) (N := 25) hx hb ht fN_Mod tN_Mod oN_Mod nN_Mod hown hK hP hD hS 0 rfl rfl 0 (by decide) (ht _ mw_972) (fun _ h9 => h9) rfl (by decide +kernel) (rfl) (rfl) (Nat.le_of_ble_eq_true rfl) dN_Mod_clear_2 (fun H locs hP hD hS => ?_)
  have hP : va_P D clN [(o, .inr (12, [.int (nI 0), .int (nI n), .int (nI b), .ref (q 3), .ref (q 4), .ref (q 5), .ref (q 6), .ref (q 7), .int (nI len), .ref (q 9), .ref (q 10), .ref (q 11), .ref (q 12), .ref (q 13), .ref (q 14), .ref (q 15), .ref (q 16), .ref (q 17), .int (nI tr), .int (nI hi), .ref (q 20), .ref (q 21), .ref (q 22), .ref (q 23), .int (nI ma)]))] H := hP
  have hD : va_D A [(o, .inr (12, [.int (nI 0), .int (nI n), .int (nI b), .ref (q 3), .ref (q 4), .ref (q 5), .ref (q 6), .ref (q 7), .int (nI len), .ref (q 9), .ref (q 10), .ref (q 11), .ref (q 12), .ref (q 13), .ref (q 14), .ref (q 15), .ref (q 16), .ref (q 17), .int (nI tr), .int (nI hi), .ref (q 20), .ref (q 21), .ref (q 22), .ref (q 23), .int (nI ma)]))] := hD
  refine lv_aload_n hx hb dN_Mod_clear_5 rfl (lv_at hl 0 rfl) ?_
  refine lv_iconst (v := (nI 0)) hx hb dN_Mod_clear_6 (by decide) ?_
  refine va_put (D := D) (ci := 12) (v := .int (nI 0)) (ty := .int) (C := RN_Mod) (T := FN_Mod) (N := 25) hx hb ht fN_Mod tN_Mod oN_Mod nN_Mod hown hK hP hD hS 0 rfl rfl 8 (by decide) (ht _ mw_980) (fun _ h9 => h9) rfl (by decide +kernel) (rfl) (rfl) (Nat.le_of_ble_eq_true rfl) dN_Mod_clear_7 (fun H locs hP hD hS => ?_)
  have hP : va_P D clN [(o, .inr (12, [.int (nI 0), .int (nI n), .int (nI b), .ref (q 3), .ref (q 4), .ref (q 5), .ref (q 6), .ref (q 7), .int (nI 0), .ref (q 9), .ref (q 10), .ref (q 11), .ref (q 12), .ref (q 13), .ref (q 14), .ref (q 15), .ref (q 16), .ref (q 17), .int (nI tr), .int (nI hi), .ref (q 20), .ref (q 21), .ref (q 22), .ref (q 23), .int (nI ma)]))] H := hP
  have hD : va_D A [(o, .inr (12, [.int (nI 0), .int (nI n), .int (nI b), .ref (q 3), .ref (q 4), .ref (q 5), .ref (q 6), .ref (q 7), .int (nI 0), .ref (q 9), .ref (q 10), .ref (q 11), .ref (q 12), .ref (q 13), .ref (q 14), .ref (q 15), .ref (q 16), .ref (q 17), .int (nI tr), .int (nI hi), .ref (q 20), .ref (q 21), .ref (q 22), .ref (q 23), .int (nI ma)]))] := hD
  exact vx_vret C hK hP hD hS dN_Mod_clear_10 (Nat.le_of_ble_eq_true rfl) (Nat.le_of_ble_eq_true rfl) (rfl)
set_option maxHeartbeats 4000000 in
set_option maxRecDepth 100000 in
/-- lay, refused -/
theorem kMod_lay_bad (l : Launch) (D : va_G) (cI cZ cJ : ClassId) (o : Nat) (q : Nat → Nat) (th n b len tr hi ma : Nat) (x : Int32) (hbad : layB x = true) : vx_Mv l yN_Mod_lay wN_Mod_lay ({ frames := 0, cells := 0, slots := 0, locals := 0 }) D clN (tyN cI cZ cJ) [.ref o, .int x] [(o, .inr (12, [.int (nI th), .int (nI n), .int (nI b), .ref (q 3), .ref (q 4), .ref (q 5), .ref (q 6), .ref (q 7), .int (nI len), .ref (q 9), .ref (q 10), .ref (q 11), .ref (q 12), .ref (q 13), .ref (q 14), .ref (q 15), .ref (q 16), .ref (q 17), .int (nI tr), .int (nI hi), .ref (q 20), .ref (q 21), .ref (q 22), .ref (q 23), .int (nI ma)]))] (fun w => w = [(o, .inr (12, [.int (nI 1), .int (nI n), .int (nI b), .ref (q 3), .ref (q 4), .ref (q 5), .ref (q 6), .ref (q 7), .int (nI len), .ref (q 9), .ref (q 10), .ref (q 11), .ref (q 12), .ref (q 13), .ref (q 14), .ref (q 15), .ref (q 16), .ref (q 17), .int (nI tr), .int (nI hi), .ref (q 20), .ref (q 21), .ref (q 22), .ref (q 23), .int (nI ma)]))]) := by
  refine vx_startV (cc := cN_Mod_lay) (maxL := 3) (ret := none) (by decide) rfl (Nat.le_of_ble_eq_true rfl) ?_
  intro p_0 e_0 s m below meth c_0 A ls C hK hP hD hS hA hl
  obtain ⟨hx, hb, hr, hml, hown, hts, hlocks, hnm⟩ := id C
  have hown : s.vm.findClass "StepMachinesModel" = some m.cls := hown
  have ht : ∀ w ∈ TB, w.before _ s = true := fun w h => hts w (List.mem_cons_of_mem _ h)
  have hl : lv_has ls 3 [(0, .ref o), (1, .int x)] := hl
  refine lv_aload_n hx hb dN_Mod_lay_0 rfl (lv_at hl 0 rfl) ?_
  refine lv_iload_n hx hb dN_Mod_lay_1 rfl (lv_at hl 1 rfl) ?_
  refine lv_iconst (v := (nI 1)) hx hb dN_Mod_lay_2 (by decide) ?_
  refine lv_icmp_lt (tgt := 13) hx hb dN_Mod_lay_3 (by decide) (fun c_3_0 => ?_) (fun c_3_0 => ?_)
  · skip
    refine lv_iconst (v := (nI 1)) hx hb dN_Mod_lay_13 (by decide) ?_
    refine lv_goto (tgt := 18) hx hb dN_Mod_lay_14 (by decide) ?_
    refine va_put (D := D) (ci := 12) (v := .int (nI 1)) (ty := .int) (C := RN_Mod) (T := FN_Mod) (N := 25) hx hb ht fN_Mod tN_Mod oN_Mod nN_Mod hown hK hP hD hS 0 rfl rfl 0 (by decide) (ht _ mw_972) (fun _ h9 => h9) rfl (by decide +kernel) (rfl) (rfl) (Nat.le_of_ble_eq_true rfl) dN_Mod_lay_18 (fun H locs hP hD hS => ?_)
    have hP : va_P D clN [(o, .inr (12, [.int (nI 1), .int (nI n), .int (nI b), .ref (q 3), .ref (q 4), .ref (q 5), .ref (q 6), .ref (q 7), .int (nI len), .ref (q 9), .ref (q 10), .ref (q 11), .ref (q 12), .ref (q 13), .ref (q 14), .ref (q 15), .ref (q 16), .ref (q 17), .int (nI tr), .int (nI hi), .ref (q 20), .ref (q 21), .ref (q 22), .ref (q 23), .int (nI ma)]))] H := hP
    have hD : va_D A [(o, .inr (12, [.int (nI 1), .int (nI n), .int (nI b), .ref (q 3), .ref (q 4), .ref (q 5), .ref (q 6), .ref (q 7), .int (nI len), .ref (q 9), .ref (q 10), .ref (q 11), .ref (q 12), .ref (q 13), .ref (q 14), .ref (q 15), .ref (q 16), .ref (q 17), .int (nI tr), .int (nI hi), .ref (q 20), .ref (q 21), .ref (q 22), .ref (q 23), .int (nI ma)]))] := hD
    refine lv_aload_n hx hb dN_Mod_lay_21 rfl (lv_at hl 0 rfl) ?_
    refine va_get (D := D) (ci := 12) (v := .int (nI 1)) (C := RN_Mod) (T := FN_Mod) (N := 25) hx hb ht fN_Mod hown hK hP 0 rfl rfl 0 (by decide) (ht _ mw_972) (fun _ h9 => h9) rfl dN_Mod_lay_22 ?_
    refine xn_le0 (tgt := 29) hx hb dN_Mod_lay_25 (by decide) (by omega) (fun c_25_1 => ?_) (fun c_25_1 => ?_)
    · skip
      exact absurd c_25_1 (by decide)
    · skip
      exact vx_vret C hK hP hD hS dN_Mod_lay_28 (Nat.le_of_ble_eq_true rfl) (Nat.le_of_ble_eq_true rfl) (rfl)
  · skip
    refine lv_iload_n hx hb dN_Mod_lay_6 rfl (lv_at hl 1 rfl) ?_
    refine lv_sipush (v := (nI 200)) hx hb dN_Mod_lay_7 (by decide) ?_
    refine lv_icmp_le (tgt := 17) hx hb dN_Mod_lay_10 (by decide) (fun c_10_2 => ?_) (fun c_10_2 => ?_)
    · skip
      exact absurd hbad (by simp [layB, c_3_0, Int32.not_lt.mpr c_10_2])
    · skip
      refine lv_iconst (v := (nI 1)) hx hb dN_Mod_lay_13 (by decide) ?_
      refine lv_goto (tgt := 18) hx hb dN_Mod_lay_14 (by decide) ?_
      refine va_put (D := D) (ci := 12) (v := .int (nI 1)) (ty := .int) (C := RN_Mod) (T := FN_Mod) (N := 25) hx hb ht fN_Mod tN_Mod oN_Mod nN_Mod hown hK hP hD hS 0 rfl rfl 0 (by decide) (ht _ mw_972) (fun _ h9 => h9) rfl (by decide +kernel) (rfl) (rfl) (Nat.le_of_ble_eq_true rfl) dN_Mod_lay_18 (fun H locs hP hD hS => ?_)
      have hP : va_P D clN [(o, .inr (12, [.int (nI 1), .int (nI n), .int (nI b), .ref (q 3), .ref (q 4), .ref (q 5), .ref (q 6), .ref (q 7), .int (nI len), .ref (q 9), .ref (q 10), .ref (q 11), .ref (q 12), .ref (q 13), .ref (q 14), .ref (q 15), .ref (q 16), .ref (q 17), .int (nI tr), .int (nI hi), .ref (q 20), .ref (q 21), .ref (q 22), .ref (q 23), .int (nI ma)]))] H := hP
      have hD : va_D A [(o, .inr (12, [.int (nI 1), .int (nI n), .int (nI b), .ref (q 3), .ref (q 4), .ref (q 5), .ref (q 6), .ref (q 7), .int (nI len), .ref (q 9), .ref (q 10), .ref (q 11), .ref (q 12), .ref (q 13), .ref (q 14), .ref (q 15), .ref (q 16), .ref (q 17), .int (nI tr), .int (nI hi), .ref (q 20), .ref (q 21), .ref (q 22), .ref (q 23), .int (nI ma)]))] := hD
      refine lv_aload_n hx hb dN_Mod_lay_21 rfl (lv_at hl 0 rfl) ?_
      refine va_get (D := D) (ci := 12) (v := .int (nI 1)) (C := RN_Mod) (T := FN_Mod) (N := 25) hx hb ht fN_Mod hown hK hP 0 rfl rfl 0 (by decide) (ht _ mw_972) (fun _ h9 => h9) rfl dN_Mod_lay_22 ?_
      refine xn_le0 (tgt := 29) hx hb dN_Mod_lay_25 (by decide) (by omega) (fun c_25_3 => ?_) (fun c_25_3 => ?_)
      · skip
        exact absurd c_25_3 (by decide)
      · skip
        exact vx_vret C hK hP hD hS dN_Mod_lay_28 (Nat.le_of_ble_eq_true rfl) (Nat.le_of_ble_eq_true rfl) (rfl)
set_option maxHeartbeats 4000000 in
set_option maxRecDepth 100000 in
/-- lay, done -/
theorem kMod_lay (l : Launch) (D : va_G) (cI cZ cJ : ClassId) (o : Nat) (q : Nat → Nat) (th n b len tr hi ma : Nat) (K : Nat → Nat) (nn : Nat) (h1 : 1 ≤ nn) (h2 : nn ≤ 200) : vx_Mv l yN_Mod_lay wN_Mod_lay ({ frames := 0, cells := 0, slots := 0, locals := 0 }) D clN (tyN cI cZ cJ) [.ref o, .int (nI nn)] [(o, .inr (12, [.int (nI th), .int (nI n), .int (nI b), .ref (q 3), .ref (q 4), .ref (q 5), .ref (q 6), .ref (q 7), .int (nI len), .ref (q 9), .ref (q 10), .ref (q 11), .ref (q 12), .ref (q 13), .ref (q 14), .ref (q 15), .ref (q 16), .ref (q 17), .int (nI tr), .int (nI hi), .ref (q 20), .ref (q 21), .ref (q 22), .ref (q 23), .int (nI ma)])), (q 3, .inl (cI, 200, .inl (ni K)))] (fun w => w = [(o, .inr (12, [.int (nI 0), .int (nI nn), .int (nI 0), .ref (q 3), .ref (q 4), .ref (q 5), .ref (q 6), .ref (q 7), .int (nI len), .ref (q 9), .ref (q 10), .ref (q 11), .ref (q 12), .ref (q 13), .ref (q 14), .ref (q 15), .ref (q 16), .ref (q 17), .int (nI tr), .int (nI hi), .ref (q 20), .ref (q 21), .ref (q 22), .ref (q 23), .int (nI ma)])), (q 3, .inl (cI, 200, .inl (ni (layK K nn))))]) := by
  refine vx_startV (cc := cN_Mod_lay) (maxL := 3) (ret := none) (by decide) rfl (Nat.le_of_ble_eq_true rfl) ?_
  intro p_0 e_0 s m below meth c_0 A ls C hK hP hD hS hA hl
  obtain ⟨hx, hb, hr, hml, hown, hts, hlocks, hnm⟩ := id C
  have hown : s.vm.findClass "StepMachinesModel" = some m.cls := hown
  have ht : ∀ w ∈ TB, w.before _ s = true := fun w h => hts w (List.mem_cons_of_mem _ h)
  have hl : lv_has ls 3 [(0, .ref o), (1, .int (nI nn))] := hl
  refine lv_aload_n hx hb dN_Mod_lay_0 rfl (lv_at hl 0 rfl) ?_
  refine lv_iload_n hx hb dN_Mod_lay_1 rfl (lv_at hl 1 rfl) ?_
  refine lv_iconst (v := (nI 1)) hx hb dN_Mod_lay_2 (by decide) ?_
  refine xn_lt (tgt := 13) hx hb dN_Mod_lay_3 (by decide) (by omega) (by omega) (fun c_3_0 => ?_) (fun c_3_0 => ?_)
  · skip
    exact absurd c_3_0 (by omega)
  · skip
    refine lv_iload_n hx hb dN_Mod_lay_6 rfl (lv_at hl 1 rfl) ?_
    refine lv_sipush (v := (nI 200)) hx hb dN_Mod_lay_7 (by decide) ?_
    refine xn_le (tgt := 17) hx hb dN_Mod_lay_10 (by decide) (by omega) (by omega) (fun c_10_1 => ?_) (fun c_10_1 => ?_)
    · skip
      refine lv_iconst (v := (nI 0)) hx hb dN_Mod_lay_17 (by decide) ?_
      refine va_put (D := D) (ci := 12) (v := .int (nI 0)) (ty := .int) (C := RN_Mod) (T := FN_Mod) (N := 25) hx hb ht fN_Mod tN_Mod oN_Mod nN_Mod hown hK hP hD hS 0 rfl rfl 0 (by decide) (ht _ mw_972) (fun _ h9 => h9) rfl (by decide +kernel) (rfl) (rfl) (Nat.le_of_ble_eq_true rfl) dN_Mod_lay_18 (fun H locs hP hD hS => ?_)
      have hP : va_P D clN [(o, .inr (12, [.int (nI 0), .int (nI n), .int (nI b), .ref (q 3), .ref (q 4), .ref (q 5), .ref (q 6), .ref (q 7), .int (nI len), .ref (q 9), .ref (q 10), .ref (q 11), .ref (q 12), .ref (q 13), .ref (q 14), .ref (q 15), .ref (q 16), .ref (q 17), .int (nI tr), .int (nI hi), .ref (q 20), .ref (q 21), .ref (q 22), .ref (q 23), .int (nI ma)])), (q 3, .inl (cI, 200, .inl (ni K)))] H := hP
      have hD : va_D A [(o, .inr (12, [.int (nI 0), .int (nI n), .int (nI b), .ref (q 3), .ref (q 4), .ref (q 5), .ref (q 6), .ref (q 7), .int (nI len), .ref (q 9), .ref (q 10), .ref (q 11), .ref (q 12), .ref (q 13), .ref (q 14), .ref (q 15), .ref (q 16), .ref (q 17), .int (nI tr), .int (nI hi), .ref (q 20), .ref (q 21), .ref (q 22), .ref (q 23), .int (nI ma)])), (q 3, .inl (cI, 200, .inl (ni K)))] := hD
      refine lv_aload_n hx hb dN_Mod_lay_21 rfl (lv_at hl 0 rfl) ?_
      refine va_get (D := D) (ci := 12) (v := .int (nI 0)) (C := RN_Mod) (T := FN_Mod) (N := 25) hx hb ht fN_Mod hown hK hP 0 rfl rfl 0 (by decide) (ht _ mw_972) (fun _ h9 => h9) rfl dN_Mod_lay_22 ?_
      refine xn_le0 (tgt := 29) hx hb dN_Mod_lay_25 (by decide) (by omega) (fun c_25_2 => ?_) (fun c_25_2 => ?_)
      · skip
        refine lv_aload_n hx hb dN_Mod_lay_29 rfl (lv_at hl 0 rfl) ?_
        refine lv_iload_n hx hb dN_Mod_lay_30 rfl (lv_at hl 1 rfl) ?_
        refine va_put (D := D) (ci := 12) (v := .int (nI nn)) (ty := .int) (C := RN_Mod) (T := FN_Mod) (N := 25) hx hb ht fN_Mod tN_Mod oN_Mod nN_Mod hown hK hP hD hS 0 rfl rfl 1 (by decide) (ht _ mw_973) (fun _ h9 => h9) rfl (by decide +kernel) (rfl) (rfl) (Nat.le_of_ble_eq_true rfl) dN_Mod_lay_31 (fun H locs hP hD hS => ?_)
        have hP : va_P D clN [(o, .inr (12, [.int (nI 0), .int (nI nn), .int (nI b), .ref (q 3), .ref (q 4), .ref (q 5), .ref (q 6), .ref (q 7), .int (nI len), .ref (q 9), .ref (q 10), .ref (q 11), .ref (q 12), .ref (q 13), .ref (q 14), .ref (q 15), .ref (q 16), .ref (q 17), .int (nI tr), .int (nI hi), .ref (q 20), .ref (q 21), .ref (q 22), .ref (q 23), .int (nI ma)])), (q 3, .inl (cI, 200, .inl (ni K)))] H := hP
        have hD : va_D A [(o, .inr (12, [.int (nI 0), .int (nI nn), .int (nI b), .ref (q 3), .ref (q 4), .ref (q 5), .ref (q 6), .ref (q 7), .int (nI len), .ref (q 9), .ref (q 10), .ref (q 11), .ref (q 12), .ref (q 13), .ref (q 14), .ref (q 15), .ref (q 16), .ref (q 17), .int (nI tr), .int (nI hi), .ref (q 20), .ref (q 21), .ref (q 22), .ref (q 23), .int (nI ma)])), (q 3, .inl (cI, 200, .inl (ni K)))] := hD
        refine lv_aload_n hx hb dN_Mod_lay_34 rfl (lv_at hl 0 rfl) ?_
        refine lv_iconst (v := (nI 0)) hx hb dN_Mod_lay_35 (by decide) ?_
        refine va_put (D := D) (ci := 12) (v := .int (nI 0)) (ty := .int) (C := RN_Mod) (T := FN_Mod) (N := 25) hx hb ht fN_Mod tN_Mod oN_Mod nN_Mod hown hK hP hD hS 0 rfl rfl 2 (by decide) (ht _ mw_974) (fun _ h9 => h9) rfl (by decide +kernel) (rfl) (rfl) (Nat.le_of_ble_eq_true rfl) dN_Mod_lay_36 (fun H locs hP hD hS => ?_)
        have hP : va_P D clN [(o, .inr (12, [.int (nI 0), .int (nI nn), .int (nI 0), .ref (q 3), .ref (q 4), .ref (q 5), .ref (q 6), .ref (q 7), .int (nI len), .ref (q 9), .ref (q 10), .ref (q 11), .ref (q 12), .ref (q 13), .ref (q 14), .ref (q 15), .ref (q 16), .ref (q 17), .int (nI tr), .int (nI hi), .ref (q 20), .ref (q 21), .ref (q 22), .ref (q 23), .int (nI ma)])), (q 3, .inl (cI, 200, .inl (ni K)))] H := hP
        have hD : va_D A [(o, .inr (12, [.int (nI 0), .int (nI nn), .int (nI 0), .ref (q 3), .ref (q 4), .ref (q 5), .ref (q 6), .ref (q 7), .int (nI len), .ref (q 9), .ref (q 10), .ref (q 11), .ref (q 12), .ref (q 13), .ref (q 14), .ref (q 15), .ref (q 16), .ref (q 17), .int (nI tr), .int (nI hi), .ref (q 20), .ref (q 21), .ref (q 22), .ref (q 23), .int (nI ma)])), (q 3, .inl (cI, 200, .inl (ni K)))] := hD
        refine lv_iconst (v := (nI 0)) hx hb dN_Mod_lay_39 (by decide) ?_
        refine lv_istore_n (lv' := [(2, .int (nI 0)), (0, .ref o), (1, .int (nI nn))]) hx hb dN_Mod_lay_40 rfl hl (by decide) rfl (fun ls hl => ?_)
        refine vx_loop (α := (Nat → Nat) × Nat) (fun (vv : (Nat → Nat) × Nat) (H : Heap) (locs : List Loc) (ls : Array Slot) => match vv with | (K1, k) => va_P D clN [(o, .inr (12, [.int (nI 0), .int (nI nn), .int (nI 0), .ref (q 3), .ref (q 4), .ref (q 5), .ref (q 6), .ref (q 7), .int (nI len), .ref (q 9), .ref (q 10), .ref (q 11), .ref (q 12), .ref (q 13), .ref (q 14), .ref (q 15), .ref (q 16), .ref (q 17), .int (nI tr), .int (nI hi), .ref (q 20), .ref (q 21), .ref (q 22), .ref (q 23), .int (nI ma)])), (q 3, .inl (cI, 200, .inl (ni K1)))] H ∧ va_D A [(o, .inr (12, [.int (nI 0), .int (nI nn), .int (nI 0), .ref (q 3), .ref (q 4), .ref (q 5), .ref (q 6), .ref (q 7), .int (nI len), .ref (q 9), .ref (q 10), .ref (q 11), .ref (q 12), .ref (q 13), .ref (q 14), .ref (q 15), .ref (q 16), .ref (q 17), .int (nI tr), .int (nI hi), .ref (q 20), .ref (q 21), .ref (q 22), .ref (q 23), .int (nI ma)])), (q 3, .inl (cI, 200, .inl (ni K1)))] ∧ va_S A s.heap H locs ∧ lv_has ls 3 [(0, .ref o), (1, .int (nI nn)), (2, .int (nI k))] ∧ (k ≤ nn ∧ K1 = layK K k)) (fun (vv : (Nat → Nat) × Nat) => match vv with | (K1, k) => nn - k) 41 [] ?_ (K, 0) ⟨hP, hD, hS, lv_sub hl [1, 2, 0] rfl, ⟨by omega, (layK_0 K).symm⟩⟩
        intro vv H locs ls hq ih_41_3
        obtain ⟨K1, k⟩ := vv
        obtain ⟨hP, hD, hS, hl, hI⟩ := hq
        obtain ⟨hkn, hK1⟩ := hI
        refine lv_iload_n hx hb dN_Mod_lay_41 rfl (lv_at hl 2 rfl) ?_
        refine lv_iload_n hx hb dN_Mod_lay_42 rfl (lv_at hl 1 rfl) ?_
        refine xn_ge (tgt := 59) hx hb dN_Mod_lay_43 (by decide) (by omega) (by omega) (fun c_43_4 => ?_) (fun c_43_4 => ?_)
        · skip
          exact vx_vret C hK hP hD hS dN_Mod_lay_59 (Nat.le_of_ble_eq_true rfl) (Nat.le_of_ble_eq_true rfl) (by rw [hK1, show k = nn by omega])
        · skip
          refine lv_aload_n hx hb dN_Mod_lay_46 rfl (lv_at hl 0 rfl) ?_
          refine va_get (D := D) (ci := 12) (v := .ref (q 3)) (C := RN_Mod) (T := FN_Mod) (N := 25) hx hb ht fN_Mod hown hK hP 0 rfl rfl 3 (by decide) (ht _ mw_975) (fun _ h9 => h9) rfl dN_Mod_lay_47 ?_
          refine lv_iload_n hx hb dN_Mod_lay_50 rfl (lv_at hl 2 rfl) ?_
          refine lv_iconst (v := (nI 5)) hx hb dN_Mod_lay_51 (by decide) ?_
          refine xn_ast hx hb hK hP hD hS 1 0 rfl rfl dN_Mod_lay_52 (by omega) (by omega) (fun H locs hP hD hS => ?_)
          have hP : va_P D clN [(o, .inr (12, [.int (nI 0), .int (nI nn), .int (nI 0), .ref (q 3), .ref (q 4), .ref (q 5), .ref (q 6), .ref (q 7), .int (nI len), .ref (q 9), .ref (q 10), .ref (q 11), .ref (q 12), .ref (q 13), .ref (q 14), .ref (q 15), .ref (q 16), .ref (q 17), .int (nI tr), .int (nI hi), .ref (q 20), .ref (q 21), .ref (q 22), .ref (q 23), .int (nI ma)])), (q 3, .inl (cI, 200, .inl (ni (un K1 k 5))))] H := hP
          have hD : va_D A [(o, .inr (12, [.int (nI 0), .int (nI nn), .int (nI 0), .ref (q 3), .ref (q 4), .ref (q 5), .ref (q 6), .ref (q 7), .int (nI len), .ref (q 9), .ref (q 10), .ref (q 11), .ref (q 12), .ref (q 13), .ref (q 14), .ref (q 15), .ref (q 16), .ref (q 17), .int (nI tr), .int (nI hi), .ref (q 20), .ref (q 21), .ref (q 22), .ref (q 23), .int (nI ma)])), (q 3, .inl (cI, 200, .inl (ni (un K1 k 5))))] := hD
          refine lv_iinc (v := (nI (k + 1))) (lv' := [(2, .int (nI (k + 1))), (0, .ref o), (1, .int (nI nn))]) hx hb dN_Mod_lay_53 hl (k := 2) rfl (nI_1 _) (by decide) rfl (fun ls hl => ?_)
          refine lv_goto (tgt := 41) hx hb dN_Mod_lay_56 (by decide) ?_
          exact ih_41_3 (un K1 k 5, k + 1) _ _ _ ⟨hP, hD, hS, lv_sub hl [1, 2, 0] rfl, ⟨by omega, by rw [hK1]; exact layK_step K k⟩⟩ (show (nn - (k + 1)) < (nn - k) from by omega)
      · skip
        exact absurd c_25_2 (by decide)
    · skip
      exact absurd c_10_1 (by omega)
set_option maxHeartbeats 4000000 in
set_option maxRecDepth 100000 in
/-- begin, refused -/
theorem kMod_begin_bad (l : Launch) (D : va_G) (cI cZ cJ : ClassId) (o : Nat) (q : Nat → Nat) (th n b len tr hi ma : Nat) (x : Int32) (hbad : stepB n x = false) : vx_Mv l yN_Mod_begin wN_Mod_begin ({ frames := 1, cells := 0, slots := 0, locals := 30 }) D clN (tyN cI cZ cJ) [.ref o, .int x] [(o, .inr (12, [.int (nI th), .int (nI n), .int (nI b), .ref (q 3), .ref (q 4), .ref (q 5), .ref (q 6), .ref (q 7), .int (nI len), .ref (q 9), .ref (q 10), .ref (q 11), .ref (q 12), .ref (q 13), .ref (q 14), .ref (q 15), .ref (q 16), .ref (q 17), .int (nI tr), .int (nI hi), .ref (q 20), .ref (q 21), .ref (q 22), .ref (q 23), .int (nI ma)]))] (fun w => w = [(o, .inr (12, [.int (nI 1), .int (nI n), .int (nI b), .ref (q 3), .ref (q 4), .ref (q 5), .ref (q 6), .ref (q 7), .int (nI len), .ref (q 9), .ref (q 10), .ref (q 11), .ref (q 12), .ref (q 13), .ref (q 14), .ref (q 15), .ref (q 16), .ref (q 17), .int (nI tr), .int (nI hi), .ref (q 20), .ref (q 21), .ref (q 22), .ref (q 23), .int (nI ma)]))]) := by
  refine vx_startV (cc := cN_Mod_begin) (maxL := 2) (ret := none) (by decide) rfl (Nat.le_of_ble_eq_true rfl) ?_
  intro p_0 e_0 s m below meth c_0 A ls C hK hP hD hS hA hl
  obtain ⟨hx, hb, hr, hml, hown, hts, hlocks, hnm⟩ := id C
  have hown : s.vm.findClass "StepMachinesModel" = some m.cls := hown
  have ht : ∀ w ∈ TB, w.before _ s = true := fun w h => hts w (List.mem_cons_of_mem _ h)
  have hl : lv_has ls 2 [(0, .ref o), (1, .int x)] := hl
  refine lv_aload_n hx hb dN_Mod_begin_0 rfl (lv_at hl 0 rfl) ?_
  refine lv_aload_n hx hb dN_Mod_begin_1 rfl (lv_at hl 0 rfl) ?_
  refine lv_iload_n hx hb dN_Mod_begin_2 rfl (lv_at hl 1 rfl) ?_
  refine vx_calli (wc := [(o, .inr (12, [.int (nI th), .int (nI n), .int (nI b), .ref (q 3), .ref (q 4), .ref (q 5), .ref (q 6), .ref (q 7), .int (nI len), .ref (q 9), .ref (q 10), .ref (q 11), .ref (q 12), .ref (q 13), .ref (q 14), .ref (q 15), .ref (q 16), .ref (q 17), .int (nI tr), .int (nI hi), .ref (q 20), .ref (q 21), .ref (q 22), .ref (q 23), .int (nI ma)]))]) (wr := []) [0] [] hK hP hD hS hA rfl rfl (by decide) (by decide) (va_runV (As := [.int x]) (rest := [.ref o]) ⟨hx, hb, hml, hown, ht⟩ (kMod_isStep l D cI cZ cJ o q th n b len tr hi ma (x) _) (⟨callB_of 1 ht (TB_in2 gN_Mod_isStep) rfl rfl rfl (ht _ mw_14) (ht _ mw_1061) (by decide +kernel) ⟨Nat.le_of_ble_eq_true rfl, Nat.le_of_ble_eq_true rfl⟩, ht _ mw_1063, ht _ ms_32⟩) (vx_preV [0] hK hP hD (by decide) rfl (ci := 12) rfl 0 rfl) rfl rfl hl.1 rfl (lv_room (Nat.le_of_ble_eq_true rfl)) dN_Mod_begin_3 ⟨Nat.le_of_ble_eq_true rfl, Nat.le_of_ble_eq_true rfl⟩) (fun r1 w1 H locs hq hP hD hS => ?_)
  obtain ⟨rfl, rfl⟩ := hq
  have hP : va_P D clN [(o, .inr (12, [.int (nI th), .int (nI n), .int (nI b), .ref (q 3), .ref (q 4), .ref (q 5), .ref (q 6), .ref (q 7), .int (nI len), .ref (q 9), .ref (q 10), .ref (q 11), .ref (q 12), .ref (q 13), .ref (q 14), .ref (q 15), .ref (q 16), .ref (q 17), .int (nI tr), .int (nI hi), .ref (q 20), .ref (q 21), .ref (q 22), .ref (q 23), .int (nI ma)]))] H := hP.sub [0] rfl
  have hD : va_D A [(o, .inr (12, [.int (nI th), .int (nI n), .int (nI b), .ref (q 3), .ref (q 4), .ref (q 5), .ref (q 6), .ref (q 7), .int (nI len), .ref (q 9), .ref (q 10), .ref (q 11), .ref (q 12), .ref (q 13), .ref (q 14), .ref (q 15), .ref (q 16), .ref (q 17), .int (nI tr), .int (nI hi), .ref (q 20), .ref (q 21), .ref (q 22), .ref (q 23), .int (nI ma)]))] := hD.sub [0] (by decide) rfl
  refine xz_eq0 (tgt := 13) hx hb dN_Mod_begin_6 (by decide) (fun c_6_0 => ?_) (fun c_6_0 => ?_)
  · skip
    refine lv_iconst (v := (nI 1)) hx hb dN_Mod_begin_13 (by decide) ?_
    refine va_put (D := D) (ci := 12) (v := .int (nI 1)) (ty := .int) (C := RN_Mod) (T := FN_Mod) (N := 25) hx hb ht fN_Mod tN_Mod oN_Mod nN_Mod hown hK hP hD hS 0 rfl rfl 0 (by decide) (ht _ mw_972) (fun _ h9 => h9) rfl (by decide +kernel) (rfl) (rfl) (Nat.le_of_ble_eq_true rfl) dN_Mod_begin_14 (fun H locs hP hD hS => ?_)
    have hP : va_P D clN [(o, .inr (12, [.int (nI 1), .int (nI n), .int (nI b), .ref (q 3), .ref (q 4), .ref (q 5), .ref (q 6), .ref (q 7), .int (nI len), .ref (q 9), .ref (q 10), .ref (q 11), .ref (q 12), .ref (q 13), .ref (q 14), .ref (q 15), .ref (q 16), .ref (q 17), .int (nI tr), .int (nI hi), .ref (q 20), .ref (q 21), .ref (q 22), .ref (q 23), .int (nI ma)]))] H := hP
    have hD : va_D A [(o, .inr (12, [.int (nI 1), .int (nI n), .int (nI b), .ref (q 3), .ref (q 4), .ref (q 5), .ref (q 6), .ref (q 7), .int (nI len), .ref (q 9), .ref (q 10), .ref (q 11), .ref (q 12), .ref (q 13), .ref (q 14), .ref (q 15), .ref (q 16), .ref (q 17), .int (nI tr), .int (nI hi), .ref (q 20), .ref (q 21), .ref (q 22), .ref (q 23), .int (nI ma)]))] := hD
    refine lv_aload_n hx hb dN_Mod_begin_17 rfl (lv_at hl 0 rfl) ?_
    refine va_get (D := D) (ci := 12) (v := .int (nI 1)) (C := RN_Mod) (T := FN_Mod) (N := 25) hx hb ht fN_Mod hown hK hP 0 rfl rfl 0 (by decide) (ht _ mw_972) (fun _ h9 => h9) rfl dN_Mod_begin_18 ?_
    refine xn_ne0 (tgt := 29) hx hb dN_Mod_begin_21 (by decide) (by omega) (fun c_21_1 => ?_) (fun c_21_1 => ?_)
    · skip
      exact vx_vret C hK hP hD hS dN_Mod_begin_29 (Nat.le_of_ble_eq_true rfl) (Nat.le_of_ble_eq_true rfl) (rfl)
    · skip
      exact absurd c_21_1 (by decide)
  · skip
    exact absurd hbad (by rw [c_6_0]; decide)
theorem stepB_ok {n k : Nat} (hn : n ≤ 200) (h : k < n) : stepB n (nI k) = true := by
  have a1 : ¬ nI k < 0 := nI_pos (by omega)
  have a2 : ¬ nI n ≤ nI k := by rw [nI_leI (by omega) (by omega)]; omega
  simp [stepB, a1, a2]
theorem stepB_of {n : Nat} {x : Int32} (hn : n ≤ 200) (h : stepB n x = true) : ∃ k, k < n ∧ x = nI k := by
  simp only [stepB, Bool.and_eq_true, Bool.not_eq_true', decide_eq_false_iff_not] at h
  obtain ⟨a, ha, rfl⟩ := nI_of h.1
  have h2 := h.2
  rw [nI_leI (by omega) (by omega)] at h2
  exact ⟨a, by omega, rfl⟩
set_option maxHeartbeats 4000000 in
set_option maxRecDepth 100000 in
/-- begin, done -/
theorem kMod_begin (l : Launch) (D : va_G) (cI cZ cJ : ClassId) (o : Nat) (q : Nat → Nat) (th n b len tr hi ma : Nat) (k : Nat) (hn : n ≤ 200) (hk : k < n) : vx_Mv l yN_Mod_begin wN_Mod_begin ({ frames := 1, cells := 0, slots := 0, locals := 30 }) D clN (tyN cI cZ cJ) [.ref o, .int (nI k)] [(o, .inr (12, [.int (nI th), .int (nI n), .int (nI b), .ref (q 3), .ref (q 4), .ref (q 5), .ref (q 6), .ref (q 7), .int (nI len), .ref (q 9), .ref (q 10), .ref (q 11), .ref (q 12), .ref (q 13), .ref (q 14), .ref (q 15), .ref (q 16), .ref (q 17), .int (nI tr), .int (nI hi), .ref (q 20), .ref (q 21), .ref (q 22), .ref (q 23), .int (nI ma)]))] (fun w => w = [(o, .inr (12, [.int (nI 0), .int (nI n), .int (nI k), .ref (q 3), .ref (q 4), .ref (q 5), .ref (q 6), .ref (q 7), .int (nI len), .ref (q 9), .ref (q 10), .ref (q 11), .ref (q 12), .ref (q 13), .ref (q 14), .ref (q 15), .ref (q 16), .ref (q 17), .int (nI tr), .int (nI hi), .ref (q 20), .ref (q 21), .ref (q 22), .ref (q 23), .int (nI ma)]))]) := by
  refine vx_startV (cc := cN_Mod_begin) (maxL := 2) (ret := none) (by decide) rfl (Nat.le_of_ble_eq_true rfl) ?_
  intro p_0 e_0 s m below meth c_0 A ls C hK hP hD hS hA hl
  obtain ⟨hx, hb, hr, hml, hown, hts, hlocks, hnm⟩ := id C
  have hown : s.vm.findClass "StepMachinesModel" = some m.cls := hown
  have ht : ∀ w ∈ TB, w.before _ s = true := fun w h => hts w (List.mem_cons_of_mem _ h)
  have hl : lv_has ls 2 [(0, .ref o), (1, .int (nI k))] := hl
  refine lv_aload_n hx hb dN_Mod_begin_0 rfl (lv_at hl 0 rfl) ?_
  refine lv_aload_n hx hb dN_Mod_begin_1 rfl (lv_at hl 0 rfl) ?_
  refine lv_iload_n hx hb dN_Mod_begin_2 rfl (lv_at hl 1 rfl) ?_
  refine vx_calli (wc := [(o, .inr (12, [.int (nI th), .int (nI n), .int (nI b), .ref (q 3), .ref (q 4), .ref (q 5), .ref (q 6), .ref (q 7), .int (nI len), .ref (q 9), .ref (q 10), .ref (q 11), .ref (q 12), .ref (q 13), .ref (q 14), .ref (q 15), .ref (q 16), .ref (q 17), .int (nI tr), .int (nI hi), .ref (q 20), .ref (q 21), .ref (q 22), .ref (q 23), .int (nI ma)]))]) (wr := []) [0] [] hK hP hD hS hA rfl rfl (by decide) (by decide) (va_runV (As := [.int (nI k)]) (rest := [.ref o]) ⟨hx, hb, hml, hown, ht⟩ (kMod_isStep l D cI cZ cJ o q th n b len tr hi ma (nI k) _) (⟨callB_of 1 ht (TB_in2 gN_Mod_isStep) rfl rfl rfl (ht _ mw_14) (ht _ mw_1061) (by decide +kernel) ⟨Nat.le_of_ble_eq_true rfl, Nat.le_of_ble_eq_true rfl⟩, ht _ mw_1063, ht _ ms_32⟩) (vx_preV [0] hK hP hD (by decide) rfl (ci := 12) rfl 0 rfl) rfl rfl hl.1 rfl (lv_room (Nat.le_of_ble_eq_true rfl)) dN_Mod_begin_3 ⟨Nat.le_of_ble_eq_true rfl, Nat.le_of_ble_eq_true rfl⟩) (fun r1 w1 H locs hq hP hD hS => ?_)
  obtain ⟨rfl, rfl⟩ := hq
  have hP : va_P D clN [(o, .inr (12, [.int (nI th), .int (nI n), .int (nI b), .ref (q 3), .ref (q 4), .ref (q 5), .ref (q 6), .ref (q 7), .int (nI len), .ref (q 9), .ref (q 10), .ref (q 11), .ref (q 12), .ref (q 13), .ref (q 14), .ref (q 15), .ref (q 16), .ref (q 17), .int (nI tr), .int (nI hi), .ref (q 20), .ref (q 21), .ref (q 22), .ref (q 23), .int (nI ma)]))] H := hP.sub [0] rfl
  have hD : va_D A [(o, .inr (12, [.int (nI th), .int (nI n), .int (nI b), .ref (q 3), .ref (q 4), .ref (q 5), .ref (q 6), .ref (q 7), .int (nI len), .ref (q 9), .ref (q 10), .ref (q 11), .ref (q 12), .ref (q 13), .ref (q 14), .ref (q 15), .ref (q 16), .ref (q 17), .int (nI tr), .int (nI hi), .ref (q 20), .ref (q 21), .ref (q 22), .ref (q 23), .int (nI ma)]))] := hD.sub [0] (by decide) rfl
  refine xz_eq0 (tgt := 13) hx hb dN_Mod_begin_6 (by decide) (fun c_6_0 => ?_) (fun c_6_0 => ?_)
  · skip
    exact absurd (stepB_ok hn hk) (by rw [c_6_0]; decide)
  · skip
    refine lv_iconst (v := (nI 0)) hx hb dN_Mod_begin_9 (by decide) ?_
    refine lv_goto (tgt := 14) hx hb dN_Mod_begin_10 (by decide) ?_
    refine va_put (D := D) (ci := 12) (v := .int (nI 0)) (ty := .int) (C := RN_Mod) (T := FN_Mod) (N := 25) hx hb ht fN_Mod tN_Mod oN_Mod nN_Mod hown hK hP hD hS 0 rfl rfl 0 (by decide) (ht _ mw_972) (fun _ h9 => h9) rfl (by decide +kernel) (rfl) (rfl) (Nat.le_of_ble_eq_true rfl) dN_Mod_begin_14 (fun H locs hP hD hS => ?_)
    have hP : va_P D clN [(o, .inr (12, [.int (nI 0), .int (nI n), .int (nI b), .ref (q 3), .ref (q 4), .ref (q 5), .ref (q 6), .ref (q 7), .int (nI len), .ref (q 9), .ref (q 10), .ref (q 11), .ref (q 12), .ref (q 13), .ref (q 14), .ref (q 15), .ref (q 16), .ref (q 17), .int (nI tr), .int (nI hi), .ref (q 20), .ref (q 21), .ref (q 22), .ref (q 23), .int (nI ma)]))] H := hP
    have hD : va_D A [(o, .inr (12, [.int (nI 0), .int (nI n), .int (nI b), .ref (q 3), .ref (q 4), .ref (q 5), .ref (q 6), .ref (q 7), .int (nI len), .ref (q 9), .ref (q 10), .ref (q 11), .ref (q 12), .ref (q 13), .ref (q 14), .ref (q 15), .ref (q 16), .ref (q 17), .int (nI tr), .int (nI hi), .ref (q 20), .ref (q 21), .ref (q 22), .ref (q 23), .int (nI ma)]))] := hD
    refine lv_aload_n hx hb dN_Mod_begin_17 rfl (lv_at hl 0 rfl) ?_
    refine va_get (D := D) (ci := 12) (v := .int (nI 0)) (C := RN_Mod) (T := FN_Mod) (N := 25) hx hb ht fN_Mod hown hK hP 0 rfl rfl 0 (by decide) (ht _ mw_972) (fun _ h9 => h9) rfl dN_Mod_begin_18 ?_
    refine xn_ne0 (tgt := 29) hx hb dN_Mod_begin_21 (by decide) (by omega) (fun c_21_1 => ?_) (fun c_21_1 => ?_)
    · skip
      exact absurd c_21_1 (by decide)
    · skip
      refine lv_aload_n hx hb dN_Mod_begin_24 rfl (lv_at hl 0 rfl) ?_
      refine lv_iload_n hx hb dN_Mod_begin_25 rfl (lv_at hl 1 rfl) ?_
      refine va_put (D := D) (ci := 12) (v := .int (nI k)) (ty := .int) (C := RN_Mod) (T := FN_Mod) (N := 25) hx hb ht fN_Mod tN_Mod oN_Mod nN_Mod hown hK hP hD hS 0 rfl rfl 2 (by decide) (ht _ mw_974) (fun _ h9 => h9) rfl (by decide +kernel) (rfl) (rfl) (Nat.le_of_ble_eq_true rfl) dN_Mod_begin_26 (fun H locs hP hD hS => ?_)
      have hP : va_P D clN [(o, .inr (12, [.int (nI 0), .int (nI n), .int (nI k), .ref (q 3), .ref (q 4), .ref (q 5), .ref (q 6), .ref (q 7), .int (nI len), .ref (q 9), .ref (q 10), .ref (q 11), .ref (q 12), .ref (q 13), .ref (q 14), .ref (q 15), .ref (q 16), .ref (q 17), .int (nI tr), .int (nI hi), .ref (q 20), .ref (q 21), .ref (q 22), .ref (q 23), .int (nI ma)]))] H := hP
      have hD : va_D A [(o, .inr (12, [.int (nI 0), .int (nI n), .int (nI k), .ref (q 3), .ref (q 4), .ref (q 5), .ref (q 6), .ref (q 7), .int (nI len), .ref (q 9), .ref (q 10), .ref (q 11), .ref (q 12), .ref (q 13), .ref (q 14), .ref (q 15), .ref (q 16), .ref (q 17), .int (nI tr), .int (nI hi), .ref (q 20), .ref (q 21), .ref (q 22), .ref (q 23), .int (nI ma)]))] := hD
      exact vx_vret C hK hP hD hS dN_Mod_begin_29 (Nat.le_of_ble_eq_true rfl) (Nat.le_of_ble_eq_true rfl) (rfl)
