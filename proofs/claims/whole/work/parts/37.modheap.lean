set_option maxHeartbeats 4000000 in
set_option maxRecDepth 100000 in
/-- heap(k) -/
theorem kMod_heap (l : Launch) (D : va_G) (cI cZ cJ : ClassId) (o : Nat) (q : Nat → Nat) (th n b len tr hi ma : Nat) (pl pt : Nat → Nat) (k : Nat) (hhi : hi < 500) : vx_Mv l yN_Mod_heap wN_Mod_heap ({ frames := 0, cells := 0, slots := 0, locals := 0 }) D clN (tyN cI cZ cJ) [.ref o, .int (nI k)] [(o, .inr (12, [.int (nI th), .int (nI n), .int (nI b), .ref (q 3), .ref (q 4), .ref (q 5), .ref (q 6), .ref (q 7), .int (nI len), .ref (q 9), .ref (q 10), .ref (q 11), .ref (q 12), .ref (q 13), .ref (q 14), .ref (q 15), .ref (q 16), .ref (q 17), .int (nI tr), .int (nI hi), .ref (q 20), .ref (q 21), .ref (q 22), .ref (q 23), .int (nI ma)])), (q 13, .inl (cI, 500, .inl (ni pl))), (q 14, .inl (cI, 500, .inl (ni pt)))] (fun w => w = [(o, .inr (12, [.int (nI th), .int (nI n), .int (nI b), .ref (q 3), .ref (q 4), .ref (q 5), .ref (q 6), .ref (q 7), .int (nI len), .ref (q 9), .ref (q 10), .ref (q 11), .ref (q 12), .ref (q 13), .ref (q 14), .ref (q 15), .ref (q 16), .ref (q 17), .int (nI tr), .int (nI (hi + 1)), .ref (q 20), .ref (q 21), .ref (q 22), .ref (q 23), .int (nI ma)])), (q 13, .inl (cI, 500, .inl (ni (un pl hi k)))), (q 14, .inl (cI, 500, .inl (ni (un pt hi tr))))]) := by
  refine vx_startV (cc := cN_Mod_heap) (maxL := 2) (ret := none) (by decide) rfl (Nat.le_of_ble_eq_true rfl) ?_
  intro p_0 e_0 s m below meth c_0 A ls C hK hP hD hS hA hl
  obtain ⟨hx, hb, hr, hml, hown, hts, hlocks, hnm⟩ := id C
  have hown : s.vm.findClass "StepMachinesModel" = some m.cls := hown
  have ht : ∀ w ∈ TB, w.before _ s = true := fun w h => hts w (List.mem_cons_of_mem _ h)
  have hl : lv_has ls 2 [(0, .ref o), (1, .int (nI k))] := hl
  refine lv_aload_n hx hb dN_Mod_heap_0 rfl (lv_at hl 0 rfl) ?_
  refine va_get (D := D) (ci := 12) (v := .ref (q 13)) (C := RN_Mod) (T := FN_Mod) (N := 25) hx hb ht fN_Mod hown hK hP 0 rfl rfl 13 (by decide) (ht _ mw_985) (fun _ h9 => h9) rfl dN_Mod_heap_1 ?_
  refine lv_aload_n hx hb dN_Mod_heap_4 rfl (lv_at hl 0 rfl) ?_
  refine va_get (D := D) (ci := 12) (v := .int (nI hi)) (C := RN_Mod) (T := FN_Mod) (N := 25) hx hb ht fN_Mod hown hK hP 0 rfl rfl 19 (by decide) (ht _ mw_991) (fun _ h9 => h9) rfl dN_Mod_heap_5 ?_
  refine lv_iload_n hx hb dN_Mod_heap_8 rfl (lv_at hl 1 rfl) ?_
  refine xn_ast hx hb hK hP hD hS 1 0 rfl rfl dN_Mod_heap_9 (by omega) (by omega) (fun H locs hP hD hS => ?_)
  have hP : va_P D clN [(o, .inr (12, [.int (nI th), .int (nI n), .int (nI b), .ref (q 3), .ref (q 4), .ref (q 5), .ref (q 6), .ref (q 7), .int (nI len), .ref (q 9), .ref (q 10), .ref (q 11), .ref (q 12), .ref (q 13), .ref (q 14), .ref (q 15), .ref (q 16), .ref (q 17), .int (nI tr), .int (nI hi), .ref (q 20), .ref (q 21), .ref (q 22), .ref (q 23), .int (nI ma)])), (q 13, .inl (cI, 500, .inl (ni (un pl hi k)))), (q 14, .inl (cI, 500, .inl (ni pt)))] H := hP
  have hD : va_D A [(o, .inr (12, [.int (nI th), .int (nI n), .int (nI b), .ref (q 3), .ref (q 4), .ref (q 5), .ref (q 6), .ref (q 7), .int (nI len), .ref (q 9), .ref (q 10), .ref (q 11), .ref (q 12), .ref (q 13), .ref (q 14), .ref (q 15), .ref (q 16), .ref (q 17), .int (nI tr), .int (nI hi), .ref (q 20), .ref (q 21), .ref (q 22), .ref (q 23), .int (nI ma)])), (q 13, .inl (cI, 500, .inl (ni (un pl hi k)))), (q 14, .inl (cI, 500, .inl (ni pt)))] := hD
  refine lv_aload_n hx hb dN_Mod_heap_10 rfl (lv_at hl 0 rfl) ?_
  refine va_get (D := D) (ci := 12) (v := .ref (q 14)) (C := RN_Mod) (T := FN_Mod) (N := 25) hx hb ht fN_Mod hown hK hP 0 rfl rfl 14 (by decide) (ht _ mw_986) (fun _ h9 => h9) rfl dN_Mod_heap_11 ?_
  refine lv_aload_n hx hb dN_Mod_heap_14 rfl (lv_at hl 0 rfl) ?_
  refine va_get (D := D) (ci := 12) (v := .int (nI hi)) (C := RN_Mod) (T := FN_Mod) (N := 25) hx hb ht fN_Mod hown hK hP 0 rfl rfl 19 (by decide) (ht _ mw_991) (fun _ h9 => h9) rfl dN_Mod_heap_15 ?_
  refine lv_aload_n hx hb dN_Mod_heap_18 rfl (lv_at hl 0 rfl) ?_
  refine va_get (D := D) (ci := 12) (v := .int (nI tr)) (C := RN_Mod) (T := FN_Mod) (N := 25) hx hb ht fN_Mod hown hK hP 0 rfl rfl 18 (by decide) (ht _ mw_990) (fun _ h9 => h9) rfl dN_Mod_heap_19 ?_
  refine xn_ast hx hb hK hP hD hS 2 0 rfl rfl dN_Mod_heap_22 (by omega) (by omega) (fun H locs hP hD hS => ?_)
  have hP : va_P D clN [(o, .inr (12, [.int (nI th), .int (nI n), .int (nI b), .ref (q 3), .ref (q 4), .ref (q 5), .ref (q 6), .ref (q 7), .int (nI len), .ref (q 9), .ref (q 10), .ref (q 11), .ref (q 12), .ref (q 13), .ref (q 14), .ref (q 15), .ref (q 16), .ref (q 17), .int (nI tr), .int (nI hi), .ref (q 20), .ref (q 21), .ref (q 22), .ref (q 23), .int (nI ma)])), (q 13, .inl (cI, 500, .inl (ni (un pl hi k)))), (q 14, .inl (cI, 500, .inl (ni (un pt hi tr))))] H := hP
  have hD : va_D A [(o, .inr (12, [.int (nI th), .int (nI n), .int (nI b), .ref (q 3), .ref (q 4), .ref (q 5), .ref (q 6), .ref (q 7), .int (nI len), .ref (q 9), .ref (q 10), .ref (q 11), .ref (q 12), .ref (q 13), .ref (q 14), .ref (q 15), .ref (q 16), .ref (q 17), .int (nI tr), .int (nI hi), .ref (q 20), .ref (q 21), .ref (q 22), .ref (q 23), .int (nI ma)])), (q 13, .inl (cI, 500, .inl (ni (un pl hi k)))), (q 14, .inl (cI, 500, .inl (ni (un pt hi tr))))] := hD
  refine lv_aload_n hx hb dN_Mod_heap_23 rfl (lv_at hl 0 rfl) ?_
  refine lv_dup hx hb dN_Mod_heap_24 rfl ?_
  refine va_get (D := D) (ci := 12) (v := .int (nI hi)) (C := RN_Mod) (T := FN_Mod) (N := 25) hx hb ht fN_Mod hown hK hP 0 rfl rfl 19 (by decide) (ht _ mw_991) (fun _ h9 => h9) rfl dN_Mod_heap_25 ?_
  refine lv_iconst (v := (nI 1)) hx hb dN_Mod_heap_28 (by decide) ?_
  refine xn_add hx hb dN_Mod_heap_29 ?_
  refine va_put (D := D) (ci := 12) (v := .int (nI (hi + 1))) (ty := .int) (C := RN_Mod) (T := FN_Mod) (N := 25) hx hb ht fN_Mod tN_Mod oN_Mod nN_Mod hown hK hP hD hS 0 rfl rfl 19 (by decide) (ht _ mw_991) (fun _ h9 => h9) rfl (by decide +kernel) (rfl) (rfl) (Nat.le_of_ble_eq_true rfl) dN_Mod_heap_30 (fun H locs hP hD hS => ?_)
  have hP : va_P D clN [(o, .inr (12, [.int (nI th), .int (nI n), .int (nI b), .ref (q 3), .ref (q 4), .ref (q 5), .ref (q 6), .ref (q 7), .int (nI len), .ref (q 9), .ref (q 10), .ref (q 11), .ref (q 12), .ref (q 13), .ref (q 14), .ref (q 15), .ref (q 16), .ref (q 17), .int (nI tr), .int (nI (hi + 1)), .ref (q 20), .ref (q 21), .ref (q 22), .ref (q 23), .int (nI ma)])), (q 13, .inl (cI, 500, .inl (ni (un pl hi k)))), (q 14, .inl (cI, 500, .inl (ni (un pt hi tr))))] H := hP
  have hD : va_D A [(o, .inr (12, [.int (nI th), .int (nI n), .int (nI b), .ref (q 3), .ref (q 4), .ref (q 5), .ref (q 6), .ref (q 7), .int (nI len), .ref (q 9), .ref (q 10), .ref (q 11), .ref (q 12), .ref (q 13), .ref (q 14), .ref (q 15), .ref (q 16), .ref (q 17), .int (nI tr), .int (nI (hi + 1)), .ref (q 20), .ref (q 21), .ref (q 22), .ref (q 23), .int (nI ma)])), (q 13, .inl (cI, 500, .inl (ni (un pl hi k)))), (q 14, .inl (cI, 500, .inl (ni (un pt hi tr))))] := hD
  exact vx_vret C hK hP hD hS dN_Mod_heap_33 (Nat.le_of_ble_eq_true rfl) (Nat.le_of_ble_eq_true rfl) (rfl)
set_option maxHeartbeats 4000000 in
set_option maxRecDepth 100000 in
/-- undo(t) -/
theorem kMod_undo (l : Launch) (D : va_G) (cI cZ cJ : ClassId) (o : Nat) (q : Nat → Nat) (th n b len tr hi ma : Nat) (sv : Sv) (tp : Nat → Nat) (ol : Sv) (t : Nat) (htt : t ≤ tr) (htr : tr ≤ 300) (htp : ∀ i, i < tr → tp i < 20) : vx_Mv l yN_Mod_undo wN_Mod_undo ({ frames := 0, cells := 0, slots := 0, locals := 0 }) D clN (tyN cI cZ cJ) [.ref o, .int (nI t)] [(o, .inr (12, [.int (nI th), .int (nI n), .int (nI b), .ref (q 3), .ref (q 4), .ref (q 5), .ref (q 6), .ref (q 7), .int (nI len), .ref (q 9), .ref (q 10), .ref (q 11), .ref (q 12), .ref (q 13), .ref (q 14), .ref (q 15), .ref (q 16), .ref (q 17), .int (nI tr), .int (nI hi), .ref (q 20), .ref (q 21), .ref (q 22), .ref (q 23), .int (nI ma)])), (q 11, .inl (cI, 20, .inl sv)), (q 15, .inl (cI, 300, .inl (ni tp))), (q 16, .inl (cI, 300, .inl ol))] (fun w => w = [(o, .inr (12, [.int (nI th), .int (nI n), .int (nI b), .ref (q 3), .ref (q 4), .ref (q 5), .ref (q 6), .ref (q 7), .int (nI len), .ref (q 9), .ref (q 10), .ref (q 11), .ref (q 12), .ref (q 13), .ref (q 14), .ref (q 15), .ref (q 16), .ref (q 17), .int (nI t), .int (nI hi), .ref (q 20), .ref (q 21), .ref (q 22), .ref (q 23), .int (nI ma)])), (q 11, .inl (cI, 20, .inl ((unT tp ol t tr sv)))), (q 15, .inl (cI, 300, .inl (ni tp))), (q 16, .inl (cI, 300, .inl ol))]) := by
  refine vx_startV (cc := cN_Mod_undo) (maxL := 2) (ret := none) (by decide) rfl (Nat.le_of_ble_eq_true rfl) ?_
  intro p_0 e_0 s m below meth c_0 A ls C hK hP hD hS hA hl
  obtain ⟨hx, hb, hr, hml, hown, hts, hlocks, hnm⟩ := id C
  have hown : s.vm.findClass "StepMachinesModel" = some m.cls := hown
  have ht : ∀ w ∈ TB, w.before _ s = true := fun w h => hts w (List.mem_cons_of_mem _ h)
  have hl : lv_has ls 2 [(0, .ref o), (1, .int (nI t))] := hl
  refine vx_loop (α := Nat × Sv) (fun (vv : Nat × Sv) (H : Heap) (locs : List Loc) (ls : Array Slot) => match vv with | (t1, s1) => va_P D clN [(o, .inr (12, [.int (nI th), .int (nI n), .int (nI b), .ref (q 3), .ref (q 4), .ref (q 5), .ref (q 6), .ref (q 7), .int (nI len), .ref (q 9), .ref (q 10), .ref (q 11), .ref (q 12), .ref (q 13), .ref (q 14), .ref (q 15), .ref (q 16), .ref (q 17), .int (nI t1), .int (nI hi), .ref (q 20), .ref (q 21), .ref (q 22), .ref (q 23), .int (nI ma)])), (q 11, .inl (cI, 20, .inl s1)), (q 15, .inl (cI, 300, .inl (ni tp))), (q 16, .inl (cI, 300, .inl ol))] H ∧ va_D A [(o, .inr (12, [.int (nI th), .int (nI n), .int (nI b), .ref (q 3), .ref (q 4), .ref (q 5), .ref (q 6), .ref (q 7), .int (nI len), .ref (q 9), .ref (q 10), .ref (q 11), .ref (q 12), .ref (q 13), .ref (q 14), .ref (q 15), .ref (q 16), .ref (q 17), .int (nI t1), .int (nI hi), .ref (q 20), .ref (q 21), .ref (q 22), .ref (q 23), .int (nI ma)])), (q 11, .inl (cI, 20, .inl s1)), (q 15, .inl (cI, 300, .inl (ni tp))), (q 16, .inl (cI, 300, .inl ol))] ∧ va_S A s.heap H locs ∧ lv_has ls 2 [(0, .ref o), (1, .int (nI t))] ∧ (t ≤ t1 ∧ t1 ≤ tr ∧ unT tp ol t t1 s1 = unT tp ol t tr sv)) (fun (vv : Nat × Sv) => match vv with | (t1, s1) => t1) 0 [] ?_ (tr, sv) ⟨hP, hD, hS, lv_sub hl [0, 1] rfl, ⟨htt, Nat.le_refl _, rfl⟩⟩
  intro vv H locs ls hq ih_0_0
  obtain ⟨t1, s1⟩ := vv
  obtain ⟨hP, hD, hS, hl, hI⟩ := hq
  obtain ⟨ht1, ht2, hun⟩ := hI
  refine lv_aload_n hx hb dN_Mod_undo_0 rfl (lv_at hl 0 rfl) ?_
  refine va_get (D := D) (ci := 12) (v := .int (nI t1)) (C := RN_Mod) (T := FN_Mod) (N := 25) hx hb ht fN_Mod hown hK hP 0 rfl rfl 18 (by decide) (ht _ mw_990) (fun _ h9 => h9) rfl dN_Mod_undo_1 ?_
  refine lv_iload_n hx hb dN_Mod_undo_4 rfl (lv_at hl 1 rfl) ?_
  refine xn_le (tgt := 44) hx hb dN_Mod_undo_5 (by decide) (by omega) (by omega) (fun c_5_1 => ?_) (fun c_5_1 => ?_)
  · skip
    exact vx_vret C hK hP hD hS dN_Mod_undo_44 (Nat.le_of_ble_eq_true rfl) (Nat.le_of_ble_eq_true rfl) (by (obtain rfl : t1 = t := (by omega)); rw [← hun, unT_le (Nat.le_refl _)])
  · skip
    refine lv_aload_n hx hb dN_Mod_undo_8 rfl (lv_at hl 0 rfl) ?_
    refine lv_dup hx hb dN_Mod_undo_9 rfl ?_
    refine va_get (D := D) (ci := 12) (v := .int (nI t1)) (C := RN_Mod) (T := FN_Mod) (N := 25) hx hb ht fN_Mod hown hK hP 0 rfl rfl 18 (by decide) (ht _ mw_990) (fun _ h9 => h9) rfl dN_Mod_undo_10 ?_
    refine lv_iconst (v := (nI 1)) hx hb dN_Mod_undo_13 (by decide) ?_
    refine xn_sub hx hb dN_Mod_undo_14 (by omega) ?_
    refine va_put (D := D) (ci := 12) (v := .int (nI (t1 - 1))) (ty := .int) (C := RN_Mod) (T := FN_Mod) (N := 25) hx hb ht fN_Mod tN_Mod oN_Mod nN_Mod hown hK hP hD hS 0 rfl rfl 18 (by decide) (ht _ mw_990) (fun _ h9 => h9) rfl (by decide +kernel) (rfl) (rfl) (Nat.le_of_ble_eq_true rfl) dN_Mod_undo_15 (fun H locs hP hD hS => ?_)
    have hP : va_P D clN [(o, .inr (12, [.int (nI th), .int (nI n), .int (nI b), .ref (q 3), .ref (q 4), .ref (q 5), .ref (q 6), .ref (q 7), .int (nI len), .ref (q 9), .ref (q 10), .ref (q 11), .ref (q 12), .ref (q 13), .ref (q 14), .ref (q 15), .ref (q 16), .ref (q 17), .int (nI (t1 - 1)), .int (nI hi), .ref (q 20), .ref (q 21), .ref (q 22), .ref (q 23), .int (nI ma)])), (q 11, .inl (cI, 20, .inl s1)), (q 15, .inl (cI, 300, .inl (ni tp))), (q 16, .inl (cI, 300, .inl ol))] H := hP
    have hD : va_D A [(o, .inr (12, [.int (nI th), .int (nI n), .int (nI b), .ref (q 3), .ref (q 4), .ref (q 5), .ref (q 6), .ref (q 7), .int (nI len), .ref (q 9), .ref (q 10), .ref (q 11), .ref (q 12), .ref (q 13), .ref (q 14), .ref (q 15), .ref (q 16), .ref (q 17), .int (nI (t1 - 1)), .int (nI hi), .ref (q 20), .ref (q 21), .ref (q 22), .ref (q 23), .int (nI ma)])), (q 11, .inl (cI, 20, .inl s1)), (q 15, .inl (cI, 300, .inl (ni tp))), (q 16, .inl (cI, 300, .inl ol))] := hD
    refine lv_aload_n hx hb dN_Mod_undo_18 rfl (lv_at hl 0 rfl) ?_
    refine va_get (D := D) (ci := 12) (v := .ref (q 11)) (C := RN_Mod) (T := FN_Mod) (N := 25) hx hb ht fN_Mod hown hK hP 0 rfl rfl 11 (by decide) (ht _ mw_983) (fun _ h9 => h9) rfl dN_Mod_undo_19 ?_
    refine lv_aload_n hx hb dN_Mod_undo_22 rfl (lv_at hl 0 rfl) ?_
    refine va_get (D := D) (ci := 12) (v := .ref (q 15)) (C := RN_Mod) (T := FN_Mod) (N := 25) hx hb ht fN_Mod hown hK hP 0 rfl rfl 15 (by decide) (ht _ mw_987) (fun _ h9 => h9) rfl dN_Mod_undo_23 ?_
    refine lv_aload_n hx hb dN_Mod_undo_26 rfl (lv_at hl 0 rfl) ?_
    refine va_get (D := D) (ci := 12) (v := .int (nI (t1 - 1))) (C := RN_Mod) (T := FN_Mod) (N := 25) hx hb ht fN_Mod hown hK hP 0 rfl rfl 18 (by decide) (ht _ mw_990) (fun _ h9 => h9) rfl dN_Mod_undo_27 ?_
    refine xn_ald hx hb hK hP 2 0 rfl rfl dN_Mod_undo_30 (by omega) (by omega) ?_
    refine lv_aload_n hx hb dN_Mod_undo_31 rfl (lv_at hl 0 rfl) ?_
    refine va_get (D := D) (ci := 12) (v := .ref (q 16)) (C := RN_Mod) (T := FN_Mod) (N := 25) hx hb ht fN_Mod hown hK hP 0 rfl rfl 16 (by decide) (ht _ mw_988) (fun _ h9 => h9) rfl dN_Mod_undo_32 ?_
    refine lv_aload_n hx hb dN_Mod_undo_35 rfl (lv_at hl 0 rfl) ?_
    refine va_get (D := D) (ci := 12) (v := .int (nI (t1 - 1))) (C := RN_Mod) (T := FN_Mod) (N := 25) hx hb ht fN_Mod hown hK hP 0 rfl rfl 18 (by decide) (ht _ mw_990) (fun _ h9 => h9) rfl dN_Mod_undo_36 ?_
    refine xi_ald hx hb hK hP 3 0 rfl rfl dN_Mod_undo_39 (by omega) (by omega) ?_
    refine xi_ast hx hb hK hP hD hS 1 0 rfl rfl dN_Mod_undo_40 (htp _ (by omega)) (by omega) (fun H locs hP hD hS => ?_)
    have hP : va_P D clN [(o, .inr (12, [.int (nI th), .int (nI n), .int (nI b), .ref (q 3), .ref (q 4), .ref (q 5), .ref (q 6), .ref (q 7), .int (nI len), .ref (q 9), .ref (q 10), .ref (q 11), .ref (q 12), .ref (q 13), .ref (q 14), .ref (q 15), .ref (q 16), .ref (q 17), .int (nI (t1 - 1)), .int (nI hi), .ref (q 20), .ref (q 21), .ref (q 22), .ref (q 23), .int (nI ma)])), (q 11, .inl (cI, 20, .inl ((upd s1 (tp (t1 - 1)) (ol (t1 - 1)))))), (q 15, .inl (cI, 300, .inl (ni tp))), (q 16, .inl (cI, 300, .inl ol))] H := hP
    have hD : va_D A [(o, .inr (12, [.int (nI th), .int (nI n), .int (nI b), .ref (q 3), .ref (q 4), .ref (q 5), .ref (q 6), .ref (q 7), .int (nI len), .ref (q 9), .ref (q 10), .ref (q 11), .ref (q 12), .ref (q 13), .ref (q 14), .ref (q 15), .ref (q 16), .ref (q 17), .int (nI (t1 - 1)), .int (nI hi), .ref (q 20), .ref (q 21), .ref (q 22), .ref (q 23), .int (nI ma)])), (q 11, .inl (cI, 20, .inl ((upd s1 (tp (t1 - 1)) (ol (t1 - 1)))))), (q 15, .inl (cI, 300, .inl (ni tp))), (q 16, .inl (cI, 300, .inl ol))] := hD
    refine lv_goto (tgt := 0) hx hb dN_Mod_undo_41 (by decide) ?_
    exact ih_0_0 (t1 - 1, upd s1 (tp (t1 - 1)) (ol (t1 - 1))) _ _ _ ⟨hP, hD, hS, lv_sub hl [0, 1] rfl, ⟨by omega, by omega, by rw [← hun]; obtain ⟨t2, rfl⟩ : ∃ t2, t1 = t2 + 1 := ⟨t1 - 1, by omega⟩; exact (unT_step (by omega)).symm⟩⟩ (show ((t1 - 1)) < (t1) from by omega)
