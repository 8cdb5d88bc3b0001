set_option maxHeartbeats 4000000 in
set_option maxRecDepth 100000 in
/-- isWaiting(k) -/
theorem kMod_isWaiting (l : Launch) (D : va_G) (cI cZ cJ : ClassId) (o : Nat) (q : Nat → Nat) (th n b len tr hi ma : Nat) (pl : Nat → Nat) (k : Nat) (hhi : hi ≤ 500) (hk : k < 200) (hpl : ∀ j, j < hi → pl j < 200) : vx_Mi l yN_Mod_isWaiting wN_Mod_isWaiting ({ frames := 0, cells := 0, slots := 0, locals := 0 }) D clN (tyN cI cZ cJ) [.ref o, .int (nI k)] [(o, .inr (12, [.int (nI th), .int (nI n), .int (nI b), .ref (q 3), .ref (q 4), .ref (q 5), .ref (q 6), .ref (q 7), .int (nI len), .ref (q 9), .ref (q 10), .ref (q 11), .ref (q 12), .ref (q 13), .ref (q 14), .ref (q 15), .ref (q 16), .ref (q 17), .int (nI tr), .int (nI hi), .ref (q 20), .ref (q 21), .ref (q 22), .ref (q 23), .int (nI ma)])), (q 13, .inl (cI, 500, .inl (ni pl)))] (fun r w => r = zi (wtB pl hi k) ∧ w = [(o, .inr (12, [.int (nI th), .int (nI n), .int (nI b), .ref (q 3), .ref (q 4), .ref (q 5), .ref (q 6), .ref (q 7), .int (nI len), .ref (q 9), .ref (q 10), .ref (q 11), .ref (q 12), .ref (q 13), .ref (q 14), .ref (q 15), .ref (q 16), .ref (q 17), .int (nI tr), .int (nI hi), .ref (q 20), .ref (q 21), .ref (q 22), .ref (q 23), .int (nI ma)])), (q 13, .inl (cI, 500, .inl (ni pl)))]) := by
  refine vx_startI (cc := cN_Mod_isWaiting) (maxL := 4) (ret := (some .boolean)) (by decide) rfl (Nat.le_of_ble_eq_true rfl) ?_
  intro p_0 e_0 s m below meth c_0 A ls C hK hP hD hS hA hl
  obtain ⟨hx, hb, hr, hml, hown, hts, hlocks, hnm⟩ := id C
  have hown : s.vm.findClass "StepMachinesModel" = some m.cls := hown
  have ht : ∀ w ∈ TB, w.before _ s = true := fun w h => hts w (List.mem_cons_of_mem _ h)
  have hl : lv_has ls 4 [(0, .ref o), (1, .int (nI k))] := hl
  refine lv_iconst (v := (zi false)) hx hb dN_Mod_isWaiting_0 (by decide) ?_
  refine lv_istore_n (lv' := [(2, .int (zi false)), (0, .ref o), (1, .int (nI k))]) hx hb dN_Mod_isWaiting_1 rfl hl (by decide) rfl (fun ls hl => ?_)
  refine lv_iconst (v := (nI 0)) hx hb dN_Mod_isWaiting_2 (by decide) ?_
  refine lv_istore_n (lv' := [(3, .int (nI 0)), (2, .int (zi false)), (0, .ref o), (1, .int (nI k))]) hx hb dN_Mod_isWaiting_3 rfl hl (by decide) rfl (fun ls hl => ?_)
  refine vx_loop (α := Bool × Nat) (fun (vv : Bool × Nat) (H : Heap) (locs : List Loc) (ls : Array Slot) => match vv with | (is, j) => va_P D clN [(o, .inr (12, [.int (nI th), .int (nI n), .int (nI b), .ref (q 3), .ref (q 4), .ref (q 5), .ref (q 6), .ref (q 7), .int (nI len), .ref (q 9), .ref (q 10), .ref (q 11), .ref (q 12), .ref (q 13), .ref (q 14), .ref (q 15), .ref (q 16), .ref (q 17), .int (nI tr), .int (nI hi), .ref (q 20), .ref (q 21), .ref (q 22), .ref (q 23), .int (nI ma)])), (q 13, .inl (cI, 500, .inl (ni pl)))] H ∧ va_D A [(o, .inr (12, [.int (nI th), .int (nI n), .int (nI b), .ref (q 3), .ref (q 4), .ref (q 5), .ref (q 6), .ref (q 7), .int (nI len), .ref (q 9), .ref (q 10), .ref (q 11), .ref (q 12), .ref (q 13), .ref (q 14), .ref (q 15), .ref (q 16), .ref (q 17), .int (nI tr), .int (nI hi), .ref (q 20), .ref (q 21), .ref (q 22), .ref (q 23), .int (nI ma)])), (q 13, .inl (cI, 500, .inl (ni pl)))] ∧ va_S A s.heap H locs ∧ lv_has ls 4 [(0, .ref o), (1, .int (nI k)), (2, .int (zi is)), (3, .int (nI j))] ∧ (j ≤ hi ∧ is = wtB pl j k)) (fun (vv : Bool × Nat) => match vv with | (is, j) => hi - j) 4 [] ?_ (false, 0) ⟨hP, hD, hS, lv_sub hl [2, 3, 1, 0] rfl, ⟨by omega, rfl⟩⟩
  intro vv H locs ls hq ih_4_0
  obtain ⟨is, j⟩ := vv
  obtain ⟨hP, hD, hS, hl, hI⟩ := hq
  obtain ⟨hjh, his⟩ := hI
  refine lv_iload_n hx hb dN_Mod_isWaiting_4 rfl (lv_at hl 3 rfl) ?_
  refine lv_aload_n hx hb dN_Mod_isWaiting_5 rfl (lv_at hl 0 rfl) ?_
  refine va_get (D := D) (ci := 12) (v := .int (nI hi)) (C := RN_Mod) (T := FN_Mod) (N := 25) hx hb ht fN_Mod hown hK hP 0 rfl rfl 19 (by decide) (ht _ mw_991) (fun _ h9 => h9) rfl dN_Mod_isWaiting_6 ?_
  refine xn_ge (tgt := 38) hx hb dN_Mod_isWaiting_9 (by decide) (by omega) (by omega) (fun c_9_1 => ?_) (fun c_9_1 => ?_)
  · skip
    refine lv_iload_n hx hb dN_Mod_isWaiting_38 rfl (lv_at hl 2 rfl) ?_
    exact vx_zret C hK hP hD hS dN_Mod_isWaiting_39 (Nat.le_of_ble_eq_true rfl) (Nat.le_of_ble_eq_true rfl) (zi_nar2 _) (⟨by rw [his, show j = hi by omega], rfl⟩)
  · skip
    refine vx_join (α := Bool) (fun j3 => j3 = (is || (pl j == k))) (fun j3 => F0 m 31 ls [.int (zi j3)]) (fun j3 hj3 => ?_) (fun Jj3 => ?_)
    · skip
      have hj_is := hj3
      refine lv_istore_n (lv' := [(2, .int (zi j3)), (0, .ref o), (1, .int (nI k)), (3, .int (nI j))]) hx hb dN_Mod_isWaiting_31 rfl hl (by decide) rfl (fun ls hl => ?_)
      refine lv_iinc (v := (nI (j + 1))) (lv' := [(3, .int (nI (j + 1))), (2, .int (zi j3)), (0, .ref o), (1, .int (nI k))]) hx hb dN_Mod_isWaiting_32 hl (k := 3) rfl (nI_1 _) (by decide) rfl (fun ls hl => ?_)
      refine lv_goto (tgt := 4) hx hb dN_Mod_isWaiting_35 (by decide) ?_
      exact ih_4_0 (j3, j + 1) _ _ _ ⟨hP, hD, hS, lv_sub hl [2, 3, 1, 0] rfl, ⟨by omega, by rw [wtB_s, ← his]; exact hj_is⟩⟩ (show (hi - (j + 1)) < (hi - j) from by omega)
    · skip
      refine lv_iload_n hx hb dN_Mod_isWaiting_12 rfl (lv_at hl 2 rfl) ?_
      refine xz_ne0 (tgt := 26) hx hb dN_Mod_isWaiting_13 (by decide) (fun c_13_3 => ?_) (fun c_13_3 => ?_)
      · skip
        refine lv_iconst (v := (zi true)) hx hb dN_Mod_isWaiting_26 (by decide) ?_
        refine lv_goto (tgt := 31) hx hb dN_Mod_isWaiting_27 (by decide) ?_
        exact Jj3 (true) (by simp [c_9_1, c_13_3])
      · skip
        refine lv_aload_n hx hb dN_Mod_isWaiting_16 rfl (lv_at hl 0 rfl) ?_
        refine va_get (D := D) (ci := 12) (v := .ref (q 13)) (C := RN_Mod) (T := FN_Mod) (N := 25) hx hb ht fN_Mod hown hK hP 0 rfl rfl 13 (by decide) (ht _ mw_985) (fun _ h9 => h9) rfl dN_Mod_isWaiting_17 ?_
        refine lv_iload_n hx hb dN_Mod_isWaiting_20 rfl (lv_at hl 3 rfl) ?_
        refine xn_ald hx hb hK hP 1 0 rfl rfl dN_Mod_isWaiting_21 (by omega) (by omega) ?_
        refine lv_iload_n hx hb dN_Mod_isWaiting_22 rfl (lv_at hl 1 rfl) ?_
        refine xn_ne (tgt := 30) hx hb dN_Mod_isWaiting_23 (by decide) (by have := hpl j (by omega); omega) (by omega) (fun c_23_4 => ?_) (fun c_23_4 => ?_)
        · skip
          refine lv_iconst (v := (zi false)) hx hb dN_Mod_isWaiting_30 (by decide) ?_
          exact Jj3 (false) (by simp [c_9_1, c_13_3, c_23_4])
        · skip
          refine lv_iconst (v := (zi true)) hx hb dN_Mod_isWaiting_26 (by decide) ?_
          refine lv_goto (tgt := 31) hx hb dN_Mod_isWaiting_27 (by decide) ?_
          exact Jj3 (true) (by simp [c_9_1, c_13_3, c_23_4])
set_option maxHeartbeats 4000000 in
set_option maxRecDepth 100000 in
/-- hold(k, s, a) -/
theorem kMod_hold (l : Launch) (D : va_G) (cI cZ cJ : ClassId) (o : Nat) (q : Nat → Nat) (th n b len tr hi ma : Nat) (pl bs ba : Nat → Nat) (k s1 a1 : Nat) (hhi : hi < 500) (hk : k < 200) : vx_Mv l yN_Mod_hold wN_Mod_hold ({ frames := 0, cells := 0, slots := 0, locals := 0 }) D clN (tyN cI cZ cJ) [.ref o, .int (nI k), .int (nI s1), .int (nI a1)] [(o, .inr (12, [.int (nI th), .int (nI n), .int (nI b), .ref (q 3), .ref (q 4), .ref (q 5), .ref (q 6), .ref (q 7), .int (nI len), .ref (q 9), .ref (q 10), .ref (q 11), .ref (q 12), .ref (q 13), .ref (q 14), .ref (q 15), .ref (q 16), .ref (q 17), .int (nI tr), .int (nI hi), .ref (q 20), .ref (q 21), .ref (q 22), .ref (q 23), .int (nI ma)])), (q 13, .inl (cI, 500, .inl (ni pl))), (q 21, .inl (cI, 200, .inl (ni bs))), (q 22, .inl (cI, 200, .inl (ni ba)))] (fun w => w = [(o, .inr (12, [.int (nI th), .int (nI n), .int (nI b), .ref (q 3), .ref (q 4), .ref (q 5), .ref (q 6), .ref (q 7), .int (nI len), .ref (q 9), .ref (q 10), .ref (q 11), .ref (q 12), .ref (q 13), .ref (q 14), .ref (q 15), .ref (q 16), .ref (q 17), .int (nI tr), .int (nI (hi + 1)), .ref (q 20), .ref (q 21), .ref (q 22), .ref (q 23), .int (nI ma)])), (q 13, .inl (cI, 500, .inl (ni (un pl hi k)))), (q 21, .inl (cI, 200, .inl (ni (un bs k s1)))), (q 22, .inl (cI, 200, .inl (ni (un ba k a1))))]) := by
  refine vx_startV (cc := cN_Mod_hold) (maxL := 4) (ret := none) (by decide) rfl (Nat.le_of_ble_eq_true rfl) ?_
  intro p_0 e_0 s m below meth c_0 A ls C hK hP hD hS hA hl
  obtain ⟨hx, hb, hr, hml, hown, hts, hlocks, hnm⟩ := id C
  have hown : s.vm.findClass "StepMachinesModel" = some m.cls := hown
  have ht : ∀ w ∈ TB, w.before _ s = true := fun w h => hts w (List.mem_cons_of_mem _ h)
  have hl : lv_has ls 4 [(0, .ref o), (1, .int (nI k)), (2, .int (nI s1)), (3, .int (nI a1))] := hl
  refine lv_aload_n hx hb dN_Mod_hold_0 rfl (lv_at hl 0 rfl) ?_
  refine va_get (D := D) (ci := 12) (v := .ref (q 13)) (C := RN_Mod) (T := FN_Mod) (N := 25) hx hb ht fN_Mod hown hK hP 0 rfl rfl 13 (by decide) (ht _ mw_985) (fun _ h9 => h9) rfl dN_Mod_hold_1 ?_
  refine lv_aload_n hx hb dN_Mod_hold_4 rfl (lv_at hl 0 rfl) ?_
  refine va_get (D := D) (ci := 12) (v := .int (nI hi)) (C := RN_Mod) (T := FN_Mod) (N := 25) hx hb ht fN_Mod hown hK hP 0 rfl rfl 19 (by decide) (ht _ mw_991) (fun _ h9 => h9) rfl dN_Mod_hold_5 ?_
  refine lv_iload_n hx hb dN_Mod_hold_8 rfl (lv_at hl 1 rfl) ?_
  refine xn_ast hx hb hK hP hD hS 1 0 rfl rfl dN_Mod_hold_9 (by omega) (by omega) (fun H locs hP hD hS => ?_)
  have hP : va_P D clN [(o, .inr (12, [.int (nI th), .int (nI n), .int (nI b), .ref (q 3), .ref (q 4), .ref (q 5), .ref (q 6), .ref (q 7), .int (nI len), .ref (q 9), .ref (q 10), .ref (q 11), .ref (q 12), .ref (q 13), .ref (q 14), .ref (q 15), .ref (q 16), .ref (q 17), .int (nI tr), .int (nI hi), .ref (q 20), .ref (q 21), .ref (q 22), .ref (q 23), .int (nI ma)])), (q 13, .inl (cI, 500, .inl (ni (un pl hi k)))), (q 21, .inl (cI, 200, .inl (ni bs))), (q 22, .inl (cI, 200, .inl (ni ba)))] H := hP
  have hD : va_D A [(o, .inr (12, [.int (nI th), .int (nI n), .int (nI b), .ref (q 3), .ref (q 4), .ref (q 5), .ref (q 6), .ref (q 7), .int (nI len), .ref (q 9), .ref (q 10), .ref (q 11), .ref (q 12), .ref (q 13), .ref (q 14), .ref (q 15), .ref (q 16), .ref (q 17), .int (nI tr), .int (nI hi), .ref (q 20), .ref (q 21), .ref (q 22), .ref (q 23), .int (nI ma)])), (q 13, .inl (cI, 500, .inl (ni (un pl hi k)))), (q 21, .inl (cI, 200, .inl (ni bs))), (q 22, .inl (cI, 200, .inl (ni ba)))] := hD
  refine lv_aload_n hx hb dN_Mod_hold_10 rfl (lv_at hl 0 rfl) ?_
  refine lv_dup hx hb dN_Mod_hold_11 rfl ?_
  refine va_get (D := D) (ci := 12) (v := .int (nI hi)) (C := RN_Mod) (T := FN_Mod) (N := 25) hx hb ht fN_Mod hown hK hP 0 rfl rfl 19 (by decide) (ht _ mw_991) (fun _ h9 => h9) rfl dN_Mod_hold_12 ?_
  refine lv_iconst (v := (nI 1)) hx hb dN_Mod_hold_15 (by decide) ?_
  refine xn_add hx hb dN_Mod_hold_16 ?_
  refine va_put (D := D) (ci := 12) (v := .int (nI (hi + 1))) (ty := .int) (C := RN_Mod) (T := FN_Mod) (N := 25) hx hb ht fN_Mod tN_Mod oN_Mod nN_Mod hown hK hP hD hS 0 rfl rfl 19 (by decide) (ht _ mw_991) (fun _ h9 => h9) rfl (by decide +kernel) (rfl) (rfl) (Nat.le_of_ble_eq_true rfl) dN_Mod_hold_17 (fun H locs hP hD hS => ?_)
  have hP : va_P D clN [(o, .inr (12, [.int (nI th), .int (nI n), .int (nI b), .ref (q 3), .ref (q 4), .ref (q 5), .ref (q 6), .ref (q 7), .int (nI len), .ref (q 9), .ref (q 10), .ref (q 11), .ref (q 12), .ref (q 13), .ref (q 14), .ref (q 15), .ref (q 16), .ref (q 17), .int (nI tr), .int (nI (hi + 1)), .ref (q 20), .ref (q 21), .ref (q 22), .ref (q 23), .int (nI ma)])), (q 13, .inl (cI, 500, .inl (ni (un pl hi k)))), (q 21, .inl (cI, 200, .inl (ni bs))), (q 22, .inl (cI, 200, .inl (ni ba)))] H := hP
  have hD : va_D A [(o, .inr (12, [.int (nI th), .int (nI n), .int (nI b), .ref (q 3), .ref (q 4), .ref (q 5), .ref (q 6), .ref (q 7), .int (nI len), .ref (q 9), .ref (q 10), .ref (q 11), .ref (q 12), .ref (q 13), .ref (q 14), .ref (q 15), .ref (q 16), .ref (q 17), .int (nI tr), .int (nI (hi + 1)), .ref (q 20), .ref (q 21), .ref (q 22), .ref (q 23), .int (nI ma)])), (q 13, .inl (cI, 500, .inl (ni (un pl hi k)))), (q 21, .inl (cI, 200, .inl (ni bs))), (q 22, .inl (cI, 200, .inl (ni ba)))] := hD
  refine lv_aload_n hx hb dN_Mod_hold_20 rfl (lv_at hl 0 rfl) ?_
  refine va_get (D := D) (ci := 12) (v := .ref (q 21)) (C := RN_Mod) (T := FN_Mod) (N := 25) hx hb ht fN_Mod hown hK hP 0 rfl rfl 21 (by decide) (ht _ mw_993) (fun _ h9 => h9) rfl dN_Mod_hold_21 ?_
  refine lv_iload_n hx hb dN_Mod_hold_24 rfl (lv_at hl 1 rfl) ?_
  refine lv_iload_n hx hb dN_Mod_hold_25 rfl (lv_at hl 2 rfl) ?_
  refine xn_ast hx hb hK hP hD hS 2 0 rfl rfl dN_Mod_hold_26 (by omega) (by omega) (fun H locs hP hD hS => ?_)
  have hP : va_P D clN [(o, .inr (12, [.int (nI th), .int (nI n), .int (nI b), .ref (q 3), .ref (q 4), .ref (q 5), .ref (q 6), .ref (q 7), .int (nI len), .ref (q 9), .ref (q 10), .ref (q 11), .ref (q 12), .ref (q 13), .ref (q 14), .ref (q 15), .ref (q 16), .ref (q 17), .int (nI tr), .int (nI (hi + 1)), .ref (q 20), .ref (q 21), .ref (q 22), .ref (q 23), .int (nI ma)])), (q 13, .inl (cI, 500, .inl (ni (un pl hi k)))), (q 21, .inl (cI, 200, .inl (ni (un bs k s1)))), (q 22, .inl (cI, 200, .inl (ni ba)))] H := hP
  have hD : va_D A [(o, .inr (12, [.int (nI th), .int (nI n), .int (nI b), .ref (q 3), .ref (q 4), .ref (q 5), .ref (q 6), .ref (q 7), .int (nI len), .ref (q 9), .ref (q 10), .ref (q 11), .ref (q 12), .ref (q 13), .ref (q 14), .ref (q 15), .ref (q 16), .ref (q 17), .int (nI tr), .int (nI (hi + 1)), .ref (q 20), .ref (q 21), .ref (q 22), .ref (q 23), .int (nI ma)])), (q 13, .inl (cI, 500, .inl (ni (un pl hi k)))), (q 21, .inl (cI, 200, .inl (ni (un bs k s1)))), (q 22, .inl (cI, 200, .inl (ni ba)))] := hD
  refine lv_aload_n hx hb dN_Mod_hold_27 rfl (lv_at hl 0 rfl) ?_
  refine va_get (D := D) (ci := 12) (v := .ref (q 22)) (C := RN_Mod) (T := FN_Mod) (N := 25) hx hb ht fN_Mod hown hK hP 0 rfl rfl 22 (by decide) (ht _ mw_994) (fun _ h9 => h9) rfl dN_Mod_hold_28 ?_
  refine lv_iload_n hx hb dN_Mod_hold_31 rfl (lv_at hl 1 rfl) ?_
  refine lv_iload_n hx hb dN_Mod_hold_32 rfl (lv_at hl 3 rfl) ?_
  refine xn_ast hx hb hK hP hD hS 3 0 rfl rfl dN_Mod_hold_33 (by omega) (by omega) (fun H locs hP hD hS => ?_)
  have hP : va_P D clN [(o, .inr (12, [.int (nI th), .int (nI n), .int (nI b), .ref (q 3), .ref (q 4), .ref (q 5), .ref (q 6), .ref (q 7), .int (nI len), .ref (q 9), .ref (q 10), .ref (q 11), .ref (q 12), .ref (q 13), .ref (q 14), .ref (q 15), .ref (q 16), .ref (q 17), .int (nI tr), .int (nI (hi + 1)), .ref (q 20), .ref (q 21), .ref (q 22), .ref (q 23), .int (nI ma)])), (q 13, .inl (cI, 500, .inl (ni (un pl hi k)))), (q 21, .inl (cI, 200, .inl (ni (un bs k s1)))), (q 22, .inl (cI, 200, .inl (ni (un ba k a1))))] H := hP
  have hD : va_D A [(o, .inr (12, [.int (nI th), .int (nI n), .int (nI b), .ref (q 3), .ref (q 4), .ref (q 5), .ref (q 6), .ref (q 7), .int (nI len), .ref (q 9), .ref (q 10), .ref (q 11), .ref (q 12), .ref (q 13), .ref (q 14), .ref (q 15), .ref (q 16), .ref (q 17), .int (nI tr), .int (nI (hi + 1)), .ref (q 20), .ref (q 21), .ref (q 22), .ref (q 23), .int (nI ma)])), (q 13, .inl (cI, 500, .inl (ni (un pl hi k)))), (q 21, .inl (cI, 200, .inl (ni (un bs k s1)))), (q 22, .inl (cI, 200, .inl (ni (un ba k a1))))] := hD
  exact vx_vret C hK hP hD hS dN_Mod_hold_34 (Nat.le_of_ble_eq_true rfl) (Nat.le_of_ble_eq_true rfl) (rfl)
