set_option maxHeartbeats 4000000 in
set_option maxRecDepth 100000 in
/-- put, refused -/
theorem kMod_put_bad (l : Launch) (D : va_G) (cI cZ cJ : ClassId) (o : Nat) (q : Nat → Nat) (th n b len tr hi ma : Nat) (v : Int64) (x : Int32) (hbad : putB len x = false) : vx_Mi l yN_Mod_put wN_Mod_put ({ frames := 0, cells := 0, slots := 0, locals := 0 }) D clN (tyN cI cZ cJ) [.ref o, .long (v), .int x] [(o, .inr (12, [.int (nI th), .int (nI n), .int (nI b), .ref (q 3), .ref (q 4), .ref (q 5), .ref (q 6), .ref (q 7), .int (nI len), .ref (q 9), .ref (q 10), .ref (q 11), .ref (q 12), .ref (q 13), .ref (q 14), .ref (q 15), .ref (q 16), .ref (q 17), .int (nI tr), .int (nI hi), .ref (q 20), .ref (q 21), .ref (q 22), .ref (q 23), .int (nI ma)]))] (fun r w => r = zi false ∧ w = [(o, .inr (12, [.int (nI 0), .int (nI n), .int (nI b), .ref (q 3), .ref (q 4), .ref (q 5), .ref (q 6), .ref (q 7), .int (nI len), .ref (q 9), .ref (q 10), .ref (q 11), .ref (q 12), .ref (q 13), .ref (q 14), .ref (q 15), .ref (q 16), .ref (q 17), .int (nI tr), .int (nI hi), .ref (q 20), .ref (q 21), .ref (q 22), .ref (q 23), .int (nI ma)]))]) := by
  refine vx_startI (cc := cN_Mod_put) (maxL := 5) (ret := (some .boolean)) (by decide) rfl (Nat.le_of_ble_eq_true rfl) ?_
  intro p_0 e_0 s m below meth c_0 A ls C hK hP hD hS hA hl
  obtain ⟨hx, hb, hr, hml, hown, hts, hlocks, hnm⟩ := id C
  have hown : s.vm.findClass "StepMachinesModel" = some m.cls := hown
  have ht : ∀ w ∈ TB, w.before _ s = true := fun w h => hts w (List.mem_cons_of_mem _ h)
  have hl : lv_has ls 5 [(0, .ref o), (1, .long (v)), (3, .int x)] := hl
  refine lv_aload_n hx hb dN_Mod_put_0 rfl (lv_at hl 0 rfl) ?_
  refine lv_iconst (v := (nI 0)) hx hb dN_Mod_put_1 (by decide) ?_
  refine va_put (D := D) (ci := 12) (v := .int (nI 0)) (ty := .int) (C := RN_Mod) (T := FN_Mod) (N := 25) hx hb ht fN_Mod tN_Mod oN_Mod nN_Mod hown hK hP hD hS 0 rfl rfl 0 (by decide) (ht _ mw_972) (fun _ h9 => h9) rfl (by decide +kernel) (rfl) (rfl) (Nat.le_of_ble_eq_true rfl) dN_Mod_put_2 (fun H locs hP hD hS => ?_)
  have hP : va_P D clN [(o, .inr (12, [.int (nI 0), .int (nI n), .int (nI b), .ref (q 3), .ref (q 4), .ref (q 5), .ref (q 6), .ref (q 7), .int (nI len), .ref (q 9), .ref (q 10), .ref (q 11), .ref (q 12), .ref (q 13), .ref (q 14), .ref (q 15), .ref (q 16), .ref (q 17), .int (nI tr), .int (nI hi), .ref (q 20), .ref (q 21), .ref (q 22), .ref (q 23), .int (nI ma)]))] H := hP
  have hD : va_D A [(o, .inr (12, [.int (nI 0), .int (nI n), .int (nI b), .ref (q 3), .ref (q 4), .ref (q 5), .ref (q 6), .ref (q 7), .int (nI len), .ref (q 9), .ref (q 10), .ref (q 11), .ref (q 12), .ref (q 13), .ref (q 14), .ref (q 15), .ref (q 16), .ref (q 17), .int (nI tr), .int (nI hi), .ref (q 20), .ref (q 21), .ref (q 22), .ref (q 23), .int (nI ma)]))] := hD
  refine lv_iload_n hx hb dN_Mod_put_5 rfl (lv_at hl 2 rfl) ?_
  refine lv_if_lt (tgt := 27) hx hb dN_Mod_put_6 (by decide) (fun c_6_0 => ?_) (fun c_6_0 => ?_)
  · skip
    refine lv_iconst (v := (nI 0)) hx hb dN_Mod_put_27 (by decide) ?_
    refine xn_top (y := zi false) rfl ?_
    exact vx_zret C hK hP hD hS dN_Mod_put_28 (Nat.le_of_ble_eq_true rfl) (Nat.le_of_ble_eq_true rfl) (zi_nar2 _) (⟨rfl, rfl⟩)
  · skip
    refine lv_iload_n hx hb dN_Mod_put_9 rfl (lv_at hl 2 rfl) ?_
    refine lv_bipush (v := (nI 8)) hx hb dN_Mod_put_10 (by decide) ?_
    refine lv_icmp_gt (tgt := 27) hx hb dN_Mod_put_12 (by decide) (fun c_12_1 => ?_) (fun c_12_1 => ?_)
    · skip
      refine lv_iconst (v := (nI 0)) hx hb dN_Mod_put_27 (by decide) ?_
      refine xn_top (y := zi false) rfl ?_
      exact vx_zret C hK hP hD hS dN_Mod_put_28 (Nat.le_of_ble_eq_true rfl) (Nat.le_of_ble_eq_true rfl) (zi_nar2 _) (⟨rfl, rfl⟩)
    · skip
      refine lv_aload_n hx hb dN_Mod_put_15 rfl (lv_at hl 0 rfl) ?_
      refine va_get (D := D) (ci := 12) (v := .int (nI len)) (C := RN_Mod) (T := FN_Mod) (N := 25) hx hb ht fN_Mod hown hK hP 0 rfl rfl 8 (by decide) (ht _ mw_980) (fun _ h9 => h9) rfl dN_Mod_put_16 ?_
      refine lv_iload_n hx hb dN_Mod_put_19 rfl (lv_at hl 2 rfl) ?_
      refine lv_iadd hx hb dN_Mod_put_20 ?_
      refine lv_sipush (v := (nI 200)) hx hb dN_Mod_put_21 (by decide) ?_
      refine lv_icmp_le (tgt := 29) hx hb dN_Mod_put_24 (by decide) (fun c_24_2 => ?_) (fun c_24_2 => ?_)
      · skip
        exact absurd hbad (by simp only [putB, decide_eq_false c_6_0, decide_eq_false c_12_1, decide_eq_true c_24_2, Bool.not_true, Bool.not_false, Bool.true_and, Bool.false_and, Bool.true_or, Bool.false_or, Bool.or_true, Bool.or_false, Bool.and_true, Bool.and_false]; decide)
      · skip
        refine lv_iconst (v := (nI 0)) hx hb dN_Mod_put_27 (by decide) ?_
        refine xn_top (y := zi false) rfl ?_
        exact vx_zret C hK hP hD hS dN_Mod_put_28 (Nat.le_of_ble_eq_true rfl) (Nat.le_of_ble_eq_true rfl) (zi_nar2 _) (⟨rfl, rfl⟩)
set_option maxHeartbeats 4000000 in
set_option maxRecDepth 100000 in
/-- put, done -/
theorem kMod_put (l : Launch) (D : va_G) (cI cZ cJ : ClassId) (o : Nat) (q : Nat → Nat) (th n b len tr hi ma : Nat) (u : Nat → Nat) (v : Int64) (m1 : Nat) (hm : m1 ≤ 8) (hlm : len + m1 ≤ 200) : vx_Mi l yN_Mod_put wN_Mod_put ({ frames := 0, cells := 0, slots := 0, locals := 0 }) D clN (tyN cI cZ cJ) [.ref o, .long (v), .int (nI m1)] [(o, .inr (12, [.int (nI th), .int (nI n), .int (nI b), .ref (q 3), .ref (q 4), .ref (q 5), .ref (q 6), .ref (q 7), .int (nI len), .ref (q 9), .ref (q 10), .ref (q 11), .ref (q 12), .ref (q 13), .ref (q 14), .ref (q 15), .ref (q 16), .ref (q 17), .int (nI tr), .int (nI hi), .ref (q 20), .ref (q 21), .ref (q 22), .ref (q 23), .int (nI ma)])), (q 7, .inl (cI, 200, .inl (ni u)))] (fun r w => r = zi true ∧ w = [(o, .inr (12, [.int (nI 0), .int (nI n), .int (nI b), .ref (q 3), .ref (q 4), .ref (q 5), .ref (q 6), .ref (q 7), .int (nI (len + m1)), .ref (q 9), .ref (q 10), .ref (q 11), .ref (q 12), .ref (q 13), .ref (q 14), .ref (q 15), .ref (q 16), .ref (q 17), .int (nI tr), .int (nI hi), .ref (q 20), .ref (q 21), .ref (q 22), .ref (q 23), .int (nI ma)])), (q 7, .inl (cI, 200, .inl (ni (putU u len m1 0 v))))]) := by
  refine vx_startI (cc := cN_Mod_put) (maxL := 5) (ret := (some .boolean)) (by decide) rfl (Nat.le_of_ble_eq_true rfl) ?_
  intro p_0 e_0 s m below meth c_0 A ls C hK hP hD hS hA hl
  obtain ⟨hx, hb, hr, hml, hown, hts, hlocks, hnm⟩ := id C
  have hown : s.vm.findClass "StepMachinesModel" = some m.cls := hown
  have ht : ∀ w ∈ TB, w.before _ s = true := fun w h => hts w (List.mem_cons_of_mem _ h)
  have hl : lv_has ls 5 [(0, .ref o), (1, .long (v)), (3, .int (nI m1))] := hl
  refine lv_aload_n hx hb dN_Mod_put_0 rfl (lv_at hl 0 rfl) ?_
  refine lv_iconst (v := (nI 0)) hx hb dN_Mod_put_1 (by decide) ?_
  refine va_put (D := D) (ci := 12) (v := .int (nI 0)) (ty := .int) (C := RN_Mod) (T := FN_Mod) (N := 25) hx hb ht fN_Mod tN_Mod oN_Mod nN_Mod hown hK hP hD hS 0 rfl rfl 0 (by decide) (ht _ mw_972) (fun _ h9 => h9) rfl (by decide +kernel) (rfl) (rfl) (Nat.le_of_ble_eq_true rfl) dN_Mod_put_2 (fun H locs hP hD hS => ?_)
  have hP : va_P D clN [(o, .inr (12, [.int (nI 0), .int (nI n), .int (nI b), .ref (q 3), .ref (q 4), .ref (q 5), .ref (q 6), .ref (q 7), .int (nI len), .ref (q 9), .ref (q 10), .ref (q 11), .ref (q 12), .ref (q 13), .ref (q 14), .ref (q 15), .ref (q 16), .ref (q 17), .int (nI tr), .int (nI hi), .ref (q 20), .ref (q 21), .ref (q 22), .ref (q 23), .int (nI ma)])), (q 7, .inl (cI, 200, .inl (ni u)))] H := hP
  have hD : va_D A [(o, .inr (12, [.int (nI 0), .int (nI n), .int (nI b), .ref (q 3), .ref (q 4), .ref (q 5), .ref (q 6), .ref (q 7), .int (nI len), .ref (q 9), .ref (q 10), .ref (q 11), .ref (q 12), .ref (q 13), .ref (q 14), .ref (q 15), .ref (q 16), .ref (q 17), .int (nI tr), .int (nI hi), .ref (q 20), .ref (q 21), .ref (q 22), .ref (q 23), .int (nI ma)])), (q 7, .inl (cI, 200, .inl (ni u)))] := hD
  refine lv_iload_n hx hb dN_Mod_put_5 rfl (lv_at hl 2 rfl) ?_
  refine xn_lt0 (tgt := 27) hx hb dN_Mod_put_6 (by decide) (by omega) ?_
  refine lv_iload_n hx hb dN_Mod_put_9 rfl (lv_at hl 2 rfl) ?_
  refine lv_bipush (v := (nI 8)) hx hb dN_Mod_put_10 (by decide) ?_
  refine xn_gt (tgt := 27) hx hb dN_Mod_put_12 (by decide) (by omega) (by omega) (fun c_12_1 => ?_) (fun c_12_1 => ?_)
  · skip
    exact absurd c_12_1 (by omega)
  · skip
    refine lv_aload_n hx hb dN_Mod_put_15 rfl (lv_at hl 0 rfl) ?_
    refine va_get (D := D) (ci := 12) (v := .int (nI len)) (C := RN_Mod) (T := FN_Mod) (N := 25) hx hb ht fN_Mod hown hK hP 0 rfl rfl 8 (by decide) (ht _ mw_980) (fun _ h9 => h9) rfl dN_Mod_put_16 ?_
    refine lv_iload_n hx hb dN_Mod_put_19 rfl (lv_at hl 2 rfl) ?_
    refine xn_add hx hb dN_Mod_put_20 ?_
    refine lv_sipush (v := (nI 200)) hx hb dN_Mod_put_21 (by decide) ?_
    refine xn_le (tgt := 29) hx hb dN_Mod_put_24 (by decide) (by omega) (by omega) (fun c_24_2 => ?_) (fun c_24_2 => ?_)
    · skip
      refine lv_iload_n hx hb dN_Mod_put_29 rfl (lv_at hl 2 rfl) ?_
      refine lv_iconst (v := (nI 1)) hx hb dN_Mod_put_30 (by decide) ?_
      refine lv_isub hx hb dN_Mod_put_31 ?_
      refine lv_istore (lv' := [(4, .int ((nI m1) - (nI 1))), (0, .ref o), (1, .long (v)), (3, .int (nI m1))]) hx hb dN_Mod_put_32 hl (by decide) rfl (fun ls hl => ?_)
      refine vx_loop (α := Int32 × Nat × (Nat → Nat) × Nat) (fun (vv : Int32 × Nat × (Nat → Nat) × Nat) (H : Heap) (locs : List Loc) (ls : Array Slot) => match vv with | (y, j, u1, ln) => va_P D clN [(o, .inr (12, [.int (nI 0), .int (nI n), .int (nI b), .ref (q 3), .ref (q 4), .ref (q 5), .ref (q 6), .ref (q 7), .int (nI ln), .ref (q 9), .ref (q 10), .ref (q 11), .ref (q 12), .ref (q 13), .ref (q 14), .ref (q 15), .ref (q 16), .ref (q 17), .int (nI tr), .int (nI hi), .ref (q 20), .ref (q 21), .ref (q 22), .ref (q 23), .int (nI ma)])), (q 7, .inl (cI, 200, .inl (ni u1)))] H ∧ va_D A [(o, .inr (12, [.int (nI 0), .int (nI n), .int (nI b), .ref (q 3), .ref (q 4), .ref (q 5), .ref (q 6), .ref (q 7), .int (nI ln), .ref (q 9), .ref (q 10), .ref (q 11), .ref (q 12), .ref (q 13), .ref (q 14), .ref (q 15), .ref (q 16), .ref (q 17), .int (nI tr), .int (nI hi), .ref (q 20), .ref (q 21), .ref (q 22), .ref (q 23), .int (nI ma)])), (q 7, .inl (cI, 200, .inl (ni u1)))] ∧ va_S A s.heap H locs ∧ lv_has ls 5 [(0, .ref o), (1, .long (v)), (4, .int y)] ∧ (y = nI j - nI 1 ∧ j ≤ m1 ∧ ln = len + (m1 - j) ∧ u1 = putU u len m1 j v)) (fun (vv : Int32 × Nat × (Nat → Nat) × Nat) => match vv with | (y, j, u1, ln) => j) 34 [] ?_ ((nI m1) - (nI 1), m1, u, len) ⟨hP, hD, hS, lv_sub hl [1, 2, 0] rfl, ⟨rfl, Nat.le_refl _, by omega, (putU_0 u len m1 v).symm⟩⟩
      intro vv H locs ls hq ih_34_3
      obtain ⟨y, j, u1, ln⟩ := vv
      obtain ⟨hP, hD, hS, hl, hI⟩ := hq
      obtain ⟨ey, hj, el, eu⟩ := hI
      refine lv_iload hx hb dN_Mod_put_34 (lv_at hl 2 rfl) ?_
      refine lv_if_lt (tgt := 76) hx hb dN_Mod_put_36 (by decide) (fun c_36_4 => ?_) (fun c_36_4 => ?_)
      · skip
        rw [ey, m1_lt (by omega)] at c_36_4
        refine lv_iconst (v := (nI 1)) hx hb dN_Mod_put_76 (by decide) ?_
        refine xn_top (y := zi true) rfl ?_
        exact vx_zret C hK hP hD hS dN_Mod_put_77 (Nat.le_of_ble_eq_true rfl) (Nat.le_of_ble_eq_true rfl) (zi_nar2 _) (⟨rfl, by rw [el, eu, c_36_4]; rfl⟩)
      · skip
        rw [ey, m1_lt (by omega)] at c_36_4
        obtain ⟨k, rfl⟩ : ∃ k, j = k + 1 := ⟨j - 1, by omega⟩
        have hl : lv_has ls 5 [(0, .ref o), (1, .long (v)), (4, .int (nI k))] := by rw [ey, m1_suc] at hl; exact hl
        refine lv_aload_n hx hb dN_Mod_put_39 rfl (lv_at hl 0 rfl) ?_
        refine va_get (D := D) (ci := 12) (v := .ref (q 7)) (C := RN_Mod) (T := FN_Mod) (N := 25) hx hb ht fN_Mod hown hK hP 0 rfl rfl 7 (by decide) (ht _ mw_979) (fun _ h9 => h9) rfl dN_Mod_put_40 ?_
        refine lv_aload_n hx hb dN_Mod_put_43 rfl (lv_at hl 0 rfl) ?_
        refine va_get (D := D) (ci := 12) (v := .int (nI ln)) (C := RN_Mod) (T := FN_Mod) (N := 25) hx hb ht fN_Mod hown hK hP 0 rfl rfl 8 (by decide) (ht _ mw_980) (fun _ h9 => h9) rfl dN_Mod_put_44 ?_
        refine lv_lload_n hx hb dN_Mod_put_47 rfl (lv_at hl 1 rfl) ?_
        refine lv_bipush (v := (nI 8)) hx hb dN_Mod_put_48 (by decide) ?_
        refine lv_iload hx hb dN_Mod_put_50 (lv_at hl 2 rfl) ?_
        refine xn_mul hx hb dN_Mod_put_52 ?_
        refine lv_lshr (v := v >>> (((nI (8 * k))).toInt64 &&& 63)) hx hb dN_Mod_put_53 rfl ?_
        refine lv_ldc2 (v := (255 : Int64)) hx hb hown (ht _ mw_1074) dN_Mod_put_54 ?_
        refine lv_land hx hb dN_Mod_put_57 ?_
        refine lv_l2i (v := ((v >>> (((nI (8 * k))).toInt64 &&& 63)) &&& ((255 : Int64))).toInt32) hx hb dN_Mod_put_58 rfl ?_
        refine xn_top (y := (nI (byt v k))) (byt_m v (by omega)) ?_
        refine xn_ast hx hb hK hP hD hS 1 0 rfl rfl dN_Mod_put_59 (by omega) (by omega) (fun H locs hP hD hS => ?_)
        have hP : va_P D clN [(o, .inr (12, [.int (nI 0), .int (nI n), .int (nI b), .ref (q 3), .ref (q 4), .ref (q 5), .ref (q 6), .ref (q 7), .int (nI ln), .ref (q 9), .ref (q 10), .ref (q 11), .ref (q 12), .ref (q 13), .ref (q 14), .ref (q 15), .ref (q 16), .ref (q 17), .int (nI tr), .int (nI hi), .ref (q 20), .ref (q 21), .ref (q 22), .ref (q 23), .int (nI ma)])), (q 7, .inl (cI, 200, .inl (ni (un u1 ln (byt v k)))))] H := hP
        have hD : va_D A [(o, .inr (12, [.int (nI 0), .int (nI n), .int (nI b), .ref (q 3), .ref (q 4), .ref (q 5), .ref (q 6), .ref (q 7), .int (nI ln), .ref (q 9), .ref (q 10), .ref (q 11), .ref (q 12), .ref (q 13), .ref (q 14), .ref (q 15), .ref (q 16), .ref (q 17), .int (nI tr), .int (nI hi), .ref (q 20), .ref (q 21), .ref (q 22), .ref (q 23), .int (nI ma)])), (q 7, .inl (cI, 200, .inl (ni (un u1 ln (byt v k)))))] := hD
        refine lv_aload_n hx hb dN_Mod_put_60 rfl (lv_at hl 0 rfl) ?_
        refine lv_dup hx hb dN_Mod_put_61 rfl ?_
        refine va_get (D := D) (ci := 12) (v := .int (nI ln)) (C := RN_Mod) (T := FN_Mod) (N := 25) hx hb ht fN_Mod hown hK hP 0 rfl rfl 8 (by decide) (ht _ mw_980) (fun _ h9 => h9) rfl dN_Mod_put_62 ?_
        refine lv_iconst (v := (nI 1)) hx hb dN_Mod_put_65 (by decide) ?_
        refine xn_add hx hb dN_Mod_put_66 ?_
        refine va_put (D := D) (ci := 12) (v := .int (nI (ln + 1))) (ty := .int) (C := RN_Mod) (T := FN_Mod) (N := 25) hx hb ht fN_Mod tN_Mod oN_Mod nN_Mod hown hK hP hD hS 0 rfl rfl 8 (by decide) (ht _ mw_980) (fun _ h9 => h9) rfl (by decide +kernel) (rfl) (rfl) (Nat.le_of_ble_eq_true rfl) dN_Mod_put_67 (fun H locs hP hD hS => ?_)
        have hP : va_P D clN [(o, .inr (12, [.int (nI 0), .int (nI n), .int (nI b), .ref (q 3), .ref (q 4), .ref (q 5), .ref (q 6), .ref (q 7), .int (nI (ln + 1)), .ref (q 9), .ref (q 10), .ref (q 11), .ref (q 12), .ref (q 13), .ref (q 14), .ref (q 15), .ref (q 16), .ref (q 17), .int (nI tr), .int (nI hi), .ref (q 20), .ref (q 21), .ref (q 22), .ref (q 23), .int (nI ma)])), (q 7, .inl (cI, 200, .inl (ni (un u1 ln (byt v k)))))] H := hP
        have hD : va_D A [(o, .inr (12, [.int (nI 0), .int (nI n), .int (nI b), .ref (q 3), .ref (q 4), .ref (q 5), .ref (q 6), .ref (q 7), .int (nI (ln + 1)), .ref (q 9), .ref (q 10), .ref (q 11), .ref (q 12), .ref (q 13), .ref (q 14), .ref (q 15), .ref (q 16), .ref (q 17), .int (nI tr), .int (nI hi), .ref (q 20), .ref (q 21), .ref (q 22), .ref (q 23), .int (nI ma)])), (q 7, .inl (cI, 200, .inl (ni (un u1 ln (byt v k)))))] := hD
        refine lv_iinc (v := (nI k - nI 1)) (lv' := [(4, .int (nI k - nI 1)), (0, .ref o), (1, .long (v))]) hx hb dN_Mod_put_70 hl (k := 2) rfl (m1_dec k) (by decide) rfl (fun ls hl => ?_)
        refine lv_goto (tgt := 34) hx hb dN_Mod_put_73 (by decide) ?_
        exact ih_34_3 (nI k - nI 1, k, un u1 ln (byt v k), ln + 1) _ _ _ ⟨hP, hD, hS, lv_sub hl [1, 2, 0] rfl, ⟨rfl, by omega, by omega, by rw [eu, el]; exact putU_s (by omega)⟩⟩ (show (k) < (k + 1) from by omega)
    · skip
      exact absurd c_24_2 (by omega)
