set_option maxHeartbeats 4000000 in
set_option maxRecDepth 100000 in
/-- put, refused -/
theorem kMach_put_bad (l : Launch) (D : va_G) (cI cZ cJ : ClassId) (o pr su ta la t mk tb sa : Nat) (sb len : Nat) (v : Int64) (x : Int32) (hbad : putB len x = false) : vx_Mi l yN_Mach_put wN_Mach_put ({ frames := 1, cells := 0, slots := 0, locals := 21 }) D clN (tyN cI cZ cJ) [.ref o, .long (v), .int x] [(o, .inr (11, [.ref pr, .ref su, .ref ta, .ref la, .ref t, .ref mk, .ref tb, .ref sa])), (su, .inr (7, [.ref sb, .int (nI len)]))] (fun r w => r = zi false ∧ w = [(o, .inr (11, [.ref pr, .ref su, .ref ta, .ref la, .ref t, .ref mk, .ref tb, .ref sa])), (su, .inr (7, [.ref sb, .int (nI len)]))]) := by
  refine vx_startI (cc := cN_Mach_put) (maxL := 5) (ret := (some .boolean)) (by decide) rfl (Nat.le_of_ble_eq_true rfl) ?_
  intro p_0 e_0 s m below meth c_0 A ls C hK hP hD hS hA hl
  obtain ⟨hx, hb, hr, hml, hown, hts, hlocks, hnm⟩ := id C
  have hown : s.vm.findClass "StepMachines" = some m.cls := hown
  have ht : ∀ w ∈ TB, w.before _ s = true := fun w h => hts w (List.mem_cons_of_mem _ h)
  have hl : lv_has ls 5 [(0, .ref o), (1, .long (v)), (3, .int x)] := hl
  refine lv_iload_n hx hb dN_Mach_put_0 rfl (lv_at hl 2 rfl) ?_
  refine lv_if_lt (tgt := 25) hx hb dN_Mach_put_1 (by decide) (fun c_1_0 => ?_) (fun c_1_0 => ?_)
  · skip
    refine lv_iconst (v := (nI 0)) hx hb dN_Mach_put_25 (by decide) ?_
    refine xn_top (y := zi false) rfl ?_
    exact vx_zret C hK hP hD hS dN_Mach_put_26 (Nat.le_of_ble_eq_true rfl) (Nat.le_of_ble_eq_true rfl) (zi_nar2 _) (⟨rfl, rfl⟩)
  · skip
    refine lv_iload_n hx hb dN_Mach_put_4 rfl (lv_at hl 2 rfl) ?_
    refine lv_bipush (v := (nI 8)) hx hb dN_Mach_put_5 (by decide) ?_
    refine lv_icmp_gt (tgt := 25) hx hb dN_Mach_put_7 (by decide) (fun c_7_1 => ?_) (fun c_7_1 => ?_)
    · skip
      refine lv_iconst (v := (nI 0)) hx hb dN_Mach_put_25 (by decide) ?_
      refine xn_top (y := zi false) rfl ?_
      exact vx_zret C hK hP hD hS dN_Mach_put_26 (Nat.le_of_ble_eq_true rfl) (Nat.le_of_ble_eq_true rfl) (zi_nar2 _) (⟨rfl, rfl⟩)
    · skip
      refine lv_aload_n hx hb dN_Mach_put_10 rfl (lv_at hl 0 rfl) ?_
      refine va_get (D := D) (ci := 11) (v := .ref su) (C := RN_Mach) (T := FN_Mach) (N := 8) hx hb ht fN_Mach hown hK hP 0 rfl rfl 1 (by decide) (ht _ mw_320) (fun _ h9 => h9) rfl dN_Mach_put_11 ?_
      refine vx_calli (wc := [(su, .inr (7, [.ref sb, .int (nI len)]))]) (wr := [(o, .inr (11, [.ref pr, .ref su, .ref ta, .ref la, .ref t, .ref mk, .ref tb, .ref sa]))]) [1] [0] hK hP hD hS hA rfl rfl (by decide) (by decide) (va_runV (As := []) (rest := []) ⟨hx, hb, hml, hown, ht⟩ (kSubject_length l D cI cZ cJ su sb len _) (⟨callB_of 0 ht (TB_in2 gN_Subject_length) rfl rfl rfl (ht _ mw_3) (ht _ mw_348) (by decide +kernel) ⟨Nat.le_of_ble_eq_true rfl, Nat.le_of_ble_eq_true rfl⟩, ht _ mw_349, ht _ mw_350⟩) (vx_preV [1] hK hP hD (by decide) rfl (ci := 7) rfl 1 rfl) rfl rfl hl.1 rfl (lv_room (Nat.le_of_ble_eq_true rfl)) dN_Mach_put_14 ⟨Nat.le_of_ble_eq_true rfl, Nat.le_of_ble_eq_true rfl⟩) (fun r1 w1 H locs hq hP hD hS => ?_)
      obtain ⟨rfl, rfl⟩ := hq
      have hP : va_P D clN [(o, .inr (11, [.ref pr, .ref su, .ref ta, .ref la, .ref t, .ref mk, .ref tb, .ref sa])), (su, .inr (7, [.ref sb, .int (nI len)]))] H := hP.sub [0, 1] rfl
      have hD : va_D A [(o, .inr (11, [.ref pr, .ref su, .ref ta, .ref la, .ref t, .ref mk, .ref tb, .ref sa])), (su, .inr (7, [.ref sb, .int (nI len)]))] := hD.sub [0, 1] (by decide) rfl
      refine lv_iload_n hx hb dN_Mach_put_17 rfl (lv_at hl 2 rfl) ?_
      refine lv_iadd hx hb dN_Mach_put_18 ?_
      refine lv_sipush (v := (nI 200)) hx hb dN_Mach_put_19 (by decide) ?_
      refine lv_icmp_le (tgt := 27) hx hb dN_Mach_put_22 (by decide) (fun c_22_2 => ?_) (fun c_22_2 => ?_)
      · skip
        exact absurd hbad (by simp only [putB, decide_eq_false c_1_0, decide_eq_false c_7_1, decide_eq_true c_22_2, Bool.not_true, Bool.not_false, Bool.true_and, Bool.false_and, Bool.true_or, Bool.false_or, Bool.or_true, Bool.or_false, Bool.and_true, Bool.and_false]; decide)
      · skip
        refine lv_iconst (v := (nI 0)) hx hb dN_Mach_put_25 (by decide) ?_
        refine xn_top (y := zi false) rfl ?_
        exact vx_zret C hK hP hD hS dN_Mach_put_26 (Nat.le_of_ble_eq_true rfl) (Nat.le_of_ble_eq_true rfl) (zi_nar2 _) (⟨rfl, rfl⟩)
set_option maxHeartbeats 4000000 in
set_option maxRecDepth 100000 in
/-- put, done -/
theorem kMach_put (l : Launch) (D : va_G) (cI cZ cJ : ClassId) (o pr su ta la t mk tb sa : Nat) (sb len : Nat) (u : Nat → Nat) (v : Int64) (m1 : Nat) (hm : m1 ≤ 8) (hlm : len + m1 ≤ 200) : vx_Mi l yN_Mach_put wN_Mach_put ({ frames := 1, cells := 0, slots := 0, locals := 21 }) D clN (tyN cI cZ cJ) [.ref o, .long (v), .int (nI m1)] [(o, .inr (11, [.ref pr, .ref su, .ref ta, .ref la, .ref t, .ref mk, .ref tb, .ref sa])), (su, .inr (7, [.ref sb, .int (nI len)])), (sb, .inl (cI, 200, .inl (ni u)))] (fun r w => r = zi true ∧ w = [(o, .inr (11, [.ref pr, .ref su, .ref ta, .ref la, .ref t, .ref mk, .ref tb, .ref sa])), (su, .inr (7, [.ref sb, .int (nI (len + m1))])), (sb, .inl (cI, 200, .inl (ni (putU u len m1 0 v))))]) := by
  refine vx_startI (cc := cN_Mach_put) (maxL := 5) (ret := (some .boolean)) (by decide) rfl (Nat.le_of_ble_eq_true rfl) ?_
  intro p_0 e_0 s m below meth c_0 A ls C hK hP hD hS hA hl
  obtain ⟨hx, hb, hr, hml, hown, hts, hlocks, hnm⟩ := id C
  have hown : s.vm.findClass "StepMachines" = some m.cls := hown
  have ht : ∀ w ∈ TB, w.before _ s = true := fun w h => hts w (List.mem_cons_of_mem _ h)
  have hl : lv_has ls 5 [(0, .ref o), (1, .long (v)), (3, .int (nI m1))] := hl
  refine lv_iload_n hx hb dN_Mach_put_0 rfl (lv_at hl 2 rfl) ?_
  refine xn_lt0 (tgt := 25) hx hb dN_Mach_put_1 (by decide) (by omega) ?_
  refine lv_iload_n hx hb dN_Mach_put_4 rfl (lv_at hl 2 rfl) ?_
  refine lv_bipush (v := (nI 8)) hx hb dN_Mach_put_5 (by decide) ?_
  refine xn_gt (tgt := 25) hx hb dN_Mach_put_7 (by decide) (by omega) (by omega) (fun c_7_1 => ?_) (fun c_7_1 => ?_)
  · skip
    exact absurd c_7_1 (by omega)
  · skip
    refine lv_aload_n hx hb dN_Mach_put_10 rfl (lv_at hl 0 rfl) ?_
    refine va_get (D := D) (ci := 11) (v := .ref su) (C := RN_Mach) (T := FN_Mach) (N := 8) hx hb ht fN_Mach hown hK hP 0 rfl rfl 1 (by decide) (ht _ mw_320) (fun _ h9 => h9) rfl dN_Mach_put_11 ?_
    refine vx_calli (wc := [(su, .inr (7, [.ref sb, .int (nI len)]))]) (wr := [(o, .inr (11, [.ref pr, .ref su, .ref ta, .ref la, .ref t, .ref mk, .ref tb, .ref sa])), (sb, .inl (cI, 200, .inl (ni u)))]) [1] [0, 2] hK hP hD hS hA rfl rfl (by decide) (by decide) (va_runV (As := []) (rest := []) ⟨hx, hb, hml, hown, ht⟩ (kSubject_length l D cI cZ cJ su sb len _) (⟨callB_of 0 ht (TB_in2 gN_Subject_length) rfl rfl rfl (ht _ mw_3) (ht _ mw_348) (by decide +kernel) ⟨Nat.le_of_ble_eq_true rfl, Nat.le_of_ble_eq_true rfl⟩, ht _ mw_349, ht _ mw_350⟩) (vx_preV [1] hK hP hD (by decide) rfl (ci := 7) rfl 1 rfl) rfl rfl hl.1 rfl (lv_room (Nat.le_of_ble_eq_true rfl)) dN_Mach_put_14 ⟨Nat.le_of_ble_eq_true rfl, Nat.le_of_ble_eq_true rfl⟩) (fun r1 w1 H locs hq hP hD hS => ?_)
    obtain ⟨rfl, rfl⟩ := hq
    have hP : va_P D clN [(o, .inr (11, [.ref pr, .ref su, .ref ta, .ref la, .ref t, .ref mk, .ref tb, .ref sa])), (su, .inr (7, [.ref sb, .int (nI len)])), (sb, .inl (cI, 200, .inl (ni u)))] H := hP.sub [0, 2, 1] rfl
    have hD : va_D A [(o, .inr (11, [.ref pr, .ref su, .ref ta, .ref la, .ref t, .ref mk, .ref tb, .ref sa])), (su, .inr (7, [.ref sb, .int (nI len)])), (sb, .inl (cI, 200, .inl (ni u)))] := hD.sub [0, 2, 1] (by decide) rfl
    refine lv_iload_n hx hb dN_Mach_put_17 rfl (lv_at hl 2 rfl) ?_
    refine xn_add hx hb dN_Mach_put_18 ?_
    refine lv_sipush (v := (nI 200)) hx hb dN_Mach_put_19 (by decide) ?_
    refine xn_le (tgt := 27) hx hb dN_Mach_put_22 (by decide) (by omega) (by omega) (fun c_22_2 => ?_) (fun c_22_2 => ?_)
    · skip
      refine lv_iload_n hx hb dN_Mach_put_27 rfl (lv_at hl 2 rfl) ?_
      refine lv_iconst (v := (nI 1)) hx hb dN_Mach_put_28 (by decide) ?_
      refine lv_isub hx hb dN_Mach_put_29 ?_
      refine lv_istore (lv' := [(4, .int ((nI m1) - (nI 1))), (0, .ref o), (1, .long (v)), (3, .int (nI m1))]) hx hb dN_Mach_put_30 hl (by decide) rfl (fun ls hl => ?_)
      refine vx_loop (α := Int32 × Nat × (Nat → Nat) × Nat) (fun (vv : Int32 × Nat × (Nat → Nat) × Nat) (H : Heap) (locs : List Loc) (ls : Array Slot) => match vv with | (y, j, u1, ln) => va_P D clN [(o, .inr (11, [.ref pr, .ref su, .ref ta, .ref la, .ref t, .ref mk, .ref tb, .ref sa])), (su, .inr (7, [.ref sb, .int (nI ln)])), (sb, .inl (cI, 200, .inl (ni u1)))] H ∧ va_D A [(o, .inr (11, [.ref pr, .ref su, .ref ta, .ref la, .ref t, .ref mk, .ref tb, .ref sa])), (su, .inr (7, [.ref sb, .int (nI ln)])), (sb, .inl (cI, 200, .inl (ni u1)))] ∧ va_S A s.heap H locs ∧ lv_has ls 5 [(0, .ref o), (1, .long (v)), (4, .int y)] ∧ (y = nI j - nI 1 ∧ j ≤ m1 ∧ ln = len + (m1 - j) ∧ u1 = putU u len m1 j v)) (fun (vv : Int32 × Nat × (Nat → Nat) × Nat) => match vv with | (y, j, u1, ln) => j) 32 [] ?_ ((nI m1) - (nI 1), m1, u, len) ⟨hP, hD, hS, lv_sub hl [1, 2, 0] rfl, ⟨rfl, Nat.le_refl _, by omega, (putU_0 u len m1 v).symm⟩⟩
      intro vv H locs ls hq ih_32_3
      obtain ⟨y, j, u1, ln⟩ := vv
      obtain ⟨hP, hD, hS, hl, hI⟩ := hq
      obtain ⟨ey, hj, el, eu⟩ := hI
      refine lv_iload hx hb dN_Mach_put_32 (lv_at hl 2 rfl) ?_
      refine lv_if_lt (tgt := 62) hx hb dN_Mach_put_34 (by decide) (fun c_34_4 => ?_) (fun c_34_4 => ?_)
      · skip
        rw [ey, m1_lt (by omega)] at c_34_4
        refine lv_iconst (v := (nI 1)) hx hb dN_Mach_put_62 (by decide) ?_
        refine xn_top (y := zi true) rfl ?_
        exact vx_zret C hK hP hD hS dN_Mach_put_63 (Nat.le_of_ble_eq_true rfl) (Nat.le_of_ble_eq_true rfl) (zi_nar2 _) (⟨rfl, by rw [el, eu, c_34_4]; rfl⟩)
      · skip
        rw [ey, m1_lt (by omega)] at c_34_4
        obtain ⟨k, rfl⟩ : ∃ k, j = k + 1 := ⟨j - 1, by omega⟩
        have hl : lv_has ls 5 [(0, .ref o), (1, .long (v)), (4, .int (nI k))] := by rw [ey, m1_suc] at hl; exact hl
        refine lv_aload_n hx hb dN_Mach_put_37 rfl (lv_at hl 0 rfl) ?_
        refine va_get (D := D) (ci := 11) (v := .ref su) (C := RN_Mach) (T := FN_Mach) (N := 8) hx hb ht fN_Mach hown hK hP 0 rfl rfl 1 (by decide) (ht _ mw_320) (fun _ h9 => h9) rfl dN_Mach_put_38 ?_
        refine lv_lload_n hx hb dN_Mach_put_41 rfl (lv_at hl 1 rfl) ?_
        refine lv_bipush (v := (nI 8)) hx hb dN_Mach_put_42 (by decide) ?_
        refine lv_iload hx hb dN_Mach_put_44 (lv_at hl 2 rfl) ?_
        refine xn_mul hx hb dN_Mach_put_46 ?_
        refine lv_lushr (v := ((v).toUInt64 >>> (((nI (8 * k))).toInt64.toUInt64 &&& Int64.toUInt64 63)).toInt64) hx hb dN_Mach_put_47 rfl ?_
        refine lv_l2i (v := (((v).toUInt64 >>> (((nI (8 * k))).toInt64.toUInt64 &&& Int64.toUInt64 63)).toInt64).toInt32) hx hb dN_Mach_put_48 rfl ?_
        refine lv_sipush (v := (nI 255)) hx hb dN_Mach_put_49 (by decide) ?_
        refine lv_iand hx hb dN_Mach_put_52 ?_
        refine xn_top (y := (nI (byt v k))) (byt_u v (by omega)) ?_
        refine vx_callv (wc := [(su, .inr (7, [.ref sb, .int (nI ln)])), (sb, .inl (cI, 200, .inl (ni u1)))]) (wr := [(o, .inr (11, [.ref pr, .ref su, .ref ta, .ref la, .ref t, .ref mk, .ref tb, .ref sa]))]) [1, 2] [0] hK hP hD hS hA rfl rfl (by decide) (by decide) (va_runV (As := [.int (nI (byt v k))]) (rest := []) ⟨hx, hb, hml, hown, ht⟩ (kSubject_append l D cI cZ cJ su sb ln u1 (byt v k) (by omega) (byt_lt v k) _) (⟨callB_of 1 ht (TB_in2 gN_Subject_append) rfl rfl rfl (ht _ mw_3) (ht _ mw_352) (by decide +kernel) ⟨Nat.le_of_ble_eq_true rfl, Nat.le_of_ble_eq_true rfl⟩, ht _ mw_353, ht _ mw_354⟩) (vx_preV [1, 2] hK hP hD (by decide) rfl (ci := 7) rfl 1 rfl) rfl rfl hl.1 rfl (lv_room (Nat.le_of_ble_eq_true rfl)) dN_Mach_put_53 ⟨Nat.le_of_ble_eq_true rfl, Nat.le_of_ble_eq_true rfl⟩) (fun w1 H locs hq hP hD hS => ?_)
        subst hq
        have hP : va_P D clN [(o, .inr (11, [.ref pr, .ref su, .ref ta, .ref la, .ref t, .ref mk, .ref tb, .ref sa])), (su, .inr (7, [.ref sb, .int (nI (ln + 1))])), (sb, .inl (cI, 200, .inl (ni (un u1 ln (byt v k)))))] H := hP.sub [0, 1, 2] rfl
        have hD : va_D A [(o, .inr (11, [.ref pr, .ref su, .ref ta, .ref la, .ref t, .ref mk, .ref tb, .ref sa])), (su, .inr (7, [.ref sb, .int (nI (ln + 1))])), (sb, .inl (cI, 200, .inl (ni (un u1 ln (byt v k)))))] := hD.sub [0, 1, 2] (by decide) rfl
        refine lv_iinc (v := (nI k - nI 1)) (lv' := [(4, .int (nI k - nI 1)), (0, .ref o), (1, .long (v))]) hx hb dN_Mach_put_56 hl (k := 2) rfl (m1_dec k) (by decide) rfl (fun ls hl => ?_)
        refine lv_goto (tgt := 32) hx hb dN_Mach_put_59 (by decide) ?_
        exact ih_32_3 (nI k - nI 1, k, un u1 ln (byt v k), ln + 1) _ _ _ ⟨hP, hD, hS, lv_sub hl [1, 2, 0] rfl, ⟨rfl, by omega, by omega, by rw [eu, el]; exact putU_s (by omega)⟩⟩ (show (k) < (k + 1) from by omega)
    · skip
      exact absurd c_22_2 (by omega)
