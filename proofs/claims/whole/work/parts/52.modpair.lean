set_option maxHeartbeats 4000000 in
set_option maxRecDepth 100000 in
/-- start(k) -/
theorem kMod_start (l : Launch) (D : va_G) (cI cZ cJ : ClassId) (o : Nat) (q : Nat → Nat) (th n b len tr hi ma : Nat) (st : Nat → Nat) (k : Nat) (hk : k < 200) (hst : ∀ i, i < ma → st i < 200) (hm2 : ma ≤ 200) (hb1 : k ∉ stl st ma → ma < 200) : vx_Mv l yN_Mod_start wN_Mod_start ({ frames := 0, cells := 0, slots := 0, locals := 0 }) D clN (tyN cI cZ cJ) [.ref o, .int (nI k)] [(o, .inr (12, [.int (nI th), .int (nI n), .int (nI b), .ref (q 3), .ref (q 4), .ref (q 5), .ref (q 6), .ref (q 7), .int (nI len), .ref (q 9), .ref (q 10), .ref (q 11), .ref (q 12), .ref (q 13), .ref (q 14), .ref (q 15), .ref (q 16), .ref (q 17), .int (nI tr), .int (nI hi), .ref (q 20), .ref (q 21), .ref (q 22), .ref (q 23), .int (nI ma)])), (q 20, .inl (cI, 200, .inl (ni st)))] (fun w => ∃ (st1 : Nat → Nat) (ma1 : Nat), stl st1 ma1 = addL (stl st ma) k ∧ w = [(o, .inr (12, [.int (nI th), .int (nI n), .int (nI b), .ref (q 3), .ref (q 4), .ref (q 5), .ref (q 6), .ref (q 7), .int (nI len), .ref (q 9), .ref (q 10), .ref (q 11), .ref (q 12), .ref (q 13), .ref (q 14), .ref (q 15), .ref (q 16), .ref (q 17), .int (nI tr), .int (nI hi), .ref (q 20), .ref (q 21), .ref (q 22), .ref (q 23), .int (nI ma1)])), (q 20, .inl (cI, 200, .inl (ni st1)))]) := by
  refine vx_startV (cc := cN_Mod_start) (maxL := 3) (ret := none) (by decide) rfl (Nat.le_of_ble_eq_true rfl) ?_
  intro p_0 e_0 s m below meth c_0 A ls C hK hP hD hS hA hl
  obtain ⟨hx, hb, hr, hml, hown, hts, hlocks, hnm⟩ := id C
  have hown : s.vm.findClass "StepMachinesModel" = some m.cls := hown
  have ht : ∀ w ∈ TB, w.before _ s = true := fun w h => hts w (List.mem_cons_of_mem _ h)
  have hl : lv_has ls 3 [(0, .ref o), (1, .int (nI k))] := hl
  refine lv_iconst (v := (nI 0)) hx hb dN_Mod_start_0 (by decide) ?_
  refine lv_istore_n (lv' := [(2, .int (nI 0)), (0, .ref o), (1, .int (nI k))]) hx hb dN_Mod_start_1 rfl hl (by decide) rfl (fun ls hl => ?_)
  refine vx_loop (α := Nat) (fun (vv : Nat) (H : Heap) (locs : List Loc) (ls : Array Slot) => match vv with | (j) => va_P D clN [(o, .inr (12, [.int (nI th), .int (nI n), .int (nI b), .ref (q 3), .ref (q 4), .ref (q 5), .ref (q 6), .ref (q 7), .int (nI len), .ref (q 9), .ref (q 10), .ref (q 11), .ref (q 12), .ref (q 13), .ref (q 14), .ref (q 15), .ref (q 16), .ref (q 17), .int (nI tr), .int (nI hi), .ref (q 20), .ref (q 21), .ref (q 22), .ref (q 23), .int (nI ma)])), (q 20, .inl (cI, 200, .inl (ni st)))] H ∧ va_D A [(o, .inr (12, [.int (nI th), .int (nI n), .int (nI b), .ref (q 3), .ref (q 4), .ref (q 5), .ref (q 6), .ref (q 7), .int (nI len), .ref (q 9), .ref (q 10), .ref (q 11), .ref (q 12), .ref (q 13), .ref (q 14), .ref (q 15), .ref (q 16), .ref (q 17), .int (nI tr), .int (nI hi), .ref (q 20), .ref (q 21), .ref (q 22), .ref (q 23), .int (nI ma)])), (q 20, .inl (cI, 200, .inl (ni st)))] ∧ va_S A s.heap H locs ∧ lv_has ls 3 [(0, .ref o), (1, .int (nI k)), (2, .int (nI j))] ∧ (j ≤ ma ∧ ∀ i, i < j → st i ≠ k)) (fun (vv : Nat) => match vv with | (j) => ma - j) 2 [] ?_ (0) ⟨hP, hD, hS, lv_sub hl [1, 2, 0] rfl, ⟨by omega, fun i h => absurd h (by omega)⟩⟩
  intro vv H locs ls hq ih_2_0
  obtain ⟨j, rfl⟩ : ∃ z, z = vv := ⟨_, rfl⟩
  obtain ⟨hP, hD, hS, hl, hI⟩ := hq
  obtain ⟨hjm, hno⟩ := hI
  refine lv_iload_n hx hb dN_Mod_start_2 rfl (lv_at hl 2 rfl) ?_
  refine lv_aload_n hx hb dN_Mod_start_3 rfl (lv_at hl 0 rfl) ?_
  refine va_get (D := D) (ci := 12) (v := .int (nI ma)) (C := RN_Mod) (T := FN_Mod) (N := 25) hx hb ht fN_Mod hown hK hP 0 rfl rfl 24 (by decide) (ht _ mw_996) (fun _ h9 => h9) rfl dN_Mod_start_4 ?_
  refine xn_ge (tgt := 27) hx hb dN_Mod_start_7 (by decide) (by omega) (by omega) (fun c_7_1 => ?_) (fun c_7_1 => ?_)
  · skip
    have hnin : k ∉ stl st ma := fun h => by obtain ⟨i, h1, h2⟩ := stl_mem.mp h; exact hno i (by omega) h2
    have hma := hb1 hnin
    refine lv_aload_n hx hb dN_Mod_start_27 rfl (lv_at hl 0 rfl) ?_
    refine va_get (D := D) (ci := 12) (v := .ref (q 20)) (C := RN_Mod) (T := FN_Mod) (N := 25) hx hb ht fN_Mod hown hK hP 0 rfl rfl 20 (by decide) (ht _ mw_992) (fun _ h9 => h9) rfl dN_Mod_start_28 ?_
    refine lv_aload_n hx hb dN_Mod_start_31 rfl (lv_at hl 0 rfl) ?_
    refine va_get (D := D) (ci := 12) (v := .int (nI ma)) (C := RN_Mod) (T := FN_Mod) (N := 25) hx hb ht fN_Mod hown hK hP 0 rfl rfl 24 (by decide) (ht _ mw_996) (fun _ h9 => h9) rfl dN_Mod_start_32 ?_
    refine lv_iload_n hx hb dN_Mod_start_35 rfl (lv_at hl 1 rfl) ?_
    refine xn_ast hx hb hK hP hD hS 1 0 rfl rfl dN_Mod_start_36 (by omega) (by omega) (fun H locs hP hD hS => ?_)
    have hP : va_P D clN [(o, .inr (12, [.int (nI th), .int (nI n), .int (nI b), .ref (q 3), .ref (q 4), .ref (q 5), .ref (q 6), .ref (q 7), .int (nI len), .ref (q 9), .ref (q 10), .ref (q 11), .ref (q 12), .ref (q 13), .ref (q 14), .ref (q 15), .ref (q 16), .ref (q 17), .int (nI tr), .int (nI hi), .ref (q 20), .ref (q 21), .ref (q 22), .ref (q 23), .int (nI ma)])), (q 20, .inl (cI, 200, .inl (ni (un st ma k))))] H := hP
    have hD : va_D A [(o, .inr (12, [.int (nI th), .int (nI n), .int (nI b), .ref (q 3), .ref (q 4), .ref (q 5), .ref (q 6), .ref (q 7), .int (nI len), .ref (q 9), .ref (q 10), .ref (q 11), .ref (q 12), .ref (q 13), .ref (q 14), .ref (q 15), .ref (q 16), .ref (q 17), .int (nI tr), .int (nI hi), .ref (q 20), .ref (q 21), .ref (q 22), .ref (q 23), .int (nI ma)])), (q 20, .inl (cI, 200, .inl (ni (un st ma k))))] := hD
    refine lv_aload_n hx hb dN_Mod_start_37 rfl (lv_at hl 0 rfl) ?_
    refine lv_dup hx hb dN_Mod_start_38 rfl ?_
    refine va_get (D := D) (ci := 12) (v := .int (nI ma)) (C := RN_Mod) (T := FN_Mod) (N := 25) hx hb ht fN_Mod hown hK hP 0 rfl rfl 24 (by decide) (ht _ mw_996) (fun _ h9 => h9) rfl dN_Mod_start_39 ?_
    refine lv_iconst (v := (nI 1)) hx hb dN_Mod_start_42 (by decide) ?_
    refine xn_add hx hb dN_Mod_start_43 ?_
    refine va_put (D := D) (ci := 12) (v := .int (nI (ma + 1))) (ty := .int) (C := RN_Mod) (T := FN_Mod) (N := 25) hx hb ht fN_Mod tN_Mod oN_Mod nN_Mod hown hK hP hD hS 0 rfl rfl 24 (by decide) (ht _ mw_996) (fun _ h9 => h9) rfl (by decide +kernel) (rfl) (rfl) (Nat.le_of_ble_eq_true rfl) dN_Mod_start_44 (fun H locs hP hD hS => ?_)
    have hP : va_P D clN [(o, .inr (12, [.int (nI th), .int (nI n), .int (nI b), .ref (q 3), .ref (q 4), .ref (q 5), .ref (q 6), .ref (q 7), .int (nI len), .ref (q 9), .ref (q 10), .ref (q 11), .ref (q 12), .ref (q 13), .ref (q 14), .ref (q 15), .ref (q 16), .ref (q 17), .int (nI tr), .int (nI hi), .ref (q 20), .ref (q 21), .ref (q 22), .ref (q 23), .int (nI (ma + 1))])), (q 20, .inl (cI, 200, .inl (ni (un st ma k))))] H := hP
    have hD : va_D A [(o, .inr (12, [.int (nI th), .int (nI n), .int (nI b), .ref (q 3), .ref (q 4), .ref (q 5), .ref (q 6), .ref (q 7), .int (nI len), .ref (q 9), .ref (q 10), .ref (q 11), .ref (q 12), .ref (q 13), .ref (q 14), .ref (q 15), .ref (q 16), .ref (q 17), .int (nI tr), .int (nI hi), .ref (q 20), .ref (q 21), .ref (q 22), .ref (q 23), .int (nI (ma + 1))])), (q 20, .inl (cI, 200, .inl (ni (un st ma k))))] := hD
    exact vx_vret C hK hP hD hS dN_Mod_start_47 (Nat.le_of_ble_eq_true rfl) (Nat.le_of_ble_eq_true rfl) (⟨_, _, stl_add hnin, rfl⟩)
  · skip
    refine lv_aload_n hx hb dN_Mod_start_10 rfl (lv_at hl 0 rfl) ?_
    refine va_get (D := D) (ci := 12) (v := .ref (q 20)) (C := RN_Mod) (T := FN_Mod) (N := 25) hx hb ht fN_Mod hown hK hP 0 rfl rfl 20 (by decide) (ht _ mw_992) (fun _ h9 => h9) rfl dN_Mod_start_11 ?_
    refine lv_iload_n hx hb dN_Mod_start_14 rfl (lv_at hl 2 rfl) ?_
    refine xn_ald hx hb hK hP 1 0 rfl rfl dN_Mod_start_15 (by omega) (by omega) ?_
    refine lv_iload_n hx hb dN_Mod_start_16 rfl (lv_at hl 1 rfl) ?_
    refine xn_ne (tgt := 21) hx hb dN_Mod_start_17 (by decide) (by have := hst j (by omega); omega) (by omega) (fun c_17_2 => ?_) (fun c_17_2 => ?_)
    · skip
      refine lv_iinc (v := (nI (j + 1))) (lv' := [(2, .int (nI (j + 1))), (0, .ref o), (1, .int (nI k))]) hx hb dN_Mod_start_21 hl (k := 2) rfl (nI_1 _) (by decide) rfl (fun ls hl => ?_)
      refine lv_goto (tgt := 2) hx hb dN_Mod_start_24 (by decide) ?_
      exact ih_2_0 (j + 1) _ _ _ ⟨hP, hD, hS, lv_sub hl [1, 2, 0] rfl, ⟨by omega, fun i hi => by rcases Nat.lt_succ_iff_lt_or_eq.mp hi with h | h; (exact hno i h); (subst h; exact c_17_2)⟩⟩ (show (ma - (j + 1)) < (ma - j) from by omega)
    · skip
      exact vx_vret C hK hP hD hS dN_Mod_start_20 (Nat.le_of_ble_eq_true rfl) (Nat.le_of_ble_eq_true rfl) (⟨st, ma, (addL_in (stl_mem.mpr ⟨j, by omega, c_17_2⟩)).symm, rfl⟩)
theorem meetB_t {u v : Nat} (h : u / 256 ≤ v % 256 ∧ v / 256 ≤ u % 256) : zi true = zi (meetB u v) := by simp [meetB, h.1, h.2]
theorem meetB_f {u v : Nat} (h : ¬ (u / 256 ≤ v % 256 ∧ v / 256 ≤ u % 256)) : zi false = zi (meetB u v) := by
  have : meetB u v = false := by
    cases hc : meetB u v with
    | false => rfl
    | true => simp [meetB] at hc; exact absurd hc h
  rw [this]
set_option maxHeartbeats 4000000 in
set_option maxRecDepth 100000 in
/-- meet(x, y) -/
theorem kMod_meet (l : Launch) (D : va_G) (cI cZ cJ : ClassId) (x y : Nat) (hx : x < 65536) (hy : y < 65536) : vx_Mi l yN_Mod_meet wN_Mod_meet ({ frames := 0, cells := 0, slots := 0, locals := 0 }) D clN (tyN cI cZ cJ) [.int (nI x), .int (nI y)] [] (fun r w => r = zi (meetB x y) ∧ w = []) := by
  refine vx_startI (cc := cN_Mod_meet) (maxL := 2) (ret := (some .boolean)) (by decide) rfl (Nat.le_of_ble_eq_true rfl) ?_
  intro p_0 e_0 s m below meth c_0 A ls C hK hP hD hS hA hl
  obtain ⟨hx, hb, hr, hml, hown, hts, hlocks, hnm⟩ := id C
  have hown : s.vm.findClass "StepMachinesModel" = some m.cls := hown
  have ht : ∀ w ∈ TB, w.before _ s = true := fun w h => hts w (List.mem_cons_of_mem _ h)
  have hl : lv_has ls 2 [(0, .int (nI x)), (1, .int (nI y))] := hl
  refine lv_iload_n hx hb dN_Mod_meet_0 rfl (lv_at hl 0 rfl) ?_
  refine lv_sipush (v := (nI 256)) hx hb dN_Mod_meet_1 (by decide) ?_
  refine xn_div hx hb dN_Mod_meet_4 (by omega) (by omega) (by omega) ?_
  refine lv_iload_n hx hb dN_Mod_meet_5 rfl (lv_at hl 1 rfl) ?_
  refine lv_sipush (v := (nI 256)) hx hb dN_Mod_meet_6 (by decide) ?_
  refine xn_rem hx hb dN_Mod_meet_9 (by omega) (by omega) (by omega) ?_
  refine xn_gt (tgt := 30) hx hb dN_Mod_meet_10 (by decide) (by omega) (by omega) (fun c_10_0 => ?_) (fun c_10_0 => ?_)
  · skip
    refine lv_iconst (v := (nI 0)) hx hb dN_Mod_meet_30 (by decide) ?_
    refine xn_top (y := zi false) rfl ?_
    exact vx_zret C hK hP hD hS dN_Mod_meet_31 (Nat.le_of_ble_eq_true rfl) (Nat.le_of_ble_eq_true rfl) (zi_nar2 _) (⟨meetB_f (by omega), rfl⟩)
  · skip
    refine lv_iload_n hx hb dN_Mod_meet_13 rfl (lv_at hl 1 rfl) ?_
    refine lv_sipush (v := (nI 256)) hx hb dN_Mod_meet_14 (by decide) ?_
    refine xn_div hx hb dN_Mod_meet_17 (by omega) (by omega) (by omega) ?_
    refine lv_iload_n hx hb dN_Mod_meet_18 rfl (lv_at hl 0 rfl) ?_
    refine lv_sipush (v := (nI 256)) hx hb dN_Mod_meet_19 (by decide) ?_
    refine xn_rem hx hb dN_Mod_meet_22 (by omega) (by omega) (by omega) ?_
    refine xn_gt (tgt := 30) hx hb dN_Mod_meet_23 (by decide) (by omega) (by omega) (fun c_23_1 => ?_) (fun c_23_1 => ?_)
    · skip
      refine lv_iconst (v := (nI 0)) hx hb dN_Mod_meet_30 (by decide) ?_
      refine xn_top (y := zi false) rfl ?_
      exact vx_zret C hK hP hD hS dN_Mod_meet_31 (Nat.le_of_ble_eq_true rfl) (Nat.le_of_ble_eq_true rfl) (zi_nar2 _) (⟨meetB_f (by omega), rfl⟩)
    · skip
      refine lv_iconst (v := (nI 1)) hx hb dN_Mod_meet_26 (by decide) ?_
      refine lv_goto (tgt := 31) hx hb dN_Mod_meet_27 (by decide) ?_
      refine xn_top (y := zi true) rfl ?_
      exact vx_zret C hK hP hD hS dN_Mod_meet_31 (Nat.le_of_ble_eq_true rfl) (Nat.le_of_ble_eq_true rfl) (zi_nar2 _) (⟨meetB_t (by omega), rfl⟩)
set_option maxHeartbeats 4000000 in
set_option maxRecDepth 100000 in
/-- areAlike(x, y) -/
theorem kMod_areAlike (l : Launch) (D : va_G) (cI cZ cJ : ClassId) (o : Nat) (q : Nat → Nat) (th n b len tr hi ma : Nat) (fI bt : Nat → Int32) (bs ba : Nat → Nat) (x y : Nat) (hx : x < 200) (hy : y < 200) (hbx : bs x < 2 ^ 20) (hby : bs y < 2 ^ 20) (hax : ba x < 2 ^ 6) (hay : ba y < 2 ^ 6) : vx_Mi l yN_Mod_areAlike wN_Mod_areAlike ({ frames := 0, cells := 0, slots := 0, locals := 0 }) D clN (tyN cI cZ cJ) [.ref o, .int (nI x), .int (nI y)] [(o, .inr (12, [.int (nI th), .int (nI n), .int (nI b), .ref (q 3), .ref (q 4), .ref (q 5), .ref (q 6), .ref (q 7), .int (nI len), .ref (q 9), .ref (q 10), .ref (q 11), .ref (q 12), .ref (q 13), .ref (q 14), .ref (q 15), .ref (q 16), .ref (q 17), .int (nI tr), .int (nI hi), .ref (q 20), .ref (q 21), .ref (q 22), .ref (q 23), .int (nI ma)])), (q 5, .inl (cI, 200, .inl fI)), (q 21, .inl (cI, 200, .inl (ni bs))), (q 22, .inl (cI, 200, .inl (ni ba))), (q 23, .inl (cI, 200, .inl bt))] (fun r w => r = zi (alB fI bs ba bt x y) ∧ w = [(o, .inr (12, [.int (nI th), .int (nI n), .int (nI b), .ref (q 3), .ref (q 4), .ref (q 5), .ref (q 6), .ref (q 7), .int (nI len), .ref (q 9), .ref (q 10), .ref (q 11), .ref (q 12), .ref (q 13), .ref (q 14), .ref (q 15), .ref (q 16), .ref (q 17), .int (nI tr), .int (nI hi), .ref (q 20), .ref (q 21), .ref (q 22), .ref (q 23), .int (nI ma)])), (q 5, .inl (cI, 200, .inl fI)), (q 21, .inl (cI, 200, .inl (ni bs))), (q 22, .inl (cI, 200, .inl (ni ba))), (q 23, .inl (cI, 200, .inl bt))]) := by
  refine vx_startI (cc := cN_Mod_areAlike) (maxL := 4) (ret := (some .boolean)) (by decide) rfl (Nat.le_of_ble_eq_true rfl) ?_
  intro p_0 e_0 s m below meth c_0 A ls C hK hP hD hS hA hl
  obtain ⟨hx, hb, hr, hml, hown, hts, hlocks, hnm⟩ := id C
  have hown : s.vm.findClass "StepMachinesModel" = some m.cls := hown
  have ht : ∀ w ∈ TB, w.before _ s = true := fun w h => hts w (List.mem_cons_of_mem _ h)
  have hl : lv_has ls 4 [(0, .ref o), (1, .int (nI x)), (2, .int (nI y))] := hl
  refine vx_join (α := Bool) (fun j1 => j1 = (decide (bt 0 < 0) || (decide (bt x < bt 0) == decide (bt y < bt 0)))) (fun j1 => F0 m 57 ls [.int (zi j1)]) (fun j1 hj1 => ?_) (fun Jj1 => ?_)
  · skip
    have hj_0 := hj1
    refine lv_istore_n (lv' := [(3, .int (zi j1)), (0, .ref o), (1, .int (nI x)), (2, .int (nI y))]) hx hb dN_Mod_areAlike_57 rfl hl (by decide) rfl (fun ls hl => ?_)
    refine lv_iload_n hx hb dN_Mod_areAlike_58 rfl (lv_at hl 0 rfl) ?_
    refine xz_eq0 (tgt := 111) hx hb dN_Mod_areAlike_59 (by decide) (fun c_59_1 => ?_) (fun c_59_1 => ?_)
    · skip
      refine lv_iconst (v := (nI 0)) hx hb dN_Mod_areAlike_111 (by decide) ?_
      refine xn_top (y := zi false) rfl ?_
      exact vx_zret C hK hP hD hS dN_Mod_areAlike_112 (Nat.le_of_ble_eq_true rfl) (Nat.le_of_ble_eq_true rfl) (zi_nar2 _) (⟨by rw [alB, ← hj_0]; simp [c_59_1], rfl⟩)
    · skip
      refine lv_aload_n hx hb dN_Mod_areAlike_62 rfl (lv_at hl 1 rfl) ?_
      refine va_get (D := D) (ci := 12) (v := .ref (q 5)) (C := RN_Mod) (T := FN_Mod) (N := 25) hx hb ht fN_Mod hown hK hP 0 rfl rfl 5 (by decide) (ht _ mw_977) (fun _ h9 => h9) rfl dN_Mod_areAlike_63 ?_
      refine lv_iload_n hx hb dN_Mod_areAlike_66 rfl (lv_at hl 2 rfl) ?_
      refine xi_ald hx hb hK hP 1 0 rfl rfl dN_Mod_areAlike_67 (by omega) (by omega) ?_
      refine lv_aload_n hx hb dN_Mod_areAlike_68 rfl (lv_at hl 1 rfl) ?_
      refine va_get (D := D) (ci := 12) (v := .ref (q 5)) (C := RN_Mod) (T := FN_Mod) (N := 25) hx hb ht fN_Mod hown hK hP 0 rfl rfl 5 (by decide) (ht _ mw_977) (fun _ h9 => h9) rfl dN_Mod_areAlike_69 ?_
      refine lv_iload_n hx hb dN_Mod_areAlike_72 rfl (lv_at hl 3 rfl) ?_
      refine xi_ald hx hb hK hP 1 0 rfl rfl dN_Mod_areAlike_73 (by omega) (by omega) ?_
      refine lv_icmp_ne (tgt := 111) hx hb dN_Mod_areAlike_74 (by decide) (fun c_74_2 => ?_) (fun c_74_2 => ?_)
      · skip
        refine lv_iconst (v := (nI 0)) hx hb dN_Mod_areAlike_111 (by decide) ?_
        refine xn_top (y := zi false) rfl ?_
        exact vx_zret C hK hP hD hS dN_Mod_areAlike_112 (Nat.le_of_ble_eq_true rfl) (Nat.le_of_ble_eq_true rfl) (zi_nar2 _) (⟨by rw [alB, ← hj_0]; simp [c_59_1, c_74_2], rfl⟩)
      · skip
        refine lv_aload_n hx hb dN_Mod_areAlike_77 rfl (lv_at hl 1 rfl) ?_
        refine va_get (D := D) (ci := 12) (v := .ref (q 21)) (C := RN_Mod) (T := FN_Mod) (N := 25) hx hb ht fN_Mod hown hK hP 0 rfl rfl 21 (by decide) (ht _ mw_993) (fun _ h9 => h9) rfl dN_Mod_areAlike_78 ?_
        refine lv_iload_n hx hb dN_Mod_areAlike_81 rfl (lv_at hl 2 rfl) ?_
        refine xn_ald hx hb hK hP 2 0 rfl rfl dN_Mod_areAlike_82 (by omega) (by omega) ?_
        refine lv_aload_n hx hb dN_Mod_areAlike_83 rfl (lv_at hl 1 rfl) ?_
        refine va_get (D := D) (ci := 12) (v := .ref (q 21)) (C := RN_Mod) (T := FN_Mod) (N := 25) hx hb ht fN_Mod hown hK hP 0 rfl rfl 21 (by decide) (ht _ mw_993) (fun _ h9 => h9) rfl dN_Mod_areAlike_84 ?_
        refine lv_iload_n hx hb dN_Mod_areAlike_87 rfl (lv_at hl 3 rfl) ?_
        refine xn_ald hx hb hK hP 2 0 rfl rfl dN_Mod_areAlike_88 (by omega) (by omega) ?_
        refine xn_ne (tgt := 111) hx hb dN_Mod_areAlike_89 (by decide) (by omega) (by omega) (fun c_89_3 => ?_) (fun c_89_3 => ?_)
        · skip
          refine lv_iconst (v := (nI 0)) hx hb dN_Mod_areAlike_111 (by decide) ?_
          refine xn_top (y := zi false) rfl ?_
          exact vx_zret C hK hP hD hS dN_Mod_areAlike_112 (Nat.le_of_ble_eq_true rfl) (Nat.le_of_ble_eq_true rfl) (zi_nar2 _) (⟨by rw [alB, ← hj_0]; simp [c_59_1, c_74_2, c_89_3], rfl⟩)
        · skip
          refine lv_aload_n hx hb dN_Mod_areAlike_92 rfl (lv_at hl 1 rfl) ?_
          refine va_get (D := D) (ci := 12) (v := .ref (q 22)) (C := RN_Mod) (T := FN_Mod) (N := 25) hx hb ht fN_Mod hown hK hP 0 rfl rfl 22 (by decide) (ht _ mw_994) (fun _ h9 => h9) rfl dN_Mod_areAlike_93 ?_
          refine lv_iload_n hx hb dN_Mod_areAlike_96 rfl (lv_at hl 2 rfl) ?_
          refine xn_ald hx hb hK hP 3 0 rfl rfl dN_Mod_areAlike_97 (by omega) (by omega) ?_
          refine lv_aload_n hx hb dN_Mod_areAlike_98 rfl (lv_at hl 1 rfl) ?_
          refine va_get (D := D) (ci := 12) (v := .ref (q 22)) (C := RN_Mod) (T := FN_Mod) (N := 25) hx hb ht fN_Mod hown hK hP 0 rfl rfl 22 (by decide) (ht _ mw_994) (fun _ h9 => h9) rfl dN_Mod_areAlike_99 ?_
          refine lv_iload_n hx hb dN_Mod_areAlike_102 rfl (lv_at hl 3 rfl) ?_
          refine xn_ald hx hb hK hP 3 0 rfl rfl dN_Mod_areAlike_103 (by omega) (by omega) ?_
          refine xn_ne (tgt := 111) hx hb dN_Mod_areAlike_104 (by decide) (by omega) (by omega) (fun c_104_4 => ?_) (fun c_104_4 => ?_)
          · skip
            refine lv_iconst (v := (nI 0)) hx hb dN_Mod_areAlike_111 (by decide) ?_
            refine xn_top (y := zi false) rfl ?_
            exact vx_zret C hK hP hD hS dN_Mod_areAlike_112 (Nat.le_of_ble_eq_true rfl) (Nat.le_of_ble_eq_true rfl) (zi_nar2 _) (⟨by rw [alB, ← hj_0]; simp [c_59_1, c_74_2, c_89_3, c_104_4], rfl⟩)
          · skip
            refine lv_iconst (v := (nI 1)) hx hb dN_Mod_areAlike_107 (by decide) ?_
            refine lv_goto (tgt := 112) hx hb dN_Mod_areAlike_108 (by decide) ?_
            refine xn_top (y := zi true) rfl ?_
            exact vx_zret C hK hP hD hS dN_Mod_areAlike_112 (Nat.le_of_ble_eq_true rfl) (Nat.le_of_ble_eq_true rfl) (zi_nar2 _) (⟨by rw [alB, ← hj_0]; simp [c_59_1, c_74_2, c_89_3, c_104_4], rfl⟩)
  · skip
    refine lv_aload_n hx hb dN_Mod_areAlike_0 rfl (lv_at hl 0 rfl) ?_
    refine va_get (D := D) (ci := 12) (v := .ref (q 23)) (C := RN_Mod) (T := FN_Mod) (N := 25) hx hb ht fN_Mod hown hK hP 0 rfl rfl 23 (by decide) (ht _ mw_995) (fun _ h9 => h9) rfl dN_Mod_areAlike_1 ?_
    refine lv_iconst (v := (nI 0)) hx hb dN_Mod_areAlike_4 (by decide) ?_
    refine xi_ald hx hb hK hP 4 0 rfl rfl dN_Mod_areAlike_5 (by omega) (by omega) ?_
    refine lv_if_lt (tgt := 52) hx hb dN_Mod_areAlike_6 (by decide) (fun c_6_5 => ?_) (fun c_6_5 => ?_)
    · skip
      refine lv_iconst (v := (zi true)) hx hb dN_Mod_areAlike_52 (by decide) ?_
      refine lv_goto (tgt := 57) hx hb dN_Mod_areAlike_53 (by decide) ?_
      exact Jj1 (true) (by simp only [decide_eq_true c_6_5, Bool.true_or])
    · skip
      refine vx_join (α := Bool) (fun j7 => j7 = decide (bt x < bt 0)) (fun j7 => F0 m 29 ls [.int (zi j7)]) (fun j7 hj7 => ?_) (fun Jj7 => ?_)
      · skip
        have hj_x := hj7
        refine vx_join (α := Bool) (fun j8 => j8 = decide (bt y < bt 0)) (fun j8 => F0 m 49 ls [.int (zi j8), .int (zi j7)]) (fun j8 hj8 => ?_) (fun Jj8 => ?_)
        · skip
          have hj_y := hj8
          refine lv_icmp_ne (tgt := 56) hx hb dN_Mod_areAlike_49 (by decide) (fun c_49_8 => ?_) (fun c_49_8 => ?_)
          · skip
            rw [zi_eq] at c_49_8
            refine lv_iconst (v := (zi false)) hx hb dN_Mod_areAlike_56 (by decide) ?_
            exact Jj1 (false) (by rw [decide_eq_false c_6_5, ← hj_x, ← hj_y, Bool.false_or]; exact (beq_eq_false_iff_ne.mpr c_49_8).symm)
          · skip
            rw [zi_eq] at c_49_8
            refine lv_iconst (v := (zi true)) hx hb dN_Mod_areAlike_52 (by decide) ?_
            refine lv_goto (tgt := 57) hx hb dN_Mod_areAlike_53 (by decide) ?_
            exact Jj1 (true) (by rw [decide_eq_false c_6_5, ← hj_x, ← hj_y, c_49_8]; simp)
        · skip
          refine lv_aload_n hx hb dN_Mod_areAlike_29 rfl (lv_at hl 0 rfl) ?_
          refine va_get (D := D) (ci := 12) (v := .ref (q 23)) (C := RN_Mod) (T := FN_Mod) (N := 25) hx hb ht fN_Mod hown hK hP 0 rfl rfl 23 (by decide) (ht _ mw_995) (fun _ h9 => h9) rfl dN_Mod_areAlike_30 ?_
          refine lv_iload_n hx hb dN_Mod_areAlike_33 rfl (lv_at hl 2 rfl) ?_
          refine xi_ald hx hb hK hP 4 0 rfl rfl dN_Mod_areAlike_34 (by omega) (by omega) ?_
          refine lv_aload_n hx hb dN_Mod_areAlike_35 rfl (lv_at hl 0 rfl) ?_
          refine va_get (D := D) (ci := 12) (v := .ref (q 23)) (C := RN_Mod) (T := FN_Mod) (N := 25) hx hb ht fN_Mod hown hK hP 0 rfl rfl 23 (by decide) (ht _ mw_995) (fun _ h9 => h9) rfl dN_Mod_areAlike_36 ?_
          refine lv_iconst (v := (nI 0)) hx hb dN_Mod_areAlike_39 (by decide) ?_
          refine xi_ald hx hb hK hP 4 0 rfl rfl dN_Mod_areAlike_40 (by omega) (by omega) ?_
          refine lv_icmp_ge (tgt := 48) hx hb dN_Mod_areAlike_41 (by decide) (fun c_41_9 => ?_) (fun c_41_9 => ?_)
          · skip
            refine lv_iconst (v := (zi false)) hx hb dN_Mod_areAlike_48 (by decide) ?_
            exact Jj8 (false) ((decide_eq_false (Int32.not_lt.mpr c_41_9)).symm)
          · skip
            refine lv_iconst (v := (zi true)) hx hb dN_Mod_areAlike_44 (by decide) ?_
            refine lv_goto (tgt := 49) hx hb dN_Mod_areAlike_45 (by decide) ?_
            exact Jj8 (true) ((decide_eq_true (Int32.not_le.mp c_41_9)).symm)
      · skip
        refine lv_aload_n hx hb dN_Mod_areAlike_9 rfl (lv_at hl 0 rfl) ?_
        refine va_get (D := D) (ci := 12) (v := .ref (q 23)) (C := RN_Mod) (T := FN_Mod) (N := 25) hx hb ht fN_Mod hown hK hP 0 rfl rfl 23 (by decide) (ht _ mw_995) (fun _ h9 => h9) rfl dN_Mod_areAlike_10 ?_
        refine lv_iload_n hx hb dN_Mod_areAlike_13 rfl (lv_at hl 1 rfl) ?_
        refine xi_ald hx hb hK hP 4 0 rfl rfl dN_Mod_areAlike_14 (by omega) (by omega) ?_
        refine lv_aload_n hx hb dN_Mod_areAlike_15 rfl (lv_at hl 0 rfl) ?_
        refine va_get (D := D) (ci := 12) (v := .ref (q 23)) (C := RN_Mod) (T := FN_Mod) (N := 25) hx hb ht fN_Mod hown hK hP 0 rfl rfl 23 (by decide) (ht _ mw_995) (fun _ h9 => h9) rfl dN_Mod_areAlike_16 ?_
        refine lv_iconst (v := (nI 0)) hx hb dN_Mod_areAlike_19 (by decide) ?_
        refine xi_ald hx hb hK hP 4 0 rfl rfl dN_Mod_areAlike_20 (by omega) (by omega) ?_
        refine lv_icmp_ge (tgt := 28) hx hb dN_Mod_areAlike_21 (by decide) (fun c_21_10 => ?_) (fun c_21_10 => ?_)
        · skip
          refine lv_iconst (v := (zi false)) hx hb dN_Mod_areAlike_28 (by decide) ?_
          exact Jj7 (false) ((decide_eq_false (Int32.not_lt.mpr c_21_10)).symm)
        · skip
          refine lv_iconst (v := (zi true)) hx hb dN_Mod_areAlike_24 (by decide) ?_
          refine lv_goto (tgt := 29) hx hb dN_Mod_areAlike_25 (by decide) ?_
          exact Jj7 (true) ((decide_eq_true (Int32.not_le.mp c_21_10)).symm)
