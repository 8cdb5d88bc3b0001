theorem wp_n {n len : Nat} (hn : n ≤ 200) (hle : len ≤ 200) : n * (len + 1) ≤ 40200 ∧ n * (len + 1) ≤ 32 * (n * (len + 1) / 32 + 1) := by
  have h1 : n * (len + 1) ≤ 200 * 201 := Nat.mul_le_mul hn (by omega)
  exact ⟨by omega, by omega⟩
set_option maxHeartbeats 4000000 in
set_option maxRecDepth 100000 in
/-- wipe() -/
theorem kMarks_wipe (l : Launch) (D : va_G) (cI cZ cJ : ClassId) (mk pr pK pV pF pS su sb ta be nw jo tr n b len : Nat) (g9 : Nat → Bool) (hn : n ≤ 200) (hle : len ≤ 200) : vx_Mv l yN_Marks_wipe wN_Marks_wipe ({ frames := 0, cells := 0, slots := 0, locals := 0 }) D clN (tyN cI cZ cJ) [.ref mk] [(mk, .inr (2, [.ref pr, .ref su, .ref ta, .ref be, .ref nw, .ref jo, .ref tr])), (pr, .inr (4, [.ref pK, .ref pV, .ref pF, .ref pS, .int (nI n), .int (nI b)])), (su, .inr (7, [.ref sb, .int (nI len)])), (tr, .inl (cI, 1257, .inl ((pk1 g9))))] (fun w => w = [(mk, .inr (2, [.ref pr, .ref su, .ref ta, .ref be, .ref nw, .ref jo, .ref tr])), (pr, .inr (4, [.ref pK, .ref pV, .ref pF, .ref pS, .int (nI n), .int (nI b)])), (su, .inr (7, [.ref sb, .int (nI len)])), (tr, .inl (cI, 1257, .inl ((pk1 (wp1 g9 (n * (len + 1) / 32 + 1))))))]) := by
  refine vx_startV (cc := cN_Marks_wipe) (maxL := 3) (ret := none) (by decide) rfl (Nat.le_of_ble_eq_true rfl) ?_
  intro p_0 e_0 s m below meth c_0 A ls C hK hP hD hS hA hl
  obtain ⟨hx, hb, hr, hml, hown, hts, hlocks, hnm⟩ := id C
  have hown : s.vm.findClass "StepMachines$Marks" = some m.cls := hown
  have ht : ∀ w ∈ TB, w.before _ s = true := fun w h => hts w (List.mem_cons_of_mem _ h)
  have hl : lv_has ls 3 [(0, .ref mk)] := hl
  refine lv_aload_n hx hb dN_Marks_wipe_0 rfl (lv_at hl 0 rfl) ?_
  refine va_get (D := D) (ci := 2) (v := .ref pr) (C := RN_Marks) (T := FN_Marks) (N := 7) hx hb ht fN_Marks hown hK hP 0 rfl rfl 0 (by decide) (ht _ mw_198) (fun _ h9 => h9) rfl dN_Marks_wipe_1 ?_
  refine va_get (D := D) (ci := 4) (v := .int (nI n)) (C := RN_Program) (T := FN_Program) (N := 6) hx hb ht fN_Program hown hK hP 1 rfl rfl 4 (by decide) (ht _ mw_57) (fun _ h9 => h9) rfl dN_Marks_wipe_4 ?_
  refine lv_aload_n hx hb dN_Marks_wipe_7 rfl (lv_at hl 0 rfl) ?_
  refine va_get (D := D) (ci := 2) (v := .ref su) (C := RN_Marks) (T := FN_Marks) (N := 7) hx hb ht fN_Marks hown hK hP 0 rfl rfl 1 (by decide) (ht _ mw_199) (fun _ h9 => h9) rfl dN_Marks_wipe_8 ?_
  refine va_get (D := D) (ci := 7) (v := .int (nI len)) (C := RN_Subject) (T := FN_Subject) (N := 2) hx hb ht fN_Subject hown hK hP 2 rfl rfl 1 (by decide) (ht _ mw_87) (fun _ h9 => h9) rfl dN_Marks_wipe_11 ?_
  refine lv_iconst (v := (nI 1)) hx hb dN_Marks_wipe_14 (by decide) ?_
  refine xn_add hx hb dN_Marks_wipe_15 ?_
  refine xn_mul hx hb dN_Marks_wipe_16 ?_
  refine lv_bipush (v := (nI 32)) hx hb dN_Marks_wipe_17 (by decide) ?_
  refine xn_div hx hb dN_Marks_wipe_19 (by have := wp_n hn hle; omega) (by omega) (by omega) ?_
  refine lv_iconst (v := (nI 1)) hx hb dN_Marks_wipe_20 (by decide) ?_
  refine xn_add hx hb dN_Marks_wipe_21 ?_
  refine lv_istore_n (lv' := [(1, .int (nI (((n * (len + 1)) / 32) + 1))), (0, .ref mk)]) hx hb dN_Marks_wipe_22 rfl hl (by decide) rfl (fun ls hl => ?_)
  refine lv_iconst (v := (nI 0)) hx hb dN_Marks_wipe_23 (by decide) ?_
  have hP : va_P D clN [(mk, .inr (2, [.ref pr, .ref su, .ref ta, .ref be, .ref nw, .ref jo, .ref tr])), (pr, .inr (4, [.ref pK, .ref pV, .ref pF, .ref pS, .int (nI n), .int (nI b)])), (su, .inr (7, [.ref sb, .int (nI len)])), (tr, .inl (cI, 1257, .inl ((pk1 (wp1 g9 0)))))] _ := xP_fn (q := 3) (g := (pk1 (wp1 g9 0))) hP rfl (fun j _ => congrFun ((by rw [wp1_0])) j)
  have hD : va_D A [(mk, .inr (2, [.ref pr, .ref su, .ref ta, .ref be, .ref nw, .ref jo, .ref tr])), (pr, .inr (4, [.ref pK, .ref pV, .ref pF, .ref pS, .int (nI n), .int (nI b)])), (su, .inr (7, [.ref sb, .int (nI len)])), (tr, .inl (cI, 1257, .inl ((pk1 (wp1 g9 0)))))] := xD_fn (q := 3) hD rfl
  refine lv_istore_n (lv' := [(2, .int (nI 0)), (1, .int (nI (((n * (len + 1)) / 32) + 1))), (0, .ref mk)]) hx hb dN_Marks_wipe_24 rfl hl (by decide) rfl (fun ls hl => ?_)
  refine vx_loop (α := Nat) (fun (vv : Nat) (H : Heap) (locs : List Loc) (ls : Array Slot) => match vv with | (i) => va_P D clN [(mk, .inr (2, [.ref pr, .ref su, .ref ta, .ref be, .ref nw, .ref jo, .ref tr])), (pr, .inr (4, [.ref pK, .ref pV, .ref pF, .ref pS, .int (nI n), .int (nI b)])), (su, .inr (7, [.ref sb, .int (nI len)])), (tr, .inl (cI, 1257, .inl ((pk1 (wp1 g9 i)))))] H ∧ va_D A [(mk, .inr (2, [.ref pr, .ref su, .ref ta, .ref be, .ref nw, .ref jo, .ref tr])), (pr, .inr (4, [.ref pK, .ref pV, .ref pF, .ref pS, .int (nI n), .int (nI b)])), (su, .inr (7, [.ref sb, .int (nI len)])), (tr, .inl (cI, 1257, .inl ((pk1 (wp1 g9 i)))))] ∧ va_S A s.heap H locs ∧ lv_has ls 3 [(0, .ref mk), (1, .int (nI (n * (len + 1) / 32 + 1))), (2, .int (nI i))] ∧ (i ≤ n * (len + 1) / 32 + 1)) (fun (vv : Nat) => match vv with | (i) => n * (len + 1) / 32 + 1 - i) 25 [] ?_ (0) ⟨hP, hD, hS, lv_sub hl [2, 1, 0] rfl, by omega⟩
  intro vv H locs ls hq ih_25_0
  obtain ⟨i, rfl⟩ : ∃ z, z = vv := ⟨_, rfl⟩
  obtain ⟨hP, hD, hS, hl, hI⟩ := hq
  have hw := wp_n hn hle
  refine lv_iload_n hx hb dN_Marks_wipe_25 rfl (lv_at hl 2 rfl) ?_
  refine lv_iload_n hx hb dN_Marks_wipe_26 rfl (lv_at hl 1 rfl) ?_
  refine xn_ge (tgt := 52) hx hb dN_Marks_wipe_27 (by decide) (by omega) (by omega) (fun c_27_1 => ?_) (fun c_27_1 => ?_)
  · skip
    exact vx_vret C hK hP hD hS dN_Marks_wipe_52 (Nat.le_of_ble_eq_true rfl) (Nat.le_of_ble_eq_true rfl) (by rw [show i = n * (len + 1) / 32 + 1 by omega])
  · skip
    refine lv_iload_n hx hb dN_Marks_wipe_30 rfl (lv_at hl 2 rfl) ?_
    refine lv_aload_n hx hb dN_Marks_wipe_31 rfl (lv_at hl 0 rfl) ?_
    refine va_get (D := D) (ci := 2) (v := .ref tr) (C := RN_Marks) (T := FN_Marks) (N := 7) hx hb ht fN_Marks hown hK hP 0 rfl rfl 6 (by decide) (ht _ mw_204) (fun _ h9 => h9) rfl dN_Marks_wipe_32 ?_
    refine va_alen (v := nI (1257)) hx hb hK hP 3 0 rfl rfl rfl dN_Marks_wipe_35 ?_
    refine xn_ge (tgt := 52) hx hb dN_Marks_wipe_36 (by decide) (by omega) (by omega) (fun c_36_2 => ?_) (fun c_36_2 => ?_)
    · skip
      exact absurd c_36_2 (by omega)
    · skip
      refine lv_aload_n hx hb dN_Marks_wipe_39 rfl (lv_at hl 0 rfl) ?_
      refine va_get (D := D) (ci := 2) (v := .ref tr) (C := RN_Marks) (T := FN_Marks) (N := 7) hx hb ht fN_Marks hown hK hP 0 rfl rfl 6 (by decide) (ht _ mw_204) (fun _ h9 => h9) rfl dN_Marks_wipe_40 ?_
      refine lv_iload_n hx hb dN_Marks_wipe_43 rfl (lv_at hl 2 rfl) ?_
      refine lv_iconst (v := 0) hx hb dN_Marks_wipe_44 (by decide) ?_
      refine xi_ast hx hb hK hP hD hS 3 0 rfl rfl dN_Marks_wipe_45 (by omega) (by omega) (fun H locs hP hD hS => ?_)
      have hP : va_P D clN [(mk, .inr (2, [.ref pr, .ref su, .ref ta, .ref be, .ref nw, .ref jo, .ref tr])), (pr, .inr (4, [.ref pK, .ref pV, .ref pF, .ref pS, .int (nI n), .int (nI b)])), (su, .inr (7, [.ref sb, .int (nI len)])), (tr, .inl (cI, 1257, .inl ((upd (pk1 (wp1 g9 i)) i 0))))] H := hP
      have hD : va_D A [(mk, .inr (2, [.ref pr, .ref su, .ref ta, .ref be, .ref nw, .ref jo, .ref tr])), (pr, .inr (4, [.ref pK, .ref pV, .ref pF, .ref pS, .int (nI n), .int (nI b)])), (su, .inr (7, [.ref sb, .int (nI len)])), (tr, .inl (cI, 1257, .inl ((upd (pk1 (wp1 g9 i)) i 0))))] := hD
      have hP : va_P D clN [(mk, .inr (2, [.ref pr, .ref su, .ref ta, .ref be, .ref nw, .ref jo, .ref tr])), (pr, .inr (4, [.ref pK, .ref pV, .ref pF, .ref pS, .int (nI n), .int (nI b)])), (su, .inr (7, [.ref sb, .int (nI len)])), (tr, .inl (cI, 1257, .inl ((pk1 (wp1 g9 (i + 1))))))] _ := xP_fn (q := 3) (g := (pk1 (wp1 g9 (i + 1)))) hP rfl (fun j _ => congrFun ((pk1_wp g9 i)) j)
      have hD : va_D A [(mk, .inr (2, [.ref pr, .ref su, .ref ta, .ref be, .ref nw, .ref jo, .ref tr])), (pr, .inr (4, [.ref pK, .ref pV, .ref pF, .ref pS, .int (nI n), .int (nI b)])), (su, .inr (7, [.ref sb, .int (nI len)])), (tr, .inl (cI, 1257, .inl ((pk1 (wp1 g9 (i + 1))))))] := xD_fn (q := 3) hD rfl
      refine lv_iinc (v := (nI (i + 1))) (lv' := [(2, .int (nI (i + 1))), (0, .ref mk), (1, .int (nI (n * (len + 1) / 32 + 1)))]) hx hb dN_Marks_wipe_46 hl (k := 2) rfl (nI_1 _) (by decide) rfl (fun ls hl => ?_)
      refine lv_goto (tgt := 25) hx hb dN_Marks_wipe_49 (by decide) ?_
      exact ih_25_0 (i + 1) _ _ _ ⟨hP, hD, hS, lv_sub hl [1, 2, 0] rfl, by omega⟩ (show (n * (len + 1) / 32 + 1 - (i + 1)) < (n * (len + 1) / 32 + 1 - i) from by omega)
theorem mr_last {K V F S : Nat → Nat} {len : Nat} {u : Nat → Nat} {n b how fr la tk tk2 : Nat} {lo : Bool} {be2 : Sv} (hla : la = (if how = 0 then len else fr)) (hfr : fr ≤ len) (h : be2 = beS (mrN (chG K V F S len u) len how b 100000 lo (la + 1 - fr) fr (fun _ => false)) ∧ BeOk (mrN (chG K V F S len u) len how b 100000 lo (la + 1 - fr) fr (fun _ => false)) ∧ tk2 ≤ tk + 2 * ((len + 1) * n) + (la + 1)) :
    be2 = beS (mrN (chG K V F S len u) len how b 100000 lo (if how = 0 then len + 1 - fr else 1) fr (fun _ => false)) ∧ BeOk (mrN (chG K V F S len u) len how b 100000 lo (if how = 0 then len + 1 - fr else 1) fr (fun _ => false)) ∧ tk2 ≤ tk + 2 * ((len + 1) * n) + (len + 1) := by
  subst hla
  by_cases h0 : how = 0
  · rw [if_pos h0] at h ⊢; exact h
  · rw [if_neg h0] at h ⊢
    rw [show fr + 1 - fr = 1 by omega] at h
    exact ⟨h.1, h.2.1, by omega⟩
set_option maxHeartbeats 4000000 in
set_option maxRecDepth 100000 in
/-- Marks.run -/
theorem kMarks_run (l : Launch) (D : va_G) (cI cZ cJ : ClassId) (mk pr pK pV pF pS su sb ta be nw jo jf tr n b tk ov : Nat) (kC vC fC sC : Nat → Nat) (K V F S : Nat → Nat) (len : Nat) (u : Nat → Nat) (how fr c : Nat) (js : Nat → Nat) (sv : Sv) (g9 : Nat → Bool) (lo : Bool) (N : List Nd2) (hPg : Pg n kC vC fC sC K V F S) (hN : AllN n len N) (hb0 : b < n) (hfr : fr ≤ len) (hle : len ≤ 200) (hh : how < 3) (hu : ∀ i, u i < 256) : vx_Mv l yN_Marks_run wN_Marks_run ({ frames := 6, cells := 0, slots := 0, locals := 280 }) D clN (tyN cI cZ cJ) [.ref mk, .int (nI how), .int (zi lo), .int (nI fr)] [(mk, .inr (2, [.ref pr, .ref su, .ref ta, .ref be, .ref nw, .ref jo, .ref tr])), (pr, .inr (4, [.ref pK, .ref pV, .ref pF, .ref pS, .int (nI n), .int (nI b)])), (pK, .inl (cI, 200, .inl (ni kC))), (pV, .inl (cI, 200, .inl (ni vC))), (pF, .inl (cI, 200, .inl (ni fC))), (pS, .inl (cI, 200, .inl (ni sC))), (su, .inr (7, [.ref sb, .int (nI len)])), (sb, .inl (cI, 200, .inl (ni u))), (ta, .inr (9, [.int (nI tk), .int (nI ov)])), (be, .inl (cI, 20, .inl ((fun _ => -1)))), (nw, .inl (cI, 20, .inl sv)), (jo, .inr (0, [.ref jf, .int (nI c)])), (jf, .inl (cJ, 10051, .inr (.inl ((pkJ js))))), (tr, .inl (cI, 1257, .inl ((pk1 g9))))] (fun w => ∃ (tk2 c2 : Nat) (js2 : Nat → Nat) (sv2 be2 : Sv) (g2 : Nat → Bool), w = [(mk, .inr (2, [.ref pr, .ref su, .ref ta, .ref be, .ref nw, .ref jo, .ref tr])), (pr, .inr (4, [.ref pK, .ref pV, .ref pF, .ref pS, .int (nI n), .int (nI b)])), (pK, .inl (cI, 200, .inl (ni kC))), (pV, .inl (cI, 200, .inl (ni vC))), (pF, .inl (cI, 200, .inl (ni fC))), (pS, .inl (cI, 200, .inl (ni sC))), (su, .inr (7, [.ref sb, .int (nI len)])), (sb, .inl (cI, 200, .inl (ni u))), (ta, .inr (9, [.int (nI tk2), .int (nI ov)])), (be, .inl (cI, 20, .inl be2)), (nw, .inl (cI, 20, .inl sv2)), (jo, .inr (0, [.ref jf, .int (nI c2)])), (jf, .inl (cJ, 10051, .inr (.inl ((pkJ js2))))), (tr, .inl (cI, 1257, .inl ((pk1 g2))))] ∧ be2 = beS (mrN (chG K V F S len u) len how b 100000 lo (if how = 0 then len + 1 - fr else 1) fr (fun _ => false)) ∧ BeOk (mrN (chG K V F S len u) len how b 100000 lo (if how = 0 then len + 1 - fr else 1) fr (fun _ => false)) ∧ tk2 ≤ tk + 2 * ((len + 1) * n) + (len + 1)) := by
  refine vx_startV (cc := cN_Marks_run) (maxL := 6) (ret := none) (by decide) rfl (Nat.le_of_ble_eq_true rfl) ?_
  intro p_0 e_0 s m below meth c_0 A ls C hK hP hD hS hA hl
  obtain ⟨hx, hb, hr, hml, hown, hts, hlocks, hnm⟩ := id C
  have hown : s.vm.findClass "StepMachines$Marks" = some m.cls := hown
  have ht : ∀ w ∈ TB, w.before _ s = true := fun w h => hts w (List.mem_cons_of_mem _ h)
  have hl : lv_has ls 6 [(0, .ref mk), (1, .int (nI how)), (2, .int (zi lo)), (3, .int (nI fr))] := hl
  refine lv_aload_n hx hb dN_Marks_run_0 rfl (lv_at hl 0 rfl) ?_
  refine vx_callv (wc := [(mk, .inr (2, [.ref pr, .ref su, .ref ta, .ref be, .ref nw, .ref jo, .ref tr])), (pr, .inr (4, [.ref pK, .ref pV, .ref pF, .ref pS, .int (nI n), .int (nI b)])), (su, .inr (7, [.ref sb, .int (nI len)])), (tr, .inl (cI, 1257, .inl ((pk1 g9))))]) (wr := [(pK, .inl (cI, 200, .inl (ni kC))), (pV, .inl (cI, 200, .inl (ni vC))), (pF, .inl (cI, 200, .inl (ni fC))), (pS, .inl (cI, 200, .inl (ni sC))), (sb, .inl (cI, 200, .inl (ni u))), (ta, .inr (9, [.int (nI tk), .int (nI ov)])), (be, .inl (cI, 20, .inl ((fun _ => -1)))), (nw, .inl (cI, 20, .inl sv)), (jo, .inr (0, [.ref jf, .int (nI c)])), (jf, .inl (cJ, 10051, .inr (.inl ((pkJ js)))))]) [0, 1, 6, 13] [2, 3, 4, 5, 7, 8, 9, 10, 11, 12] hK hP hD hS hA rfl rfl (by decide) (by decide) (va_runV (As := []) (rest := []) ⟨hx, hb, hml, hown, ht⟩ (kMarks_wipe l D cI cZ cJ mk pr pK pV pF pS su sb ta be nw jo tr n b len g9 hPg.2.1 hle _) (⟨callB_of 0 ht (TB_in2 gN_Marks_wipe) rfl rfl rfl (ht _ mw_8) (ht _ mw_630) (by decide +kernel) ⟨Nat.le_of_ble_eq_true rfl, Nat.le_of_ble_eq_true rfl⟩, ht _ mw_632, ht _ ms_9⟩) (vx_preV [0, 1, 6, 13] hK hP hD (by decide) rfl (ci := 2) rfl 0 rfl) rfl rfl hl.1 rfl (lv_room (Nat.le_of_ble_eq_true rfl)) dN_Marks_run_1 ⟨Nat.le_of_ble_eq_true rfl, Nat.le_of_ble_eq_true rfl⟩) (fun w1 H locs hq hP hD hS => ?_)
  subst hq
  have hP : va_P D clN [(mk, .inr (2, [.ref pr, .ref su, .ref ta, .ref be, .ref nw, .ref jo, .ref tr])), (pr, .inr (4, [.ref pK, .ref pV, .ref pF, .ref pS, .int (nI n), .int (nI b)])), (pK, .inl (cI, 200, .inl (ni kC))), (pV, .inl (cI, 200, .inl (ni vC))), (pF, .inl (cI, 200, .inl (ni fC))), (pS, .inl (cI, 200, .inl (ni sC))), (su, .inr (7, [.ref sb, .int (nI len)])), (sb, .inl (cI, 200, .inl (ni u))), (ta, .inr (9, [.int (nI tk), .int (nI ov)])), (be, .inl (cI, 20, .inl ((fun _ => -1)))), (nw, .inl (cI, 20, .inl sv)), (jo, .inr (0, [.ref jf, .int (nI c)])), (jf, .inl (cJ, 10051, .inr (.inl ((pkJ js))))), (tr, .inl (cI, 1257, .inl ((pk1 (wp1 g9 (n * (len + 1) / 32 + 1))))))] H := hP.sub [10, 11, 0, 1, 2, 3, 12, 4, 5, 6, 7, 8, 9, 13] rfl
  have hD : va_D A [(mk, .inr (2, [.ref pr, .ref su, .ref ta, .ref be, .ref nw, .ref jo, .ref tr])), (pr, .inr (4, [.ref pK, .ref pV, .ref pF, .ref pS, .int (nI n), .int (nI b)])), (pK, .inl (cI, 200, .inl (ni kC))), (pV, .inl (cI, 200, .inl (ni vC))), (pF, .inl (cI, 200, .inl (ni fC))), (pS, .inl (cI, 200, .inl (ni sC))), (su, .inr (7, [.ref sb, .int (nI len)])), (sb, .inl (cI, 200, .inl (ni u))), (ta, .inr (9, [.int (nI tk), .int (nI ov)])), (be, .inl (cI, 20, .inl ((fun _ => -1)))), (nw, .inl (cI, 20, .inl sv)), (jo, .inr (0, [.ref jf, .int (nI c)])), (jf, .inl (cJ, 10051, .inr (.inl ((pkJ js))))), (tr, .inl (cI, 1257, .inl ((pk1 (wp1 g9 (n * (len + 1) / 32 + 1))))))] := hD.sub [10, 11, 0, 1, 2, 3, 12, 4, 5, 6, 7, 8, 9, 13] (by decide) rfl
  refine vx_join (α := Nat) (fun j1 => j1 = (if how = 0 then len else fr)) (fun j1 => F0 m 19 ls [.int (nI j1)]) (fun j1 hj1 => ?_) (fun Jj1 => ?_)
  · skip
    have hla := hj1
    have hla2 : fr ≤ j1 ∧ j1 ≤ len := by rw [hj1]; split <;> omega
    refine lv_istore (lv' := [(4, .int (nI j1)), (0, .ref mk), (1, .int (nI how)), (2, .int (zi lo)), (3, .int (nI fr))]) hx hb dN_Marks_run_19 hl (by decide) rfl (fun ls hl => ?_)
    refine lv_iload_n hx hb dN_Marks_run_21 rfl (lv_at hl 4 rfl) ?_
    refine lv_istore (lv' := [(5, .int (nI fr)), (4, .int (nI j1)), (0, .ref mk), (1, .int (nI how)), (2, .int (zi lo)), (3, .int (nI fr))]) hx hb dN_Marks_run_22 hl (by decide) rfl (fun ls hl => ?_)
    refine vx_loop (α := Nat × (Nat → Bool) × Sv × (Option (Nat × Sv)) × Nat × Nat × (Nat → Nat) × Sv) (fun (vv : Nat × (Nat → Bool) × Sv × (Option (Nat × Sv)) × Nat × Nat × (Nat → Nat) × Sv) (H : Heap) (locs : List Loc) (ls : Array Slot) => match vv with | (p9, h9, be9, best9, tk9, c9, js9, sv9) => va_P D clN [(mk, .inr (2, [.ref pr, .ref su, .ref ta, .ref be, .ref nw, .ref jo, .ref tr])), (pr, .inr (4, [.ref pK, .ref pV, .ref pF, .ref pS, .int (nI n), .int (nI b)])), (pK, .inl (cI, 200, .inl (ni kC))), (pV, .inl (cI, 200, .inl (ni vC))), (pF, .inl (cI, 200, .inl (ni fC))), (pS, .inl (cI, 200, .inl (ni sC))), (su, .inr (7, [.ref sb, .int (nI len)])), (sb, .inl (cI, 200, .inl (ni u))), (ta, .inr (9, [.int (nI tk9), .int (nI ov)])), (be, .inl (cI, 20, .inl be9)), (nw, .inl (cI, 20, .inl sv9)), (jo, .inr (0, [.ref jf, .int (nI c9)])), (jf, .inl (cJ, 10051, .inr (.inl ((pkJ js9))))), (tr, .inl (cI, 1257, .inl ((pk1 h9))))] H ∧ va_D A [(mk, .inr (2, [.ref pr, .ref su, .ref ta, .ref be, .ref nw, .ref jo, .ref tr])), (pr, .inr (4, [.ref pK, .ref pV, .ref pF, .ref pS, .int (nI n), .int (nI b)])), (pK, .inl (cI, 200, .inl (ni kC))), (pV, .inl (cI, 200, .inl (ni vC))), (pF, .inl (cI, 200, .inl (ni fC))), (pS, .inl (cI, 200, .inl (ni sC))), (su, .inr (7, [.ref sb, .int (nI len)])), (sb, .inl (cI, 200, .inl (ni u))), (ta, .inr (9, [.int (nI tk9), .int (nI ov)])), (be, .inl (cI, 20, .inl be9)), (nw, .inl (cI, 20, .inl sv9)), (jo, .inr (0, [.ref jf, .int (nI c9)])), (jf, .inl (cJ, 10051, .inr (.inl ((pkJ js9))))), (tr, .inl (cI, 1257, .inl ((pk1 h9))))] ∧ va_S A s.heap H locs ∧ lv_has ls 6 [(0, .ref mk), (1, .int (nI how)), (2, .int (zi lo)), (4, .int (nI j1)), (5, .int (nI p9))] ∧ (MRI K V F S len u n b how 100000 lo N (mrN (chG K V F S len u) len how b 100000 lo (j1 + 1 - fr) fr (fun _ => false)) (tk + 2 * ((len + 1) * n)) j1 p9 h9 be9 best9 tk9 ∧ fr ≤ p9)) (fun (vv : Nat × (Nat → Bool) × Sv × (Option (Nat × Sv)) × Nat × Nat × (Nat → Nat) × Sv) => match vv with | (p9, h9, be9, best9, tk9, c9, js9, sv9) => j1 + 1 - p9) 24 [] ?_ (fr, wp1 g9 (n * (len + 1) / 32 + 1), fun _ => -1, none, tk, c, js, sv) ⟨hP, hD, hS, lv_sub hl [2, 3, 4, 1, 0] rfl, ⟨MRI_0 hN hla2.1 (wp_n hPg.2.1 hle).2, Nat.le_refl _⟩⟩
    intro vv H locs ls hq ih_24_1
    obtain ⟨p9, h9, be9, best9, tk9, c9, js9, sv9⟩ := vv
    obtain ⟨hP, hD, hS, hl, ⟨hR9, hfp⟩⟩ := hq
    have hp9 := hR9.2.2.1
    refine lv_iload hx hb dN_Marks_run_24 (lv_at hl 4 rfl) ?_
    refine lv_iload hx hb dN_Marks_run_26 (lv_at hl 3 rfl) ?_
    refine xn_gt (tgt := 55) hx hb dN_Marks_run_28 (by decide) (by omega) (by omega) (fun c_28_2 => ?_) (fun c_28_2 => ?_)
    · skip
      exact vx_vret C hK hP hD hS dN_Marks_run_55 (Nat.le_of_ble_eq_true rfl) (Nat.le_of_ble_eq_true rfl) (⟨_, _, _, _, _, _, rfl, mr_last hla hfr (MRI_end hR9 (Or.inl (by omega)))⟩)
    · skip
      refine lv_aload_n hx hb dN_Marks_run_31 rfl (lv_at hl 0 rfl) ?_
      refine va_get (D := D) (ci := 2) (v := .ref be) (C := RN_Marks) (T := FN_Marks) (N := 7) hx hb ht fN_Marks hown hK hP 0 rfl rfl 3 (by decide) (ht _ mw_201) (fun _ h9 => h9) rfl dN_Marks_run_32 ?_
      refine lv_iconst (v := (nI 1)) hx hb dN_Marks_run_35 (by decide) ?_
      refine xi_ald hx hb hK hP 9 0 rfl rfl dN_Marks_run_36 (by omega) (by omega) ?_
      refine lv_iconst (v := (-1)) hx hb dN_Marks_run_37 (by decide) ?_
      refine lv_icmp_ne (tgt := 55) hx hb dN_Marks_run_38 (by decide) (fun c_38_3 => ?_) (fun c_38_3 => ?_)
      · skip
        exact vx_vret C hK hP hD hS dN_Marks_run_55 (Nat.le_of_ble_eq_true rfl) (Nat.le_of_ble_eq_true rfl) (⟨_, _, _, _, _, _, rfl, mr_last hla hfr (MRI_end hR9 (Or.inr c_38_3))⟩)
      · skip
        have hno : best9 = none := (beS_1 hR9.2.1).mp (by rw [← hR9.1]; exact c_38_3)
        have hbe9 : be9 = fun _ => -1 := by rw [hR9.1, hno]; rfl
        rw [hbe9] at hP hD
        have hP : va_P D clN [(mk, .inr (2, [.ref pr, .ref su, .ref ta, .ref be, .ref nw, .ref jo, .ref tr])), (pr, .inr (4, [.ref pK, .ref pV, .ref pF, .ref pS, .int (nI n), .int (nI b)])), (pK, .inl (cI, 200, .inl (ni kC))), (pV, .inl (cI, 200, .inl (ni vC))), (pF, .inl (cI, 200, .inl (ni fC))), (pS, .inl (cI, 200, .inl (ni sC))), (su, .inr (7, [.ref sb, .int (nI len)])), (sb, .inl (cI, 200, .inl (ni u))), (ta, .inr (9, [.int (nI tk9), .int (nI ov)])), (be, .inl (cI, 20, .inl ((fun _ => -1)))), (nw, .inl (cI, 20, .inl sv9)), (jo, .inr (0, [.ref jf, .int (nI c9)])), (jf, .inl (cJ, 10051, .inr (.inl ((pkJ js9))))), (tr, .inl (cI, 1257, .inl ((pk1 h9))))] H := hP
        have hD : va_D A [(mk, .inr (2, [.ref pr, .ref su, .ref ta, .ref be, .ref nw, .ref jo, .ref tr])), (pr, .inr (4, [.ref pK, .ref pV, .ref pF, .ref pS, .int (nI n), .int (nI b)])), (pK, .inl (cI, 200, .inl (ni kC))), (pV, .inl (cI, 200, .inl (ni vC))), (pF, .inl (cI, 200, .inl (ni fC))), (pS, .inl (cI, 200, .inl (ni sC))), (su, .inr (7, [.ref sb, .int (nI len)])), (sb, .inl (cI, 200, .inl (ni u))), (ta, .inr (9, [.int (nI tk9), .int (nI ov)])), (be, .inl (cI, 20, .inl ((fun _ => -1)))), (nw, .inl (cI, 20, .inl sv9)), (jo, .inr (0, [.ref jf, .int (nI c9)])), (jf, .inl (cJ, 10051, .inr (.inl ((pkJ js9))))), (tr, .inl (cI, 1257, .inl ((pk1 h9))))] := hD
        refine lv_aload_n hx hb dN_Marks_run_41 rfl (lv_at hl 0 rfl) ?_
        refine lv_iload hx hb dN_Marks_run_42 (lv_at hl 4 rfl) ?_
        refine lv_iload_n hx hb dN_Marks_run_44 rfl (lv_at hl 1 rfl) ?_
        refine lv_iload_n hx hb dN_Marks_run_45 rfl (lv_at hl 2 rfl) ?_
        refine vx_callv (wc := [(mk, .inr (2, [.ref pr, .ref su, .ref ta, .ref be, .ref nw, .ref jo, .ref tr])), (pr, .inr (4, [.ref pK, .ref pV, .ref pF, .ref pS, .int (nI n), .int (nI b)])), (pK, .inl (cI, 200, .inl (ni kC))), (pV, .inl (cI, 200, .inl (ni vC))), (pF, .inl (cI, 200, .inl (ni fC))), (pS, .inl (cI, 200, .inl (ni sC))), (su, .inr (7, [.ref sb, .int (nI len)])), (sb, .inl (cI, 200, .inl (ni u))), (ta, .inr (9, [.int (nI tk9), .int (nI ov)])), (be, .inl (cI, 20, .inl ((fun _ => -1)))), (nw, .inl (cI, 20, .inl sv9)), (jo, .inr (0, [.ref jf, .int (nI c9)])), (jf, .inl (cJ, 10051, .inr (.inl ((pkJ js9))))), (tr, .inl (cI, 1257, .inl ((pk1 h9))))]) (wr := []) [0, 1, 2, 3, 4, 5, 6, 7, 8, 9, 10, 11, 12, 13] [] hK hP hD hS hA rfl rfl (by decide) (by decide) (va_runV (As := [.int (nI p9), .int (nI how), .int (zi lo)]) (rest := []) ⟨hx, hb, hml, hown, ht⟩ (kMarks_tryFrom l D cI cZ cJ mk pr pK pV pF pS su sb ta be nw jo jf tr n b tk9 ov kC vC fC sC K V F S len u p9 how c9 js9 sv9 h9 lo N hPg hN hb0 (by omega) hle hh hu _) (⟨callB_of 3 ht (TB_in2 gN_Marks_tryFrom) rfl rfl rfl (ht _ mw_8) (ht _ mw_634) (by decide +kernel) ⟨Nat.le_of_ble_eq_true rfl, Nat.le_of_ble_eq_true rfl⟩, ht _ mw_636, ht _ ms_10⟩) (vx_preV [0, 1, 2, 3, 4, 5, 6, 7, 8, 9, 10, 11, 12, 13] hK hP hD (by decide) rfl (ci := 2) rfl 0 rfl) rfl rfl hl.1 rfl (lv_room (Nat.le_of_ble_eq_true rfl)) dN_Marks_run_46 ⟨Nat.le_of_ble_eq_true rfl, Nat.le_of_ble_eq_true rfl⟩) (fun w1 H locs hq hP hD hS => ?_)
        obtain ⟨tk2, c2, js2, sv2, be2, g2, best2, rfl, hX, hbe2, hbo2, htk2⟩ := hq
        have hP : va_P D clN [(mk, .inr (2, [.ref pr, .ref su, .ref ta, .ref be, .ref nw, .ref jo, .ref tr])), (pr, .inr (4, [.ref pK, .ref pV, .ref pF, .ref pS, .int (nI n), .int (nI b)])), (pK, .inl (cI, 200, .inl (ni kC))), (pV, .inl (cI, 200, .inl (ni vC))), (pF, .inl (cI, 200, .inl (ni fC))), (pS, .inl (cI, 200, .inl (ni sC))), (su, .inr (7, [.ref sb, .int (nI len)])), (sb, .inl (cI, 200, .inl (ni u))), (ta, .inr (9, [.int (nI tk2), .int (nI ov)])), (be, .inl (cI, 20, .inl be2)), (nw, .inl (cI, 20, .inl sv2)), (jo, .inr (0, [.ref jf, .int (nI c2)])), (jf, .inl (cJ, 10051, .inr (.inl ((pkJ js2))))), (tr, .inl (cI, 1257, .inl ((pk1 g2))))] H := hP.sub [0, 1, 2, 3, 4, 5, 6, 7, 8, 9, 10, 11, 12, 13] rfl
        have hD : va_D A [(mk, .inr (2, [.ref pr, .ref su, .ref ta, .ref be, .ref nw, .ref jo, .ref tr])), (pr, .inr (4, [.ref pK, .ref pV, .ref pF, .ref pS, .int (nI n), .int (nI b)])), (pK, .inl (cI, 200, .inl (ni kC))), (pV, .inl (cI, 200, .inl (ni vC))), (pF, .inl (cI, 200, .inl (ni fC))), (pS, .inl (cI, 200, .inl (ni sC))), (su, .inr (7, [.ref sb, .int (nI len)])), (sb, .inl (cI, 200, .inl (ni u))), (ta, .inr (9, [.int (nI tk2), .int (nI ov)])), (be, .inl (cI, 20, .inl be2)), (nw, .inl (cI, 20, .inl sv2)), (jo, .inr (0, [.ref jf, .int (nI c2)])), (jf, .inl (cJ, 10051, .inr (.inl ((pkJ js2))))), (tr, .inl (cI, 1257, .inl ((pk1 g2))))] := hD.sub [0, 1, 2, 3, 4, 5, 6, 7, 8, 9, 10, 11, 12, 13] (by decide) rfl
        refine lv_iinc (v := (nI (p9 + 1))) (lv' := [(5, .int (nI (p9 + 1))), (0, .ref mk), (1, .int (nI how)), (2, .int (zi lo)), (4, .int (nI j1))]) hx hb dN_Marks_run_49 hl (k := 4) rfl (nI_1 _) (by decide) rfl (fun ls hl => ?_)
        refine lv_goto (tgt := 24) hx hb dN_Marks_run_52 (by decide) ?_
        exact ih_24_1 (p9 + 1, g2, be2, best2, tk2, c2, js2, sv2) _ _ _ ⟨hP, hD, hS, lv_sub hl [1, 2, 3, 4, 0] rfl, ⟨MRI_step hR9 (by omega) hno hX hbe2 hbo2 htk2, by omega⟩⟩ (show (j1 + 1 - (p9 + 1)) < (j1 + 1 - p9) from by omega)
  · skip
    refine lv_iload_n hx hb dN_Marks_run_4 rfl (lv_at hl 1 rfl) ?_
    refine xn_ne0 (tgt := 18) hx hb dN_Marks_run_5 (by decide) (by omega) (fun c_5_4 => ?_) (fun c_5_4 => ?_)
    · skip
      refine lv_iload_n hx hb dN_Marks_run_18 rfl (lv_at hl 3 rfl) ?_
      exact Jj1 (fr) (by rw [if_neg c_5_4])
    · skip
      refine lv_aload_n hx hb dN_Marks_run_8 rfl (lv_at hl 0 rfl) ?_
      refine va_get (D := D) (ci := 2) (v := .ref su) (C := RN_Marks) (T := FN_Marks) (N := 7) hx hb ht fN_Marks hown hK hP 0 rfl rfl 1 (by decide) (ht _ mw_199) (fun _ h9 => h9) rfl dN_Marks_run_9 ?_
      refine va_get (D := D) (ci := 7) (v := .int (nI len)) (C := RN_Subject) (T := FN_Subject) (N := 2) hx hb ht fN_Subject hown hK hP 6 rfl rfl 1 (by decide) (ht _ mw_87) (fun _ h9 => h9) rfl dN_Marks_run_12 ?_
      refine lv_goto (tgt := 19) hx hb dN_Marks_run_15 (by decide) ?_
      exact Jj1 (len) (by rw [if_pos c_5_4])
