set_option maxHeartbeats 4000000 in
set_option maxRecDepth 100000 in
/-- stepOf(i, j) -/
theorem kKept_stepOf (l : Launch) (D : va_G) (cI cZ cJ : ClassId) (kp k1 e1 k2 e2 kc kl ku mo kn : Nat) (i j : Nat) (stp : Nat → Nat) (hi : i < 64) (hj : j < 200) (hg : stp (i * 200 + j) < 256) : vx_Mi l yN_Kept_stepOf wN_Kept_stepOf ({ frames := 1, cells := 0, slots := 0, locals := 22 }) D clN (tyN cI cZ cJ) [.ref kp, .int (nI i), .int (nI j)] [(kp, .inr (1, [.ref k1, .ref k2, .ref kc, .ref kl, .ref ku, .int (nI mo), .int (nI kn)])), (k1, .inr (3, [.ref e1])), (e1, .inl (cJ, 1601, .inr (.inl ((pkB stp)))))] (fun x w => x = nI (stp (i * 200 + j)) ∧ w = [(kp, .inr (1, [.ref k1, .ref k2, .ref kc, .ref kl, .ref ku, .int (nI mo), .int (nI kn)])), (k1, .inr (3, [.ref e1])), (e1, .inl (cJ, 1601, .inr (.inl ((pkB stp)))))]) := by
  refine vx_startI (cc := cN_Kept_stepOf) (maxL := 3) (ret := (some .int)) (by decide) rfl (Nat.le_of_ble_eq_true rfl) ?_
  intro p_0 e_0 s m below meth c_0 A ls C hK hP hD hS hA hl
  obtain ⟨hx, hb, hr, hml, hown, hts, hlocks, hnm⟩ := id C
  have hown : s.vm.findClass "StepMachines$Kept" = some m.cls := hown
  have ht : ∀ w ∈ TB, w.before _ s = true := fun w h => hts w (List.mem_cons_of_mem _ h)
  have hl : lv_has ls 3 [(0, .ref kp), (1, .int (nI i)), (2, .int (nI j))] := hl
  refine lv_aload_n hx hb dN_Kept_stepOf_0 rfl (lv_at hl 0 rfl) ?_
  refine va_get (D := D) (ci := 1) (v := .ref k1) (C := RN_Kept) (T := FN_Kept) (N := 7) hx hb ht fN_Kept hown hK hP 0 rfl rfl 0 (by decide) (ht _ mw_265) (fun _ h9 => h9) rfl dN_Kept_stepOf_1 ?_
  refine lv_iload_n hx hb dN_Kept_stepOf_4 rfl (lv_at hl 1 rfl) ?_
  refine lv_sipush (v := (nI 200)) hx hb dN_Kept_stepOf_5 (by decide) ?_
  refine xn_mul hx hb dN_Kept_stepOf_8 ?_
  refine lv_iload_n hx hb dN_Kept_stepOf_9 rfl (lv_at hl 2 rfl) ?_
  refine xn_add hx hb dN_Kept_stepOf_10 ?_
  refine vx_calli (wc := [(k1, .inr (3, [.ref e1])), (e1, .inl (cJ, 1601, .inr (.inl ((pkB stp)))))]) (wr := [(kp, .inr (1, [.ref k1, .ref k2, .ref kc, .ref kl, .ref ku, .int (nI mo), .int (nI kn)]))]) [1, 2] [0] hK hP hD hS hA rfl rfl (by decide) (by decide) (va_runV (As := [.int (nI ((i * 200) + j))]) (rest := []) ⟨hx, hb, hml, hown, ht⟩ (kPacked_get l D cI cZ cJ k1 e1 1601 stp (i * 200 + j) (by omega) (by omega) hg _) (⟨callB_of 1 ht (TB_in2 gN_Packed_get) rfl rfl rfl (ht _ mw_12) (ht _ mw_869) (by decide +kernel) ⟨Nat.le_of_ble_eq_true rfl, Nat.le_of_ble_eq_true rfl⟩, ht _ mw_870, ht _ mw_871⟩) (vx_preV [1, 2] hK hP hD (by decide) rfl (ci := 3) rfl 1 rfl) rfl rfl hl.1 rfl (lv_room (Nat.le_of_ble_eq_true rfl)) dN_Kept_stepOf_11 ⟨Nat.le_of_ble_eq_true rfl, Nat.le_of_ble_eq_true rfl⟩) (fun r1 w1 H locs hq hP hD hS => ?_)
  obtain ⟨rfl, rfl⟩ := hq
  have hP : va_P D clN [(kp, .inr (1, [.ref k1, .ref k2, .ref kc, .ref kl, .ref ku, .int (nI mo), .int (nI kn)])), (k1, .inr (3, [.ref e1])), (e1, .inl (cJ, 1601, .inr (.inl ((pkB stp)))))] H := hP.sub [0, 1, 2] rfl
  have hD : va_D A [(kp, .inr (1, [.ref k1, .ref k2, .ref kc, .ref kl, .ref ku, .int (nI mo), .int (nI kn)])), (k1, .inr (3, [.ref e1])), (e1, .inl (cJ, 1601, .inr (.inl ((pkB stp)))))] := hD.sub [0, 1, 2] (by decide) rfl
  exact vx_iret C hK hP hD hS dN_Kept_stepOf_14 (Nat.le_of_ble_eq_true rfl) (Nat.le_of_ble_eq_true rfl) (⟨rfl, rfl⟩)
set_option maxHeartbeats 4000000 in
set_option maxRecDepth 100000 in
/-- moveOf(i, j) -/
theorem kKept_moveOf (l : Launch) (D : va_G) (cI cZ cJ : ClassId) (kp k1 e1 k2 e2 kc kl ku mo kn : Nat) (i j : Nat) (mvs : Nat → Nat) (hi : i < 64) (hj : j < 264) (hg : mvs (i * 264 + j) < 256) : vx_Mi l yN_Kept_moveOf wN_Kept_moveOf ({ frames := 1, cells := 0, slots := 0, locals := 22 }) D clN (tyN cI cZ cJ) [.ref kp, .int (nI i), .int (nI j)] [(kp, .inr (1, [.ref k1, .ref k2, .ref kc, .ref kl, .ref ku, .int (nI mo), .int (nI kn)])), (k2, .inr (3, [.ref e2])), (e2, .inl (cJ, 2113, .inr (.inl ((pkB mvs)))))] (fun x w => x = nI (mvs (i * 264 + j)) ∧ w = [(kp, .inr (1, [.ref k1, .ref k2, .ref kc, .ref kl, .ref ku, .int (nI mo), .int (nI kn)])), (k2, .inr (3, [.ref e2])), (e2, .inl (cJ, 2113, .inr (.inl ((pkB mvs)))))]) := by
  refine vx_startI (cc := cN_Kept_moveOf) (maxL := 3) (ret := (some .int)) (by decide) rfl (Nat.le_of_ble_eq_true rfl) ?_
  intro p_0 e_0 s m below meth c_0 A ls C hK hP hD hS hA hl
  obtain ⟨hx, hb, hr, hml, hown, hts, hlocks, hnm⟩ := id C
  have hown : s.vm.findClass "StepMachines$Kept" = some m.cls := hown
  have ht : ∀ w ∈ TB, w.before _ s = true := fun w h => hts w (List.mem_cons_of_mem _ h)
  have hl : lv_has ls 3 [(0, .ref kp), (1, .int (nI i)), (2, .int (nI j))] := hl
  refine lv_aload_n hx hb dN_Kept_moveOf_0 rfl (lv_at hl 0 rfl) ?_
  refine va_get (D := D) (ci := 1) (v := .ref k2) (C := RN_Kept) (T := FN_Kept) (N := 7) hx hb ht fN_Kept hown hK hP 0 rfl rfl 1 (by decide) (ht _ mw_266) (fun _ h9 => h9) rfl dN_Kept_moveOf_1 ?_
  refine lv_iload_n hx hb dN_Kept_moveOf_4 rfl (lv_at hl 1 rfl) ?_
  refine lv_sipush (v := (nI 264)) hx hb dN_Kept_moveOf_5 (by decide) ?_
  refine xn_mul hx hb dN_Kept_moveOf_8 ?_
  refine lv_iload_n hx hb dN_Kept_moveOf_9 rfl (lv_at hl 2 rfl) ?_
  refine xn_add hx hb dN_Kept_moveOf_10 ?_
  refine vx_calli (wc := [(k2, .inr (3, [.ref e2])), (e2, .inl (cJ, 2113, .inr (.inl ((pkB mvs)))))]) (wr := [(kp, .inr (1, [.ref k1, .ref k2, .ref kc, .ref kl, .ref ku, .int (nI mo), .int (nI kn)]))]) [1, 2] [0] hK hP hD hS hA rfl rfl (by decide) (by decide) (va_runV (As := [.int (nI ((i * 264) + j))]) (rest := []) ⟨hx, hb, hml, hown, ht⟩ (kPacked_get l D cI cZ cJ k2 e2 2113 mvs (i * 264 + j) (by omega) (by omega) hg _) (⟨callB_of 1 ht (TB_in2 gN_Packed_get) rfl rfl rfl (ht _ mw_12) (ht _ mw_869) (by decide +kernel) ⟨Nat.le_of_ble_eq_true rfl, Nat.le_of_ble_eq_true rfl⟩, ht _ mw_870, ht _ mw_871⟩) (vx_preV [1, 2] hK hP hD (by decide) rfl (ci := 3) rfl 1 rfl) rfl rfl hl.1 rfl (lv_room (Nat.le_of_ble_eq_true rfl)) dN_Kept_moveOf_11 ⟨Nat.le_of_ble_eq_true rfl, Nat.le_of_ble_eq_true rfl⟩) (fun r1 w1 H locs hq hP hD hS => ?_)
  obtain ⟨rfl, rfl⟩ := hq
  have hP : va_P D clN [(kp, .inr (1, [.ref k1, .ref k2, .ref kc, .ref kl, .ref ku, .int (nI mo), .int (nI kn)])), (k2, .inr (3, [.ref e2])), (e2, .inl (cJ, 2113, .inr (.inl ((pkB mvs)))))] H := hP.sub [0, 1, 2] rfl
  have hD : va_D A [(kp, .inr (1, [.ref k1, .ref k2, .ref kc, .ref kl, .ref ku, .int (nI mo), .int (nI kn)])), (k2, .inr (3, [.ref e2])), (e2, .inl (cJ, 2113, .inr (.inl ((pkB mvs)))))] := hD.sub [0, 1, 2] (by decide) rfl
  exact vx_iret C hK hP hD hS dN_Kept_moveOf_14 (Nat.le_of_ble_eq_true rfl) (Nat.le_of_ble_eq_true rfl) (⟨rfl, rfl⟩)
set_option maxHeartbeats 4000000 in
set_option maxRecDepth 100000 in
/-- know(i, j, v) -/
theorem kKept_know (l : Launch) (D : va_G) (cI cZ cJ : ClassId) (kp k1 e1 k2 e2 kc kl ku mo kn : Nat) (i j v : Nat) (mvs : Nat → Nat) (hi : i < 64) (hj : j < 264) (hv : v < 256) : vx_Mv l yN_Kept_know wN_Kept_know ({ frames := 1, cells := 0, slots := 0, locals := 24 }) D clN (tyN cI cZ cJ) [.ref kp, .int (nI i), .int (nI j), .int (nI v)] [(kp, .inr (1, [.ref k1, .ref k2, .ref kc, .ref kl, .ref ku, .int (nI mo), .int (nI kn)])), (k2, .inr (3, [.ref e2])), (e2, .inl (cJ, 2113, .inr (.inl ((pkB mvs)))))] (fun w => w = [(kp, .inr (1, [.ref k1, .ref k2, .ref kc, .ref kl, .ref ku, .int (nI mo), .int (nI kn)])), (k2, .inr (3, [.ref e2])), (e2, .inl (cJ, 2113, .inr (.inl ((pkB (un mvs (i * 264 + j) v))))))]) := by
  refine vx_startV (cc := cN_Kept_know) (maxL := 4) (ret := none) (by decide) rfl (Nat.le_of_ble_eq_true rfl) ?_
  intro p_0 e_0 s m below meth c_0 A ls C hK hP hD hS hA hl
  obtain ⟨hx, hb, hr, hml, hown, hts, hlocks, hnm⟩ := id C
  have hown : s.vm.findClass "StepMachines$Kept" = some m.cls := hown
  have ht : ∀ w ∈ TB, w.before _ s = true := fun w h => hts w (List.mem_cons_of_mem _ h)
  have hl : lv_has ls 4 [(0, .ref kp), (1, .int (nI i)), (2, .int (nI j)), (3, .int (nI v))] := hl
  refine lv_aload_n hx hb dN_Kept_know_0 rfl (lv_at hl 0 rfl) ?_
  refine va_get (D := D) (ci := 1) (v := .ref k2) (C := RN_Kept) (T := FN_Kept) (N := 7) hx hb ht fN_Kept hown hK hP 0 rfl rfl 1 (by decide) (ht _ mw_266) (fun _ h9 => h9) rfl dN_Kept_know_1 ?_
  refine lv_iload_n hx hb dN_Kept_know_4 rfl (lv_at hl 1 rfl) ?_
  refine lv_sipush (v := (nI 264)) hx hb dN_Kept_know_5 (by decide) ?_
  refine xn_mul hx hb dN_Kept_know_8 ?_
  refine lv_iload_n hx hb dN_Kept_know_9 rfl (lv_at hl 2 rfl) ?_
  refine xn_add hx hb dN_Kept_know_10 ?_
  refine lv_iload_n hx hb dN_Kept_know_11 rfl (lv_at hl 3 rfl) ?_
  refine vx_callv (wc := [(k2, .inr (3, [.ref e2])), (e2, .inl (cJ, 2113, .inr (.inl ((pkB mvs)))))]) (wr := [(kp, .inr (1, [.ref k1, .ref k2, .ref kc, .ref kl, .ref ku, .int (nI mo), .int (nI kn)]))]) [1, 2] [0] hK hP hD hS hA rfl rfl (by decide) (by decide) (va_runV (As := [.int (nI ((i * 264) + j)), .int (nI v)]) (rest := []) ⟨hx, hb, hml, hown, ht⟩ (kPacked_set l D cI cZ cJ k2 e2 2113 mvs (i * 264 + j) v (by omega) (by omega) hv _) (⟨callB_of 2 ht (TB_in2 gN_Packed_set) rfl rfl rfl (ht _ mw_12) (ht _ mw_879) (by decide +kernel) ⟨Nat.le_of_ble_eq_true rfl, Nat.le_of_ble_eq_true rfl⟩, ht _ mw_880, ht _ mw_881⟩) (vx_preV [1, 2] hK hP hD (by decide) rfl (ci := 3) rfl 1 rfl) rfl rfl hl.1 rfl (lv_room (Nat.le_of_ble_eq_true rfl)) dN_Kept_know_12 ⟨Nat.le_of_ble_eq_true rfl, Nat.le_of_ble_eq_true rfl⟩) (fun w1 H locs hq hP hD hS => ?_)
  subst hq
  have hP : va_P D clN [(kp, .inr (1, [.ref k1, .ref k2, .ref kc, .ref kl, .ref ku, .int (nI mo), .int (nI kn)])), (k2, .inr (3, [.ref e2])), (e2, .inl (cJ, 2113, .inr (.inl ((pkB (un mvs (i * 264 + j) v))))))] H := hP.sub [0, 1, 2] rfl
  have hD : va_D A [(kp, .inr (1, [.ref k1, .ref k2, .ref kc, .ref kl, .ref ku, .int (nI mo), .int (nI kn)])), (k2, .inr (3, [.ref e2])), (e2, .inl (cJ, 2113, .inr (.inl ((pkB (un mvs (i * 264 + j) v))))))] := hD.sub [0, 1, 2] (by decide) rfl
  exact vx_vret C hK hP hD hS dN_Kept_know_15 (Nat.le_of_ble_eq_true rfl) (Nat.le_of_ble_eq_true rfl) (rfl)
def keptB (n : Nat) (x : Int32) : Bool := !decide (x < 0) && !decide (nI n ≤ x)
theorem keptB_ok {n k : Nat} (hn : n ≤ 200) (h : k < n) : keptB n (nI k) = true := stepB_ok hn h
set_option maxHeartbeats 4000000 in
set_option maxRecDepth 100000 in
/-- has(x) -/
theorem kKept_has (l : Launch) (D : va_G) (cI cZ cJ : ClassId) (kp k1 e1 k2 e2 kc kl ku mo kn : Nat) (x : Int32)  : vx_Mi l yN_Kept_has wN_Kept_has ({ frames := 0, cells := 0, slots := 0, locals := 0 }) D clN (tyN cI cZ cJ) [.ref kp, .int x] [(kp, .inr (1, [.ref k1, .ref k2, .ref kc, .ref kl, .ref ku, .int (nI mo), .int (nI kn)]))] (fun r w => r = zi (keptB kn x) ∧ w = [(kp, .inr (1, [.ref k1, .ref k2, .ref kc, .ref kl, .ref ku, .int (nI mo), .int (nI kn)]))]) := by
  refine vx_startI (cc := cN_Kept_has) (maxL := 2) (ret := (some .boolean)) (by decide) rfl (Nat.le_of_ble_eq_true rfl) ?_
  intro p_0 e_0 s m below meth c_0 A ls C hK hP hD hS hA hl
  obtain ⟨hx, hb, hr, hml, hown, hts, hlocks, hnm⟩ := id C
  have hown : s.vm.findClass "StepMachines$Kept" = some m.cls := hown
  have ht : ∀ w ∈ TB, w.before _ s = true := fun w h => hts w (List.mem_cons_of_mem _ h)
  have hl : lv_has ls 2 [(0, .ref kp), (1, .int x)] := hl
  refine lv_iload_n hx hb dN_Kept_has_0 rfl (lv_at hl 1 rfl) ?_
  refine lv_if_lt (tgt := 16) hx hb dN_Kept_has_1 (by decide) (fun c_1_0 => ?_) (fun c_1_0 => ?_)
  · skip
    refine lv_iconst (v := (nI 0)) hx hb dN_Kept_has_16 (by decide) ?_
    refine xn_top (y := zi false) rfl ?_
    exact vx_zret C hK hP hD hS dN_Kept_has_17 (Nat.le_of_ble_eq_true rfl) (Nat.le_of_ble_eq_true rfl) (zi_nar2 _) (⟨by simp [keptB, c_1_0], rfl⟩)
  · skip
    refine lv_iload_n hx hb dN_Kept_has_4 rfl (lv_at hl 1 rfl) ?_
    refine lv_aload_n hx hb dN_Kept_has_5 rfl (lv_at hl 0 rfl) ?_
    refine va_get (D := D) (ci := 1) (v := .int (nI kn)) (C := RN_Kept) (T := FN_Kept) (N := 7) hx hb ht fN_Kept hown hK hP 0 rfl rfl 6 (by decide) (ht _ mw_271) (fun _ h9 => h9) rfl dN_Kept_has_6 ?_
    refine lv_icmp_ge (tgt := 16) hx hb dN_Kept_has_9 (by decide) (fun c_9_1 => ?_) (fun c_9_1 => ?_)
    · skip
      refine lv_iconst (v := (nI 0)) hx hb dN_Kept_has_16 (by decide) ?_
      refine xn_top (y := zi false) rfl ?_
      exact vx_zret C hK hP hD hS dN_Kept_has_17 (Nat.le_of_ble_eq_true rfl) (Nat.le_of_ble_eq_true rfl) (zi_nar2 _) (⟨by simp [keptB, c_1_0, c_9_1], rfl⟩)
    · skip
      refine lv_iconst (v := (nI 1)) hx hb dN_Kept_has_12 (by decide) ?_
      refine lv_goto (tgt := 17) hx hb dN_Kept_has_13 (by decide) ?_
      refine xn_top (y := zi true) rfl ?_
      exact vx_zret C hK hP hD hS dN_Kept_has_17 (Nat.le_of_ble_eq_true rfl) (Nat.le_of_ble_eq_true rfl) (zi_nar2 _) (⟨by simp [keptB, c_1_0, c_9_1], rfl⟩)
set_option maxHeartbeats 4000000 in
set_option maxRecDepth 100000 in
/-- labelOf(i) -/
theorem kKept_labelOf (l : Launch) (D : va_G) (cI cZ cJ : ClassId) (kp k1 e1 k2 e2 kc kl ku mo kn : Nat) (i : Nat) (lbl : Nat → Nat) (hi : i < kn) (hkn : kn ≤ 64) : vx_Mi l yN_Kept_labelOf wN_Kept_labelOf ({ frames := 1, cells := 0, slots := 0, locals := 21 }) D clN (tyN cI cZ cJ) [.ref kp, .int (nI i)] [(kp, .inr (1, [.ref k1, .ref k2, .ref kc, .ref kl, .ref ku, .int (nI mo), .int (nI kn)])), (kl, .inl (cI, 64, .inl (ni lbl)))] (fun x w => x = nI (lbl i) ∧ w = [(kp, .inr (1, [.ref k1, .ref k2, .ref kc, .ref kl, .ref ku, .int (nI mo), .int (nI kn)])), (kl, .inl (cI, 64, .inl (ni lbl)))]) := by
  refine vx_startI (cc := cN_Kept_labelOf) (maxL := 2) (ret := (some .int)) (by decide) rfl (Nat.le_of_ble_eq_true rfl) ?_
  intro p_0 e_0 s m below meth c_0 A ls C hK hP hD hS hA hl
  obtain ⟨hx, hb, hr, hml, hown, hts, hlocks, hnm⟩ := id C
  have hown : s.vm.findClass "StepMachines$Kept" = some m.cls := hown
  have ht : ∀ w ∈ TB, w.before _ s = true := fun w h => hts w (List.mem_cons_of_mem _ h)
  have hl : lv_has ls 2 [(0, .ref kp), (1, .int (nI i))] := hl
  refine lv_aload_n hx hb dN_Kept_labelOf_0 rfl (lv_at hl 0 rfl) ?_
  refine lv_iload_n hx hb dN_Kept_labelOf_1 rfl (lv_at hl 1 rfl) ?_
  refine vx_calli (wc := [(kp, .inr (1, [.ref k1, .ref k2, .ref kc, .ref kl, .ref ku, .int (nI mo), .int (nI kn)]))]) (wr := [(kl, .inl (cI, 64, .inl (ni lbl)))]) [0] [1] hK hP hD hS hA rfl rfl (by decide) (by decide) (va_runV (As := [.int (nI i)]) (rest := []) ⟨hx, hb, hml, hown, ht⟩ (kKept_has l D cI cZ cJ kp k1 e1 k2 e2 kc kl ku mo kn (nI i) _) (⟨callB_of 1 ht (TB_in2 gN_Kept_has) rfl rfl rfl (ht _ mw_11) (ht _ mw_902) (by decide +kernel) ⟨Nat.le_of_ble_eq_true rfl, Nat.le_of_ble_eq_true rfl⟩, ht _ mw_903, ht _ mw_904⟩) (vx_preV [0] hK hP hD (by decide) rfl (ci := 1) rfl 0 rfl) rfl rfl hl.1 rfl (lv_room (Nat.le_of_ble_eq_true rfl)) dN_Kept_labelOf_2 ⟨Nat.le_of_ble_eq_true rfl, Nat.le_of_ble_eq_true rfl⟩) (fun r1 w1 H locs hq hP hD hS => ?_)
  obtain ⟨rfl, rfl⟩ := hq
  have hP : va_P D clN [(kp, .inr (1, [.ref k1, .ref k2, .ref kc, .ref kl, .ref ku, .int (nI mo), .int (nI kn)])), (kl, .inl (cI, 64, .inl (ni lbl)))] H := hP.sub [1, 0] rfl
  have hD : va_D A [(kp, .inr (1, [.ref k1, .ref k2, .ref kc, .ref kl, .ref ku, .int (nI mo), .int (nI kn)])), (kl, .inl (cI, 64, .inl (ni lbl)))] := hD.sub [1, 0] (by decide) rfl
  refine xz_eq0 (tgt := 17) hx hb dN_Kept_labelOf_5 (by decide) (fun c_10005_0 => ?_) (fun c_10005_0 => ?_)
  · skip
    exact absurd (keptB_ok (by omega) hi) (by rw [c_10005_0]; decide)
  · skip
    refine lv_aload_n hx hb dN_Kept_labelOf_8 rfl (lv_at hl 0 rfl) ?_
    refine va_get (D := D) (ci := 1) (v := .ref kl) (C := RN_Kept) (T := FN_Kept) (N := 7) hx hb ht fN_Kept hown hK hP 0 rfl rfl 3 (by decide) (ht _ mw_268) (fun _ h9 => h9) rfl dN_Kept_labelOf_9 ?_
    refine lv_iload_n hx hb dN_Kept_labelOf_12 rfl (lv_at hl 1 rfl) ?_
    refine xn_ald hx hb hK hP 1 0 rfl rfl dN_Kept_labelOf_13 (by omega) (by omega) ?_
    refine lv_goto (tgt := 18) hx hb dN_Kept_labelOf_14 (by decide) ?_
    exact vx_iret C hK hP hD hS dN_Kept_labelOf_18 (Nat.le_of_ble_eq_true rfl) (Nat.le_of_ble_eq_true rfl) (⟨rfl, rfl⟩)
set_option maxHeartbeats 4000000 in
set_option maxRecDepth 100000 in
/-- countOf(i) -/
theorem kKept_countOf (l : Launch) (D : va_G) (cI cZ cJ : ClassId) (kp k1 e1 k2 e2 kc kl ku mo kn : Nat) (i : Nat) (cnt : Nat → Nat) (hi : i < kn) (hkn : kn ≤ 64) : vx_Mi l yN_Kept_countOf wN_Kept_countOf ({ frames := 1, cells := 0, slots := 0, locals := 21 }) D clN (tyN cI cZ cJ) [.ref kp, .int (nI i)] [(kp, .inr (1, [.ref k1, .ref k2, .ref kc, .ref kl, .ref ku, .int (nI mo), .int (nI kn)])), (kc, .inl (cI, 64, .inl (ni cnt)))] (fun x w => x = nI (cnt i) ∧ w = [(kp, .inr (1, [.ref k1, .ref k2, .ref kc, .ref kl, .ref ku, .int (nI mo), .int (nI kn)])), (kc, .inl (cI, 64, .inl (ni cnt)))]) := by
  refine vx_startI (cc := cN_Kept_countOf) (maxL := 2) (ret := (some .int)) (by decide) rfl (Nat.le_of_ble_eq_true rfl) ?_
  intro p_0 e_0 s m below meth c_0 A ls C hK hP hD hS hA hl
  obtain ⟨hx, hb, hr, hml, hown, hts, hlocks, hnm⟩ := id C
  have hown : s.vm.findClass "StepMachines$Kept" = some m.cls := hown
  have ht : ∀ w ∈ TB, w.before _ s = true := fun w h => hts w (List.mem_cons_of_mem _ h)
  have hl : lv_has ls 2 [(0, .ref kp), (1, .int (nI i))] := hl
  refine lv_aload_n hx hb dN_Kept_countOf_0 rfl (lv_at hl 0 rfl) ?_
  refine lv_iload_n hx hb dN_Kept_countOf_1 rfl (lv_at hl 1 rfl) ?_
  refine vx_calli (wc := [(kp, .inr (1, [.ref k1, .ref k2, .ref kc, .ref kl, .ref ku, .int (nI mo), .int (nI kn)]))]) (wr := [(kc, .inl (cI, 64, .inl (ni cnt)))]) [0] [1] hK hP hD hS hA rfl rfl (by decide) (by decide) (va_runV (As := [.int (nI i)]) (rest := []) ⟨hx, hb, hml, hown, ht⟩ (kKept_has l D cI cZ cJ kp k1 e1 k2 e2 kc kl ku mo kn (nI i) _) (⟨callB_of 1 ht (TB_in2 gN_Kept_has) rfl rfl rfl (ht _ mw_11) (ht _ mw_902) (by decide +kernel) ⟨Nat.le_of_ble_eq_true rfl, Nat.le_of_ble_eq_true rfl⟩, ht _ mw_903, ht _ mw_904⟩) (vx_preV [0] hK hP hD (by decide) rfl (ci := 1) rfl 0 rfl) rfl rfl hl.1 rfl (lv_room (Nat.le_of_ble_eq_true rfl)) dN_Kept_countOf_2 ⟨Nat.le_of_ble_eq_true rfl, Nat.le_of_ble_eq_true rfl⟩) (fun r1 w1 H locs hq hP hD hS => ?_)
  obtain ⟨rfl, rfl⟩ := hq
  have hP : va_P D clN [(kp, .inr (1, [.ref k1, .ref k2, .ref kc, .ref kl, .ref ku, .int (nI mo), .int (nI kn)])), (kc, .inl (cI, 64, .inl (ni cnt)))] H := hP.sub [1, 0] rfl
  have hD : va_D A [(kp, .inr (1, [.ref k1, .ref k2, .ref kc, .ref kl, .ref ku, .int (nI mo), .int (nI kn)])), (kc, .inl (cI, 64, .inl (ni cnt)))] := hD.sub [1, 0] (by decide) rfl
  refine xz_eq0 (tgt := 17) hx hb dN_Kept_countOf_5 (by decide) (fun c_10005_0 => ?_) (fun c_10005_0 => ?_)
  · skip
    exact absurd (keptB_ok (by omega) hi) (by rw [c_10005_0]; decide)
  · skip
    refine lv_aload_n hx hb dN_Kept_countOf_8 rfl (lv_at hl 0 rfl) ?_
    refine va_get (D := D) (ci := 1) (v := .ref kc) (C := RN_Kept) (T := FN_Kept) (N := 7) hx hb ht fN_Kept hown hK hP 0 rfl rfl 2 (by decide) (ht _ mw_267) (fun _ h9 => h9) rfl dN_Kept_countOf_9 ?_
    refine lv_iload_n hx hb dN_Kept_countOf_12 rfl (lv_at hl 1 rfl) ?_
    refine xn_ald hx hb hK hP 1 0 rfl rfl dN_Kept_countOf_13 (by omega) (by omega) ?_
    refine lv_goto (tgt := 18) hx hb dN_Kept_countOf_14 (by decide) ?_
    exact vx_iret C hK hP hD hS dN_Kept_countOf_18 (Nat.le_of_ble_eq_true rfl) (Nat.le_of_ble_eq_true rfl) (⟨rfl, rfl⟩)
set_option maxHeartbeats 4000000 in
set_option maxRecDepth 100000 in
/-- sumOf(row, lb) -/
theorem kKept_sumOf (l : Launch) (D : va_G) (cI cZ cJ : ClassId) (r rs rm ct tu : Nat) (lb : Nat) (st : Nat → Nat) (hct : ct ≤ 200) : vx_Mi l yN_Kept_sumOf wN_Kept_sumOf ({ frames := 1, cells := 0, slots := 0, locals := 21 }) D clN (tyN cI cZ cJ) [.ref r, .int (nI lb)] [(r, .inr (5, [.ref rs, .ref rm, .int (nI ct), .int (nI tu)])), (rs, .inl (cI, 200, .inl (ni st)))] (fun _ w => w = [(r, .inr (5, [.ref rs, .ref rm, .int (nI ct), .int (nI tu)])), (rs, .inl (cI, 200, .inl (ni st)))]) := by
  refine vx_startI (cc := cN_Kept_sumOf) (maxL := 4) (ret := (some .int)) (by decide) rfl (Nat.le_of_ble_eq_true rfl) ?_
  intro p_0 e_0 s m below meth c_0 A ls C hK hP hD hS hA hl
  obtain ⟨hx, hb, hr, hml, hown, hts, hlocks, hnm⟩ := id C
  have hown : s.vm.findClass "StepMachines$Kept" = some m.cls := hown
  have ht : ∀ w ∈ TB, w.before _ s = true := fun w h => hts w (List.mem_cons_of_mem _ h)
  have hl : lv_has ls 4 [(0, .ref r), (1, .int (nI lb))] := hl
  refine lv_iload_n hx hb dN_Kept_sumOf_0 rfl (lv_at hl 1 rfl) ?_
  refine xn_name (fun y0 ey0 => ?_)
  refine lv_istore_n (lv' := [(2, .int (nI y0)), (0, .ref r), (1, .int (nI lb))]) hx hb dN_Kept_sumOf_1 rfl hl (by decide) rfl (fun ls hl => ?_)
  refine lv_iconst (v := (nI 0)) hx hb dN_Kept_sumOf_2 (by decide) ?_
  refine lv_istore_n (lv' := [(3, .int (nI 0)), (2, .int (nI y0)), (0, .ref r), (1, .int (nI lb))]) hx hb dN_Kept_sumOf_3 rfl hl (by decide) rfl (fun ls hl => ?_)
  refine vx_loop (α := Int32 × Nat) (fun (vv : Int32 × Nat) (H : Heap) (locs : List Loc) (ls : Array Slot) => match vv with | (y, i) => va_P D clN [(r, .inr (5, [.ref rs, .ref rm, .int (nI ct), .int (nI tu)])), (rs, .inl (cI, 200, .inl (ni st)))] H ∧ va_D A [(r, .inr (5, [.ref rs, .ref rm, .int (nI ct), .int (nI tu)])), (rs, .inl (cI, 200, .inl (ni st)))] ∧ va_S A s.heap H locs ∧ lv_has ls 4 [(0, .ref r), (2, .int y), (3, .int (nI i))] ∧ (i ≤ ct)) (fun (vv : Int32 × Nat) => match vv with | (y, i) => ct - i) 4 [] ?_ (nI (y0), 0) ⟨hP, hD, hS, lv_sub hl [2, 1, 0] rfl, by omega⟩
  intro vv H locs ls hq ih_4_0
  obtain ⟨y, i⟩ := vv
  obtain ⟨hP, hD, hS, hl, hI⟩ := hq
  refine lv_iload_n hx hb dN_Kept_sumOf_4 rfl (lv_at hl 2 rfl) ?_
  refine lv_aload_n hx hb dN_Kept_sumOf_5 rfl (lv_at hl 0 rfl) ?_
  refine vx_calli (wc := [(r, .inr (5, [.ref rs, .ref rm, .int (nI ct), .int (nI tu)]))]) (wr := [(rs, .inl (cI, 200, .inl (ni st)))]) [0] [1] hK hP hD hS hA rfl rfl (by decide) (by decide) (va_runV (As := []) (rest := [.int (nI i)]) ⟨hx, hb, hml, hown, ht⟩ (kRow_count l D cI cZ cJ r rs rm ct tu _) (⟨callB_of 0 ht (TB_in2 gN_Row_count) rfl rfl rfl (ht _ mw_7) (ht _ mw_859) (by decide +kernel) ⟨Nat.le_of_ble_eq_true rfl, Nat.le_of_ble_eq_true rfl⟩, ht _ mw_793, ht _ mw_794⟩) (vx_preV [0] hK hP hD (by decide) rfl (ci := 5) rfl 0 rfl) rfl rfl hl.1 rfl (lv_room (Nat.le_of_ble_eq_true rfl)) dN_Kept_sumOf_6 ⟨Nat.le_of_ble_eq_true rfl, Nat.le_of_ble_eq_true rfl⟩) (fun r1 w1 H locs hq hP hD hS => ?_)
  obtain ⟨rfl, rfl⟩ := hq
  have hP : va_P D clN [(r, .inr (5, [.ref rs, .ref rm, .int (nI ct), .int (nI tu)])), (rs, .inl (cI, 200, .inl (ni st)))] H := hP.sub [1, 0] rfl
  have hD : va_D A [(r, .inr (5, [.ref rs, .ref rm, .int (nI ct), .int (nI tu)])), (rs, .inl (cI, 200, .inl (ni st)))] := hD.sub [1, 0] (by decide) rfl
  refine xn_ge (tgt := 31) hx hb dN_Kept_sumOf_9 (by decide) (by omega) (by omega) (fun c_9_1 => ?_) (fun c_9_1 => ?_)
  · skip
    refine lv_iload_n hx hb dN_Kept_sumOf_31 rfl (lv_at hl 1 rfl) ?_
    exact vx_iret C hK hP hD hS dN_Kept_sumOf_32 (Nat.le_of_ble_eq_true rfl) (Nat.le_of_ble_eq_true rfl) (rfl)
  · skip
    refine lv_iload_n hx hb dN_Kept_sumOf_12 rfl (lv_at hl 1 rfl) ?_
    refine lv_bipush (v := (nI 31)) hx hb dN_Kept_sumOf_13 (by decide) ?_
    refine lv_imul hx hb dN_Kept_sumOf_15 ?_
    refine lv_aload_n hx hb dN_Kept_sumOf_16 rfl (lv_at hl 0 rfl) ?_
    refine lv_iload_n hx hb dN_Kept_sumOf_17 rfl (lv_at hl 2 rfl) ?_
    refine vx_calli (wc := [(r, .inr (5, [.ref rs, .ref rm, .int (nI ct), .int (nI tu)])), (rs, .inl (cI, 200, .inl (ni st)))]) (wr := []) [0, 1] [] hK hP hD hS hA rfl rfl (by decide) (by decide) (va_runV (As := [.int (nI i)]) (rest := [.int (y * (nI 31))]) ⟨hx, hb, hml, hown, ht⟩ (kRow_get l D cI cZ cJ r rs rm ct tu st i (by omega) (by omega) _) (⟨callB_of 1 ht (TB_in2 gN_Row_get) rfl rfl rfl (ht _ mw_7) (ht _ mw_860) (by decide +kernel) ⟨Nat.le_of_ble_eq_true rfl, Nat.le_of_ble_eq_true rfl⟩, ht _ mw_797, ht _ mw_798⟩) (vx_preV [0, 1] hK hP hD (by decide) rfl (ci := 5) rfl 0 rfl) rfl rfl hl.1 rfl (lv_room (Nat.le_of_ble_eq_true rfl)) dN_Kept_sumOf_18 ⟨Nat.le_of_ble_eq_true rfl, Nat.le_of_ble_eq_true rfl⟩) (fun r1 w1 H locs hq hP hD hS => ?_)
    obtain ⟨rfl, rfl⟩ := hq
    have hP : va_P D clN [(r, .inr (5, [.ref rs, .ref rm, .int (nI ct), .int (nI tu)])), (rs, .inl (cI, 200, .inl (ni st)))] H := hP.sub [0, 1] rfl
    have hD : va_D A [(r, .inr (5, [.ref rs, .ref rm, .int (nI ct), .int (nI tu)])), (rs, .inl (cI, 200, .inl (ni st)))] := hD.sub [0, 1] (by decide) rfl
    refine lv_iadd hx hb dN_Kept_sumOf_21 ?_
    refine lv_iconst (v := (nI 1)) hx hb dN_Kept_sumOf_22 (by decide) ?_
    refine lv_iadd hx hb dN_Kept_sumOf_23 ?_
    refine lv_istore_n (lv' := [(2, .int (((y * (nI 31)) + (nI (st i))) + (nI 1))), (0, .ref r), (3, .int (nI i))]) hx hb dN_Kept_sumOf_24 rfl hl (by decide) rfl (fun ls hl => ?_)
    refine lv_iinc (v := (nI (i + 1))) (lv' := [(3, .int (nI (i + 1))), (2, .int (((y * (nI 31)) + (nI (st i))) + (nI 1))), (0, .ref r)]) hx hb dN_Kept_sumOf_25 hl (k := 2) rfl (nI_1 _) (by decide) rfl (fun ls hl => ?_)
    refine lv_goto (tgt := 4) hx hb dN_Kept_sumOf_28 (by decide) ?_
    exact ih_4_0 (((y * (nI 31)) + (nI (st i))) + (nI 1), i + 1) _ _ _ ⟨hP, hD, hS, lv_sub hl [2, 1, 0] rfl, by omega⟩ (show (ct - (i + 1)) < (ct - i) from by omega)
set_option maxHeartbeats 4000000 in
set_option maxRecDepth 100000 in
/-- isSame(i, row, lb) -/
theorem kKept_isSame (l : Launch) (D : va_G) (cI cZ cJ : ClassId) (kp k1 e1 k2 e2 kc kl ku mo kn : Nat) (r rs rm ct tu : Nat) (stp cnt lbl st : Nat → Nat) (i lb : Nat) (hi : i < 64) (hct : ct ≤ 200) (hsp : ∀ q, stp q < 256) (hst : ∀ q, q < ct → st q < 256) (hlb : ∀ q, lbl q < 2 ^ 30) (hcn : ∀ q, cnt q < 2 ^ 30) (hlb2 : lb < 2 ^ 30) : vx_Mi l yN_Kept_isSame wN_Kept_isSame ({ frames := 2, cells := 0, slots := 0, locals := 44 }) D clN (tyN cI cZ cJ) [.ref kp, .int (nI i), .ref r, .int (nI lb)] [(kp, .inr (1, [.ref k1, .ref k2, .ref kc, .ref kl, .ref ku, .int (nI mo), .int (nI kn)])), (k1, .inr (3, [.ref e1])), (e1, .inl (cJ, 1601, .inr (.inl ((pkB stp))))), (kc, .inl (cI, 64, .inl (ni cnt))), (kl, .inl (cI, 64, .inl (ni lbl))), (r, .inr (5, [.ref rs, .ref rm, .int (nI ct), .int (nI tu)])), (rs, .inl (cI, 200, .inl (ni st)))] (fun x w => ∃ g9 : Bool, x = zi g9 ∧ (g9 = true → KSm stp cnt lbl i ct st lb) ∧ w = [(kp, .inr (1, [.ref k1, .ref k2, .ref kc, .ref kl, .ref ku, .int (nI mo), .int (nI kn)])), (k1, .inr (3, [.ref e1])), (e1, .inl (cJ, 1601, .inr (.inl ((pkB stp))))), (kc, .inl (cI, 64, .inl (ni cnt))), (kl, .inl (cI, 64, .inl (ni lbl))), (r, .inr (5, [.ref rs, .ref rm, .int (nI ct), .int (nI tu)])), (rs, .inl (cI, 200, .inl (ni st)))]) := by
  refine vx_startI (cc := cN_Kept_isSame) (maxL := 5) (ret := (some .boolean)) (by decide) rfl (Nat.le_of_ble_eq_true rfl) ?_
  intro p_0 e_0 s m below meth c_0 A ls C hK hP hD hS hA hl
  obtain ⟨hx, hb, hr, hml, hown, hts, hlocks, hnm⟩ := id C
  have hown : s.vm.findClass "StepMachines$Kept" = some m.cls := hown
  have ht : ∀ w ∈ TB, w.before _ s = true := fun w h => hts w (List.mem_cons_of_mem _ h)
  have hl : lv_has ls 5 [(0, .ref kp), (1, .int (nI i)), (2, .ref r), (3, .int (nI lb))] := hl
  refine lv_aload_n hx hb dN_Kept_isSame_0 rfl (lv_at hl 0 rfl) ?_
  refine va_get (D := D) (ci := 1) (v := .ref kl) (C := RN_Kept) (T := FN_Kept) (N := 7) hx hb ht fN_Kept hown hK hP 0 rfl rfl 3 (by decide) (ht _ mw_268) (fun _ h9 => h9) rfl dN_Kept_isSame_1 ?_
  refine lv_iload_n hx hb dN_Kept_isSame_4 rfl (lv_at hl 1 rfl) ?_
  refine xn_ald hx hb hK hP 4 0 rfl rfl dN_Kept_isSame_5 (by omega) (by omega) ?_
  refine lv_iload_n hx hb dN_Kept_isSame_6 rfl (lv_at hl 3 rfl) ?_
  refine xn_ne (tgt := 23) hx hb dN_Kept_isSame_7 (by decide) (by have := hlb i; omega) (by omega) (fun c_7_0 => ?_) (fun c_7_0 => ?_)
  · skip
    refine lv_iconst (v := (nI 0)) hx hb dN_Kept_isSame_23 (by decide) ?_
    refine xn_top (y := zi false) rfl ?_
    exact vx_zret C hK hP hD hS dN_Kept_isSame_24 (Nat.le_of_ble_eq_true rfl) (Nat.le_of_ble_eq_true rfl) (zi_nar2 _) (⟨false, rfl, (fun h => by cases h), rfl⟩)
  · skip
    refine lv_aload_n hx hb dN_Kept_isSame_10 rfl (lv_at hl 0 rfl) ?_
    refine va_get (D := D) (ci := 1) (v := .ref kc) (C := RN_Kept) (T := FN_Kept) (N := 7) hx hb ht fN_Kept hown hK hP 0 rfl rfl 2 (by decide) (ht _ mw_267) (fun _ h9 => h9) rfl dN_Kept_isSame_11 ?_
    refine lv_iload_n hx hb dN_Kept_isSame_14 rfl (lv_at hl 1 rfl) ?_
    refine xn_ald hx hb hK hP 3 0 rfl rfl dN_Kept_isSame_15 (by omega) (by omega) ?_
    refine lv_aload_n hx hb dN_Kept_isSame_16 rfl (lv_at hl 2 rfl) ?_
    refine vx_calli (wc := [(r, .inr (5, [.ref rs, .ref rm, .int (nI ct), .int (nI tu)]))]) (wr := [(kp, .inr (1, [.ref k1, .ref k2, .ref kc, .ref kl, .ref ku, .int (nI mo), .int (nI kn)])), (k1, .inr (3, [.ref e1])), (e1, .inl (cJ, 1601, .inr (.inl ((pkB stp))))), (kc, .inl (cI, 64, .inl (ni cnt))), (kl, .inl (cI, 64, .inl (ni lbl))), (rs, .inl (cI, 200, .inl (ni st)))]) [5] [0, 1, 2, 3, 4, 6] hK hP hD hS hA rfl rfl (by decide) (by decide) (va_runV (As := []) (rest := [.int (nI (cnt i))]) ⟨hx, hb, hml, hown, ht⟩ (kRow_count l D cI cZ cJ r rs rm ct tu _) (⟨callB_of 0 ht (TB_in2 gN_Row_count) rfl rfl rfl (ht _ mw_7) (ht _ mw_859) (by decide +kernel) ⟨Nat.le_of_ble_eq_true rfl, Nat.le_of_ble_eq_true rfl⟩, ht _ mw_793, ht _ mw_794⟩) (vx_preV [5] hK hP hD (by decide) rfl (ci := 5) rfl 5 rfl) rfl rfl hl.1 rfl (lv_room (Nat.le_of_ble_eq_true rfl)) dN_Kept_isSame_17 ⟨Nat.le_of_ble_eq_true rfl, Nat.le_of_ble_eq_true rfl⟩) (fun r1 w1 H locs hq hP hD hS => ?_)
    obtain ⟨rfl, rfl⟩ := hq
    have hP : va_P D clN [(kp, .inr (1, [.ref k1, .ref k2, .ref kc, .ref kl, .ref ku, .int (nI mo), .int (nI kn)])), (k1, .inr (3, [.ref e1])), (e1, .inl (cJ, 1601, .inr (.inl ((pkB stp))))), (kc, .inl (cI, 64, .inl (ni cnt))), (kl, .inl (cI, 64, .inl (ni lbl))), (r, .inr (5, [.ref rs, .ref rm, .int (nI ct), .int (nI tu)])), (rs, .inl (cI, 200, .inl (ni st)))] H := hP.sub [0, 1, 2, 3, 4, 6, 5] rfl
    have hD : va_D A [(kp, .inr (1, [.ref k1, .ref k2, .ref kc, .ref kl, .ref ku, .int (nI mo), .int (nI kn)])), (k1, .inr (3, [.ref e1])), (e1, .inl (cJ, 1601, .inr (.inl ((pkB stp))))), (kc, .inl (cI, 64, .inl (ni cnt))), (kl, .inl (cI, 64, .inl (ni lbl))), (r, .inr (5, [.ref rs, .ref rm, .int (nI ct), .int (nI tu)])), (rs, .inl (cI, 200, .inl (ni st)))] := hD.sub [0, 1, 2, 3, 4, 6, 5] (by decide) rfl
    refine xn_eq (tgt := 25) hx hb dN_Kept_isSame_20 (by decide) (by have := hcn i; omega) (by omega) (fun c_20_1 => ?_) (fun c_20_1 => ?_)
    · skip
      refine lv_iconst (v := (nI 0)) hx hb dN_Kept_isSame_25 (by decide) ?_
      refine lv_istore (lv' := [(4, .int (nI 0)), (0, .ref kp), (1, .int (nI i)), (2, .ref r), (3, .int (nI lb))]) hx hb dN_Kept_isSame_26 hl (by decide) rfl (fun ls hl => ?_)
      refine vx_loop (α := Nat) (fun (vv : Nat) (H : Heap) (locs : List Loc) (ls : Array Slot) => match vv with | (j) => va_P D clN [(kp, .inr (1, [.ref k1, .ref k2, .ref kc, .ref kl, .ref ku, .int (nI mo), .int (nI kn)])), (k1, .inr (3, [.ref e1])), (e1, .inl (cJ, 1601, .inr (.inl ((pkB stp))))), (kc, .inl (cI, 64, .inl (ni cnt))), (kl, .inl (cI, 64, .inl (ni lbl))), (r, .inr (5, [.ref rs, .ref rm, .int (nI ct), .int (nI tu)])), (rs, .inl (cI, 200, .inl (ni st)))] H ∧ va_D A [(kp, .inr (1, [.ref k1, .ref k2, .ref kc, .ref kl, .ref ku, .int (nI mo), .int (nI kn)])), (k1, .inr (3, [.ref e1])), (e1, .inl (cJ, 1601, .inr (.inl ((pkB stp))))), (kc, .inl (cI, 64, .inl (ni cnt))), (kl, .inl (cI, 64, .inl (ni lbl))), (r, .inr (5, [.ref rs, .ref rm, .int (nI ct), .int (nI tu)])), (rs, .inl (cI, 200, .inl (ni st)))] ∧ va_S A s.heap H locs ∧ lv_has ls 5 [(0, .ref kp), (1, .int (nI i)), (2, .ref r), (4, .int (nI j))] ∧ (j ≤ ct ∧ ∀ a, a < j → stp (i * 200 + a) = st a)) (fun (vv : Nat) => match vv with | (j) => ct - j) 28 [] ?_ (0) ⟨hP, hD, hS, lv_sub hl [1, 2, 3, 0] rfl, ⟨by omega, fun a h => absurd h (by omega)⟩⟩
      intro vv H locs ls hq ih_28_2
      obtain ⟨j, rfl⟩ : ∃ z, z = vv := ⟨_, rfl⟩
      obtain ⟨hP, hD, hS, hl, hI⟩ := hq
      obtain ⟨hj9, hs9⟩ := hI
      refine lv_iload hx hb dN_Kept_isSame_28 (lv_at hl 3 rfl) ?_
      refine lv_aload_n hx hb dN_Kept_isSame_30 rfl (lv_at hl 2 rfl) ?_
      refine vx_calli (wc := [(r, .inr (5, [.ref rs, .ref rm, .int (nI ct), .int (nI tu)]))]) (wr := [(kp, .inr (1, [.ref k1, .ref k2, .ref kc, .ref kl, .ref ku, .int (nI mo), .int (nI kn)])), (k1, .inr (3, [.ref e1])), (e1, .inl (cJ, 1601, .inr (.inl ((pkB stp))))), (kc, .inl (cI, 64, .inl (ni cnt))), (kl, .inl (cI, 64, .inl (ni lbl))), (rs, .inl (cI, 200, .inl (ni st)))]) [5] [0, 1, 2, 3, 4, 6] hK hP hD hS hA rfl rfl (by decide) (by decide) (va_runV (As := []) (rest := [.int (nI j)]) ⟨hx, hb, hml, hown, ht⟩ (kRow_count l D cI cZ cJ r rs rm ct tu _) (⟨callB_of 0 ht (TB_in2 gN_Row_count) rfl rfl rfl (ht _ mw_7) (ht _ mw_859) (by decide +kernel) ⟨Nat.le_of_ble_eq_true rfl, Nat.le_of_ble_eq_true rfl⟩, ht _ mw_793, ht _ mw_794⟩) (vx_preV [5] hK hP hD (by decide) rfl (ci := 5) rfl 5 rfl) rfl rfl hl.1 rfl (lv_room (Nat.le_of_ble_eq_true rfl)) dN_Kept_isSame_31 ⟨Nat.le_of_ble_eq_true rfl, Nat.le_of_ble_eq_true rfl⟩) (fun r1 w1 H locs hq hP hD hS => ?_)
      obtain ⟨rfl, rfl⟩ := hq
      have hP : va_P D clN [(kp, .inr (1, [.ref k1, .ref k2, .ref kc, .ref kl, .ref ku, .int (nI mo), .int (nI kn)])), (k1, .inr (3, [.ref e1])), (e1, .inl (cJ, 1601, .inr (.inl ((pkB stp))))), (kc, .inl (cI, 64, .inl (ni cnt))), (kl, .inl (cI, 64, .inl (ni lbl))), (r, .inr (5, [.ref rs, .ref rm, .int (nI ct), .int (nI tu)])), (rs, .inl (cI, 200, .inl (ni st)))] H := hP.sub [0, 1, 2, 3, 4, 6, 5] rfl
      have hD : va_D A [(kp, .inr (1, [.ref k1, .ref k2, .ref kc, .ref kl, .ref ku, .int (nI mo), .int (nI kn)])), (k1, .inr (3, [.ref e1])), (e1, .inl (cJ, 1601, .inr (.inl ((pkB stp))))), (kc, .inl (cI, 64, .inl (ni cnt))), (kl, .inl (cI, 64, .inl (ni lbl))), (r, .inr (5, [.ref rs, .ref rm, .int (nI ct), .int (nI tu)])), (rs, .inl (cI, 200, .inl (ni st)))] := hD.sub [0, 1, 2, 3, 4, 6, 5] (by decide) rfl
      refine xn_ge (tgt := 61) hx hb dN_Kept_isSame_34 (by decide) (by omega) (by omega) (fun c_34_3 => ?_) (fun c_34_3 => ?_)
      · skip
        refine lv_iconst (v := (nI 1)) hx hb dN_Kept_isSame_61 (by decide) ?_
        refine xn_top (y := zi true) rfl ?_
        exact vx_zret C hK hP hD hS dN_Kept_isSame_62 (Nat.le_of_ble_eq_true rfl) (Nat.le_of_ble_eq_true rfl) (zi_nar2 _) (⟨true, rfl, (fun _ => ⟨c_7_0, c_20_1, fun a h => hs9 a (by omega)⟩), rfl⟩)
      · skip
        refine lv_aload_n hx hb dN_Kept_isSame_37 rfl (lv_at hl 0 rfl) ?_
        refine lv_iload_n hx hb dN_Kept_isSame_38 rfl (lv_at hl 1 rfl) ?_
        refine lv_iload hx hb dN_Kept_isSame_39 (lv_at hl 3 rfl) ?_
        refine vx_calli (wc := [(kp, .inr (1, [.ref k1, .ref k2, .ref kc, .ref kl, .ref ku, .int (nI mo), .int (nI kn)])), (k1, .inr (3, [.ref e1])), (e1, .inl (cJ, 1601, .inr (.inl ((pkB stp)))))]) (wr := [(kc, .inl (cI, 64, .inl (ni cnt))), (kl, .inl (cI, 64, .inl (ni lbl))), (r, .inr (5, [.ref rs, .ref rm, .int (nI ct), .int (nI tu)])), (rs, .inl (cI, 200, .inl (ni st)))]) [0, 1, 2] [3, 4, 5, 6] hK hP hD hS hA rfl rfl (by decide) (by decide) (va_runV (As := [.int (nI i), .int (nI j)]) (rest := []) ⟨hx, hb, hml, hown, ht⟩ (kKept_stepOf l D cI cZ cJ kp k1 e1 k2 e2 kc kl ku mo kn i j stp hi (by omega) (hsp _) _) (⟨callB_of 2 ht (TB_in2 gN_Kept_stepOf) rfl rfl rfl (ht _ mw_11) (ht _ mw_865) (by decide +kernel) ⟨Nat.le_of_ble_eq_true rfl, Nat.le_of_ble_eq_true rfl⟩, ht _ mw_866, ht _ mw_867⟩) (vx_preV [0, 1, 2] hK hP hD (by decide) rfl (ci := 1) rfl 0 rfl) rfl rfl hl.1 rfl (lv_room (Nat.le_of_ble_eq_true rfl)) dN_Kept_isSame_41 ⟨Nat.le_of_ble_eq_true rfl, Nat.le_of_ble_eq_true rfl⟩) (fun r1 w1 H locs hq hP hD hS => ?_)
        obtain ⟨rfl, rfl⟩ := hq
        have hP : va_P D clN [(kp, .inr (1, [.ref k1, .ref k2, .ref kc, .ref kl, .ref ku, .int (nI mo), .int (nI kn)])), (k1, .inr (3, [.ref e1])), (e1, .inl (cJ, 1601, .inr (.inl ((pkB stp))))), (kc, .inl (cI, 64, .inl (ni cnt))), (kl, .inl (cI, 64, .inl (ni lbl))), (r, .inr (5, [.ref rs, .ref rm, .int (nI ct), .int (nI tu)])), (rs, .inl (cI, 200, .inl (ni st)))] H := hP.sub [4, 5, 6, 0, 1, 2, 3] rfl
        have hD : va_D A [(kp, .inr (1, [.ref k1, .ref k2, .ref kc, .ref kl, .ref ku, .int (nI mo), .int (nI kn)])), (k1, .inr (3, [.ref e1])), (e1, .inl (cJ, 1601, .inr (.inl ((pkB stp))))), (kc, .inl (cI, 64, .inl (ni cnt))), (kl, .inl (cI, 64, .inl (ni lbl))), (r, .inr (5, [.ref rs, .ref rm, .int (nI ct), .int (nI tu)])), (rs, .inl (cI, 200, .inl (ni st)))] := hD.sub [4, 5, 6, 0, 1, 2, 3] (by decide) rfl
        refine lv_aload_n hx hb dN_Kept_isSame_44 rfl (lv_at hl 2 rfl) ?_
        refine lv_iload hx hb dN_Kept_isSame_45 (lv_at hl 3 rfl) ?_
        refine vx_calli (wc := [(r, .inr (5, [.ref rs, .ref rm, .int (nI ct), .int (nI tu)])), (rs, .inl (cI, 200, .inl (ni st)))]) (wr := [(kp, .inr (1, [.ref k1, .ref k2, .ref kc, .ref kl, .ref ku, .int (nI mo), .int (nI kn)])), (k1, .inr (3, [.ref e1])), (e1, .inl (cJ, 1601, .inr (.inl ((pkB stp))))), (kc, .inl (cI, 64, .inl (ni cnt))), (kl, .inl (cI, 64, .inl (ni lbl)))]) [5, 6] [0, 1, 2, 3, 4] hK hP hD hS hA rfl rfl (by decide) (by decide) (va_runV (As := [.int (nI j)]) (rest := [.int (nI (stp (i * 200 + j)))]) ⟨hx, hb, hml, hown, ht⟩ (kRow_get l D cI cZ cJ r rs rm ct tu st j (by omega) (by omega) _) (⟨callB_of 1 ht (TB_in2 gN_Row_get) rfl rfl rfl (ht _ mw_7) (ht _ mw_860) (by decide +kernel) ⟨Nat.le_of_ble_eq_true rfl, Nat.le_of_ble_eq_true rfl⟩, ht _ mw_797, ht _ mw_798⟩) (vx_preV [5, 6] hK hP hD (by decide) rfl (ci := 5) rfl 5 rfl) rfl rfl hl.1 rfl (lv_room (Nat.le_of_ble_eq_true rfl)) dN_Kept_isSame_47 ⟨Nat.le_of_ble_eq_true rfl, Nat.le_of_ble_eq_true rfl⟩) (fun r1 w1 H locs hq hP hD hS => ?_)
        obtain ⟨rfl, rfl⟩ := hq
        have hP : va_P D clN [(kp, .inr (1, [.ref k1, .ref k2, .ref kc, .ref kl, .ref ku, .int (nI mo), .int (nI kn)])), (k1, .inr (3, [.ref e1])), (e1, .inl (cJ, 1601, .inr (.inl ((pkB stp))))), (kc, .inl (cI, 64, .inl (ni cnt))), (kl, .inl (cI, 64, .inl (ni lbl))), (r, .inr (5, [.ref rs, .ref rm, .int (nI ct), .int (nI tu)])), (rs, .inl (cI, 200, .inl (ni st)))] H := hP.sub [0, 1, 2, 3, 4, 5, 6] rfl
        have hD : va_D A [(kp, .inr (1, [.ref k1, .ref k2, .ref kc, .ref kl, .ref ku, .int (nI mo), .int (nI kn)])), (k1, .inr (3, [.ref e1])), (e1, .inl (cJ, 1601, .inr (.inl ((pkB stp))))), (kc, .inl (cI, 64, .inl (ni cnt))), (kl, .inl (cI, 64, .inl (ni lbl))), (r, .inr (5, [.ref rs, .ref rm, .int (nI ct), .int (nI tu)])), (rs, .inl (cI, 200, .inl (ni st)))] := hD.sub [0, 1, 2, 3, 4, 5, 6] (by decide) rfl
        refine xn_eq (tgt := 55) hx hb dN_Kept_isSame_50 (by decide) (by have := hsp (i * 200 + j); omega) (by have := hst j (by omega); omega) (fun c_51_4 => ?_) (fun c_51_4 => ?_)
        · skip
          refine lv_iinc (v := (nI (j + 1))) (lv' := [(4, .int (nI (j + 1))), (0, .ref kp), (1, .int (nI i)), (2, .ref r)]) hx hb dN_Kept_isSame_55 hl (k := 3) rfl (nI_1 _) (by decide) rfl (fun ls hl => ?_)
          refine lv_goto (tgt := 28) hx hb dN_Kept_isSame_58 (by decide) ?_
          exact ih_28_2 (j + 1) _ _ _ ⟨hP, hD, hS, lv_sub hl [1, 2, 3, 0] rfl, ⟨by omega, fun a h => by rcases Nat.lt_succ_iff_lt_or_eq.mp h with h2 | h2; (exact hs9 a h2); (subst h2; exact c_51_4)⟩⟩ (show (ct - (j + 1)) < (ct - j) from by omega)
        · skip
          refine lv_iconst (v := (nI 0)) hx hb dN_Kept_isSame_53 (by decide) ?_
          refine xn_top (y := zi false) rfl ?_
          exact vx_zret C hK hP hD hS dN_Kept_isSame_54 (Nat.le_of_ble_eq_true rfl) (Nat.le_of_ble_eq_true rfl) (zi_nar2 _) (⟨false, rfl, (fun h => by cases h), rfl⟩)
    · skip
      refine lv_iconst (v := (nI 0)) hx hb dN_Kept_isSame_23 (by decide) ?_
      refine xn_top (y := zi false) rfl ?_
      exact vx_zret C hK hP hD hS dN_Kept_isSame_24 (Nat.le_of_ble_eq_true rfl) (Nat.le_of_ble_eq_true rfl) (zi_nar2 _) (⟨false, rfl, (fun h => by cases h), rfl⟩)
set_option maxHeartbeats 4000000 in
set_option maxRecDepth 100000 in
/-- add(row, lb, y) -/
theorem kKept_add (l : Launch) (D : va_G) (cI cZ cJ : ClassId) (kp k1 e1 k2 e2 kc kl ku mo kn : Nat) (r rs rm ct tu : Nat) (stp mvs cnt lbl st : Nat → Nat) (sms : Nat → Int32) (lb : Nat) (y : Int32) (hkn : kn < 64) (hct : ct ≤ 200) (hst : ∀ q, q < ct → st q < 256) : vx_Mv l yN_Kept_add wN_Kept_add ({ frames := 1, cells := 0, slots := 0, locals := 24 }) D clN (tyN cI cZ cJ) [.ref kp, .ref r, .int (nI lb), .int y] [(kp, .inr (1, [.ref k1, .ref k2, .ref kc, .ref kl, .ref ku, .int (nI mo), .int (nI kn)])), (k1, .inr (3, [.ref e1])), (e1, .inl (cJ, 1601, .inr (.inl ((pkB stp))))), (k2, .inr (3, [.ref e2])), (e2, .inl (cJ, 2113, .inr (.inl ((pkB mvs))))), (kc, .inl (cI, 64, .inl (ni cnt))), (kl, .inl (cI, 64, .inl (ni lbl))), (ku, .inl (cI, 64, .inl sms)), (r, .inr (5, [.ref rs, .ref rm, .int (nI ct), .int (nI tu)])), (rs, .inl (cI, 200, .inl (ni st)))] (fun w => w = [(kp, .inr (1, [.ref k1, .ref k2, .ref kc, .ref kl, .ref ku, .int (nI mo), .int (nI (kn + 1))])), (k1, .inr (3, [.ref e1])), (e1, .inl (cJ, 1601, .inr (.inl ((pkB (stK stp kn st ct)))))), (k2, .inr (3, [.ref e2])), (e2, .inl (cJ, 2113, .inr (.inl ((pkB (wpR mvs (33 * kn) (33 * kn + 33))))))), (kc, .inl (cI, 64, .inl (ni (un cnt kn ct)))), (kl, .inl (cI, 64, .inl (ni (un lbl kn lb)))), (ku, .inl (cI, 64, .inl ((upd sms kn y)))), (r, .inr (5, [.ref rs, .ref rm, .int (nI ct), .int (nI tu)])), (rs, .inl (cI, 200, .inl (ni st)))]) := by
  refine vx_startV (cc := cN_Kept_add) (maxL := 5) (ret := none) (by decide) rfl (Nat.le_of_ble_eq_true rfl) ?_
  intro p_0 e_0 s m below meth c_0 A ls C hK hP hD hS hA hl
  obtain ⟨hx, hb, hr, hml, hown, hts, hlocks, hnm⟩ := id C
  have hown : s.vm.findClass "StepMachines$Kept" = some m.cls := hown
  have ht : ∀ w ∈ TB, w.before _ s = true := fun w h => hts w (List.mem_cons_of_mem _ h)
  have hl : lv_has ls 5 [(0, .ref kp), (1, .ref r), (2, .int (nI lb)), (3, .int y)] := hl
  refine lv_aload_n hx hb dN_Kept_add_0 rfl (lv_at hl 0 rfl) ?_
  refine va_get (D := D) (ci := 1) (v := .ref kc) (C := RN_Kept) (T := FN_Kept) (N := 7) hx hb ht fN_Kept hown hK hP 0 rfl rfl 2 (by decide) (ht _ mw_267) (fun _ h9 => h9) rfl dN_Kept_add_1 ?_
  refine lv_aload_n hx hb dN_Kept_add_4 rfl (lv_at hl 0 rfl) ?_
  refine va_get (D := D) (ci := 1) (v := .int (nI kn)) (C := RN_Kept) (T := FN_Kept) (N := 7) hx hb ht fN_Kept hown hK hP 0 rfl rfl 6 (by decide) (ht _ mw_271) (fun _ h9 => h9) rfl dN_Kept_add_5 ?_
  refine lv_aload_n hx hb dN_Kept_add_8 rfl (lv_at hl 1 rfl) ?_
  refine vx_calli (wc := [(r, .inr (5, [.ref rs, .ref rm, .int (nI ct), .int (nI tu)]))]) (wr := [(kp, .inr (1, [.ref k1, .ref k2, .ref kc, .ref kl, .ref ku, .int (nI mo), .int (nI kn)])), (k1, .inr (3, [.ref e1])), (e1, .inl (cJ, 1601, .inr (.inl ((pkB stp))))), (k2, .inr (3, [.ref e2])), (e2, .inl (cJ, 2113, .inr (.inl ((pkB mvs))))), (kc, .inl (cI, 64, .inl (ni cnt))), (kl, .inl (cI, 64, .inl (ni lbl))), (ku, .inl (cI, 64, .inl sms)), (rs, .inl (cI, 200, .inl (ni st)))]) [8] [0, 1, 2, 3, 4, 5, 6, 7, 9] hK hP hD hS hA rfl rfl (by decide) (by decide) (va_runV (As := []) (rest := [.int (nI kn), .ref kc]) ⟨hx, hb, hml, hown, ht⟩ (kRow_count l D cI cZ cJ r rs rm ct tu _) (⟨callB_of 0 ht (TB_in2 gN_Row_count) rfl rfl rfl (ht _ mw_7) (ht _ mw_859) (by decide +kernel) ⟨Nat.le_of_ble_eq_true rfl, Nat.le_of_ble_eq_true rfl⟩, ht _ mw_793, ht _ mw_794⟩) (vx_preV [8] hK hP hD (by decide) rfl (ci := 5) rfl 8 rfl) rfl rfl hl.1 rfl (lv_room (Nat.le_of_ble_eq_true rfl)) dN_Kept_add_9 ⟨Nat.le_of_ble_eq_true rfl, Nat.le_of_ble_eq_true rfl⟩) (fun r1 w1 H locs hq hP hD hS => ?_)
  obtain ⟨rfl, rfl⟩ := hq
  have hP : va_P D clN [(kp, .inr (1, [.ref k1, .ref k2, .ref kc, .ref kl, .ref ku, .int (nI mo), .int (nI kn)])), (k1, .inr (3, [.ref e1])), (e1, .inl (cJ, 1601, .inr (.inl ((pkB stp))))), (k2, .inr (3, [.ref e2])), (e2, .inl (cJ, 2113, .inr (.inl ((pkB mvs))))), (kc, .inl (cI, 64, .inl (ni cnt))), (kl, .inl (cI, 64, .inl (ni lbl))), (ku, .inl (cI, 64, .inl sms)), (r, .inr (5, [.ref rs, .ref rm, .int (nI ct), .int (nI tu)])), (rs, .inl (cI, 200, .inl (ni st)))] H := hP.sub [0, 1, 2, 3, 4, 5, 6, 7, 9, 8] rfl
  have hD : va_D A [(kp, .inr (1, [.ref k1, .ref k2, .ref kc, .ref kl, .ref ku, .int (nI mo), .int (nI kn)])), (k1, .inr (3, [.ref e1])), (e1, .inl (cJ, 1601, .inr (.inl ((pkB stp))))), (k2, .inr (3, [.ref e2])), (e2, .inl (cJ, 2113, .inr (.inl ((pkB mvs))))), (kc, .inl (cI, 64, .inl (ni cnt))), (kl, .inl (cI, 64, .inl (ni lbl))), (ku, .inl (cI, 64, .inl sms)), (r, .inr (5, [.ref rs, .ref rm, .int (nI ct), .int (nI tu)])), (rs, .inl (cI, 200, .inl (ni st)))] := hD.sub [0, 1, 2, 3, 4, 5, 6, 7, 9, 8] (by decide) rfl
  refine xn_ast hx hb hK hP hD hS 5 0 rfl rfl dN_Kept_add_12 (by omega) (by omega) (fun H locs hP hD hS => ?_)
  have hP : va_P D clN [(kp, .inr (1, [.ref k1, .ref k2, .ref kc, .ref kl, .ref ku, .int (nI mo), .int (nI kn)])), (k1, .inr (3, [.ref e1])), (e1, .inl (cJ, 1601, .inr (.inl ((pkB stp))))), (k2, .inr (3, [.ref e2])), (e2, .inl (cJ, 2113, .inr (.inl ((pkB mvs))))), (kc, .inl (cI, 64, .inl (ni (un cnt kn ct)))), (kl, .inl (cI, 64, .inl (ni lbl))), (ku, .inl (cI, 64, .inl sms)), (r, .inr (5, [.ref rs, .ref rm, .int (nI ct), .int (nI tu)])), (rs, .inl (cI, 200, .inl (ni st)))] H := hP
  have hD : va_D A [(kp, .inr (1, [.ref k1, .ref k2, .ref kc, .ref kl, .ref ku, .int (nI mo), .int (nI kn)])), (k1, .inr (3, [.ref e1])), (e1, .inl (cJ, 1601, .inr (.inl ((pkB stp))))), (k2, .inr (3, [.ref e2])), (e2, .inl (cJ, 2113, .inr (.inl ((pkB mvs))))), (kc, .inl (cI, 64, .inl (ni (un cnt kn ct)))), (kl, .inl (cI, 64, .inl (ni lbl))), (ku, .inl (cI, 64, .inl sms)), (r, .inr (5, [.ref rs, .ref rm, .int (nI ct), .int (nI tu)])), (rs, .inl (cI, 200, .inl (ni st)))] := hD
  refine lv_aload_n hx hb dN_Kept_add_13 rfl (lv_at hl 0 rfl) ?_
  refine va_get (D := D) (ci := 1) (v := .ref kl) (C := RN_Kept) (T := FN_Kept) (N := 7) hx hb ht fN_Kept hown hK hP 0 rfl rfl 3 (by decide) (ht _ mw_268) (fun _ h9 => h9) rfl dN_Kept_add_14 ?_
  refine lv_aload_n hx hb dN_Kept_add_17 rfl (lv_at hl 0 rfl) ?_
  refine va_get (D := D) (ci := 1) (v := .int (nI kn)) (C := RN_Kept) (T := FN_Kept) (N := 7) hx hb ht fN_Kept hown hK hP 0 rfl rfl 6 (by decide) (ht _ mw_271) (fun _ h9 => h9) rfl dN_Kept_add_18 ?_
  refine lv_iload_n hx hb dN_Kept_add_21 rfl (lv_at hl 2 rfl) ?_
  refine xn_ast hx hb hK hP hD hS 6 0 rfl rfl dN_Kept_add_22 (by omega) (by omega) (fun H locs hP hD hS => ?_)
  have hP : va_P D clN [(kp, .inr (1, [.ref k1, .ref k2, .ref kc, .ref kl, .ref ku, .int (nI mo), .int (nI kn)])), (k1, .inr (3, [.ref e1])), (e1, .inl (cJ, 1601, .inr (.inl ((pkB stp))))), (k2, .inr (3, [.ref e2])), (e2, .inl (cJ, 2113, .inr (.inl ((pkB mvs))))), (kc, .inl (cI, 64, .inl (ni (un cnt kn ct)))), (kl, .inl (cI, 64, .inl (ni (un lbl kn lb)))), (ku, .inl (cI, 64, .inl sms)), (r, .inr (5, [.ref rs, .ref rm, .int (nI ct), .int (nI tu)])), (rs, .inl (cI, 200, .inl (ni st)))] H := hP
  have hD : va_D A [(kp, .inr (1, [.ref k1, .ref k2, .ref kc, .ref kl, .ref ku, .int (nI mo), .int (nI kn)])), (k1, .inr (3, [.ref e1])), (e1, .inl (cJ, 1601, .inr (.inl ((pkB stp))))), (k2, .inr (3, [.ref e2])), (e2, .inl (cJ, 2113, .inr (.inl ((pkB mvs))))), (kc, .inl (cI, 64, .inl (ni (un cnt kn ct)))), (kl, .inl (cI, 64, .inl (ni (un lbl kn lb)))), (ku, .inl (cI, 64, .inl sms)), (r, .inr (5, [.ref rs, .ref rm, .int (nI ct), .int (nI tu)])), (rs, .inl (cI, 200, .inl (ni st)))] := hD
  refine lv_aload_n hx hb dN_Kept_add_23 rfl (lv_at hl 0 rfl) ?_
  refine va_get (D := D) (ci := 1) (v := .ref ku) (C := RN_Kept) (T := FN_Kept) (N := 7) hx hb ht fN_Kept hown hK hP 0 rfl rfl 4 (by decide) (ht _ mw_269) (fun _ h9 => h9) rfl dN_Kept_add_24 ?_
  refine lv_aload_n hx hb dN_Kept_add_27 rfl (lv_at hl 0 rfl) ?_
  refine va_get (D := D) (ci := 1) (v := .int (nI kn)) (C := RN_Kept) (T := FN_Kept) (N := 7) hx hb ht fN_Kept hown hK hP 0 rfl rfl 6 (by decide) (ht _ mw_271) (fun _ h9 => h9) rfl dN_Kept_add_28 ?_
  refine lv_iload_n hx hb dN_Kept_add_31 rfl (lv_at hl 3 rfl) ?_
  refine xi_ast hx hb hK hP hD hS 7 0 rfl rfl dN_Kept_add_32 (by omega) (by omega) (fun H locs hP hD hS => ?_)
  have hP : va_P D clN [(kp, .inr (1, [.ref k1, .ref k2, .ref kc, .ref kl, .ref ku, .int (nI mo), .int (nI kn)])), (k1, .inr (3, [.ref e1])), (e1, .inl (cJ, 1601, .inr (.inl ((pkB stp))))), (k2, .inr (3, [.ref e2])), (e2, .inl (cJ, 2113, .inr (.inl ((pkB mvs))))), (kc, .inl (cI, 64, .inl (ni (un cnt kn ct)))), (kl, .inl (cI, 64, .inl (ni (un lbl kn lb)))), (ku, .inl (cI, 64, .inl ((upd sms kn y)))), (r, .inr (5, [.ref rs, .ref rm, .int (nI ct), .int (nI tu)])), (rs, .inl (cI, 200, .inl (ni st)))] H := hP
  have hD : va_D A [(kp, .inr (1, [.ref k1, .ref k2, .ref kc, .ref kl, .ref ku, .int (nI mo), .int (nI kn)])), (k1, .inr (3, [.ref e1])), (e1, .inl (cJ, 1601, .inr (.inl ((pkB stp))))), (k2, .inr (3, [.ref e2])), (e2, .inl (cJ, 2113, .inr (.inl ((pkB mvs))))), (kc, .inl (cI, 64, .inl (ni (un cnt kn ct)))), (kl, .inl (cI, 64, .inl (ni (un lbl kn lb)))), (ku, .inl (cI, 64, .inl ((upd sms kn y)))), (r, .inr (5, [.ref rs, .ref rm, .int (nI ct), .int (nI tu)])), (rs, .inl (cI, 200, .inl (ni st)))] := hD
  have hP : va_P D clN [(kp, .inr (1, [.ref k1, .ref k2, .ref kc, .ref kl, .ref ku, .int (nI mo), .int (nI kn)])), (k1, .inr (3, [.ref e1])), (e1, .inl (cJ, 1601, .inr (.inl ((pkB (stK stp kn st 0)))))), (k2, .inr (3, [.ref e2])), (e2, .inl (cJ, 2113, .inr (.inl ((pkB mvs))))), (kc, .inl (cI, 64, .inl (ni (un cnt kn ct)))), (kl, .inl (cI, 64, .inl (ni (un lbl kn lb)))), (ku, .inl (cI, 64, .inl ((upd sms kn y)))), (r, .inr (5, [.ref rs, .ref rm, .int (nI ct), .int (nI tu)])), (rs, .inl (cI, 200, .inl (ni st)))] _ := xP_fnL (q := 2) (g := pkB (stK stp kn st 0)) hP rfl ((by rw [stK_0]))
  have hD : va_D A [(kp, .inr (1, [.ref k1, .ref k2, .ref kc, .ref kl, .ref ku, .int (nI mo), .int (nI kn)])), (k1, .inr (3, [.ref e1])), (e1, .inl (cJ, 1601, .inr (.inl ((pkB (stK stp kn st 0)))))), (k2, .inr (3, [.ref e2])), (e2, .inl (cJ, 2113, .inr (.inl ((pkB mvs))))), (kc, .inl (cI, 64, .inl (ni (un cnt kn ct)))), (kl, .inl (cI, 64, .inl (ni (un lbl kn lb)))), (ku, .inl (cI, 64, .inl ((upd sms kn y)))), (r, .inr (5, [.ref rs, .ref rm, .int (nI ct), .int (nI tu)])), (rs, .inl (cI, 200, .inl (ni st)))] := xD_fn (q := 2) hD rfl
  refine lv_iconst (v := (nI 0)) hx hb dN_Kept_add_33 (by decide) ?_
  refine lv_istore (lv' := [(4, .int (nI 0)), (0, .ref kp), (1, .ref r), (2, .int (nI lb)), (3, .int y)]) hx hb dN_Kept_add_34 hl (by decide) rfl (fun ls hl => ?_)
  refine vx_loop (α := Nat) (fun (vv : Nat) (H : Heap) (locs : List Loc) (ls : Array Slot) => match vv with | (j) => va_P D clN [(kp, .inr (1, [.ref k1, .ref k2, .ref kc, .ref kl, .ref ku, .int (nI mo), .int (nI kn)])), (k1, .inr (3, [.ref e1])), (e1, .inl (cJ, 1601, .inr (.inl ((pkB (stK stp kn st j)))))), (k2, .inr (3, [.ref e2])), (e2, .inl (cJ, 2113, .inr (.inl ((pkB mvs))))), (kc, .inl (cI, 64, .inl (ni (un cnt kn ct)))), (kl, .inl (cI, 64, .inl (ni (un lbl kn lb)))), (ku, .inl (cI, 64, .inl ((upd sms kn y)))), (r, .inr (5, [.ref rs, .ref rm, .int (nI ct), .int (nI tu)])), (rs, .inl (cI, 200, .inl (ni st)))] H ∧ va_D A [(kp, .inr (1, [.ref k1, .ref k2, .ref kc, .ref kl, .ref ku, .int (nI mo), .int (nI kn)])), (k1, .inr (3, [.ref e1])), (e1, .inl (cJ, 1601, .inr (.inl ((pkB (stK stp kn st j)))))), (k2, .inr (3, [.ref e2])), (e2, .inl (cJ, 2113, .inr (.inl ((pkB mvs))))), (kc, .inl (cI, 64, .inl (ni (un cnt kn ct)))), (kl, .inl (cI, 64, .inl (ni (un lbl kn lb)))), (ku, .inl (cI, 64, .inl ((upd sms kn y)))), (r, .inr (5, [.ref rs, .ref rm, .int (nI ct), .int (nI tu)])), (rs, .inl (cI, 200, .inl (ni st)))] ∧ va_S A s.heap H locs ∧ lv_has ls 5 [(0, .ref kp), (1, .ref r), (4, .int (nI j))] ∧ (j ≤ ct)) (fun (vv : Nat) => match vv with | (j) => ct - j) 36 [] ?_ (0) ⟨hP, hD, hS, lv_sub hl [1, 2, 0] rfl, by omega⟩
  intro vv H locs ls hq ih_36_0
  obtain ⟨j, rfl⟩ : ∃ z, z = vv := ⟨_, rfl⟩
  obtain ⟨hP, hD, hS, hl, hI⟩ := hq
  refine lv_iload hx hb dN_Kept_add_36 (lv_at hl 2 rfl) ?_
  refine lv_aload_n hx hb dN_Kept_add_38 rfl (lv_at hl 1 rfl) ?_
  refine vx_calli (wc := [(r, .inr (5, [.ref rs, .ref rm, .int (nI ct), .int (nI tu)]))]) (wr := [(kp, .inr (1, [.ref k1, .ref k2, .ref kc, .ref kl, .ref ku, .int (nI mo), .int (nI kn)])), (k1, .inr (3, [.ref e1])), (e1, .inl (cJ, 1601, .inr (.inl ((pkB (stK stp kn st j)))))), (k2, .inr (3, [.ref e2])), (e2, .inl (cJ, 2113, .inr (.inl ((pkB mvs))))), (kc, .inl (cI, 64, .inl (ni (un cnt kn ct)))), (kl, .inl (cI, 64, .inl (ni (un lbl kn lb)))), (ku, .inl (cI, 64, .inl ((upd sms kn y)))), (rs, .inl (cI, 200, .inl (ni st)))]) [8] [0, 1, 2, 3, 4, 5, 6, 7, 9] hK hP hD hS hA rfl rfl (by decide) (by decide) (va_runV (As := []) (rest := [.int (nI j)]) ⟨hx, hb, hml, hown, ht⟩ (kRow_count l D cI cZ cJ r rs rm ct tu _) (⟨callB_of 0 ht (TB_in2 gN_Row_count) rfl rfl rfl (ht _ mw_7) (ht _ mw_859) (by decide +kernel) ⟨Nat.le_of_ble_eq_true rfl, Nat.le_of_ble_eq_true rfl⟩, ht _ mw_793, ht _ mw_794⟩) (vx_preV [8] hK hP hD (by decide) rfl (ci := 5) rfl 8 rfl) rfl rfl hl.1 rfl (lv_room (Nat.le_of_ble_eq_true rfl)) dN_Kept_add_39 ⟨Nat.le_of_ble_eq_true rfl, Nat.le_of_ble_eq_true rfl⟩) (fun r1 w1 H locs hq hP hD hS => ?_)
  obtain ⟨rfl, rfl⟩ := hq
  have hP : va_P D clN [(kp, .inr (1, [.ref k1, .ref k2, .ref kc, .ref kl, .ref ku, .int (nI mo), .int (nI kn)])), (k1, .inr (3, [.ref e1])), (e1, .inl (cJ, 1601, .inr (.inl ((pkB (stK stp kn st j)))))), (k2, .inr (3, [.ref e2])), (e2, .inl (cJ, 2113, .inr (.inl ((pkB mvs))))), (kc, .inl (cI, 64, .inl (ni (un cnt kn ct)))), (kl, .inl (cI, 64, .inl (ni (un lbl kn lb)))), (ku, .inl (cI, 64, .inl ((upd sms kn y)))), (r, .inr (5, [.ref rs, .ref rm, .int (nI ct), .int (nI tu)])), (rs, .inl (cI, 200, .inl (ni st)))] H := hP.sub [0, 1, 2, 3, 4, 5, 6, 7, 9, 8] rfl
  have hD : va_D A [(kp, .inr (1, [.ref k1, .ref k2, .ref kc, .ref kl, .ref ku, .int (nI mo), .int (nI kn)])), (k1, .inr (3, [.ref e1])), (e1, .inl (cJ, 1601, .inr (.inl ((pkB (stK stp kn st j)))))), (k2, .inr (3, [.ref e2])), (e2, .inl (cJ, 2113, .inr (.inl ((pkB mvs))))), (kc, .inl (cI, 64, .inl (ni (un cnt kn ct)))), (kl, .inl (cI, 64, .inl (ni (un lbl kn lb)))), (ku, .inl (cI, 64, .inl ((upd sms kn y)))), (r, .inr (5, [.ref rs, .ref rm, .int (nI ct), .int (nI tu)])), (rs, .inl (cI, 200, .inl (ni st)))] := hD.sub [0, 1, 2, 3, 4, 5, 6, 7, 9, 8] (by decide) rfl
  refine xn_ge (tgt := 75) hx hb dN_Kept_add_42 (by decide) (by omega) (by omega) (fun c_42_1 => ?_) (fun c_42_1 => ?_)
  · skip
    obtain rfl : ct = j := by omega
    refine lv_aload_n hx hb dN_Kept_add_75 rfl (lv_at hl 0 rfl) ?_
    refine va_get (D := D) (ci := 1) (v := .ref k2) (C := RN_Kept) (T := FN_Kept) (N := 7) hx hb ht fN_Kept hown hK hP 0 rfl rfl 1 (by decide) (ht _ mw_266) (fun _ h9 => h9) rfl dN_Kept_add_76 ?_
    refine lv_aload_n hx hb dN_Kept_add_79 rfl (lv_at hl 0 rfl) ?_
    refine va_get (D := D) (ci := 1) (v := .int (nI kn)) (C := RN_Kept) (T := FN_Kept) (N := 7) hx hb ht fN_Kept hown hK hP 0 rfl rfl 6 (by decide) (ht _ mw_271) (fun _ h9 => h9) rfl dN_Kept_add_80 ?_
    refine lv_sipush (v := (nI 264)) hx hb dN_Kept_add_83 (by decide) ?_
    refine xn_mul hx hb dN_Kept_add_86 ?_
    refine xn_top (y := (nI (8 * (33 * kn)))) (by rw [show kn * 264 = 8 * (33 * kn) by omega]) ?_
    refine lv_sipush (v := (nI 264)) hx hb dN_Kept_add_87 (by decide) ?_
    refine xn_top (y := (nI (8 * 33))) rfl ?_
    refine vx_callv (wc := [(k2, .inr (3, [.ref e2])), (e2, .inl (cJ, 2113, .inr (.inl ((pkB mvs)))))]) (wr := [(kp, .inr (1, [.ref k1, .ref k2, .ref kc, .ref kl, .ref ku, .int (nI mo), .int (nI kn)])), (k1, .inr (3, [.ref e1])), (e1, .inl (cJ, 1601, .inr (.inl ((pkB (stK stp kn st ct)))))), (kc, .inl (cI, 64, .inl (ni (un cnt kn ct)))), (kl, .inl (cI, 64, .inl (ni (un lbl kn lb)))), (ku, .inl (cI, 64, .inl ((upd sms kn y)))), (r, .inr (5, [.ref rs, .ref rm, .int (nI ct), .int (nI tu)])), (rs, .inl (cI, 200, .inl (ni st)))]) [3, 4] [0, 1, 2, 5, 6, 7, 8, 9] hK hP hD hS hA rfl rfl (by decide) (by decide) (va_runV (As := [.int (nI (8 * (33 * kn))), .int (nI (8 * 33))]) (rest := []) ⟨hx, hb, hml, hown, ht⟩ (kPacked_wipe l D cI cZ cJ k2 e2 2113 mvs (33 * kn) 33 (by omega) (by omega) _) (⟨callB_of 2 ht (TB_in2 gN_Packed_wipe) rfl rfl rfl (ht _ mw_12) (ht _ mw_884) (by decide +kernel) ⟨Nat.le_of_ble_eq_true rfl, Nat.le_of_ble_eq_true rfl⟩, ht _ mw_885, ht _ mw_886⟩) (vx_preV [3, 4] hK hP hD (by decide) rfl (ci := 3) rfl 3 rfl) rfl rfl hl.1 rfl (lv_room (Nat.le_of_ble_eq_true rfl)) dN_Kept_add_90 ⟨Nat.le_of_ble_eq_true rfl, Nat.le_of_ble_eq_true rfl⟩) (fun w1 H locs hq hP hD hS => ?_)
    subst hq
    have hP : va_P D clN [(kp, .inr (1, [.ref k1, .ref k2, .ref kc, .ref kl, .ref ku, .int (nI mo), .int (nI kn)])), (k1, .inr (3, [.ref e1])), (e1, .inl (cJ, 1601, .inr (.inl ((pkB (stK stp kn st ct)))))), (k2, .inr (3, [.ref e2])), (e2, .inl (cJ, 2113, .inr (.inl ((pkB (wpR mvs (33 * kn) (33 * kn + 33))))))), (kc, .inl (cI, 64, .inl (ni (un cnt kn ct)))), (kl, .inl (cI, 64, .inl (ni (un lbl kn lb)))), (ku, .inl (cI, 64, .inl ((upd sms kn y)))), (r, .inr (5, [.ref rs, .ref rm, .int (nI ct), .int (nI tu)])), (rs, .inl (cI, 200, .inl (ni st)))] H := hP.sub [0, 1, 2, 8, 9, 3, 4, 5, 6, 7] rfl
    have hD : va_D A [(kp, .inr (1, [.ref k1, .ref k2, .ref kc, .ref kl, .ref ku, .int (nI mo), .int (nI kn)])), (k1, .inr (3, [.ref e1])), (e1, .inl (cJ, 1601, .inr (.inl ((pkB (stK stp kn st ct)))))), (k2, .inr (3, [.ref e2])), (e2, .inl (cJ, 2113, .inr (.inl ((pkB (wpR mvs (33 * kn) (33 * kn + 33))))))), (kc, .inl (cI, 64, .inl (ni (un cnt kn ct)))), (kl, .inl (cI, 64, .inl (ni (un lbl kn lb)))), (ku, .inl (cI, 64, .inl ((upd sms kn y)))), (r, .inr (5, [.ref rs, .ref rm, .int (nI ct), .int (nI tu)])), (rs, .inl (cI, 200, .inl (ni st)))] := hD.sub [0, 1, 2, 8, 9, 3, 4, 5, 6, 7] (by decide) rfl
    refine lv_aload_n hx hb dN_Kept_add_93 rfl (lv_at hl 0 rfl) ?_
    refine lv_dup hx hb dN_Kept_add_94 rfl ?_
    refine va_get (D := D) (ci := 1) (v := .int (nI kn)) (C := RN_Kept) (T := FN_Kept) (N := 7) hx hb ht fN_Kept hown hK hP 0 rfl rfl 6 (by decide) (ht _ mw_271) (fun _ h9 => h9) rfl dN_Kept_add_95 ?_
    refine lv_iconst (v := (nI 1)) hx hb dN_Kept_add_98 (by decide) ?_
    refine xn_add hx hb dN_Kept_add_99 ?_
    refine va_put (D := D) (ci := 1) (v := .int (nI (kn + 1))) (ty := .int) (C := RN_Kept) (T := FN_Kept) (N := 7) hx hb ht fN_Kept tN_Kept oN_Kept nN_Kept hown hK hP hD hS 0 rfl rfl 6 (by decide) (ht _ mw_271) (fun _ h9 => h9) rfl (by decide +kernel) (rfl) (rfl) (Nat.le_of_ble_eq_true rfl) dN_Kept_add_100 (fun H locs hP hD hS => ?_)
    have hP : va_P D clN [(kp, .inr (1, [.ref k1, .ref k2, .ref kc, .ref kl, .ref ku, .int (nI mo), .int (nI (kn + 1))])), (k1, .inr (3, [.ref e1])), (e1, .inl (cJ, 1601, .inr (.inl ((pkB (stK stp kn st ct)))))), (k2, .inr (3, [.ref e2])), (e2, .inl (cJ, 2113, .inr (.inl ((pkB (wpR mvs (33 * kn) (33 * kn + 33))))))), (kc, .inl (cI, 64, .inl (ni (un cnt kn ct)))), (kl, .inl (cI, 64, .inl (ni (un lbl kn lb)))), (ku, .inl (cI, 64, .inl ((upd sms kn y)))), (r, .inr (5, [.ref rs, .ref rm, .int (nI ct), .int (nI tu)])), (rs, .inl (cI, 200, .inl (ni st)))] H := hP
    have hD : va_D A [(kp, .inr (1, [.ref k1, .ref k2, .ref kc, .ref kl, .ref ku, .int (nI mo), .int (nI (kn + 1))])), (k1, .inr (3, [.ref e1])), (e1, .inl (cJ, 1601, .inr (.inl ((pkB (stK stp kn st ct)))))), (k2, .inr (3, [.ref e2])), (e2, .inl (cJ, 2113, .inr (.inl ((pkB (wpR mvs (33 * kn) (33 * kn + 33))))))), (kc, .inl (cI, 64, .inl (ni (un cnt kn ct)))), (kl, .inl (cI, 64, .inl (ni (un lbl kn lb)))), (ku, .inl (cI, 64, .inl ((upd sms kn y)))), (r, .inr (5, [.ref rs, .ref rm, .int (nI ct), .int (nI tu)])), (rs, .inl (cI, 200, .inl (ni st)))] := hD
    exact vx_vret C hK hP hD hS dN_Kept_add_103 (Nat.le_of_ble_eq_true rfl) (Nat.le_of_ble_eq_true rfl) (rfl)
  · skip
    refine lv_aload_n hx hb dN_Kept_add_45 rfl (lv_at hl 0 rfl) ?_
    refine va_get (D := D) (ci := 1) (v := .ref k1) (C := RN_Kept) (T := FN_Kept) (N := 7) hx hb ht fN_Kept hown hK hP 0 rfl rfl 0 (by decide) (ht _ mw_265) (fun _ h9 => h9) rfl dN_Kept_add_46 ?_
    refine lv_aload_n hx hb dN_Kept_add_49 rfl (lv_at hl 0 rfl) ?_
    refine va_get (D := D) (ci := 1) (v := .int (nI kn)) (C := RN_Kept) (T := FN_Kept) (N := 7) hx hb ht fN_Kept hown hK hP 0 rfl rfl 6 (by decide) (ht _ mw_271) (fun _ h9 => h9) rfl dN_Kept_add_50 ?_
    refine lv_sipush (v := (nI 200)) hx hb dN_Kept_add_53 (by decide) ?_
    refine xn_mul hx hb dN_Kept_add_56 ?_
    refine lv_iload hx hb dN_Kept_add_57 (lv_at hl 2 rfl) ?_
    refine xn_add hx hb dN_Kept_add_59 ?_
    refine lv_aload_n hx hb dN_Kept_add_60 rfl (lv_at hl 1 rfl) ?_
    refine lv_iload hx hb dN_Kept_add_61 (lv_at hl 2 rfl) ?_
    refine vx_calli (wc := [(r, .inr (5, [.ref rs, .ref rm, .int (nI ct), .int (nI tu)])), (rs, .inl (cI, 200, .inl (ni st)))]) (wr := [(kp, .inr (1, [.ref k1, .ref k2, .ref kc, .ref kl, .ref ku, .int (nI mo), .int (nI kn)])), (k1, .inr (3, [.ref e1])), (e1, .inl (cJ, 1601, .inr (.inl ((pkB (stK stp kn st j)))))), (k2, .inr (3, [.ref e2])), (e2, .inl (cJ, 2113, .inr (.inl ((pkB mvs))))), (kc, .inl (cI, 64, .inl (ni (un cnt kn ct)))), (kl, .inl (cI, 64, .inl (ni (un lbl kn lb)))), (ku, .inl (cI, 64, .inl ((upd sms kn y))))]) [8, 9] [0, 1, 2, 3, 4, 5, 6, 7] hK hP hD hS hA rfl rfl (by decide) (by decide) (va_runV (As := [.int (nI j)]) (rest := [.int (nI ((kn * 200) + j)), .ref k1]) ⟨hx, hb, hml, hown, ht⟩ (kRow_get l D cI cZ cJ r rs rm ct tu st j (by omega) (by omega) _) (⟨callB_of 1 ht (TB_in2 gN_Row_get) rfl rfl rfl (ht _ mw_7) (ht _ mw_860) (by decide +kernel) ⟨Nat.le_of_ble_eq_true rfl, Nat.le_of_ble_eq_true rfl⟩, ht _ mw_797, ht _ mw_798⟩) (vx_preV [8, 9] hK hP hD (by decide) rfl (ci := 5) rfl 8 rfl) rfl rfl hl.1 rfl (lv_room (Nat.le_of_ble_eq_true rfl)) dN_Kept_add_63 ⟨Nat.le_of_ble_eq_true rfl, Nat.le_of_ble_eq_true rfl⟩) (fun r1 w1 H locs hq hP hD hS => ?_)
    obtain ⟨rfl, rfl⟩ := hq
    have hP : va_P D clN [(kp, .inr (1, [.ref k1, .ref k2, .ref kc, .ref kl, .ref ku, .int (nI mo), .int (nI kn)])), (k1, .inr (3, [.ref e1])), (e1, .inl (cJ, 1601, .inr (.inl ((pkB (stK stp kn st j)))))), (k2, .inr (3, [.ref e2])), (e2, .inl (cJ, 2113, .inr (.inl ((pkB mvs))))), (kc, .inl (cI, 64, .inl (ni (un cnt kn ct)))), (kl, .inl (cI, 64, .inl (ni (un lbl kn lb)))), (ku, .inl (cI, 64, .inl ((upd sms kn y)))), (r, .inr (5, [.ref rs, .ref rm, .int (nI ct), .int (nI tu)])), (rs, .inl (cI, 200, .inl (ni st)))] H := hP.sub [0, 1, 2, 3, 4, 5, 6, 7, 8, 9] rfl
    have hD : va_D A [(kp, .inr (1, [.ref k1, .ref k2, .ref kc, .ref kl, .ref ku, .int (nI mo), .int (nI kn)])), (k1, .inr (3, [.ref e1])), (e1, .inl (cJ, 1601, .inr (.inl ((pkB (stK stp kn st j)))))), (k2, .inr (3, [.ref e2])), (e2, .inl (cJ, 2113, .inr (.inl ((pkB mvs))))), (kc, .inl (cI, 64, .inl (ni (un cnt kn ct)))), (kl, .inl (cI, 64, .inl (ni (un lbl kn lb)))), (ku, .inl (cI, 64, .inl ((upd sms kn y)))), (r, .inr (5, [.ref rs, .ref rm, .int (nI ct), .int (nI tu)])), (rs, .inl (cI, 200, .inl (ni st)))] := hD.sub [0, 1, 2, 3, 4, 5, 6, 7, 8, 9] (by decide) rfl
    refine vx_callv (wc := [(k1, .inr (3, [.ref e1])), (e1, .inl (cJ, 1601, .inr (.inl ((pkB (stK stp kn st j))))))]) (wr := [(kp, .inr (1, [.ref k1, .ref k2, .ref kc, .ref kl, .ref ku, .int (nI mo), .int (nI kn)])), (k2, .inr (3, [.ref e2])), (e2, .inl (cJ, 2113, .inr (.inl ((pkB mvs))))), (kc, .inl (cI, 64, .inl (ni (un cnt kn ct)))), (kl, .inl (cI, 64, .inl (ni (un lbl kn lb)))), (ku, .inl (cI, 64, .inl ((upd sms kn y)))), (r, .inr (5, [.ref rs, .ref rm, .int (nI ct), .int (nI tu)])), (rs, .inl (cI, 200, .inl (ni st)))]) [1, 2] [0, 3, 4, 5, 6, 7, 8, 9] hK hP hD hS hA rfl rfl (by decide) (by decide) (va_runV (As := [.int (nI ((kn * 200) + j)), .int (nI (st j))]) (rest := []) ⟨hx, hb, hml, hown, ht⟩ (kPacked_set l D cI cZ cJ k1 e1 1601 (stK stp kn st j) (kn * 200 + j) (st j) (by omega) (by omega) (hst j (by omega)) _) (⟨callB_of 2 ht (TB_in2 gN_Packed_set) rfl rfl rfl (ht _ mw_12) (ht _ mw_879) (by decide +kernel) ⟨Nat.le_of_ble_eq_true rfl, Nat.le_of_ble_eq_true rfl⟩, ht _ mw_880, ht _ mw_881⟩) (vx_preV [1, 2] hK hP hD (by decide) rfl (ci := 3) rfl 1 rfl) rfl rfl hl.1 rfl (lv_room (Nat.le_of_ble_eq_true rfl)) dN_Kept_add_66 ⟨Nat.le_of_ble_eq_true rfl, Nat.le_of_ble_eq_true rfl⟩) (fun w1 H locs hq hP hD hS => ?_)
    subst hq
    have hP : va_P D clN [(kp, .inr (1, [.ref k1, .ref k2, .ref kc, .ref kl, .ref ku, .int (nI mo), .int (nI kn)])), (k1, .inr (3, [.ref e1])), (e1, .inl (cJ, 1601, .inr (.inl ((pkB (un (stK stp kn st j) (kn * 200 + j) (st j))))))), (k2, .inr (3, [.ref e2])), (e2, .inl (cJ, 2113, .inr (.inl ((pkB mvs))))), (kc, .inl (cI, 64, .inl (ni (un cnt kn ct)))), (kl, .inl (cI, 64, .inl (ni (un lbl kn lb)))), (ku, .inl (cI, 64, .inl ((upd sms kn y)))), (r, .inr (5, [.ref rs, .ref rm, .int (nI ct), .int (nI tu)])), (rs, .inl (cI, 200, .inl (ni st)))] H := hP.sub [0, 8, 9, 1, 2, 3, 4, 5, 6, 7] rfl
    have hD : va_D A [(kp, .inr (1, [.ref k1, .ref k2, .ref kc, .ref kl, .ref ku, .int (nI mo), .int (nI kn)])), (k1, .inr (3, [.ref e1])), (e1, .inl (cJ, 1601, .inr (.inl ((pkB (un (stK stp kn st j) (kn * 200 + j) (st j))))))), (k2, .inr (3, [.ref e2])), (e2, .inl (cJ, 2113, .inr (.inl ((pkB mvs))))), (kc, .inl (cI, 64, .inl (ni (un cnt kn ct)))), (kl, .inl (cI, 64, .inl (ni (un lbl kn lb)))), (ku, .inl (cI, 64, .inl ((upd sms kn y)))), (r, .inr (5, [.ref rs, .ref rm, .int (nI ct), .int (nI tu)])), (rs, .inl (cI, 200, .inl (ni st)))] := hD.sub [0, 8, 9, 1, 2, 3, 4, 5, 6, 7] (by decide) rfl
    have hP : va_P D clN [(kp, .inr (1, [.ref k1, .ref k2, .ref kc, .ref kl, .ref ku, .int (nI mo), .int (nI kn)])), (k1, .inr (3, [.ref e1])), (e1, .inl (cJ, 1601, .inr (.inl ((pkB (stK stp kn st (j + 1))))))), (k2, .inr (3, [.ref e2])), (e2, .inl (cJ, 2113, .inr (.inl ((pkB mvs))))), (kc, .inl (cI, 64, .inl (ni (un cnt kn ct)))), (kl, .inl (cI, 64, .inl (ni (un lbl kn lb)))), (ku, .inl (cI, 64, .inl ((upd sms kn y)))), (r, .inr (5, [.ref rs, .ref rm, .int (nI ct), .int (nI tu)])), (rs, .inl (cI, 200, .inl (ni st)))] _ := xP_fnL (q := 2) (g := pkB (stK stp kn st (j + 1))) hP rfl ((by rw [stK_s]))
    have hD : va_D A [(kp, .inr (1, [.ref k1, .ref k2, .ref kc, .ref kl, .ref ku, .int (nI mo), .int (nI kn)])), (k1, .inr (3, [.ref e1])), (e1, .inl (cJ, 1601, .inr (.inl ((pkB (stK stp kn st (j + 1))))))), (k2, .inr (3, [.ref e2])), (e2, .inl (cJ, 2113, .inr (.inl ((pkB mvs))))), (kc, .inl (cI, 64, .inl (ni (un cnt kn ct)))), (kl, .inl (cI, 64, .inl (ni (un lbl kn lb)))), (ku, .inl (cI, 64, .inl ((upd sms kn y)))), (r, .inr (5, [.ref rs, .ref rm, .int (nI ct), .int (nI tu)])), (rs, .inl (cI, 200, .inl (ni st)))] := xD_fn (q := 2) hD rfl
    refine lv_iinc (v := (nI (j + 1))) (lv' := [(4, .int (nI (j + 1))), (0, .ref kp), (1, .ref r)]) hx hb dN_Kept_add_69 hl (k := 2) rfl (nI_1 _) (by decide) rfl (fun ls hl => ?_)
    refine lv_goto (tgt := 36) hx hb dN_Kept_add_72 (by decide) ?_
    exact ih_36_0 (j + 1) _ _ _ ⟨hP, hD, hS, lv_sub hl [1, 2, 0] rfl, by omega⟩ (show (ct - (j + 1)) < (ct - j) from by omega)
