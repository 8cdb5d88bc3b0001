set_option maxHeartbeats 4000000 in
set_option maxRecDepth 100000 in
/-- rowFor(k) -/
theorem kTable_rowFor (l : Launch) (D : va_G) (cI cZ cJ : ClassId) (tb pr su ta be nw ac en sr ro si r jo : Nat) (n R k : Nat) (md sg : Bool) (sor : Nat → Nat) (ros : Nat → Int32) (hR : RwS n R sor ros) (hk : k < n) (hn : n ≤ 200) : vx_Mi l yN_Table_rowFor wN_Table_rowFor ({ frames := 0, cells := 0, slots := 0, locals := 0 }) D clN (tyN cI cZ cJ) [.ref tb, .int (nI k)] [(tb, .inr (8, [.ref pr, .ref su, .ref ta, .ref be, .ref nw, .ref ac, .ref en, .ref sr, .ref ro, .ref si, .ref r, .ref jo, .int (nI R), .int (zi md), .int (zi sg)])), (sr, .inl (cI, 64, .inl (ni sor))), (ro, .inl (cI, 200, .inl ros))] (fun x w => ∃ (R2 : Nat) (sor2 : Nat → Nat) (ros2 : Nat → Int32), RfR n R sor ros k x R2 sor2 ros2 ∧ w = [(tb, .inr (8, [.ref pr, .ref su, .ref ta, .ref be, .ref nw, .ref ac, .ref en, .ref sr, .ref ro, .ref si, .ref r, .ref jo, .int (nI R2), .int (zi md), .int (zi sg)])), (sr, .inl (cI, 64, .inl (ni sor2))), (ro, .inl (cI, 200, .inl ros2))]) := by
  refine vx_startI (cc := cN_Table_rowFor) (maxL := 2) (ret := (some .int)) (by decide) rfl (Nat.le_of_ble_eq_true rfl) ?_
  intro p_0 e_0 s m below meth c_0 A ls C hK hP hD hS hA hl
  obtain ⟨hx, hb, hr, hml, hown, hts, hlocks, hnm⟩ := id C
  have hown : s.vm.findClass "StepMachines$Table" = some m.cls := hown
  have ht : ∀ w ∈ TB, w.before _ s = true := fun w h => hts w (List.mem_cons_of_mem _ h)
  have hl : lv_has ls 2 [(0, .ref tb), (1, .int (nI k))] := hl
  refine lv_aload_n hx hb dN_Table_rowFor_0 rfl (lv_at hl 0 rfl) ?_
  refine va_get (D := D) (ci := 8) (v := .ref ro) (C := RN_Table) (T := FN_Table) (N := 15) hx hb ht fN_Table hown hK hP 0 rfl rfl 8 (by decide) (ht _ mw_238) (fun _ h9 => h9) rfl dN_Table_rowFor_1 ?_
  refine lv_iload_n hx hb dN_Table_rowFor_4 rfl (lv_at hl 1 rfl) ?_
  refine xi_ald hx hb hK hP 2 0 rfl rfl dN_Table_rowFor_5 (by omega) (by omega) ?_
  refine lv_iconst (v := (-1)) hx hb dN_Table_rowFor_6 (by decide) ?_
  refine lv_icmp_ne (tgt := 49) hx hb dN_Table_rowFor_7 (by decide) (fun c_7_0 => ?_) (fun c_7_0 => ?_)
  · skip
    refine lv_aload_n hx hb dN_Table_rowFor_49 rfl (lv_at hl 0 rfl) ?_
    refine va_get (D := D) (ci := 8) (v := .ref ro) (C := RN_Table) (T := FN_Table) (N := 15) hx hb ht fN_Table hown hK hP 0 rfl rfl 8 (by decide) (ht _ mw_238) (fun _ h9 => h9) rfl dN_Table_rowFor_50 ?_
    refine lv_iload_n hx hb dN_Table_rowFor_53 rfl (lv_at hl 1 rfl) ?_
    refine xi_ald hx hb hK hP 2 0 rfl rfl dN_Table_rowFor_54 (by omega) (by omega) ?_
    exact vx_iret C hK hP hD hS dN_Table_rowFor_55 (Nat.le_of_ble_eq_true rfl) (Nat.le_of_ble_eq_true rfl) (⟨_, _, _, Rf_old hR hk c_7_0, rfl⟩)
  · skip
    refine lv_aload_n hx hb dN_Table_rowFor_10 rfl (lv_at hl 0 rfl) ?_
    refine va_get (D := D) (ci := 8) (v := .int (nI R)) (C := RN_Table) (T := FN_Table) (N := 15) hx hb ht fN_Table hown hK hP 0 rfl rfl 12 (by decide) (ht _ mw_242) (fun _ h9 => h9) rfl dN_Table_rowFor_11 ?_
    refine lv_bipush (v := (nI 64)) hx hb dN_Table_rowFor_14 (by decide) ?_
    refine xn_ge (tgt := 49) hx hb dN_Table_rowFor_16 (by decide) (by have := hR.1; omega) (by omega) (fun c_16_1 => ?_) (fun c_16_1 => ?_)
    · skip
      refine lv_aload_n hx hb dN_Table_rowFor_49 rfl (lv_at hl 0 rfl) ?_
      refine va_get (D := D) (ci := 8) (v := .ref ro) (C := RN_Table) (T := FN_Table) (N := 15) hx hb ht fN_Table hown hK hP 0 rfl rfl 8 (by decide) (ht _ mw_238) (fun _ h9 => h9) rfl dN_Table_rowFor_50 ?_
      refine lv_iload_n hx hb dN_Table_rowFor_53 rfl (lv_at hl 1 rfl) ?_
      refine xi_ald hx hb hK hP 2 0 rfl rfl dN_Table_rowFor_54 (by omega) (by omega) ?_
      exact vx_iret C hK hP hD hS dN_Table_rowFor_55 (Nat.le_of_ble_eq_true rfl) (Nat.le_of_ble_eq_true rfl) (⟨_, _, _, by rw [c_7_0]; exact Rf_full hR hk c_16_1 c_7_0, rfl⟩)
    · skip
      refine lv_aload_n hx hb dN_Table_rowFor_19 rfl (lv_at hl 0 rfl) ?_
      refine va_get (D := D) (ci := 8) (v := .ref ro) (C := RN_Table) (T := FN_Table) (N := 15) hx hb ht fN_Table hown hK hP 0 rfl rfl 8 (by decide) (ht _ mw_238) (fun _ h9 => h9) rfl dN_Table_rowFor_20 ?_
      refine lv_iload_n hx hb dN_Table_rowFor_23 rfl (lv_at hl 1 rfl) ?_
      refine lv_aload_n hx hb dN_Table_rowFor_24 rfl (lv_at hl 0 rfl) ?_
      refine va_get (D := D) (ci := 8) (v := .int (nI R)) (C := RN_Table) (T := FN_Table) (N := 15) hx hb ht fN_Table hown hK hP 0 rfl rfl 12 (by decide) (ht _ mw_242) (fun _ h9 => h9) rfl dN_Table_rowFor_25 ?_
      refine xi_ast hx hb hK hP hD hS 2 0 rfl rfl dN_Table_rowFor_28 (by omega) (by omega) (fun H locs hP hD hS => ?_)
      have hP : va_P D clN [(tb, .inr (8, [.ref pr, .ref su, .ref ta, .ref be, .ref nw, .ref ac, .ref en, .ref sr, .ref ro, .ref si, .ref r, .ref jo, .int (nI R), .int (zi md), .int (zi sg)])), (sr, .inl (cI, 64, .inl (ni sor))), (ro, .inl (cI, 200, .inl ((upd ros k (nI R)))))] H := hP
      have hD : va_D A [(tb, .inr (8, [.ref pr, .ref su, .ref ta, .ref be, .ref nw, .ref ac, .ref en, .ref sr, .ref ro, .ref si, .ref r, .ref jo, .int (nI R), .int (zi md), .int (zi sg)])), (sr, .inl (cI, 64, .inl (ni sor))), (ro, .inl (cI, 200, .inl ((upd ros k (nI R)))))] := hD
      refine lv_aload_n hx hb dN_Table_rowFor_29 rfl (lv_at hl 0 rfl) ?_
      refine va_get (D := D) (ci := 8) (v := .ref sr) (C := RN_Table) (T := FN_Table) (N := 15) hx hb ht fN_Table hown hK hP 0 rfl rfl 7 (by decide) (ht _ mw_237) (fun _ h9 => h9) rfl dN_Table_rowFor_30 ?_
      refine lv_aload_n hx hb dN_Table_rowFor_33 rfl (lv_at hl 0 rfl) ?_
      refine va_get (D := D) (ci := 8) (v := .int (nI R)) (C := RN_Table) (T := FN_Table) (N := 15) hx hb ht fN_Table hown hK hP 0 rfl rfl 12 (by decide) (ht _ mw_242) (fun _ h9 => h9) rfl dN_Table_rowFor_34 ?_
      refine lv_iload_n hx hb dN_Table_rowFor_37 rfl (lv_at hl 1 rfl) ?_
      refine xn_ast hx hb hK hP hD hS 1 0 rfl rfl dN_Table_rowFor_38 (by have := hR.1; omega) (by omega) (fun H locs hP hD hS => ?_)
      have hP : va_P D clN [(tb, .inr (8, [.ref pr, .ref su, .ref ta, .ref be, .ref nw, .ref ac, .ref en, .ref sr, .ref ro, .ref si, .ref r, .ref jo, .int (nI R), .int (zi md), .int (zi sg)])), (sr, .inl (cI, 64, .inl (ni (un sor R k)))), (ro, .inl (cI, 200, .inl ((upd ros k (nI R)))))] H := hP
      have hD : va_D A [(tb, .inr (8, [.ref pr, .ref su, .ref ta, .ref be, .ref nw, .ref ac, .ref en, .ref sr, .ref ro, .ref si, .ref r, .ref jo, .int (nI R), .int (zi md), .int (zi sg)])), (sr, .inl (cI, 64, .inl (ni (un sor R k)))), (ro, .inl (cI, 200, .inl ((upd ros k (nI R)))))] := hD
      refine lv_aload_n hx hb dN_Table_rowFor_39 rfl (lv_at hl 0 rfl) ?_
      refine lv_dup hx hb dN_Table_rowFor_40 rfl ?_
      refine va_get (D := D) (ci := 8) (v := .int (nI R)) (C := RN_Table) (T := FN_Table) (N := 15) hx hb ht fN_Table hown hK hP 0 rfl rfl 12 (by decide) (ht _ mw_242) (fun _ h9 => h9) rfl dN_Table_rowFor_41 ?_
      refine lv_iconst (v := (nI 1)) hx hb dN_Table_rowFor_44 (by decide) ?_
      refine xn_add hx hb dN_Table_rowFor_45 ?_
      refine va_put (D := D) (ci := 8) (v := .int (nI (R + 1))) (ty := .int) (C := RN_Table) (T := FN_Table) (N := 15) hx hb ht fN_Table tN_Table oN_Table nN_Table hown hK hP hD hS 0 rfl rfl 12 (by decide) (ht _ mw_242) (fun _ h9 => h9) rfl (by decide +kernel) (rfl) (rfl) (Nat.le_of_ble_eq_true rfl) dN_Table_rowFor_46 (fun H locs hP hD hS => ?_)
      have hP : va_P D clN [(tb, .inr (8, [.ref pr, .ref su, .ref ta, .ref be, .ref nw, .ref ac, .ref en, .ref sr, .ref ro, .ref si, .ref r, .ref jo, .int (nI (R + 1)), .int (zi md), .int (zi sg)])), (sr, .inl (cI, 64, .inl (ni (un sor R k)))), (ro, .inl (cI, 200, .inl ((upd ros k (nI R)))))] H := hP
      have hD : va_D A [(tb, .inr (8, [.ref pr, .ref su, .ref ta, .ref be, .ref nw, .ref ac, .ref en, .ref sr, .ref ro, .ref si, .ref r, .ref jo, .int (nI (R + 1)), .int (zi md), .int (zi sg)])), (sr, .inl (cI, 64, .inl (ni (un sor R k)))), (ro, .inl (cI, 200, .inl ((upd ros k (nI R)))))] := hD
      refine lv_aload_n hx hb dN_Table_rowFor_49 rfl (lv_at hl 0 rfl) ?_
      refine va_get (D := D) (ci := 8) (v := .ref ro) (C := RN_Table) (T := FN_Table) (N := 15) hx hb ht fN_Table hown hK hP 0 rfl rfl 8 (by decide) (ht _ mw_238) (fun _ h9 => h9) rfl dN_Table_rowFor_50 ?_
      refine lv_iload_n hx hb dN_Table_rowFor_53 rfl (lv_at hl 1 rfl) ?_
      refine xi_ald hx hb hK hP 2 0 rfl rfl dN_Table_rowFor_54 (by omega) (by omega) ?_
      exact vx_iret C hK hP hD hS dN_Table_rowFor_55 (Nat.le_of_ble_eq_true rfl) (Nat.le_of_ble_eq_true rfl) (⟨_, _, _, by rw [pk_us]; exact Rf_new hR hk c_16_1 c_7_0, rfl⟩)
set_option maxHeartbeats 4000000 in
set_option maxRecDepth 100000 in
/-- later(k, cd) -/
theorem kTable_later (l : Launch) (D : va_G) (cI cZ cJ : ClassId) (tb pr su ta be nw ac en sr ro si r jo : Nat) (jf R c k cd : Nat) (md sg : Bool) (js sc : Nat → Nat) (hk : k < 200) (hc : c / 4 < 101) : vx_Mv l yN_Table_later wN_Table_later ({ frames := 1, cells := 0, slots := 0, locals := 40 }) D clN (tyN cI cZ cJ) [.ref tb, .int (nI k), .int (nI cd)] [(tb, .inr (8, [.ref pr, .ref su, .ref ta, .ref be, .ref nw, .ref ac, .ref en, .ref sr, .ref ro, .ref si, .ref r, .ref jo, .int (nI R), .int (zi md), .int (zi sg)])), (si, .inl (cI, 200, .inl (ni sc))), (jo, .inr (0, [.ref jf, .int (nI c)])), (jf, .inl (cJ, 101, .inr (.inl ((pkJ js)))))] (fun w => w = [(tb, .inr (8, [.ref pr, .ref su, .ref ta, .ref be, .ref nw, .ref ac, .ref en, .ref sr, .ref ro, .ref si, .ref r, .ref jo, .int (nI R), .int (zi md), .int (zi sg)])), (si, .inl (cI, 200, .inl (ni (un sc k cd)))), (jo, .inr (0, [.ref jf, .int (nI (c + 1))])), (jf, .inl (cJ, 101, .inr (.inl ((pkJ (un js c k))))))]) := by
  refine vx_startV (cc := cN_Table_later) (maxL := 3) (ret := none) (by decide) rfl (Nat.le_of_ble_eq_true rfl) ?_
  intro p_0 e_0 s m below meth c_0 A ls C hK hP hD hS hA hl
  obtain ⟨hx, hb, hr, hml, hown, hts, hlocks, hnm⟩ := id C
  have hown : s.vm.findClass "StepMachines$Table" = some m.cls := hown
  have ht : ∀ w ∈ TB, w.before _ s = true := fun w h => hts w (List.mem_cons_of_mem _ h)
  have hl : lv_has ls 3 [(0, .ref tb), (1, .int (nI k)), (2, .int (nI cd))] := hl
  refine lv_aload_n hx hb dN_Table_later_0 rfl (lv_at hl 0 rfl) ?_
  refine va_get (D := D) (ci := 8) (v := .ref si) (C := RN_Table) (T := FN_Table) (N := 15) hx hb ht fN_Table hown hK hP 0 rfl rfl 9 (by decide) (ht _ mw_239) (fun _ h9 => h9) rfl dN_Table_later_1 ?_
  refine lv_iload_n hx hb dN_Table_later_4 rfl (lv_at hl 1 rfl) ?_
  refine lv_iload_n hx hb dN_Table_later_5 rfl (lv_at hl 2 rfl) ?_
  refine xn_ast hx hb hK hP hD hS 1 0 rfl rfl dN_Table_later_6 (by omega) (by omega) (fun H locs hP hD hS => ?_)
  have hP : va_P D clN [(tb, .inr (8, [.ref pr, .ref su, .ref ta, .ref be, .ref nw, .ref ac, .ref en, .ref sr, .ref ro, .ref si, .ref r, .ref jo, .int (nI R), .int (zi md), .int (zi sg)])), (si, .inl (cI, 200, .inl (ni (un sc k cd)))), (jo, .inr (0, [.ref jf, .int (nI c)])), (jf, .inl (cJ, 101, .inr (.inl ((pkJ js)))))] H := hP
  have hD : va_D A [(tb, .inr (8, [.ref pr, .ref su, .ref ta, .ref be, .ref nw, .ref ac, .ref en, .ref sr, .ref ro, .ref si, .ref r, .ref jo, .int (nI R), .int (zi md), .int (zi sg)])), (si, .inl (cI, 200, .inl (ni (un sc k cd)))), (jo, .inr (0, [.ref jf, .int (nI c)])), (jf, .inl (cJ, 101, .inr (.inl ((pkJ js)))))] := hD
  refine lv_aload_n hx hb dN_Table_later_7 rfl (lv_at hl 0 rfl) ?_
  refine va_get (D := D) (ci := 8) (v := .ref jo) (C := RN_Table) (T := FN_Table) (N := 15) hx hb ht fN_Table hown hK hP 0 rfl rfl 11 (by decide) (ht _ mw_241) (fun _ h9 => h9) rfl dN_Table_later_8 ?_
  refine lv_iload_n hx hb dN_Table_later_11 rfl (lv_at hl 1 rfl) ?_
  refine vx_callv (wc := [(jo, .inr (0, [.ref jf, .int (nI c)])), (jf, .inl (cJ, 101, .inr (.inl ((pkJ js)))))]) (wr := [(tb, .inr (8, [.ref pr, .ref su, .ref ta, .ref be, .ref nw, .ref ac, .ref en, .ref sr, .ref ro, .ref si, .ref r, .ref jo, .int (nI R), .int (zi md), .int (zi sg)])), (si, .inl (cI, 200, .inl (ni (un sc k cd))))]) [2, 3] [0, 1] hK hP hD hS hA rfl rfl (by decide) (by decide) (va_runV (As := [.int (nI k)]) (rest := []) ⟨hx, hb, hml, hown, ht⟩ (kJobs_add l D cI cZ cJ jo jf 101 (c) (js) (k) (by omega) (by omega) (by omega) _) (⟨callB_of 1 ht (TB_in2 gN_Jobs_add) rfl rfl rfl (ht _ mw_6) (ht _ mw_426) (by decide +kernel) ⟨Nat.le_of_ble_eq_true rfl, Nat.le_of_ble_eq_true rfl⟩, ht _ mw_427, ht _ mw_428⟩) (vx_preV [2, 3] hK hP hD (by decide) rfl (ci := 0) rfl 2 rfl) rfl rfl hl.1 rfl (lv_room (Nat.le_of_ble_eq_true rfl)) dN_Table_later_12 ⟨Nat.le_of_ble_eq_true rfl, Nat.le_of_ble_eq_true rfl⟩) (fun w1 H locs hq hP hD hS => ?_)
  subst hq
  have hP : va_P D clN [(tb, .inr (8, [.ref pr, .ref su, .ref ta, .ref be, .ref nw, .ref ac, .ref en, .ref sr, .ref ro, .ref si, .ref r, .ref jo, .int (nI R), .int (zi md), .int (zi sg)])), (si, .inl (cI, 200, .inl (ni (un sc k cd)))), (jo, .inr (0, [.ref jf, .int (nI (c + 1))])), (jf, .inl (cJ, 101, .inr (.inl ((pkJ (un js c k))))))] H := hP.sub [0, 1, 2, 3] rfl
  have hD : va_D A [(tb, .inr (8, [.ref pr, .ref su, .ref ta, .ref be, .ref nw, .ref ac, .ref en, .ref sr, .ref ro, .ref si, .ref r, .ref jo, .int (nI R), .int (zi md), .int (zi sg)])), (si, .inl (cI, 200, .inl (ni (un sc k cd)))), (jo, .inr (0, [.ref jf, .int (nI (c + 1))])), (jf, .inl (cJ, 101, .inr (.inl ((pkJ (un js c k))))))] := hD.sub [0, 1, 2, 3] (by decide) rfl
  exact vx_vret C hK hP hD hS dN_Table_later_15 (Nat.le_of_ble_eq_true rfl) (Nat.le_of_ble_eq_true rfl) (rfl)
set_option maxHeartbeats 4000000 in
set_option maxRecDepth 100000 in
/-- takeBytes(q, k, cd) -/
theorem kTable_takeBytes (l : Launch) (D : va_G) (cI cZ cJ : ClassId) (tb pr su ta be nw ac en sr ro si r jo : Nat) (pK pV pF pS n b R q b0 r0 tu c k cd : Nat) (md sg : Bool) (kC vC fC sC K V F S js sc me sor : Nat → Nat) (aC eC ros : Nat → Int32) (hPg : Pg n kC vC fC sC K V F S) (hT : TW K V F S n b0 r0 q tu c js sc me aC (eC q) R sor ros) (hc : 0 < c) (hm : me (js (c - 1)) ≠ tu) (hq6 : q < 64) (ek : k = js (c - 1)) (ecd : cd = sc (js (c - 1))) (hkn : k < n) (hcd : cd < 2 ^ 24) (hk1 : kC k = 1) : vx_Mi l yN_Table_takeBytes wN_Table_takeBytes ({ frames := 1, cells := 0, slots := 0, locals := 60 }) D clN (tyN cI cZ cJ) [.ref tb, .int (nI q), .int (nI k), .int (nI cd)] [(tb, .inr (8, [.ref pr, .ref su, .ref ta, .ref be, .ref nw, .ref ac, .ref en, .ref sr, .ref ro, .ref si, .ref r, .ref jo, .int (nI R), .int (zi md), .int (zi sg)])), (pr, .inr (4, [.ref pK, .ref pV, .ref pF, .ref pS, .int (nI n), .int (nI b)])), (pK, .inl (cI, 200, .inl (ni kC))), (pV, .inl (cI, 200, .inl (ni vC))), (pF, .inl (cI, 200, .inl (ni fC))), (pS, .inl (cI, 200, .inl (ni sC))), (en, .inl (cI, 64, .inl eC)), (ac, .inl (cI, 16384, .inl aC)), (sr, .inl (cI, 64, .inl (ni sor))), (ro, .inl (cI, 200, .inl ros))] (fun x w => ∃ (g9 : Bool) (aC2 : Nat → Int32) (R2 : Nat) (sor2 : Nat → Nat) (ros2 : Nat → Int32), x = zi g9 ∧ w = [(tb, .inr (8, [.ref pr, .ref su, .ref ta, .ref be, .ref nw, .ref ac, .ref en, .ref sr, .ref ro, .ref si, .ref r, .ref jo, .int (nI R2), .int (zi md), .int (zi sg)])), (pr, .inr (4, [.ref pK, .ref pV, .ref pF, .ref pS, .int (nI n), .int (nI b)])), (pK, .inl (cI, 200, .inl (ni kC))), (pV, .inl (cI, 200, .inl (ni vC))), (pF, .inl (cI, 200, .inl (ni fC))), (pS, .inl (cI, 200, .inl (ni sC))), (en, .inl (cI, 64, .inl eC)), (ac, .inl (cI, 16384, .inl aC2)), (sr, .inl (cI, 64, .inl (ni sor2))), (ro, .inl (cI, 200, .inl ros2))] ∧ WK K V F S n b0 r0 q tu c js me aC eC R sor g9 (c - 1) js sc aC2 eC R2 sor2 ros2) := by
  refine vx_startI (cc := cN_Table_takeBytes) (maxL := 9) (ret := (some .boolean)) (by decide) rfl (Nat.le_of_ble_eq_true rfl) ?_
  intro p_0 e_0 s m below meth c_0 A ls C hK hP hD hS hA hl
  obtain ⟨hx, hb, hr, hml, hown, hts, hlocks, hnm⟩ := id C
  have hown : s.vm.findClass "StepMachines$Table" = some m.cls := hown
  have ht : ∀ w ∈ TB, w.before _ s = true := fun w h => hts w (List.mem_cons_of_mem _ h)
  have hl : lv_has ls 9 [(0, .ref tb), (1, .int (nI q)), (2, .int (nI k)), (3, .int (nI cd))] := hl
  refine lv_aload_n hx hb dN_Table_takeBytes_0 rfl (lv_at hl 0 rfl) ?_
  refine lv_aload_n hx hb dN_Table_takeBytes_1 rfl (lv_at hl 0 rfl) ?_
  refine va_get (D := D) (ci := 8) (v := .ref pr) (C := RN_Table) (T := FN_Table) (N := 15) hx hb ht fN_Table hown hK hP 0 rfl rfl 0 (by decide) (ht _ mw_230) (fun _ h9 => h9) rfl dN_Table_takeBytes_2 ?_
  refine va_get (D := D) (ci := 4) (v := .ref pF) (C := RN_Program) (T := FN_Program) (N := 6) hx hb ht fN_Program hown hK hP 1 rfl rfl 2 (by decide) (ht _ mw_49) (fun _ h9 => h9) rfl dN_Table_takeBytes_5 ?_
  refine lv_iload_n hx hb dN_Table_takeBytes_8 rfl (lv_at hl 2 rfl) ?_
  refine xn_ald hx hb hK hP 4 0 rfl rfl dN_Table_takeBytes_9 (by have := hPg.2.1; omega) (by omega) ?_
  refine vx_calli (wc := [(tb, .inr (8, [.ref pr, .ref su, .ref ta, .ref be, .ref nw, .ref ac, .ref en, .ref sr, .ref ro, .ref si, .ref r, .ref jo, .int (nI R), .int (zi md), .int (zi sg)])), (sr, .inl (cI, 64, .inl (ni sor))), (ro, .inl (cI, 200, .inl ros))]) (wr := [(pr, .inr (4, [.ref pK, .ref pV, .ref pF, .ref pS, .int (nI n), .int (nI b)])), (pK, .inl (cI, 200, .inl (ni kC))), (pV, .inl (cI, 200, .inl (ni vC))), (pF, .inl (cI, 200, .inl (ni fC))), (pS, .inl (cI, 200, .inl (ni sC))), (en, .inl (cI, 64, .inl eC)), (ac, .inl (cI, 16384, .inl aC))]) [0, 8, 9] [1, 2, 3, 4, 5, 6, 7] hK hP hD hS hA rfl rfl (by decide) (by decide) (va_runV (As := [.int (nI (fC k))]) (rest := []) ⟨hx, hb, hml, hown, ht⟩ (kTable_rowFor l D cI cZ cJ tb pr su ta be nw ac en sr ro si r jo n R (fC k) md sg sor ros hT.1.1 (Pg_at hPg hkn (by omega) (by omega)).1 hPg.2.1 _) (⟨callB_of 1 ht (TB_in2 gN_Table_rowFor) rfl rfl rfl (ht _ mw_9) (ht _ mw_406) (by decide +kernel) ⟨Nat.le_of_ble_eq_true rfl, Nat.le_of_ble_eq_true rfl⟩, ht _ mw_408, ht _ ms_1⟩) (vx_preV [0, 8, 9] hK hP hD (by decide) rfl (ci := 8) rfl 0 rfl) rfl rfl hl.1 rfl (lv_room (Nat.le_of_ble_eq_true rfl)) dN_Table_takeBytes_10 ⟨Nat.le_of_ble_eq_true rfl, Nat.le_of_ble_eq_true rfl⟩) (fun r1 w1 H locs hq hP hD hS => ?_)
  obtain ⟨R2, sor2, ros2, hRf, rfl⟩ := hq
  have hP : va_P D clN [(tb, .inr (8, [.ref pr, .ref su, .ref ta, .ref be, .ref nw, .ref ac, .ref en, .ref sr, .ref ro, .ref si, .ref r, .ref jo, .int (nI R2), .int (zi md), .int (zi sg)])), (pr, .inr (4, [.ref pK, .ref pV, .ref pF, .ref pS, .int (nI n), .int (nI b)])), (pK, .inl (cI, 200, .inl (ni kC))), (pV, .inl (cI, 200, .inl (ni vC))), (pF, .inl (cI, 200, .inl (ni fC))), (pS, .inl (cI, 200, .inl (ni sC))), (en, .inl (cI, 64, .inl eC)), (ac, .inl (cI, 16384, .inl aC)), (sr, .inl (cI, 64, .inl (ni sor2))), (ro, .inl (cI, 200, .inl ros2))] H := hP.sub [7, 0, 1, 2, 3, 4, 5, 6, 8, 9] rfl
  have hD : va_D A [(tb, .inr (8, [.ref pr, .ref su, .ref ta, .ref be, .ref nw, .ref ac, .ref en, .ref sr, .ref ro, .ref si, .ref r, .ref jo, .int (nI R2), .int (zi md), .int (zi sg)])), (pr, .inr (4, [.ref pK, .ref pV, .ref pF, .ref pS, .int (nI n), .int (nI b)])), (pK, .inl (cI, 200, .inl (ni kC))), (pV, .inl (cI, 200, .inl (ni vC))), (pF, .inl (cI, 200, .inl (ni fC))), (pS, .inl (cI, 200, .inl (ni sC))), (en, .inl (cI, 64, .inl eC)), (ac, .inl (cI, 16384, .inl aC)), (sr, .inl (cI, 64, .inl (ni sor2))), (ro, .inl (cI, 200, .inl ros2))] := hD.sub [7, 0, 1, 2, 3, 4, 5, 6, 8, 9] (by decide) rfl
  refine lv_istore (lv' := [(4, .int r1), (0, .ref tb), (1, .int (nI q)), (2, .int (nI k)), (3, .int (nI cd))]) hx hb dN_Table_takeBytes_13 hl (by decide) rfl (fun ls hl => ?_)
  refine lv_iload hx hb dN_Table_takeBytes_15 (lv_at hl 0 rfl) ?_
  refine lv_iconst (v := (-1)) hx hb dN_Table_takeBytes_17 (by decide) ?_
  refine lv_icmp_ne (tgt := 23) hx hb dN_Table_takeBytes_18 (by decide) (fun c_18_0 => ?_) (fun c_18_0 => ?_)
  · skip
    obtain ⟨i9, hi9, hx9⟩ := RfR_some hRf c_18_0
    subst hx9
    refine vx_join (α := Nat) (fun o9 => o9 = (if eC q = -1 then 0 else 64)) (fun o9 => F0 m 39 ls [.int (nI o9)]) (fun o9 ho9 => ?_) (fun Jo9 => ?_)
    · skip
      have ho8 : o9 = 0 ∨ o9 = 64 := by rw [ho9]; split <;> omega
      refine lv_istore (lv' := [(5, .int (nI o9)), (4, .int (nI i9)), (0, .ref tb), (1, .int (nI q)), (2, .int (nI k)), (3, .int (nI cd))]) hx hb dN_Table_takeBytes_39 hl (by decide) rfl (fun ls hl => ?_)
      refine lv_iload_n hx hb dN_Table_takeBytes_41 rfl (lv_at hl 5 rfl) ?_
      refine lv_bipush (v := (nI 7)) hx hb dN_Table_takeBytes_42 (by decide) ?_
      refine lv_ishl hx hb dN_Table_takeBytes_44 ?_
      refine xn_top (y := (nI (cd * 128))) (shlI (r := 7) (by omega) (by omega)) ?_
      refine lv_iload hx hb dN_Table_takeBytes_45 (lv_at hl 0 rfl) ?_
      refine lv_ior hx hb dN_Table_takeBytes_47 ?_
      refine lv_iload hx hb dN_Table_takeBytes_48 (lv_at hl 1 rfl) ?_
      refine lv_ior hx hb dN_Table_takeBytes_50 ?_
      refine xn_top (y := (nI (acN cd o9 i9))) (acI hcd ho8 hi9) ?_
      refine lv_istore (lv' := [(6, .int (nI (acN cd o9 i9))), (5, .int (nI o9)), (4, .int (nI i9)), (0, .ref tb), (1, .int (nI q)), (2, .int (nI k)), (3, .int (nI cd))]) hx hb dN_Table_takeBytes_51 hl (by decide) rfl (fun ls hl => ?_)
      refine lv_iconst (v := (nI 0)) hx hb dN_Table_takeBytes_53 (by decide) ?_
      have hP : va_P D clN [(tb, .inr (8, [.ref pr, .ref su, .ref ta, .ref be, .ref nw, .ref ac, .ref en, .ref sr, .ref ro, .ref si, .ref r, .ref jo, .int (nI R2), .int (zi md), .int (zi sg)])), (pr, .inr (4, [.ref pK, .ref pV, .ref pF, .ref pS, .int (nI n), .int (nI b)])), (pK, .inl (cI, 200, .inl (ni kC))), (pV, .inl (cI, 200, .inl (ni vC))), (pF, .inl (cI, 200, .inl (ni fC))), (pS, .inl (cI, 200, .inl (ni sC))), (en, .inl (cI, 64, .inl eC)), (ac, .inl (cI, 16384, .inl ((tbA aC q (V k / 256) (V k % 256) (nI (acN cd o9 i9)) 0)))), (sr, .inl (cI, 64, .inl (ni sor2))), (ro, .inl (cI, 200, .inl ros2))] _ := xP_fn (q := 7) (g := (tbA aC q (V k / 256) (V k % 256) (nI (acN cd o9 i9)) 0)) hP rfl (fun j _ => congrFun ((tbA_0 _ _ _ _ _).symm) j)
      have hD : va_D A [(tb, .inr (8, [.ref pr, .ref su, .ref ta, .ref be, .ref nw, .ref ac, .ref en, .ref sr, .ref ro, .ref si, .ref r, .ref jo, .int (nI R2), .int (zi md), .int (zi sg)])), (pr, .inr (4, [.ref pK, .ref pV, .ref pF, .ref pS, .int (nI n), .int (nI b)])), (pK, .inl (cI, 200, .inl (ni kC))), (pV, .inl (cI, 200, .inl (ni vC))), (pF, .inl (cI, 200, .inl (ni fC))), (pS, .inl (cI, 200, .inl (ni sC))), (en, .inl (cI, 64, .inl eC)), (ac, .inl (cI, 16384, .inl ((tbA aC q (V k / 256) (V k % 256) (nI (acN cd o9 i9)) 0)))), (sr, .inl (cI, 64, .inl (ni sor2))), (ro, .inl (cI, 200, .inl ros2))] := xD_fn (q := 7) hD rfl
      refine lv_istore (lv' := [(7, .int (nI 0)), (6, .int (nI (acN cd o9 i9))), (5, .int (nI o9)), (4, .int (nI i9)), (0, .ref tb), (1, .int (nI q)), (2, .int (nI k)), (3, .int (nI cd))]) hx hb dN_Table_takeBytes_54 hl (by decide) rfl (fun ls hl => ?_)
      refine vx_loop (α := Nat) (fun (vv : Nat) (H : Heap) (locs : List Loc) (ls : Array Slot) => match vv with | (b9) => va_P D clN [(tb, .inr (8, [.ref pr, .ref su, .ref ta, .ref be, .ref nw, .ref ac, .ref en, .ref sr, .ref ro, .ref si, .ref r, .ref jo, .int (nI R2), .int (zi md), .int (zi sg)])), (pr, .inr (4, [.ref pK, .ref pV, .ref pF, .ref pS, .int (nI n), .int (nI b)])), (pK, .inl (cI, 200, .inl (ni kC))), (pV, .inl (cI, 200, .inl (ni vC))), (pF, .inl (cI, 200, .inl (ni fC))), (pS, .inl (cI, 200, .inl (ni sC))), (en, .inl (cI, 64, .inl eC)), (ac, .inl (cI, 16384, .inl ((tbA aC q (V k / 256) (V k % 256) (nI (acN cd o9 i9)) b9)))), (sr, .inl (cI, 64, .inl (ni sor2))), (ro, .inl (cI, 200, .inl ros2))] H ∧ va_D A [(tb, .inr (8, [.ref pr, .ref su, .ref ta, .ref be, .ref nw, .ref ac, .ref en, .ref sr, .ref ro, .ref si, .ref r, .ref jo, .int (nI R2), .int (zi md), .int (zi sg)])), (pr, .inr (4, [.ref pK, .ref pV, .ref pF, .ref pS, .int (nI n), .int (nI b)])), (pK, .inl (cI, 200, .inl (ni kC))), (pV, .inl (cI, 200, .inl (ni vC))), (pF, .inl (cI, 200, .inl (ni fC))), (pS, .inl (cI, 200, .inl (ni sC))), (en, .inl (cI, 64, .inl eC)), (ac, .inl (cI, 16384, .inl ((tbA aC q (V k / 256) (V k % 256) (nI (acN cd o9 i9)) b9)))), (sr, .inl (cI, 64, .inl (ni sor2))), (ro, .inl (cI, 200, .inl ros2))] ∧ va_S A s.heap H locs ∧ lv_has ls 9 [(0, .ref tb), (1, .int (nI q)), (2, .int (nI k)), (6, .int (nI (acN cd o9 i9))), (7, .int (nI b9))] ∧ (b9 ≤ 256 ∧ ∀ b, b < b9 → V k / 256 ≤ b ∧ b ≤ V k % 256 → aC (q * 256 + b) = -1 ∨ aC (q * 256 + b) = nI (acN cd o9 i9))) (fun (vv : Nat) => match vv with | (b9) => 256 - b9) 56 [] ?_ (0) ⟨hP, hD, hS, lv_sub hl [4, 5, 6, 1, 0] rfl, ⟨by omega, fun b h => absurd h (by omega)⟩⟩
      intro vv H locs ls hq ih_56_1
      obtain ⟨b9, rfl⟩ : ∃ z, z = vv := ⟨_, rfl⟩
      obtain ⟨hP, hD, hS, hl, hI⟩ := hq
      obtain ⟨hb9, hcf⟩ := hI
      refine lv_iload hx hb dN_Table_takeBytes_56 (lv_at hl 4 rfl) ?_
      refine lv_sipush (v := (nI 256)) hx hb dN_Table_takeBytes_58 (by decide) ?_
      refine xn_ge (tgt := 127) hx hb dN_Table_takeBytes_61 (by decide) (by omega) (by omega) (fun c_61_2 => ?_) (fun c_61_2 => ?_)
      · skip
        refine lv_iconst (v := (nI 1)) hx hb dN_Table_takeBytes_127 (by decide) ?_
        refine xn_top (y := zi true) rfl ?_
        exact vx_zret C hK hP hD hS dN_Table_takeBytes_128 (Nat.le_of_ble_eq_true rfl) (Nat.le_of_ble_eq_true rfl) (zi_nar2 _) (⟨true, _, _, _, _, rfl, by rw [show b9 = 256 by omega], by subst ek; subst ecd; exact WK_take hPg hT hc hm hk1 hRf hi9 (by rw [ho9]) (fun b h1 h2 => hcf b (by omega) h2)⟩)
      · skip
        refine lv_iload_n hx hb dN_Table_takeBytes_64 rfl (lv_at hl 1 rfl) ?_
        refine lv_sipush (v := (nI 256)) hx hb dN_Table_takeBytes_65 (by decide) ?_
        refine xn_mul hx hb dN_Table_takeBytes_68 ?_
        refine lv_iload hx hb dN_Table_takeBytes_69 (lv_at hl 4 rfl) ?_
        refine xn_add hx hb dN_Table_takeBytes_71 ?_
        refine lv_istore (lv' := [(8, .int (nI ((q * 256) + b9))), (0, .ref tb), (1, .int (nI q)), (2, .int (nI k)), (6, .int (nI (acN cd o9 i9))), (7, .int (nI b9))]) hx hb dN_Table_takeBytes_72 hl (by decide) rfl (fun ls hl => ?_)
        have hvk := Pg_1 hPg hkn hk1
        have htk : tkI vC k (nI b9) = decide (V k / 256 ≤ b9 ∧ b9 ≤ V k % 256) := by rw [← hvk.2.1]; exact tkI_n hvk.1 (by omega)
        refine lv_aload_n hx hb dN_Table_takeBytes_74 rfl (lv_at hl 1 rfl) ?_
        refine va_get (D := D) (ci := 8) (v := .ref pr) (C := RN_Table) (T := FN_Table) (N := 15) hx hb ht fN_Table hown hK hP 0 rfl rfl 0 (by decide) (ht _ mw_230) (fun _ h9 => h9) rfl dN_Table_takeBytes_75 ?_
        refine lv_iload_n hx hb dN_Table_takeBytes_78 rfl (lv_at hl 3 rfl) ?_
        refine lv_iload hx hb dN_Table_takeBytes_79 (lv_at hl 5 rfl) ?_
        refine vx_calli (wc := [(pr, .inr (4, [.ref pK, .ref pV, .ref pF, .ref pS, .int (nI n), .int (nI b)])), (pV, .inl (cI, 200, .inl (ni vC)))]) (wr := [(tb, .inr (8, [.ref pr, .ref su, .ref ta, .ref be, .ref nw, .ref ac, .ref en, .ref sr, .ref ro, .ref si, .ref r, .ref jo, .int (nI R2), .int (zi md), .int (zi sg)])), (pK, .inl (cI, 200, .inl (ni kC))), (pF, .inl (cI, 200, .inl (ni fC))), (pS, .inl (cI, 200, .inl (ni sC))), (en, .inl (cI, 64, .inl eC)), (ac, .inl (cI, 16384, .inl ((tbA aC q (V k / 256) (V k % 256) (nI (acN cd o9 i9)) b9)))), (sr, .inl (cI, 64, .inl (ni sor2))), (ro, .inl (cI, 200, .inl ros2))]) [1, 3] [0, 2, 4, 5, 6, 7, 8, 9] hK hP hD hS hA rfl rfl (by decide) (by decide) (va_runV (As := [.int (nI k), .int (nI b9)]) (rest := []) ⟨hx, hb, hml, hown, ht⟩ (kProgram_takes l D cI cZ cJ pr pK pV pF pS n b vC k (nI b9) (by have := hPg.2.1; omega) (by omega) _) (⟨callB_of 2 ht (TB_in2 gN_Program_takes) rfl rfl rfl (ht _ mw_2) (ht _ mw_457) (by decide +kernel) ⟨Nat.le_of_ble_eq_true rfl, Nat.le_of_ble_eq_true rfl⟩, ht _ mw_458, ht _ mw_459⟩) (vx_preV [1, 3] hK hP hD (by decide) rfl (ci := 4) rfl 1 rfl) rfl rfl hl.1 rfl (lv_room (Nat.le_of_ble_eq_true rfl)) dN_Table_takeBytes_81 ⟨Nat.le_of_ble_eq_true rfl, Nat.le_of_ble_eq_true rfl⟩) (fun r1 w1 H locs hq hP hD hS => ?_)
        obtain ⟨rfl, rfl⟩ := hq
        have hP : va_P D clN [(tb, .inr (8, [.ref pr, .ref su, .ref ta, .ref be, .ref nw, .ref ac, .ref en, .ref sr, .ref ro, .ref si, .ref r, .ref jo, .int (nI R2), .int (zi md), .int (zi sg)])), (pr, .inr (4, [.ref pK, .ref pV, .ref pF, .ref pS, .int (nI n), .int (nI b)])), (pK, .inl (cI, 200, .inl (ni kC))), (pV, .inl (cI, 200, .inl (ni vC))), (pF, .inl (cI, 200, .inl (ni fC))), (pS, .inl (cI, 200, .inl (ni sC))), (en, .inl (cI, 64, .inl eC)), (ac, .inl (cI, 16384, .inl ((tbA aC q (V k / 256) (V k % 256) (nI (acN cd o9 i9)) b9)))), (sr, .inl (cI, 64, .inl (ni sor2))), (ro, .inl (cI, 200, .inl ros2))] H := hP.sub [0, 8, 1, 9, 2, 3, 4, 5, 6, 7] rfl
        have hD : va_D A [(tb, .inr (8, [.ref pr, .ref su, .ref ta, .ref be, .ref nw, .ref ac, .ref en, .ref sr, .ref ro, .ref si, .ref r, .ref jo, .int (nI R2), .int (zi md), .int (zi sg)])), (pr, .inr (4, [.ref pK, .ref pV, .ref pF, .ref pS, .int (nI n), .int (nI b)])), (pK, .inl (cI, 200, .inl (ni kC))), (pV, .inl (cI, 200, .inl (ni vC))), (pF, .inl (cI, 200, .inl (ni fC))), (pS, .inl (cI, 200, .inl (ni sC))), (en, .inl (cI, 64, .inl eC)), (ac, .inl (cI, 16384, .inl ((tbA aC q (V k / 256) (V k % 256) (nI (acN cd o9 i9)) b9)))), (sr, .inl (cI, 64, .inl (ni sor2))), (ro, .inl (cI, 200, .inl ros2))] := hD.sub [0, 8, 1, 9, 2, 3, 4, 5, 6, 7] (by decide) rfl
        refine xz_eq0 (tgt := 121) hx hb dN_Table_takeBytes_84 (by decide) (fun c_84_3 => ?_) (fun c_84_3 => ?_)
        · skip
          have hP : va_P D clN [(tb, .inr (8, [.ref pr, .ref su, .ref ta, .ref be, .ref nw, .ref ac, .ref en, .ref sr, .ref ro, .ref si, .ref r, .ref jo, .int (nI R2), .int (zi md), .int (zi sg)])), (pr, .inr (4, [.ref pK, .ref pV, .ref pF, .ref pS, .int (nI n), .int (nI b)])), (pK, .inl (cI, 200, .inl (ni kC))), (pV, .inl (cI, 200, .inl (ni vC))), (pF, .inl (cI, 200, .inl (ni fC))), (pS, .inl (cI, 200, .inl (ni sC))), (en, .inl (cI, 64, .inl eC)), (ac, .inl (cI, 16384, .inl ((tbA aC q (V k / 256) (V k % 256) (nI (acN cd o9 i9)) (b9 + 1))))), (sr, .inl (cI, 64, .inl (ni sor2))), (ro, .inl (cI, 200, .inl ros2))] _ := xP_fn (q := 7) (g := (tbA aC q (V k / 256) (V k % 256) (nI (acN cd o9 i9)) (b9 + 1))) hP rfl (fun j _ => congrFun ((tbA_no _ _ _ _ _ _ (of_decide_eq_false (htk ▸ c_84_3)))) j)
          have hD : va_D A [(tb, .inr (8, [.ref pr, .ref su, .ref ta, .ref be, .ref nw, .ref ac, .ref en, .ref sr, .ref ro, .ref si, .ref r, .ref jo, .int (nI R2), .int (zi md), .int (zi sg)])), (pr, .inr (4, [.ref pK, .ref pV, .ref pF, .ref pS, .int (nI n), .int (nI b)])), (pK, .inl (cI, 200, .inl (ni kC))), (pV, .inl (cI, 200, .inl (ni vC))), (pF, .inl (cI, 200, .inl (ni fC))), (pS, .inl (cI, 200, .inl (ni sC))), (en, .inl (cI, 64, .inl eC)), (ac, .inl (cI, 16384, .inl ((tbA aC q (V k / 256) (V k % 256) (nI (acN cd o9 i9)) (b9 + 1))))), (sr, .inl (cI, 64, .inl (ni sor2))), (ro, .inl (cI, 200, .inl ros2))] := xD_fn (q := 7) hD rfl
          refine lv_iinc (v := (nI (b9 + 1))) (lv' := [(7, .int (nI (b9 + 1))), (8, .int (nI ((q * 256) + b9))), (0, .ref tb), (1, .int (nI q)), (2, .int (nI k)), (6, .int (nI (acN cd o9 i9)))]) hx hb dN_Table_takeBytes_121 hl (k := 5) rfl (nI_1 _) (by decide) rfl (fun ls hl => ?_)
          refine lv_goto (tgt := 56) hx hb dN_Table_takeBytes_124 (by decide) ?_
          exact ih_56_1 (b9 + 1) _ _ _ ⟨hP, hD, hS, lv_sub hl [2, 3, 4, 5, 0] rfl, ⟨by omega, fun b h1 h2 => by rcases Nat.lt_succ_iff_lt_or_eq.mp h1 with h3 | h3; (exact hcf b h3 h2); (subst h3; exact absurd h2 (of_decide_eq_false (htk ▸ c_84_3)))⟩⟩ (show (256 - (b9 + 1)) < (256 - b9) from by omega)
        · skip
          refine lv_aload_n hx hb dN_Table_takeBytes_87 rfl (lv_at hl 1 rfl) ?_
          refine va_get (D := D) (ci := 8) (v := .ref ac) (C := RN_Table) (T := FN_Table) (N := 15) hx hb ht fN_Table hown hK hP 0 rfl rfl 5 (by decide) (ht _ mw_235) (fun _ h9 => h9) rfl dN_Table_takeBytes_88 ?_
          refine lv_iload hx hb dN_Table_takeBytes_91 (lv_at hl 0 rfl) ?_
          refine xi_ald hx hb hK hP 7 0 rfl rfl dN_Table_takeBytes_93 (by omega) (by omega) ?_
          refine lv_iconst (v := (-1)) hx hb dN_Table_takeBytes_94 (by decide) ?_
          refine lv_icmp_eq (tgt := 112) hx hb dN_Table_takeBytes_95 (by decide) (fun c_95_4 => ?_) (fun c_95_4 => ?_)
          · skip
            refine lv_aload_n hx hb dN_Table_takeBytes_112 rfl (lv_at hl 1 rfl) ?_
            refine va_get (D := D) (ci := 8) (v := .ref ac) (C := RN_Table) (T := FN_Table) (N := 15) hx hb ht fN_Table hown hK hP 0 rfl rfl 5 (by decide) (ht _ mw_235) (fun _ h9 => h9) rfl dN_Table_takeBytes_113 ?_
            refine lv_iload hx hb dN_Table_takeBytes_116 (lv_at hl 0 rfl) ?_
            refine lv_iload hx hb dN_Table_takeBytes_118 (lv_at hl 4 rfl) ?_
            refine xi_ast hx hb hK hP hD hS 7 0 rfl rfl dN_Table_takeBytes_120 (by omega) (by omega) (fun H locs hP hD hS => ?_)
            have hP : va_P D clN [(tb, .inr (8, [.ref pr, .ref su, .ref ta, .ref be, .ref nw, .ref ac, .ref en, .ref sr, .ref ro, .ref si, .ref r, .ref jo, .int (nI R2), .int (zi md), .int (zi sg)])), (pr, .inr (4, [.ref pK, .ref pV, .ref pF, .ref pS, .int (nI n), .int (nI b)])), (pK, .inl (cI, 200, .inl (ni kC))), (pV, .inl (cI, 200, .inl (ni vC))), (pF, .inl (cI, 200, .inl (ni fC))), (pS, .inl (cI, 200, .inl (ni sC))), (en, .inl (cI, 64, .inl eC)), (ac, .inl (cI, 16384, .inl ((upd (tbA aC q (V k / 256) (V k % 256) (nI (acN cd o9 i9)) b9) ((q * 256) + b9) (nI (acN cd o9 i9)))))), (sr, .inl (cI, 64, .inl (ni sor2))), (ro, .inl (cI, 200, .inl ros2))] H := hP
            have hD : va_D A [(tb, .inr (8, [.ref pr, .ref su, .ref ta, .ref be, .ref nw, .ref ac, .ref en, .ref sr, .ref ro, .ref si, .ref r, .ref jo, .int (nI R2), .int (zi md), .int (zi sg)])), (pr, .inr (4, [.ref pK, .ref pV, .ref pF, .ref pS, .int (nI n), .int (nI b)])), (pK, .inl (cI, 200, .inl (ni kC))), (pV, .inl (cI, 200, .inl (ni vC))), (pF, .inl (cI, 200, .inl (ni fC))), (pS, .inl (cI, 200, .inl (ni sC))), (en, .inl (cI, 64, .inl eC)), (ac, .inl (cI, 16384, .inl ((upd (tbA aC q (V k / 256) (V k % 256) (nI (acN cd o9 i9)) b9) ((q * 256) + b9) (nI (acN cd o9 i9)))))), (sr, .inl (cI, 64, .inl (ni sor2))), (ro, .inl (cI, 200, .inl ros2))] := hD
            have hP : va_P D clN [(tb, .inr (8, [.ref pr, .ref su, .ref ta, .ref be, .ref nw, .ref ac, .ref en, .ref sr, .ref ro, .ref si, .ref r, .ref jo, .int (nI R2), .int (zi md), .int (zi sg)])), (pr, .inr (4, [.ref pK, .ref pV, .ref pF, .ref pS, .int (nI n), .int (nI b)])), (pK, .inl (cI, 200, .inl (ni kC))), (pV, .inl (cI, 200, .inl (ni vC))), (pF, .inl (cI, 200, .inl (ni fC))), (pS, .inl (cI, 200, .inl (ni sC))), (en, .inl (cI, 64, .inl eC)), (ac, .inl (cI, 16384, .inl ((tbA aC q (V k / 256) (V k % 256) (nI (acN cd o9 i9)) (b9 + 1))))), (sr, .inl (cI, 64, .inl (ni sor2))), (ro, .inl (cI, 200, .inl ros2))] _ := xP_fn (q := 7) (g := (tbA aC q (V k / 256) (V k % 256) (nI (acN cd o9 i9)) (b9 + 1))) hP rfl (fun j _ => congrFun ((tbA_yes _ _ _ _ _ _ (of_decide_eq_true (htk ▸ c_84_3)))) j)
            have hD : va_D A [(tb, .inr (8, [.ref pr, .ref su, .ref ta, .ref be, .ref nw, .ref ac, .ref en, .ref sr, .ref ro, .ref si, .ref r, .ref jo, .int (nI R2), .int (zi md), .int (zi sg)])), (pr, .inr (4, [.ref pK, .ref pV, .ref pF, .ref pS, .int (nI n), .int (nI b)])), (pK, .inl (cI, 200, .inl (ni kC))), (pV, .inl (cI, 200, .inl (ni vC))), (pF, .inl (cI, 200, .inl (ni fC))), (pS, .inl (cI, 200, .inl (ni sC))), (en, .inl (cI, 64, .inl eC)), (ac, .inl (cI, 16384, .inl ((tbA aC q (V k / 256) (V k % 256) (nI (acN cd o9 i9)) (b9 + 1))))), (sr, .inl (cI, 64, .inl (ni sor2))), (ro, .inl (cI, 200, .inl ros2))] := xD_fn (q := 7) hD rfl
            refine lv_iinc (v := (nI (b9 + 1))) (lv' := [(7, .int (nI (b9 + 1))), (8, .int (nI ((q * 256) + b9))), (0, .ref tb), (1, .int (nI q)), (2, .int (nI k)), (6, .int (nI (acN cd o9 i9)))]) hx hb dN_Table_takeBytes_121 hl (k := 5) rfl (nI_1 _) (by decide) rfl (fun ls hl => ?_)
            refine lv_goto (tgt := 56) hx hb dN_Table_takeBytes_124 (by decide) ?_
            exact ih_56_1 (b9 + 1) _ _ _ ⟨hP, hD, hS, lv_sub hl [2, 3, 4, 5, 0] rfl, ⟨by omega, fun b h1 h2 => by rcases Nat.lt_succ_iff_lt_or_eq.mp h1 with h3 | h3; (exact hcf b h3 h2); (subst h3; rw [tbA_un _ _ _ _ _ _ _ (Nat.le_refl _)] at c_95_4; exact Or.inl c_95_4)⟩⟩ (show (256 - (b9 + 1)) < (256 - b9) from by omega)
          · skip
            refine lv_aload_n hx hb dN_Table_takeBytes_98 rfl (lv_at hl 1 rfl) ?_
            refine va_get (D := D) (ci := 8) (v := .ref ac) (C := RN_Table) (T := FN_Table) (N := 15) hx hb ht fN_Table hown hK hP 0 rfl rfl 5 (by decide) (ht _ mw_235) (fun _ h9 => h9) rfl dN_Table_takeBytes_99 ?_
            refine lv_iload hx hb dN_Table_takeBytes_102 (lv_at hl 0 rfl) ?_
            refine xi_ald hx hb hK hP 7 0 rfl rfl dN_Table_takeBytes_104 (by omega) (by omega) ?_
            refine lv_iload hx hb dN_Table_takeBytes_105 (lv_at hl 4 rfl) ?_
            refine lv_icmp_eq (tgt := 112) hx hb dN_Table_takeBytes_107 (by decide) (fun c_107_5 => ?_) (fun c_107_5 => ?_)
            · skip
              refine lv_aload_n hx hb dN_Table_takeBytes_112 rfl (lv_at hl 1 rfl) ?_
              refine va_get (D := D) (ci := 8) (v := .ref ac) (C := RN_Table) (T := FN_Table) (N := 15) hx hb ht fN_Table hown hK hP 0 rfl rfl 5 (by decide) (ht _ mw_235) (fun _ h9 => h9) rfl dN_Table_takeBytes_113 ?_
              refine lv_iload hx hb dN_Table_takeBytes_116 (lv_at hl 0 rfl) ?_
              refine lv_iload hx hb dN_Table_takeBytes_118 (lv_at hl 4 rfl) ?_
              refine xi_ast hx hb hK hP hD hS 7 0 rfl rfl dN_Table_takeBytes_120 (by omega) (by omega) (fun H locs hP hD hS => ?_)
              have hP : va_P D clN [(tb, .inr (8, [.ref pr, .ref su, .ref ta, .ref be, .ref nw, .ref ac, .ref en, .ref sr, .ref ro, .ref si, .ref r, .ref jo, .int (nI R2), .int (zi md), .int (zi sg)])), (pr, .inr (4, [.ref pK, .ref pV, .ref pF, .ref pS, .int (nI n), .int (nI b)])), (pK, .inl (cI, 200, .inl (ni kC))), (pV, .inl (cI, 200, .inl (ni vC))), (pF, .inl (cI, 200, .inl (ni fC))), (pS, .inl (cI, 200, .inl (ni sC))), (en, .inl (cI, 64, .inl eC)), (ac, .inl (cI, 16384, .inl ((upd (tbA aC q (V k / 256) (V k % 256) (nI (acN cd o9 i9)) b9) ((q * 256) + b9) (nI (acN cd o9 i9)))))), (sr, .inl (cI, 64, .inl (ni sor2))), (ro, .inl (cI, 200, .inl ros2))] H := hP
              have hD : va_D A [(tb, .inr (8, [.ref pr, .ref su, .ref ta, .ref be, .ref nw, .ref ac, .ref en, .ref sr, .ref ro, .ref si, .ref r, .ref jo, .int (nI R2), .int (zi md), .int (zi sg)])), (pr, .inr (4, [.ref pK, .ref pV, .ref pF, .ref pS, .int (nI n), .int (nI b)])), (pK, .inl (cI, 200, .inl (ni kC))), (pV, .inl (cI, 200, .inl (ni vC))), (pF, .inl (cI, 200, .inl (ni fC))), (pS, .inl (cI, 200, .inl (ni sC))), (en, .inl (cI, 64, .inl eC)), (ac, .inl (cI, 16384, .inl ((upd (tbA aC q (V k / 256) (V k % 256) (nI (acN cd o9 i9)) b9) ((q * 256) + b9) (nI (acN cd o9 i9)))))), (sr, .inl (cI, 64, .inl (ni sor2))), (ro, .inl (cI, 200, .inl ros2))] := hD
              have hP : va_P D clN [(tb, .inr (8, [.ref pr, .ref su, .ref ta, .ref be, .ref nw, .ref ac, .ref en, .ref sr, .ref ro, .ref si, .ref r, .ref jo, .int (nI R2), .int (zi md), .int (zi sg)])), (pr, .inr (4, [.ref pK, .ref pV, .ref pF, .ref pS, .int (nI n), .int (nI b)])), (pK, .inl (cI, 200, .inl (ni kC))), (pV, .inl (cI, 200, .inl (ni vC))), (pF, .inl (cI, 200, .inl (ni fC))), (pS, .inl (cI, 200, .inl (ni sC))), (en, .inl (cI, 64, .inl eC)), (ac, .inl (cI, 16384, .inl ((tbA aC q (V k / 256) (V k % 256) (nI (acN cd o9 i9)) (b9 + 1))))), (sr, .inl (cI, 64, .inl (ni sor2))), (ro, .inl (cI, 200, .inl ros2))] _ := xP_fn (q := 7) (g := (tbA aC q (V k / 256) (V k % 256) (nI (acN cd o9 i9)) (b9 + 1))) hP rfl (fun j _ => congrFun ((tbA_yes _ _ _ _ _ _ (of_decide_eq_true (htk ▸ c_84_3)))) j)
              have hD : va_D A [(tb, .inr (8, [.ref pr, .ref su, .ref ta, .ref be, .ref nw, .ref ac, .ref en, .ref sr, .ref ro, .ref si, .ref r, .ref jo, .int (nI R2), .int (zi md), .int (zi sg)])), (pr, .inr (4, [.ref pK, .ref pV, .ref pF, .ref pS, .int (nI n), .int (nI b)])), (pK, .inl (cI, 200, .inl (ni kC))), (pV, .inl (cI, 200, .inl (ni vC))), (pF, .inl (cI, 200, .inl (ni fC))), (pS, .inl (cI, 200, .inl (ni sC))), (en, .inl (cI, 64, .inl eC)), (ac, .inl (cI, 16384, .inl ((tbA aC q (V k / 256) (V k % 256) (nI (acN cd o9 i9)) (b9 + 1))))), (sr, .inl (cI, 64, .inl (ni sor2))), (ro, .inl (cI, 200, .inl ros2))] := xD_fn (q := 7) hD rfl
              refine lv_iinc (v := (nI (b9 + 1))) (lv' := [(7, .int (nI (b9 + 1))), (8, .int (nI ((q * 256) + b9))), (0, .ref tb), (1, .int (nI q)), (2, .int (nI k)), (6, .int (nI (acN cd o9 i9)))]) hx hb dN_Table_takeBytes_121 hl (k := 5) rfl (nI_1 _) (by decide) rfl (fun ls hl => ?_)
              refine lv_goto (tgt := 56) hx hb dN_Table_takeBytes_124 (by decide) ?_
              exact ih_56_1 (b9 + 1) _ _ _ ⟨hP, hD, hS, lv_sub hl [2, 3, 4, 5, 0] rfl, ⟨by omega, fun b h1 h2 => by rcases Nat.lt_succ_iff_lt_or_eq.mp h1 with h3 | h3; (exact hcf b h3 h2); (subst h3; rw [tbA_un _ _ _ _ _ _ _ (Nat.le_refl _)] at c_107_5; exact Or.inr c_107_5)⟩⟩ (show (256 - (b9 + 1)) < (256 - b9) from by omega)
            · skip
              refine lv_iconst (v := (nI 0)) hx hb dN_Table_takeBytes_110 (by decide) ?_
              refine xn_top (y := zi false) rfl ?_
              exact vx_zret C hK hP hD hS dN_Table_takeBytes_111 (Nat.le_of_ble_eq_true rfl) (Nat.le_of_ble_eq_true rfl) (zi_nar2 _) (⟨false, _, _, _, _, rfl, rfl, by subst ek; subst ecd; exact WK_conf hPg hT hc hk1 hRf hi9 c_61_2 (of_decide_eq_true (htk ▸ c_84_3)) (by rw [ho9]) c_95_4 c_107_5⟩)
    · skip
      refine lv_aload_n hx hb dN_Table_takeBytes_23 rfl (lv_at hl 1 rfl) ?_
      refine va_get (D := D) (ci := 8) (v := .ref en) (C := RN_Table) (T := FN_Table) (N := 15) hx hb ht fN_Table hown hK hP 0 rfl rfl 6 (by decide) (ht _ mw_236) (fun _ h9 => h9) rfl dN_Table_takeBytes_24 ?_
      refine lv_iload_n hx hb dN_Table_takeBytes_27 rfl (lv_at hl 2 rfl) ?_
      refine xi_ald hx hb hK hP 6 0 rfl rfl dN_Table_takeBytes_28 (by omega) (by omega) ?_
      refine lv_iconst (v := (-1)) hx hb dN_Table_takeBytes_29 (by decide) ?_
      refine lv_icmp_ne (tgt := 37) hx hb dN_Table_takeBytes_30 (by decide) (fun c_30_6 => ?_) (fun c_30_6 => ?_)
      · skip
        refine lv_bipush (v := (nI 64)) hx hb dN_Table_takeBytes_37 (by decide) ?_
        exact Jo9 (64) (by rw [if_neg c_30_6])
      · skip
        refine lv_iconst (v := (nI 0)) hx hb dN_Table_takeBytes_33 (by decide) ?_
        refine lv_goto (tgt := 39) hx hb dN_Table_takeBytes_34 (by decide) ?_
        exact Jo9 (0) (by rw [if_pos c_30_6])
  · skip
    rw [c_18_0] at hRf
    refine lv_iconst (v := (nI 0)) hx hb dN_Table_takeBytes_21 (by decide) ?_
    refine xn_top (y := zi false) rfl ?_
    exact vx_zret C hK hP hD hS dN_Table_takeBytes_22 (Nat.le_of_ble_eq_true rfl) (Nat.le_of_ble_eq_true rfl) (zi_nar2 _) (⟨false, _, _, _, _, rfl, rfl, by subst ek; subst ecd; exact WK_full hPg hT hc hk1 hRf⟩)
