set_option maxHeartbeats 4000000 in
set_option maxRecDepth 100000 in
/-- rowFor(k) -/
theorem kTable_rowFor (l : Launch) (D : va_G) (cI cZ cJ : ClassId) (tb pr su ta be nw ac en sr ro si r jo : Nat) (pK pV pF pS n b R k : Nat) (md sg : Bool) (sor : Nat → Nat) (ros : Nat → Int32) (hR : RwS n R sor ros) (hk : k < n) (hn : n ≤ 200) : vx_Mi l yN_Table_rowFor wN_Table_rowFor ({ frames := 1, cells := 0, slots := 0, locals := 21 }) D clN (tyN cI cZ cJ) [.ref tb, .int (nI k)] [(tb, .inr (8, [.ref pr, .ref su, .ref ta, .ref be, .ref nw, .ref ac, .ref en, .ref sr, .ref ro, .ref si, .ref r, .ref jo, .int (nI R), .int (zi md), .int (zi sg)])), (pr, .inr (4, [.ref pK, .ref pV, .ref pF, .ref pS, .int (nI n), .int (nI b)])), (sr, .inl (cI, 64, .inl (ni sor))), (ro, .inl (cI, 200, .inl ros))] (fun x w => ∃ (R2 : Nat) (sor2 : Nat → Nat) (ros2 : Nat → Int32), RfR n R sor ros k x R2 sor2 ros2 ∧ w = [(tb, .inr (8, [.ref pr, .ref su, .ref ta, .ref be, .ref nw, .ref ac, .ref en, .ref sr, .ref ro, .ref si, .ref r, .ref jo, .int (nI R2), .int (zi md), .int (zi sg)])), (pr, .inr (4, [.ref pK, .ref pV, .ref pF, .ref pS, .int (nI n), .int (nI b)])), (sr, .inl (cI, 64, .inl (ni sor2))), (ro, .inl (cI, 200, .inl ros2))]) := by
  refine vx_startI (cc := cN_Table_rowFor) (maxL := 2) (ret := (some .int)) (by decide) rfl (Nat.le_of_ble_eq_true rfl) ?_
  intro p_0 e_0 s m below meth c_0 A ls C hK hP hD hS hA hl
  obtain ⟨hx, hb, hr, hml, hown, hts, hlocks, hnm⟩ := id C
  have hown : s.vm.findClass "StepMachines$Table" = some m.cls := hown
  have ht : ∀ w ∈ TB, w.before _ s = true := fun w h => hts w (List.mem_cons_of_mem _ h)
  have hl : lv_has ls 2 [(0, .ref tb), (1, .int (nI k))] := hl
  refine lv_aload_n hx hb dN_Table_rowFor_0 rfl (lv_at hl 0 rfl) ?_
  refine va_get (D := D) (ci := 8) (v := .ref pr) (C := RN_Table) (T := FN_Table) (N := 15) hx hb ht fN_Table hown hK hP 0 rfl rfl 0 (by decide) (ht _ mw_197) (fun _ h9 => h9) rfl dN_Table_rowFor_1 ?_
  refine lv_iload_n hx hb dN_Table_rowFor_4 rfl (lv_at hl 1 rfl) ?_
  refine vx_calli (wc := [(pr, .inr (4, [.ref pK, .ref pV, .ref pF, .ref pS, .int (nI n), .int (nI b)]))]) (wr := [(tb, .inr (8, [.ref pr, .ref su, .ref ta, .ref be, .ref nw, .ref ac, .ref en, .ref sr, .ref ro, .ref si, .ref r, .ref jo, .int (nI R), .int (zi md), .int (zi sg)])), (sr, .inl (cI, 64, .inl (ni sor))), (ro, .inl (cI, 200, .inl ros))]) [1] [0, 2, 3] hK hP hD hS hA rfl rfl (by decide) (by decide) (va_runV (As := [.int (nI k)]) (rest := []) ⟨hx, hb, hml, hown, ht⟩ (kProgram_has l D cI cZ cJ pr pK pV pF pS n b (nI k) _) (⟨callB_of 1 ht (TB_in2 gN_Program_has) rfl rfl rfl (ht _ mw_2) (ht _ mw_389) (by decide +kernel) ⟨Nat.le_of_ble_eq_true rfl, Nat.le_of_ble_eq_true rfl⟩, ht _ mw_390, ht _ mw_391⟩) (vx_preV [1] hK hP hD (by decide) rfl (ci := 4) rfl 1 rfl) rfl rfl hl.1 rfl (lv_room (Nat.le_of_ble_eq_true rfl)) dN_Table_rowFor_5 ⟨Nat.le_of_ble_eq_true rfl, Nat.le_of_ble_eq_true rfl⟩) (fun r1 w1 H locs hq hP hD hS => ?_)
  obtain ⟨rfl, rfl⟩ := hq
  have hP : va_P D clN [(tb, .inr (8, [.ref pr, .ref su, .ref ta, .ref be, .ref nw, .ref ac, .ref en, .ref sr, .ref ro, .ref si, .ref r, .ref jo, .int (nI R), .int (zi md), .int (zi sg)])), (pr, .inr (4, [.ref pK, .ref pV, .ref pF, .ref pS, .int (nI n), .int (nI b)])), (sr, .inl (cI, 64, .inl (ni sor))), (ro, .inl (cI, 200, .inl ros))] H := hP.sub [0, 3, 1, 2] rfl
  have hD : va_D A [(tb, .inr (8, [.ref pr, .ref su, .ref ta, .ref be, .ref nw, .ref ac, .ref en, .ref sr, .ref ro, .ref si, .ref r, .ref jo, .int (nI R), .int (zi md), .int (zi sg)])), (pr, .inr (4, [.ref pK, .ref pV, .ref pF, .ref pS, .int (nI n), .int (nI b)])), (sr, .inl (cI, 64, .inl (ni sor))), (ro, .inl (cI, 200, .inl ros))] := hD.sub [0, 3, 1, 2] (by decide) rfl
  refine xz_ne0 (tgt := 13) hx hb dN_Table_rowFor_8 (by decide) (fun c_10008_0 => ?_) (fun c_10008_0 => ?_)
  · skip
    refine lv_aload_n hx hb dN_Table_rowFor_13 rfl (lv_at hl 0 rfl) ?_
    refine va_get (D := D) (ci := 8) (v := .ref ro) (C := RN_Table) (T := FN_Table) (N := 15) hx hb ht fN_Table hown hK hP 0 rfl rfl 8 (by decide) (ht _ mw_205) (fun _ h9 => h9) rfl dN_Table_rowFor_14 ?_
    refine lv_iload_n hx hb dN_Table_rowFor_17 rfl (lv_at hl 1 rfl) ?_
    refine xi_ald hx hb hK hP 3 0 rfl rfl dN_Table_rowFor_18 (by omega) (by omega) ?_
    refine lv_iconst (v := (-1)) hx hb dN_Table_rowFor_19 (by decide) ?_
    refine lv_icmp_ne (tgt := 62) hx hb dN_Table_rowFor_20 (by decide) (fun c_7_1 => ?_) (fun c_7_1 => ?_)
    · skip
      refine lv_aload_n hx hb dN_Table_rowFor_62 rfl (lv_at hl 0 rfl) ?_
      refine va_get (D := D) (ci := 8) (v := .ref ro) (C := RN_Table) (T := FN_Table) (N := 15) hx hb ht fN_Table hown hK hP 0 rfl rfl 8 (by decide) (ht _ mw_205) (fun _ h9 => h9) rfl dN_Table_rowFor_63 ?_
      refine lv_iload_n hx hb dN_Table_rowFor_66 rfl (lv_at hl 1 rfl) ?_
      refine xi_ald hx hb hK hP 3 0 rfl rfl dN_Table_rowFor_67 (by omega) (by omega) ?_
      exact vx_iret C hK hP hD hS dN_Table_rowFor_68 (Nat.le_of_ble_eq_true rfl) (Nat.le_of_ble_eq_true rfl) (⟨_, _, _, Rf_old hR hk c_7_1, rfl⟩)
    · skip
      refine lv_aload_n hx hb dN_Table_rowFor_23 rfl (lv_at hl 0 rfl) ?_
      refine va_get (D := D) (ci := 8) (v := .int (nI R)) (C := RN_Table) (T := FN_Table) (N := 15) hx hb ht fN_Table hown hK hP 0 rfl rfl 12 (by decide) (ht _ mw_209) (fun _ h9 => h9) rfl dN_Table_rowFor_24 ?_
      refine lv_bipush (v := (nI 64)) hx hb dN_Table_rowFor_27 (by decide) ?_
      refine xn_ge (tgt := 62) hx hb dN_Table_rowFor_29 (by decide) (by have := hR.1; omega) (by omega) (fun c_16_2 => ?_) (fun c_16_2 => ?_)
      · skip
        refine lv_aload_n hx hb dN_Table_rowFor_62 rfl (lv_at hl 0 rfl) ?_
        refine va_get (D := D) (ci := 8) (v := .ref ro) (C := RN_Table) (T := FN_Table) (N := 15) hx hb ht fN_Table hown hK hP 0 rfl rfl 8 (by decide) (ht _ mw_205) (fun _ h9 => h9) rfl dN_Table_rowFor_63 ?_
        refine lv_iload_n hx hb dN_Table_rowFor_66 rfl (lv_at hl 1 rfl) ?_
        refine xi_ald hx hb hK hP 3 0 rfl rfl dN_Table_rowFor_67 (by omega) (by omega) ?_
        exact vx_iret C hK hP hD hS dN_Table_rowFor_68 (Nat.le_of_ble_eq_true rfl) (Nat.le_of_ble_eq_true rfl) (⟨_, _, _, by rw [c_7_1]; exact Rf_full hR hk c_16_2 c_7_1, rfl⟩)
      · skip
        refine lv_aload_n hx hb dN_Table_rowFor_32 rfl (lv_at hl 0 rfl) ?_
        refine va_get (D := D) (ci := 8) (v := .ref ro) (C := RN_Table) (T := FN_Table) (N := 15) hx hb ht fN_Table hown hK hP 0 rfl rfl 8 (by decide) (ht _ mw_205) (fun _ h9 => h9) rfl dN_Table_rowFor_33 ?_
        refine lv_iload_n hx hb dN_Table_rowFor_36 rfl (lv_at hl 1 rfl) ?_
        refine lv_aload_n hx hb dN_Table_rowFor_37 rfl (lv_at hl 0 rfl) ?_
        refine va_get (D := D) (ci := 8) (v := .int (nI R)) (C := RN_Table) (T := FN_Table) (N := 15) hx hb ht fN_Table hown hK hP 0 rfl rfl 12 (by decide) (ht _ mw_209) (fun _ h9 => h9) rfl dN_Table_rowFor_38 ?_
        refine xi_ast hx hb hK hP hD hS 3 0 rfl rfl dN_Table_rowFor_41 (by omega) (by omega) (fun H locs hP hD hS => ?_)
        have hP : va_P D clN [(tb, .inr (8, [.ref pr, .ref su, .ref ta, .ref be, .ref nw, .ref ac, .ref en, .ref sr, .ref ro, .ref si, .ref r, .ref jo, .int (nI R), .int (zi md), .int (zi sg)])), (pr, .inr (4, [.ref pK, .ref pV, .ref pF, .ref pS, .int (nI n), .int (nI b)])), (sr, .inl (cI, 64, .inl (ni sor))), (ro, .inl (cI, 200, .inl ((upd ros k (nI R)))))] H := hP
        have hD : va_D A [(tb, .inr (8, [.ref pr, .ref su, .ref ta, .ref be, .ref nw, .ref ac, .ref en, .ref sr, .ref ro, .ref si, .ref r, .ref jo, .int (nI R), .int (zi md), .int (zi sg)])), (pr, .inr (4, [.ref pK, .ref pV, .ref pF, .ref pS, .int (nI n), .int (nI b)])), (sr, .inl (cI, 64, .inl (ni sor))), (ro, .inl (cI, 200, .inl ((upd ros k (nI R)))))] := hD
        refine lv_aload_n hx hb dN_Table_rowFor_42 rfl (lv_at hl 0 rfl) ?_
        refine va_get (D := D) (ci := 8) (v := .ref sr) (C := RN_Table) (T := FN_Table) (N := 15) hx hb ht fN_Table hown hK hP 0 rfl rfl 7 (by decide) (ht _ mw_204) (fun _ h9 => h9) rfl dN_Table_rowFor_43 ?_
        refine lv_aload_n hx hb dN_Table_rowFor_46 rfl (lv_at hl 0 rfl) ?_
        refine va_get (D := D) (ci := 8) (v := .int (nI R)) (C := RN_Table) (T := FN_Table) (N := 15) hx hb ht fN_Table hown hK hP 0 rfl rfl 12 (by decide) (ht _ mw_209) (fun _ h9 => h9) rfl dN_Table_rowFor_47 ?_
        refine lv_iload_n hx hb dN_Table_rowFor_50 rfl (lv_at hl 1 rfl) ?_
        refine xn_ast hx hb hK hP hD hS 2 0 rfl rfl dN_Table_rowFor_51 (by have := hR.1; omega) (by omega) (fun H locs hP hD hS => ?_)
        have hP : va_P D clN [(tb, .inr (8, [.ref pr, .ref su, .ref ta, .ref be, .ref nw, .ref ac, .ref en, .ref sr, .ref ro, .ref si, .ref r, .ref jo, .int (nI R), .int (zi md), .int (zi sg)])), (pr, .inr (4, [.ref pK, .ref pV, .ref pF, .ref pS, .int (nI n), .int (nI b)])), (sr, .inl (cI, 64, .inl (ni (un sor R k)))), (ro, .inl (cI, 200, .inl ((upd ros k (nI R)))))] H := hP
        have hD : va_D A [(tb, .inr (8, [.ref pr, .ref su, .ref ta, .ref be, .ref nw, .ref ac, .ref en, .ref sr, .ref ro, .ref si, .ref r, .ref jo, .int (nI R), .int (zi md), .int (zi sg)])), (pr, .inr (4, [.ref pK, .ref pV, .ref pF, .ref pS, .int (nI n), .int (nI b)])), (sr, .inl (cI, 64, .inl (ni (un sor R k)))), (ro, .inl (cI, 200, .inl ((upd ros k (nI R)))))] := hD
        refine lv_aload_n hx hb dN_Table_rowFor_52 rfl (lv_at hl 0 rfl) ?_
        refine lv_dup hx hb dN_Table_rowFor_53 rfl ?_
        refine va_get (D := D) (ci := 8) (v := .int (nI R)) (C := RN_Table) (T := FN_Table) (N := 15) hx hb ht fN_Table hown hK hP 0 rfl rfl 12 (by decide) (ht _ mw_209) (fun _ h9 => h9) rfl dN_Table_rowFor_54 ?_
        refine lv_iconst (v := (nI 1)) hx hb dN_Table_rowFor_57 (by decide) ?_
        refine xn_add hx hb dN_Table_rowFor_58 ?_
        refine va_put (D := D) (ci := 8) (v := .int (nI (R + 1))) (ty := .int) (C := RN_Table) (T := FN_Table) (N := 15) hx hb ht fN_Table tN_Table oN_Table nN_Table hown hK hP hD hS 0 rfl rfl 12 (by decide) (ht _ mw_209) (fun _ h9 => h9) rfl (by decide +kernel) (rfl) (rfl) (Nat.le_of_ble_eq_true rfl) dN_Table_rowFor_59 (fun H locs hP hD hS => ?_)
        have hP : va_P D clN [(tb, .inr (8, [.ref pr, .ref su, .ref ta, .ref be, .ref nw, .ref ac, .ref en, .ref sr, .ref ro, .ref si, .ref r, .ref jo, .int (nI (R + 1)), .int (zi md), .int (zi sg)])), (pr, .inr (4, [.ref pK, .ref pV, .ref pF, .ref pS, .int (nI n), .int (nI b)])), (sr, .inl (cI, 64, .inl (ni (un sor R k)))), (ro, .inl (cI, 200, .inl ((upd ros k (nI R)))))] H := hP
        have hD : va_D A [(tb, .inr (8, [.ref pr, .ref su, .ref ta, .ref be, .ref nw, .ref ac, .ref en, .ref sr, .ref ro, .ref si, .ref r, .ref jo, .int (nI (R + 1)), .int (zi md), .int (zi sg)])), (pr, .inr (4, [.ref pK, .ref pV, .ref pF, .ref pS, .int (nI n), .int (nI b)])), (sr, .inl (cI, 64, .inl (ni (un sor R k)))), (ro, .inl (cI, 200, .inl ((upd ros k (nI R)))))] := hD
        refine lv_aload_n hx hb dN_Table_rowFor_62 rfl (lv_at hl 0 rfl) ?_
        refine va_get (D := D) (ci := 8) (v := .ref ro) (C := RN_Table) (T := FN_Table) (N := 15) hx hb ht fN_Table hown hK hP 0 rfl rfl 8 (by decide) (ht _ mw_205) (fun _ h9 => h9) rfl dN_Table_rowFor_63 ?_
        refine lv_iload_n hx hb dN_Table_rowFor_66 rfl (lv_at hl 1 rfl) ?_
        refine xi_ald hx hb hK hP 3 0 rfl rfl dN_Table_rowFor_67 (by omega) (by omega) ?_
        exact vx_iret C hK hP hD hS dN_Table_rowFor_68 (Nat.le_of_ble_eq_true rfl) (Nat.le_of_ble_eq_true rfl) (⟨_, _, _, by rw [pk_us]; exact Rf_new hR hk c_16_2 c_7_1, rfl⟩)
  · skip
    exact absurd (stepB_ok (hn) (hk)) (by rw [c_10008_0]; decide)
set_option maxHeartbeats 4000000 in
set_option maxRecDepth 100000 in
/-- later(k, cd) -/
theorem kTable_later (l : Launch) (D : va_G) (cI cZ cJ : ClassId) (tb pr su ta be nw ac en sr ro si r jo : Nat) (pK pV pF pS n b jf R c k cd : Nat) (md sg : Bool) (js sc : Nat → Nat) (hk : k < n) (hn : n ≤ 200) (hc : c / 4 < 101) : vx_Mv l yN_Table_later wN_Table_later ({ frames := 1, cells := 0, slots := 0, locals := 23 }) D clN (tyN cI cZ cJ) [.ref tb, .int (nI k), .int (nI cd)] [(tb, .inr (8, [.ref pr, .ref su, .ref ta, .ref be, .ref nw, .ref ac, .ref en, .ref sr, .ref ro, .ref si, .ref r, .ref jo, .int (nI R), .int (zi md), .int (zi sg)])), (pr, .inr (4, [.ref pK, .ref pV, .ref pF, .ref pS, .int (nI n), .int (nI b)])), (si, .inl (cI, 200, .inl (ni sc))), (jo, .inr (0, [.ref jf, .int (nI c)])), (jf, .inl (cJ, 101, .inr (.inl ((pkJ js)))))] (fun w => w = [(tb, .inr (8, [.ref pr, .ref su, .ref ta, .ref be, .ref nw, .ref ac, .ref en, .ref sr, .ref ro, .ref si, .ref r, .ref jo, .int (nI R), .int (zi md), .int (zi sg)])), (pr, .inr (4, [.ref pK, .ref pV, .ref pF, .ref pS, .int (nI n), .int (nI b)])), (si, .inl (cI, 200, .inl (ni (un sc k cd)))), (jo, .inr (0, [.ref jf, .int (nI (c + 1))])), (jf, .inl (cJ, 101, .inr (.inl ((pkJ (un js c k))))))]) := by
  refine vx_startV (cc := cN_Table_later) (maxL := 3) (ret := none) (by decide) rfl (Nat.le_of_ble_eq_true rfl) ?_
  intro p_0 e_0 s m below meth c_0 A ls C hK hP hD hS hA hl
  obtain ⟨hx, hb, hr, hml, hown, hts, hlocks, hnm⟩ := id C
  have hown : s.vm.findClass "StepMachines$Table" = some m.cls := hown
  have ht : ∀ w ∈ TB, w.before _ s = true := fun w h => hts w (List.mem_cons_of_mem _ h)
  have hl : lv_has ls 3 [(0, .ref tb), (1, .int (nI k)), (2, .int (nI cd))] := hl
  refine lv_aload_n hx hb dN_Table_later_0 rfl (lv_at hl 0 rfl) ?_
  refine va_get (D := D) (ci := 8) (v := .ref pr) (C := RN_Table) (T := FN_Table) (N := 15) hx hb ht fN_Table hown hK hP 0 rfl rfl 0 (by decide) (ht _ mw_197) (fun _ h9 => h9) rfl dN_Table_later_1 ?_
  refine lv_iload_n hx hb dN_Table_later_4 rfl (lv_at hl 1 rfl) ?_
  refine vx_calli (wc := [(pr, .inr (4, [.ref pK, .ref pV, .ref pF, .ref pS, .int (nI n), .int (nI b)]))]) (wr := [(tb, .inr (8, [.ref pr, .ref su, .ref ta, .ref be, .ref nw, .ref ac, .ref en, .ref sr, .ref ro, .ref si, .ref r, .ref jo, .int (nI R), .int (zi md), .int (zi sg)])), (si, .inl (cI, 200, .inl (ni sc))), (jo, .inr (0, [.ref jf, .int (nI c)])), (jf, .inl (cJ, 101, .inr (.inl ((pkJ js)))))]) [1] [0, 2, 3, 4] hK hP hD hS hA rfl rfl (by decide) (by decide) (va_runV (As := [.int (nI k)]) (rest := []) ⟨hx, hb, hml, hown, ht⟩ (kProgram_has l D cI cZ cJ pr pK pV pF pS n b (nI k) _) (⟨callB_of 1 ht (TB_in2 gN_Program_has) rfl rfl rfl (ht _ mw_2) (ht _ mw_389) (by decide +kernel) ⟨Nat.le_of_ble_eq_true rfl, Nat.le_of_ble_eq_true rfl⟩, ht _ mw_390, ht _ mw_391⟩) (vx_preV [1] hK hP hD (by decide) rfl (ci := 4) rfl 1 rfl) rfl rfl hl.1 rfl (lv_room (Nat.le_of_ble_eq_true rfl)) dN_Table_later_5 ⟨Nat.le_of_ble_eq_true rfl, Nat.le_of_ble_eq_true rfl⟩) (fun r1 w1 H locs hq hP hD hS => ?_)
  obtain ⟨rfl, rfl⟩ := hq
  have hP : va_P D clN [(tb, .inr (8, [.ref pr, .ref su, .ref ta, .ref be, .ref nw, .ref ac, .ref en, .ref sr, .ref ro, .ref si, .ref r, .ref jo, .int (nI R), .int (zi md), .int (zi sg)])), (pr, .inr (4, [.ref pK, .ref pV, .ref pF, .ref pS, .int (nI n), .int (nI b)])), (si, .inl (cI, 200, .inl (ni sc))), (jo, .inr (0, [.ref jf, .int (nI c)])), (jf, .inl (cJ, 101, .inr (.inl ((pkJ js)))))] H := hP.sub [0, 4, 1, 2, 3] rfl
  have hD : va_D A [(tb, .inr (8, [.ref pr, .ref su, .ref ta, .ref be, .ref nw, .ref ac, .ref en, .ref sr, .ref ro, .ref si, .ref r, .ref jo, .int (nI R), .int (zi md), .int (zi sg)])), (pr, .inr (4, [.ref pK, .ref pV, .ref pF, .ref pS, .int (nI n), .int (nI b)])), (si, .inl (cI, 200, .inl (ni sc))), (jo, .inr (0, [.ref jf, .int (nI c)])), (jf, .inl (cJ, 101, .inr (.inl ((pkJ js)))))] := hD.sub [0, 4, 1, 2, 3] (by decide) rfl
  refine xz_eq0 (tgt := 26) hx hb dN_Table_later_8 (by decide) (fun c_10008_0 => ?_) (fun c_10008_0 => ?_)
  · skip
    exact absurd (stepB_ok (hn) (hk)) (by rw [c_10008_0]; decide)
  · skip
    refine lv_aload_n hx hb dN_Table_later_11 rfl (lv_at hl 0 rfl) ?_
    refine va_get (D := D) (ci := 8) (v := .ref si) (C := RN_Table) (T := FN_Table) (N := 15) hx hb ht fN_Table hown hK hP 0 rfl rfl 9 (by decide) (ht _ mw_206) (fun _ h9 => h9) rfl dN_Table_later_12 ?_
    refine lv_iload_n hx hb dN_Table_later_15 rfl (lv_at hl 1 rfl) ?_
    refine lv_iload_n hx hb dN_Table_later_16 rfl (lv_at hl 2 rfl) ?_
    refine xn_ast hx hb hK hP hD hS 2 0 rfl rfl dN_Table_later_17 (by omega) (by omega) (fun H locs hP hD hS => ?_)
    have hP : va_P D clN [(tb, .inr (8, [.ref pr, .ref su, .ref ta, .ref be, .ref nw, .ref ac, .ref en, .ref sr, .ref ro, .ref si, .ref r, .ref jo, .int (nI R), .int (zi md), .int (zi sg)])), (pr, .inr (4, [.ref pK, .ref pV, .ref pF, .ref pS, .int (nI n), .int (nI b)])), (si, .inl (cI, 200, .inl (ni (un sc k cd)))), (jo, .inr (0, [.ref jf, .int (nI c)])), (jf, .inl (cJ, 101, .inr (.inl ((pkJ js)))))] H := hP
    have hD : va_D A [(tb, .inr (8, [.ref pr, .ref su, .ref ta, .ref be, .ref nw, .ref ac, .ref en, .ref sr, .ref ro, .ref si, .ref r, .ref jo, .int (nI R), .int (zi md), .int (zi sg)])), (pr, .inr (4, [.ref pK, .ref pV, .ref pF, .ref pS, .int (nI n), .int (nI b)])), (si, .inl (cI, 200, .inl (ni (un sc k cd)))), (jo, .inr (0, [.ref jf, .int (nI c)])), (jf, .inl (cJ, 101, .inr (.inl ((pkJ js)))))] := hD
    refine lv_aload_n hx hb dN_Table_later_18 rfl (lv_at hl 0 rfl) ?_
    refine va_get (D := D) (ci := 8) (v := .ref jo) (C := RN_Table) (T := FN_Table) (N := 15) hx hb ht fN_Table hown hK hP 0 rfl rfl 11 (by decide) (ht _ mw_208) (fun _ h9 => h9) rfl dN_Table_later_19 ?_
    refine lv_iload_n hx hb dN_Table_later_22 rfl (lv_at hl 1 rfl) ?_
    refine vx_callv (wc := [(jo, .inr (0, [.ref jf, .int (nI c)])), (jf, .inl (cJ, 101, .inr (.inl ((pkJ js)))))]) (wr := [(tb, .inr (8, [.ref pr, .ref su, .ref ta, .ref be, .ref nw, .ref ac, .ref en, .ref sr, .ref ro, .ref si, .ref r, .ref jo, .int (nI R), .int (zi md), .int (zi sg)])), (pr, .inr (4, [.ref pK, .ref pV, .ref pF, .ref pS, .int (nI n), .int (nI b)])), (si, .inl (cI, 200, .inl (ni (un sc k cd))))]) [3, 4] [0, 1, 2] hK hP hD hS hA rfl rfl (by decide) (by decide) (va_runV (As := [.int (nI k)]) (rest := []) ⟨hx, hb, hml, hown, ht⟩ (kJobs_add l D cI cZ cJ jo jf 101 (c) (js) (k) (by omega) (by omega) (by omega) _) (⟨callB_of 1 ht (TB_in2 gN_Jobs_add) rfl rfl rfl (ht _ mw_6) (ht _ mw_409) (by decide +kernel) ⟨Nat.le_of_ble_eq_true rfl, Nat.le_of_ble_eq_true rfl⟩, ht _ mw_410, ht _ mw_411⟩) (vx_preV [3, 4] hK hP hD (by decide) rfl (ci := 0) rfl 3 rfl) rfl rfl hl.1 rfl (lv_room (Nat.le_of_ble_eq_true rfl)) dN_Table_later_23 ⟨Nat.le_of_ble_eq_true rfl, Nat.le_of_ble_eq_true rfl⟩) (fun w1 H locs hq hP hD hS => ?_)
    subst hq
    have hP : va_P D clN [(tb, .inr (8, [.ref pr, .ref su, .ref ta, .ref be, .ref nw, .ref ac, .ref en, .ref sr, .ref ro, .ref si, .ref r, .ref jo, .int (nI R), .int (zi md), .int (zi sg)])), (pr, .inr (4, [.ref pK, .ref pV, .ref pF, .ref pS, .int (nI n), .int (nI b)])), (si, .inl (cI, 200, .inl (ni (un sc k cd)))), (jo, .inr (0, [.ref jf, .int (nI (c + 1))])), (jf, .inl (cJ, 101, .inr (.inl ((pkJ (un js c k))))))] H := hP.sub [0, 1, 2, 3, 4] rfl
    have hD : va_D A [(tb, .inr (8, [.ref pr, .ref su, .ref ta, .ref be, .ref nw, .ref ac, .ref en, .ref sr, .ref ro, .ref si, .ref r, .ref jo, .int (nI R), .int (zi md), .int (zi sg)])), (pr, .inr (4, [.ref pK, .ref pV, .ref pF, .ref pS, .int (nI n), .int (nI b)])), (si, .inl (cI, 200, .inl (ni (un sc k cd)))), (jo, .inr (0, [.ref jf, .int (nI (c + 1))])), (jf, .inl (cJ, 101, .inr (.inl ((pkJ (un js c k))))))] := hD.sub [0, 1, 2, 3, 4] (by decide) rfl
    exact vx_vret C hK hP hD hS dN_Table_later_26 (Nat.le_of_ble_eq_true rfl) (Nat.le_of_ble_eq_true rfl) (rfl)
theorem tbA_up {m2 : Nat} (aC : Nat → Int32) (q lo hi : Nat) (x : Int32) (m : Nat) (hm : m ≤ m2) (h : ∀ b, m ≤ b → b < m2 → ¬ (lo ≤ b ∧ b ≤ hi)) : tbA aC q lo hi x m = tbA aC q lo hi x m2 := by
  funext t; rw [tbA, tbA]
  by_cases h1 : q * 256 ≤ t ∧ t < q * 256 + m ∧ lo ≤ t - q * 256 ∧ t - q * 256 ≤ hi
  · rw [if_pos h1, if_pos (by omega)]
  · rw [if_neg h1, if_neg (fun h2 => h (t - q * 256) (by omega) (by omega) ⟨h2.2.2.1, h2.2.2.2⟩)]
set_option maxHeartbeats 4000000 in
set_option maxRecDepth 100000 in
/-- takeBytes(q, k, cd) -/
theorem kTable_takeBytes (l : Launch) (D : va_G) (cI cZ cJ : ClassId) (tb pr su ta be nw ac en sr ro si r jo : Nat) (pK pV pF pS n b R q b0 r0 tu c k cd : Nat) (md sg : Bool) (kC vC fC sC K V F S js sc me sor : Nat → Nat) (aC eC ros : Nat → Int32) (hPg : Pg n kC vC fC sC K V F S) (hT : TW K V F S n b0 r0 q tu c js sc me aC (eC q) R sor ros) (hc : 0 < c) (hm : me (js (c - 1)) ≠ tu) (hq6 : q < 64) (ek : k = js (c - 1)) (ecd : cd = sc (js (c - 1))) (hkn : k < n) (hcd : cd < 2 ^ 24) (hk1 : kC k = 1) : vx_Mi l yN_Table_takeBytes wN_Table_takeBytes ({ frames := 2, cells := 0, slots := 0, locals := 42 }) D clN (tyN cI cZ cJ) [.ref tb, .int (nI q), .int (nI k), .int (nI cd)] [(tb, .inr (8, [.ref pr, .ref su, .ref ta, .ref be, .ref nw, .ref ac, .ref en, .ref sr, .ref ro, .ref si, .ref r, .ref jo, .int (nI R), .int (zi md), .int (zi sg)])), (pr, .inr (4, [.ref pK, .ref pV, .ref pF, .ref pS, .int (nI n), .int (nI b)])), (pK, .inl (cI, 200, .inl (ni kC))), (pV, .inl (cI, 200, .inl (ni vC))), (pF, .inl (cI, 200, .inl (ni fC))), (pS, .inl (cI, 200, .inl (ni sC))), (en, .inl (cI, 64, .inl eC)), (ac, .inl (cI, 16384, .inl aC)), (sr, .inl (cI, 64, .inl (ni sor))), (ro, .inl (cI, 200, .inl ros))] (fun x w => ∃ (g9 : Bool) (aC2 : Nat → Int32) (R2 : Nat) (sor2 : Nat → Nat) (ros2 : Nat → Int32), x = zi g9 ∧ w = [(tb, .inr (8, [.ref pr, .ref su, .ref ta, .ref be, .ref nw, .ref ac, .ref en, .ref sr, .ref ro, .ref si, .ref r, .ref jo, .int (nI R2), .int (zi md), .int (zi sg)])), (pr, .inr (4, [.ref pK, .ref pV, .ref pF, .ref pS, .int (nI n), .int (nI b)])), (pK, .inl (cI, 200, .inl (ni kC))), (pV, .inl (cI, 200, .inl (ni vC))), (pF, .inl (cI, 200, .inl (ni fC))), (pS, .inl (cI, 200, .inl (ni sC))), (en, .inl (cI, 64, .inl eC)), (ac, .inl (cI, 16384, .inl aC2)), (sr, .inl (cI, 64, .inl (ni sor2))), (ro, .inl (cI, 200, .inl ros2))] ∧ WK K V F S n b0 r0 q tu c js me aC eC R sor g9 (c - 1) js sc aC2 eC R2 sor2 ros2) := by
  refine vx_startI (cc := cN_Table_takeBytes) (maxL := 11) (ret := (some .boolean)) (by decide) rfl (Nat.le_of_ble_eq_true rfl) ?_
  intro p_0 e_0 s m below meth c_0 A ls C hK hP hD hS hA hl
  obtain ⟨hx, hb, hr, hml, hown, hts, hlocks, hnm⟩ := id C
  have hown : s.vm.findClass "StepMachines$Table" = some m.cls := hown
  have ht : ∀ w ∈ TB, w.before _ s = true := fun w h => hts w (List.mem_cons_of_mem _ h)
  have hl : lv_has ls 11 [(0, .ref tb), (1, .int (nI q)), (2, .int (nI k)), (3, .int (nI cd))] := hl
  refine lv_aload_n hx hb dN_Table_takeBytes_0 rfl (lv_at hl 0 rfl) ?_
  refine lv_aload_n hx hb dN_Table_takeBytes_1 rfl (lv_at hl 0 rfl) ?_
  refine va_get (D := D) (ci := 8) (v := .ref pr) (C := RN_Table) (T := FN_Table) (N := 15) hx hb ht fN_Table hown hK hP 0 rfl rfl 0 (by decide) (ht _ mw_197) (fun _ h9 => h9) rfl dN_Table_takeBytes_2 ?_
  refine lv_iload_n hx hb dN_Table_takeBytes_5 rfl (lv_at hl 2 rfl) ?_
  refine vx_calli (wc := [(pr, .inr (4, [.ref pK, .ref pV, .ref pF, .ref pS, .int (nI n), .int (nI b)])), (pF, .inl (cI, 200, .inl (ni fC)))]) (wr := [(tb, .inr (8, [.ref pr, .ref su, .ref ta, .ref be, .ref nw, .ref ac, .ref en, .ref sr, .ref ro, .ref si, .ref r, .ref jo, .int (nI R), .int (zi md), .int (zi sg)])), (pK, .inl (cI, 200, .inl (ni kC))), (pV, .inl (cI, 200, .inl (ni vC))), (pS, .inl (cI, 200, .inl (ni sC))), (en, .inl (cI, 64, .inl eC)), (ac, .inl (cI, 16384, .inl aC)), (sr, .inl (cI, 64, .inl (ni sor))), (ro, .inl (cI, 200, .inl ros))]) [1, 4] [0, 2, 3, 5, 6, 7, 8, 9] hK hP hD hS hA rfl rfl (by decide) (by decide) (va_runV (As := [.int (nI k)]) (rest := [.ref tb]) ⟨hx, hb, hml, hown, ht⟩ (kProgram_firstOf l D cI cZ cJ pr pK pV pF pS n b fC k (by omega) (hPg.2.1) _) (⟨callB_of 1 ht (TB_in2 gN_Program_firstOf) rfl rfl rfl (ht _ mw_2) (ht _ mw_449) (by decide +kernel) ⟨Nat.le_of_ble_eq_true rfl, Nat.le_of_ble_eq_true rfl⟩, ht _ mw_450, ht _ mw_451⟩) (vx_preV [1, 4] hK hP hD (by decide) rfl (ci := 4) rfl 1 rfl) rfl rfl hl.1 rfl (lv_room (Nat.le_of_ble_eq_true rfl)) dN_Table_takeBytes_6 ⟨Nat.le_of_ble_eq_true rfl, Nat.le_of_ble_eq_true rfl⟩) (fun r1 w1 H locs hq hP hD hS => ?_)
  obtain ⟨rfl, rfl⟩ := hq
  have hP : va_P D clN [(tb, .inr (8, [.ref pr, .ref su, .ref ta, .ref be, .ref nw, .ref ac, .ref en, .ref sr, .ref ro, .ref si, .ref r, .ref jo, .int (nI R), .int (zi md), .int (zi sg)])), (pr, .inr (4, [.ref pK, .ref pV, .ref pF, .ref pS, .int (nI n), .int (nI b)])), (pK, .inl (cI, 200, .inl (ni kC))), (pV, .inl (cI, 200, .inl (ni vC))), (pF, .inl (cI, 200, .inl (ni fC))), (pS, .inl (cI, 200, .inl (ni sC))), (en, .inl (cI, 64, .inl eC)), (ac, .inl (cI, 16384, .inl aC)), (sr, .inl (cI, 64, .inl (ni sor))), (ro, .inl (cI, 200, .inl ros))] H := hP.sub [0, 8, 1, 2, 9, 3, 4, 5, 6, 7] rfl
  have hD : va_D A [(tb, .inr (8, [.ref pr, .ref su, .ref ta, .ref be, .ref nw, .ref ac, .ref en, .ref sr, .ref ro, .ref si, .ref r, .ref jo, .int (nI R), .int (zi md), .int (zi sg)])), (pr, .inr (4, [.ref pK, .ref pV, .ref pF, .ref pS, .int (nI n), .int (nI b)])), (pK, .inl (cI, 200, .inl (ni kC))), (pV, .inl (cI, 200, .inl (ni vC))), (pF, .inl (cI, 200, .inl (ni fC))), (pS, .inl (cI, 200, .inl (ni sC))), (en, .inl (cI, 64, .inl eC)), (ac, .inl (cI, 16384, .inl aC)), (sr, .inl (cI, 64, .inl (ni sor))), (ro, .inl (cI, 200, .inl ros))] := hD.sub [0, 8, 1, 2, 9, 3, 4, 5, 6, 7] (by decide) rfl
  refine vx_calli (wc := [(tb, .inr (8, [.ref pr, .ref su, .ref ta, .ref be, .ref nw, .ref ac, .ref en, .ref sr, .ref ro, .ref si, .ref r, .ref jo, .int (nI R), .int (zi md), .int (zi sg)])), (pr, .inr (4, [.ref pK, .ref pV, .ref pF, .ref pS, .int (nI n), .int (nI b)])), (sr, .inl (cI, 64, .inl (ni sor))), (ro, .inl (cI, 200, .inl ros))]) (wr := [(pK, .inl (cI, 200, .inl (ni kC))), (pV, .inl (cI, 200, .inl (ni vC))), (pF, .inl (cI, 200, .inl (ni fC))), (pS, .inl (cI, 200, .inl (ni sC))), (en, .inl (cI, 64, .inl eC)), (ac, .inl (cI, 16384, .inl aC))]) [0, 1, 8, 9] [2, 3, 4, 5, 6, 7] hK hP hD hS hA rfl rfl (by decide) (by decide) (va_runV (As := [.int (nI (fC k))]) (rest := []) ⟨hx, hb, hml, hown, ht⟩ (kTable_rowFor l D cI cZ cJ tb pr su ta be nw ac en sr ro si r jo pK pV pF pS n b R (fC k) md sg sor ros hT.1.1 (Pg_at hPg hkn (by omega) (by omega)).1 hPg.2.1 _) (⟨callB_of 1 ht (TB_in2 gN_Table_rowFor) rfl rfl rfl (ht _ mw_9) (ht _ mw_385) (by decide +kernel) ⟨Nat.le_of_ble_eq_true rfl, Nat.le_of_ble_eq_true rfl⟩, ht _ mw_387, ht _ ms_1⟩) (vx_preV [0, 1, 8, 9] hK hP hD (by decide) rfl (ci := 8) rfl 0 rfl) rfl rfl hl.1 rfl (lv_room (Nat.le_of_ble_eq_true rfl)) dN_Table_takeBytes_9 ⟨Nat.le_of_ble_eq_true rfl, Nat.le_of_ble_eq_true rfl⟩) (fun r1 w1 H locs hq hP hD hS => ?_)
  obtain ⟨R2, sor2, ros2, hRf, rfl⟩ := hq
  have hP : va_P D clN [(tb, .inr (8, [.ref pr, .ref su, .ref ta, .ref be, .ref nw, .ref ac, .ref en, .ref sr, .ref ro, .ref si, .ref r, .ref jo, .int (nI R2), .int (zi md), .int (zi sg)])), (pr, .inr (4, [.ref pK, .ref pV, .ref pF, .ref pS, .int (nI n), .int (nI b)])), (pK, .inl (cI, 200, .inl (ni kC))), (pV, .inl (cI, 200, .inl (ni vC))), (pF, .inl (cI, 200, .inl (ni fC))), (pS, .inl (cI, 200, .inl (ni sC))), (en, .inl (cI, 64, .inl eC)), (ac, .inl (cI, 16384, .inl aC)), (sr, .inl (cI, 64, .inl (ni sor2))), (ro, .inl (cI, 200, .inl ros2))] H := hP.sub [6, 7, 0, 1, 2, 3, 4, 5, 8, 9] rfl
  have hD : va_D A [(tb, .inr (8, [.ref pr, .ref su, .ref ta, .ref be, .ref nw, .ref ac, .ref en, .ref sr, .ref ro, .ref si, .ref r, .ref jo, .int (nI R2), .int (zi md), .int (zi sg)])), (pr, .inr (4, [.ref pK, .ref pV, .ref pF, .ref pS, .int (nI n), .int (nI b)])), (pK, .inl (cI, 200, .inl (ni kC))), (pV, .inl (cI, 200, .inl (ni vC))), (pF, .inl (cI, 200, .inl (ni fC))), (pS, .inl (cI, 200, .inl (ni sC))), (en, .inl (cI, 64, .inl eC)), (ac, .inl (cI, 16384, .inl aC)), (sr, .inl (cI, 64, .inl (ni sor2))), (ro, .inl (cI, 200, .inl ros2))] := hD.sub [6, 7, 0, 1, 2, 3, 4, 5, 8, 9] (by decide) rfl
  refine lv_istore (lv' := [(4, .int r1), (0, .ref tb), (1, .int (nI q)), (2, .int (nI k)), (3, .int (nI cd))]) hx hb dN_Table_takeBytes_12 hl (by decide) rfl (fun ls hl => ?_)
  refine lv_iload hx hb dN_Table_takeBytes_14 (lv_at hl 0 rfl) ?_
  refine lv_iconst (v := (-1)) hx hb dN_Table_takeBytes_16 (by decide) ?_
  refine lv_icmp_ne (tgt := 22) hx hb dN_Table_takeBytes_17 (by decide) (fun c_18_0 => ?_) (fun c_18_0 => ?_)
  · skip
    obtain ⟨i9, hi9, hx9⟩ := RfR_some hRf c_18_0
    subst hx9
    refine vx_join (α := Nat) (fun o9 => o9 = (if eC q = -1 then 0 else 64)) (fun o9 => F0 m 38 ls [.int (nI o9)]) (fun o9 ho9 => ?_) (fun Jo9 => ?_)
    · skip
      have ho8 : o9 = 0 ∨ o9 = 64 := by rw [ho9]; split <;> omega
      refine lv_istore (lv' := [(5, .int (nI o9)), (4, .int (nI i9)), (0, .ref tb), (1, .int (nI q)), (2, .int (nI k)), (3, .int (nI cd))]) hx hb dN_Table_takeBytes_38 hl (by decide) rfl (fun ls hl => ?_)
      refine lv_iload_n hx hb dN_Table_takeBytes_40 rfl (lv_at hl 5 rfl) ?_
      refine lv_bipush (v := (nI 7)) hx hb dN_Table_takeBytes_41 (by decide) ?_
      refine lv_ishl hx hb dN_Table_takeBytes_43 ?_
      refine xn_top (y := (nI (cd * 128))) (shlI (r := 7) (by omega) (by omega)) ?_
      refine lv_iload hx hb dN_Table_takeBytes_44 (lv_at hl 0 rfl) ?_
      refine lv_ior hx hb dN_Table_takeBytes_46 ?_
      refine lv_iload hx hb dN_Table_takeBytes_47 (lv_at hl 1 rfl) ?_
      refine lv_ior hx hb dN_Table_takeBytes_49 ?_
      refine xn_top (y := (nI (acN cd o9 i9))) (acI hcd ho8 hi9) ?_
      refine lv_istore (lv' := [(6, .int (nI (acN cd o9 i9))), (5, .int (nI o9)), (4, .int (nI i9)), (0, .ref tb), (1, .int (nI q)), (2, .int (nI k)), (3, .int (nI cd))]) hx hb dN_Table_takeBytes_50 hl (by decide) rfl (fun ls hl => ?_)
      have hvk := Pg_1 hPg hkn hk1
      have hvV : vC k = V k := hvk.2.1
      refine lv_aload_n hx hb dN_Table_takeBytes_52 rfl (lv_at hl 3 rfl) ?_
      refine va_get (D := D) (ci := 8) (v := .ref pr) (C := RN_Table) (T := FN_Table) (N := 15) hx hb ht fN_Table hown hK hP 0 rfl rfl 0 (by decide) (ht _ mw_197) (fun _ h9 => h9) rfl dN_Table_takeBytes_53 ?_
      refine lv_iload_n hx hb dN_Table_takeBytes_56 rfl (lv_at hl 5 rfl) ?_
      refine vx_calli (wc := [(pr, .inr (4, [.ref pK, .ref pV, .ref pF, .ref pS, .int (nI n), .int (nI b)])), (pV, .inl (cI, 200, .inl (ni vC)))]) (wr := [(tb, .inr (8, [.ref pr, .ref su, .ref ta, .ref be, .ref nw, .ref ac, .ref en, .ref sr, .ref ro, .ref si, .ref r, .ref jo, .int (nI R2), .int (zi md), .int (zi sg)])), (pK, .inl (cI, 200, .inl (ni kC))), (pF, .inl (cI, 200, .inl (ni fC))), (pS, .inl (cI, 200, .inl (ni sC))), (en, .inl (cI, 64, .inl eC)), (ac, .inl (cI, 16384, .inl aC)), (sr, .inl (cI, 64, .inl (ni sor2))), (ro, .inl (cI, 200, .inl ros2))]) [1, 3] [0, 2, 4, 5, 6, 7, 8, 9] hK hP hD hS hA rfl rfl (by decide) (by decide) (va_runV (As := [.int (nI k)]) (rest := []) ⟨hx, hb, hml, hown, ht⟩ (kProgram_valueOf l D cI cZ cJ pr pK pV pF pS n b vC k (hkn) (hPg.2.1) _) (⟨callB_of 1 ht (TB_in2 gN_Program_valueOf) rfl rfl rfl (ht _ mw_2) (ht _ mw_436) (by decide +kernel) ⟨Nat.le_of_ble_eq_true rfl, Nat.le_of_ble_eq_true rfl⟩, ht _ mw_437, ht _ mw_438⟩) (vx_preV [1, 3] hK hP hD (by decide) rfl (ci := 4) rfl 1 rfl) rfl rfl hl.1 rfl (lv_room (Nat.le_of_ble_eq_true rfl)) dN_Table_takeBytes_57 ⟨Nat.le_of_ble_eq_true rfl, Nat.le_of_ble_eq_true rfl⟩) (fun r1 w1 H locs hq hP hD hS => ?_)
      obtain ⟨rfl, rfl⟩ := hq
      have hP : va_P D clN [(tb, .inr (8, [.ref pr, .ref su, .ref ta, .ref be, .ref nw, .ref ac, .ref en, .ref sr, .ref ro, .ref si, .ref r, .ref jo, .int (nI R2), .int (zi md), .int (zi sg)])), (pr, .inr (4, [.ref pK, .ref pV, .ref pF, .ref pS, .int (nI n), .int (nI b)])), (pK, .inl (cI, 200, .inl (ni kC))), (pV, .inl (cI, 200, .inl (ni vC))), (pF, .inl (cI, 200, .inl (ni fC))), (pS, .inl (cI, 200, .inl (ni sC))), (en, .inl (cI, 64, .inl eC)), (ac, .inl (cI, 16384, .inl aC)), (sr, .inl (cI, 64, .inl (ni sor2))), (ro, .inl (cI, 200, .inl ros2))] H := hP.sub [0, 8, 1, 9, 2, 3, 4, 5, 6, 7] rfl
      have hD : va_D A [(tb, .inr (8, [.ref pr, .ref su, .ref ta, .ref be, .ref nw, .ref ac, .ref en, .ref sr, .ref ro, .ref si, .ref r, .ref jo, .int (nI R2), .int (zi md), .int (zi sg)])), (pr, .inr (4, [.ref pK, .ref pV, .ref pF, .ref pS, .int (nI n), .int (nI b)])), (pK, .inl (cI, 200, .inl (ni kC))), (pV, .inl (cI, 200, .inl (ni vC))), (pF, .inl (cI, 200, .inl (ni fC))), (pS, .inl (cI, 200, .inl (ni sC))), (en, .inl (cI, 64, .inl eC)), (ac, .inl (cI, 16384, .inl aC)), (sr, .inl (cI, 64, .inl (ni sor2))), (ro, .inl (cI, 200, .inl ros2))] := hD.sub [0, 8, 1, 9, 2, 3, 4, 5, 6, 7] (by decide) rfl
      refine lv_sipush (v := (nI 256)) hx hb dN_Table_takeBytes_60 (by decide) ?_
      refine xn_div hx hb dN_Table_takeBytes_63 (by omega) (by omega) (by omega) ?_
      refine xn_top (y := (nI (V k / 256))) (by rw [hvV]) ?_
      refine lv_istore (lv' := [(7, .int (nI (V k / 256))), (6, .int (nI (acN cd o9 i9))), (5, .int (nI o9)), (4, .int (nI i9)), (0, .ref tb), (1, .int (nI q)), (2, .int (nI k)), (3, .int (nI cd))]) hx hb dN_Table_takeBytes_64 hl (by decide) rfl (fun ls hl => ?_)
      refine lv_aload_n hx hb dN_Table_takeBytes_66 rfl (lv_at hl 4 rfl) ?_
      refine va_get (D := D) (ci := 8) (v := .ref pr) (C := RN_Table) (T := FN_Table) (N := 15) hx hb ht fN_Table hown hK hP 0 rfl rfl 0 (by decide) (ht _ mw_197) (fun _ h9 => h9) rfl dN_Table_takeBytes_67 ?_
      refine lv_iload_n hx hb dN_Table_takeBytes_70 rfl (lv_at hl 6 rfl) ?_
      refine vx_calli (wc := [(pr, .inr (4, [.ref pK, .ref pV, .ref pF, .ref pS, .int (nI n), .int (nI b)])), (pV, .inl (cI, 200, .inl (ni vC)))]) (wr := [(tb, .inr (8, [.ref pr, .ref su, .ref ta, .ref be, .ref nw, .ref ac, .ref en, .ref sr, .ref ro, .ref si, .ref r, .ref jo, .int (nI R2), .int (zi md), .int (zi sg)])), (pK, .inl (cI, 200, .inl (ni kC))), (pF, .inl (cI, 200, .inl (ni fC))), (pS, .inl (cI, 200, .inl (ni sC))), (en, .inl (cI, 64, .inl eC)), (ac, .inl (cI, 16384, .inl aC)), (sr, .inl (cI, 64, .inl (ni sor2))), (ro, .inl (cI, 200, .inl ros2))]) [1, 3] [0, 2, 4, 5, 6, 7, 8, 9] hK hP hD hS hA rfl rfl (by decide) (by decide) (va_runV (As := [.int (nI k)]) (rest := []) ⟨hx, hb, hml, hown, ht⟩ (kProgram_valueOf l D cI cZ cJ pr pK pV pF pS n b vC k (hkn) (hPg.2.1) _) (⟨callB_of 1 ht (TB_in2 gN_Program_valueOf) rfl rfl rfl (ht _ mw_2) (ht _ mw_436) (by decide +kernel) ⟨Nat.le_of_ble_eq_true rfl, Nat.le_of_ble_eq_true rfl⟩, ht _ mw_437, ht _ mw_438⟩) (vx_preV [1, 3] hK hP hD (by decide) rfl (ci := 4) rfl 1 rfl) rfl rfl hl.1 rfl (lv_room (Nat.le_of_ble_eq_true rfl)) dN_Table_takeBytes_71 ⟨Nat.le_of_ble_eq_true rfl, Nat.le_of_ble_eq_true rfl⟩) (fun r1 w1 H locs hq hP hD hS => ?_)
      obtain ⟨rfl, rfl⟩ := hq
      have hP : va_P D clN [(tb, .inr (8, [.ref pr, .ref su, .ref ta, .ref be, .ref nw, .ref ac, .ref en, .ref sr, .ref ro, .ref si, .ref r, .ref jo, .int (nI R2), .int (zi md), .int (zi sg)])), (pr, .inr (4, [.ref pK, .ref pV, .ref pF, .ref pS, .int (nI n), .int (nI b)])), (pK, .inl (cI, 200, .inl (ni kC))), (pV, .inl (cI, 200, .inl (ni vC))), (pF, .inl (cI, 200, .inl (ni fC))), (pS, .inl (cI, 200, .inl (ni sC))), (en, .inl (cI, 64, .inl eC)), (ac, .inl (cI, 16384, .inl aC)), (sr, .inl (cI, 64, .inl (ni sor2))), (ro, .inl (cI, 200, .inl ros2))] H := hP.sub [0, 8, 1, 9, 2, 3, 4, 5, 6, 7] rfl
      have hD : va_D A [(tb, .inr (8, [.ref pr, .ref su, .ref ta, .ref be, .ref nw, .ref ac, .ref en, .ref sr, .ref ro, .ref si, .ref r, .ref jo, .int (nI R2), .int (zi md), .int (zi sg)])), (pr, .inr (4, [.ref pK, .ref pV, .ref pF, .ref pS, .int (nI n), .int (nI b)])), (pK, .inl (cI, 200, .inl (ni kC))), (pV, .inl (cI, 200, .inl (ni vC))), (pF, .inl (cI, 200, .inl (ni fC))), (pS, .inl (cI, 200, .inl (ni sC))), (en, .inl (cI, 64, .inl eC)), (ac, .inl (cI, 16384, .inl aC)), (sr, .inl (cI, 64, .inl (ni sor2))), (ro, .inl (cI, 200, .inl ros2))] := hD.sub [0, 8, 1, 9, 2, 3, 4, 5, 6, 7] (by decide) rfl
      refine lv_sipush (v := (nI 256)) hx hb dN_Table_takeBytes_74 (by decide) ?_
      refine xn_rem hx hb dN_Table_takeBytes_77 (by omega) (by omega) (by omega) ?_
      refine xn_top (y := (nI (V k % 256))) (by rw [hvV]) ?_
      refine lv_istore (lv' := [(8, .int (nI (V k % 256))), (7, .int (nI (V k / 256))), (6, .int (nI (acN cd o9 i9))), (5, .int (nI o9)), (4, .int (nI i9)), (0, .ref tb), (1, .int (nI q)), (2, .int (nI k)), (3, .int (nI cd))]) hx hb dN_Table_takeBytes_78 hl (by decide) rfl (fun ls hl => ?_)
      refine lv_iconst (v := (nI 0)) hx hb dN_Table_takeBytes_80 (by decide) ?_
      refine lv_iload hx hb dN_Table_takeBytes_81 (lv_at hl 1 rfl) ?_
      refine va_mmax hx hb (by rw [hml]; exact hl.1.symm) hown (ht _ mw_453) (ht _ mw_454) (ht _ mw_19) (ht _ mw_455) (Nat.le_of_ble_eq_true rfl) (Nat.le_of_ble_eq_true rfl) (Nat.le_of_ble_eq_true rfl) (Nat.le_of_ble_eq_true rfl) dN_Table_takeBytes_83 ?_
      refine xn_top (y := (nI (V k / 256))) (mx0I (by omega)) ?_
      have hP : va_P D clN [(tb, .inr (8, [.ref pr, .ref su, .ref ta, .ref be, .ref nw, .ref ac, .ref en, .ref sr, .ref ro, .ref si, .ref r, .ref jo, .int (nI R2), .int (zi md), .int (zi sg)])), (pr, .inr (4, [.ref pK, .ref pV, .ref pF, .ref pS, .int (nI n), .int (nI b)])), (pK, .inl (cI, 200, .inl (ni kC))), (pV, .inl (cI, 200, .inl (ni vC))), (pF, .inl (cI, 200, .inl (ni fC))), (pS, .inl (cI, 200, .inl (ni sC))), (en, .inl (cI, 64, .inl eC)), (ac, .inl (cI, 16384, .inl ((tbA aC q (V k / 256) (V k % 256) (nI (acN cd o9 i9)) (V k / 256))))), (sr, .inl (cI, 64, .inl (ni sor2))), (ro, .inl (cI, 200, .inl ros2))] _ := xP_fn (q := 7) (g := (tbA aC q (V k / 256) (V k % 256) (nI (acN cd o9 i9)) (V k / 256))) hP rfl (fun j _ => congrFun (((tbA_0 aC q (V k / 256) (V k % 256) (nI (acN cd o9 i9))).symm.trans (tbA_up (m2 := V k / 256) aC q (V k / 256) (V k % 256) (nI (acN cd o9 i9)) 0 (Nat.zero_le _) (fun b h1 h2 => by omega)))) j)
      have hD : va_D A [(tb, .inr (8, [.ref pr, .ref su, .ref ta, .ref be, .ref nw, .ref ac, .ref en, .ref sr, .ref ro, .ref si, .ref r, .ref jo, .int (nI R2), .int (zi md), .int (zi sg)])), (pr, .inr (4, [.ref pK, .ref pV, .ref pF, .ref pS, .int (nI n), .int (nI b)])), (pK, .inl (cI, 200, .inl (ni kC))), (pV, .inl (cI, 200, .inl (ni vC))), (pF, .inl (cI, 200, .inl (ni fC))), (pS, .inl (cI, 200, .inl (ni sC))), (en, .inl (cI, 64, .inl eC)), (ac, .inl (cI, 16384, .inl ((tbA aC q (V k / 256) (V k % 256) (nI (acN cd o9 i9)) (V k / 256))))), (sr, .inl (cI, 64, .inl (ni sor2))), (ro, .inl (cI, 200, .inl ros2))] := xD_fn (q := 7) hD rfl
      refine lv_istore (lv' := [(9, .int (nI (V k / 256))), (8, .int (nI (V k % 256))), (7, .int (nI (V k / 256))), (6, .int (nI (acN cd o9 i9))), (5, .int (nI o9)), (4, .int (nI i9)), (0, .ref tb), (1, .int (nI q)), (2, .int (nI k)), (3, .int (nI cd))]) hx hb dN_Table_takeBytes_86 hl (by decide) rfl (fun ls hl => ?_)
      refine vx_loop (α := Nat) (fun (vv : Nat) (H : Heap) (locs : List Loc) (ls : Array Slot) => match vv with | (b9) => va_P D clN [(tb, .inr (8, [.ref pr, .ref su, .ref ta, .ref be, .ref nw, .ref ac, .ref en, .ref sr, .ref ro, .ref si, .ref r, .ref jo, .int (nI R2), .int (zi md), .int (zi sg)])), (pr, .inr (4, [.ref pK, .ref pV, .ref pF, .ref pS, .int (nI n), .int (nI b)])), (pK, .inl (cI, 200, .inl (ni kC))), (pV, .inl (cI, 200, .inl (ni vC))), (pF, .inl (cI, 200, .inl (ni fC))), (pS, .inl (cI, 200, .inl (ni sC))), (en, .inl (cI, 64, .inl eC)), (ac, .inl (cI, 16384, .inl ((tbA aC q (V k / 256) (V k % 256) (nI (acN cd o9 i9)) b9)))), (sr, .inl (cI, 64, .inl (ni sor2))), (ro, .inl (cI, 200, .inl ros2))] H ∧ va_D A [(tb, .inr (8, [.ref pr, .ref su, .ref ta, .ref be, .ref nw, .ref ac, .ref en, .ref sr, .ref ro, .ref si, .ref r, .ref jo, .int (nI R2), .int (zi md), .int (zi sg)])), (pr, .inr (4, [.ref pK, .ref pV, .ref pF, .ref pS, .int (nI n), .int (nI b)])), (pK, .inl (cI, 200, .inl (ni kC))), (pV, .inl (cI, 200, .inl (ni vC))), (pF, .inl (cI, 200, .inl (ni fC))), (pS, .inl (cI, 200, .inl (ni sC))), (en, .inl (cI, 64, .inl eC)), (ac, .inl (cI, 16384, .inl ((tbA aC q (V k / 256) (V k % 256) (nI (acN cd o9 i9)) b9)))), (sr, .inl (cI, 64, .inl (ni sor2))), (ro, .inl (cI, 200, .inl ros2))] ∧ va_S A s.heap H locs ∧ lv_has ls 11 [(0, .ref tb), (1, .int (nI q)), (2, .int (nI k)), (6, .int (nI (acN cd o9 i9))), (8, .int (nI (V k % 256))), (9, .int (nI b9))] ∧ (b9 ≤ 256 ∧ V k / 256 ≤ b9 ∧ ∀ b, b < b9 → V k / 256 ≤ b ∧ b ≤ V k % 256 → aC (q * 256 + b) = -1 ∨ aC (q * 256 + b) = nI (acN cd o9 i9))) (fun (vv : Nat) => match vv with | (b9) => 256 - b9) 88 [] ?_ (V k / 256) ⟨hP, hD, hS, lv_sub hl [6, 7, 8, 3, 1, 0] rfl, ⟨by omega, Nat.le_refl _, fun b h h2 => absurd h (by omega)⟩⟩
      intro vv H locs ls hq ih_88_1
      obtain ⟨b9, rfl⟩ : ∃ z, z = vv := ⟨_, rfl⟩
      obtain ⟨hP, hD, hS, hl, hI⟩ := hq
      obtain ⟨hb9, hb8, hcf⟩ := hI
      refine lv_iload hx hb dN_Table_takeBytes_88 (lv_at hl 5 rfl) ?_
      refine lv_sipush (v := (nI 256)) hx hb dN_Table_takeBytes_90 (by decide) ?_
      refine xn_ge (tgt := 153) hx hb dN_Table_takeBytes_93 (by decide) (by omega) (by omega) (fun c_61_2 => ?_) (fun c_61_2 => ?_)
      · skip
        refine lv_iconst (v := (nI 1)) hx hb dN_Table_takeBytes_153 (by decide) ?_
        refine xn_top (y := zi true) rfl ?_
        exact vx_zret C hK hP hD hS dN_Table_takeBytes_154 (Nat.le_of_ble_eq_true rfl) (Nat.le_of_ble_eq_true rfl) (zi_nar2 _) (⟨true, _, _, _, _, rfl, by rw [tbA_up (m2 := 256) aC q (V k / 256) (V k % 256) (nI (acN cd o9 i9)) b9 (by omega) (fun b h1 h2 => by omega)], by subst ek; subst ecd; exact WK_take hPg hT hc hm hk1 hRf hi9 (by rw [ho9]) (fun b h1 h2 => hcf b (by omega) h2)⟩)
      · skip
        refine lv_iload hx hb dN_Table_takeBytes_96 (lv_at hl 5 rfl) ?_
        refine lv_iload hx hb dN_Table_takeBytes_98 (lv_at hl 4 rfl) ?_
        refine xn_gt (tgt := 153) hx hb dN_Table_takeBytes_100 (by decide) (by omega) (by omega) (fun c_10100_3 => ?_) (fun c_10100_3 => ?_)
        · skip
          refine lv_iconst (v := (nI 1)) hx hb dN_Table_takeBytes_153 (by decide) ?_
          refine xn_top (y := zi true) rfl ?_
          exact vx_zret C hK hP hD hS dN_Table_takeBytes_154 (Nat.le_of_ble_eq_true rfl) (Nat.le_of_ble_eq_true rfl) (zi_nar2 _) (⟨true, _, _, _, _, rfl, by rw [tbA_up (m2 := 256) aC q (V k / 256) (V k % 256) (nI (acN cd o9 i9)) b9 (by omega) (fun b h1 h2 => by omega)], by subst ek; subst ecd; exact WK_take hPg hT hc hm hk1 hRf hi9 (by rw [ho9]) (fun b h1 h2 => hcf b (by omega) h2)⟩)
        · skip
          refine lv_iload_n hx hb dN_Table_takeBytes_103 rfl (lv_at hl 1 rfl) ?_
          refine lv_sipush (v := (nI 256)) hx hb dN_Table_takeBytes_104 (by decide) ?_
          refine xn_mul hx hb dN_Table_takeBytes_107 ?_
          refine lv_iload hx hb dN_Table_takeBytes_108 (lv_at hl 5 rfl) ?_
          refine xn_add hx hb dN_Table_takeBytes_110 ?_
          refine lv_istore (lv' := [(10, .int (nI ((q * 256) + b9))), (0, .ref tb), (1, .int (nI q)), (2, .int (nI k)), (6, .int (nI (acN cd o9 i9))), (8, .int (nI (V k % 256))), (9, .int (nI b9))]) hx hb dN_Table_takeBytes_111 hl (by decide) rfl (fun ls hl => ?_)
          refine lv_aload_n hx hb dN_Table_takeBytes_113 rfl (lv_at hl 1 rfl) ?_
          refine va_get (D := D) (ci := 8) (v := .ref ac) (C := RN_Table) (T := FN_Table) (N := 15) hx hb ht fN_Table hown hK hP 0 rfl rfl 5 (by decide) (ht _ mw_202) (fun _ h9 => h9) rfl dN_Table_takeBytes_114 ?_
          refine lv_iload hx hb dN_Table_takeBytes_117 (lv_at hl 0 rfl) ?_
          refine xi_ald hx hb hK hP 7 0 rfl rfl dN_Table_takeBytes_119 (by omega) (by omega) ?_
          refine lv_iconst (v := (-1)) hx hb dN_Table_takeBytes_120 (by decide) ?_
          refine lv_icmp_eq (tgt := 138) hx hb dN_Table_takeBytes_121 (by decide) (fun c_95_4 => ?_) (fun c_95_4 => ?_)
          · skip
            refine lv_aload_n hx hb dN_Table_takeBytes_138 rfl (lv_at hl 1 rfl) ?_
            refine va_get (D := D) (ci := 8) (v := .ref ac) (C := RN_Table) (T := FN_Table) (N := 15) hx hb ht fN_Table hown hK hP 0 rfl rfl 5 (by decide) (ht _ mw_202) (fun _ h9 => h9) rfl dN_Table_takeBytes_139 ?_
            refine lv_iload hx hb dN_Table_takeBytes_142 (lv_at hl 0 rfl) ?_
            refine lv_iload hx hb dN_Table_takeBytes_144 (lv_at hl 4 rfl) ?_
            refine xi_ast hx hb hK hP hD hS 7 0 rfl rfl dN_Table_takeBytes_146 (by omega) (by omega) (fun H locs hP hD hS => ?_)
            have hP : va_P D clN [(tb, .inr (8, [.ref pr, .ref su, .ref ta, .ref be, .ref nw, .ref ac, .ref en, .ref sr, .ref ro, .ref si, .ref r, .ref jo, .int (nI R2), .int (zi md), .int (zi sg)])), (pr, .inr (4, [.ref pK, .ref pV, .ref pF, .ref pS, .int (nI n), .int (nI b)])), (pK, .inl (cI, 200, .inl (ni kC))), (pV, .inl (cI, 200, .inl (ni vC))), (pF, .inl (cI, 200, .inl (ni fC))), (pS, .inl (cI, 200, .inl (ni sC))), (en, .inl (cI, 64, .inl eC)), (ac, .inl (cI, 16384, .inl ((upd (tbA aC q (V k / 256) (V k % 256) (nI (acN cd o9 i9)) b9) ((q * 256) + b9) (nI (acN cd o9 i9)))))), (sr, .inl (cI, 64, .inl (ni sor2))), (ro, .inl (cI, 200, .inl ros2))] H := hP
            have hD : va_D A [(tb, .inr (8, [.ref pr, .ref su, .ref ta, .ref be, .ref nw, .ref ac, .ref en, .ref sr, .ref ro, .ref si, .ref r, .ref jo, .int (nI R2), .int (zi md), .int (zi sg)])), (pr, .inr (4, [.ref pK, .ref pV, .ref pF, .ref pS, .int (nI n), .int (nI b)])), (pK, .inl (cI, 200, .inl (ni kC))), (pV, .inl (cI, 200, .inl (ni vC))), (pF, .inl (cI, 200, .inl (ni fC))), (pS, .inl (cI, 200, .inl (ni sC))), (en, .inl (cI, 64, .inl eC)), (ac, .inl (cI, 16384, .inl ((upd (tbA aC q (V k / 256) (V k % 256) (nI (acN cd o9 i9)) b9) ((q * 256) + b9) (nI (acN cd o9 i9)))))), (sr, .inl (cI, 64, .inl (ni sor2))), (ro, .inl (cI, 200, .inl ros2))] := hD
            have hP : va_P D clN [(tb, .inr (8, [.ref pr, .ref su, .ref ta, .ref be, .ref nw, .ref ac, .ref en, .ref sr, .ref ro, .ref si, .ref r, .ref jo, .int (nI R2), .int (zi md), .int (zi sg)])), (pr, .inr (4, [.ref pK, .ref pV, .ref pF, .ref pS, .int (nI n), .int (nI b)])), (pK, .inl (cI, 200, .inl (ni kC))), (pV, .inl (cI, 200, .inl (ni vC))), (pF, .inl (cI, 200, .inl (ni fC))), (pS, .inl (cI, 200, .inl (ni sC))), (en, .inl (cI, 64, .inl eC)), (ac, .inl (cI, 16384, .inl ((tbA aC q (V k / 256) (V k % 256) (nI (acN cd o9 i9)) (b9 + 1))))), (sr, .inl (cI, 64, .inl (ni sor2))), (ro, .inl (cI, 200, .inl ros2))] _ := xP_fn (q := 7) (g := (tbA aC q (V k / 256) (V k % 256) (nI (acN cd o9 i9)) (b9 + 1))) hP rfl (fun j _ => congrFun ((tbA_yes _ _ _ _ _ _ ⟨hb8, by omega⟩)) j)
            have hD : va_D A [(tb, .inr (8, [.ref pr, .ref su, .ref ta, .ref be, .ref nw, .ref ac, .ref en, .ref sr, .ref ro, .ref si, .ref r, .ref jo, .int (nI R2), .int (zi md), .int (zi sg)])), (pr, .inr (4, [.ref pK, .ref pV, .ref pF, .ref pS, .int (nI n), .int (nI b)])), (pK, .inl (cI, 200, .inl (ni kC))), (pV, .inl (cI, 200, .inl (ni vC))), (pF, .inl (cI, 200, .inl (ni fC))), (pS, .inl (cI, 200, .inl (ni sC))), (en, .inl (cI, 64, .inl eC)), (ac, .inl (cI, 16384, .inl ((tbA aC q (V k / 256) (V k % 256) (nI (acN cd o9 i9)) (b9 + 1))))), (sr, .inl (cI, 64, .inl (ni sor2))), (ro, .inl (cI, 200, .inl ros2))] := xD_fn (q := 7) hD rfl
            refine lv_iinc (v := (nI (b9 + 1))) (lv' := [(9, .int (nI (b9 + 1))), (10, .int (nI ((q * 256) + b9))), (0, .ref tb), (1, .int (nI q)), (2, .int (nI k)), (6, .int (nI (acN cd o9 i9))), (8, .int (nI (V k % 256)))]) hx hb dN_Table_takeBytes_147 hl (k := 6) rfl (nI_1 _) (by decide) rfl (fun ls hl => ?_)
            refine lv_goto (tgt := 88) hx hb dN_Table_takeBytes_150 (by decide) ?_
            exact ih_88_1 (b9 + 1) _ _ _ ⟨hP, hD, hS, lv_sub hl [2, 3, 4, 5, 6, 0] rfl, ⟨by omega, by omega, fun b h1 h2 => by rcases Nat.lt_succ_iff_lt_or_eq.mp h1 with h3 | h3; (exact hcf b h3 h2); (subst h3; rw [tbA_un _ _ _ _ _ _ _ (Nat.le_refl _)] at c_95_4; exact Or.inl c_95_4)⟩⟩ (show (256 - (b9 + 1)) < (256 - b9) from by omega)
          · skip
            refine lv_aload_n hx hb dN_Table_takeBytes_124 rfl (lv_at hl 1 rfl) ?_
            refine va_get (D := D) (ci := 8) (v := .ref ac) (C := RN_Table) (T := FN_Table) (N := 15) hx hb ht fN_Table hown hK hP 0 rfl rfl 5 (by decide) (ht _ mw_202) (fun _ h9 => h9) rfl dN_Table_takeBytes_125 ?_
            refine lv_iload hx hb dN_Table_takeBytes_128 (lv_at hl 0 rfl) ?_
            refine xi_ald hx hb hK hP 7 0 rfl rfl dN_Table_takeBytes_130 (by omega) (by omega) ?_
            refine lv_iload hx hb dN_Table_takeBytes_131 (lv_at hl 4 rfl) ?_
            refine lv_icmp_eq (tgt := 138) hx hb dN_Table_takeBytes_133 (by decide) (fun c_107_5 => ?_) (fun c_107_5 => ?_)
            · skip
              refine lv_aload_n hx hb dN_Table_takeBytes_138 rfl (lv_at hl 1 rfl) ?_
              refine va_get (D := D) (ci := 8) (v := .ref ac) (C := RN_Table) (T := FN_Table) (N := 15) hx hb ht fN_Table hown hK hP 0 rfl rfl 5 (by decide) (ht _ mw_202) (fun _ h9 => h9) rfl dN_Table_takeBytes_139 ?_
              refine lv_iload hx hb dN_Table_takeBytes_142 (lv_at hl 0 rfl) ?_
              refine lv_iload hx hb dN_Table_takeBytes_144 (lv_at hl 4 rfl) ?_
              refine xi_ast hx hb hK hP hD hS 7 0 rfl rfl dN_Table_takeBytes_146 (by omega) (by omega) (fun H locs hP hD hS => ?_)
              have hP : va_P D clN [(tb, .inr (8, [.ref pr, .ref su, .ref ta, .ref be, .ref nw, .ref ac, .ref en, .ref sr, .ref ro, .ref si, .ref r, .ref jo, .int (nI R2), .int (zi md), .int (zi sg)])), (pr, .inr (4, [.ref pK, .ref pV, .ref pF, .ref pS, .int (nI n), .int (nI b)])), (pK, .inl (cI, 200, .inl (ni kC))), (pV, .inl (cI, 200, .inl (ni vC))), (pF, .inl (cI, 200, .inl (ni fC))), (pS, .inl (cI, 200, .inl (ni sC))), (en, .inl (cI, 64, .inl eC)), (ac, .inl (cI, 16384, .inl ((upd (tbA aC q (V k / 256) (V k % 256) (nI (acN cd o9 i9)) b9) ((q * 256) + b9) (nI (acN cd o9 i9)))))), (sr, .inl (cI, 64, .inl (ni sor2))), (ro, .inl (cI, 200, .inl ros2))] H := hP
              have hD : va_D A [(tb, .inr (8, [.ref pr, .ref su, .ref ta, .ref be, .ref nw, .ref ac, .ref en, .ref sr, .ref ro, .ref si, .ref r, .ref jo, .int (nI R2), .int (zi md), .int (zi sg)])), (pr, .inr (4, [.ref pK, .ref pV, .ref pF, .ref pS, .int (nI n), .int (nI b)])), (pK, .inl (cI, 200, .inl (ni kC))), (pV, .inl (cI, 200, .inl (ni vC))), (pF, .inl (cI, 200, .inl (ni fC))), (pS, .inl (cI, 200, .inl (ni sC))), (en, .inl (cI, 64, .inl eC)), (ac, .inl (cI, 16384, .inl ((upd (tbA aC q (V k / 256) (V k % 256) (nI (acN cd o9 i9)) b9) ((q * 256) + b9) (nI (acN cd o9 i9)))))), (sr, .inl (cI, 64, .inl (ni sor2))), (ro, .inl (cI, 200, .inl ros2))] := hD
              have hP : va_P D clN [(tb, .inr (8, [.ref pr, .ref su, .ref ta, .ref be, .ref nw, .ref ac, .ref en, .ref sr, .ref ro, .ref si, .ref r, .ref jo, .int (nI R2), .int (zi md), .int (zi sg)])), (pr, .inr (4, [.ref pK, .ref pV, .ref pF, .ref pS, .int (nI n), .int (nI b)])), (pK, .inl (cI, 200, .inl (ni kC))), (pV, .inl (cI, 200, .inl (ni vC))), (pF, .inl (cI, 200, .inl (ni fC))), (pS, .inl (cI, 200, .inl (ni sC))), (en, .inl (cI, 64, .inl eC)), (ac, .inl (cI, 16384, .inl ((tbA aC q (V k / 256) (V k % 256) (nI (acN cd o9 i9)) (b9 + 1))))), (sr, .inl (cI, 64, .inl (ni sor2))), (ro, .inl (cI, 200, .inl ros2))] _ := xP_fn (q := 7) (g := (tbA aC q (V k / 256) (V k % 256) (nI (acN cd o9 i9)) (b9 + 1))) hP rfl (fun j _ => congrFun ((tbA_yes _ _ _ _ _ _ ⟨hb8, by omega⟩)) j)
              have hD : va_D A [(tb, .inr (8, [.ref pr, .ref su, .ref ta, .ref be, .ref nw, .ref ac, .ref en, .ref sr, .ref ro, .ref si, .ref r, .ref jo, .int (nI R2), .int (zi md), .int (zi sg)])), (pr, .inr (4, [.ref pK, .ref pV, .ref pF, .ref pS, .int (nI n), .int (nI b)])), (pK, .inl (cI, 200, .inl (ni kC))), (pV, .inl (cI, 200, .inl (ni vC))), (pF, .inl (cI, 200, .inl (ni fC))), (pS, .inl (cI, 200, .inl (ni sC))), (en, .inl (cI, 64, .inl eC)), (ac, .inl (cI, 16384, .inl ((tbA aC q (V k / 256) (V k % 256) (nI (acN cd o9 i9)) (b9 + 1))))), (sr, .inl (cI, 64, .inl (ni sor2))), (ro, .inl (cI, 200, .inl ros2))] := xD_fn (q := 7) hD rfl
              refine lv_iinc (v := (nI (b9 + 1))) (lv' := [(9, .int (nI (b9 + 1))), (10, .int (nI ((q * 256) + b9))), (0, .ref tb), (1, .int (nI q)), (2, .int (nI k)), (6, .int (nI (acN cd o9 i9))), (8, .int (nI (V k % 256)))]) hx hb dN_Table_takeBytes_147 hl (k := 6) rfl (nI_1 _) (by decide) rfl (fun ls hl => ?_)
              refine lv_goto (tgt := 88) hx hb dN_Table_takeBytes_150 (by decide) ?_
              exact ih_88_1 (b9 + 1) _ _ _ ⟨hP, hD, hS, lv_sub hl [2, 3, 4, 5, 6, 0] rfl, ⟨by omega, by omega, fun b h1 h2 => by rcases Nat.lt_succ_iff_lt_or_eq.mp h1 with h3 | h3; (exact hcf b h3 h2); (subst h3; rw [tbA_un _ _ _ _ _ _ _ (Nat.le_refl _)] at c_107_5; exact Or.inr c_107_5)⟩⟩ (show (256 - (b9 + 1)) < (256 - b9) from by omega)
            · skip
              refine lv_iconst (v := (nI 0)) hx hb dN_Table_takeBytes_136 (by decide) ?_
              refine xn_top (y := zi false) rfl ?_
              exact vx_zret C hK hP hD hS dN_Table_takeBytes_137 (Nat.le_of_ble_eq_true rfl) (Nat.le_of_ble_eq_true rfl) (zi_nar2 _) (⟨false, _, _, _, _, rfl, rfl, by subst ek; subst ecd; exact WK_conf hPg hT hc hk1 hRf hi9 c_61_2 ⟨hb8, by omega⟩ (by rw [ho9]) c_95_4 c_107_5⟩)
    · skip
      refine lv_aload_n hx hb dN_Table_takeBytes_22 rfl (lv_at hl 1 rfl) ?_
      refine va_get (D := D) (ci := 8) (v := .ref en) (C := RN_Table) (T := FN_Table) (N := 15) hx hb ht fN_Table hown hK hP 0 rfl rfl 6 (by decide) (ht _ mw_203) (fun _ h9 => h9) rfl dN_Table_takeBytes_23 ?_
      refine lv_iload_n hx hb dN_Table_takeBytes_26 rfl (lv_at hl 2 rfl) ?_
      refine xi_ald hx hb hK hP 6 0 rfl rfl dN_Table_takeBytes_27 (by omega) (by omega) ?_
      refine lv_iconst (v := (-1)) hx hb dN_Table_takeBytes_28 (by decide) ?_
      refine lv_icmp_ne (tgt := 36) hx hb dN_Table_takeBytes_29 (by decide) (fun c_30_6 => ?_) (fun c_30_6 => ?_)
      · skip
        refine lv_bipush (v := (nI 64)) hx hb dN_Table_takeBytes_36 (by decide) ?_
        exact Jo9 (64) (by rw [if_neg c_30_6])
      · skip
        refine lv_iconst (v := (nI 0)) hx hb dN_Table_takeBytes_32 (by decide) ?_
        refine lv_goto (tgt := 38) hx hb dN_Table_takeBytes_33 (by decide) ?_
        exact Jo9 (0) (by rw [if_pos c_30_6])
  · skip
    rw [c_18_0] at hRf
    refine lv_iconst (v := (nI 0)) hx hb dN_Table_takeBytes_20 (by decide) ?_
    refine xn_top (y := zi false) rfl ?_
    exact vx_zret C hK hP hD hS dN_Table_takeBytes_21 (Nat.le_of_ble_eq_true rfl) (Nat.le_of_ble_eq_true rfl) (zi_nar2 _) (⟨false, _, _, _, _, rfl, rfl, by subst ek; subst ecd; exact WK_full hPg hT hc hk1 hRf⟩)
