set_option maxHeartbeats 4000000 in
set_option maxRecDepth 100000 in
/-- save(cd, p) -/
theorem kTable_save (l : Launch) (D : va_G) (cI cZ cJ : ClassId) (a cd p : Nat) (f : Sv) (hcd : cd < 2 ^ 24) : vx_Mv l yN_Table_save wN_Table_save ({ frames := 0, cells := 0, slots := 0, locals := 0 }) D clN (tyN cI cZ cJ) [.int (nI cd), .int (nI p), .ref a] [(a, .inl (cI, 20, .inl f))] (fun w => w = [(a, .inl (cI, 20, .inl ((svK cd p f 20))))]) := by
  refine vx_startV (cc := cN_Table_save) (maxL := 4) (ret := none) (by decide) rfl (Nat.le_of_ble_eq_true rfl) ?_
  intro p_0 e_0 s m below meth c_0 A ls C hK hP hD hS hA hl
  obtain ⟨hx, hb, hr, hml, hown, hts, hlocks, hnm⟩ := id C
  have hown : s.vm.findClass "StepMachines$Table" = some m.cls := hown
  have ht : ∀ w ∈ TB, w.before _ s = true := fun w h => hts w (List.mem_cons_of_mem _ h)
  have hl : lv_has ls 4 [(0, .int (nI cd)), (1, .int (nI p)), (2, .ref a)] := hl
  refine lv_iconst (v := (nI 2)) hx hb dN_Table_save_0 (by decide) ?_
  have hP : va_P D clN [(a, .inl (cI, 20, .inl ((svK cd p f 2))))] _ := xP_fn (q := 0) (g := (svK cd p f 2)) hP rfl (fun j _ => congrFun ((svK_2 _ _ _).symm) j)
  have hD : va_D A [(a, .inl (cI, 20, .inl ((svK cd p f 2))))] := xD_fn (q := 0) hD rfl
  refine lv_istore_n (lv' := [(3, .int (nI 2)), (0, .int (nI cd)), (1, .int (nI p)), (2, .ref a)]) hx hb dN_Table_save_1 rfl hl (by decide) rfl (fun ls hl => ?_)
  refine vx_loop (α := Nat) (fun (vv : Nat) (H : Heap) (locs : List Loc) (ls : Array Slot) => match vv with | (k) => va_P D clN [(a, .inl (cI, 20, .inl ((svK cd p f k))))] H ∧ va_D A [(a, .inl (cI, 20, .inl ((svK cd p f k))))] ∧ va_S A s.heap H locs ∧ lv_has ls 4 [(0, .int (nI cd)), (1, .int (nI p)), (2, .ref a), (3, .int (nI k))] ∧ (2 ≤ k ∧ k ≤ 20)) (fun (vv : Nat) => match vv with | (k) => 20 - k) 2 [] ?_ (2) ⟨hP, hD, hS, lv_sub hl [1, 2, 3, 0] rfl, ⟨by omega, by omega⟩⟩
  intro vv H locs ls hq ih_2_0
  obtain ⟨k, rfl⟩ : ∃ z, z = vv := ⟨_, rfl⟩
  obtain ⟨hP, hD, hS, hl, hI⟩ := hq
  obtain ⟨hk2, hk20⟩ := hI
  refine lv_iload_n hx hb dN_Table_save_2 rfl (lv_at hl 3 rfl) ?_
  refine lv_bipush (v := (nI 20)) hx hb dN_Table_save_3 (by decide) ?_
  refine xn_ge (tgt := 28) hx hb dN_Table_save_5 (by decide) (by omega) (by omega) (fun c_5_1 => ?_) (fun c_5_1 => ?_)
  · skip
    exact vx_vret C hK hP hD hS dN_Table_save_28 (Nat.le_of_ble_eq_true rfl) (Nat.le_of_ble_eq_true rfl) (by rw [show k = 20 by omega])
  · skip
    refine lv_iload_n hx hb dN_Table_save_8 rfl (lv_at hl 0 rfl) ?_
    refine lv_iload_n hx hb dN_Table_save_9 rfl (lv_at hl 3 rfl) ?_
    refine lv_iconst (v := (nI 2)) hx hb dN_Table_save_10 (by decide) ?_
    refine xn_sub hx hb dN_Table_save_11 (by omega) ?_
    refine lv_ishr hx hb dN_Table_save_12 ?_
    refine lv_iconst (v := (nI 1)) hx hb dN_Table_save_13 (by decide) ?_
    refine lv_iand hx hb dN_Table_save_14 ?_
    refine lv_if_eq (tgt := 22) hx hb dN_Table_save_15 (by decide) (fun c_15_2 => ?_) (fun c_15_2 => ?_)
    · skip
      rw [bitI (by omega) (by omega)] at c_15_2
      have hP : va_P D clN [(a, .inl (cI, 20, .inl ((svK cd p f (k + 1)))))] _ := xP_fn (q := 0) (g := (svK cd p f (k + 1))) hP rfl (fun j _ => congrFun ((svK_no c_15_2)) j)
      have hD : va_D A [(a, .inl (cI, 20, .inl ((svK cd p f (k + 1)))))] := xD_fn (q := 0) hD rfl
      refine lv_iinc (v := (nI (k + 1))) (lv' := [(3, .int (nI (k + 1))), (0, .int (nI cd)), (1, .int (nI p)), (2, .ref a)]) hx hb dN_Table_save_22 hl (k := 3) rfl (nI_1 _) (by decide) rfl (fun ls hl => ?_)
      refine lv_goto (tgt := 2) hx hb dN_Table_save_25 (by decide) ?_
      exact ih_2_0 (k + 1) _ _ _ ⟨hP, hD, hS, lv_sub hl [1, 2, 3, 0] rfl, ⟨by omega, by omega⟩⟩ (show (20 - (k + 1)) < (20 - k) from by omega)
    · skip
      rw [bitI (by omega) (by omega)] at c_15_2
      refine lv_aload_n hx hb dN_Table_save_18 rfl (lv_at hl 2 rfl) ?_
      refine lv_iload_n hx hb dN_Table_save_19 rfl (lv_at hl 3 rfl) ?_
      refine lv_iload_n hx hb dN_Table_save_20 rfl (lv_at hl 1 rfl) ?_
      refine xi_ast hx hb hK hP hD hS 0 0 rfl rfl dN_Table_save_21 (by omega) (by omega) (fun H locs hP hD hS => ?_)
      have hP : va_P D clN [(a, .inl (cI, 20, .inl ((upd (svK cd p f k) k (nI p)))))] H := hP
      have hD : va_D A [(a, .inl (cI, 20, .inl ((upd (svK cd p f k) k (nI p)))))] := hD
      have hP : va_P D clN [(a, .inl (cI, 20, .inl ((svK cd p f (k + 1)))))] _ := xP_fn (q := 0) (g := (svK cd p f (k + 1))) hP rfl (fun j _ => congrFun ((svK_yes (by simpa using c_15_2) (by omega))) j)
      have hD : va_D A [(a, .inl (cI, 20, .inl ((svK cd p f (k + 1)))))] := xD_fn (q := 0) hD rfl
      refine lv_iinc (v := (nI (k + 1))) (lv' := [(3, .int (nI (k + 1))), (0, .int (nI cd)), (1, .int (nI p)), (2, .ref a)]) hx hb dN_Table_save_22 hl (k := 3) rfl (nI_1 _) (by decide) rfl (fun ls hl => ?_)
      refine lv_goto (tgt := 2) hx hb dN_Table_save_25 (by decide) ?_
      exact ih_2_0 (k + 1) _ _ _ ⟨hP, hD, hS, lv_sub hl [1, 2, 3, 0] rfl, ⟨by omega, by omega⟩⟩ (show (20 - (k + 1)) < (20 - k) from by omega)
set_option maxHeartbeats 4000000 in
set_option maxRecDepth 100000 in
/-- allHold(cd, p) -/
theorem kTable_allHold (l : Launch) (D : va_G) (cI cZ cJ : ClassId) (tb pr su ta be nw ac en sr ro si r jo : Nat) (sb R len cd p : Nat) (md sg : Bool) (u : Nat → Nat) (hcd : cd < 2 ^ 24) (hp : p ≤ 200) (hle : len ≤ 200) : vx_Mi l yN_Table_allHold wN_Table_allHold ({ frames := 3, cells := 0, slots := 0, locals := 63 }) D clN (tyN cI cZ cJ) [.ref tb, .int (nI cd), .int (nI p)] [(tb, .inr (8, [.ref pr, .ref su, .ref ta, .ref be, .ref nw, .ref ac, .ref en, .ref sr, .ref ro, .ref si, .ref r, .ref jo, .int (nI R), .int (zi md), .int (zi sg)])), (su, .inr (7, [.ref sb, .int (nI len)])), (sb, .inl (cI, 200, .inl (ni u)))] (fun x w => x = zi (decide (cd / 2 ^ 18 &&& soP len u p = cd / 2 ^ 18)) ∧ w = [(tb, .inr (8, [.ref pr, .ref su, .ref ta, .ref be, .ref nw, .ref ac, .ref en, .ref sr, .ref ro, .ref si, .ref r, .ref jo, .int (nI R), .int (zi md), .int (zi sg)])), (su, .inr (7, [.ref sb, .int (nI len)])), (sb, .inl (cI, 200, .inl (ni u)))]) := by
  refine vx_startI (cc := cN_Table_allHold) (maxL := 4) (ret := (some .boolean)) (by decide) rfl (Nat.le_of_ble_eq_true rfl) ?_
  intro p_0 e_0 s m below meth c_0 A ls C hK hP hD hS hA hl
  obtain ⟨hx, hb, hr, hml, hown, hts, hlocks, hnm⟩ := id C
  have hown : s.vm.findClass "StepMachines$Table" = some m.cls := hown
  have ht : ∀ w ∈ TB, w.before _ s = true := fun w h => hts w (List.mem_cons_of_mem _ h)
  have hl : lv_has ls 4 [(0, .ref tb), (1, .int (nI cd)), (2, .int (nI p))] := hl
  refine lv_iload_n hx hb dN_Table_allHold_0 rfl (lv_at hl 1 rfl) ?_
  refine lv_bipush (v := (nI 18)) hx hb dN_Table_allHold_1 (by decide) ?_
  refine lv_ishr hx hb dN_Table_allHold_3 ?_
  refine xn_top (y := (nI (cd / 2 ^ 18))) (pk_shrN (by omega) _ 18 (sm32 18 (by omega))) ?_
  refine lv_istore_n (lv' := [(3, .int (nI (cd / 2 ^ 18))), (0, .ref tb), (1, .int (nI cd)), (2, .int (nI p))]) hx hb dN_Table_allHold_4 rfl hl (by decide) rfl (fun ls hl => ?_)
  refine lv_iload_n hx hb dN_Table_allHold_5 rfl (lv_at hl 0 rfl) ?_
  refine lv_aload_n hx hb dN_Table_allHold_6 rfl (lv_at hl 1 rfl) ?_
  refine va_get (D := D) (ci := 8) (v := .ref su) (C := RN_Table) (T := FN_Table) (N := 15) hx hb ht fN_Table hown hK hP 0 rfl rfl 1 (by decide) (ht _ mw_198) (fun _ h9 => h9) rfl dN_Table_allHold_7 ?_
  refine lv_iload_n hx hb dN_Table_allHold_10 rfl (lv_at hl 3 rfl) ?_
  refine vx_calli (wc := [(su, .inr (7, [.ref sb, .int (nI len)])), (sb, .inl (cI, 200, .inl (ni u)))]) (wr := [(tb, .inr (8, [.ref pr, .ref su, .ref ta, .ref be, .ref nw, .ref ac, .ref en, .ref sr, .ref ro, .ref si, .ref r, .ref jo, .int (nI R), .int (zi md), .int (zi sg)]))]) [1, 2] [0] hK hP hD hS hA rfl rfl (by decide) (by decide) (va_runV (As := [.int (nI p)]) (rest := [.int (nI (cd / 2 ^ 18))]) ⟨hx, hb, hml, hown, ht⟩ (kSubject_whatIsSoAt l D cI cZ cJ su sb len u p (by omega) hle _) (⟨callB_of 1 ht (TB_in2 gN_Subject_whatIsSoAt) rfl rfl rfl (ht _ mw_3) (ht _ mw_736) (by decide +kernel) ⟨Nat.le_of_ble_eq_true rfl, Nat.le_of_ble_eq_true rfl⟩, ht _ mw_712, ht _ mw_713⟩) (vx_preV [1, 2] hK hP hD (by decide) rfl (ci := 7) rfl 1 rfl) rfl rfl hl.1 rfl (lv_room (Nat.le_of_ble_eq_true rfl)) dN_Table_allHold_11 ⟨Nat.le_of_ble_eq_true rfl, Nat.le_of_ble_eq_true rfl⟩) (fun r1 w1 H locs hq hP hD hS => ?_)
  obtain ⟨rfl, rfl⟩ := hq
  have hP : va_P D clN [(tb, .inr (8, [.ref pr, .ref su, .ref ta, .ref be, .ref nw, .ref ac, .ref en, .ref sr, .ref ro, .ref si, .ref r, .ref jo, .int (nI R), .int (zi md), .int (zi sg)])), (su, .inr (7, [.ref sb, .int (nI len)])), (sb, .inl (cI, 200, .inl (ni u)))] H := hP.sub [0, 1, 2] rfl
  have hD : va_D A [(tb, .inr (8, [.ref pr, .ref su, .ref ta, .ref be, .ref nw, .ref ac, .ref en, .ref sr, .ref ro, .ref si, .ref r, .ref jo, .int (nI R), .int (zi md), .int (zi sg)])), (su, .inr (7, [.ref sb, .int (nI len)])), (sb, .inl (cI, 200, .inl (ni u)))] := hD.sub [0, 1, 2] (by decide) rfl
  refine lv_iand hx hb dN_Table_allHold_14 ?_
  refine xn_top (y := (nI (cd / 2 ^ 18 &&& soP len u p))) (andI (by omega) (by have := soP_lt len u p; omega)) ?_
  refine lv_iload_n hx hb dN_Table_allHold_15 rfl (lv_at hl 0 rfl) ?_
  refine xn_ne (tgt := 23) hx hb dN_Table_allHold_16 (by decide) (by have : cd / 2 ^ 18 &&& soP len u p ≤ cd / 2 ^ 18 := Nat.and_le_left; omega) (by omega) (fun c_16_0 => ?_) (fun c_16_0 => ?_)
  · skip
    refine lv_iconst (v := (nI 0)) hx hb dN_Table_allHold_23 (by decide) ?_
    refine xn_top (y := zi false) rfl ?_
    exact vx_zret C hK hP hD hS dN_Table_allHold_24 (Nat.le_of_ble_eq_true rfl) (Nat.le_of_ble_eq_true rfl) (zi_nar2 _) (⟨by rw [decide_eq_false c_16_0], rfl⟩)
  · skip
    refine lv_iconst (v := (nI 1)) hx hb dN_Table_allHold_19 (by decide) ?_
    refine lv_goto (tgt := 24) hx hb dN_Table_allHold_20 (by decide) ?_
    refine xn_top (y := zi true) rfl ?_
    exact vx_zret C hK hP hD hS dN_Table_allHold_24 (Nat.le_of_ble_eq_true rfl) (Nat.le_of_ble_eq_true rfl) (zi_nar2 _) (⟨by rw [decide_eq_true c_16_0], rfl⟩)
set_option maxHeartbeats 4000000 in
set_option maxRecDepth 100000 in
/-- endHere(q, how, p) -/
theorem kTable_endHere (l : Launch) (D : va_G) (cI cZ cJ : ClassId) (tb pr su ta be nw ac en sr ro si r jo : Nat) (sb n R len q p how : Nat) (md sg : Bool) (K V F S u sor : Nat → Nat) (aC eC : Nat → Int32) (sv : Sv) (best : Option (Nat × Sv)) (hF : RowF K V F S n R sor aC eC q) (hbo : BeOk best) (hq6 : q < 64) (hp : p ≤ len) (hle : len ≤ 200) (hh : how < 3) (hu : ∀ i, u i < 256) : vx_Mi l yN_Table_endHere wN_Table_endHere ({ frames := 4, cells := 0, slots := 0, locals := 86 }) D clN (tyN cI cZ cJ) [.ref tb, .int (nI q), .int (nI how), .int (nI p)] [(tb, .inr (8, [.ref pr, .ref su, .ref ta, .ref be, .ref nw, .ref ac, .ref en, .ref sr, .ref ro, .ref si, .ref r, .ref jo, .int (nI R), .int (zi md), .int (zi sg)])), (su, .inr (7, [.ref sb, .int (nI len)])), (sb, .inl (cI, 200, .inl (ni u))), (en, .inl (cI, 64, .inl eC)), (be, .inl (cI, 20, .inl ((beS best)))), (nw, .inl (cI, 20, .inl sv))] (fun x w => ∃ (g9 : Bool) (best2 : Option (Nat × Sv)), x = zi g9 ∧ w = [(tb, .inr (8, [.ref pr, .ref su, .ref ta, .ref be, .ref nw, .ref ac, .ref en, .ref sr, .ref ro, .ref si, .ref r, .ref jo, .int (nI R), .int (zi md), .int (zi sg)])), (su, .inr (7, [.ref sb, .int (nI len)])), (sb, .inl (cI, 200, .inl (ni u))), (en, .inl (cI, 64, .inl eC)), (be, .inl (cI, 20, .inl ((beS best2)))), (nw, .inl (cI, 20, .inl sv))] ∧ EH K V F S len u n how p sor q sv best g9 best2) := by
  refine vx_startI (cc := cN_Table_endHere) (maxL := 5) (ret := (some .boolean)) (by decide) rfl (Nat.le_of_ble_eq_true rfl) ?_
  intro p_0 e_0 s m below meth c_0 A ls C hK hP hD hS hA hl
  obtain ⟨hx, hb, hr, hml, hown, hts, hlocks, hnm⟩ := id C
  have hown : s.vm.findClass "StepMachines$Table" = some m.cls := hown
  have ht : ∀ w ∈ TB, w.before _ s = true := fun w h => hts w (List.mem_cons_of_mem _ h)
  have hl : lv_has ls 5 [(0, .ref tb), (1, .int (nI q)), (2, .int (nI how)), (3, .int (nI p))] := hl
  refine lv_aload_n hx hb dN_Table_endHere_0 rfl (lv_at hl 0 rfl) ?_
  refine va_get (D := D) (ci := 8) (v := .ref en) (C := RN_Table) (T := FN_Table) (N := 15) hx hb ht fN_Table hown hK hP 0 rfl rfl 6 (by decide) (ht _ mw_203) (fun _ h9 => h9) rfl dN_Table_endHere_1 ?_
  refine lv_iload_n hx hb dN_Table_endHere_4 rfl (lv_at hl 1 rfl) ?_
  refine xi_ald hx hb hK hP 3 0 rfl rfl dN_Table_endHere_5 (by omega) (by omega) ?_
  refine lv_istore (lv' := [(4, .int (eC q)), (0, .ref tb), (1, .int (nI q)), (2, .int (nI how)), (3, .int (nI p))]) hx hb dN_Table_endHere_6 hl (by decide) rfl (fun ls hl => ?_)
  refine lv_iload hx hb dN_Table_endHere_8 (lv_at hl 0 rfl) ?_
  refine lv_iconst (v := (-1)) hx hb dN_Table_endHere_10 (by decide) ?_
  refine lv_icmp_eq (tgt := 36) hx hb dN_Table_endHere_11 (by decide) (fun c_11_0 => ?_) (fun c_11_0 => ?_)
  · skip
    refine lv_iconst (v := (nI 0)) hx hb dN_Table_endHere_36 (by decide) ?_
    refine xn_top (y := zi false) rfl ?_
    exact vx_zret C hK hP hD hS dN_Table_endHere_37 (Nat.le_of_ble_eq_true rfl) (Nat.le_of_ble_eq_true rfl) (zi_nar2 _) (⟨false, _, rfl, rfl, EH_no hbo hF c_11_0⟩)
  · skip
    obtain ⟨s8, a8, he8, hs8, ha8, hc8, hE8⟩ := EH_some (len := len) (u := u) (how := how) (p := p) (sv := sv) (best := best) hF c_11_0
    rw [he8] at hl
    have hho : decide (cdN s8 a8 / 2 ^ 18 &&& soP len u p = cdN s8 a8 / 2 ^ 18) = hoB len u p a8 := by rw [cd_as hs8.1]; have h9 := ho_and (len := len) (u := u) (p := p) (a := a8) hu hp ha8; cases h7 : hoB len u p a8 with | true => exact decide_eq_true (h9.mpr h7) | false => exact decide_eq_false (fun z => by rw [h9.mp z] at h7; cases h7)
    refine lv_aload_n hx hb dN_Table_endHere_14 rfl (lv_at hl 1 rfl) ?_
    refine va_get (D := D) (ci := 8) (v := .ref su) (C := RN_Table) (T := FN_Table) (N := 15) hx hb ht fN_Table hown hK hP 0 rfl rfl 1 (by decide) (ht _ mw_198) (fun _ h9 => h9) rfl dN_Table_endHere_15 ?_
    refine lv_iload_n hx hb dN_Table_endHere_18 rfl (lv_at hl 3 rfl) ?_
    refine lv_iload_n hx hb dN_Table_endHere_19 rfl (lv_at hl 4 rfl) ?_
    refine vx_calli (wc := [(su, .inr (7, [.ref sb, .int (nI len)]))]) (wr := [(tb, .inr (8, [.ref pr, .ref su, .ref ta, .ref be, .ref nw, .ref ac, .ref en, .ref sr, .ref ro, .ref si, .ref r, .ref jo, .int (nI R), .int (zi md), .int (zi sg)])), (sb, .inl (cI, 200, .inl (ni u))), (en, .inl (cI, 64, .inl eC)), (be, .inl (cI, 20, .inl ((beS best)))), (nw, .inl (cI, 20, .inl sv))]) [1] [0, 2, 3, 4, 5] hK hP hD hS hA rfl rfl (by decide) (by decide) (va_runV (As := [.int (nI how), .int (nI p)]) (rest := []) ⟨hx, hb, hml, hown, ht⟩ (kSubject_mayEnd l D cI cZ cJ su sb len how p hh (by omega) hle _) (⟨callB_of 2 ht (TB_in2 gN_Subject_mayEnd) rfl rfl rfl (ht _ mw_3) (ht _ mw_731) (by decide +kernel) ⟨Nat.le_of_ble_eq_true rfl, Nat.le_of_ble_eq_true rfl⟩, ht _ mw_687, ht _ mw_688⟩) (vx_preV [1] hK hP hD (by decide) rfl (ci := 7) rfl 1 rfl) rfl rfl hl.1 rfl (lv_room (Nat.le_of_ble_eq_true rfl)) dN_Table_endHere_20 ⟨Nat.le_of_ble_eq_true rfl, Nat.le_of_ble_eq_true rfl⟩) (fun r1 w1 H locs hq hP hD hS => ?_)
    obtain ⟨rfl, rfl⟩ := hq
    have hP : va_P D clN [(tb, .inr (8, [.ref pr, .ref su, .ref ta, .ref be, .ref nw, .ref ac, .ref en, .ref sr, .ref ro, .ref si, .ref r, .ref jo, .int (nI R), .int (zi md), .int (zi sg)])), (su, .inr (7, [.ref sb, .int (nI len)])), (sb, .inl (cI, 200, .inl (ni u))), (en, .inl (cI, 64, .inl eC)), (be, .inl (cI, 20, .inl ((beS best)))), (nw, .inl (cI, 20, .inl sv))] H := hP.sub [0, 5, 1, 2, 3, 4] rfl
    have hD : va_D A [(tb, .inr (8, [.ref pr, .ref su, .ref ta, .ref be, .ref nw, .ref ac, .ref en, .ref sr, .ref ro, .ref si, .ref r, .ref jo, .int (nI R), .int (zi md), .int (zi sg)])), (su, .inr (7, [.ref sb, .int (nI len)])), (sb, .inl (cI, 200, .inl (ni u))), (en, .inl (cI, 64, .inl eC)), (be, .inl (cI, 20, .inl ((beS best)))), (nw, .inl (cI, 20, .inl sv))] := hD.sub [0, 5, 1, 2, 3, 4] (by decide) rfl
    refine xz_eq0 (tgt := 36) hx hb dN_Table_endHere_23 (by decide) (fun c_23_1 => ?_) (fun c_23_1 => ?_)
    · skip
      refine lv_iconst (v := (nI 0)) hx hb dN_Table_endHere_36 (by decide) ?_
      refine xn_top (y := zi false) rfl ?_
      exact vx_zret C hK hP hD hS dN_Table_endHere_37 (Nat.le_of_ble_eq_true rfl) (Nat.le_of_ble_eq_true rfl) (zi_nar2 _) (⟨false, _, rfl, rfl, by rw [hE8, if_neg (by rw [c_23_1]; simp)], hbo⟩)
    · skip
      refine lv_aload_n hx hb dN_Table_endHere_26 rfl (lv_at hl 1 rfl) ?_
      refine lv_iload hx hb dN_Table_endHere_27 (lv_at hl 0 rfl) ?_
      refine lv_iload_n hx hb dN_Table_endHere_29 rfl (lv_at hl 4 rfl) ?_
      refine vx_calli (wc := [(tb, .inr (8, [.ref pr, .ref su, .ref ta, .ref be, .ref nw, .ref ac, .ref en, .ref sr, .ref ro, .ref si, .ref r, .ref jo, .int (nI R), .int (zi md), .int (zi sg)])), (su, .inr (7, [.ref sb, .int (nI len)])), (sb, .inl (cI, 200, .inl (ni u)))]) (wr := [(en, .inl (cI, 64, .inl eC)), (be, .inl (cI, 20, .inl ((beS best)))), (nw, .inl (cI, 20, .inl sv))]) [0, 1, 2] [3, 4, 5] hK hP hD hS hA rfl rfl (by decide) (by decide) (va_runV (As := [.int (nI (cdN s8 a8)), .int (nI p)]) (rest := []) ⟨hx, hb, hml, hown, ht⟩ (kTable_allHold l D cI cZ cJ tb pr su ta be nw ac en sr ro si r jo sb R len (cdN s8 a8) p md sg u hc8 (by omega) hle _) (⟨callB_of 2 ht (TB_in2 gN_Table_allHold) rfl rfl rfl (ht _ mw_9) (ht _ mw_732) (by decide +kernel) ⟨Nat.le_of_ble_eq_true rfl, Nat.le_of_ble_eq_true rfl⟩, ht _ mw_734, ht _ ms_15⟩) (vx_preV [0, 1, 2] hK hP hD (by decide) rfl (ci := 8) rfl 0 rfl) rfl rfl hl.1 rfl (lv_room (Nat.le_of_ble_eq_true rfl)) dN_Table_endHere_30 ⟨Nat.le_of_ble_eq_true rfl, Nat.le_of_ble_eq_true rfl⟩) (fun r1 w1 H locs hq hP hD hS => ?_)
      obtain ⟨rfl, rfl⟩ := hq
      have hP : va_P D clN [(tb, .inr (8, [.ref pr, .ref su, .ref ta, .ref be, .ref nw, .ref ac, .ref en, .ref sr, .ref ro, .ref si, .ref r, .ref jo, .int (nI R), .int (zi md), .int (zi sg)])), (su, .inr (7, [.ref sb, .int (nI len)])), (sb, .inl (cI, 200, .inl (ni u))), (en, .inl (cI, 64, .inl eC)), (be, .inl (cI, 20, .inl ((beS best)))), (nw, .inl (cI, 20, .inl sv))] H := hP.sub [3, 4, 5, 0, 1, 2] rfl
      have hD : va_D A [(tb, .inr (8, [.ref pr, .ref su, .ref ta, .ref be, .ref nw, .ref ac, .ref en, .ref sr, .ref ro, .ref si, .ref r, .ref jo, .int (nI R), .int (zi md), .int (zi sg)])), (su, .inr (7, [.ref sb, .int (nI len)])), (sb, .inl (cI, 200, .inl (ni u))), (en, .inl (cI, 64, .inl eC)), (be, .inl (cI, 20, .inl ((beS best)))), (nw, .inl (cI, 20, .inl sv))] := hD.sub [3, 4, 5, 0, 1, 2] (by decide) rfl
      refine xz_ne0 (tgt := 38) hx hb dN_Table_endHere_33 (by decide) (fun c_33_2 => ?_) (fun c_33_2 => ?_)
      · skip
        refine lv_aload_n hx hb dN_Table_endHere_38 rfl (lv_at hl 1 rfl) ?_
        refine va_get (D := D) (ci := 8) (v := .ref nw) (C := RN_Table) (T := FN_Table) (N := 15) hx hb ht fN_Table hown hK hP 0 rfl rfl 4 (by decide) (ht _ mw_201) (fun _ h9 => h9) rfl dN_Table_endHere_39 ?_
        refine lv_iconst (v := (nI 0)) hx hb dN_Table_endHere_42 (by decide) ?_
        refine lv_aload_n hx hb dN_Table_endHere_43 rfl (lv_at hl 1 rfl) ?_
        refine va_get (D := D) (ci := 8) (v := .ref be) (C := RN_Table) (T := FN_Table) (N := 15) hx hb ht fN_Table hown hK hP 0 rfl rfl 3 (by decide) (ht _ mw_200) (fun _ h9 => h9) rfl dN_Table_endHere_44 ?_
        refine lv_iconst (v := (nI 0)) hx hb dN_Table_endHere_47 (by decide) ?_
        refine lv_bipush (v := (nI 20)) hx hb dN_Table_endHere_48 (by decide) ?_
        refine xn_copy hx hb (by rw [hml]; exact hl.1.symm) hown (ht _ mw_737) (ht _ mw_692) (ht _ mw_691) (ht _ mw_21) hK hP hD hS 5 4 0 rfl rfl rfl (by omega) (by omega) (by omega) (by omega) (Nat.le_of_ble_eq_true rfl) (Nat.le_of_ble_eq_true rfl) dN_Table_endHere_50 (fun H locs hP hD hS => ?_)
        have hP : va_P D clN [(tb, .inr (8, [.ref pr, .ref su, .ref ta, .ref be, .ref nw, .ref ac, .ref en, .ref sr, .ref ro, .ref si, .ref r, .ref jo, .int (nI R), .int (zi md), .int (zi sg)])), (su, .inr (7, [.ref sb, .int (nI len)])), (sb, .inl (cI, 200, .inl (ni u))), (en, .inl (cI, 64, .inl eC)), (be, .inl (cI, 20, .inl ((va_cpy sv ((beS best)) 0 0 20)))), (nw, .inl (cI, 20, .inl sv))] H := hP
        have hD : va_D A [(tb, .inr (8, [.ref pr, .ref su, .ref ta, .ref be, .ref nw, .ref ac, .ref en, .ref sr, .ref ro, .ref si, .ref r, .ref jo, .int (nI R), .int (zi md), .int (zi sg)])), (su, .inr (7, [.ref sb, .int (nI len)])), (sb, .inl (cI, 200, .inl (ni u))), (en, .inl (cI, 64, .inl eC)), (be, .inl (cI, 20, .inl ((va_cpy sv ((beS best)) 0 0 20)))), (nw, .inl (cI, 20, .inl sv))] := hD
        have hP : va_P D clN [(tb, .inr (8, [.ref pr, .ref su, .ref ta, .ref be, .ref nw, .ref ac, .ref en, .ref sr, .ref ro, .ref si, .ref r, .ref jo, .int (nI R), .int (zi md), .int (zi sg)])), (su, .inr (7, [.ref sb, .int (nI len)])), (sb, .inl (cI, 200, .inl (ni u))), (en, .inl (cI, 64, .inl eC)), (be, .inl (cI, 20, .inl sv)), (nw, .inl (cI, 20, .inl sv))] _ := xP_fn (q := 4) (g := sv) hP rfl (fun j hj => cpy_all hj)
        have hD : va_D A [(tb, .inr (8, [.ref pr, .ref su, .ref ta, .ref be, .ref nw, .ref ac, .ref en, .ref sr, .ref ro, .ref si, .ref r, .ref jo, .int (nI R), .int (zi md), .int (zi sg)])), (su, .inr (7, [.ref sb, .int (nI len)])), (sb, .inl (cI, 200, .inl (ni u))), (en, .inl (cI, 64, .inl eC)), (be, .inl (cI, 20, .inl sv)), (nw, .inl (cI, 20, .inl sv))] := xD_fn (q := 4) hD rfl
        refine lv_iload hx hb dN_Table_endHere_53 (lv_at hl 0 rfl) ?_
        refine lv_iload_n hx hb dN_Table_endHere_55 rfl (lv_at hl 4 rfl) ?_
        refine lv_aload_n hx hb dN_Table_endHere_56 rfl (lv_at hl 1 rfl) ?_
        refine va_get (D := D) (ci := 8) (v := .ref be) (C := RN_Table) (T := FN_Table) (N := 15) hx hb ht fN_Table hown hK hP 0 rfl rfl 3 (by decide) (ht _ mw_200) (fun _ h9 => h9) rfl dN_Table_endHere_57 ?_
        refine vx_callv (wc := [(be, .inl (cI, 20, .inl sv))]) (wr := [(tb, .inr (8, [.ref pr, .ref su, .ref ta, .ref be, .ref nw, .ref ac, .ref en, .ref sr, .ref ro, .ref si, .ref r, .ref jo, .int (nI R), .int (zi md), .int (zi sg)])), (su, .inr (7, [.ref sb, .int (nI len)])), (sb, .inl (cI, 200, .inl (ni u))), (en, .inl (cI, 64, .inl eC)), (nw, .inl (cI, 20, .inl sv))]) [4] [0, 1, 2, 3, 5] hK hP hD hS hA rfl rfl (by decide) (by decide) (va_runS (As := [.int (nI (cdN s8 a8)), .int (nI p), .ref be]) (rest := []) ⟨hx, hb, hml, hown, ht⟩ (kTable_save l D cI cZ cJ be (cdN s8 a8) p sv hc8 _) (⟨callB_of 3 ht (TB_in2 gN_Table_save) rfl rfl rfl (ht _ mw_9) (ht _ mw_738) (by decide +kernel) ⟨Nat.le_of_ble_eq_true rfl, Nat.le_of_ble_eq_true rfl⟩, ht _ mw_739⟩) (vx_preS [4] hK hP hD (by decide) rfl) rfl rfl hl.1 rfl (lv_room (Nat.le_of_ble_eq_true rfl)) dN_Table_endHere_60 ⟨Nat.le_of_ble_eq_true rfl, Nat.le_of_ble_eq_true rfl⟩) (fun w1 H locs hq hP hD hS => ?_)
        subst hq
        have hP : va_P D clN [(tb, .inr (8, [.ref pr, .ref su, .ref ta, .ref be, .ref nw, .ref ac, .ref en, .ref sr, .ref ro, .ref si, .ref r, .ref jo, .int (nI R), .int (zi md), .int (zi sg)])), (su, .inr (7, [.ref sb, .int (nI len)])), (sb, .inl (cI, 200, .inl (ni u))), (en, .inl (cI, 64, .inl eC)), (be, .inl (cI, 20, .inl ((svK (cdN s8 a8) p sv 20)))), (nw, .inl (cI, 20, .inl sv))] H := hP.sub [0, 1, 2, 3, 5, 4] rfl
        have hD : va_D A [(tb, .inr (8, [.ref pr, .ref su, .ref ta, .ref be, .ref nw, .ref ac, .ref en, .ref sr, .ref ro, .ref si, .ref r, .ref jo, .int (nI R), .int (zi md), .int (zi sg)])), (su, .inr (7, [.ref sb, .int (nI len)])), (sb, .inl (cI, 200, .inl (ni u))), (en, .inl (cI, 64, .inl eC)), (be, .inl (cI, 20, .inl ((svK (cdN s8 a8) p sv 20)))), (nw, .inl (cI, 20, .inl sv))] := hD.sub [0, 1, 2, 3, 5, 4] (by decide) rfl
        refine lv_aload_n hx hb dN_Table_endHere_63 rfl (lv_at hl 1 rfl) ?_
        refine va_get (D := D) (ci := 8) (v := .ref be) (C := RN_Table) (T := FN_Table) (N := 15) hx hb ht fN_Table hown hK hP 0 rfl rfl 3 (by decide) (ht _ mw_200) (fun _ h9 => h9) rfl dN_Table_endHere_64 ?_
        refine lv_iconst (v := (nI 1)) hx hb dN_Table_endHere_67 (by decide) ?_
        refine lv_iload_n hx hb dN_Table_endHere_68 rfl (lv_at hl 4 rfl) ?_
        refine xi_ast hx hb hK hP hD hS 4 0 rfl rfl dN_Table_endHere_69 (by omega) (by omega) (fun H locs hP hD hS => ?_)
        have hP : va_P D clN [(tb, .inr (8, [.ref pr, .ref su, .ref ta, .ref be, .ref nw, .ref ac, .ref en, .ref sr, .ref ro, .ref si, .ref r, .ref jo, .int (nI R), .int (zi md), .int (zi sg)])), (su, .inr (7, [.ref sb, .int (nI len)])), (sb, .inl (cI, 200, .inl (ni u))), (en, .inl (cI, 64, .inl eC)), (be, .inl (cI, 20, .inl ((upd (svK (cdN s8 a8) p sv 20) 1 (nI p))))), (nw, .inl (cI, 20, .inl sv))] H := hP
        have hD : va_D A [(tb, .inr (8, [.ref pr, .ref su, .ref ta, .ref be, .ref nw, .ref ac, .ref en, .ref sr, .ref ro, .ref si, .ref r, .ref jo, .int (nI R), .int (zi md), .int (zi sg)])), (su, .inr (7, [.ref sb, .int (nI len)])), (sb, .inl (cI, 200, .inl (ni u))), (en, .inl (cI, 64, .inl eC)), (be, .inl (cI, 20, .inl ((upd (svK (cdN s8 a8) p sv 20) 1 (nI p))))), (nw, .inl (cI, 20, .inl sv))] := hD
        refine lv_iconst (v := (nI 1)) hx hb dN_Table_endHere_70 (by decide) ?_
        refine xn_top (y := zi true) rfl ?_
        exact vx_zret C hK hP hD hS dN_Table_endHere_71 (Nat.le_of_ble_eq_true rfl) (Nat.le_of_ble_eq_true rfl) (zi_nar2 _) (⟨true, some (p, svS p s8 sv), rfl, by rw [svK_S hs8]; rfl, by rw [hE8, if_pos (by rw [← hho, c_33_2, c_23_1]; rfl)], fun x hx => by cases hx; show p ≤ 200; omega⟩)
      · skip
        refine lv_iconst (v := (nI 0)) hx hb dN_Table_endHere_36 (by decide) ?_
        refine xn_top (y := zi false) rfl ?_
        exact vx_zret C hK hP hD hS dN_Table_endHere_37 (Nat.le_of_ble_eq_true rfl) (Nat.le_of_ble_eq_true rfl) (zi_nar2 _) (⟨false, _, rfl, rfl, by rw [hE8, if_neg (by rw [← hho, c_33_2]; simp)], hbo⟩)
