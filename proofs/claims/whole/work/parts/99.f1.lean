set_option maxHeartbeats 4000000 in
set_option maxRecDepth 100000 in
/-- forget() -/
theorem kKept_forget (l : Launch) (D : va_G) (cI cZ cJ : ClassId) (kp k1 k2 kc kl ku mo kn : Nat)  : vx_Mv l yN_Kept_forget wN_Kept_forget ({ frames := 0, cells := 0, slots := 0, locals := 0 }) D clN (tyN cI cZ cJ) [.ref kp] [(kp, .inr (1, [.ref k1, .ref k2, .ref kc, .ref kl, .ref ku, .int (nI mo), .int (nI kn)]))] (fun w => w = [(kp, .inr (1, [.ref k1, .ref k2, .ref kc, .ref kl, .ref ku, .int (nI mo), .int (nI 0)]))]) := by
  refine vx_startV (cc := cN_Kept_forget) (maxL := 1) (ret := none) (by decide) rfl (Nat.le_of_ble_eq_true rfl) ?_
  intro p_0 e_0 s m below meth c_0 A ls C hK hP hD hS hA hl
  obtain ⟨hx, hb, hr, hml, hown, hts, hlocks, hnm⟩ := id C
  have hown : s.vm.findClass "StepMachines$Kept" = some m.cls := hown
  have ht : ∀ w ∈ TB, w.before _ s = true := fun w h => hts w (List.mem_cons_of_mem _ h)
  have hl : lv_has ls 1 [(0, .ref kp)] := hl
  refine lv_aload_n hx hb dN_Kept_forget_0 rfl (lv_at hl 0 rfl) ?_
  refine lv_iconst (v := (nI 0)) hx hb dN_Kept_forget_1 (by decide) ?_
  refine va_put (D := D) (ci := 1) (v := .int (nI 0)) (ty := .int) (C := RN_Kept) (T := FN_Kept) (N := 7) hx hb ht fN_Kept tN_Kept oN_Kept nN_Kept hown hK hP hD hS 0 rfl rfl 6 (by decide) (ht _ mw_271) (fun _ h9 => h9) rfl (by decide +kernel) (rfl) (rfl) (Nat.le_of_ble_eq_true rfl) dN_Kept_forget_2 (fun H locs hP hD hS => ?_)
  have hP : va_P D clN [(kp, .inr (1, [.ref k1, .ref k2, .ref kc, .ref kl, .ref ku, .int (nI mo), .int (nI 0)]))] H := hP
  have hD : va_D A [(kp, .inr (1, [.ref k1, .ref k2, .ref kc, .ref kl, .ref ku, .int (nI mo), .int (nI 0)]))] := hD
  exact vx_vret C hK hP hD hS dN_Kept_forget_5 (Nat.le_of_ble_eq_true rfl) (Nat.le_of_ble_eq_true rfl) (rfl)
set_option maxHeartbeats 4000000 in
set_option maxRecDepth 100000 in
/-- count() -/
theorem kKept_count (l : Launch) (D : va_G) (cI cZ cJ : ClassId) (kp k1 k2 kc kl ku mo kn : Nat)  : vx_Mi l yN_Kept_count wN_Kept_count ({ frames := 0, cells := 0, slots := 0, locals := 0 }) D clN (tyN cI cZ cJ) [.ref kp] [(kp, .inr (1, [.ref k1, .ref k2, .ref kc, .ref kl, .ref ku, .int (nI mo), .int (nI kn)]))] (fun x w => x = nI kn ∧ w = [(kp, .inr (1, [.ref k1, .ref k2, .ref kc, .ref kl, .ref ku, .int (nI mo), .int (nI kn)]))]) := by
  refine vx_startI (cc := cN_Kept_count) (maxL := 1) (ret := (some .int)) (by decide) rfl (Nat.le_of_ble_eq_true rfl) ?_
  intro p_0 e_0 s m below meth c_0 A ls C hK hP hD hS hA hl
  obtain ⟨hx, hb, hr, hml, hown, hts, hlocks, hnm⟩ := id C
  have hown : s.vm.findClass "StepMachines$Kept" = some m.cls := hown
  have ht : ∀ w ∈ TB, w.before _ s = true := fun w h => hts w (List.mem_cons_of_mem _ h)
  have hl : lv_has ls 1 [(0, .ref kp)] := hl
  refine lv_aload_n hx hb dN_Kept_count_0 rfl (lv_at hl 0 rfl) ?_
  refine va_get (D := D) (ci := 1) (v := .int (nI kn)) (C := RN_Kept) (T := FN_Kept) (N := 7) hx hb ht fN_Kept hown hK hP 0 rfl rfl 6 (by decide) (ht _ mw_271) (fun _ h9 => h9) rfl dN_Kept_count_1 ?_
  exact vx_iret C hK hP hD hS dN_Kept_count_4 (Nat.le_of_ble_eq_true rfl) (Nat.le_of_ble_eq_true rfl) (⟨rfl, rfl⟩)
set_option maxHeartbeats 4000000 in
set_option maxRecDepth 100000 in
/-- allow(m8) -/
theorem kKept_allow (l : Launch) (D : va_G) (cI cZ cJ : ClassId) (kp k1 k2 kc kl ku mo kn : Nat) (m8 : Nat) (h4 : 4 ≤ m8) (h64 : m8 ≤ 64) : vx_Mv l yN_Kept_allow wN_Kept_allow ({ frames := 1, cells := 0, slots := 0, locals := 21 }) D clN (tyN cI cZ cJ) [.ref kp, .int (nI m8)] [(kp, .inr (1, [.ref k1, .ref k2, .ref kc, .ref kl, .ref ku, .int (nI mo), .int (nI kn)]))] (fun w => w = [(kp, .inr (1, [.ref k1, .ref k2, .ref kc, .ref kl, .ref ku, .int (nI m8), .int (nI 0)]))]) := by
  refine vx_startV (cc := cN_Kept_allow) (maxL := 2) (ret := none) (by decide) rfl (Nat.le_of_ble_eq_true rfl) ?_
  intro p_0 e_0 s m below meth c_0 A ls C hK hP hD hS hA hl
  obtain ⟨hx, hb, hr, hml, hown, hts, hlocks, hnm⟩ := id C
  have hown : s.vm.findClass "StepMachines$Kept" = some m.cls := hown
  have ht : ∀ w ∈ TB, w.before _ s = true := fun w h => hts w (List.mem_cons_of_mem _ h)
  have hl : lv_has ls 2 [(0, .ref kp), (1, .int (nI m8))] := hl
  refine lv_aload_n hx hb dN_Kept_allow_0 rfl (lv_at hl 0 rfl) ?_
  refine vx_callv (wc := [(kp, .inr (1, [.ref k1, .ref k2, .ref kc, .ref kl, .ref ku, .int (nI mo), .int (nI kn)]))]) (wr := []) [0] [] hK hP hD hS hA rfl rfl (by decide) (by decide) (va_runV (As := []) (rest := []) ⟨hx, hb, hml, hown, ht⟩ (kKept_forget l D cI cZ cJ kp k1 k2 kc kl ku mo kn _) (⟨callB_of 0 ht (TB_in2 gN_Kept_forget) rfl rfl rfl (ht _ mw_11) (ht _ mw_874) (by decide +kernel) ⟨Nat.le_of_ble_eq_true rfl, Nat.le_of_ble_eq_true rfl⟩, ht _ mw_564, ht _ mw_565⟩) (vx_preV [0] hK hP hD (by decide) rfl (ci := 1) rfl 0 rfl) rfl rfl hl.1 rfl (lv_room (Nat.le_of_ble_eq_true rfl)) dN_Kept_allow_1 ⟨Nat.le_of_ble_eq_true rfl, Nat.le_of_ble_eq_true rfl⟩) (fun w1 H locs hq hP hD hS => ?_)
  subst hq
  have hP : va_P D clN [(kp, .inr (1, [.ref k1, .ref k2, .ref kc, .ref kl, .ref ku, .int (nI mo), .int (nI 0)]))] H := hP.sub [0] rfl
  have hD : va_D A [(kp, .inr (1, [.ref k1, .ref k2, .ref kc, .ref kl, .ref ku, .int (nI mo), .int (nI 0)]))] := hD.sub [0] (by decide) rfl
  refine lv_aload_n hx hb dN_Kept_allow_4 rfl (lv_at hl 0 rfl) ?_
  refine lv_iconst (v := (nI 4)) hx hb dN_Kept_allow_5 (by decide) ?_
  refine lv_iload_n hx hb dN_Kept_allow_6 rfl (lv_at hl 1 rfl) ?_
  refine lv_bipush (v := (nI 64)) hx hb dN_Kept_allow_7 (by decide) ?_
  refine va_mmin hx hb (by rw [hml]; exact hl.1.symm) hown (ht _ mw_963) (ht _ mw_544) (ht _ mw_19) (ht _ mw_545) (Nat.le_of_ble_eq_true rfl) (Nat.le_of_ble_eq_true rfl) (Nat.le_of_ble_eq_true rfl) (Nat.le_of_ble_eq_true rfl) dN_Kept_allow_9 ?_
  refine xn_top (y := (nI m8)) (by rw [if_neg (by rw [nI_ltI (by omega) (by omega)]; omega)]) ?_
  refine va_mmax hx hb (by rw [hml]; exact hl.1.symm) hown (ht _ mw_964) (ht _ mw_454) (ht _ mw_19) (ht _ mw_455) (Nat.le_of_ble_eq_true rfl) (Nat.le_of_ble_eq_true rfl) (Nat.le_of_ble_eq_true rfl) (Nat.le_of_ble_eq_true rfl) dN_Kept_allow_12 ?_
  refine xn_top (y := (nI m8)) (mxI h4 h64) ?_
  refine va_put (D := D) (ci := 1) (v := .int (nI m8)) (ty := .int) (C := RN_Kept) (T := FN_Kept) (N := 7) hx hb ht fN_Kept tN_Kept oN_Kept nN_Kept hown hK hP hD hS 0 rfl rfl 5 (by decide) (ht _ mw_270) (fun _ h9 => h9) rfl (by decide +kernel) (rfl) (rfl) (Nat.le_of_ble_eq_true rfl) dN_Kept_allow_15 (fun H locs hP hD hS => ?_)
  have hP : va_P D clN [(kp, .inr (1, [.ref k1, .ref k2, .ref kc, .ref kl, .ref ku, .int (nI m8), .int (nI 0)]))] H := hP
  have hD : va_D A [(kp, .inr (1, [.ref k1, .ref k2, .ref kc, .ref kl, .ref ku, .int (nI m8), .int (nI 0)]))] := hD
  exact vx_vret C hK hP hD hS dN_Kept_allow_18 (Nat.le_of_ble_eq_true rfl) (Nat.le_of_ble_eq_true rfl) (rfl)
set_option maxHeartbeats 4000000 in
set_option maxRecDepth 100000 in
/-- forget() -/
theorem kStates_forget (l : Launch) (D : va_G) (cI cZ cJ : ClassId) (sa pr su ta wr on jo so : Nat) (kp k1 k2 kc kl ku mo kn : Nat)  : vx_Mv l yN_States_forget wN_States_forget ({ frames := 1, cells := 0, slots := 0, locals := 20 }) D clN (tyN cI cZ cJ) [.ref sa] [(sa, .inr (6, [.ref pr, .ref su, .ref ta, .ref kp, .ref wr, .ref on, .ref jo, .int (nI so)])), (kp, .inr (1, [.ref k1, .ref k2, .ref kc, .ref kl, .ref ku, .int (nI mo), .int (nI kn)]))] (fun w => w = [(sa, .inr (6, [.ref pr, .ref su, .ref ta, .ref kp, .ref wr, .ref on, .ref jo, .int (nI so)])), (kp, .inr (1, [.ref k1, .ref k2, .ref kc, .ref kl, .ref ku, .int (nI mo), .int (nI 0)]))]) := by
  refine vx_startV (cc := cN_States_forget) (maxL := 1) (ret := none) (by decide) rfl (Nat.le_of_ble_eq_true rfl) ?_
  intro p_0 e_0 s m below meth c_0 A ls C hK hP hD hS hA hl
  obtain ⟨hx, hb, hr, hml, hown, hts, hlocks, hnm⟩ := id C
  have hown : s.vm.findClass "StepMachines$States" = some m.cls := hown
  have ht : ∀ w ∈ TB, w.before _ s = true := fun w h => hts w (List.mem_cons_of_mem _ h)
  have hl : lv_has ls 1 [(0, .ref sa)] := hl
  refine lv_aload_n hx hb dN_States_forget_0 rfl (lv_at hl 0 rfl) ?_
  refine va_get (D := D) (ci := 6) (v := .ref kp) (C := RN_States) (T := FN_States) (N := 8) hx hb ht fN_States hown hK hP 0 rfl rfl 3 (by decide) (ht _ mw_294) (fun _ h9 => h9) rfl dN_States_forget_1 ?_
  refine vx_callv (wc := [(kp, .inr (1, [.ref k1, .ref k2, .ref kc, .ref kl, .ref ku, .int (nI mo), .int (nI kn)]))]) (wr := [(sa, .inr (6, [.ref pr, .ref su, .ref ta, .ref kp, .ref wr, .ref on, .ref jo, .int (nI so)]))]) [1] [0] hK hP hD hS hA rfl rfl (by decide) (by decide) (va_runV (As := []) (rest := []) ⟨hx, hb, hml, hown, ht⟩ (kKept_forget l D cI cZ cJ kp k1 k2 kc kl ku mo kn _) (⟨callB_of 0 ht (TB_in2 gN_Kept_forget) rfl rfl rfl (ht _ mw_11) (ht _ mw_563) (by decide +kernel) ⟨Nat.le_of_ble_eq_true rfl, Nat.le_of_ble_eq_true rfl⟩, ht _ mw_564, ht _ mw_565⟩) (vx_preV [1] hK hP hD (by decide) rfl (ci := 1) rfl 1 rfl) rfl rfl hl.1 rfl (lv_room (Nat.le_of_ble_eq_true rfl)) dN_States_forget_4 ⟨Nat.le_of_ble_eq_true rfl, Nat.le_of_ble_eq_true rfl⟩) (fun w1 H locs hq hP hD hS => ?_)
  subst hq
  have hP : va_P D clN [(sa, .inr (6, [.ref pr, .ref su, .ref ta, .ref kp, .ref wr, .ref on, .ref jo, .int (nI so)])), (kp, .inr (1, [.ref k1, .ref k2, .ref kc, .ref kl, .ref ku, .int (nI mo), .int (nI 0)]))] H := hP.sub [0, 1] rfl
  have hD : va_D A [(sa, .inr (6, [.ref pr, .ref su, .ref ta, .ref kp, .ref wr, .ref on, .ref jo, .int (nI so)])), (kp, .inr (1, [.ref k1, .ref k2, .ref kc, .ref kl, .ref ku, .int (nI mo), .int (nI 0)]))] := hD.sub [0, 1] (by decide) rfl
  exact vx_vret C hK hP hD hS dN_States_forget_7 (Nat.le_of_ble_eq_true rfl) (Nat.le_of_ble_eq_true rfl) (rfl)
set_option maxHeartbeats 4000000 in
set_option maxRecDepth 100000 in
/-- allow(m8) -/
theorem kStates_allow (l : Launch) (D : va_G) (cI cZ cJ : ClassId) (sa pr su ta wr on jo so : Nat) (kp k1 k2 kc kl ku mo kn : Nat) (m8 : Nat) (h4 : 4 ≤ m8) (h64 : m8 ≤ 64) : vx_Mv l yN_States_allow wN_States_allow ({ frames := 2, cells := 0, slots := 0, locals := 42 }) D clN (tyN cI cZ cJ) [.ref sa, .int (nI m8)] [(sa, .inr (6, [.ref pr, .ref su, .ref ta, .ref kp, .ref wr, .ref on, .ref jo, .int (nI so)])), (kp, .inr (1, [.ref k1, .ref k2, .ref kc, .ref kl, .ref ku, .int (nI mo), .int (nI kn)]))] (fun w => w = [(sa, .inr (6, [.ref pr, .ref su, .ref ta, .ref kp, .ref wr, .ref on, .ref jo, .int (nI so)])), (kp, .inr (1, [.ref k1, .ref k2, .ref kc, .ref kl, .ref ku, .int (nI m8), .int (nI 0)]))]) := by
  refine vx_startV (cc := cN_States_allow) (maxL := 2) (ret := none) (by decide) rfl (Nat.le_of_ble_eq_true rfl) ?_
  intro p_0 e_0 s m below meth c_0 A ls C hK hP hD hS hA hl
  obtain ⟨hx, hb, hr, hml, hown, hts, hlocks, hnm⟩ := id C
  have hown : s.vm.findClass "StepMachines$States" = some m.cls := hown
  have ht : ∀ w ∈ TB, w.before _ s = true := fun w h => hts w (List.mem_cons_of_mem _ h)
  have hl : lv_has ls 2 [(0, .ref sa), (1, .int (nI m8))] := hl
  refine lv_aload_n hx hb dN_States_allow_0 rfl (lv_at hl 0 rfl) ?_
  refine va_get (D := D) (ci := 6) (v := .ref kp) (C := RN_States) (T := FN_States) (N := 8) hx hb ht fN_States hown hK hP 0 rfl rfl 3 (by decide) (ht _ mw_294) (fun _ h9 => h9) rfl dN_States_allow_1 ?_
  refine lv_iload_n hx hb dN_States_allow_4 rfl (lv_at hl 1 rfl) ?_
  refine vx_callv (wc := [(kp, .inr (1, [.ref k1, .ref k2, .ref kc, .ref kl, .ref ku, .int (nI mo), .int (nI kn)]))]) (wr := [(sa, .inr (6, [.ref pr, .ref su, .ref ta, .ref kp, .ref wr, .ref on, .ref jo, .int (nI so)]))]) [1] [0] hK hP hD hS hA rfl rfl (by decide) (by decide) (va_runV (As := [.int (nI m8)]) (rest := []) ⟨hx, hb, hml, hown, ht⟩ (kKept_allow l D cI cZ cJ kp k1 k2 kc kl ku mo kn m8 h4 h64 _) (⟨callB_of 1 ht (TB_in2 gN_Kept_allow) rfl rfl rfl (ht _ mw_11) (ht _ mw_959) (by decide +kernel) ⟨Nat.le_of_ble_eq_true rfl, Nat.le_of_ble_eq_true rfl⟩, ht _ mw_960, ht _ mw_961⟩) (vx_preV [1] hK hP hD (by decide) rfl (ci := 1) rfl 1 rfl) rfl rfl hl.1 rfl (lv_room (Nat.le_of_ble_eq_true rfl)) dN_States_allow_5 ⟨Nat.le_of_ble_eq_true rfl, Nat.le_of_ble_eq_true rfl⟩) (fun w1 H locs hq hP hD hS => ?_)
  subst hq
  have hP : va_P D clN [(sa, .inr (6, [.ref pr, .ref su, .ref ta, .ref kp, .ref wr, .ref on, .ref jo, .int (nI so)])), (kp, .inr (1, [.ref k1, .ref k2, .ref kc, .ref kl, .ref ku, .int (nI m8), .int (nI 0)]))] H := hP.sub [0, 1] rfl
  have hD : va_D A [(sa, .inr (6, [.ref pr, .ref su, .ref ta, .ref kp, .ref wr, .ref on, .ref jo, .int (nI so)])), (kp, .inr (1, [.ref k1, .ref k2, .ref kc, .ref kl, .ref ku, .int (nI m8), .int (nI 0)]))] := hD.sub [0, 1] (by decide) rfl
  exact vx_vret C hK hP hD hS dN_States_allow_8 (Nat.le_of_ble_eq_true rfl) (Nat.le_of_ble_eq_true rfl) (rfl)
set_option maxHeartbeats 4000000 in
set_option maxRecDepth 100000 in
/-- forgetWhatWasMade() -/
theorem kMach_forget (l : Launch) (D : va_G) (cI cZ cJ : ClassId) (o pr pK pV pF pS su sb ta la t mk tb bnw ac en sr ro si br bjo sa kp k1 k2 kc kl ku wr on sjo : Nat) (R so mo kn : Nat) (md sg : Bool)  : vx_Mv l yN_Mach_forgetWhatWasMade wN_Mach_forgetWhatWasMade ({ frames := 2, cells := 0, slots := 0, locals := 40 }) D clN (tyN cI cZ cJ) [.ref o] [(o, .inr (11, [.ref pr, .ref su, .ref ta, .ref la, .ref t, .ref mk, .ref tb, .ref sa])), (tb, .inr (8, [.ref pr, .ref su, .ref ta, .ref la, .ref bnw, .ref ac, .ref en, .ref sr, .ref ro, .ref si, .ref br, .ref bjo, .int (nI R), .int (zi md), .int (zi sg)])), (sa, .inr (6, [.ref pr, .ref su, .ref ta, .ref kp, .ref wr, .ref on, .ref sjo, .int (nI so)])), (kp, .inr (1, [.ref k1, .ref k2, .ref kc, .ref kl, .ref ku, .int (nI mo), .int (nI kn)]))] (fun w => w = [(o, .inr (11, [.ref pr, .ref su, .ref ta, .ref la, .ref t, .ref mk, .ref tb, .ref sa])), (tb, .inr (8, [.ref pr, .ref su, .ref ta, .ref la, .ref bnw, .ref ac, .ref en, .ref sr, .ref ro, .ref si, .ref br, .ref bjo, .int (nI R), .int (zi false), .int (zi sg)])), (sa, .inr (6, [.ref pr, .ref su, .ref ta, .ref kp, .ref wr, .ref on, .ref sjo, .int (nI so)])), (kp, .inr (1, [.ref k1, .ref k2, .ref kc, .ref kl, .ref ku, .int (nI mo), .int (nI 0)]))]) := by
  refine vx_startV (cc := cN_Mach_forgetWhatWasMade) (maxL := 1) (ret := none) (by decide) rfl (Nat.le_of_ble_eq_true rfl) ?_
  intro p_0 e_0 s m below meth c_0 A ls C hK hP hD hS hA hl
  obtain ⟨hx, hb, hr, hml, hown, hts, hlocks, hnm⟩ := id C
  have hown : s.vm.findClass "StepMachines" = some m.cls := hown
  have ht : ∀ w ∈ TB, w.before _ s = true := fun w h => hts w (List.mem_cons_of_mem _ h)
  have hl : lv_has ls 1 [(0, .ref o)] := hl
  refine lv_aload_n hx hb dN_Mach_forgetWhatWasMade_0 rfl (lv_at hl 0 rfl) ?_
  refine va_get (D := D) (ci := 11) (v := .ref tb) (C := RN_Mach) (T := FN_Mach) (N := 8) hx hb ht fN_Mach hown hK hP 0 rfl rfl 6 (by decide) (ht _ mw_325) (fun _ h9 => h9) rfl dN_Mach_forgetWhatWasMade_1 ?_
  refine vx_callv (wc := [(tb, .inr (8, [.ref pr, .ref su, .ref ta, .ref la, .ref bnw, .ref ac, .ref en, .ref sr, .ref ro, .ref si, .ref br, .ref bjo, .int (nI R), .int (zi md), .int (zi sg)]))]) (wr := [(o, .inr (11, [.ref pr, .ref su, .ref ta, .ref la, .ref t, .ref mk, .ref tb, .ref sa])), (sa, .inr (6, [.ref pr, .ref su, .ref ta, .ref kp, .ref wr, .ref on, .ref sjo, .int (nI so)])), (kp, .inr (1, [.ref k1, .ref k2, .ref kc, .ref kl, .ref ku, .int (nI mo), .int (nI kn)]))]) [1] [0, 2, 3] hK hP hD hS hA rfl rfl (by decide) (by decide) (va_runV (As := []) (rest := []) ⟨hx, hb, hml, hown, ht⟩ (kTable_forget l D cI cZ cJ tb pr su ta la bnw ac en sr ro si br bjo R md sg _) (⟨callB_of 0 ht (TB_in2 gN_Table_forget) rfl rfl rfl (ht _ mw_9) (ht _ mw_555) (by decide +kernel) ⟨Nat.le_of_ble_eq_true rfl, Nat.le_of_ble_eq_true rfl⟩, ht _ mw_556, ht _ mw_557⟩) (vx_preV [1] hK hP hD (by decide) rfl (ci := 8) rfl 1 rfl) rfl rfl hl.1 rfl (lv_room (Nat.le_of_ble_eq_true rfl)) dN_Mach_forgetWhatWasMade_4 ⟨Nat.le_of_ble_eq_true rfl, Nat.le_of_ble_eq_true rfl⟩) (fun w1 H locs hq hP hD hS => ?_)
  subst hq
  have hP : va_P D clN [(o, .inr (11, [.ref pr, .ref su, .ref ta, .ref la, .ref t, .ref mk, .ref tb, .ref sa])), (tb, .inr (8, [.ref pr, .ref su, .ref ta, .ref la, .ref bnw, .ref ac, .ref en, .ref sr, .ref ro, .ref si, .ref br, .ref bjo, .int (nI R), .int (zi false), .int (zi sg)])), (sa, .inr (6, [.ref pr, .ref su, .ref ta, .ref kp, .ref wr, .ref on, .ref sjo, .int (nI so)])), (kp, .inr (1, [.ref k1, .ref k2, .ref kc, .ref kl, .ref ku, .int (nI mo), .int (nI kn)]))] H := hP.sub [0, 3, 1, 2] rfl
  have hD : va_D A [(o, .inr (11, [.ref pr, .ref su, .ref ta, .ref la, .ref t, .ref mk, .ref tb, .ref sa])), (tb, .inr (8, [.ref pr, .ref su, .ref ta, .ref la, .ref bnw, .ref ac, .ref en, .ref sr, .ref ro, .ref si, .ref br, .ref bjo, .int (nI R), .int (zi false), .int (zi sg)])), (sa, .inr (6, [.ref pr, .ref su, .ref ta, .ref kp, .ref wr, .ref on, .ref sjo, .int (nI so)])), (kp, .inr (1, [.ref k1, .ref k2, .ref kc, .ref kl, .ref ku, .int (nI mo), .int (nI kn)]))] := hD.sub [0, 3, 1, 2] (by decide) rfl
  refine lv_aload_n hx hb dN_Mach_forgetWhatWasMade_7 rfl (lv_at hl 0 rfl) ?_
  refine va_get (D := D) (ci := 11) (v := .ref sa) (C := RN_Mach) (T := FN_Mach) (N := 8) hx hb ht fN_Mach hown hK hP 0 rfl rfl 7 (by decide) (ht _ mw_326) (fun _ h9 => h9) rfl dN_Mach_forgetWhatWasMade_8 ?_
  refine vx_callv (wc := [(sa, .inr (6, [.ref pr, .ref su, .ref ta, .ref kp, .ref wr, .ref on, .ref sjo, .int (nI so)])), (kp, .inr (1, [.ref k1, .ref k2, .ref kc, .ref kl, .ref ku, .int (nI mo), .int (nI kn)]))]) (wr := [(o, .inr (11, [.ref pr, .ref su, .ref ta, .ref la, .ref t, .ref mk, .ref tb, .ref sa])), (tb, .inr (8, [.ref pr, .ref su, .ref ta, .ref la, .ref bnw, .ref ac, .ref en, .ref sr, .ref ro, .ref si, .ref br, .ref bjo, .int (nI R), .int (zi false), .int (zi sg)]))]) [2, 3] [0, 1] hK hP hD hS hA rfl rfl (by decide) (by decide) (va_runV (As := []) (rest := []) ⟨hx, hb, hml, hown, ht⟩ (kStates_forget l D cI cZ cJ sa pr su ta wr on sjo so kp k1 k2 kc kl ku mo kn _) (⟨callB_of 0 ht (TB_in2 gN_States_forget) rfl rfl rfl (ht _ mw_10) (ht _ mw_559) (by decide +kernel) ⟨Nat.le_of_ble_eq_true rfl, Nat.le_of_ble_eq_true rfl⟩, ht _ mw_560, ht _ mw_561⟩) (vx_preV [2, 3] hK hP hD (by decide) rfl (ci := 6) rfl 2 rfl) rfl rfl hl.1 rfl (lv_room (Nat.le_of_ble_eq_true rfl)) dN_Mach_forgetWhatWasMade_11 ⟨Nat.le_of_ble_eq_true rfl, Nat.le_of_ble_eq_true rfl⟩) (fun w1 H locs hq hP hD hS => ?_)
  subst hq
  have hP : va_P D clN [(o, .inr (11, [.ref pr, .ref su, .ref ta, .ref la, .ref t, .ref mk, .ref tb, .ref sa])), (tb, .inr (8, [.ref pr, .ref su, .ref ta, .ref la, .ref bnw, .ref ac, .ref en, .ref sr, .ref ro, .ref si, .ref br, .ref bjo, .int (nI R), .int (zi false), .int (zi sg)])), (sa, .inr (6, [.ref pr, .ref su, .ref ta, .ref kp, .ref wr, .ref on, .ref sjo, .int (nI so)])), (kp, .inr (1, [.ref k1, .ref k2, .ref kc, .ref kl, .ref ku, .int (nI mo), .int (nI 0)]))] H := hP.sub [0, 1, 2, 3] rfl
  have hD : va_D A [(o, .inr (11, [.ref pr, .ref su, .ref ta, .ref la, .ref t, .ref mk, .ref tb, .ref sa])), (tb, .inr (8, [.ref pr, .ref su, .ref ta, .ref la, .ref bnw, .ref ac, .ref en, .ref sr, .ref ro, .ref si, .ref br, .ref bjo, .int (nI R), .int (zi false), .int (zi sg)])), (sa, .inr (6, [.ref pr, .ref su, .ref ta, .ref kp, .ref wr, .ref on, .ref sjo, .int (nI so)])), (kp, .inr (1, [.ref k1, .ref k2, .ref kc, .ref kl, .ref ku, .int (nI mo), .int (nI 0)]))] := hD.sub [0, 1, 2, 3] (by decide) rfl
  exact vx_vret C hK hP hD hS dN_Mach_forgetWhatWasMade_14 (Nat.le_of_ble_eq_true rfl) (Nat.le_of_ble_eq_true rfl) (rfl)
set_option maxHeartbeats 4000000 in
set_option maxRecDepth 100000 in
/-- lay, refused -/
theorem kMach_lay_bad (l : Launch) (hl0 : l.stackTraces = false) (D : va_G) (cI cZ cJ : ClassId) (o pr su ta la t mk tb sa : Nat) (x : Int32) (hbad : layB x = true) : vx_Mx l yN_Mach_lay wN_Mach_lay ({ frames := 6, cells := 1, slots := 6, locals := 100 }) xW_N "StepMachines" xS_N D clN (tyN cI cZ cJ) [.ref o, .int x] [(o, .inr (11, [.ref pr, .ref su, .ref ta, .ref la, .ref t, .ref mk, .ref tb, .ref sa]))] eN_IAE (fun w => w = [(o, .inr (11, [.ref pr, .ref su, .ref ta, .ref la, .ref t, .ref mk, .ref tb, .ref sa]))]) := by
  refine vx_startX (cc := cN_Mach_lay) (maxL := 2) (ret := none) hl0 (by decide) rfl (Nat.le_of_ble_eq_true rfl) ?_
  intro p_0 e_0 s m below meth c_0 A ls C Z hK hP hD hS hA hl
  obtain ⟨hx, hb, hr, hml, hown, hts, hlocks, hnm⟩ := id C
  have hown : s.vm.findClass "StepMachines" = some m.cls := hown
  have ht : ∀ w ∈ TB, w.before _ s = true := fun w h => hts w (List.mem_cons_of_mem _ h)
  have hl : lv_has ls 2 [(0, .ref o), (1, .int x)] := hl
  refine lv_iload_n hx hb dN_Mach_lay_0 rfl (lv_at hl 1 rfl) ?_
  refine lv_iconst (v := (nI 1)) hx hb dN_Mach_lay_1 (by decide) ?_
  refine lv_icmp_lt (tgt := 12) hx hb dN_Mach_lay_2 (by decide) (fun c_2_0 => ?_) (fun c_2_0 => ?_)
  · skip
    exact vx_throw (X := eN_IAE) (names := eN_up) rfl C Z hK hP hD hS hA (TB_gd gN_Mach_lay) (fun q h => (ea_IAE q h).imp (List.mem_cons_of_mem _) id) (by decide +kernel) (by decide +kernel) (List.mem_cons_of_mem _ mw_472) (List.mem_cons_of_mem _ mw_18) xs_74 dN_Mach_lay_12 dN_Mach_lay_15 dN_Mach_lay_16 dN_Mach_lay_18 dN_Mach_lay_21 hl.1 (Nat.le_of_ble_eq_true rfl) (Nat.le_of_ble_eq_true rfl) (Nat.le_of_ble_eq_true rfl) (Nat.le_of_ble_eq_true rfl) (Nat.le_of_ble_eq_true rfl) (Nat.le_of_ble_eq_true rfl) (rfl)
  · skip
    refine lv_iload_n hx hb dN_Mach_lay_5 rfl (lv_at hl 1 rfl) ?_
    refine lv_sipush (v := (nI 200)) hx hb dN_Mach_lay_6 (by decide) ?_
    refine lv_icmp_le (tgt := 22) hx hb dN_Mach_lay_9 (by decide) (fun c_9_1 => ?_) (fun c_9_1 => ?_)
    · skip
      exact absurd hbad (by simp [layB, c_2_0, c_9_1, Int32.not_lt.mpr c_9_1])
    · skip
      exact vx_throw (X := eN_IAE) (names := eN_up) rfl C Z hK hP hD hS hA (TB_gd gN_Mach_lay) (fun q h => (ea_IAE q h).imp (List.mem_cons_of_mem _) id) (by decide +kernel) (by decide +kernel) (List.mem_cons_of_mem _ mw_472) (List.mem_cons_of_mem _ mw_18) xs_74 dN_Mach_lay_12 dN_Mach_lay_15 dN_Mach_lay_16 dN_Mach_lay_18 dN_Mach_lay_21 hl.1 (Nat.le_of_ble_eq_true rfl) (Nat.le_of_ble_eq_true rfl) (Nat.le_of_ble_eq_true rfl) (Nat.le_of_ble_eq_true rfl) (Nat.le_of_ble_eq_true rfl) (Nat.le_of_ble_eq_true rfl) (rfl)
set_option maxHeartbeats 4000000 in
set_option maxRecDepth 100000 in
/-- lay, done -/
theorem kMach_lay (l : Launch) (D : va_G) (cI cZ cJ : ClassId) (o pr pK pV pF pS su sb ta la t mk tb bnw ac en sr ro si br bjo sa kp k1 k2 kc kl ku wr on sjo : Nat) (n b R so mo kn : Nat) (md sg : Bool) (kC vC fC sC : Nat → Nat) (n2 : Nat) (h1 : 1 ≤ n2) (h2 : n2 ≤ 200) : vx_Mv l yN_Mach_lay wN_Mach_lay ({ frames := 3, cells := 0, slots := 0, locals := 68 }) D clN (tyN cI cZ cJ) [.ref o, .int (nI n2)] [(o, .inr (11, [.ref pr, .ref su, .ref ta, .ref la, .ref t, .ref mk, .ref tb, .ref sa])), (pr, .inr (4, [.ref pK, .ref pV, .ref pF, .ref pS, .int (nI n), .int (nI b)])), (pK, .inl (cI, 200, .inl (ni kC))), (pV, .inl (cI, 200, .inl (ni vC))), (pF, .inl (cI, 200, .inl (ni fC))), (pS, .inl (cI, 200, .inl (ni sC))), (tb, .inr (8, [.ref pr, .ref su, .ref ta, .ref la, .ref bnw, .ref ac, .ref en, .ref sr, .ref ro, .ref si, .ref br, .ref bjo, .int (nI R), .int (zi md), .int (zi sg)])), (sa, .inr (6, [.ref pr, .ref su, .ref ta, .ref kp, .ref wr, .ref on, .ref sjo, .int (nI so)])), (kp, .inr (1, [.ref k1, .ref k2, .ref kc, .ref kl, .ref ku, .int (nI mo), .int (nI kn)]))] (fun w => w = [(o, .inr (11, [.ref pr, .ref su, .ref ta, .ref la, .ref t, .ref mk, .ref tb, .ref sa])), (pr, .inr (4, [.ref pK, .ref pV, .ref pF, .ref pS, .int (nI n2), .int (nI 0)])), (pK, .inl (cI, 200, .inl (ni (lyC kC 5 n2)))), (pV, .inl (cI, 200, .inl (ni (lyC vC 0 n2)))), (pF, .inl (cI, 200, .inl (ni (lyC fC 0 n2)))), (pS, .inl (cI, 200, .inl (ni (lyC sC 0 n2)))), (tb, .inr (8, [.ref pr, .ref su, .ref ta, .ref la, .ref bnw, .ref ac, .ref en, .ref sr, .ref ro, .ref si, .ref br, .ref bjo, .int (nI R), .int (zi false), .int (zi sg)])), (sa, .inr (6, [.ref pr, .ref su, .ref ta, .ref kp, .ref wr, .ref on, .ref sjo, .int (nI so)])), (kp, .inr (1, [.ref k1, .ref k2, .ref kc, .ref kl, .ref ku, .int (nI mo), .int (nI 0)]))]) := by
  refine vx_startV (cc := cN_Mach_lay) (maxL := 2) (ret := none) (by decide) rfl (Nat.le_of_ble_eq_true rfl) ?_
  intro p_0 e_0 s m below meth c_0 A ls C hK hP hD hS hA hl
  obtain ⟨hx, hb, hr, hml, hown, hts, hlocks, hnm⟩ := id C
  have hown : s.vm.findClass "StepMachines" = some m.cls := hown
  have ht : ∀ w ∈ TB, w.before _ s = true := fun w h => hts w (List.mem_cons_of_mem _ h)
  have hl : lv_has ls 2 [(0, .ref o), (1, .int (nI n2))] := hl
  refine lv_iload_n hx hb dN_Mach_lay_0 rfl (lv_at hl 1 rfl) ?_
  refine lv_iconst (v := (nI 1)) hx hb dN_Mach_lay_1 (by decide) ?_
  refine xn_lt (tgt := 12) hx hb dN_Mach_lay_2 (by decide) (by omega) (by omega) (fun c_2_0 => ?_) (fun c_2_0 => ?_)
  · skip
    exact absurd c_2_0 (by omega)
  · skip
    refine lv_iload_n hx hb dN_Mach_lay_5 rfl (lv_at hl 1 rfl) ?_
    refine lv_sipush (v := (nI 200)) hx hb dN_Mach_lay_6 (by decide) ?_
    refine xn_le (tgt := 22) hx hb dN_Mach_lay_9 (by decide) (by omega) (by omega) (fun c_9_1 => ?_) (fun c_9_1 => ?_)
    · skip
      refine lv_aload_n hx hb dN_Mach_lay_22 rfl (lv_at hl 0 rfl) ?_
      refine va_get (D := D) (ci := 11) (v := .ref pr) (C := RN_Mach) (T := FN_Mach) (N := 8) hx hb ht fN_Mach hown hK hP 0 rfl rfl 0 (by decide) (ht _ mw_319) (fun _ h9 => h9) rfl dN_Mach_lay_23 ?_
      refine lv_iload_n hx hb dN_Mach_lay_26 rfl (lv_at hl 1 rfl) ?_
      refine vx_callv (wc := [(pr, .inr (4, [.ref pK, .ref pV, .ref pF, .ref pS, .int (nI n), .int (nI b)])), (pK, .inl (cI, 200, .inl (ni kC))), (pV, .inl (cI, 200, .inl (ni vC))), (pF, .inl (cI, 200, .inl (ni fC))), (pS, .inl (cI, 200, .inl (ni sC)))]) (wr := [(o, .inr (11, [.ref pr, .ref su, .ref ta, .ref la, .ref t, .ref mk, .ref tb, .ref sa])), (tb, .inr (8, [.ref pr, .ref su, .ref ta, .ref la, .ref bnw, .ref ac, .ref en, .ref sr, .ref ro, .ref si, .ref br, .ref bjo, .int (nI R), .int (zi md), .int (zi sg)])), (sa, .inr (6, [.ref pr, .ref su, .ref ta, .ref kp, .ref wr, .ref on, .ref sjo, .int (nI so)])), (kp, .inr (1, [.ref k1, .ref k2, .ref kc, .ref kl, .ref ku, .int (nI mo), .int (nI kn)]))]) [1, 2, 3, 4, 5] [0, 6, 7, 8] hK hP hD hS hA rfl rfl (by decide) (by decide) (va_runV (As := [.int (nI n2)]) (rest := []) ⟨hx, hb, hml, hown, ht⟩ (kProgram_layOut l D cI cZ cJ pr pK pV pF pS n b kC vC fC sC n2 h1 h2 _) (⟨callB_of 1 ht (TB_in2 gN_Program_layOut) rfl rfl rfl (ht _ mw_2) (ht _ mw_539) (by decide +kernel) ⟨Nat.le_of_ble_eq_true rfl, Nat.le_of_ble_eq_true rfl⟩, ht _ mw_540, ht _ mw_541⟩) (vx_preV [1, 2, 3, 4, 5] hK hP hD (by decide) rfl (ci := 4) rfl 1 rfl) rfl rfl hl.1 rfl (lv_room (Nat.le_of_ble_eq_true rfl)) dN_Mach_lay_27 ⟨Nat.le_of_ble_eq_true rfl, Nat.le_of_ble_eq_true rfl⟩) (fun w1 H locs hq hP hD hS => ?_)
      subst hq
      have hP : va_P D clN [(o, .inr (11, [.ref pr, .ref su, .ref ta, .ref la, .ref t, .ref mk, .ref tb, .ref sa])), (pr, .inr (4, [.ref pK, .ref pV, .ref pF, .ref pS, .int (nI n2), .int (nI 0)])), (pK, .inl (cI, 200, .inl (ni (lyC kC 5 n2)))), (pV, .inl (cI, 200, .inl (ni (lyC vC 0 n2)))), (pF, .inl (cI, 200, .inl (ni (lyC fC 0 n2)))), (pS, .inl (cI, 200, .inl (ni (lyC sC 0 n2)))), (tb, .inr (8, [.ref pr, .ref su, .ref ta, .ref la, .ref bnw, .ref ac, .ref en, .ref sr, .ref ro, .ref si, .ref br, .ref bjo, .int (nI R), .int (zi md), .int (zi sg)])), (sa, .inr (6, [.ref pr, .ref su, .ref ta, .ref kp, .ref wr, .ref on, .ref sjo, .int (nI so)])), (kp, .inr (1, [.ref k1, .ref k2, .ref kc, .ref kl, .ref ku, .int (nI mo), .int (nI kn)]))] H := hP.sub [0, 4, 5, 6, 7, 8, 1, 2, 3] rfl
      have hD : va_D A [(o, .inr (11, [.ref pr, .ref su, .ref ta, .ref la, .ref t, .ref mk, .ref tb, .ref sa])), (pr, .inr (4, [.ref pK, .ref pV, .ref pF, .ref pS, .int (nI n2), .int (nI 0)])), (pK, .inl (cI, 200, .inl (ni (lyC kC 5 n2)))), (pV, .inl (cI, 200, .inl (ni (lyC vC 0 n2)))), (pF, .inl (cI, 200, .inl (ni (lyC fC 0 n2)))), (pS, .inl (cI, 200, .inl (ni (lyC sC 0 n2)))), (tb, .inr (8, [.ref pr, .ref su, .ref ta, .ref la, .ref bnw, .ref ac, .ref en, .ref sr, .ref ro, .ref si, .ref br, .ref bjo, .int (nI R), .int (zi md), .int (zi sg)])), (sa, .inr (6, [.ref pr, .ref su, .ref ta, .ref kp, .ref wr, .ref on, .ref sjo, .int (nI so)])), (kp, .inr (1, [.ref k1, .ref k2, .ref kc, .ref kl, .ref ku, .int (nI mo), .int (nI kn)]))] := hD.sub [0, 4, 5, 6, 7, 8, 1, 2, 3] (by decide) rfl
      refine lv_aload_n hx hb dN_Mach_lay_30 rfl (lv_at hl 0 rfl) ?_
      refine vx_callv (wc := [(o, .inr (11, [.ref pr, .ref su, .ref ta, .ref la, .ref t, .ref mk, .ref tb, .ref sa])), (tb, .inr (8, [.ref pr, .ref su, .ref ta, .ref la, .ref bnw, .ref ac, .ref en, .ref sr, .ref ro, .ref si, .ref br, .ref bjo, .int (nI R), .int (zi md), .int (zi sg)])), (sa, .inr (6, [.ref pr, .ref su, .ref ta, .ref kp, .ref wr, .ref on, .ref sjo, .int (nI so)])), (kp, .inr (1, [.ref k1, .ref k2, .ref kc, .ref kl, .ref ku, .int (nI mo), .int (nI kn)]))]) (wr := [(pr, .inr (4, [.ref pK, .ref pV, .ref pF, .ref pS, .int (nI n2), .int (nI 0)])), (pK, .inl (cI, 200, .inl (ni (lyC kC 5 n2)))), (pV, .inl (cI, 200, .inl (ni (lyC vC 0 n2)))), (pF, .inl (cI, 200, .inl (ni (lyC fC 0 n2)))), (pS, .inl (cI, 200, .inl (ni (lyC sC 0 n2))))]) [0, 6, 7, 8] [1, 2, 3, 4, 5] hK hP hD hS hA rfl rfl (by decide) (by decide) (va_runV (As := []) (rest := []) ⟨hx, hb, hml, hown, ht⟩ (kMach_forget l D cI cZ cJ o pr pK pV pF pS su sb ta la t mk tb bnw ac en sr ro si br bjo sa kp k1 k2 kc kl ku wr on sjo R so mo kn md sg _) (⟨callB_of 0 ht (TB_in2 gN_Mach_forgetWhatWasMade) rfl rfl rfl (ht _ mw_1) (ht _ mw_551) (by decide +kernel) ⟨Nat.le_of_ble_eq_true rfl, Nat.le_of_ble_eq_true rfl⟩, ht _ mw_553, ht _ ms_7⟩) (vx_preV [0, 6, 7, 8] hK hP hD (by decide) rfl (ci := 11) rfl 0 rfl) rfl rfl hl.1 rfl (lv_room (Nat.le_of_ble_eq_true rfl)) dN_Mach_lay_31 ⟨Nat.le_of_ble_eq_true rfl, Nat.le_of_ble_eq_true rfl⟩) (fun w1 H locs hq hP hD hS => ?_)
      subst hq
      have hP : va_P D clN [(o, .inr (11, [.ref pr, .ref su, .ref ta, .ref la, .ref t, .ref mk, .ref tb, .ref sa])), (pr, .inr (4, [.ref pK, .ref pV, .ref pF, .ref pS, .int (nI n2), .int (nI 0)])), (pK, .inl (cI, 200, .inl (ni (lyC kC 5 n2)))), (pV, .inl (cI, 200, .inl (ni (lyC vC 0 n2)))), (pF, .inl (cI, 200, .inl (ni (lyC fC 0 n2)))), (pS, .inl (cI, 200, .inl (ni (lyC sC 0 n2)))), (tb, .inr (8, [.ref pr, .ref su, .ref ta, .ref la, .ref bnw, .ref ac, .ref en, .ref sr, .ref ro, .ref si, .ref br, .ref bjo, .int (nI R), .int (zi false), .int (zi sg)])), (sa, .inr (6, [.ref pr, .ref su, .ref ta, .ref kp, .ref wr, .ref on, .ref sjo, .int (nI so)])), (kp, .inr (1, [.ref k1, .ref k2, .ref kc, .ref kl, .ref ku, .int (nI mo), .int (nI 0)]))] H := hP.sub [5, 0, 1, 2, 3, 4, 6, 7, 8] rfl
      have hD : va_D A [(o, .inr (11, [.ref pr, .ref su, .ref ta, .ref la, .ref t, .ref mk, .ref tb, .ref sa])), (pr, .inr (4, [.ref pK, .ref pV, .ref pF, .ref pS, .int (nI n2), .int (nI 0)])), (pK, .inl (cI, 200, .inl (ni (lyC kC 5 n2)))), (pV, .inl (cI, 200, .inl (ni (lyC vC 0 n2)))), (pF, .inl (cI, 200, .inl (ni (lyC fC 0 n2)))), (pS, .inl (cI, 200, .inl (ni (lyC sC 0 n2)))), (tb, .inr (8, [.ref pr, .ref su, .ref ta, .ref la, .ref bnw, .ref ac, .ref en, .ref sr, .ref ro, .ref si, .ref br, .ref bjo, .int (nI R), .int (zi false), .int (zi sg)])), (sa, .inr (6, [.ref pr, .ref su, .ref ta, .ref kp, .ref wr, .ref on, .ref sjo, .int (nI so)])), (kp, .inr (1, [.ref k1, .ref k2, .ref kc, .ref kl, .ref ku, .int (nI mo), .int (nI 0)]))] := hD.sub [5, 0, 1, 2, 3, 4, 6, 7, 8] (by decide) rfl
      exact vx_vret C hK hP hD hS dN_Mach_lay_34 (Nat.le_of_ble_eq_true rfl) (Nat.le_of_ble_eq_true rfl) (rfl)
    · skip
      exact absurd c_9_1 (by omega)
set_option maxHeartbeats 4000000 in
set_option maxRecDepth 100000 in
/-- begin, refused -/
theorem kMach_begin_bad (l : Launch) (hl0 : l.stackTraces = false) (D : va_G) (cI cZ cJ : ClassId) (o pr pK pV pF pS su ta la t mk tb sa n b : Nat) (x : Int32) (hbad : stepB n x = false) : vx_Mx l yN_Mach_begin wN_Mach_begin ({ frames := 6, cells := 1, slots := 6, locals := 100 }) xW_N "StepMachines" xS_N D clN (tyN cI cZ cJ) [.ref o, .int x] [(o, .inr (11, [.ref pr, .ref su, .ref ta, .ref la, .ref t, .ref mk, .ref tb, .ref sa])), (pr, .inr (4, [.ref pK, .ref pV, .ref pF, .ref pS, .int (nI n), .int (nI b)]))] eN_IOB (fun w => w = [(o, .inr (11, [.ref pr, .ref su, .ref ta, .ref la, .ref t, .ref mk, .ref tb, .ref sa])), (pr, .inr (4, [.ref pK, .ref pV, .ref pF, .ref pS, .int (nI n), .int (nI b)]))]) := by
  refine vx_startX (cc := cN_Mach_begin) (maxL := 2) (ret := none) hl0 (by decide) rfl (Nat.le_of_ble_eq_true rfl) ?_
  intro p_0 e_0 s m below meth c_0 A ls C Z hK hP hD hS hA hl
  obtain ⟨hx, hb, hr, hml, hown, hts, hlocks, hnm⟩ := id C
  have hown : s.vm.findClass "StepMachines" = some m.cls := hown
  have ht : ∀ w ∈ TB, w.before _ s = true := fun w h => hts w (List.mem_cons_of_mem _ h)
  have hl : lv_has ls 2 [(0, .ref o), (1, .int x)] := hl
  refine lv_aload_n hx hb dN_Mach_begin_0 rfl (lv_at hl 0 rfl) ?_
  refine va_get (D := D) (ci := 11) (v := .ref pr) (C := RN_Mach) (T := FN_Mach) (N := 8) hx hb ht fN_Mach hown hK hP 0 rfl rfl 0 (by decide) (ht _ mw_319) (fun _ h9 => h9) rfl dN_Mach_begin_1 ?_
  refine lv_iload_n hx hb dN_Mach_begin_4 rfl (lv_at hl 1 rfl) ?_
  refine vx_calli (wc := [(pr, .inr (4, [.ref pK, .ref pV, .ref pF, .ref pS, .int (nI n), .int (nI b)]))]) (wr := [(o, .inr (11, [.ref pr, .ref su, .ref ta, .ref la, .ref t, .ref mk, .ref tb, .ref sa]))]) [1] [0] hK hP hD hS hA rfl rfl (by decide) (by decide) (va_runV (As := [.int x]) (rest := []) ⟨hx, hb, hml, hown, ht⟩ (kProgram_has l D cI cZ cJ pr pK pV pF pS n b (x) _) (⟨callB_of 1 ht (TB_in2 gN_Program_has) rfl rfl rfl (ht _ mw_2) (ht _ mw_575) (by decide +kernel) ⟨Nat.le_of_ble_eq_true rfl, Nat.le_of_ble_eq_true rfl⟩, ht _ mw_390, ht _ mw_391⟩) (vx_preV [1] hK hP hD (by decide) rfl (ci := 4) rfl 1 rfl) rfl rfl hl.1 rfl (lv_room (Nat.le_of_ble_eq_true rfl)) dN_Mach_begin_5 ⟨Nat.le_of_ble_eq_true rfl, Nat.le_of_ble_eq_true rfl⟩) (fun r1 w1 H locs hq hP hD hS => ?_)
  obtain ⟨rfl, rfl⟩ := hq
  have hP : va_P D clN [(o, .inr (11, [.ref pr, .ref su, .ref ta, .ref la, .ref t, .ref mk, .ref tb, .ref sa])), (pr, .inr (4, [.ref pK, .ref pV, .ref pF, .ref pS, .int (nI n), .int (nI b)]))] H := hP.sub [0, 1] rfl
  have hD : va_D A [(o, .inr (11, [.ref pr, .ref su, .ref ta, .ref la, .ref t, .ref mk, .ref tb, .ref sa])), (pr, .inr (4, [.ref pK, .ref pV, .ref pF, .ref pS, .int (nI n), .int (nI b)]))] := hD.sub [0, 1] (by decide) rfl
  refine xz_ne0 (tgt := 21) hx hb dN_Mach_begin_8 (by decide) (fun c_8_0 => ?_) (fun c_8_0 => ?_)
  · skip
    exact absurd hbad (by rw [c_8_0]; decide)
  · skip
    exact vx_throw (X := eN_IOB) (names := eN_up) rfl C Z hK hP hD hS hA (TB_gd gN_Mach_begin) (fun q h => (ea_IOB q h).imp (List.mem_cons_of_mem _) id) (by decide +kernel) (by decide +kernel) (List.mem_cons_of_mem _ mw_576) (List.mem_cons_of_mem _ mw_20) xs_111 dN_Mach_begin_11 dN_Mach_begin_14 dN_Mach_begin_15 dN_Mach_begin_17 dN_Mach_begin_20 hl.1 (Nat.le_of_ble_eq_true rfl) (Nat.le_of_ble_eq_true rfl) (Nat.le_of_ble_eq_true rfl) (Nat.le_of_ble_eq_true rfl) (Nat.le_of_ble_eq_true rfl) (Nat.le_of_ble_eq_true rfl) (rfl)
set_option maxHeartbeats 4000000 in
set_option maxRecDepth 100000 in
/-- begin, done -/
theorem kMach_begin (l : Launch) (D : va_G) (cI cZ cJ : ClassId) (o pr pK pV pF pS su sb ta la t mk tb bnw ac en sr ro si br bjo sa kp k1 k2 kc kl ku wr on sjo : Nat) (n b R so mo kn : Nat) (md sg : Bool) (k : Nat) (hn : n ≤ 200) (hk : k < n) : vx_Mv l yN_Mach_begin wN_Mach_begin ({ frames := 3, cells := 0, slots := 0, locals := 60 }) D clN (tyN cI cZ cJ) [.ref o, .int (nI k)] [(o, .inr (11, [.ref pr, .ref su, .ref ta, .ref la, .ref t, .ref mk, .ref tb, .ref sa])), (pr, .inr (4, [.ref pK, .ref pV, .ref pF, .ref pS, .int (nI n), .int (nI b)])), (tb, .inr (8, [.ref pr, .ref su, .ref ta, .ref la, .ref bnw, .ref ac, .ref en, .ref sr, .ref ro, .ref si, .ref br, .ref bjo, .int (nI R), .int (zi md), .int (zi sg)])), (sa, .inr (6, [.ref pr, .ref su, .ref ta, .ref kp, .ref wr, .ref on, .ref sjo, .int (nI so)])), (kp, .inr (1, [.ref k1, .ref k2, .ref kc, .ref kl, .ref ku, .int (nI mo), .int (nI kn)]))] (fun w => w = [(o, .inr (11, [.ref pr, .ref su, .ref ta, .ref la, .ref t, .ref mk, .ref tb, .ref sa])), (pr, .inr (4, [.ref pK, .ref pV, .ref pF, .ref pS, .int (nI n), .int (nI k)])), (tb, .inr (8, [.ref pr, .ref su, .ref ta, .ref la, .ref bnw, .ref ac, .ref en, .ref sr, .ref ro, .ref si, .ref br, .ref bjo, .int (nI R), .int (zi false), .int (zi sg)])), (sa, .inr (6, [.ref pr, .ref su, .ref ta, .ref kp, .ref wr, .ref on, .ref sjo, .int (nI so)])), (kp, .inr (1, [.ref k1, .ref k2, .ref kc, .ref kl, .ref ku, .int (nI mo), .int (nI 0)]))]) := by
  refine vx_startV (cc := cN_Mach_begin) (maxL := 2) (ret := none) (by decide) rfl (Nat.le_of_ble_eq_true rfl) ?_
  intro p_0 e_0 s m below meth c_0 A ls C hK hP hD hS hA hl
  obtain ⟨hx, hb, hr, hml, hown, hts, hlocks, hnm⟩ := id C
  have hown : s.vm.findClass "StepMachines" = some m.cls := hown
  have ht : ∀ w ∈ TB, w.before _ s = true := fun w h => hts w (List.mem_cons_of_mem _ h)
  have hl : lv_has ls 2 [(0, .ref o), (1, .int (nI k))] := hl
  refine lv_aload_n hx hb dN_Mach_begin_0 rfl (lv_at hl 0 rfl) ?_
  refine va_get (D := D) (ci := 11) (v := .ref pr) (C := RN_Mach) (T := FN_Mach) (N := 8) hx hb ht fN_Mach hown hK hP 0 rfl rfl 0 (by decide) (ht _ mw_319) (fun _ h9 => h9) rfl dN_Mach_begin_1 ?_
  refine lv_iload_n hx hb dN_Mach_begin_4 rfl (lv_at hl 1 rfl) ?_
  refine vx_calli (wc := [(pr, .inr (4, [.ref pK, .ref pV, .ref pF, .ref pS, .int (nI n), .int (nI b)]))]) (wr := [(o, .inr (11, [.ref pr, .ref su, .ref ta, .ref la, .ref t, .ref mk, .ref tb, .ref sa])), (tb, .inr (8, [.ref pr, .ref su, .ref ta, .ref la, .ref bnw, .ref ac, .ref en, .ref sr, .ref ro, .ref si, .ref br, .ref bjo, .int (nI R), .int (zi md), .int (zi sg)])), (sa, .inr (6, [.ref pr, .ref su, .ref ta, .ref kp, .ref wr, .ref on, .ref sjo, .int (nI so)])), (kp, .inr (1, [.ref k1, .ref k2, .ref kc, .ref kl, .ref ku, .int (nI mo), .int (nI kn)]))]) [1] [0, 2, 3, 4] hK hP hD hS hA rfl rfl (by decide) (by decide) (va_runV (As := [.int (nI k)]) (rest := []) ⟨hx, hb, hml, hown, ht⟩ (kProgram_has l D cI cZ cJ pr pK pV pF pS n b (nI k) _) (⟨callB_of 1 ht (TB_in2 gN_Program_has) rfl rfl rfl (ht _ mw_2) (ht _ mw_575) (by decide +kernel) ⟨Nat.le_of_ble_eq_true rfl, Nat.le_of_ble_eq_true rfl⟩, ht _ mw_390, ht _ mw_391⟩) (vx_preV [1] hK hP hD (by decide) rfl (ci := 4) rfl 1 rfl) rfl rfl hl.1 rfl (lv_room (Nat.le_of_ble_eq_true rfl)) dN_Mach_begin_5 ⟨Nat.le_of_ble_eq_true rfl, Nat.le_of_ble_eq_true rfl⟩) (fun r1 w1 H locs hq hP hD hS => ?_)
  obtain ⟨rfl, rfl⟩ := hq
  have hP : va_P D clN [(o, .inr (11, [.ref pr, .ref su, .ref ta, .ref la, .ref t, .ref mk, .ref tb, .ref sa])), (pr, .inr (4, [.ref pK, .ref pV, .ref pF, .ref pS, .int (nI n), .int (nI b)])), (tb, .inr (8, [.ref pr, .ref su, .ref ta, .ref la, .ref bnw, .ref ac, .ref en, .ref sr, .ref ro, .ref si, .ref br, .ref bjo, .int (nI R), .int (zi md), .int (zi sg)])), (sa, .inr (6, [.ref pr, .ref su, .ref ta, .ref kp, .ref wr, .ref on, .ref sjo, .int (nI so)])), (kp, .inr (1, [.ref k1, .ref k2, .ref kc, .ref kl, .ref ku, .int (nI mo), .int (nI kn)]))] H := hP.sub [0, 4, 1, 2, 3] rfl
  have hD : va_D A [(o, .inr (11, [.ref pr, .ref su, .ref ta, .ref la, .ref t, .ref mk, .ref tb, .ref sa])), (pr, .inr (4, [.ref pK, .ref pV, .ref pF, .ref pS, .int (nI n), .int (nI b)])), (tb, .inr (8, [.ref pr, .ref su, .ref ta, .ref la, .ref bnw, .ref ac, .ref en, .ref sr, .ref ro, .ref si, .ref br, .ref bjo, .int (nI R), .int (zi md), .int (zi sg)])), (sa, .inr (6, [.ref pr, .ref su, .ref ta, .ref kp, .ref wr, .ref on, .ref sjo, .int (nI so)])), (kp, .inr (1, [.ref k1, .ref k2, .ref kc, .ref kl, .ref ku, .int (nI mo), .int (nI kn)]))] := hD.sub [0, 4, 1, 2, 3] (by decide) rfl
  refine xz_ne0 (tgt := 21) hx hb dN_Mach_begin_8 (by decide) (fun c_8_0 => ?_) (fun c_8_0 => ?_)
  · skip
    refine lv_aload_n hx hb dN_Mach_begin_21 rfl (lv_at hl 0 rfl) ?_
    refine va_get (D := D) (ci := 11) (v := .ref pr) (C := RN_Mach) (T := FN_Mach) (N := 8) hx hb ht fN_Mach hown hK hP 0 rfl rfl 0 (by decide) (ht _ mw_319) (fun _ h9 => h9) rfl dN_Mach_begin_22 ?_
    refine lv_iload_n hx hb dN_Mach_begin_25 rfl (lv_at hl 1 rfl) ?_
    refine vx_callv (wc := [(pr, .inr (4, [.ref pK, .ref pV, .ref pF, .ref pS, .int (nI n), .int (nI b)]))]) (wr := [(o, .inr (11, [.ref pr, .ref su, .ref ta, .ref la, .ref t, .ref mk, .ref tb, .ref sa])), (tb, .inr (8, [.ref pr, .ref su, .ref ta, .ref la, .ref bnw, .ref ac, .ref en, .ref sr, .ref ro, .ref si, .ref br, .ref bjo, .int (nI R), .int (zi md), .int (zi sg)])), (sa, .inr (6, [.ref pr, .ref su, .ref ta, .ref kp, .ref wr, .ref on, .ref sjo, .int (nI so)])), (kp, .inr (1, [.ref k1, .ref k2, .ref kc, .ref kl, .ref ku, .int (nI mo), .int (nI kn)]))]) [1] [0, 2, 3, 4] hK hP hD hS hA rfl rfl (by decide) (by decide) (va_runV (As := [.int (nI k)]) (rest := []) ⟨hx, hb, hml, hown, ht⟩ (kProgram_beginWith l D cI cZ cJ pr pK pV pF pS n b k hk hn _) (⟨callB_of 1 ht (TB_in2 gN_Program_beginWith) rfl rfl rfl (ht _ mw_2) (ht _ mw_609) (by decide +kernel) ⟨Nat.le_of_ble_eq_true rfl, Nat.le_of_ble_eq_true rfl⟩, ht _ mw_610, ht _ mw_611⟩) (vx_preV [1] hK hP hD (by decide) rfl (ci := 4) rfl 1 rfl) rfl rfl hl.1 rfl (lv_room (Nat.le_of_ble_eq_true rfl)) dN_Mach_begin_26 ⟨Nat.le_of_ble_eq_true rfl, Nat.le_of_ble_eq_true rfl⟩) (fun w1 H locs hq hP hD hS => ?_)
    subst hq
    have hP : va_P D clN [(o, .inr (11, [.ref pr, .ref su, .ref ta, .ref la, .ref t, .ref mk, .ref tb, .ref sa])), (pr, .inr (4, [.ref pK, .ref pV, .ref pF, .ref pS, .int (nI n), .int (nI k)])), (tb, .inr (8, [.ref pr, .ref su, .ref ta, .ref la, .ref bnw, .ref ac, .ref en, .ref sr, .ref ro, .ref si, .ref br, .ref bjo, .int (nI R), .int (zi md), .int (zi sg)])), (sa, .inr (6, [.ref pr, .ref su, .ref ta, .ref kp, .ref wr, .ref on, .ref sjo, .int (nI so)])), (kp, .inr (1, [.ref k1, .ref k2, .ref kc, .ref kl, .ref ku, .int (nI mo), .int (nI kn)]))] H := hP.sub [0, 4, 1, 2, 3] rfl
    have hD : va_D A [(o, .inr (11, [.ref pr, .ref su, .ref ta, .ref la, .ref t, .ref mk, .ref tb, .ref sa])), (pr, .inr (4, [.ref pK, .ref pV, .ref pF, .ref pS, .int (nI n), .int (nI k)])), (tb, .inr (8, [.ref pr, .ref su, .ref ta, .ref la, .ref bnw, .ref ac, .ref en, .ref sr, .ref ro, .ref si, .ref br, .ref bjo, .int (nI R), .int (zi md), .int (zi sg)])), (sa, .inr (6, [.ref pr, .ref su, .ref ta, .ref kp, .ref wr, .ref on, .ref sjo, .int (nI so)])), (kp, .inr (1, [.ref k1, .ref k2, .ref kc, .ref kl, .ref ku, .int (nI mo), .int (nI kn)]))] := hD.sub [0, 4, 1, 2, 3] (by decide) rfl
    refine lv_aload_n hx hb dN_Mach_begin_29 rfl (lv_at hl 0 rfl) ?_
    refine vx_callv (wc := [(o, .inr (11, [.ref pr, .ref su, .ref ta, .ref la, .ref t, .ref mk, .ref tb, .ref sa])), (tb, .inr (8, [.ref pr, .ref su, .ref ta, .ref la, .ref bnw, .ref ac, .ref en, .ref sr, .ref ro, .ref si, .ref br, .ref bjo, .int (nI R), .int (zi md), .int (zi sg)])), (sa, .inr (6, [.ref pr, .ref su, .ref ta, .ref kp, .ref wr, .ref on, .ref sjo, .int (nI so)])), (kp, .inr (1, [.ref k1, .ref k2, .ref kc, .ref kl, .ref ku, .int (nI mo), .int (nI kn)]))]) (wr := [(pr, .inr (4, [.ref pK, .ref pV, .ref pF, .ref pS, .int (nI n), .int (nI k)]))]) [0, 2, 3, 4] [1] hK hP hD hS hA rfl rfl (by decide) (by decide) (va_runV (As := []) (rest := []) ⟨hx, hb, hml, hown, ht⟩ (kMach_forget l D cI cZ cJ o pr pK pV pF pS su sb ta la t mk tb bnw ac en sr ro si br bjo sa kp k1 k2 kc kl ku wr on sjo R so mo kn md sg _) (⟨callB_of 0 ht (TB_in2 gN_Mach_forgetWhatWasMade) rfl rfl rfl (ht _ mw_1) (ht _ mw_551) (by decide +kernel) ⟨Nat.le_of_ble_eq_true rfl, Nat.le_of_ble_eq_true rfl⟩, ht _ mw_553, ht _ ms_7⟩) (vx_preV [0, 2, 3, 4] hK hP hD (by decide) rfl (ci := 11) rfl 0 rfl) rfl rfl hl.1 rfl (lv_room (Nat.le_of_ble_eq_true rfl)) dN_Mach_begin_30 ⟨Nat.le_of_ble_eq_true rfl, Nat.le_of_ble_eq_true rfl⟩) (fun w1 H locs hq hP hD hS => ?_)
    subst hq
    have hP : va_P D clN [(o, .inr (11, [.ref pr, .ref su, .ref ta, .ref la, .ref t, .ref mk, .ref tb, .ref sa])), (pr, .inr (4, [.ref pK, .ref pV, .ref pF, .ref pS, .int (nI n), .int (nI k)])), (tb, .inr (8, [.ref pr, .ref su, .ref ta, .ref la, .ref bnw, .ref ac, .ref en, .ref sr, .ref ro, .ref si, .ref br, .ref bjo, .int (nI R), .int (zi false), .int (zi sg)])), (sa, .inr (6, [.ref pr, .ref su, .ref ta, .ref kp, .ref wr, .ref on, .ref sjo, .int (nI so)])), (kp, .inr (1, [.ref k1, .ref k2, .ref kc, .ref kl, .ref ku, .int (nI mo), .int (nI 0)]))] H := hP.sub [1, 0, 2, 3, 4] rfl
    have hD : va_D A [(o, .inr (11, [.ref pr, .ref su, .ref ta, .ref la, .ref t, .ref mk, .ref tb, .ref sa])), (pr, .inr (4, [.ref pK, .ref pV, .ref pF, .ref pS, .int (nI n), .int (nI k)])), (tb, .inr (8, [.ref pr, .ref su, .ref ta, .ref la, .ref bnw, .ref ac, .ref en, .ref sr, .ref ro, .ref si, .ref br, .ref bjo, .int (nI R), .int (zi false), .int (zi sg)])), (sa, .inr (6, [.ref pr, .ref su, .ref ta, .ref kp, .ref wr, .ref on, .ref sjo, .int (nI so)])), (kp, .inr (1, [.ref k1, .ref k2, .ref kc, .ref kl, .ref ku, .int (nI mo), .int (nI 0)]))] := hD.sub [1, 0, 2, 3, 4] (by decide) rfl
    exact vx_vret C hK hP hD hS dN_Mach_begin_33 (Nat.le_of_ble_eq_true rfl) (Nat.le_of_ble_eq_true rfl) (rfl)
  · skip
    exact absurd (stepB_ok hn hk) (by rw [c_8_0]; decide)
set_option maxHeartbeats 4000000 in
set_option maxRecDepth 100000 in
/-- keep, refused -/
theorem kMach_keep_bad (l : Launch) (hl0 : l.stackTraces = false) (D : va_G) (cI cZ cJ : ClassId) (o pr su ta la t mk tb sa : Nat) (x : Int32) (hbad : keepT x = 1) : vx_Mx l yN_Mach_keep wN_Mach_keep ({ frames := 6, cells := 1, slots := 6, locals := 100 }) xW_N "StepMachines" xS_N D clN (tyN cI cZ cJ) [.ref o, .int x] [(o, .inr (11, [.ref pr, .ref su, .ref ta, .ref la, .ref t, .ref mk, .ref tb, .ref sa]))] eN_IAE (fun w => w = [(o, .inr (11, [.ref pr, .ref su, .ref ta, .ref la, .ref t, .ref mk, .ref tb, .ref sa]))]) := by
  refine vx_startX (cc := cN_Mach_keep) (maxL := 2) (ret := none) hl0 (by decide) rfl (Nat.le_of_ble_eq_true rfl) ?_
  intro p_0 e_0 s m below meth c_0 A ls C Z hK hP hD hS hA hl
  obtain ⟨hx, hb, hr, hml, hown, hts, hlocks, hnm⟩ := id C
  have hown : s.vm.findClass "StepMachines" = some m.cls := hown
  have ht : ∀ w ∈ TB, w.before _ s = true := fun w h => hts w (List.mem_cons_of_mem _ h)
  have hl : lv_has ls 2 [(0, .ref o), (1, .int x)] := hl
  refine lv_iload_n hx hb dN_Mach_keep_0 rfl (lv_at hl 1 rfl) ?_
  refine lv_iconst (v := (nI 4)) hx hb dN_Mach_keep_1 (by decide) ?_
  refine lv_icmp_lt (tgt := 11) hx hb dN_Mach_keep_2 (by decide) (fun c_2_0 => ?_) (fun c_2_0 => ?_)
  · skip
    exact vx_throw (X := eN_IAE) (names := eN_up) rfl C Z hK hP hD hS hA (TB_gd gN_Mach_keep) (fun q h => (ea_IAE q h).imp (List.mem_cons_of_mem _) id) (by decide +kernel) (by decide +kernel) (List.mem_cons_of_mem _ mw_472) (List.mem_cons_of_mem _ mw_18) xs_157 dN_Mach_keep_11 dN_Mach_keep_14 dN_Mach_keep_15 dN_Mach_keep_17 dN_Mach_keep_20 hl.1 (Nat.le_of_ble_eq_true rfl) (Nat.le_of_ble_eq_true rfl) (Nat.le_of_ble_eq_true rfl) (Nat.le_of_ble_eq_true rfl) (Nat.le_of_ble_eq_true rfl) (Nat.le_of_ble_eq_true rfl) (rfl)
  · skip
    refine lv_iload_n hx hb dN_Mach_keep_5 rfl (lv_at hl 1 rfl) ?_
    refine lv_bipush (v := (nI 64)) hx hb dN_Mach_keep_6 (by decide) ?_
    refine lv_icmp_le (tgt := 21) hx hb dN_Mach_keep_8 (by decide) (fun c_8_1 => ?_) (fun c_8_1 => ?_)
    · skip
      exact absurd hbad (by rw [keepT, if_neg c_2_0, if_neg (Int32.not_lt.mpr c_8_1)]; decide)
    · skip
      exact vx_throw (X := eN_IAE) (names := eN_up) rfl C Z hK hP hD hS hA (TB_gd gN_Mach_keep) (fun q h => (ea_IAE q h).imp (List.mem_cons_of_mem _) id) (by decide +kernel) (by decide +kernel) (List.mem_cons_of_mem _ mw_472) (List.mem_cons_of_mem _ mw_18) xs_157 dN_Mach_keep_11 dN_Mach_keep_14 dN_Mach_keep_15 dN_Mach_keep_17 dN_Mach_keep_20 hl.1 (Nat.le_of_ble_eq_true rfl) (Nat.le_of_ble_eq_true rfl) (Nat.le_of_ble_eq_true rfl) (Nat.le_of_ble_eq_true rfl) (Nat.le_of_ble_eq_true rfl) (Nat.le_of_ble_eq_true rfl) (rfl)
set_option maxHeartbeats 4000000 in
set_option maxRecDepth 100000 in
/-- keep, done -/
theorem kMach_keep (l : Launch) (D : va_G) (cI cZ cJ : ClassId) (o pr su ta la t mk tb sa : Nat) (wr on sjo so kp k1 k2 kc kl ku mo kn m8 : Nat) (h4 : 4 ≤ m8) (h64 : m8 ≤ 64) : vx_Mv l yN_Mach_keep wN_Mach_keep ({ frames := 3, cells := 0, slots := 0, locals := 63 }) D clN (tyN cI cZ cJ) [.ref o, .int (nI m8)] [(o, .inr (11, [.ref pr, .ref su, .ref ta, .ref la, .ref t, .ref mk, .ref tb, .ref sa])), (sa, .inr (6, [.ref pr, .ref su, .ref ta, .ref kp, .ref wr, .ref on, .ref sjo, .int (nI so)])), (kp, .inr (1, [.ref k1, .ref k2, .ref kc, .ref kl, .ref ku, .int (nI mo), .int (nI kn)]))] (fun w => w = [(o, .inr (11, [.ref pr, .ref su, .ref ta, .ref la, .ref t, .ref mk, .ref tb, .ref sa])), (sa, .inr (6, [.ref pr, .ref su, .ref ta, .ref kp, .ref wr, .ref on, .ref sjo, .int (nI so)])), (kp, .inr (1, [.ref k1, .ref k2, .ref kc, .ref kl, .ref ku, .int (nI m8), .int (nI 0)]))]) := by
  refine vx_startV (cc := cN_Mach_keep) (maxL := 2) (ret := none) (by decide) rfl (Nat.le_of_ble_eq_true rfl) ?_
  intro p_0 e_0 s m below meth c_0 A ls C hK hP hD hS hA hl
  obtain ⟨hx, hb, hr, hml, hown, hts, hlocks, hnm⟩ := id C
  have hown : s.vm.findClass "StepMachines" = some m.cls := hown
  have ht : ∀ w ∈ TB, w.before _ s = true := fun w h => hts w (List.mem_cons_of_mem _ h)
  have hl : lv_has ls 2 [(0, .ref o), (1, .int (nI m8))] := hl
  refine lv_iload_n hx hb dN_Mach_keep_0 rfl (lv_at hl 1 rfl) ?_
  refine lv_iconst (v := (nI 4)) hx hb dN_Mach_keep_1 (by decide) ?_
  refine xn_lt (tgt := 11) hx hb dN_Mach_keep_2 (by decide) (by omega) (by omega) (fun c_2_0 => ?_) (fun c_2_0 => ?_)
  · skip
    exact absurd c_2_0 (by omega)
  · skip
    refine lv_iload_n hx hb dN_Mach_keep_5 rfl (lv_at hl 1 rfl) ?_
    refine lv_bipush (v := (nI 64)) hx hb dN_Mach_keep_6 (by decide) ?_
    refine xn_le (tgt := 21) hx hb dN_Mach_keep_8 (by decide) (by omega) (by omega) (fun c_8_1 => ?_) (fun c_8_1 => ?_)
    · skip
      refine lv_aload_n hx hb dN_Mach_keep_21 rfl (lv_at hl 0 rfl) ?_
      refine va_get (D := D) (ci := 11) (v := .ref sa) (C := RN_Mach) (T := FN_Mach) (N := 8) hx hb ht fN_Mach hown hK hP 0 rfl rfl 7 (by decide) (ht _ mw_326) (fun _ h9 => h9) rfl dN_Mach_keep_22 ?_
      refine lv_iload_n hx hb dN_Mach_keep_25 rfl (lv_at hl 1 rfl) ?_
      refine vx_callv (wc := [(sa, .inr (6, [.ref pr, .ref su, .ref ta, .ref kp, .ref wr, .ref on, .ref sjo, .int (nI so)])), (kp, .inr (1, [.ref k1, .ref k2, .ref kc, .ref kl, .ref ku, .int (nI mo), .int (nI kn)]))]) (wr := [(o, .inr (11, [.ref pr, .ref su, .ref ta, .ref la, .ref t, .ref mk, .ref tb, .ref sa]))]) [1, 2] [0] hK hP hD hS hA rfl rfl (by decide) (by decide) (va_runV (As := [.int (nI m8)]) (rest := []) ⟨hx, hb, hml, hown, ht⟩ (kStates_allow l D cI cZ cJ sa pr su ta wr on sjo so kp k1 k2 kc kl ku mo kn m8 h4 h64 _) (⟨callB_of 1 ht (TB_in2 gN_States_allow) rfl rfl rfl (ht _ mw_10) (ht _ mw_955) (by decide +kernel) ⟨Nat.le_of_ble_eq_true rfl, Nat.le_of_ble_eq_true rfl⟩, ht _ mw_956, ht _ mw_957⟩) (vx_preV [1, 2] hK hP hD (by decide) rfl (ci := 6) rfl 1 rfl) rfl rfl hl.1 rfl (lv_room (Nat.le_of_ble_eq_true rfl)) dN_Mach_keep_26 ⟨Nat.le_of_ble_eq_true rfl, Nat.le_of_ble_eq_true rfl⟩) (fun w1 H locs hq hP hD hS => ?_)
      subst hq
      have hP : va_P D clN [(o, .inr (11, [.ref pr, .ref su, .ref ta, .ref la, .ref t, .ref mk, .ref tb, .ref sa])), (sa, .inr (6, [.ref pr, .ref su, .ref ta, .ref kp, .ref wr, .ref on, .ref sjo, .int (nI so)])), (kp, .inr (1, [.ref k1, .ref k2, .ref kc, .ref kl, .ref ku, .int (nI m8), .int (nI 0)]))] H := hP.sub [0, 1, 2] rfl
      have hD : va_D A [(o, .inr (11, [.ref pr, .ref su, .ref ta, .ref la, .ref t, .ref mk, .ref tb, .ref sa])), (sa, .inr (6, [.ref pr, .ref su, .ref ta, .ref kp, .ref wr, .ref on, .ref sjo, .int (nI so)])), (kp, .inr (1, [.ref k1, .ref k2, .ref kc, .ref kl, .ref ku, .int (nI m8), .int (nI 0)]))] := hD.sub [0, 1, 2] (by decide) rfl
      exact vx_vret C hK hP hD hS dN_Mach_keep_29 (Nat.le_of_ble_eq_true rfl) (Nat.le_of_ble_eq_true rfl) (rfl)
    · skip
      exact absurd c_8_1 (by omega)
set_option maxHeartbeats 4000000 in
set_option maxRecDepth 100000 in
/-- clear() -/
theorem kMach_clear (l : Launch) (D : va_G) (cI cZ cJ : ClassId) (o pr su ta la t mk tb sa : Nat) (sb len : Nat)  : vx_Mv l yN_Mach_clear wN_Mach_clear ({ frames := 1, cells := 0, slots := 0, locals := 20 }) D clN (tyN cI cZ cJ) [.ref o] [(o, .inr (11, [.ref pr, .ref su, .ref ta, .ref la, .ref t, .ref mk, .ref tb, .ref sa])), (su, .inr (7, [.ref sb, .int (nI len)]))] (fun w => w = [(o, .inr (11, [.ref pr, .ref su, .ref ta, .ref la, .ref t, .ref mk, .ref tb, .ref sa])), (su, .inr (7, [.ref sb, .int (nI 0)]))]) := by
  refine vx_startV (cc := cN_Mach_clear) (maxL := 1) (ret := none) (by decide) rfl (Nat.le_of_ble_eq_true rfl) ?_
  intro p_0 e_0 s m below meth c_0 A ls C hK hP hD hS hA hl
  obtain ⟨hx, hb, hr, hml, hown, hts, hlocks, hnm⟩ := id C
  have hown : s.vm.findClass "StepMachines" = some m.cls := hown
  have ht : ∀ w ∈ TB, w.before _ s = true := fun w h => hts w (List.mem_cons_of_mem _ h)
  have hl : lv_has ls 1 [(0, .ref o)] := hl
  refine lv_aload_n hx hb dN_Mach_clear_0 rfl (lv_at hl 0 rfl) ?_
  refine va_get (D := D) (ci := 11) (v := .ref su) (C := RN_Mach) (T := FN_Mach) (N := 8) hx hb ht fN_Mach hown hK hP 0 rfl rfl 1 (by decide) (ht _ mw_320) (fun _ h9 => h9) rfl dN_Mach_clear_1 ?_
  refine vx_callv (wc := [(su, .inr (7, [.ref sb, .int (nI len)]))]) (wr := [(o, .inr (11, [.ref pr, .ref su, .ref ta, .ref la, .ref t, .ref mk, .ref tb, .ref sa]))]) [1] [0] hK hP hD hS hA rfl rfl (by decide) (by decide) (va_runV (As := []) (rest := []) ⟨hx, hb, hml, hown, ht⟩ (kSubject_empty l D cI cZ cJ su sb len _) (⟨callB_of 0 ht (TB_in2 gN_Subject_empty) rfl rfl rfl (ht _ mw_3) (ht _ mw_360) (by decide +kernel) ⟨Nat.le_of_ble_eq_true rfl, Nat.le_of_ble_eq_true rfl⟩, ht _ mw_361, ht _ mw_362⟩) (vx_preV [1] hK hP hD (by decide) rfl (ci := 7) rfl 1 rfl) rfl rfl hl.1 rfl (lv_room (Nat.le_of_ble_eq_true rfl)) dN_Mach_clear_4 ⟨Nat.le_of_ble_eq_true rfl, Nat.le_of_ble_eq_true rfl⟩) (fun w1 H locs hq hP hD hS => ?_)
  subst hq
  have hP : va_P D clN [(o, .inr (11, [.ref pr, .ref su, .ref ta, .ref la, .ref t, .ref mk, .ref tb, .ref sa])), (su, .inr (7, [.ref sb, .int (nI 0)]))] H := hP.sub [0, 1] rfl
  have hD : va_D A [(o, .inr (11, [.ref pr, .ref su, .ref ta, .ref la, .ref t, .ref mk, .ref tb, .ref sa])), (su, .inr (7, [.ref sb, .int (nI 0)]))] := hD.sub [0, 1] (by decide) rfl
  exact vx_vret C hK hP hD hS dN_Mach_clear_7 (Nat.le_of_ble_eq_true rfl) (Nat.le_of_ble_eq_true rfl) (rfl)
set_option maxHeartbeats 4000000 in
set_option maxRecDepth 100000 in
/-- over() -/
theorem kMach_over (l : Launch) (D : va_G) (cI cZ cJ : ClassId) (o pr su ta la t mk tb sa : Nat) (tk ov : Nat)  : vx_Mi l yN_Mach_over wN_Mach_over ({ frames := 0, cells := 0, slots := 0, locals := 0 }) D clN (tyN cI cZ cJ) [.ref o] [(o, .inr (11, [.ref pr, .ref su, .ref ta, .ref la, .ref t, .ref mk, .ref tb, .ref sa])), (ta, .inr (9, [.int (nI tk), .int (nI ov)]))] (fun x w => x = nI ov ∧ w = [(o, .inr (11, [.ref pr, .ref su, .ref ta, .ref la, .ref t, .ref mk, .ref tb, .ref sa])), (ta, .inr (9, [.int (nI tk), .int (nI ov)]))]) := by
  refine vx_startI (cc := cN_Mach_over) (maxL := 1) (ret := (some .int)) (by decide) rfl (Nat.le_of_ble_eq_true rfl) ?_
  intro p_0 e_0 s m below meth c_0 A ls C hK hP hD hS hA hl
  obtain ⟨hx, hb, hr, hml, hown, hts, hlocks, hnm⟩ := id C
  have hown : s.vm.findClass "StepMachines" = some m.cls := hown
  have ht : ∀ w ∈ TB, w.before _ s = true := fun w h => hts w (List.mem_cons_of_mem _ h)
  have hl : lv_has ls 1 [(0, .ref o)] := hl
  refine lv_aload_n hx hb dN_Mach_over_0 rfl (lv_at hl 0 rfl) ?_
  refine va_get (D := D) (ci := 11) (v := .ref ta) (C := RN_Mach) (T := FN_Mach) (N := 8) hx hb ht fN_Mach hown hK hP 0 rfl rfl 2 (by decide) (ht _ mw_321) (fun _ h9 => h9) rfl dN_Mach_over_1 ?_
  refine va_get (D := D) (ci := 9) (v := .int (nI ov)) (C := RN_Tally) (T := FN_Tally) (N := 2) hx hb ht fN_Tally hown hK hP 1 rfl rfl 1 (by decide) (ht _ mw_77) (fun _ h9 => h9) rfl dN_Mach_over_4 ?_
  exact vx_iret C hK hP hD hS dN_Mach_over_7 (Nat.le_of_ble_eq_true rfl) (Nat.le_of_ble_eq_true rfl) (⟨rfl, rfl⟩)
set_option maxHeartbeats 4000000 in
set_option maxRecDepth 100000 in
/-- saved(x) -/
theorem kMach_saved (l : Launch) (D : va_G) (cI cZ cJ : ClassId) (o pr su ta la t mk tb sa : Nat) (be9 : Sv) (x : Int32)  : vx_Mi l yN_Mach_saved wN_Mach_saved ({ frames := 0, cells := 0, slots := 0, locals := 0 }) D clN (tyN cI cZ cJ) [.ref o, .int x] [(o, .inr (11, [.ref pr, .ref su, .ref ta, .ref la, .ref t, .ref mk, .ref tb, .ref sa])), (la, .inl (cI, 20, .inl be9))] (fun y w => y = svd be9 x ∧ w = [(o, .inr (11, [.ref pr, .ref su, .ref ta, .ref la, .ref t, .ref mk, .ref tb, .ref sa])), (la, .inl (cI, 20, .inl be9))]) := by
  refine vx_startI (cc := cN_Mach_saved) (maxL := 2) (ret := (some .int)) (by decide) rfl (Nat.le_of_ble_eq_true rfl) ?_
  intro p_0 e_0 s m below meth c_0 A ls C hK hP hD hS hA hl
  obtain ⟨hx, hb, hr, hml, hown, hts, hlocks, hnm⟩ := id C
  have hown : s.vm.findClass "StepMachines" = some m.cls := hown
  have ht : ∀ w ∈ TB, w.before _ s = true := fun w h => hts w (List.mem_cons_of_mem _ h)
  have hl : lv_has ls 2 [(0, .ref o), (1, .int x)] := hl
  refine lv_iload_n hx hb dN_Mach_saved_0 rfl (lv_at hl 1 rfl) ?_
  refine lv_if_lt (tgt := 19) hx hb dN_Mach_saved_1 (by decide) (fun c_1_0 => ?_) (fun c_1_0 => ?_)
  · skip
    refine lv_iconst (v := (-1)) hx hb dN_Mach_saved_19 (by decide) ?_
    exact vx_iret C hK hP hD hS dN_Mach_saved_20 (Nat.le_of_ble_eq_true rfl) (Nat.le_of_ble_eq_true rfl) (⟨by rw [svd, if_pos c_1_0], rfl⟩)
  · skip
    refine lv_iload_n hx hb dN_Mach_saved_4 rfl (lv_at hl 1 rfl) ?_
    refine lv_bipush (v := (nI 20)) hx hb dN_Mach_saved_5 (by decide) ?_
    refine lv_icmp_ge (tgt := 19) hx hb dN_Mach_saved_7 (by decide) (fun c_7_1 => ?_) (fun c_7_1 => ?_)
    · skip
      refine lv_iconst (v := (-1)) hx hb dN_Mach_saved_19 (by decide) ?_
      exact vx_iret C hK hP hD hS dN_Mach_saved_20 (Nat.le_of_ble_eq_true rfl) (Nat.le_of_ble_eq_true rfl) (⟨by rw [svd, if_neg c_1_0, if_pos ((i20 x).mp c_7_1)], rfl⟩)
    · skip
      obtain ⟨j, hj, rfl⟩ : ∃ j : Nat, j < 20 ∧ x = nI j := by obtain ⟨j, hj, rfl⟩ := nI_of c_1_0; have h9 := c_7_1; rw [nI_leI (by omega) (by omega)] at h9; exact ⟨j, by omega, rfl⟩
      refine lv_aload_n hx hb dN_Mach_saved_10 rfl (lv_at hl 0 rfl) ?_
      refine va_get (D := D) (ci := 11) (v := .ref la) (C := RN_Mach) (T := FN_Mach) (N := 8) hx hb ht fN_Mach hown hK hP 0 rfl rfl 3 (by decide) (ht _ mw_322) (fun _ h9 => h9) rfl dN_Mach_saved_11 ?_
      refine lv_iload_n hx hb dN_Mach_saved_14 rfl (lv_at hl 1 rfl) ?_
      refine xi_ald hx hb hK hP 1 0 rfl rfl dN_Mach_saved_15 (by omega) (by omega) ?_
      refine lv_goto (tgt := 20) hx hb dN_Mach_saved_16 (by decide) ?_
      exact vx_iret C hK hP hD hS dN_Mach_saved_20 (Nat.le_of_ble_eq_true rfl) (Nat.le_of_ble_eq_true rfl) (⟨by rw [svd, if_neg (nI_pos (by omega)), if_neg (by rw [nI_ltI (by omega) (by omega)]; omega), nI_clamp (by omega)], rfl⟩)
set_option maxHeartbeats 4000000 in
set_option maxRecDepth 100000 in
/-- isQuestion(x, y) -/
theorem kMach_isQuestion (l : Launch) (D : va_G) (cI cZ cJ : ClassId) (o pr su ta la t mk tb sa : Nat) (sb len : Nat) (x y : Int32)  : vx_Mi l yN_Mach_isQuestion wN_Mach_isQuestion ({ frames := 1, cells := 0, slots := 0, locals := 20 }) D clN (tyN cI cZ cJ) [.ref o, .int x, .int y] [(o, .inr (11, [.ref pr, .ref su, .ref ta, .ref la, .ref t, .ref mk, .ref tb, .ref sa])), (su, .inr (7, [.ref sb, .int (nI len)]))] (fun r w => r = zi (goodB len x y) ∧ w = [(o, .inr (11, [.ref pr, .ref su, .ref ta, .ref la, .ref t, .ref mk, .ref tb, .ref sa])), (su, .inr (7, [.ref sb, .int (nI len)]))]) := by
  refine vx_startI (cc := cN_Mach_isQuestion) (maxL := 3) (ret := (some .boolean)) (by decide) rfl (Nat.le_of_ble_eq_true rfl) ?_
  intro p_0 e_0 s m below meth c_0 A ls C hK hP hD hS hA hl
  obtain ⟨hx, hb, hr, hml, hown, hts, hlocks, hnm⟩ := id C
  have hown : s.vm.findClass "StepMachines" = some m.cls := hown
  have ht : ∀ w ∈ TB, w.before _ s = true := fun w h => hts w (List.mem_cons_of_mem _ h)
  have hl : lv_has ls 3 [(0, .ref o), (1, .int x), (2, .int y)] := hl
  refine lv_iload_n hx hb dN_Mach_isQuestion_0 rfl (lv_at hl 1 rfl) ?_
  refine lv_if_lt (tgt := 28) hx hb dN_Mach_isQuestion_1 (by decide) (fun c_1_0 => ?_) (fun c_1_0 => ?_)
  · skip
    refine lv_iconst (v := (nI 0)) hx hb dN_Mach_isQuestion_28 (by decide) ?_
    refine xn_top (y := zi false) rfl ?_
    exact vx_zret C hK hP hD hS dN_Mach_isQuestion_29 (Nat.le_of_ble_eq_true rfl) (Nat.le_of_ble_eq_true rfl) (zi_nar2 _) (⟨by simp [goodB, c_1_0], rfl⟩)
  · skip
    refine lv_iload_n hx hb dN_Mach_isQuestion_4 rfl (lv_at hl 1 rfl) ?_
    refine lv_iconst (v := (nI 2)) hx hb dN_Mach_isQuestion_5 (by decide) ?_
    refine lv_icmp_gt (tgt := 28) hx hb dN_Mach_isQuestion_6 (by decide) (fun c_6_1 => ?_) (fun c_6_1 => ?_)
    · skip
      have d3 : nI 3 ≤ x := (i3 x).mpr c_6_1
      refine lv_iconst (v := (nI 0)) hx hb dN_Mach_isQuestion_28 (by decide) ?_
      refine xn_top (y := zi false) rfl ?_
      exact vx_zret C hK hP hD hS dN_Mach_isQuestion_29 (Nat.le_of_ble_eq_true rfl) (Nat.le_of_ble_eq_true rfl) (zi_nar2 _) (⟨by simp [goodB, c_1_0, c_6_1, d3], rfl⟩)
    · skip
      have d3 : ¬ nI 3 ≤ x := fun h => c_6_1 ((i3 x).mp h)
      refine lv_iload_n hx hb dN_Mach_isQuestion_9 rfl (lv_at hl 2 rfl) ?_
      refine lv_if_lt (tgt := 28) hx hb dN_Mach_isQuestion_10 (by decide) (fun c_10_2 => ?_) (fun c_10_2 => ?_)
      · skip
        refine lv_iconst (v := (nI 0)) hx hb dN_Mach_isQuestion_28 (by decide) ?_
        refine xn_top (y := zi false) rfl ?_
        exact vx_zret C hK hP hD hS dN_Mach_isQuestion_29 (Nat.le_of_ble_eq_true rfl) (Nat.le_of_ble_eq_true rfl) (zi_nar2 _) (⟨by simp [goodB, c_1_0, c_6_1, c_10_2, d3], rfl⟩)
      · skip
        refine lv_iload_n hx hb dN_Mach_isQuestion_13 rfl (lv_at hl 2 rfl) ?_
        refine lv_aload_n hx hb dN_Mach_isQuestion_14 rfl (lv_at hl 0 rfl) ?_
        refine va_get (D := D) (ci := 11) (v := .ref su) (C := RN_Mach) (T := FN_Mach) (N := 8) hx hb ht fN_Mach hown hK hP 0 rfl rfl 1 (by decide) (ht _ mw_320) (fun _ h9 => h9) rfl dN_Mach_isQuestion_15 ?_
        refine vx_calli (wc := [(su, .inr (7, [.ref sb, .int (nI len)]))]) (wr := [(o, .inr (11, [.ref pr, .ref su, .ref ta, .ref la, .ref t, .ref mk, .ref tb, .ref sa]))]) [1] [0] hK hP hD hS hA rfl rfl (by decide) (by decide) (va_runV (As := []) (rest := [.int y]) ⟨hx, hb, hml, hown, ht⟩ (kSubject_length l D cI cZ cJ su sb len _) (⟨callB_of 0 ht (TB_in2 gN_Subject_length) rfl rfl rfl (ht _ mw_3) (ht _ mw_348) (by decide +kernel) ⟨Nat.le_of_ble_eq_true rfl, Nat.le_of_ble_eq_true rfl⟩, ht _ mw_349, ht _ mw_350⟩) (vx_preV [1] hK hP hD (by decide) rfl (ci := 7) rfl 1 rfl) rfl rfl hl.1 rfl (lv_room (Nat.le_of_ble_eq_true rfl)) dN_Mach_isQuestion_18 ⟨Nat.le_of_ble_eq_true rfl, Nat.le_of_ble_eq_true rfl⟩) (fun r1 w1 H locs hq hP hD hS => ?_)
        obtain ⟨rfl, rfl⟩ := hq
        have hP : va_P D clN [(o, .inr (11, [.ref pr, .ref su, .ref ta, .ref la, .ref t, .ref mk, .ref tb, .ref sa])), (su, .inr (7, [.ref sb, .int (nI len)]))] H := hP.sub [0, 1] rfl
        have hD : va_D A [(o, .inr (11, [.ref pr, .ref su, .ref ta, .ref la, .ref t, .ref mk, .ref tb, .ref sa])), (su, .inr (7, [.ref sb, .int (nI len)]))] := hD.sub [0, 1] (by decide) rfl
        refine lv_icmp_gt (tgt := 28) hx hb dN_Mach_isQuestion_21 (by decide) (fun c_21_3 => ?_) (fun c_21_3 => ?_)
        · skip
          refine lv_iconst (v := (nI 0)) hx hb dN_Mach_isQuestion_28 (by decide) ?_
          refine xn_top (y := zi false) rfl ?_
          exact vx_zret C hK hP hD hS dN_Mach_isQuestion_29 (Nat.le_of_ble_eq_true rfl) (Nat.le_of_ble_eq_true rfl) (zi_nar2 _) (⟨by simp [goodB, c_1_0, c_6_1, c_10_2, c_21_3, d3], rfl⟩)
        · skip
          refine lv_iconst (v := (nI 1)) hx hb dN_Mach_isQuestion_24 (by decide) ?_
          refine lv_goto (tgt := 29) hx hb dN_Mach_isQuestion_25 (by decide) ?_
          refine xn_top (y := zi true) rfl ?_
          exact vx_zret C hK hP hD hS dN_Mach_isQuestion_29 (Nat.le_of_ble_eq_true rfl) (Nat.le_of_ble_eq_true rfl) (zi_nar2 _) (⟨by simp [goodB, c_1_0, c_6_1, c_10_2, c_21_3, d3], rfl⟩)
set_option maxHeartbeats 4000000 in
set_option maxRecDepth 100000 in
/-- mostTaken() -/
theorem kMach_mostTaken (l : Launch) (D : va_G) (cI cZ cJ : ClassId) (o pr pK pV pF pS su ta la t mk tb sa n b : Nat) (sb len : Nat)  : vx_Mi l yN_Mach_mostTaken wN_Mach_mostTaken ({ frames := 1, cells := 0, slots := 0, locals := 20 }) D clN (tyN cI cZ cJ) [.ref o] [(o, .inr (11, [.ref pr, .ref su, .ref ta, .ref la, .ref t, .ref mk, .ref tb, .ref sa])), (pr, .inr (4, [.ref pK, .ref pV, .ref pF, .ref pS, .int (nI n), .int (nI b)])), (su, .inr (7, [.ref sb, .int (nI len)]))] (fun r w => r = nI (60 * n * (len + 20)) ∧ w = [(o, .inr (11, [.ref pr, .ref su, .ref ta, .ref la, .ref t, .ref mk, .ref tb, .ref sa])), (pr, .inr (4, [.ref pK, .ref pV, .ref pF, .ref pS, .int (nI n), .int (nI b)])), (su, .inr (7, [.ref sb, .int (nI len)]))]) := by
  refine vx_startI (cc := cN_Mach_mostTaken) (maxL := 1) (ret := (some .int)) (by decide) rfl (Nat.le_of_ble_eq_true rfl) ?_
  intro p_0 e_0 s m below meth c_0 A ls C hK hP hD hS hA hl
  obtain ⟨hx, hb, hr, hml, hown, hts, hlocks, hnm⟩ := id C
  have hown : s.vm.findClass "StepMachines" = some m.cls := hown
  have ht : ∀ w ∈ TB, w.before _ s = true := fun w h => hts w (List.mem_cons_of_mem _ h)
  have hl : lv_has ls 1 [(0, .ref o)] := hl
  refine lv_bipush (v := (nI 60)) hx hb dN_Mach_mostTaken_0 (by decide) ?_
  refine lv_aload_n hx hb dN_Mach_mostTaken_2 rfl (lv_at hl 0 rfl) ?_
  refine va_get (D := D) (ci := 11) (v := .ref pr) (C := RN_Mach) (T := FN_Mach) (N := 8) hx hb ht fN_Mach hown hK hP 0 rfl rfl 0 (by decide) (ht _ mw_319) (fun _ h9 => h9) rfl dN_Mach_mostTaken_3 ?_
  refine vx_calli (wc := [(pr, .inr (4, [.ref pK, .ref pV, .ref pF, .ref pS, .int (nI n), .int (nI b)]))]) (wr := [(o, .inr (11, [.ref pr, .ref su, .ref ta, .ref la, .ref t, .ref mk, .ref tb, .ref sa])), (su, .inr (7, [.ref sb, .int (nI len)]))]) [1] [0, 2] hK hP hD hS hA rfl rfl (by decide) (by decide) (va_runV (As := []) (rest := [.int (nI 60)]) ⟨hx, hb, hml, hown, ht⟩ (kProgram_size l D cI cZ cJ pr pK pV pF pS n b _) (⟨callB_of 0 ht (TB_in2 gN_Program_size) rfl rfl rfl (ht _ mw_2) (ht _ mw_818) (by decide +kernel) ⟨Nat.le_of_ble_eq_true rfl, Nat.le_of_ble_eq_true rfl⟩, ht _ mw_639, ht _ mw_640⟩) (vx_preV [1] hK hP hD (by decide) rfl (ci := 4) rfl 1 rfl) rfl rfl hl.1 rfl (lv_room (Nat.le_of_ble_eq_true rfl)) dN_Mach_mostTaken_6 ⟨Nat.le_of_ble_eq_true rfl, Nat.le_of_ble_eq_true rfl⟩) (fun r1 w1 H locs hq hP hD hS => ?_)
  obtain ⟨rfl, rfl⟩ := hq
  have hP : va_P D clN [(o, .inr (11, [.ref pr, .ref su, .ref ta, .ref la, .ref t, .ref mk, .ref tb, .ref sa])), (pr, .inr (4, [.ref pK, .ref pV, .ref pF, .ref pS, .int (nI n), .int (nI b)])), (su, .inr (7, [.ref sb, .int (nI len)]))] H := hP.sub [0, 2, 1] rfl
  have hD : va_D A [(o, .inr (11, [.ref pr, .ref su, .ref ta, .ref la, .ref t, .ref mk, .ref tb, .ref sa])), (pr, .inr (4, [.ref pK, .ref pV, .ref pF, .ref pS, .int (nI n), .int (nI b)])), (su, .inr (7, [.ref sb, .int (nI len)]))] := hD.sub [0, 2, 1] (by decide) rfl
  refine xn_mul hx hb dN_Mach_mostTaken_9 ?_
  refine lv_aload_n hx hb dN_Mach_mostTaken_10 rfl (lv_at hl 0 rfl) ?_
  refine va_get (D := D) (ci := 11) (v := .ref su) (C := RN_Mach) (T := FN_Mach) (N := 8) hx hb ht fN_Mach hown hK hP 0 rfl rfl 1 (by decide) (ht _ mw_320) (fun _ h9 => h9) rfl dN_Mach_mostTaken_11 ?_
  refine vx_calli (wc := [(su, .inr (7, [.ref sb, .int (nI len)]))]) (wr := [(o, .inr (11, [.ref pr, .ref su, .ref ta, .ref la, .ref t, .ref mk, .ref tb, .ref sa])), (pr, .inr (4, [.ref pK, .ref pV, .ref pF, .ref pS, .int (nI n), .int (nI b)]))]) [2] [0, 1] hK hP hD hS hA rfl rfl (by decide) (by decide) (va_runV (As := []) (rest := [.int (nI (60 * n))]) ⟨hx, hb, hml, hown, ht⟩ (kSubject_length l D cI cZ cJ su sb len _) (⟨callB_of 0 ht (TB_in2 gN_Subject_length) rfl rfl rfl (ht _ mw_3) (ht _ mw_348) (by decide +kernel) ⟨Nat.le_of_ble_eq_true rfl, Nat.le_of_ble_eq_true rfl⟩, ht _ mw_349, ht _ mw_350⟩) (vx_preV [2] hK hP hD (by decide) rfl (ci := 7) rfl 2 rfl) rfl rfl hl.1 rfl (lv_room (Nat.le_of_ble_eq_true rfl)) dN_Mach_mostTaken_14 ⟨Nat.le_of_ble_eq_true rfl, Nat.le_of_ble_eq_true rfl⟩) (fun r1 w1 H locs hq hP hD hS => ?_)
  obtain ⟨rfl, rfl⟩ := hq
  have hP : va_P D clN [(o, .inr (11, [.ref pr, .ref su, .ref ta, .ref la, .ref t, .ref mk, .ref tb, .ref sa])), (pr, .inr (4, [.ref pK, .ref pV, .ref pF, .ref pS, .int (nI n), .int (nI b)])), (su, .inr (7, [.ref sb, .int (nI len)]))] H := hP.sub [0, 1, 2] rfl
  have hD : va_D A [(o, .inr (11, [.ref pr, .ref su, .ref ta, .ref la, .ref t, .ref mk, .ref tb, .ref sa])), (pr, .inr (4, [.ref pK, .ref pV, .ref pF, .ref pS, .int (nI n), .int (nI b)])), (su, .inr (7, [.ref sb, .int (nI len)]))] := hD.sub [0, 1, 2] (by decide) rfl
  refine lv_bipush (v := (nI 20)) hx hb dN_Mach_mostTaken_17 (by decide) ?_
  refine xn_add hx hb dN_Mach_mostTaken_19 ?_
  refine xn_mul hx hb dN_Mach_mostTaken_20 ?_
  exact vx_iret C hK hP hD hS dN_Mach_mostTaken_21 (Nat.le_of_ble_eq_true rfl) (Nat.le_of_ble_eq_true rfl) (⟨rfl, rfl⟩)
