set_option maxHeartbeats 4000000 in
set_option maxRecDepth 100000 in
/-- lay, refused -/
theorem kMach_lay_bad (l : Launch) (hl0 : l.stackTraces = false) (D : va_G) (cI cZ cJ : ClassId) (o pr su ta la mst th mk tb sa : Nat) (x : Int32) (hbad : layB x = true) : vx_Mx l yN_Mach_lay wN_Mach_lay ({ frames := 6, cells := 1, slots := 6, locals := 100 }) xW_N "StepMachines" xS_N D clN (tyN cI cZ cJ) [.ref o, .int x] [(o, .inr (10, [.ref pr, .ref su, .ref ta, .ref la, .int (nI mst), .ref th, .ref mk, .ref tb, .ref sa]))] eN_IAE (fun w => w = [(o, .inr (10, [.ref pr, .ref su, .ref ta, .ref la, .int (nI mst), .ref th, .ref mk, .ref tb, .ref sa]))]) := by
  refine vx_startX (cc := cN_Mach_lay) (maxL := 2) (ret := none) hl0 (by decide) rfl (Nat.le_of_ble_eq_true rfl) ?_
  intro p e s m below meth c A ls C Z hK hP hD hS hA hl
  obtain ⟨hx, hb, hr, hml, hown, hts, hlocks, hnm⟩ := id C
  have hown : s.vm.findClass "StepMachines" = some m.cls := hown
  have ht : ∀ w ∈ TB, w.before _ s = true := fun w h => hts w (List.mem_cons_of_mem _ h)
  have hl : lv_has ls 2 [(0, .ref o), (1, .int x)] := hl
  refine lv_iload_n hx hb dN_Mach_lay_0 rfl (lv_at hl 1 rfl) ?_
  refine lv_iconst (v := (nI 1)) hx hb dN_Mach_lay_1 (by decide) ?_
  refine lv_icmp_lt (tgt := 12) hx hb dN_Mach_lay_2 (by decide) (fun c_2_0 => ?_) (fun c_2_0 => ?_)
  · skip
    exact vx_throw (X := eN_IAE) (names := eN_up) rfl C Z hK hP hD hS hA (TB_gd gN_Mach_lay) (fun q h => (ea_IAE q h).imp (List.mem_cons_of_mem _) id) (by decide +kernel) (by decide +kernel) (List.mem_cons_of_mem _ mw_328) (List.mem_cons_of_mem _ mw_10) xs_62 dN_Mach_lay_12 dN_Mach_lay_15 dN_Mach_lay_16 dN_Mach_lay_18 dN_Mach_lay_21 hl.1 (Nat.le_of_ble_eq_true rfl) (Nat.le_of_ble_eq_true rfl) (Nat.le_of_ble_eq_true rfl) (Nat.le_of_ble_eq_true rfl) (Nat.le_of_ble_eq_true rfl) (Nat.le_of_ble_eq_true rfl) (rfl)
  · skip
    refine lv_iload_n hx hb dN_Mach_lay_5 rfl (lv_at hl 1 rfl) ?_
    refine lv_sipush (v := (nI 200)) hx hb dN_Mach_lay_6 (by decide) ?_
    refine lv_icmp_le (tgt := 22) hx hb dN_Mach_lay_9 (by decide) (fun c_9_1 => ?_) (fun c_9_1 => ?_)
    · skip
      exact absurd hbad (by simp [layB, c_2_0, c_9_1, Int32.not_lt.mpr c_9_1])
    · skip
      exact vx_throw (X := eN_IAE) (names := eN_up) rfl C Z hK hP hD hS hA (TB_gd gN_Mach_lay) (fun q h => (ea_IAE q h).imp (List.mem_cons_of_mem _) id) (by decide +kernel) (by decide +kernel) (List.mem_cons_of_mem _ mw_328) (List.mem_cons_of_mem _ mw_10) xs_62 dN_Mach_lay_12 dN_Mach_lay_15 dN_Mach_lay_16 dN_Mach_lay_18 dN_Mach_lay_21 hl.1 (Nat.le_of_ble_eq_true rfl) (Nat.le_of_ble_eq_true rfl) (Nat.le_of_ble_eq_true rfl) (Nat.le_of_ble_eq_true rfl) (Nat.le_of_ble_eq_true rfl) (Nat.le_of_ble_eq_true rfl) (rfl)
set_option maxHeartbeats 4000000 in
set_option maxRecDepth 100000 in
/-- the law's lay, refused -/
theorem kLaw_lay_bad (l : Launch) (hl0 : l.stackTraces = false) (D : va_G) (cI cZ cJ : ClassId) (o pr su ta la mst th mk tb sa : Nat) (x : Int32) (hbad : layB x = true) : vx_MiX l yN_Law_lay wN_Law_lay ({ frames := 7, cells := 1, slots := 6, locals := 130 }) xW_N "StepMachines" xS_N D clN (tyN cI cZ cJ) [.ref o, .int x] [(o, .inr (10, [.ref pr, .ref su, .ref ta, .ref la, .int (nI mst), .ref th, .ref mk, .ref tb, .ref sa]))] (fun r w => r = nI 1 ∧ w = [(o, .inr (10, [.ref pr, .ref su, .ref ta, .ref la, .int (nI mst), .ref th, .ref mk, .ref tb, .ref sa]))]) := by
  refine vx_startIW (cc := cN_Law_lay) (maxL := 3) (ret := (some .int)) (by decide) rfl (Nat.le_of_ble_eq_true rfl) ?_
  intro p e s m below meth c A ls C Z hK hP hD hS hA hl
  obtain ⟨hx, hb, hr, hml, hown, hts, hlocks, hnm⟩ := id C
  have hown : s.vm.findClass "StepMachinesLaw" = some m.cls := hown
  have ht : ∀ w ∈ TB, w.before _ s = true := fun w h => hts w (List.mem_cons_of_mem _ h)
  have hl : lv_has ls 3 [(0, .ref o), (1, .int x)] := hl
  refine lv_aload_n hx hb dN_Law_lay_0 rfl (lv_at hl 0 rfl) ?_
  refine lv_iload_n hx hb dN_Law_lay_1 rfl (lv_at hl 1 rfl) ?_
  refine vx_callx (As := [.int x]) (rest := []) (wc := [(o, .inr (10, [.ref pr, .ref su, .ref ta, .ref la, .int (nI mst), .ref th, .ref mk, .ref tb, .ref sa]))]) (wr := []) [0] [] hK hP hD hS hA rfl rfl (by decide) (by decide) ⟨hx, hb, hml, hown, ht⟩ (kMach_lay_bad l hl0 D cI cZ cJ o pr su ta la mst th mk tb sa x hbad) (⟨callB_of 1 ht (TB_in2 gN_Mach_lay) rfl rfl rfl (ht _ mw_1) (ht _ mw_324) (by decide +kernel) ⟨Nat.le_of_ble_eq_true rfl, Nat.le_of_ble_eq_true rfl⟩, ht _ mw_325, ht _ mw_326⟩) (vx_preX [0] Z.2.1 Z.2.2 hS hK hP hD (by decide) rfl (ci := 10) rfl 0 rfl) rfl hl.1 (Nat.le_of_ble_eq_true rfl) dN_Law_lay_2 ⟨Nat.le_of_ble_eq_true rfl, Nat.le_of_ble_eq_true rfl⟩ (vx_cat1h Z.1 hown rfl ⟨Nat.le_of_ble_eq_true rfl, Nat.le_of_ble_eq_true rfl⟩ (by decide) (ht _ mw_323) ((Z.2.1.2.2.1 _ xw_0).2 _)) (fun ex w1 H locs hq hP hD hS => ?_)
  subst hq
  have hP : va_P D clN [(o, .inr (10, [.ref pr, .ref su, .ref ta, .ref la, .int (nI mst), .ref th, .ref mk, .ref tb, .ref sa]))] H := hP.sub [0] rfl
  have hD : va_D A [(o, .inr (10, [.ref pr, .ref su, .ref ta, .ref la, .int (nI mst), .ref th, .ref mk, .ref tb, .ref sa]))] := hD.sub [0] (by decide) rfl
  refine lv_astore_n (lv' := [(2, .ref ex), (0, .ref o), (1, .int x)]) hx hb dN_Law_lay_8 rfl hl (by decide) rfl (fun ls hl => ?_)
  refine lv_iconst (v := (nI 1)) hx hb dN_Law_lay_9 (by decide) ?_
  exact vx_iret C hK hP hD hS dN_Law_lay_10 (Nat.le_of_ble_eq_true rfl) (Nat.le_of_ble_eq_true rfl) (⟨rfl, rfl⟩)
