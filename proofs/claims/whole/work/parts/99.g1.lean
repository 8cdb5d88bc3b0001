set_option maxHeartbeats 4000000 in
set_option maxRecDepth 100000 in
/-- the law's lay, refused -/
theorem kLaw_lay_bad (l : Launch) (D : va_G) (cI cZ cJ : ClassId) (bf : Nat) (o pr su ta la t mk tb sa : Nat) (x : Int32) (hl0 : l.stackTraces = false) (hbad : layB x = true) : vy_Mi l yN_Law_lay wN_Law_lay ({ frames := 7, cells := 1, slots := 6, locals := 130 }) xW_N "StepMachines" xS_N bf D clN (tyN cI cZ cJ) [.ref o, .int x] [(o, .inr (11, [.ref pr, .ref su, .ref ta, .ref la, .ref t, .ref mk, .ref tb, .ref sa]))] (fun r w => r = nI 1 ∧ w = [(o, .inr (11, [.ref pr, .ref su, .ref ta, .ref la, .ref t, .ref mk, .ref tb, .ref sa]))]) := by
  refine vy_startIW (cc := cN_Law_lay) (maxL := 3) (ret := (some .int)) (by decide) rfl (Nat.le_of_ble_eq_true rfl) ?_
  intro p_0 e_0 s m below meth c_0 A ls C Z hK hP hD hS hA hl
  obtain ⟨hx, hb, hr, hml, hown, hts, hlocks, hnm⟩ := id C
  have hown : s.vm.findClass "StepMachinesLaw" = some m.cls := hown
  have ht : ∀ w ∈ TB, w.before _ s = true := fun w h => hts w (List.mem_cons_of_mem _ h)
  have hl : lv_has ls 3 [(0, .ref o), (1, .int x)] := hl
  refine lv_aload_n hx hb dN_Law_lay_0 rfl (lv_at hl 0 rfl) ?_
  refine lv_iload_n hx hb dN_Law_lay_1 rfl (lv_at hl 1 rfl) ?_
  refine vx_callx (As := [.int x]) (rest := []) (wc := [(o, .inr (11, [.ref pr, .ref su, .ref ta, .ref la, .ref t, .ref mk, .ref tb, .ref sa]))]) (wr := []) [0] [] hK hP hD hS hA rfl rfl (by decide) (by decide) ⟨hx, hb, hml, hown, ht⟩ (kMach_lay_bad l hl0 D cI cZ cJ o pr su ta la t mk tb sa x hbad) (⟨callB_of 1 ht (TB_in2 gN_Mach_lay) rfl rfl rfl (ht _ mw_1) (ht _ mw_468) (by decide +kernel) ⟨Nat.le_of_ble_eq_true rfl, Nat.le_of_ble_eq_true rfl⟩, ht _ mw_469, ht _ mw_470⟩) (vx_preX [0] Z.1.1.1 Z.1.2.1 hS hK hP hD (by decide) rfl (ci := 11) rfl 0 rfl) rfl hl.1 (Nat.le_of_ble_eq_true rfl) dN_Law_lay_2 ⟨Nat.le_of_ble_eq_true rfl, Nat.le_of_ble_eq_true rfl⟩ (vx_cat1h Z.2 hown rfl ⟨Nat.le_of_ble_eq_true rfl, Nat.le_of_ble_eq_true rfl⟩ (by decide) (ht _ mw_467) ((Z.1.1.1.2.2.1 _ xw_0).2 _)) (fun ex w1 H locs hq hP hD hS => ?_)
  subst hq
  have hP : va_P D clN [(o, .inr (11, [.ref pr, .ref su, .ref ta, .ref la, .ref t, .ref mk, .ref tb, .ref sa]))] H := hP.sub [0] rfl
  have hD : va_D A [(o, .inr (11, [.ref pr, .ref su, .ref ta, .ref la, .ref t, .ref mk, .ref tb, .ref sa]))] := hD.sub [0] (by decide) rfl
  refine lv_astore_n (lv' := [(2, .ref ex), (0, .ref o), (1, .int x)]) hx hb dN_Law_lay_8 rfl hl (by decide) rfl (fun ls hl => ?_)
  refine lv_iconst (v := (nI 1)) hx hb dN_Law_lay_9 (by decide) ?_
  exact vx_iret C hK hP hD hS dN_Law_lay_10 (Nat.le_of_ble_eq_true rfl) (Nat.le_of_ble_eq_true rfl) (⟨rfl, rfl⟩)
set_option maxHeartbeats 4000000 in
set_option maxRecDepth 100000 in
/-- the law's keep, refused -/
theorem kLaw_keep_bad (l : Launch) (D : va_G) (cI cZ cJ : ClassId) (bf : Nat) (o pr su ta la t mk tb sa : Nat) (x : Int32) (hl0 : l.stackTraces = false) (hbad : keepT x = 1) : vy_Mi l yN_Law_keep wN_Law_keep ({ frames := 7, cells := 1, slots := 6, locals := 130 }) xW_N "StepMachines" xS_N bf D clN (tyN cI cZ cJ) [.ref o, .int x] [(o, .inr (11, [.ref pr, .ref su, .ref ta, .ref la, .ref t, .ref mk, .ref tb, .ref sa]))] (fun r w => r = nI 1 ∧ w = [(o, .inr (11, [.ref pr, .ref su, .ref ta, .ref la, .ref t, .ref mk, .ref tb, .ref sa]))]) := by
  refine vy_startIW (cc := cN_Law_keep) (maxL := 3) (ret := (some .int)) (by decide) rfl (Nat.le_of_ble_eq_true rfl) ?_
  intro p_0 e_0 s m below meth c_0 A ls C Z hK hP hD hS hA hl
  obtain ⟨hx, hb, hr, hml, hown, hts, hlocks, hnm⟩ := id C
  have hown : s.vm.findClass "StepMachinesLaw" = some m.cls := hown
  have ht : ∀ w ∈ TB, w.before _ s = true := fun w h => hts w (List.mem_cons_of_mem _ h)
  have hl : lv_has ls 3 [(0, .ref o), (1, .int x)] := hl
  refine lv_aload_n hx hb dN_Law_keep_0 rfl (lv_at hl 0 rfl) ?_
  refine lv_iload_n hx hb dN_Law_keep_1 rfl (lv_at hl 1 rfl) ?_
  refine vx_callx (As := [.int x]) (rest := []) (wc := [(o, .inr (11, [.ref pr, .ref su, .ref ta, .ref la, .ref t, .ref mk, .ref tb, .ref sa]))]) (wr := []) [0] [] hK hP hD hS hA rfl rfl (by decide) (by decide) ⟨hx, hb, hml, hown, ht⟩ (kMach_keep_bad l hl0 D cI cZ cJ o pr su ta la t mk tb sa x hbad) (⟨callB_of 1 ht (TB_in2 gN_Mach_keep) rfl rfl rfl (ht _ mw_1) (ht _ mw_950) (by decide +kernel) ⟨Nat.le_of_ble_eq_true rfl, Nat.le_of_ble_eq_true rfl⟩, ht _ mw_951, ht _ mw_952⟩) (vx_preX [0] Z.1.1.1 Z.1.2.1 hS hK hP hD (by decide) rfl (ci := 11) rfl 0 rfl) rfl hl.1 (Nat.le_of_ble_eq_true rfl) dN_Law_keep_2 ⟨Nat.le_of_ble_eq_true rfl, Nat.le_of_ble_eq_true rfl⟩ (vx_cat1h Z.2 hown rfl ⟨Nat.le_of_ble_eq_true rfl, Nat.le_of_ble_eq_true rfl⟩ (by decide) (ht _ mw_467) ((Z.1.1.1.2.2.1 _ xw_0).2 _)) (fun ex w1 H locs hq hP hD hS => ?_)
  subst hq
  have hP : va_P D clN [(o, .inr (11, [.ref pr, .ref su, .ref ta, .ref la, .ref t, .ref mk, .ref tb, .ref sa]))] H := hP.sub [0] rfl
  have hD : va_D A [(o, .inr (11, [.ref pr, .ref su, .ref ta, .ref la, .ref t, .ref mk, .ref tb, .ref sa]))] := hD.sub [0] (by decide) rfl
  refine lv_astore_n (lv' := [(2, .ref ex), (0, .ref o), (1, .int x)]) hx hb dN_Law_keep_8 rfl hl (by decide) rfl (fun ls hl => ?_)
  refine lv_iconst (v := (nI 1)) hx hb dN_Law_keep_9 (by decide) ?_
  exact vx_iret C hK hP hD hS dN_Law_keep_10 (Nat.le_of_ble_eq_true rfl) (Nat.le_of_ble_eq_true rfl) (⟨rfl, rfl⟩)
set_option maxHeartbeats 4000000 in
set_option maxRecDepth 100000 in
/-- the law's begin, refused -/
theorem kLaw_begin_bad (l : Launch) (D : va_G) (cI cZ cJ : ClassId) (bf : Nat) (o pr pK pV pF pS su ta la t mk tb sa n b : Nat) (x : Int32) (hl0 : l.stackTraces = false) (hbad : stepB n x = false) : vy_Mi l yN_Law_begin wN_Law_begin ({ frames := 7, cells := 1, slots := 6, locals := 130 }) xW_N "StepMachines" xS_N bf D clN (tyN cI cZ cJ) [.ref o, .int x] [(o, .inr (11, [.ref pr, .ref su, .ref ta, .ref la, .ref t, .ref mk, .ref tb, .ref sa])), (pr, .inr (4, [.ref pK, .ref pV, .ref pF, .ref pS, .int (nI n), .int (nI b)]))] (fun r w => r = nI 1 ∧ w = [(o, .inr (11, [.ref pr, .ref su, .ref ta, .ref la, .ref t, .ref mk, .ref tb, .ref sa])), (pr, .inr (4, [.ref pK, .ref pV, .ref pF, .ref pS, .int (nI n), .int (nI b)]))]) := by
  refine vy_startIW (cc := cN_Law_begin) (maxL := 3) (ret := (some .int)) (by decide) rfl (Nat.le_of_ble_eq_true rfl) ?_
  intro p_0 e_0 s m below meth c_0 A ls C Z hK hP hD hS hA hl
  obtain ⟨hx, hb, hr, hml, hown, hts, hlocks, hnm⟩ := id C
  have hown : s.vm.findClass "StepMachinesLaw" = some m.cls := hown
  have ht : ∀ w ∈ TB, w.before _ s = true := fun w h => hts w (List.mem_cons_of_mem _ h)
  have hl : lv_has ls 3 [(0, .ref o), (1, .int x)] := hl
  refine lv_aload_n hx hb dN_Law_begin_0 rfl (lv_at hl 0 rfl) ?_
  refine lv_iload_n hx hb dN_Law_begin_1 rfl (lv_at hl 1 rfl) ?_
  refine vx_callx (As := [.int x]) (rest := []) (wc := [(o, .inr (11, [.ref pr, .ref su, .ref ta, .ref la, .ref t, .ref mk, .ref tb, .ref sa])), (pr, .inr (4, [.ref pK, .ref pV, .ref pF, .ref pS, .int (nI n), .int (nI b)]))]) (wr := []) [0, 1] [] hK hP hD hS hA rfl rfl (by decide) (by decide) ⟨hx, hb, hml, hown, ht⟩ (kMach_begin_bad l hl0 D cI cZ cJ o pr pK pV pF pS su ta la t mk tb sa n b x hbad) (⟨callB_of 1 ht (TB_in2 gN_Mach_begin) rfl rfl rfl (ht _ mw_1) (ht _ mw_604) (by decide +kernel) ⟨Nat.le_of_ble_eq_true rfl, Nat.le_of_ble_eq_true rfl⟩, ht _ mw_605, ht _ mw_606⟩) (vx_preX [0, 1] Z.1.1.1 Z.1.2.1 hS hK hP hD (by decide) rfl (ci := 11) rfl 0 rfl) rfl hl.1 (Nat.le_of_ble_eq_true rfl) dN_Law_begin_2 ⟨Nat.le_of_ble_eq_true rfl, Nat.le_of_ble_eq_true rfl⟩ (vx_cat1h Z.2 hown rfl ⟨Nat.le_of_ble_eq_true rfl, Nat.le_of_ble_eq_true rfl⟩ (by decide) (ht _ mw_570) ((Z.1.1.1.2.2.1 _ xw_1).2 _)) (fun ex w1 H locs hq hP hD hS => ?_)
  subst hq
  have hP : va_P D clN [(o, .inr (11, [.ref pr, .ref su, .ref ta, .ref la, .ref t, .ref mk, .ref tb, .ref sa])), (pr, .inr (4, [.ref pK, .ref pV, .ref pF, .ref pS, .int (nI n), .int (nI b)]))] H := hP.sub [0, 1] rfl
  have hD : va_D A [(o, .inr (11, [.ref pr, .ref su, .ref ta, .ref la, .ref t, .ref mk, .ref tb, .ref sa])), (pr, .inr (4, [.ref pK, .ref pV, .ref pF, .ref pS, .int (nI n), .int (nI b)]))] := hD.sub [0, 1] (by decide) rfl
  refine lv_astore_n (lv' := [(2, .ref ex), (0, .ref o), (1, .int x)]) hx hb dN_Law_begin_8 rfl hl (by decide) rfl (fun ls hl => ?_)
  refine lv_iconst (v := (nI 1)) hx hb dN_Law_begin_9 (by decide) ?_
  exact vx_iret C hK hP hD hS dN_Law_begin_10 (Nat.le_of_ble_eq_true rfl) (Nat.le_of_ble_eq_true rfl) (⟨rfl, rfl⟩)
set_option maxHeartbeats 4000000 in
set_option maxRecDepth 100000 in
/-- the law's step, refused -/
theorem kLaw_step_iob (l : Launch) (D : va_G) (cI cZ cJ : ClassId) (bf : Nat) (o pr pK pV pF pS su ta la t mk tb sa n b : Nat) (kx kd v a1 b1 : Int32) (hl0 : l.stackTraces = false) (hbad : ixB n kx kd a1 b1 = true) : vy_Mi l yN_Law_step wN_Law_step ({ frames := 7, cells := 1, slots := 6, locals := 130 }) xW_N "StepMachines" xS_N bf D clN (tyN cI cZ cJ) [.ref o, .int kx, .int kd, .int v, .int a1, .int b1] [(o, .inr (11, [.ref pr, .ref su, .ref ta, .ref la, .ref t, .ref mk, .ref tb, .ref sa])), (pr, .inr (4, [.ref pK, .ref pV, .ref pF, .ref pS, .int (nI n), .int (nI b)]))] (fun r w => r = nI 1 ∧ w = [(o, .inr (11, [.ref pr, .ref su, .ref ta, .ref la, .ref t, .ref mk, .ref tb, .ref sa])), (pr, .inr (4, [.ref pK, .ref pV, .ref pF, .ref pS, .int (nI n), .int (nI b)]))]) := by
  refine vy_startIW (cc := cN_Law_step) (maxL := 7) (ret := (some .int)) (by decide) rfl (Nat.le_of_ble_eq_true rfl) ?_
  intro p_0 e_0 s m below meth c_0 A ls C Z hK hP hD hS hA hl
  obtain ⟨hx, hb, hr, hml, hown, hts, hlocks, hnm⟩ := id C
  have hown : s.vm.findClass "StepMachinesLaw" = some m.cls := hown
  have ht : ∀ w ∈ TB, w.before _ s = true := fun w h => hts w (List.mem_cons_of_mem _ h)
  have hl : lv_has ls 7 [(0, .ref o), (1, .int kx), (2, .int kd), (3, .int v), (4, .int a1), (5, .int b1)] := hl
  refine lv_aload_n hx hb dN_Law_step_0 rfl (lv_at hl 0 rfl) ?_
  refine lv_iload_n hx hb dN_Law_step_1 rfl (lv_at hl 1 rfl) ?_
  refine lv_iload_n hx hb dN_Law_step_2 rfl (lv_at hl 2 rfl) ?_
  refine lv_iload_n hx hb dN_Law_step_3 rfl (lv_at hl 3 rfl) ?_
  refine lv_iload hx hb dN_Law_step_4 (lv_at hl 4 rfl) ?_
  refine lv_iload hx hb dN_Law_step_6 (lv_at hl 5 rfl) ?_
  refine vx_callx (As := [.int kx, .int kd, .int v, .int a1, .int b1]) (rest := []) (wc := [(o, .inr (11, [.ref pr, .ref su, .ref ta, .ref la, .ref t, .ref mk, .ref tb, .ref sa])), (pr, .inr (4, [.ref pK, .ref pV, .ref pF, .ref pS, .int (nI n), .int (nI b)]))]) (wr := []) [0, 1] [] hK hP hD hS hA rfl rfl (by decide) (by decide) ⟨hx, hb, hml, hown, ht⟩ (kMach_step_iob l hl0 D cI cZ cJ o pr pK pV pF pS su ta la t mk tb sa n b kx kd v a1 b1 hbad) (⟨callB_of 5 ht (TB_in2 gN_Mach_step) rfl rfl rfl (ht _ mw_1) (ht _ mw_571) (by decide +kernel) ⟨Nat.le_of_ble_eq_true rfl, Nat.le_of_ble_eq_true rfl⟩, ht _ mw_572, ht _ mw_573⟩) (vx_preX [0, 1] Z.1.1.1 Z.1.2.1 hS hK hP hD (by decide) rfl (ci := 11) rfl 0 rfl) rfl hl.1 (Nat.le_of_ble_eq_true rfl) dN_Law_step_8 ⟨Nat.le_of_ble_eq_true rfl, Nat.le_of_ble_eq_true rfl⟩ (vx_cat2ah Z.2 hown rfl ⟨Nat.le_of_ble_eq_true rfl, Nat.le_of_ble_eq_true rfl⟩ (by decide) (ht _ mw_570) ((Z.1.1.1.2.2.1 _ xw_1).2 _)) (fun ex w1 H locs hq hP hD hS => ?_)
  subst hq
  have hP : va_P D clN [(o, .inr (11, [.ref pr, .ref su, .ref ta, .ref la, .ref t, .ref mk, .ref tb, .ref sa])), (pr, .inr (4, [.ref pK, .ref pV, .ref pF, .ref pS, .int (nI n), .int (nI b)]))] H := hP.sub [0, 1] rfl
  have hD : va_D A [(o, .inr (11, [.ref pr, .ref su, .ref ta, .ref la, .ref t, .ref mk, .ref tb, .ref sa])), (pr, .inr (4, [.ref pK, .ref pV, .ref pF, .ref pS, .int (nI n), .int (nI b)]))] := hD.sub [0, 1] (by decide) rfl
  refine lv_astore (lv' := [(6, .ref ex), (0, .ref o), (1, .int kx), (2, .int kd), (3, .int v), (4, .int a1), (5, .int b1)]) hx hb dN_Law_step_14 hl (by decide) rfl (fun ls hl => ?_)
  refine lv_iconst (v := (nI 1)) hx hb dN_Law_step_16 (by decide) ?_
  exact vx_iret C hK hP hD hS dN_Law_step_17 (Nat.le_of_ble_eq_true rfl) (Nat.le_of_ble_eq_true rfl) (⟨rfl, rfl⟩)
set_option maxHeartbeats 4000000 in
set_option maxRecDepth 100000 in
/-- the law's step, refused -/
theorem kLaw_step_iae (l : Launch) (D : va_G) (cI cZ cJ : ClassId) (bf : Nat) (o pr pK pV pF pS su ta la t mk tb sa n b : Nat) (kx kd v a1 b1 : Int32) (hl0 : l.stackTraces = false) (hok : ixB n kx kd a1 b1 = false) (hbad : gdB kd v = false) : vy_Mi l yN_Law_step wN_Law_step ({ frames := 7, cells := 1, slots := 6, locals := 130 }) xW_N "StepMachines" xS_N bf D clN (tyN cI cZ cJ) [.ref o, .int kx, .int kd, .int v, .int a1, .int b1] [(o, .inr (11, [.ref pr, .ref su, .ref ta, .ref la, .ref t, .ref mk, .ref tb, .ref sa])), (pr, .inr (4, [.ref pK, .ref pV, .ref pF, .ref pS, .int (nI n), .int (nI b)]))] (fun r w => r = nI 2 ∧ w = [(o, .inr (11, [.ref pr, .ref su, .ref ta, .ref la, .ref t, .ref mk, .ref tb, .ref sa])), (pr, .inr (4, [.ref pK, .ref pV, .ref pF, .ref pS, .int (nI n), .int (nI b)]))]) := by
  refine vy_startIW (cc := cN_Law_step) (maxL := 7) (ret := (some .int)) (by decide) rfl (Nat.le_of_ble_eq_true rfl) ?_
  intro p_0 e_0 s m below meth c_0 A ls C Z hK hP hD hS hA hl
  obtain ⟨hx, hb, hr, hml, hown, hts, hlocks, hnm⟩ := id C
  have hown : s.vm.findClass "StepMachinesLaw" = some m.cls := hown
  have ht : ∀ w ∈ TB, w.before _ s = true := fun w h => hts w (List.mem_cons_of_mem _ h)
  have hl : lv_has ls 7 [(0, .ref o), (1, .int kx), (2, .int kd), (3, .int v), (4, .int a1), (5, .int b1)] := hl
  refine lv_aload_n hx hb dN_Law_step_0 rfl (lv_at hl 0 rfl) ?_
  refine lv_iload_n hx hb dN_Law_step_1 rfl (lv_at hl 1 rfl) ?_
  refine lv_iload_n hx hb dN_Law_step_2 rfl (lv_at hl 2 rfl) ?_
  refine lv_iload_n hx hb dN_Law_step_3 rfl (lv_at hl 3 rfl) ?_
  refine lv_iload hx hb dN_Law_step_4 (lv_at hl 4 rfl) ?_
  refine lv_iload hx hb dN_Law_step_6 (lv_at hl 5 rfl) ?_
  refine vx_callx (As := [.int kx, .int kd, .int v, .int a1, .int b1]) (rest := []) (wc := [(o, .inr (11, [.ref pr, .ref su, .ref ta, .ref la, .ref t, .ref mk, .ref tb, .ref sa])), (pr, .inr (4, [.ref pK, .ref pV, .ref pF, .ref pS, .int (nI n), .int (nI b)]))]) (wr := []) [0, 1] [] hK hP hD hS hA rfl rfl (by decide) (by decide) ⟨hx, hb, hml, hown, ht⟩ (kMach_step_iae l hl0 D cI cZ cJ o pr pK pV pF pS su ta la t mk tb sa n b kx kd v a1 b1 hok hbad) (⟨callB_of 5 ht (TB_in2 gN_Mach_step) rfl rfl rfl (ht _ mw_1) (ht _ mw_571) (by decide +kernel) ⟨Nat.le_of_ble_eq_true rfl, Nat.le_of_ble_eq_true rfl⟩, ht _ mw_572, ht _ mw_573⟩) (vx_preX [0, 1] Z.1.1.1 Z.1.2.1 hS hK hP hD (by decide) rfl (ci := 11) rfl 0 rfl) rfl hl.1 (Nat.le_of_ble_eq_true rfl) dN_Law_step_8 ⟨Nat.le_of_ble_eq_true rfl, Nat.le_of_ble_eq_true rfl⟩ (vx_cat2bh Z.2 hown rfl ⟨Nat.le_of_ble_eq_true rfl, Nat.le_of_ble_eq_true rfl⟩ (by decide) (ht _ mw_570) ((Z.1.1.1.2.2.1 _ xw_5).2 _) ⟨Nat.le_of_ble_eq_true rfl, Nat.le_of_ble_eq_true rfl⟩ (by decide) (ht _ mw_467) ((Z.1.1.1.2.2.1 _ xw_0).2 _)) (fun ex w1 H locs hq hP hD hS => ?_)
  subst hq
  have hP : va_P D clN [(o, .inr (11, [.ref pr, .ref su, .ref ta, .ref la, .ref t, .ref mk, .ref tb, .ref sa])), (pr, .inr (4, [.ref pK, .ref pV, .ref pF, .ref pS, .int (nI n), .int (nI b)]))] H := hP.sub [0, 1] rfl
  have hD : va_D A [(o, .inr (11, [.ref pr, .ref su, .ref ta, .ref la, .ref t, .ref mk, .ref tb, .ref sa])), (pr, .inr (4, [.ref pK, .ref pV, .ref pF, .ref pS, .int (nI n), .int (nI b)]))] := hD.sub [0, 1] (by decide) rfl
  refine lv_astore (lv' := [(6, .ref ex), (0, .ref o), (1, .int kx), (2, .int kd), (3, .int v), (4, .int a1), (5, .int b1)]) hx hb dN_Law_step_18 hl (by decide) rfl (fun ls hl => ?_)
  refine lv_iconst (v := (nI 2)) hx hb dN_Law_step_20 (by decide) ?_
  exact vx_iret C hK hP hD hS dN_Law_step_21 (Nat.le_of_ble_eq_true rfl) (Nat.le_of_ble_eq_true rfl) (⟨rfl, rfl⟩)
set_option maxHeartbeats 4000000 in
set_option maxRecDepth 100000 in
/-- the law's match, refused -/
theorem kLaw_match_bad (l : Launch) (D : va_G) (cI cZ cJ : ClassId) (bf : Nat) (o pr su ta la t mk tb sa : Nat) (sb len ou : Nat) (x mx y : Int32) (lo : Bool) (fo : Nat → Int64) (hl0 : l.stackTraces = false) (hbad : (goodB len x y && macB mx) = false) : vy_Mi l yN_Law_match wN_Law_match ({ frames := 7, cells := 1, slots := 6, locals := 130 }) xW_N "StepMachines" xS_N bf D clN (tyN cI cZ cJ) [.ref o, .int x, .int (zi lo), .int mx, .int y, .ref ou] [(o, .inr (11, [.ref pr, .ref su, .ref ta, .ref la, .ref t, .ref mk, .ref tb, .ref sa])), (su, .inr (7, [.ref sb, .int (nI len)])), (ou, .inl (cJ, 1, .inr (.inl fo)))] (fun r w => r = nI 1 ∧ w = [(o, .inr (11, [.ref pr, .ref su, .ref ta, .ref la, .ref t, .ref mk, .ref tb, .ref sa])), (su, .inr (7, [.ref sb, .int (nI len)])), (ou, .inl (cJ, 1, .inr (.inl fo)))]) := by
  refine vy_startIW (cc := cN_Law_match) (maxL := 7) (ret := (some .int)) (by decide) rfl (Nat.le_of_ble_eq_true rfl) ?_
  intro p_0 e_0 s m below meth c_0 A ls C Z hK hP hD hS hA hl
  obtain ⟨hx, hb, hr, hml, hown, hts, hlocks, hnm⟩ := id C
  have hown : s.vm.findClass "StepMachinesLaw" = some m.cls := hown
  have ht : ∀ w ∈ TB, w.before _ s = true := fun w h => hts w (List.mem_cons_of_mem _ h)
  have hl : lv_has ls 7 [(0, .ref o), (1, .int x), (2, .int (zi lo)), (3, .int mx), (4, .int y), (5, .ref ou)] := hl
  refine lv_aload hx hb dN_Law_match_0 (lv_at hl 5 rfl) ?_
  refine lv_iconst (v := (nI 0)) hx hb dN_Law_match_2 (by decide) ?_
  refine lv_aload_n hx hb dN_Law_match_3 rfl (lv_at hl 0 rfl) ?_
  refine lv_iload_n hx hb dN_Law_match_4 rfl (lv_at hl 1 rfl) ?_
  refine lv_iload_n hx hb dN_Law_match_5 rfl (lv_at hl 2 rfl) ?_
  refine lv_iload_n hx hb dN_Law_match_6 rfl (lv_at hl 3 rfl) ?_
  refine lv_iload hx hb dN_Law_match_7 (lv_at hl 4 rfl) ?_
  refine vx_callx (As := [.int x, .int (zi lo), .int mx, .int y]) (rest := [.int (nI 0), .ref ou]) (wc := [(o, .inr (11, [.ref pr, .ref su, .ref ta, .ref la, .ref t, .ref mk, .ref tb, .ref sa])), (su, .inr (7, [.ref sb, .int (nI len)]))]) (wr := [(ou, .inl (cJ, 1, .inr (.inl fo)))]) [0, 1] [2] hK hP hD hS hA rfl rfl (by decide) (by decide) ⟨hx, hb, hml, hown, ht⟩ (kMach_match_bad l hl0 D cI cZ cJ o pr su ta la t mk tb sa sb len x mx y lo hbad) (⟨callB_of 4 ht (TB_in2 gN_Mach_match) rfl rfl rfl (ht _ mw_1) (ht _ mw_616) (by decide +kernel) ⟨Nat.le_of_ble_eq_true rfl, Nat.le_of_ble_eq_true rfl⟩, ht _ mw_617, ht _ mw_618⟩) (vx_preX [0, 1] Z.1.1.1 Z.1.2.1 hS hK hP hD (by decide) rfl (ci := 11) rfl 0 rfl) rfl hl.1 (Nat.le_of_ble_eq_true rfl) dN_Law_match_9 ⟨Nat.le_of_ble_eq_true rfl, Nat.le_of_ble_eq_true rfl⟩ (vx_cat1h Z.2 hown rfl ⟨Nat.le_of_ble_eq_true rfl, Nat.le_of_ble_eq_true rfl⟩ (by decide) (ht _ mw_467) ((Z.1.1.1.2.2.1 _ xw_0).2 _)) (fun ex w1 H locs hq hP hD hS => ?_)
  subst hq
  have hP : va_P D clN [(o, .inr (11, [.ref pr, .ref su, .ref ta, .ref la, .ref t, .ref mk, .ref tb, .ref sa])), (su, .inr (7, [.ref sb, .int (nI len)])), (ou, .inl (cJ, 1, .inr (.inl fo)))] H := hP.sub [1, 2, 0] rfl
  have hD : va_D A [(o, .inr (11, [.ref pr, .ref su, .ref ta, .ref la, .ref t, .ref mk, .ref tb, .ref sa])), (su, .inr (7, [.ref sb, .int (nI len)])), (ou, .inl (cJ, 1, .inr (.inl fo)))] := hD.sub [1, 2, 0] (by decide) rfl
  refine lv_astore (lv' := [(6, .ref ex), (0, .ref o), (1, .int x), (2, .int (zi lo)), (3, .int mx), (4, .int y), (5, .ref ou)]) hx hb dN_Law_match_17 hl (by decide) rfl (fun ls hl => ?_)
  refine lv_iconst (v := (nI 1)) hx hb dN_Law_match_19 (by decide) ?_
  exact vx_iret C hK hP hD hS dN_Law_match_20 (Nat.le_of_ble_eq_true rfl) (Nat.le_of_ble_eq_true rfl) (⟨rfl, rfl⟩)
set_option maxHeartbeats 4000000 in
set_option maxRecDepth 100000 in
/-- the law's ends, refused -/
theorem kLaw_ends_bad (l : Launch) (D : va_G) (cI cZ cJ : ClassId) (bf : Nat) (o pr su ta la t mk tb sa : Nat) (sb len ou : Nat) (x y : Int32) (lo : Bool) (fo : Nat → Int64) (hl0 : l.stackTraces = false) (hbad : (goodB len x y && !(lo && decide (x = 0))) = false) : vy_Mi l yN_Law_ends wN_Law_ends ({ frames := 7, cells := 1, slots := 6, locals := 130 }) xW_N "StepMachines" xS_N bf D clN (tyN cI cZ cJ) [.ref o, .int x, .int (zi lo), .int y, .ref ou] [(o, .inr (11, [.ref pr, .ref su, .ref ta, .ref la, .ref t, .ref mk, .ref tb, .ref sa])), (su, .inr (7, [.ref sb, .int (nI len)])), (ou, .inl (cJ, 1, .inr (.inl fo)))] (fun r w => r = nI 1 ∧ w = [(o, .inr (11, [.ref pr, .ref su, .ref ta, .ref la, .ref t, .ref mk, .ref tb, .ref sa])), (su, .inr (7, [.ref sb, .int (nI len)])), (ou, .inl (cJ, 1, .inr (.inl fo)))]) := by
  refine vy_startIW (cc := cN_Law_ends) (maxL := 6) (ret := (some .int)) (by decide) rfl (Nat.le_of_ble_eq_true rfl) ?_
  intro p_0 e_0 s m below meth c_0 A ls C Z hK hP hD hS hA hl
  obtain ⟨hx, hb, hr, hml, hown, hts, hlocks, hnm⟩ := id C
  have hown : s.vm.findClass "StepMachinesLaw" = some m.cls := hown
  have ht : ∀ w ∈ TB, w.before _ s = true := fun w h => hts w (List.mem_cons_of_mem _ h)
  have hl : lv_has ls 6 [(0, .ref o), (1, .int x), (2, .int (zi lo)), (3, .int y), (4, .ref ou)] := hl
  refine lv_aload hx hb dN_Law_ends_0 (lv_at hl 4 rfl) ?_
  refine lv_iconst (v := (nI 0)) hx hb dN_Law_ends_2 (by decide) ?_
  refine lv_aload_n hx hb dN_Law_ends_3 rfl (lv_at hl 0 rfl) ?_
  refine lv_iload_n hx hb dN_Law_ends_4 rfl (lv_at hl 1 rfl) ?_
  refine lv_iload_n hx hb dN_Law_ends_5 rfl (lv_at hl 2 rfl) ?_
  refine lv_iload_n hx hb dN_Law_ends_6 rfl (lv_at hl 3 rfl) ?_
  refine vx_callx (As := [.int x, .int (zi lo), .int y]) (rest := [.int (nI 0), .ref ou]) (wc := [(o, .inr (11, [.ref pr, .ref su, .ref ta, .ref la, .ref t, .ref mk, .ref tb, .ref sa])), (su, .inr (7, [.ref sb, .int (nI len)]))]) (wr := [(ou, .inl (cJ, 1, .inr (.inl fo)))]) [0, 1] [2] hK hP hD hS hA rfl rfl (by decide) (by decide) ⟨hx, hb, hml, hown, ht⟩ (kMach_ends_bad l hl0 D cI cZ cJ o pr su ta la t mk tb sa sb len x y lo hbad) (⟨callB_of 3 ht (TB_in2 gN_Mach_ends) rfl rfl rfl (ht _ mw_1) (ht _ mw_826) (by decide +kernel) ⟨Nat.le_of_ble_eq_true rfl, Nat.le_of_ble_eq_true rfl⟩, ht _ mw_827, ht _ mw_828⟩) (vx_preX [0, 1] Z.1.1.1 Z.1.2.1 hS hK hP hD (by decide) rfl (ci := 11) rfl 0 rfl) rfl hl.1 (Nat.le_of_ble_eq_true rfl) dN_Law_ends_7 ⟨Nat.le_of_ble_eq_true rfl, Nat.le_of_ble_eq_true rfl⟩ (vx_cat1h Z.2 hown rfl ⟨Nat.le_of_ble_eq_true rfl, Nat.le_of_ble_eq_true rfl⟩ (by decide) (ht _ mw_467) ((Z.1.1.1.2.2.1 _ xw_0).2 _)) (fun ex w1 H locs hq hP hD hS => ?_)
  subst hq
  have hP : va_P D clN [(o, .inr (11, [.ref pr, .ref su, .ref ta, .ref la, .ref t, .ref mk, .ref tb, .ref sa])), (su, .inr (7, [.ref sb, .int (nI len)])), (ou, .inl (cJ, 1, .inr (.inl fo)))] H := hP.sub [1, 2, 0] rfl
  have hD : va_D A [(o, .inr (11, [.ref pr, .ref su, .ref ta, .ref la, .ref t, .ref mk, .ref tb, .ref sa])), (su, .inr (7, [.ref sb, .int (nI len)])), (ou, .inl (cJ, 1, .inr (.inl fo)))] := hD.sub [1, 2, 0] (by decide) rfl
  refine lv_astore (lv' := [(5, .ref ex), (0, .ref o), (1, .int x), (2, .int (zi lo)), (3, .int y), (4, .ref ou)]) hx hb dN_Law_ends_15 hl (by decide) rfl (fun ls hl => ?_)
  refine lv_iconst (v := (nI 1)) hx hb dN_Law_ends_17 (by decide) ?_
  exact vx_iret C hK hP hD hS dN_Law_ends_18 (Nat.le_of_ble_eq_true rfl) (Nat.le_of_ble_eq_true rfl) (⟨rfl, rfl⟩)
