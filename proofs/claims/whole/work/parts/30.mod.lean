theorem zi_bne_t {a b : Bool} (h : ¬ a = b) : zi true = zi (a != b) := by cases a <;> cases b <;> first | rfl | exact absurd rfl h
theorem zi_bne_f {a b : Bool} (h : a = b) : zi false = zi (a != b) := by subst h; cases a <;> rfl
theorem zi_beq_t {a b : Bool} (h : a = b) : zi true = zi (a == b) := by subst h; cases a <;> rfl
theorem zi_beq_f {a b : Bool} (h : ¬ a = b) : zi false = zi (a == b) := by cases a <;> cases b <;> first | rfl | exact absurd rfl h
set_option maxHeartbeats 4000000 in
set_option maxRecDepth 100000 in
/-- thrown() -/
theorem kMod_thrown (l : Launch) (D : va_G) (cI cZ cJ : ClassId) (o : Nat) (q : Nat → Nat) (th n b len tr hi ma : Nat)  : vx_Mi l yN_Mod_thrown wN_Mod_thrown ({ frames := 0, cells := 0, slots := 0, locals := 0 }) D clN (tyN cI cZ cJ) [.ref o] [(o, .inr (12, [.int (nI th), .int (nI n), .int (nI b), .ref (q 3), .ref (q 4), .ref (q 5), .ref (q 6), .ref (q 7), .int (nI len), .ref (q 9), .ref (q 10), .ref (q 11), .ref (q 12), .ref (q 13), .ref (q 14), .ref (q 15), .ref (q 16), .ref (q 17), .int (nI tr), .int (nI hi), .ref (q 20), .ref (q 21), .ref (q 22), .ref (q 23), .int (nI ma)]))] (fun r w => r = nI th ∧ w = [(o, .inr (12, [.int (nI th), .int (nI n), .int (nI b), .ref (q 3), .ref (q 4), .ref (q 5), .ref (q 6), .ref (q 7), .int (nI len), .ref (q 9), .ref (q 10), .ref (q 11), .ref (q 12), .ref (q 13), .ref (q 14), .ref (q 15), .ref (q 16), .ref (q 17), .int (nI tr), .int (nI hi), .ref (q 20), .ref (q 21), .ref (q 22), .ref (q 23), .int (nI ma)]))]) := by
  refine vx_startI (cc := cN_Mod_thrown) (maxL := 1) (ret := (some .int)) (by decide) rfl (Nat.le_of_ble_eq_true rfl) ?_
  intro p_0 e_0 s m below meth c_0 A ls C hK hP hD hS hA hl
  obtain ⟨hx, hb, hr, hml, hown, hts, hlocks, hnm⟩ := id C
  have hown : s.vm.findClass "StepMachinesModel" = some m.cls := hown
  have ht : ∀ w ∈ TB, w.before _ s = true := fun w h => hts w (List.mem_cons_of_mem _ h)
  have hl : lv_has ls 1 [(0, .ref o)] := hl
  refine lv_aload_n hx hb dN_Mod_thrown_0 rfl (lv_at hl 0 rfl) ?_
  refine va_get (D := D) (ci := 12) (v := .int (nI th)) (C := RN_Mod) (T := FN_Mod) (N := 25) hx hb ht fN_Mod hown hK hP 0 rfl rfl 0 (by decide) (ht _ mw_972) (fun _ h9 => h9) rfl dN_Mod_thrown_1 ?_
  exact vx_iret C hK hP hD hS dN_Mod_thrown_4 (Nat.le_of_ble_eq_true rfl) (Nat.le_of_ble_eq_true rfl) (⟨rfl, rfl⟩)
def stepB (n : Nat) (x : Int32) : Bool := !decide (x < 0) && !decide (nI n ≤ x)
set_option maxHeartbeats 4000000 in
set_option maxRecDepth 100000 in
/-- isStep(x) -/
theorem kMod_isStep (l : Launch) (D : va_G) (cI cZ cJ : ClassId) (o : Nat) (q : Nat → Nat) (th n b len tr hi ma : Nat) (x : Int32)  : vx_Mi l yN_Mod_isStep wN_Mod_isStep ({ frames := 0, cells := 0, slots := 0, locals := 0 }) D clN (tyN cI cZ cJ) [.ref o, .int x] [(o, .inr (12, [.int (nI th), .int (nI n), .int (nI b), .ref (q 3), .ref (q 4), .ref (q 5), .ref (q 6), .ref (q 7), .int (nI len), .ref (q 9), .ref (q 10), .ref (q 11), .ref (q 12), .ref (q 13), .ref (q 14), .ref (q 15), .ref (q 16), .ref (q 17), .int (nI tr), .int (nI hi), .ref (q 20), .ref (q 21), .ref (q 22), .ref (q 23), .int (nI ma)]))] (fun r w => r = zi (stepB n x) ∧ w = [(o, .inr (12, [.int (nI th), .int (nI n), .int (nI b), .ref (q 3), .ref (q 4), .ref (q 5), .ref (q 6), .ref (q 7), .int (nI len), .ref (q 9), .ref (q 10), .ref (q 11), .ref (q 12), .ref (q 13), .ref (q 14), .ref (q 15), .ref (q 16), .ref (q 17), .int (nI tr), .int (nI hi), .ref (q 20), .ref (q 21), .ref (q 22), .ref (q 23), .int (nI ma)]))]) := by
  refine vx_startI (cc := cN_Mod_isStep) (maxL := 2) (ret := (some .boolean)) (by decide) rfl (Nat.le_of_ble_eq_true rfl) ?_
  intro p_0 e_0 s m below meth c_0 A ls C hK hP hD hS hA hl
  obtain ⟨hx, hb, hr, hml, hown, hts, hlocks, hnm⟩ := id C
  have hown : s.vm.findClass "StepMachinesModel" = some m.cls := hown
  have ht : ∀ w ∈ TB, w.before _ s = true := fun w h => hts w (List.mem_cons_of_mem _ h)
  have hl : lv_has ls 2 [(0, .ref o), (1, .int x)] := hl
  refine lv_iload_n hx hb dN_Mod_isStep_0 rfl (lv_at hl 1 rfl) ?_
  refine lv_if_lt (tgt := 16) hx hb dN_Mod_isStep_1 (by decide) (fun c_1_0 => ?_) (fun c_1_0 => ?_)
  · skip
    refine lv_iconst (v := (nI 0)) hx hb dN_Mod_isStep_16 (by decide) ?_
    refine xn_top (y := zi false) rfl ?_
    exact vx_zret C hK hP hD hS dN_Mod_isStep_17 (Nat.le_of_ble_eq_true rfl) (Nat.le_of_ble_eq_true rfl) (zi_nar2 _) (⟨by simp [stepB, c_1_0], rfl⟩)
  · skip
    refine lv_iload_n hx hb dN_Mod_isStep_4 rfl (lv_at hl 1 rfl) ?_
    refine lv_aload_n hx hb dN_Mod_isStep_5 rfl (lv_at hl 0 rfl) ?_
    refine va_get (D := D) (ci := 12) (v := .int (nI n)) (C := RN_Mod) (T := FN_Mod) (N := 25) hx hb ht fN_Mod hown hK hP 0 rfl rfl 1 (by decide) (ht _ mw_973) (fun _ h9 => h9) rfl dN_Mod_isStep_6 ?_
    refine lv_icmp_ge (tgt := 16) hx hb dN_Mod_isStep_9 (by decide) (fun c_9_1 => ?_) (fun c_9_1 => ?_)
    · skip
      refine lv_iconst (v := (nI 0)) hx hb dN_Mod_isStep_16 (by decide) ?_
      refine xn_top (y := zi false) rfl ?_
      exact vx_zret C hK hP hD hS dN_Mod_isStep_17 (Nat.le_of_ble_eq_true rfl) (Nat.le_of_ble_eq_true rfl) (zi_nar2 _) (⟨by simp [stepB, c_1_0, c_9_1], rfl⟩)
    · skip
      refine lv_iconst (v := (nI 1)) hx hb dN_Mod_isStep_12 (by decide) ?_
      refine lv_goto (tgt := 17) hx hb dN_Mod_isStep_13 (by decide) ?_
      refine xn_top (y := zi true) rfl ?_
      exact vx_zret C hK hP hD hS dN_Mod_isStep_17 (Nat.le_of_ble_eq_true rfl) (Nat.le_of_ble_eq_true rfl) (zi_nar2 _) (⟨by simp [stepB, c_1_0, c_9_1], rfl⟩)
def isW (c : Nat) : Bool := decide (48 ≤ c ∧ c ≤ 57 ∨ 65 ≤ c ∧ c ≤ 90 ∨ 97 ≤ c ∧ c ≤ 122 ∨ c = 95)
/-- the byte ahead of place q, 0 for none -/
def byB (len : Nat) (u : Nat → Nat) (q : Nat) : Nat := if 1 ≤ q ∧ q ≤ len then u (q - 1) else 0
theorem isW_t {c : Nat} (h : 48 ≤ c ∧ c ≤ 57 ∨ 65 ≤ c ∧ c ≤ 90 ∨ 97 ≤ c ∧ c ≤ 122 ∨ c = 95) : zi true = zi (isW c) := by rw [isW, decide_eq_true h]
theorem isW_f {c : Nat} (h : ¬ (48 ≤ c ∧ c ≤ 57 ∨ 65 ≤ c ∧ c ≤ 90 ∨ 97 ≤ c ∧ c ≤ 122 ∨ c = 95)) : zi false = zi (isW c) := by rw [isW, decide_eq_false h]
theorem m1_lt {q : Nat} (hq : q < 2 ^ 30) : nI q - nI 1 < 0 ↔ q = 0 := by
  constructor
  · intro h
    rcases Nat.eq_zero_or_pos q with h0 | h0
    · exact h0
    · rw [pk_sub h0] at h; exact absurd h (nI_pos (by omega))
  · intro h; subst h; exact pk_sneg (by omega) (by omega)
theorem byB_lt {len : Nat} {u : Nat → Nat} {q : Nat} (hu : ∀ i, u i < 256) : byB len u q < 256 := by
  rw [byB]; split
  · exact hu _
  · omega
set_option maxHeartbeats 4000000 in
set_option maxRecDepth 100000 in
/-- wordAt(t - 1) -/
theorem kMod_wordAt (l : Launch) (D : va_G) (cI cZ cJ : ClassId) (o : Nat) (q : Nat → Nat) (th n b len tr hi ma : Nat) (u : Nat → Nat) (x : Int32) (t : Nat) (ex : x = nI t - nI 1) (hle : len ≤ 200) (htl : t ≤ len + 1) (hu : ∀ i, u i < 256) : vx_Mi l yN_Mod_wordAt wN_Mod_wordAt ({ frames := 0, cells := 0, slots := 0, locals := 0 }) D clN (tyN cI cZ cJ) [.ref o, .int x] [(o, .inr (12, [.int (nI th), .int (nI n), .int (nI b), .ref (q 3), .ref (q 4), .ref (q 5), .ref (q 6), .ref (q 7), .int (nI len), .ref (q 9), .ref (q 10), .ref (q 11), .ref (q 12), .ref (q 13), .ref (q 14), .ref (q 15), .ref (q 16), .ref (q 17), .int (nI tr), .int (nI hi), .ref (q 20), .ref (q 21), .ref (q 22), .ref (q 23), .int (nI ma)])), (q 7, .inl (cI, 200, .inl (ni u)))] (fun r w => r = zi (isW (byB len u t)) ∧ w = [(o, .inr (12, [.int (nI th), .int (nI n), .int (nI b), .ref (q 3), .ref (q 4), .ref (q 5), .ref (q 6), .ref (q 7), .int (nI len), .ref (q 9), .ref (q 10), .ref (q 11), .ref (q 12), .ref (q 13), .ref (q 14), .ref (q 15), .ref (q 16), .ref (q 17), .int (nI tr), .int (nI hi), .ref (q 20), .ref (q 21), .ref (q 22), .ref (q 23), .int (nI ma)])), (q 7, .inl (cI, 200, .inl (ni u)))]) := by
  refine vx_startI (cc := cN_Mod_wordAt) (maxL := 3) (ret := (some .boolean)) (by decide) rfl (Nat.le_of_ble_eq_true rfl) ?_
  intro p_0 e_0 s m below meth c_0 A ls C hK hP hD hS hA hl
  obtain ⟨hx, hb, hr, hml, hown, hts, hlocks, hnm⟩ := id C
  have hown : s.vm.findClass "StepMachinesModel" = some m.cls := hown
  have ht : ∀ w ∈ TB, w.before _ s = true := fun w h => hts w (List.mem_cons_of_mem _ h)
  have hl : lv_has ls 3 [(0, .ref o), (1, .int x)] := hl
  refine vx_join (α := Nat) (fun j1 => j1 = byB len u t) (fun j1 => F0 m 22 ls [.int (nI j1)]) (fun j1 hj1 => ?_) (fun Jj1 => ?_)
  · skip
    have hbj1 : j1 < 256 := by rw [hj1]; exact byB_lt hu
    refine lv_istore_n (lv' := [(2, .int (nI j1)), (0, .ref o), (1, .int x)]) hx hb dN_Mod_wordAt_22 rfl hl (by decide) rfl (fun ls hl => ?_)
    refine lv_iload_n hx hb dN_Mod_wordAt_23 rfl (lv_at hl 0 rfl) ?_
    refine lv_bipush (v := (nI 48)) hx hb dN_Mod_wordAt_24 (by decide) ?_
    refine xn_lt (tgt := 35) hx hb dN_Mod_wordAt_26 (by decide) (by omega) (by omega) (fun c_26_1 => ?_) (fun c_26_1 => ?_)
    · skip
      refine lv_iload_n hx hb dN_Mod_wordAt_35 rfl (lv_at hl 0 rfl) ?_
      refine lv_bipush (v := (nI 65)) hx hb dN_Mod_wordAt_36 (by decide) ?_
      refine xn_lt (tgt := 47) hx hb dN_Mod_wordAt_38 (by decide) (by omega) (by omega) (fun c_38_2 => ?_) (fun c_38_2 => ?_)
      · skip
        refine lv_iload_n hx hb dN_Mod_wordAt_47 rfl (lv_at hl 0 rfl) ?_
        refine lv_bipush (v := (nI 97)) hx hb dN_Mod_wordAt_48 (by decide) ?_
        refine xn_lt (tgt := 59) hx hb dN_Mod_wordAt_50 (by decide) (by omega) (by omega) (fun c_50_3 => ?_) (fun c_50_3 => ?_)
        · skip
          refine lv_iload_n hx hb dN_Mod_wordAt_59 rfl (lv_at hl 0 rfl) ?_
          refine lv_bipush (v := (nI 95)) hx hb dN_Mod_wordAt_60 (by decide) ?_
          refine xn_ne (tgt := 69) hx hb dN_Mod_wordAt_62 (by decide) (by omega) (by omega) (fun c_62_4 => ?_) (fun c_62_4 => ?_)
          · skip
            refine lv_iconst (v := (nI 0)) hx hb dN_Mod_wordAt_69 (by decide) ?_
            refine xn_top (y := zi false) rfl ?_
            exact vx_zret C hK hP hD hS dN_Mod_wordAt_70 (Nat.le_of_ble_eq_true rfl) (Nat.le_of_ble_eq_true rfl) (zi_nar2 _) (⟨by rw [← hj1]; exact isW_f (by omega), rfl⟩)
          · skip
            refine lv_iconst (v := (nI 1)) hx hb dN_Mod_wordAt_65 (by decide) ?_
            refine lv_goto (tgt := 70) hx hb dN_Mod_wordAt_66 (by decide) ?_
            refine xn_top (y := zi true) rfl ?_
            exact vx_zret C hK hP hD hS dN_Mod_wordAt_70 (Nat.le_of_ble_eq_true rfl) (Nat.le_of_ble_eq_true rfl) (zi_nar2 _) (⟨by rw [← hj1]; exact isW_t (by omega), rfl⟩)
        · skip
          refine lv_iload_n hx hb dN_Mod_wordAt_53 rfl (lv_at hl 0 rfl) ?_
          refine lv_bipush (v := (nI 122)) hx hb dN_Mod_wordAt_54 (by decide) ?_
          refine xn_le (tgt := 65) hx hb dN_Mod_wordAt_56 (by decide) (by omega) (by omega) (fun c_56_5 => ?_) (fun c_56_5 => ?_)
          · skip
            refine lv_iconst (v := (nI 1)) hx hb dN_Mod_wordAt_65 (by decide) ?_
            refine lv_goto (tgt := 70) hx hb dN_Mod_wordAt_66 (by decide) ?_
            refine xn_top (y := zi true) rfl ?_
            exact vx_zret C hK hP hD hS dN_Mod_wordAt_70 (Nat.le_of_ble_eq_true rfl) (Nat.le_of_ble_eq_true rfl) (zi_nar2 _) (⟨by rw [← hj1]; exact isW_t (by omega), rfl⟩)
          · skip
            refine lv_iload_n hx hb dN_Mod_wordAt_59 rfl (lv_at hl 0 rfl) ?_
            refine lv_bipush (v := (nI 95)) hx hb dN_Mod_wordAt_60 (by decide) ?_
            refine xn_ne (tgt := 69) hx hb dN_Mod_wordAt_62 (by decide) (by omega) (by omega) (fun c_62_6 => ?_) (fun c_62_6 => ?_)
            · skip
              refine lv_iconst (v := (nI 0)) hx hb dN_Mod_wordAt_69 (by decide) ?_
              refine xn_top (y := zi false) rfl ?_
              exact vx_zret C hK hP hD hS dN_Mod_wordAt_70 (Nat.le_of_ble_eq_true rfl) (Nat.le_of_ble_eq_true rfl) (zi_nar2 _) (⟨by rw [← hj1]; exact isW_f (by omega), rfl⟩)
            · skip
              refine lv_iconst (v := (nI 1)) hx hb dN_Mod_wordAt_65 (by decide) ?_
              refine lv_goto (tgt := 70) hx hb dN_Mod_wordAt_66 (by decide) ?_
              refine xn_top (y := zi true) rfl ?_
              exact vx_zret C hK hP hD hS dN_Mod_wordAt_70 (Nat.le_of_ble_eq_true rfl) (Nat.le_of_ble_eq_true rfl) (zi_nar2 _) (⟨by rw [← hj1]; exact isW_t (by omega), rfl⟩)
      · skip
        refine lv_iload_n hx hb dN_Mod_wordAt_41 rfl (lv_at hl 0 rfl) ?_
        refine lv_bipush (v := (nI 90)) hx hb dN_Mod_wordAt_42 (by decide) ?_
        refine xn_le (tgt := 65) hx hb dN_Mod_wordAt_44 (by decide) (by omega) (by omega) (fun c_44_7 => ?_) (fun c_44_7 => ?_)
        · skip
          refine lv_iconst (v := (nI 1)) hx hb dN_Mod_wordAt_65 (by decide) ?_
          refine lv_goto (tgt := 70) hx hb dN_Mod_wordAt_66 (by decide) ?_
          refine xn_top (y := zi true) rfl ?_
          exact vx_zret C hK hP hD hS dN_Mod_wordAt_70 (Nat.le_of_ble_eq_true rfl) (Nat.le_of_ble_eq_true rfl) (zi_nar2 _) (⟨by rw [← hj1]; exact isW_t (by omega), rfl⟩)
        · skip
          refine lv_iload_n hx hb dN_Mod_wordAt_47 rfl (lv_at hl 0 rfl) ?_
          refine lv_bipush (v := (nI 97)) hx hb dN_Mod_wordAt_48 (by decide) ?_
          refine xn_lt (tgt := 59) hx hb dN_Mod_wordAt_50 (by decide) (by omega) (by omega) (fun c_50_8 => ?_) (fun c_50_8 => ?_)
          · skip
            refine lv_iload_n hx hb dN_Mod_wordAt_59 rfl (lv_at hl 0 rfl) ?_
            refine lv_bipush (v := (nI 95)) hx hb dN_Mod_wordAt_60 (by decide) ?_
            refine xn_ne (tgt := 69) hx hb dN_Mod_wordAt_62 (by decide) (by omega) (by omega) (fun c_62_9 => ?_) (fun c_62_9 => ?_)
            · skip
              refine lv_iconst (v := (nI 0)) hx hb dN_Mod_wordAt_69 (by decide) ?_
              refine xn_top (y := zi false) rfl ?_
              exact vx_zret C hK hP hD hS dN_Mod_wordAt_70 (Nat.le_of_ble_eq_true rfl) (Nat.le_of_ble_eq_true rfl) (zi_nar2 _) (⟨by rw [← hj1]; exact isW_f (by omega), rfl⟩)
            · skip
              refine lv_iconst (v := (nI 1)) hx hb dN_Mod_wordAt_65 (by decide) ?_
              refine lv_goto (tgt := 70) hx hb dN_Mod_wordAt_66 (by decide) ?_
              refine xn_top (y := zi true) rfl ?_
              exact vx_zret C hK hP hD hS dN_Mod_wordAt_70 (Nat.le_of_ble_eq_true rfl) (Nat.le_of_ble_eq_true rfl) (zi_nar2 _) (⟨by rw [← hj1]; exact isW_t (by omega), rfl⟩)
          · skip
            refine lv_iload_n hx hb dN_Mod_wordAt_53 rfl (lv_at hl 0 rfl) ?_
            refine lv_bipush (v := (nI 122)) hx hb dN_Mod_wordAt_54 (by decide) ?_
            refine xn_le (tgt := 65) hx hb dN_Mod_wordAt_56 (by decide) (by omega) (by omega) (fun c_56_10 => ?_) (fun c_56_10 => ?_)
            · skip
              refine lv_iconst (v := (nI 1)) hx hb dN_Mod_wordAt_65 (by decide) ?_
              refine lv_goto (tgt := 70) hx hb dN_Mod_wordAt_66 (by decide) ?_
              refine xn_top (y := zi true) rfl ?_
              exact vx_zret C hK hP hD hS dN_Mod_wordAt_70 (Nat.le_of_ble_eq_true rfl) (Nat.le_of_ble_eq_true rfl) (zi_nar2 _) (⟨by rw [← hj1]; exact isW_t (by omega), rfl⟩)
            · skip
              refine lv_iload_n hx hb dN_Mod_wordAt_59 rfl (lv_at hl 0 rfl) ?_
              refine lv_bipush (v := (nI 95)) hx hb dN_Mod_wordAt_60 (by decide) ?_
              refine xn_ne (tgt := 69) hx hb dN_Mod_wordAt_62 (by decide) (by omega) (by omega) (fun c_62_11 => ?_) (fun c_62_11 => ?_)
              · skip
                refine lv_iconst (v := (nI 0)) hx hb dN_Mod_wordAt_69 (by decide) ?_
                refine xn_top (y := zi false) rfl ?_
                exact vx_zret C hK hP hD hS dN_Mod_wordAt_70 (Nat.le_of_ble_eq_true rfl) (Nat.le_of_ble_eq_true rfl) (zi_nar2 _) (⟨by rw [← hj1]; exact isW_f (by omega), rfl⟩)
              · skip
                refine lv_iconst (v := (nI 1)) hx hb dN_Mod_wordAt_65 (by decide) ?_
                refine lv_goto (tgt := 70) hx hb dN_Mod_wordAt_66 (by decide) ?_
                refine xn_top (y := zi true) rfl ?_
                exact vx_zret C hK hP hD hS dN_Mod_wordAt_70 (Nat.le_of_ble_eq_true rfl) (Nat.le_of_ble_eq_true rfl) (zi_nar2 _) (⟨by rw [← hj1]; exact isW_t (by omega), rfl⟩)
    · skip
      refine lv_iload_n hx hb dN_Mod_wordAt_29 rfl (lv_at hl 0 rfl) ?_
      refine lv_bipush (v := (nI 57)) hx hb dN_Mod_wordAt_30 (by decide) ?_
      refine xn_le (tgt := 65) hx hb dN_Mod_wordAt_32 (by decide) (by omega) (by omega) (fun c_32_12 => ?_) (fun c_32_12 => ?_)
      · skip
        refine lv_iconst (v := (nI 1)) hx hb dN_Mod_wordAt_65 (by decide) ?_
        refine lv_goto (tgt := 70) hx hb dN_Mod_wordAt_66 (by decide) ?_
        refine xn_top (y := zi true) rfl ?_
        exact vx_zret C hK hP hD hS dN_Mod_wordAt_70 (Nat.le_of_ble_eq_true rfl) (Nat.le_of_ble_eq_true rfl) (zi_nar2 _) (⟨by rw [← hj1]; exact isW_t (by omega), rfl⟩)
      · skip
        refine lv_iload_n hx hb dN_Mod_wordAt_35 rfl (lv_at hl 0 rfl) ?_
        refine lv_bipush (v := (nI 65)) hx hb dN_Mod_wordAt_36 (by decide) ?_
        refine xn_lt (tgt := 47) hx hb dN_Mod_wordAt_38 (by decide) (by omega) (by omega) (fun c_38_13 => ?_) (fun c_38_13 => ?_)
        · skip
          refine lv_iload_n hx hb dN_Mod_wordAt_47 rfl (lv_at hl 0 rfl) ?_
          refine lv_bipush (v := (nI 97)) hx hb dN_Mod_wordAt_48 (by decide) ?_
          refine xn_lt (tgt := 59) hx hb dN_Mod_wordAt_50 (by decide) (by omega) (by omega) (fun c_50_14 => ?_) (fun c_50_14 => ?_)
          · skip
            refine lv_iload_n hx hb dN_Mod_wordAt_59 rfl (lv_at hl 0 rfl) ?_
            refine lv_bipush (v := (nI 95)) hx hb dN_Mod_wordAt_60 (by decide) ?_
            refine xn_ne (tgt := 69) hx hb dN_Mod_wordAt_62 (by decide) (by omega) (by omega) (fun c_62_15 => ?_) (fun c_62_15 => ?_)
            · skip
              refine lv_iconst (v := (nI 0)) hx hb dN_Mod_wordAt_69 (by decide) ?_
              refine xn_top (y := zi false) rfl ?_
              exact vx_zret C hK hP hD hS dN_Mod_wordAt_70 (Nat.le_of_ble_eq_true rfl) (Nat.le_of_ble_eq_true rfl) (zi_nar2 _) (⟨by rw [← hj1]; exact isW_f (by omega), rfl⟩)
            · skip
              refine lv_iconst (v := (nI 1)) hx hb dN_Mod_wordAt_65 (by decide) ?_
              refine lv_goto (tgt := 70) hx hb dN_Mod_wordAt_66 (by decide) ?_
              refine xn_top (y := zi true) rfl ?_
              exact vx_zret C hK hP hD hS dN_Mod_wordAt_70 (Nat.le_of_ble_eq_true rfl) (Nat.le_of_ble_eq_true rfl) (zi_nar2 _) (⟨by rw [← hj1]; exact isW_t (by omega), rfl⟩)
          · skip
            refine lv_iload_n hx hb dN_Mod_wordAt_53 rfl (lv_at hl 0 rfl) ?_
            refine lv_bipush (v := (nI 122)) hx hb dN_Mod_wordAt_54 (by decide) ?_
            refine xn_le (tgt := 65) hx hb dN_Mod_wordAt_56 (by decide) (by omega) (by omega) (fun c_56_16 => ?_) (fun c_56_16 => ?_)
            · skip
              refine lv_iconst (v := (nI 1)) hx hb dN_Mod_wordAt_65 (by decide) ?_
              refine lv_goto (tgt := 70) hx hb dN_Mod_wordAt_66 (by decide) ?_
              refine xn_top (y := zi true) rfl ?_
              exact vx_zret C hK hP hD hS dN_Mod_wordAt_70 (Nat.le_of_ble_eq_true rfl) (Nat.le_of_ble_eq_true rfl) (zi_nar2 _) (⟨by rw [← hj1]; exact isW_t (by omega), rfl⟩)
            · skip
              refine lv_iload_n hx hb dN_Mod_wordAt_59 rfl (lv_at hl 0 rfl) ?_
              refine lv_bipush (v := (nI 95)) hx hb dN_Mod_wordAt_60 (by decide) ?_
              refine xn_ne (tgt := 69) hx hb dN_Mod_wordAt_62 (by decide) (by omega) (by omega) (fun c_62_17 => ?_) (fun c_62_17 => ?_)
              · skip
                refine lv_iconst (v := (nI 0)) hx hb dN_Mod_wordAt_69 (by decide) ?_
                refine xn_top (y := zi false) rfl ?_
                exact vx_zret C hK hP hD hS dN_Mod_wordAt_70 (Nat.le_of_ble_eq_true rfl) (Nat.le_of_ble_eq_true rfl) (zi_nar2 _) (⟨by rw [← hj1]; exact isW_f (by omega), rfl⟩)
              · skip
                refine lv_iconst (v := (nI 1)) hx hb dN_Mod_wordAt_65 (by decide) ?_
                refine lv_goto (tgt := 70) hx hb dN_Mod_wordAt_66 (by decide) ?_
                refine xn_top (y := zi true) rfl ?_
                exact vx_zret C hK hP hD hS dN_Mod_wordAt_70 (Nat.le_of_ble_eq_true rfl) (Nat.le_of_ble_eq_true rfl) (zi_nar2 _) (⟨by rw [← hj1]; exact isW_t (by omega), rfl⟩)
        · skip
          refine lv_iload_n hx hb dN_Mod_wordAt_41 rfl (lv_at hl 0 rfl) ?_
          refine lv_bipush (v := (nI 90)) hx hb dN_Mod_wordAt_42 (by decide) ?_
          refine xn_le (tgt := 65) hx hb dN_Mod_wordAt_44 (by decide) (by omega) (by omega) (fun c_44_18 => ?_) (fun c_44_18 => ?_)
          · skip
            refine lv_iconst (v := (nI 1)) hx hb dN_Mod_wordAt_65 (by decide) ?_
            refine lv_goto (tgt := 70) hx hb dN_Mod_wordAt_66 (by decide) ?_
            refine xn_top (y := zi true) rfl ?_
            exact vx_zret C hK hP hD hS dN_Mod_wordAt_70 (Nat.le_of_ble_eq_true rfl) (Nat.le_of_ble_eq_true rfl) (zi_nar2 _) (⟨by rw [← hj1]; exact isW_t (by omega), rfl⟩)
          · skip
            refine lv_iload_n hx hb dN_Mod_wordAt_47 rfl (lv_at hl 0 rfl) ?_
            refine lv_bipush (v := (nI 97)) hx hb dN_Mod_wordAt_48 (by decide) ?_
            refine xn_lt (tgt := 59) hx hb dN_Mod_wordAt_50 (by decide) (by omega) (by omega) (fun c_50_19 => ?_) (fun c_50_19 => ?_)
            · skip
              refine lv_iload_n hx hb dN_Mod_wordAt_59 rfl (lv_at hl 0 rfl) ?_
              refine lv_bipush (v := (nI 95)) hx hb dN_Mod_wordAt_60 (by decide) ?_
              refine xn_ne (tgt := 69) hx hb dN_Mod_wordAt_62 (by decide) (by omega) (by omega) (fun c_62_20 => ?_) (fun c_62_20 => ?_)
              · skip
                refine lv_iconst (v := (nI 0)) hx hb dN_Mod_wordAt_69 (by decide) ?_
                refine xn_top (y := zi false) rfl ?_
                exact vx_zret C hK hP hD hS dN_Mod_wordAt_70 (Nat.le_of_ble_eq_true rfl) (Nat.le_of_ble_eq_true rfl) (zi_nar2 _) (⟨by rw [← hj1]; exact isW_f (by omega), rfl⟩)
              · skip
                refine lv_iconst (v := (nI 1)) hx hb dN_Mod_wordAt_65 (by decide) ?_
                refine lv_goto (tgt := 70) hx hb dN_Mod_wordAt_66 (by decide) ?_
                refine xn_top (y := zi true) rfl ?_
                exact vx_zret C hK hP hD hS dN_Mod_wordAt_70 (Nat.le_of_ble_eq_true rfl) (Nat.le_of_ble_eq_true rfl) (zi_nar2 _) (⟨by rw [← hj1]; exact isW_t (by omega), rfl⟩)
            · skip
              refine lv_iload_n hx hb dN_Mod_wordAt_53 rfl (lv_at hl 0 rfl) ?_
              refine lv_bipush (v := (nI 122)) hx hb dN_Mod_wordAt_54 (by decide) ?_
              refine xn_le (tgt := 65) hx hb dN_Mod_wordAt_56 (by decide) (by omega) (by omega) (fun c_56_21 => ?_) (fun c_56_21 => ?_)
              · skip
                refine lv_iconst (v := (nI 1)) hx hb dN_Mod_wordAt_65 (by decide) ?_
                refine lv_goto (tgt := 70) hx hb dN_Mod_wordAt_66 (by decide) ?_
                refine xn_top (y := zi true) rfl ?_
                exact vx_zret C hK hP hD hS dN_Mod_wordAt_70 (Nat.le_of_ble_eq_true rfl) (Nat.le_of_ble_eq_true rfl) (zi_nar2 _) (⟨by rw [← hj1]; exact isW_t (by omega), rfl⟩)
              · skip
                refine lv_iload_n hx hb dN_Mod_wordAt_59 rfl (lv_at hl 0 rfl) ?_
                refine lv_bipush (v := (nI 95)) hx hb dN_Mod_wordAt_60 (by decide) ?_
                refine xn_ne (tgt := 69) hx hb dN_Mod_wordAt_62 (by decide) (by omega) (by omega) (fun c_62_22 => ?_) (fun c_62_22 => ?_)
                · skip
                  refine lv_iconst (v := (nI 0)) hx hb dN_Mod_wordAt_69 (by decide) ?_
                  refine xn_top (y := zi false) rfl ?_
                  exact vx_zret C hK hP hD hS dN_Mod_wordAt_70 (Nat.le_of_ble_eq_true rfl) (Nat.le_of_ble_eq_true rfl) (zi_nar2 _) (⟨by rw [← hj1]; exact isW_f (by omega), rfl⟩)
                · skip
                  refine lv_iconst (v := (nI 1)) hx hb dN_Mod_wordAt_65 (by decide) ?_
                  refine lv_goto (tgt := 70) hx hb dN_Mod_wordAt_66 (by decide) ?_
                  refine xn_top (y := zi true) rfl ?_
                  exact vx_zret C hK hP hD hS dN_Mod_wordAt_70 (Nat.le_of_ble_eq_true rfl) (Nat.le_of_ble_eq_true rfl) (zi_nar2 _) (⟨by rw [← hj1]; exact isW_t (by omega), rfl⟩)
  · skip
    refine lv_iload_n hx hb dN_Mod_wordAt_0 rfl (lv_at hl 1 rfl) ?_
    refine lv_if_lt (tgt := 21) hx hb dN_Mod_wordAt_1 (by decide) (fun c_1_23 => ?_) (fun c_1_23 => ?_)
    · skip
      rw [ex, m1_lt (by omega)] at c_1_23
      refine lv_iconst (v := (nI 0)) hx hb dN_Mod_wordAt_21 (by decide) ?_
      exact Jj1 (0) (by rw [byB, if_neg (by omega)])
    · skip
      rw [ex, m1_lt (by omega)] at c_1_23
      refine lv_iload_n hx hb dN_Mod_wordAt_4 rfl (lv_at hl 1 rfl) ?_
      refine lv_aload_n hx hb dN_Mod_wordAt_5 rfl (lv_at hl 0 rfl) ?_
      refine va_get (D := D) (ci := 12) (v := .int (nI len)) (C := RN_Mod) (T := FN_Mod) (N := 25) hx hb ht fN_Mod hown hK hP 0 rfl rfl 8 (by decide) (ht _ mw_980) (fun _ h9 => h9) rfl dN_Mod_wordAt_6 ?_
      refine lv_icmp_ge (tgt := 21) hx hb dN_Mod_wordAt_9 (by decide) (fun c_9_24 => ?_) (fun c_9_24 => ?_)
      · skip
        rw [ex, pk_sub (by omega), nI_leI (by omega) (by omega)] at c_9_24
        refine lv_iconst (v := (nI 0)) hx hb dN_Mod_wordAt_21 (by decide) ?_
        exact Jj1 (0) (by rw [byB, if_neg (by omega)])
      · skip
        rw [ex, pk_sub (by omega), nI_leI (by omega) (by omega)] at c_9_24
        refine lv_aload_n hx hb dN_Mod_wordAt_12 rfl (lv_at hl 0 rfl) ?_
        refine va_get (D := D) (ci := 12) (v := .ref (q 7)) (C := RN_Mod) (T := FN_Mod) (N := 25) hx hb ht fN_Mod hown hK hP 0 rfl rfl 7 (by decide) (ht _ mw_979) (fun _ h9 => h9) rfl dN_Mod_wordAt_13 ?_
        refine lv_iload_n hx hb dN_Mod_wordAt_16 rfl (lv_at hl 1 rfl) ?_
        refine xn_top (y := (nI (t - 1))) (by rw [ex, pk_sub (by omega)]) ?_
        refine xn_ald hx hb hK hP 1 0 rfl rfl dN_Mod_wordAt_17 (by omega) (by omega) ?_
        refine lv_goto (tgt := 22) hx hb dN_Mod_wordAt_18 (by decide) ?_
        exact Jj1 (u (t - 1)) (by rw [byB, if_pos (by omega)])
def soB (len : Nat) (u : Nat → Nat) (v p : Nat) : Bool := match v with
  | 0 => decide (p = 0)
  | 1 => decide (p = len)
  | 2 => decide (p = 0) || decide (u (p - 1) = 10)
  | 3 => decide (p = len) || decide (u p = 10)
  | 4 => isW (byB len u p) != isW (byB len u (p + 1))
  | _ => isW (byB len u p) == isW (byB len u (p + 1))
theorem soB_5 {len : Nat} {u : Nat → Nat} {v p : Nat} (h0 : ¬ v = 0) (h1 : ¬ v = 1) (h2 : ¬ v = 2) (h3 : ¬ v = 3) (h4 : ¬ v = 4) : soB len u v p = (isW (byB len u p) == isW (byB len u (p + 1))) := by
  match v, h0, h1, h2, h3, h4 with
  | v + 5, _, _, _, _, _ => rfl
set_option maxHeartbeats 4000000 in
set_option maxRecDepth 100000 in
/-- isSo(v, pl) -/
theorem kMod_isSo (l : Launch) (D : va_G) (cI cZ cJ : ClassId) (o : Nat) (q : Nat → Nat) (th n b len tr hi ma : Nat) (u : Nat → Nat) (v pl : Nat) (hle : len ≤ 200) (hv : v < 6) (hpl : pl ≤ len) (hu : ∀ i, u i < 256) : vx_Mi l yN_Mod_isSo wN_Mod_isSo ({ frames := 1, cells := 0, slots := 0, locals := 30 }) D clN (tyN cI cZ cJ) [.ref o, .int (nI v), .int (nI pl)] [(o, .inr (12, [.int (nI th), .int (nI n), .int (nI b), .ref (q 3), .ref (q 4), .ref (q 5), .ref (q 6), .ref (q 7), .int (nI len), .ref (q 9), .ref (q 10), .ref (q 11), .ref (q 12), .ref (q 13), .ref (q 14), .ref (q 15), .ref (q 16), .ref (q 17), .int (nI tr), .int (nI hi), .ref (q 20), .ref (q 21), .ref (q 22), .ref (q 23), .int (nI ma)])), (q 7, .inl (cI, 200, .inl (ni u)))] (fun r w => r = zi (soB len u v pl) ∧ w = [(o, .inr (12, [.int (nI th), .int (nI n), .int (nI b), .ref (q 3), .ref (q 4), .ref (q 5), .ref (q 6), .ref (q 7), .int (nI len), .ref (q 9), .ref (q 10), .ref (q 11), .ref (q 12), .ref (q 13), .ref (q 14), .ref (q 15), .ref (q 16), .ref (q 17), .int (nI tr), .int (nI hi), .ref (q 20), .ref (q 21), .ref (q 22), .ref (q 23), .int (nI ma)])), (q 7, .inl (cI, 200, .inl (ni u)))]) := by
  refine vx_startI (cc := cN_Mod_isSo) (maxL := 3) (ret := (some .boolean)) (by decide) rfl (Nat.le_of_ble_eq_true rfl) ?_
  intro p_0 e_0 s m below meth c_0 A ls C hK hP hD hS hA hl
  obtain ⟨hx, hb, hr, hml, hown, hts, hlocks, hnm⟩ := id C
  have hown : s.vm.findClass "StepMachinesModel" = some m.cls := hown
  have ht : ∀ w ∈ TB, w.before _ s = true := fun w h => hts w (List.mem_cons_of_mem _ h)
  have hl : lv_has ls 3 [(0, .ref o), (1, .int (nI v)), (2, .int (nI pl))] := hl
  refine lv_iload_n hx hb dN_Mod_isSo_0 rfl (lv_at hl 1 rfl) ?_
  by_cases h_1_0 : v = 0
  · refine xn_tin (k := 0) (tgt := 36) hx hb dN_Mod_isSo_1 h_1_0 (by decide) rfl (by decide) ?_
    refine lv_iload_n hx hb dN_Mod_isSo_36 rfl (lv_at hl 2 rfl) ?_
    refine xn_ne0 (tgt := 44) hx hb dN_Mod_isSo_37 (by decide) (by omega) (fun c_37_0 => ?_) (fun c_37_0 => ?_)
    · skip
      refine lv_iconst (v := (nI 0)) hx hb dN_Mod_isSo_44 (by decide) ?_
      refine xn_top (y := zi false) rfl ?_
      exact vx_zret C hK hP hD hS dN_Mod_isSo_45 (Nat.le_of_ble_eq_true rfl) (Nat.le_of_ble_eq_true rfl) (zi_nar2 _) (⟨by simp [soB, h_1_0, c_37_0], rfl⟩)
    · skip
      refine lv_iconst (v := (nI 1)) hx hb dN_Mod_isSo_40 (by decide) ?_
      refine lv_goto (tgt := 45) hx hb dN_Mod_isSo_41 (by decide) ?_
      refine xn_top (y := zi true) rfl ?_
      exact vx_zret C hK hP hD hS dN_Mod_isSo_45 (Nat.le_of_ble_eq_true rfl) (Nat.le_of_ble_eq_true rfl) (zi_nar2 _) (⟨by simp [soB, h_1_0, c_37_0], rfl⟩)
  by_cases h_1_1 : v = 1
  · refine xn_tin (k := 1) (tgt := 46) hx hb dN_Mod_isSo_1 h_1_1 (by decide) rfl (by decide) ?_
    refine lv_iload_n hx hb dN_Mod_isSo_46 rfl (lv_at hl 2 rfl) ?_
    refine lv_aload_n hx hb dN_Mod_isSo_47 rfl (lv_at hl 0 rfl) ?_
    refine va_get (D := D) (ci := 12) (v := .int (nI len)) (C := RN_Mod) (T := FN_Mod) (N := 25) hx hb ht fN_Mod hown hK hP 0 rfl rfl 8 (by decide) (ht _ mw_980) (fun _ h9 => h9) rfl dN_Mod_isSo_48 ?_
    refine xn_ne (tgt := 58) hx hb dN_Mod_isSo_51 (by decide) (by omega) (by omega) (fun c_51_1 => ?_) (fun c_51_1 => ?_)
    · skip
      refine lv_iconst (v := (nI 0)) hx hb dN_Mod_isSo_58 (by decide) ?_
      refine xn_top (y := zi false) rfl ?_
      exact vx_zret C hK hP hD hS dN_Mod_isSo_59 (Nat.le_of_ble_eq_true rfl) (Nat.le_of_ble_eq_true rfl) (zi_nar2 _) (⟨by simp [soB, h_1_1, c_51_1], rfl⟩)
    · skip
      refine lv_iconst (v := (nI 1)) hx hb dN_Mod_isSo_54 (by decide) ?_
      refine lv_goto (tgt := 59) hx hb dN_Mod_isSo_55 (by decide) ?_
      refine xn_top (y := zi true) rfl ?_
      exact vx_zret C hK hP hD hS dN_Mod_isSo_59 (Nat.le_of_ble_eq_true rfl) (Nat.le_of_ble_eq_true rfl) (zi_nar2 _) (⟨by simp [soB, h_1_1, c_51_1], rfl⟩)
  by_cases h_1_2 : v = 2
  · refine xn_tin (k := 2) (tgt := 60) hx hb dN_Mod_isSo_1 h_1_2 (by decide) rfl (by decide) ?_
    refine lv_iload_n hx hb dN_Mod_isSo_60 rfl (lv_at hl 2 rfl) ?_
    refine xn_eq0 (tgt := 77) hx hb dN_Mod_isSo_61 (by decide) (by omega) (fun c_61_2 => ?_) (fun c_61_2 => ?_)
    · skip
      refine lv_iconst (v := (nI 1)) hx hb dN_Mod_isSo_77 (by decide) ?_
      refine lv_goto (tgt := 82) hx hb dN_Mod_isSo_78 (by decide) ?_
      refine xn_top (y := zi true) rfl ?_
      exact vx_zret C hK hP hD hS dN_Mod_isSo_82 (Nat.le_of_ble_eq_true rfl) (Nat.le_of_ble_eq_true rfl) (zi_nar2 _) (⟨by simp [soB, h_1_2, c_61_2], rfl⟩)
    · skip
      refine lv_aload_n hx hb dN_Mod_isSo_64 rfl (lv_at hl 0 rfl) ?_
      refine va_get (D := D) (ci := 12) (v := .ref (q 7)) (C := RN_Mod) (T := FN_Mod) (N := 25) hx hb ht fN_Mod hown hK hP 0 rfl rfl 7 (by decide) (ht _ mw_979) (fun _ h9 => h9) rfl dN_Mod_isSo_65 ?_
      refine lv_iload_n hx hb dN_Mod_isSo_68 rfl (lv_at hl 2 rfl) ?_
      refine lv_iconst (v := (nI 1)) hx hb dN_Mod_isSo_69 (by decide) ?_
      refine xn_sub hx hb dN_Mod_isSo_70 (by omega) ?_
      refine xn_ald hx hb hK hP 1 0 rfl rfl dN_Mod_isSo_71 (by omega) (by omega) ?_
      refine lv_bipush (v := (nI 10)) hx hb dN_Mod_isSo_72 (by decide) ?_
      refine xn_ne (tgt := 81) hx hb dN_Mod_isSo_74 (by decide) (by have := hu (pl - 1); have := hu pl; omega) (by omega) (fun c_74_3 => ?_) (fun c_74_3 => ?_)
      · skip
        refine lv_iconst (v := (nI 0)) hx hb dN_Mod_isSo_81 (by decide) ?_
        refine xn_top (y := zi false) rfl ?_
        exact vx_zret C hK hP hD hS dN_Mod_isSo_82 (Nat.le_of_ble_eq_true rfl) (Nat.le_of_ble_eq_true rfl) (zi_nar2 _) (⟨by simp [soB, h_1_2, c_61_2, c_74_3], rfl⟩)
      · skip
        refine lv_iconst (v := (nI 1)) hx hb dN_Mod_isSo_77 (by decide) ?_
        refine lv_goto (tgt := 82) hx hb dN_Mod_isSo_78 (by decide) ?_
        refine xn_top (y := zi true) rfl ?_
        exact vx_zret C hK hP hD hS dN_Mod_isSo_82 (Nat.le_of_ble_eq_true rfl) (Nat.le_of_ble_eq_true rfl) (zi_nar2 _) (⟨by simp [soB, h_1_2, c_61_2, c_74_3], rfl⟩)
  by_cases h_1_3 : v = 3
  · refine xn_tin (k := 3) (tgt := 83) hx hb dN_Mod_isSo_1 h_1_3 (by decide) rfl (by decide) ?_
    refine lv_iload_n hx hb dN_Mod_isSo_83 rfl (lv_at hl 2 rfl) ?_
    refine lv_aload_n hx hb dN_Mod_isSo_84 rfl (lv_at hl 0 rfl) ?_
    refine va_get (D := D) (ci := 12) (v := .int (nI len)) (C := RN_Mod) (T := FN_Mod) (N := 25) hx hb ht fN_Mod hown hK hP 0 rfl rfl 8 (by decide) (ht _ mw_980) (fun _ h9 => h9) rfl dN_Mod_isSo_85 ?_
    refine xn_eq (tgt := 102) hx hb dN_Mod_isSo_88 (by decide) (by omega) (by omega) (fun c_88_4 => ?_) (fun c_88_4 => ?_)
    · skip
      refine lv_iconst (v := (nI 1)) hx hb dN_Mod_isSo_102 (by decide) ?_
      refine lv_goto (tgt := 107) hx hb dN_Mod_isSo_103 (by decide) ?_
      refine xn_top (y := zi true) rfl ?_
      exact vx_zret C hK hP hD hS dN_Mod_isSo_107 (Nat.le_of_ble_eq_true rfl) (Nat.le_of_ble_eq_true rfl) (zi_nar2 _) (⟨by simp [soB, h_1_3, c_88_4], rfl⟩)
    · skip
      refine lv_aload_n hx hb dN_Mod_isSo_91 rfl (lv_at hl 0 rfl) ?_
      refine va_get (D := D) (ci := 12) (v := .ref (q 7)) (C := RN_Mod) (T := FN_Mod) (N := 25) hx hb ht fN_Mod hown hK hP 0 rfl rfl 7 (by decide) (ht _ mw_979) (fun _ h9 => h9) rfl dN_Mod_isSo_92 ?_
      refine lv_iload_n hx hb dN_Mod_isSo_95 rfl (lv_at hl 2 rfl) ?_
      refine xn_ald hx hb hK hP 1 0 rfl rfl dN_Mod_isSo_96 (by omega) (by omega) ?_
      refine lv_bipush (v := (nI 10)) hx hb dN_Mod_isSo_97 (by decide) ?_
      refine xn_ne (tgt := 106) hx hb dN_Mod_isSo_99 (by decide) (by have := hu (pl - 1); have := hu pl; omega) (by omega) (fun c_99_5 => ?_) (fun c_99_5 => ?_)
      · skip
        refine lv_iconst (v := (nI 0)) hx hb dN_Mod_isSo_106 (by decide) ?_
        refine xn_top (y := zi false) rfl ?_
        exact vx_zret C hK hP hD hS dN_Mod_isSo_107 (Nat.le_of_ble_eq_true rfl) (Nat.le_of_ble_eq_true rfl) (zi_nar2 _) (⟨by simp [soB, h_1_3, c_88_4, c_99_5], rfl⟩)
      · skip
        refine lv_iconst (v := (nI 1)) hx hb dN_Mod_isSo_102 (by decide) ?_
        refine lv_goto (tgt := 107) hx hb dN_Mod_isSo_103 (by decide) ?_
        refine xn_top (y := zi true) rfl ?_
        exact vx_zret C hK hP hD hS dN_Mod_isSo_107 (Nat.le_of_ble_eq_true rfl) (Nat.le_of_ble_eq_true rfl) (zi_nar2 _) (⟨by simp [soB, h_1_3, c_88_4, c_99_5], rfl⟩)
  by_cases h_1_4 : v = 4
  · refine xn_tin (k := 4) (tgt := 108) hx hb dN_Mod_isSo_1 h_1_4 (by decide) rfl (by decide) ?_
    refine lv_aload_n hx hb dN_Mod_isSo_108 rfl (lv_at hl 0 rfl) ?_
    refine lv_iload_n hx hb dN_Mod_isSo_109 rfl (lv_at hl 2 rfl) ?_
    refine lv_iconst (v := (nI 1)) hx hb dN_Mod_isSo_110 (by decide) ?_
    refine lv_isub hx hb dN_Mod_isSo_111 ?_
    refine vx_calli (wc := [(o, .inr (12, [.int (nI th), .int (nI n), .int (nI b), .ref (q 3), .ref (q 4), .ref (q 5), .ref (q 6), .ref (q 7), .int (nI len), .ref (q 9), .ref (q 10), .ref (q 11), .ref (q 12), .ref (q 13), .ref (q 14), .ref (q 15), .ref (q 16), .ref (q 17), .int (nI tr), .int (nI hi), .ref (q 20), .ref (q 21), .ref (q 22), .ref (q 23), .int (nI ma)])), (q 7, .inl (cI, 200, .inl (ni u)))]) (wr := []) [0, 1] [] hK hP hD hS hA rfl rfl (by decide) (by decide) (va_runV (As := [.int ((nI pl) - (nI 1))]) (rest := []) ⟨hx, hb, hml, hown, ht⟩ (kMod_wordAt l D cI cZ cJ o q th n b len tr hi ma u ((nI pl) - (nI 1)) (pl) rfl hle (by omega) hu _) (⟨callB_of 1 ht (TB_in2 gN_Mod_wordAt) rfl rfl rfl (ht _ mw_14) (ht _ mw_1107) (by decide +kernel) ⟨Nat.le_of_ble_eq_true rfl, Nat.le_of_ble_eq_true rfl⟩, ht _ mw_1109, ht _ ms_39⟩) (vx_preV [0, 1] hK hP hD (by decide) rfl (ci := 12) rfl 0 rfl) rfl rfl hl.1 rfl (lv_room (Nat.le_of_ble_eq_true rfl)) dN_Mod_isSo_112 ⟨Nat.le_of_ble_eq_true rfl, Nat.le_of_ble_eq_true rfl⟩) (fun r1 w1 H locs hq hP hD hS => ?_)
    obtain ⟨rfl, rfl⟩ := hq
    have hP : va_P D clN [(o, .inr (12, [.int (nI th), .int (nI n), .int (nI b), .ref (q 3), .ref (q 4), .ref (q 5), .ref (q 6), .ref (q 7), .int (nI len), .ref (q 9), .ref (q 10), .ref (q 11), .ref (q 12), .ref (q 13), .ref (q 14), .ref (q 15), .ref (q 16), .ref (q 17), .int (nI tr), .int (nI hi), .ref (q 20), .ref (q 21), .ref (q 22), .ref (q 23), .int (nI ma)])), (q 7, .inl (cI, 200, .inl (ni u)))] H := hP.sub [0, 1] rfl
    have hD : va_D A [(o, .inr (12, [.int (nI th), .int (nI n), .int (nI b), .ref (q 3), .ref (q 4), .ref (q 5), .ref (q 6), .ref (q 7), .int (nI len), .ref (q 9), .ref (q 10), .ref (q 11), .ref (q 12), .ref (q 13), .ref (q 14), .ref (q 15), .ref (q 16), .ref (q 17), .int (nI tr), .int (nI hi), .ref (q 20), .ref (q 21), .ref (q 22), .ref (q 23), .int (nI ma)])), (q 7, .inl (cI, 200, .inl (ni u)))] := hD.sub [0, 1] (by decide) rfl
    refine lv_aload_n hx hb dN_Mod_isSo_115 rfl (lv_at hl 0 rfl) ?_
    refine lv_iload_n hx hb dN_Mod_isSo_116 rfl (lv_at hl 2 rfl) ?_
    refine xn_top (y := ((nI (pl + 1)) - (nI 1))) (by rw [pk_sub (by omega)]; rfl) ?_
    refine vx_calli (wc := [(o, .inr (12, [.int (nI th), .int (nI n), .int (nI b), .ref (q 3), .ref (q 4), .ref (q 5), .ref (q 6), .ref (q 7), .int (nI len), .ref (q 9), .ref (q 10), .ref (q 11), .ref (q 12), .ref (q 13), .ref (q 14), .ref (q 15), .ref (q 16), .ref (q 17), .int (nI tr), .int (nI hi), .ref (q 20), .ref (q 21), .ref (q 22), .ref (q 23), .int (nI ma)])), (q 7, .inl (cI, 200, .inl (ni u)))]) (wr := []) [0, 1] [] hK hP hD hS hA rfl rfl (by decide) (by decide) (va_runV (As := [.int ((nI (pl + 1)) - (nI 1))]) (rest := [.int (zi (isW (byB len u pl)))]) ⟨hx, hb, hml, hown, ht⟩ (kMod_wordAt l D cI cZ cJ o q th n b len tr hi ma u ((nI (pl + 1)) - (nI 1)) (pl + 1) rfl hle (by omega) hu _) (⟨callB_of 1 ht (TB_in2 gN_Mod_wordAt) rfl rfl rfl (ht _ mw_14) (ht _ mw_1107) (by decide +kernel) ⟨Nat.le_of_ble_eq_true rfl, Nat.le_of_ble_eq_true rfl⟩, ht _ mw_1109, ht _ ms_39⟩) (vx_preV [0, 1] hK hP hD (by decide) rfl (ci := 12) rfl 0 rfl) rfl rfl hl.1 rfl (lv_room (Nat.le_of_ble_eq_true rfl)) dN_Mod_isSo_117 ⟨Nat.le_of_ble_eq_true rfl, Nat.le_of_ble_eq_true rfl⟩) (fun r1 w1 H locs hq hP hD hS => ?_)
    obtain ⟨rfl, rfl⟩ := hq
    have hP : va_P D clN [(o, .inr (12, [.int (nI th), .int (nI n), .int (nI b), .ref (q 3), .ref (q 4), .ref (q 5), .ref (q 6), .ref (q 7), .int (nI len), .ref (q 9), .ref (q 10), .ref (q 11), .ref (q 12), .ref (q 13), .ref (q 14), .ref (q 15), .ref (q 16), .ref (q 17), .int (nI tr), .int (nI hi), .ref (q 20), .ref (q 21), .ref (q 22), .ref (q 23), .int (nI ma)])), (q 7, .inl (cI, 200, .inl (ni u)))] H := hP.sub [0, 1] rfl
    have hD : va_D A [(o, .inr (12, [.int (nI th), .int (nI n), .int (nI b), .ref (q 3), .ref (q 4), .ref (q 5), .ref (q 6), .ref (q 7), .int (nI len), .ref (q 9), .ref (q 10), .ref (q 11), .ref (q 12), .ref (q 13), .ref (q 14), .ref (q 15), .ref (q 16), .ref (q 17), .int (nI tr), .int (nI hi), .ref (q 20), .ref (q 21), .ref (q 22), .ref (q 23), .int (nI ma)])), (q 7, .inl (cI, 200, .inl (ni u)))] := hD.sub [0, 1] (by decide) rfl
    refine lv_icmp_eq (tgt := 127) hx hb dN_Mod_isSo_120 (by decide) (fun c_120_6 => ?_) (fun c_120_6 => ?_)
    · skip
      rw [zi_eq] at c_120_6
      refine lv_iconst (v := (nI 0)) hx hb dN_Mod_isSo_127 (by decide) ?_
      refine xn_top (y := zi false) rfl ?_
      exact vx_zret C hK hP hD hS dN_Mod_isSo_128 (Nat.le_of_ble_eq_true rfl) (Nat.le_of_ble_eq_true rfl) (zi_nar2 _) (⟨by rw [h_1_4]; exact zi_bne_f c_120_6, rfl⟩)
    · skip
      rw [zi_eq] at c_120_6
      refine lv_iconst (v := (nI 1)) hx hb dN_Mod_isSo_123 (by decide) ?_
      refine lv_goto (tgt := 128) hx hb dN_Mod_isSo_124 (by decide) ?_
      refine xn_top (y := zi true) rfl ?_
      exact vx_zret C hK hP hD hS dN_Mod_isSo_128 (Nat.le_of_ble_eq_true rfl) (Nat.le_of_ble_eq_true rfl) (zi_nar2 _) (⟨by rw [h_1_4]; exact zi_bne_t c_120_6, rfl⟩)
  refine xn_tout (tgt := 129) hx hb dN_Mod_isSo_1 (by omega) (by omega) (by decide) ?_
  refine lv_aload_n hx hb dN_Mod_isSo_129 rfl (lv_at hl 0 rfl) ?_
  refine lv_iload_n hx hb dN_Mod_isSo_130 rfl (lv_at hl 2 rfl) ?_
  refine lv_iconst (v := (nI 1)) hx hb dN_Mod_isSo_131 (by decide) ?_
  refine lv_isub hx hb dN_Mod_isSo_132 ?_
  refine vx_calli (wc := [(o, .inr (12, [.int (nI th), .int (nI n), .int (nI b), .ref (q 3), .ref (q 4), .ref (q 5), .ref (q 6), .ref (q 7), .int (nI len), .ref (q 9), .ref (q 10), .ref (q 11), .ref (q 12), .ref (q 13), .ref (q 14), .ref (q 15), .ref (q 16), .ref (q 17), .int (nI tr), .int (nI hi), .ref (q 20), .ref (q 21), .ref (q 22), .ref (q 23), .int (nI ma)])), (q 7, .inl (cI, 200, .inl (ni u)))]) (wr := []) [0, 1] [] hK hP hD hS hA rfl rfl (by decide) (by decide) (va_runV (As := [.int ((nI pl) - (nI 1))]) (rest := []) ⟨hx, hb, hml, hown, ht⟩ (kMod_wordAt l D cI cZ cJ o q th n b len tr hi ma u ((nI pl) - (nI 1)) (pl) rfl hle (by omega) hu _) (⟨callB_of 1 ht (TB_in2 gN_Mod_wordAt) rfl rfl rfl (ht _ mw_14) (ht _ mw_1107) (by decide +kernel) ⟨Nat.le_of_ble_eq_true rfl, Nat.le_of_ble_eq_true rfl⟩, ht _ mw_1109, ht _ ms_39⟩) (vx_preV [0, 1] hK hP hD (by decide) rfl (ci := 12) rfl 0 rfl) rfl rfl hl.1 rfl (lv_room (Nat.le_of_ble_eq_true rfl)) dN_Mod_isSo_133 ⟨Nat.le_of_ble_eq_true rfl, Nat.le_of_ble_eq_true rfl⟩) (fun r1 w1 H locs hq hP hD hS => ?_)
  obtain ⟨rfl, rfl⟩ := hq
  have hP : va_P D clN [(o, .inr (12, [.int (nI th), .int (nI n), .int (nI b), .ref (q 3), .ref (q 4), .ref (q 5), .ref (q 6), .ref (q 7), .int (nI len), .ref (q 9), .ref (q 10), .ref (q 11), .ref (q 12), .ref (q 13), .ref (q 14), .ref (q 15), .ref (q 16), .ref (q 17), .int (nI tr), .int (nI hi), .ref (q 20), .ref (q 21), .ref (q 22), .ref (q 23), .int (nI ma)])), (q 7, .inl (cI, 200, .inl (ni u)))] H := hP.sub [0, 1] rfl
  have hD : va_D A [(o, .inr (12, [.int (nI th), .int (nI n), .int (nI b), .ref (q 3), .ref (q 4), .ref (q 5), .ref (q 6), .ref (q 7), .int (nI len), .ref (q 9), .ref (q 10), .ref (q 11), .ref (q 12), .ref (q 13), .ref (q 14), .ref (q 15), .ref (q 16), .ref (q 17), .int (nI tr), .int (nI hi), .ref (q 20), .ref (q 21), .ref (q 22), .ref (q 23), .int (nI ma)])), (q 7, .inl (cI, 200, .inl (ni u)))] := hD.sub [0, 1] (by decide) rfl
  refine lv_aload_n hx hb dN_Mod_isSo_136 rfl (lv_at hl 0 rfl) ?_
  refine lv_iload_n hx hb dN_Mod_isSo_137 rfl (lv_at hl 2 rfl) ?_
  refine xn_top (y := ((nI (pl + 1)) - (nI 1))) (by rw [pk_sub (by omega)]; rfl) ?_
  refine vx_calli (wc := [(o, .inr (12, [.int (nI th), .int (nI n), .int (nI b), .ref (q 3), .ref (q 4), .ref (q 5), .ref (q 6), .ref (q 7), .int (nI len), .ref (q 9), .ref (q 10), .ref (q 11), .ref (q 12), .ref (q 13), .ref (q 14), .ref (q 15), .ref (q 16), .ref (q 17), .int (nI tr), .int (nI hi), .ref (q 20), .ref (q 21), .ref (q 22), .ref (q 23), .int (nI ma)])), (q 7, .inl (cI, 200, .inl (ni u)))]) (wr := []) [0, 1] [] hK hP hD hS hA rfl rfl (by decide) (by decide) (va_runV (As := [.int ((nI (pl + 1)) - (nI 1))]) (rest := [.int (zi (isW (byB len u pl)))]) ⟨hx, hb, hml, hown, ht⟩ (kMod_wordAt l D cI cZ cJ o q th n b len tr hi ma u ((nI (pl + 1)) - (nI 1)) (pl + 1) rfl hle (by omega) hu _) (⟨callB_of 1 ht (TB_in2 gN_Mod_wordAt) rfl rfl rfl (ht _ mw_14) (ht _ mw_1107) (by decide +kernel) ⟨Nat.le_of_ble_eq_true rfl, Nat.le_of_ble_eq_true rfl⟩, ht _ mw_1109, ht _ ms_39⟩) (vx_preV [0, 1] hK hP hD (by decide) rfl (ci := 12) rfl 0 rfl) rfl rfl hl.1 rfl (lv_room (Nat.le_of_ble_eq_true rfl)) dN_Mod_isSo_138 ⟨Nat.le_of_ble_eq_true rfl, Nat.le_of_ble_eq_true rfl⟩) (fun r1 w1 H locs hq hP hD hS => ?_)
  obtain ⟨rfl, rfl⟩ := hq
  have hP : va_P D clN [(o, .inr (12, [.int (nI th), .int (nI n), .int (nI b), .ref (q 3), .ref (q 4), .ref (q 5), .ref (q 6), .ref (q 7), .int (nI len), .ref (q 9), .ref (q 10), .ref (q 11), .ref (q 12), .ref (q 13), .ref (q 14), .ref (q 15), .ref (q 16), .ref (q 17), .int (nI tr), .int (nI hi), .ref (q 20), .ref (q 21), .ref (q 22), .ref (q 23), .int (nI ma)])), (q 7, .inl (cI, 200, .inl (ni u)))] H := hP.sub [0, 1] rfl
  have hD : va_D A [(o, .inr (12, [.int (nI th), .int (nI n), .int (nI b), .ref (q 3), .ref (q 4), .ref (q 5), .ref (q 6), .ref (q 7), .int (nI len), .ref (q 9), .ref (q 10), .ref (q 11), .ref (q 12), .ref (q 13), .ref (q 14), .ref (q 15), .ref (q 16), .ref (q 17), .int (nI tr), .int (nI hi), .ref (q 20), .ref (q 21), .ref (q 22), .ref (q 23), .int (nI ma)])), (q 7, .inl (cI, 200, .inl (ni u)))] := hD.sub [0, 1] (by decide) rfl
  refine lv_icmp_ne (tgt := 148) hx hb dN_Mod_isSo_141 (by decide) (fun c_141_7 => ?_) (fun c_141_7 => ?_)
  · skip
    rw [zi_eq] at c_141_7
    refine lv_iconst (v := (nI 0)) hx hb dN_Mod_isSo_148 (by decide) ?_
    refine xn_top (y := zi false) rfl ?_
    exact vx_zret C hK hP hD hS dN_Mod_isSo_149 (Nat.le_of_ble_eq_true rfl) (Nat.le_of_ble_eq_true rfl) (zi_nar2 _) (⟨by rw [soB_5 h_1_0 h_1_1 h_1_2 h_1_3 h_1_4]; exact zi_beq_f c_141_7, rfl⟩)
  · skip
    rw [zi_eq] at c_141_7
    refine lv_iconst (v := (nI 1)) hx hb dN_Mod_isSo_144 (by decide) ?_
    refine lv_goto (tgt := 149) hx hb dN_Mod_isSo_145 (by decide) ?_
    refine xn_top (y := zi true) rfl ?_
    exact vx_zret C hK hP hD hS dN_Mod_isSo_149 (Nat.le_of_ble_eq_true rfl) (Nat.le_of_ble_eq_true rfl) (zi_nar2 _) (⟨by rw [soB_5 h_1_0 h_1_1 h_1_2 h_1_3 h_1_4]; exact zi_beq_t c_141_7, rfl⟩)
def takB (K V : Nat → Nat) (len : Nat) (u : Nat → Nat) (k p : Nat) : Bool := decide (0 < k) && (decide (K k = 1) && (decide (p < len) && (decide (V k / 256 ≤ u p) && decide (u p ≤ V k % 256))))
def pasB (K V : Nat → Nat) (len : Nat) (u : Nat → Nat) (k p : Nat) : Bool := decide (0 < k) && (decide (K k = 2) || (decide (K k = 3) || (decide (K k = 4) && soB len u (V k) p)))
theorem takB_t {K V : Nat → Nat} {len : Nat} {u : Nat → Nat} {k p : Nat} (h : 0 < k ∧ K k = 1 ∧ p < len ∧ V k / 256 ≤ u p ∧ u p ≤ V k % 256) : zi true = zi (takB K V len u k p) := by
  obtain ⟨h1, h2, h3, h4, h5⟩ := h
  simp [takB, h1, h2, h3, h4, h5]
theorem takB_f {K V : Nat → Nat} {len : Nat} {u : Nat → Nat} {k p : Nat} (h : ¬ (0 < k ∧ K k = 1 ∧ p < len ∧ V k / 256 ≤ u p ∧ u p ≤ V k % 256)) : zi false = zi (takB K V len u k p) := by
  have : takB K V len u k p = false := by
    cases hc : takB K V len u k p with
    | false => rfl
    | true => simp [takB] at hc; exact absurd hc h
  rw [this]
set_option maxHeartbeats 4000000 in
set_option maxRecDepth 100000 in
/-- takes(k, pl) -/
theorem kMod_takes (l : Launch) (D : va_G) (cI cZ cJ : ClassId) (o : Nat) (q : Nat → Nat) (th n b len tr hi ma : Nat) (K V u : Nat → Nat) (vI : Nat → Int32) (k pl : Nat) (hn : n ≤ 200) (hle : len ≤ 200) (hk : k < n) (hpl : pl ≤ len) (hu : ∀ i, u i < 256) (hK5 : ∀ i, K i < 6) (hv : ∀ i, 0 < i → i < n → (K i = 1 ∨ K i = 3 ∨ K i = 4) → vI i = nI (V i)) (hvb : ∀ i, V i < 65536) : vx_Mi l yN_Mod_takes wN_Mod_takes ({ frames := 0, cells := 0, slots := 0, locals := 0 }) D clN (tyN cI cZ cJ) [.ref o, .int (nI k), .int (nI pl)] [(o, .inr (12, [.int (nI th), .int (nI n), .int (nI b), .ref (q 3), .ref (q 4), .ref (q 5), .ref (q 6), .ref (q 7), .int (nI len), .ref (q 9), .ref (q 10), .ref (q 11), .ref (q 12), .ref (q 13), .ref (q 14), .ref (q 15), .ref (q 16), .ref (q 17), .int (nI tr), .int (nI hi), .ref (q 20), .ref (q 21), .ref (q 22), .ref (q 23), .int (nI ma)])), (q 3, .inl (cI, 200, .inl (ni K))), (q 4, .inl (cI, 200, .inl vI)), (q 7, .inl (cI, 200, .inl (ni u)))] (fun r w => r = zi (takB K V len u k pl) ∧ w = [(o, .inr (12, [.int (nI th), .int (nI n), .int (nI b), .ref (q 3), .ref (q 4), .ref (q 5), .ref (q 6), .ref (q 7), .int (nI len), .ref (q 9), .ref (q 10), .ref (q 11), .ref (q 12), .ref (q 13), .ref (q 14), .ref (q 15), .ref (q 16), .ref (q 17), .int (nI tr), .int (nI hi), .ref (q 20), .ref (q 21), .ref (q 22), .ref (q 23), .int (nI ma)])), (q 3, .inl (cI, 200, .inl (ni K))), (q 4, .inl (cI, 200, .inl vI)), (q 7, .inl (cI, 200, .inl (ni u)))]) := by
  refine vx_startI (cc := cN_Mod_takes) (maxL := 3) (ret := (some .boolean)) (by decide) rfl (Nat.le_of_ble_eq_true rfl) ?_
  intro p_0 e_0 s m below meth c_0 A ls C hK hP hD hS hA hl
  obtain ⟨hx, hb, hr, hml, hown, hts, hlocks, hnm⟩ := id C
  have hown : s.vm.findClass "StepMachinesModel" = some m.cls := hown
  have ht : ∀ w ∈ TB, w.before _ s = true := fun w h => hts w (List.mem_cons_of_mem _ h)
  have hl : lv_has ls 3 [(0, .ref o), (1, .int (nI k)), (2, .int (nI pl))] := hl
  refine lv_iload_n hx hb dN_Mod_takes_0 rfl (lv_at hl 1 rfl) ?_
  refine xn_le0 (tgt := 64) hx hb dN_Mod_takes_1 (by decide) (by omega) (fun c_1_0 => ?_) (fun c_1_0 => ?_)
  · skip
    refine lv_iconst (v := (nI 0)) hx hb dN_Mod_takes_64 (by decide) ?_
    refine xn_top (y := zi false) rfl ?_
    exact vx_zret C hK hP hD hS dN_Mod_takes_65 (Nat.le_of_ble_eq_true rfl) (Nat.le_of_ble_eq_true rfl) (zi_nar2 _) (⟨takB_f (by omega), rfl⟩)
  · skip
    refine lv_aload_n hx hb dN_Mod_takes_4 rfl (lv_at hl 0 rfl) ?_
    refine va_get (D := D) (ci := 12) (v := .ref (q 3)) (C := RN_Mod) (T := FN_Mod) (N := 25) hx hb ht fN_Mod hown hK hP 0 rfl rfl 3 (by decide) (ht _ mw_975) (fun _ h9 => h9) rfl dN_Mod_takes_5 ?_
    refine lv_iload_n hx hb dN_Mod_takes_8 rfl (lv_at hl 1 rfl) ?_
    refine xn_ald hx hb hK hP 1 0 rfl rfl dN_Mod_takes_9 (by omega) (by omega) ?_
    refine lv_iconst (v := (nI 1)) hx hb dN_Mod_takes_10 (by decide) ?_
    refine xn_ne (tgt := 64) hx hb dN_Mod_takes_11 (by decide) (by have := hK5 k; omega) (by omega) (fun c_11_1 => ?_) (fun c_11_1 => ?_)
    · skip
      refine lv_iconst (v := (nI 0)) hx hb dN_Mod_takes_64 (by decide) ?_
      refine xn_top (y := zi false) rfl ?_
      exact vx_zret C hK hP hD hS dN_Mod_takes_65 (Nat.le_of_ble_eq_true rfl) (Nat.le_of_ble_eq_true rfl) (zi_nar2 _) (⟨takB_f (by omega), rfl⟩)
    · skip
      refine lv_iload_n hx hb dN_Mod_takes_14 rfl (lv_at hl 2 rfl) ?_
      refine lv_aload_n hx hb dN_Mod_takes_15 rfl (lv_at hl 0 rfl) ?_
      refine va_get (D := D) (ci := 12) (v := .int (nI len)) (C := RN_Mod) (T := FN_Mod) (N := 25) hx hb ht fN_Mod hown hK hP 0 rfl rfl 8 (by decide) (ht _ mw_980) (fun _ h9 => h9) rfl dN_Mod_takes_16 ?_
      refine xn_ge (tgt := 64) hx hb dN_Mod_takes_19 (by decide) (by omega) (by omega) (fun c_19_2 => ?_) (fun c_19_2 => ?_)
      · skip
        refine lv_iconst (v := (nI 0)) hx hb dN_Mod_takes_64 (by decide) ?_
        refine xn_top (y := zi false) rfl ?_
        exact vx_zret C hK hP hD hS dN_Mod_takes_65 (Nat.le_of_ble_eq_true rfl) (Nat.le_of_ble_eq_true rfl) (zi_nar2 _) (⟨takB_f (by omega), rfl⟩)
      · skip
        refine lv_aload_n hx hb dN_Mod_takes_22 rfl (lv_at hl 0 rfl) ?_
        refine va_get (D := D) (ci := 12) (v := .ref (q 7)) (C := RN_Mod) (T := FN_Mod) (N := 25) hx hb ht fN_Mod hown hK hP 0 rfl rfl 7 (by decide) (ht _ mw_979) (fun _ h9 => h9) rfl dN_Mod_takes_23 ?_
        refine lv_iload_n hx hb dN_Mod_takes_26 rfl (lv_at hl 2 rfl) ?_
        refine xn_ald hx hb hK hP 3 0 rfl rfl dN_Mod_takes_27 (by omega) (by omega) ?_
        refine lv_aload_n hx hb dN_Mod_takes_28 rfl (lv_at hl 0 rfl) ?_
        refine va_get (D := D) (ci := 12) (v := .ref (q 4)) (C := RN_Mod) (T := FN_Mod) (N := 25) hx hb ht fN_Mod hown hK hP 0 rfl rfl 4 (by decide) (ht _ mw_976) (fun _ h9 => h9) rfl dN_Mod_takes_29 ?_
        refine lv_iload_n hx hb dN_Mod_takes_32 rfl (lv_at hl 1 rfl) ?_
        refine xi_ald hx hb hK hP 2 0 rfl rfl dN_Mod_takes_33 (by omega) (by omega) ?_
        refine xn_top (y := (nI (V k))) (hv k (by omega) (by omega) (Or.inl c_11_1)) ?_
        refine lv_sipush (v := (nI 256)) hx hb dN_Mod_takes_34 (by decide) ?_
        refine xn_div hx hb dN_Mod_takes_37 (by have := hvb k; omega) (by omega) (by omega) ?_
        refine xn_lt (tgt := 64) hx hb dN_Mod_takes_38 (by decide) (by have := hu pl; omega) (by have := hvb k; omega) (fun c_38_3 => ?_) (fun c_38_3 => ?_)
        · skip
          refine lv_iconst (v := (nI 0)) hx hb dN_Mod_takes_64 (by decide) ?_
          refine xn_top (y := zi false) rfl ?_
          exact vx_zret C hK hP hD hS dN_Mod_takes_65 (Nat.le_of_ble_eq_true rfl) (Nat.le_of_ble_eq_true rfl) (zi_nar2 _) (⟨takB_f (by omega), rfl⟩)
        · skip
          refine lv_aload_n hx hb dN_Mod_takes_41 rfl (lv_at hl 0 rfl) ?_
          refine va_get (D := D) (ci := 12) (v := .ref (q 7)) (C := RN_Mod) (T := FN_Mod) (N := 25) hx hb ht fN_Mod hown hK hP 0 rfl rfl 7 (by decide) (ht _ mw_979) (fun _ h9 => h9) rfl dN_Mod_takes_42 ?_
          refine lv_iload_n hx hb dN_Mod_takes_45 rfl (lv_at hl 2 rfl) ?_
          refine xn_ald hx hb hK hP 3 0 rfl rfl dN_Mod_takes_46 (by omega) (by omega) ?_
          refine lv_aload_n hx hb dN_Mod_takes_47 rfl (lv_at hl 0 rfl) ?_
          refine va_get (D := D) (ci := 12) (v := .ref (q 4)) (C := RN_Mod) (T := FN_Mod) (N := 25) hx hb ht fN_Mod hown hK hP 0 rfl rfl 4 (by decide) (ht _ mw_976) (fun _ h9 => h9) rfl dN_Mod_takes_48 ?_
          refine lv_iload_n hx hb dN_Mod_takes_51 rfl (lv_at hl 1 rfl) ?_
          refine xi_ald hx hb hK hP 2 0 rfl rfl dN_Mod_takes_52 (by omega) (by omega) ?_
          refine xn_top (y := (nI (V k))) (hv k (by omega) (by omega) (Or.inl c_11_1)) ?_
          refine lv_sipush (v := (nI 256)) hx hb dN_Mod_takes_53 (by decide) ?_
          refine xn_rem hx hb dN_Mod_takes_56 (by have := hvb k; omega) (by omega) (by omega) ?_
          refine xn_gt (tgt := 64) hx hb dN_Mod_takes_57 (by decide) (by have := hu pl; omega) (by have := hvb k; omega) (fun c_57_4 => ?_) (fun c_57_4 => ?_)
          · skip
            refine lv_iconst (v := (nI 0)) hx hb dN_Mod_takes_64 (by decide) ?_
            refine xn_top (y := zi false) rfl ?_
            exact vx_zret C hK hP hD hS dN_Mod_takes_65 (Nat.le_of_ble_eq_true rfl) (Nat.le_of_ble_eq_true rfl) (zi_nar2 _) (⟨takB_f (by omega), rfl⟩)
          · skip
            refine lv_iconst (v := (nI 1)) hx hb dN_Mod_takes_60 (by decide) ?_
            refine lv_goto (tgt := 65) hx hb dN_Mod_takes_61 (by decide) ?_
            refine xn_top (y := zi true) rfl ?_
            exact vx_zret C hK hP hD hS dN_Mod_takes_65 (Nat.le_of_ble_eq_true rfl) (Nat.le_of_ble_eq_true rfl) (zi_nar2 _) (⟨takB_t (by omega), rfl⟩)
set_option maxHeartbeats 4000000 in
set_option maxRecDepth 100000 in
/-- passes(k, pl) -/
theorem kMod_passes (l : Launch) (D : va_G) (cI cZ cJ : ClassId) (o : Nat) (q : Nat → Nat) (th n b len tr hi ma : Nat) (K V u : Nat → Nat) (vI : Nat → Int32) (k pl : Nat) (hn : n ≤ 200) (hle : len ≤ 200) (hk : k < n) (hpl : pl ≤ len) (hu : ∀ i, u i < 256) (hK5 : ∀ i, K i < 6) (hv : ∀ i, 0 < i → i < n → (K i = 1 ∨ K i = 3 ∨ K i = 4) → vI i = nI (V i)) (hvb : ∀ i, V i < 65536) (hv4 : ∀ i, i < n → K i = 4 → V i < 6) : vx_Mi l yN_Mod_passes wN_Mod_passes ({ frames := 2, cells := 0, slots := 0, locals := 60 }) D clN (tyN cI cZ cJ) [.ref o, .int (nI k), .int (nI pl)] [(o, .inr (12, [.int (nI th), .int (nI n), .int (nI b), .ref (q 3), .ref (q 4), .ref (q 5), .ref (q 6), .ref (q 7), .int (nI len), .ref (q 9), .ref (q 10), .ref (q 11), .ref (q 12), .ref (q 13), .ref (q 14), .ref (q 15), .ref (q 16), .ref (q 17), .int (nI tr), .int (nI hi), .ref (q 20), .ref (q 21), .ref (q 22), .ref (q 23), .int (nI ma)])), (q 3, .inl (cI, 200, .inl (ni K))), (q 4, .inl (cI, 200, .inl vI)), (q 7, .inl (cI, 200, .inl (ni u)))] (fun r w => r = zi (pasB K V len u k pl) ∧ w = [(o, .inr (12, [.int (nI th), .int (nI n), .int (nI b), .ref (q 3), .ref (q 4), .ref (q 5), .ref (q 6), .ref (q 7), .int (nI len), .ref (q 9), .ref (q 10), .ref (q 11), .ref (q 12), .ref (q 13), .ref (q 14), .ref (q 15), .ref (q 16), .ref (q 17), .int (nI tr), .int (nI hi), .ref (q 20), .ref (q 21), .ref (q 22), .ref (q 23), .int (nI ma)])), (q 3, .inl (cI, 200, .inl (ni K))), (q 4, .inl (cI, 200, .inl vI)), (q 7, .inl (cI, 200, .inl (ni u)))]) := by
  refine vx_startI (cc := cN_Mod_passes) (maxL := 3) (ret := (some .boolean)) (by decide) rfl (Nat.le_of_ble_eq_true rfl) ?_
  intro p_0 e_0 s m below meth c_0 A ls C hK hP hD hS hA hl
  obtain ⟨hx, hb, hr, hml, hown, hts, hlocks, hnm⟩ := id C
  have hown : s.vm.findClass "StepMachinesModel" = some m.cls := hown
  have ht : ∀ w ∈ TB, w.before _ s = true := fun w h => hts w (List.mem_cons_of_mem _ h)
  have hl : lv_has ls 3 [(0, .ref o), (1, .int (nI k)), (2, .int (nI pl))] := hl
  refine lv_iload_n hx hb dN_Mod_passes_0 rfl (lv_at hl 1 rfl) ?_
  refine xn_le0 (tgt := 52) hx hb dN_Mod_passes_1 (by decide) (by omega) (fun c_1_0 => ?_) (fun c_1_0 => ?_)
  · skip
    refine lv_iconst (v := (nI 0)) hx hb dN_Mod_passes_52 (by decide) ?_
    refine xn_top (y := zi false) rfl ?_
    exact vx_zret C hK hP hD hS dN_Mod_passes_53 (Nat.le_of_ble_eq_true rfl) (Nat.le_of_ble_eq_true rfl) (zi_nar2 _) (⟨by simp [pasB, c_1_0], rfl⟩)
  · skip
    refine lv_aload_n hx hb dN_Mod_passes_4 rfl (lv_at hl 0 rfl) ?_
    refine va_get (D := D) (ci := 12) (v := .ref (q 3)) (C := RN_Mod) (T := FN_Mod) (N := 25) hx hb ht fN_Mod hown hK hP 0 rfl rfl 3 (by decide) (ht _ mw_975) (fun _ h9 => h9) rfl dN_Mod_passes_5 ?_
    refine lv_iload_n hx hb dN_Mod_passes_8 rfl (lv_at hl 1 rfl) ?_
    refine xn_ald hx hb hK hP 1 0 rfl rfl dN_Mod_passes_9 (by omega) (by omega) ?_
    refine lv_iconst (v := (nI 2)) hx hb dN_Mod_passes_10 (by decide) ?_
    refine xn_eq (tgt := 48) hx hb dN_Mod_passes_11 (by decide) (by have := hK5 k; omega) (by omega) (fun c_11_1 => ?_) (fun c_11_1 => ?_)
    · skip
      refine lv_iconst (v := (nI 1)) hx hb dN_Mod_passes_48 (by decide) ?_
      refine lv_goto (tgt := 53) hx hb dN_Mod_passes_49 (by decide) ?_
      refine xn_top (y := zi true) rfl ?_
      exact vx_zret C hK hP hD hS dN_Mod_passes_53 (Nat.le_of_ble_eq_true rfl) (Nat.le_of_ble_eq_true rfl) (zi_nar2 _) (⟨by simp [pasB, c_1_0, c_11_1], rfl⟩)
    · skip
      refine lv_aload_n hx hb dN_Mod_passes_14 rfl (lv_at hl 0 rfl) ?_
      refine va_get (D := D) (ci := 12) (v := .ref (q 3)) (C := RN_Mod) (T := FN_Mod) (N := 25) hx hb ht fN_Mod hown hK hP 0 rfl rfl 3 (by decide) (ht _ mw_975) (fun _ h9 => h9) rfl dN_Mod_passes_15 ?_
      refine lv_iload_n hx hb dN_Mod_passes_18 rfl (lv_at hl 1 rfl) ?_
      refine xn_ald hx hb hK hP 1 0 rfl rfl dN_Mod_passes_19 (by omega) (by omega) ?_
      refine lv_iconst (v := (nI 3)) hx hb dN_Mod_passes_20 (by decide) ?_
      refine xn_eq (tgt := 48) hx hb dN_Mod_passes_21 (by decide) (by have := hK5 k; omega) (by omega) (fun c_21_2 => ?_) (fun c_21_2 => ?_)
      · skip
        refine lv_iconst (v := (nI 1)) hx hb dN_Mod_passes_48 (by decide) ?_
        refine lv_goto (tgt := 53) hx hb dN_Mod_passes_49 (by decide) ?_
        refine xn_top (y := zi true) rfl ?_
        exact vx_zret C hK hP hD hS dN_Mod_passes_53 (Nat.le_of_ble_eq_true rfl) (Nat.le_of_ble_eq_true rfl) (zi_nar2 _) (⟨by simp [pasB, c_1_0, c_11_1, c_21_2], rfl⟩)
      · skip
        refine lv_aload_n hx hb dN_Mod_passes_24 rfl (lv_at hl 0 rfl) ?_
        refine va_get (D := D) (ci := 12) (v := .ref (q 3)) (C := RN_Mod) (T := FN_Mod) (N := 25) hx hb ht fN_Mod hown hK hP 0 rfl rfl 3 (by decide) (ht _ mw_975) (fun _ h9 => h9) rfl dN_Mod_passes_25 ?_
        refine lv_iload_n hx hb dN_Mod_passes_28 rfl (lv_at hl 1 rfl) ?_
        refine xn_ald hx hb hK hP 1 0 rfl rfl dN_Mod_passes_29 (by omega) (by omega) ?_
        refine lv_iconst (v := (nI 4)) hx hb dN_Mod_passes_30 (by decide) ?_
        refine xn_ne (tgt := 52) hx hb dN_Mod_passes_31 (by decide) (by have := hK5 k; omega) (by omega) (fun c_31_3 => ?_) (fun c_31_3 => ?_)
        · skip
          refine lv_iconst (v := (nI 0)) hx hb dN_Mod_passes_52 (by decide) ?_
          refine xn_top (y := zi false) rfl ?_
          exact vx_zret C hK hP hD hS dN_Mod_passes_53 (Nat.le_of_ble_eq_true rfl) (Nat.le_of_ble_eq_true rfl) (zi_nar2 _) (⟨by simp [pasB, c_1_0, c_11_1, c_21_2, c_31_3], rfl⟩)
        · skip
          refine lv_aload_n hx hb dN_Mod_passes_34 rfl (lv_at hl 0 rfl) ?_
          refine lv_aload_n hx hb dN_Mod_passes_35 rfl (lv_at hl 0 rfl) ?_
          refine va_get (D := D) (ci := 12) (v := .ref (q 4)) (C := RN_Mod) (T := FN_Mod) (N := 25) hx hb ht fN_Mod hown hK hP 0 rfl rfl 4 (by decide) (ht _ mw_976) (fun _ h9 => h9) rfl dN_Mod_passes_36 ?_
          refine lv_iload_n hx hb dN_Mod_passes_39 rfl (lv_at hl 1 rfl) ?_
          refine xi_ald hx hb hK hP 2 0 rfl rfl dN_Mod_passes_40 (by omega) (by omega) ?_
          refine xn_top (y := (nI (V k))) (hv k (by omega) (by omega) (Or.inr (Or.inr c_31_3))) ?_
          refine lv_iload_n hx hb dN_Mod_passes_41 rfl (lv_at hl 2 rfl) ?_
          refine vx_calli (wc := [(o, .inr (12, [.int (nI th), .int (nI n), .int (nI b), .ref (q 3), .ref (q 4), .ref (q 5), .ref (q 6), .ref (q 7), .int (nI len), .ref (q 9), .ref (q 10), .ref (q 11), .ref (q 12), .ref (q 13), .ref (q 14), .ref (q 15), .ref (q 16), .ref (q 17), .int (nI tr), .int (nI hi), .ref (q 20), .ref (q 21), .ref (q 22), .ref (q 23), .int (nI ma)])), (q 7, .inl (cI, 200, .inl (ni u)))]) (wr := [(q 3, .inl (cI, 200, .inl (ni K))), (q 4, .inl (cI, 200, .inl vI))]) [0, 3] [1, 2] hK hP hD hS hA rfl rfl (by decide) (by decide) (va_runV (As := [.int (nI (V k)), .int (nI pl)]) (rest := []) ⟨hx, hb, hml, hown, ht⟩ (kMod_isSo l D cI cZ cJ o q th n b len tr hi ma u (V k) pl hle (hv4 k hk c_31_3) hpl hu _) (⟨callB_of 2 ht (TB_in2 gN_Mod_isSo) rfl rfl rfl (ht _ mw_14) (ht _ mw_1103) (by decide +kernel) ⟨Nat.le_of_ble_eq_true rfl, Nat.le_of_ble_eq_true rfl⟩, ht _ mw_1105, ht _ ms_38⟩) (vx_preV [0, 3] hK hP hD (by decide) rfl (ci := 12) rfl 0 rfl) rfl rfl hl.1 rfl (lv_room (Nat.le_of_ble_eq_true rfl)) dN_Mod_passes_42 ⟨Nat.le_of_ble_eq_true rfl, Nat.le_of_ble_eq_true rfl⟩) (fun r1 w1 H locs hq hP hD hS => ?_)
          obtain ⟨rfl, rfl⟩ := hq
          have hP : va_P D clN [(o, .inr (12, [.int (nI th), .int (nI n), .int (nI b), .ref (q 3), .ref (q 4), .ref (q 5), .ref (q 6), .ref (q 7), .int (nI len), .ref (q 9), .ref (q 10), .ref (q 11), .ref (q 12), .ref (q 13), .ref (q 14), .ref (q 15), .ref (q 16), .ref (q 17), .int (nI tr), .int (nI hi), .ref (q 20), .ref (q 21), .ref (q 22), .ref (q 23), .int (nI ma)])), (q 3, .inl (cI, 200, .inl (ni K))), (q 4, .inl (cI, 200, .inl vI)), (q 7, .inl (cI, 200, .inl (ni u)))] H := hP.sub [2, 0, 1, 3] rfl
          have hD : va_D A [(o, .inr (12, [.int (nI th), .int (nI n), .int (nI b), .ref (q 3), .ref (q 4), .ref (q 5), .ref (q 6), .ref (q 7), .int (nI len), .ref (q 9), .ref (q 10), .ref (q 11), .ref (q 12), .ref (q 13), .ref (q 14), .ref (q 15), .ref (q 16), .ref (q 17), .int (nI tr), .int (nI hi), .ref (q 20), .ref (q 21), .ref (q 22), .ref (q 23), .int (nI ma)])), (q 3, .inl (cI, 200, .inl (ni K))), (q 4, .inl (cI, 200, .inl vI)), (q 7, .inl (cI, 200, .inl (ni u)))] := hD.sub [2, 0, 1, 3] (by decide) rfl
          refine xz_eq0 (tgt := 52) hx hb dN_Mod_passes_45 (by decide) (fun c_45_4 => ?_) (fun c_45_4 => ?_)
          · skip
            refine lv_iconst (v := (nI 0)) hx hb dN_Mod_passes_52 (by decide) ?_
            refine xn_top (y := zi false) rfl ?_
            exact vx_zret C hK hP hD hS dN_Mod_passes_53 (Nat.le_of_ble_eq_true rfl) (Nat.le_of_ble_eq_true rfl) (zi_nar2 _) (⟨by simp [pasB, c_1_0, c_11_1, c_21_2, c_31_3, c_45_4], rfl⟩)
          · skip
            refine lv_iconst (v := (nI 1)) hx hb dN_Mod_passes_48 (by decide) ?_
            refine lv_goto (tgt := 53) hx hb dN_Mod_passes_49 (by decide) ?_
            refine xn_top (y := zi true) rfl ?_
            exact vx_zret C hK hP hD hS dN_Mod_passes_53 (Nat.le_of_ble_eq_true rfl) (Nat.le_of_ble_eq_true rfl) (zi_nar2 _) (⟨by simp [pasB, c_1_0, c_11_1, c_21_2, c_31_3, c_45_4], rfl⟩)
