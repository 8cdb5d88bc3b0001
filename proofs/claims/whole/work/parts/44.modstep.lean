set_option maxHeartbeats 4000000 in
set_option maxRecDepth 100000 in
/-- step, refused -/
theorem kMod_step_bad (l : Launch) (D : va_G) (cI cZ cJ : ClassId) (o : Nat) (q : Nat → Nat) (th n b len tr hi ma : Nat) (K : Nat → Nat) (vI fI sI : Nat → Int32) (kx kd v a1 b1 : Int32) (hbad : ¬ stT n kx kd v a1 b1 = 0) : vx_Mv l yN_Mod_step wN_Mod_step ({ frames := 1, cells := 0, slots := 0, locals := 30 }) D clN (tyN cI cZ cJ) [.ref o, .int kx, .int kd, .int v, .int a1, .int b1] [(o, .inr (12, [.int (nI th), .int (nI n), .int (nI b), .ref (q 3), .ref (q 4), .ref (q 5), .ref (q 6), .ref (q 7), .int (nI len), .ref (q 9), .ref (q 10), .ref (q 11), .ref (q 12), .ref (q 13), .ref (q 14), .ref (q 15), .ref (q 16), .ref (q 17), .int (nI tr), .int (nI hi), .ref (q 20), .ref (q 21), .ref (q 22), .ref (q 23), .int (nI ma)])), (q 3, .inl (cI, 200, .inl (ni K))), (q 4, .inl (cI, 200, .inl vI)), (q 5, .inl (cI, 200, .inl fI)), (q 6, .inl (cI, 200, .inl sI))] (fun w => w = [(o, .inr (12, [.int (nI (stT n kx kd v a1 b1)), .int (nI n), .int (nI b), .ref (q 3), .ref (q 4), .ref (q 5), .ref (q 6), .ref (q 7), .int (nI len), .ref (q 9), .ref (q 10), .ref (q 11), .ref (q 12), .ref (q 13), .ref (q 14), .ref (q 15), .ref (q 16), .ref (q 17), .int (nI tr), .int (nI hi), .ref (q 20), .ref (q 21), .ref (q 22), .ref (q 23), .int (nI ma)])), (q 3, .inl (cI, 200, .inl (ni K))), (q 4, .inl (cI, 200, .inl vI)), (q 5, .inl (cI, 200, .inl fI)), (q 6, .inl (cI, 200, .inl sI))]) := by
  refine vx_startV (cc := cN_Mod_step) (maxL := 7) (ret := none) (by decide) rfl (Nat.le_of_ble_eq_true rfl) ?_
  intro p_0 e_0 s m below meth c_0 A ls C hK hP hD hS hA hl
  obtain ⟨hx, hb, hr, hml, hown, hts, hlocks, hnm⟩ := id C
  have hown : s.vm.findClass "StepMachinesModel" = some m.cls := hown
  have ht : ∀ w ∈ TB, w.before _ s = true := fun w h => hts w (List.mem_cons_of_mem _ h)
  have hl : lv_has ls 7 [(0, .ref o), (1, .int kx), (2, .int kd), (3, .int v), (4, .int a1), (5, .int b1)] := hl
  refine lv_aload_n hx hb dN_Mod_step_0 rfl (lv_at hl 0 rfl) ?_
  refine lv_aload_n hx hb dN_Mod_step_1 rfl (lv_at hl 0 rfl) ?_
  refine vx_joinH (α := Nat) (fun j1 H locs ls => va_P D clN [(o, .inr (12, [.int (nI th), .int (nI n), .int (nI b), .ref (q 3), .ref (q 4), .ref (q 5), .ref (q 6), .ref (q 7), .int (nI len), .ref (q 9), .ref (q 10), .ref (q 11), .ref (q 12), .ref (q 13), .ref (q 14), .ref (q 15), .ref (q 16), .ref (q 17), .int (nI tr), .int (nI hi), .ref (q 20), .ref (q 21), .ref (q 22), .ref (q 23), .int (nI ma)])), (q 3, .inl (cI, 200, .inl (ni K))), (q 4, .inl (cI, 200, .inl vI)), (q 5, .inl (cI, 200, .inl fI)), (q 6, .inl (cI, 200, .inl sI))] H ∧ va_D A [(o, .inr (12, [.int (nI th), .int (nI n), .int (nI b), .ref (q 3), .ref (q 4), .ref (q 5), .ref (q 6), .ref (q 7), .int (nI len), .ref (q 9), .ref (q 10), .ref (q 11), .ref (q 12), .ref (q 13), .ref (q 14), .ref (q 15), .ref (q 16), .ref (q 17), .int (nI tr), .int (nI hi), .ref (q 20), .ref (q 21), .ref (q 22), .ref (q 23), .int (nI ma)])), (q 3, .inl (cI, 200, .inl (ni K))), (q 4, .inl (cI, 200, .inl vI)), (q 5, .inl (cI, 200, .inl fI)), (q 6, .inl (cI, 200, .inl sI))] ∧ va_S A s.heap H locs ∧ lv_has ls 7 [(0, .ref o), (1, .int kx), (2, .int kd), (3, .int v), (4, .int a1), (5, .int b1)] ∧ (j1 = (if ixB n kx kd a1 b1 = true then 1 else 0))) 46 (fun j1 => [.int (nI j1), .ref o]) (fun j1 H locs ls hq => ?_) (fun Jj1 => ?_)
  · obtain ⟨hP, hD, hS, hl, hj1⟩ := hq
    have hj_t := hj1
    have hjb : j1 ≤ 1 := by rw [hj1]; split <;> omega
    refine va_put (D := D) (ci := 12) (v := .int (nI j1)) (ty := .int) (C := RN_Mod) (T := FN_Mod) (N := 25) hx hb ht fN_Mod tN_Mod oN_Mod nN_Mod hown hK hP hD hS 0 rfl rfl 0 (by decide) (ht _ mw_972) (fun _ h9 => h9) rfl (by decide +kernel) (rfl) (rfl) (Nat.le_of_ble_eq_true rfl) dN_Mod_step_46 (fun H locs hP hD hS => ?_)
    have hP : va_P D clN [(o, .inr (12, [.int (nI j1), .int (nI n), .int (nI b), .ref (q 3), .ref (q 4), .ref (q 5), .ref (q 6), .ref (q 7), .int (nI len), .ref (q 9), .ref (q 10), .ref (q 11), .ref (q 12), .ref (q 13), .ref (q 14), .ref (q 15), .ref (q 16), .ref (q 17), .int (nI tr), .int (nI hi), .ref (q 20), .ref (q 21), .ref (q 22), .ref (q 23), .int (nI ma)])), (q 3, .inl (cI, 200, .inl (ni K))), (q 4, .inl (cI, 200, .inl vI)), (q 5, .inl (cI, 200, .inl fI)), (q 6, .inl (cI, 200, .inl sI))] H := hP
    have hD : va_D A [(o, .inr (12, [.int (nI j1), .int (nI n), .int (nI b), .ref (q 3), .ref (q 4), .ref (q 5), .ref (q 6), .ref (q 7), .int (nI len), .ref (q 9), .ref (q 10), .ref (q 11), .ref (q 12), .ref (q 13), .ref (q 14), .ref (q 15), .ref (q 16), .ref (q 17), .int (nI tr), .int (nI hi), .ref (q 20), .ref (q 21), .ref (q 22), .ref (q 23), .int (nI ma)])), (q 3, .inl (cI, 200, .inl (ni K))), (q 4, .inl (cI, 200, .inl vI)), (q 5, .inl (cI, 200, .inl fI)), (q 6, .inl (cI, 200, .inl sI))] := hD
    refine vx_join (α := Bool) (fun j2 => j2 = gdB kd v) (fun j2 => F0 m 123 ls [.int (zi j2)]) (fun j2 hj2 => ?_) (fun Jj2 => ?_)
    · skip
      have hj_g := hj2
      refine lv_istore (lv' := [(6, .int (zi j2)), (0, .ref o), (1, .int kx), (2, .int kd), (3, .int v), (4, .int a1), (5, .int b1)]) hx hb dN_Mod_step_123 hl (by decide) rfl (fun ls hl => ?_)
      refine lv_aload_n hx hb dN_Mod_step_125 rfl (lv_at hl 1 rfl) ?_
      refine va_get (D := D) (ci := 12) (v := .int (nI j1)) (C := RN_Mod) (T := FN_Mod) (N := 25) hx hb ht fN_Mod hown hK hP 0 rfl rfl 0 (by decide) (ht _ mw_972) (fun _ h9 => h9) rfl dN_Mod_step_126 ?_
      refine xn_ne0 (tgt := 142) hx hb dN_Mod_step_129 (by decide) (by omega) (fun c_129_2 => ?_) (fun c_129_2 => ?_)
      · skip
        refine lv_aload_n hx hb dN_Mod_step_142 rfl (lv_at hl 1 rfl) ?_
        refine va_get (D := D) (ci := 12) (v := .int (nI j1)) (C := RN_Mod) (T := FN_Mod) (N := 25) hx hb ht fN_Mod hown hK hP 0 rfl rfl 0 (by decide) (ht _ mw_972) (fun _ h9 => h9) rfl dN_Mod_step_143 ?_
        refine xn_le0 (tgt := 150) hx hb dN_Mod_step_146 (by decide) (by omega) (fun c_146_3 => ?_) (fun c_146_3 => ?_)
        · skip
          exact absurd c_146_3 c_129_2
        · skip
          exact vx_vret C hK hP hD hS dN_Mod_step_149 (Nat.le_of_ble_eq_true rfl) (Nat.le_of_ble_eq_true rfl) (by by_cases h9 : ixB n kx kd a1 b1 = true; (rw [if_pos h9] at hj_t; rw [st_1 h9, hj_t]); (rw [if_neg h9] at hj_t; exact absurd hj_t c_129_2))
      · skip
        refine lv_iload hx hb dN_Mod_step_132 (lv_at hl 0 rfl) ?_
        refine xz_ne0 (tgt := 142) hx hb dN_Mod_step_134 (by decide) (fun c_134_4 => ?_) (fun c_134_4 => ?_)
        · skip
          refine lv_aload_n hx hb dN_Mod_step_142 rfl (lv_at hl 1 rfl) ?_
          refine va_get (D := D) (ci := 12) (v := .int (nI j1)) (C := RN_Mod) (T := FN_Mod) (N := 25) hx hb ht fN_Mod hown hK hP 0 rfl rfl 0 (by decide) (ht _ mw_972) (fun _ h9 => h9) rfl dN_Mod_step_143 ?_
          refine xn_le0 (tgt := 150) hx hb dN_Mod_step_146 (by decide) (by omega) (fun c_146_5 => ?_) (fun c_146_5 => ?_)
          · skip
            exact absurd (st_0 (fun h9 => by rw [if_pos h9] at hj_t; omega) (by rw [← hj_g]; exact c_134_4)) hbad
          · skip
            exact absurd c_146_5 (by omega)
        · skip
          refine lv_aload_n hx hb dN_Mod_step_137 rfl (lv_at hl 1 rfl) ?_
          refine lv_iconst (v := (nI 2)) hx hb dN_Mod_step_138 (by decide) ?_
          refine va_put (D := D) (ci := 12) (v := .int (nI 2)) (ty := .int) (C := RN_Mod) (T := FN_Mod) (N := 25) hx hb ht fN_Mod tN_Mod oN_Mod nN_Mod hown hK hP hD hS 0 rfl rfl 0 (by decide) (ht _ mw_972) (fun _ h9 => h9) rfl (by decide +kernel) (rfl) (rfl) (Nat.le_of_ble_eq_true rfl) dN_Mod_step_139 (fun H locs hP hD hS => ?_)
          have hP : va_P D clN [(o, .inr (12, [.int (nI 2), .int (nI n), .int (nI b), .ref (q 3), .ref (q 4), .ref (q 5), .ref (q 6), .ref (q 7), .int (nI len), .ref (q 9), .ref (q 10), .ref (q 11), .ref (q 12), .ref (q 13), .ref (q 14), .ref (q 15), .ref (q 16), .ref (q 17), .int (nI tr), .int (nI hi), .ref (q 20), .ref (q 21), .ref (q 22), .ref (q 23), .int (nI ma)])), (q 3, .inl (cI, 200, .inl (ni K))), (q 4, .inl (cI, 200, .inl vI)), (q 5, .inl (cI, 200, .inl fI)), (q 6, .inl (cI, 200, .inl sI))] H := hP
          have hD : va_D A [(o, .inr (12, [.int (nI 2), .int (nI n), .int (nI b), .ref (q 3), .ref (q 4), .ref (q 5), .ref (q 6), .ref (q 7), .int (nI len), .ref (q 9), .ref (q 10), .ref (q 11), .ref (q 12), .ref (q 13), .ref (q 14), .ref (q 15), .ref (q 16), .ref (q 17), .int (nI tr), .int (nI hi), .ref (q 20), .ref (q 21), .ref (q 22), .ref (q 23), .int (nI ma)])), (q 3, .inl (cI, 200, .inl (ni K))), (q 4, .inl (cI, 200, .inl vI)), (q 5, .inl (cI, 200, .inl fI)), (q 6, .inl (cI, 200, .inl sI))] := hD
          refine lv_aload_n hx hb dN_Mod_step_142 rfl (lv_at hl 1 rfl) ?_
          refine va_get (D := D) (ci := 12) (v := .int (nI 2)) (C := RN_Mod) (T := FN_Mod) (N := 25) hx hb ht fN_Mod hown hK hP 0 rfl rfl 0 (by decide) (ht _ mw_972) (fun _ h9 => h9) rfl dN_Mod_step_143 ?_
          refine xn_le0 (tgt := 150) hx hb dN_Mod_step_146 (by decide) (by omega) (fun c_146_6 => ?_) (fun c_146_6 => ?_)
          · skip
            exact absurd c_146_6 (by omega)
          · skip
            exact vx_vret C hK hP hD hS dN_Mod_step_149 (Nat.le_of_ble_eq_true rfl) (Nat.le_of_ble_eq_true rfl) (by rw [st_2 (fun h9 => by rw [if_pos h9] at hj_t; omega) (by rw [← hj_g]; exact c_134_4)])
    · skip
      refine lv_iload_n hx hb dN_Mod_step_49 rfl (lv_at hl 2 rfl) ?_
      refine lv_iconst (v := (nI 2)) hx hb dN_Mod_step_50 (by decide) ?_
      refine lv_icmp_eq (tgt := 118) hx hb dN_Mod_step_51 (by decide) (fun c_51_7 => ?_) (fun c_51_7 => ?_)
      · skip
        refine lv_iconst (v := (zi true)) hx hb dN_Mod_step_118 (by decide) ?_
        refine lv_goto (tgt := 123) hx hb dN_Mod_step_119 (by decide) ?_
        exact Jj2 (true) (by simp only [gdB, decide_eq_true c_51_7, Bool.not_true, Bool.not_false, Bool.true_and, Bool.false_and, Bool.true_or, Bool.false_or, Bool.or_true, Bool.or_false, Bool.and_true, Bool.and_false])
      · skip
        refine lv_iload_n hx hb dN_Mod_step_54 rfl (lv_at hl 2 rfl) ?_
        refine lv_iconst (v := (nI 5)) hx hb dN_Mod_step_55 (by decide) ?_
        refine lv_icmp_eq (tgt := 118) hx hb dN_Mod_step_56 (by decide) (fun c_56_8 => ?_) (fun c_56_8 => ?_)
        · skip
          refine lv_iconst (v := (zi true)) hx hb dN_Mod_step_118 (by decide) ?_
          refine lv_goto (tgt := 123) hx hb dN_Mod_step_119 (by decide) ?_
          exact Jj2 (true) (by simp only [gdB, decide_eq_false c_51_7, decide_eq_true c_56_8, Bool.not_true, Bool.not_false, Bool.true_and, Bool.false_and, Bool.true_or, Bool.false_or, Bool.or_true, Bool.or_false, Bool.and_true, Bool.and_false])
        · skip
          refine lv_iload_n hx hb dN_Mod_step_59 rfl (lv_at hl 2 rfl) ?_
          refine lv_iconst (v := (nI 1)) hx hb dN_Mod_step_60 (by decide) ?_
          refine lv_icmp_ne (tgt := 87) hx hb dN_Mod_step_61 (by decide) (fun c_61_9 => ?_) (fun c_61_9 => ?_)
          · skip
            refine lv_iload_n hx hb dN_Mod_step_87 rfl (lv_at hl 2 rfl) ?_
            refine lv_iconst (v := (nI 3)) hx hb dN_Mod_step_88 (by decide) ?_
            refine lv_icmp_ne (tgt := 103) hx hb dN_Mod_step_89 (by decide) (fun c_89_10 => ?_) (fun c_89_10 => ?_)
            · skip
              refine lv_iload_n hx hb dN_Mod_step_103 rfl (lv_at hl 2 rfl) ?_
              refine lv_iconst (v := (nI 4)) hx hb dN_Mod_step_104 (by decide) ?_
              refine lv_icmp_ne (tgt := 122) hx hb dN_Mod_step_105 (by decide) (fun c_105_11 => ?_) (fun c_105_11 => ?_)
              · skip
                refine lv_iconst (v := (zi false)) hx hb dN_Mod_step_122 (by decide) ?_
                exact Jj2 (false) (by simp only [gdB, decide_eq_false c_51_7, decide_eq_false c_56_8, decide_eq_false c_61_9, decide_eq_false c_89_10, decide_eq_false c_105_11, Bool.not_true, Bool.not_false, Bool.true_and, Bool.false_and, Bool.true_or, Bool.false_or, Bool.or_true, Bool.or_false, Bool.and_true, Bool.and_false])
              · skip
                refine lv_iload_n hx hb dN_Mod_step_108 rfl (lv_at hl 3 rfl) ?_
                refine lv_if_lt (tgt := 122) hx hb dN_Mod_step_109 (by decide) (fun c_109_12 => ?_) (fun c_109_12 => ?_)
                · skip
                  refine lv_iconst (v := (zi false)) hx hb dN_Mod_step_122 (by decide) ?_
                  exact Jj2 (false) (by simp only [gdB, decide_eq_false c_51_7, decide_eq_false c_56_8, decide_eq_false c_61_9, decide_eq_false c_89_10, decide_eq_true c_105_11, decide_eq_true c_109_12, Bool.not_true, Bool.not_false, Bool.true_and, Bool.false_and, Bool.true_or, Bool.false_or, Bool.or_true, Bool.or_false, Bool.and_true, Bool.and_false])
                · skip
                  refine lv_iload_n hx hb dN_Mod_step_112 rfl (lv_at hl 3 rfl) ?_
                  refine lv_bipush (v := (nI 6)) hx hb dN_Mod_step_113 (by decide) ?_
                  refine lv_icmp_ge (tgt := 122) hx hb dN_Mod_step_115 (by decide) (fun c_115_13 => ?_) (fun c_115_13 => ?_)
                  · skip
                    refine lv_iconst (v := (zi false)) hx hb dN_Mod_step_122 (by decide) ?_
                    exact Jj2 (false) (by simp only [gdB, decide_eq_false c_51_7, decide_eq_false c_56_8, decide_eq_false c_61_9, decide_eq_false c_89_10, decide_eq_true c_105_11, decide_eq_false c_109_12, decide_eq_true c_115_13, Bool.not_true, Bool.not_false, Bool.true_and, Bool.false_and, Bool.true_or, Bool.false_or, Bool.or_true, Bool.or_false, Bool.and_true, Bool.and_false])
                  · skip
                    refine lv_iconst (v := (zi true)) hx hb dN_Mod_step_118 (by decide) ?_
                    refine lv_goto (tgt := 123) hx hb dN_Mod_step_119 (by decide) ?_
                    exact Jj2 (true) (by simp only [gdB, decide_eq_false c_51_7, decide_eq_false c_56_8, decide_eq_false c_61_9, decide_eq_false c_89_10, decide_eq_true c_105_11, decide_eq_false c_109_12, decide_eq_false c_115_13, Bool.not_true, Bool.not_false, Bool.true_and, Bool.false_and, Bool.true_or, Bool.false_or, Bool.or_true, Bool.or_false, Bool.and_true, Bool.and_false])
            · skip
              refine lv_iload_n hx hb dN_Mod_step_92 rfl (lv_at hl 3 rfl) ?_
              refine lv_iconst (v := (nI 2)) hx hb dN_Mod_step_93 (by decide) ?_
              refine lv_icmp_lt (tgt := 103) hx hb dN_Mod_step_94 (by decide) (fun c_94_14 => ?_) (fun c_94_14 => ?_)
              · skip
                refine lv_iload_n hx hb dN_Mod_step_103 rfl (lv_at hl 2 rfl) ?_
                refine lv_iconst (v := (nI 4)) hx hb dN_Mod_step_104 (by decide) ?_
                refine lv_icmp_ne (tgt := 122) hx hb dN_Mod_step_105 (by decide) (fun c_105_15 => ?_) (fun c_105_15 => ?_)
                · skip
                  refine lv_iconst (v := (zi false)) hx hb dN_Mod_step_122 (by decide) ?_
                  exact Jj2 (false) (by simp only [gdB, decide_eq_false c_51_7, decide_eq_false c_56_8, decide_eq_false c_61_9, decide_eq_true c_89_10, decide_eq_true c_94_14, decide_eq_false c_105_15, Bool.not_true, Bool.not_false, Bool.true_and, Bool.false_and, Bool.true_or, Bool.false_or, Bool.or_true, Bool.or_false, Bool.and_true, Bool.and_false])
                · skip
                  exact absurd (c_89_10.symm.trans c_105_15) (by decide)
              · skip
                refine lv_iload_n hx hb dN_Mod_step_97 rfl (lv_at hl 3 rfl) ?_
                refine lv_bipush (v := (nI 20)) hx hb dN_Mod_step_98 (by decide) ?_
                refine lv_icmp_lt (tgt := 118) hx hb dN_Mod_step_100 (by decide) (fun c_100_16 => ?_) (fun c_100_16 => ?_)
                · skip
                  refine lv_iconst (v := (zi true)) hx hb dN_Mod_step_118 (by decide) ?_
                  refine lv_goto (tgt := 123) hx hb dN_Mod_step_119 (by decide) ?_
                  exact Jj2 (true) (by simp only [gdB, decide_eq_false c_51_7, decide_eq_false c_56_8, decide_eq_false c_61_9, decide_eq_true c_89_10, decide_eq_false c_94_14, decide_eq_true c_100_16, Bool.not_true, Bool.not_false, Bool.true_and, Bool.false_and, Bool.true_or, Bool.false_or, Bool.or_true, Bool.or_false, Bool.and_true, Bool.and_false])
                · skip
                  refine lv_iload_n hx hb dN_Mod_step_103 rfl (lv_at hl 2 rfl) ?_
                  refine lv_iconst (v := (nI 4)) hx hb dN_Mod_step_104 (by decide) ?_
                  refine lv_icmp_ne (tgt := 122) hx hb dN_Mod_step_105 (by decide) (fun c_105_17 => ?_) (fun c_105_17 => ?_)
                  · skip
                    refine lv_iconst (v := (zi false)) hx hb dN_Mod_step_122 (by decide) ?_
                    exact Jj2 (false) (by simp only [gdB, decide_eq_false c_51_7, decide_eq_false c_56_8, decide_eq_false c_61_9, decide_eq_true c_89_10, decide_eq_false c_94_14, decide_eq_false c_100_16, decide_eq_false c_105_17, Bool.not_true, Bool.not_false, Bool.true_and, Bool.false_and, Bool.true_or, Bool.false_or, Bool.or_true, Bool.or_false, Bool.and_true, Bool.and_false])
                  · skip
                    exact absurd (c_89_10.symm.trans c_105_17) (by decide)
          · skip
            refine lv_iload_n hx hb dN_Mod_step_64 rfl (lv_at hl 3 rfl) ?_
            refine lv_if_lt (tgt := 87) hx hb dN_Mod_step_65 (by decide) (fun c_65_18 => ?_) (fun c_65_18 => ?_)
            · skip
              refine lv_iload_n hx hb dN_Mod_step_87 rfl (lv_at hl 2 rfl) ?_
              refine lv_iconst (v := (nI 3)) hx hb dN_Mod_step_88 (by decide) ?_
              refine lv_icmp_ne (tgt := 103) hx hb dN_Mod_step_89 (by decide) (fun c_89_19 => ?_) (fun c_89_19 => ?_)
              · skip
                refine lv_iload_n hx hb dN_Mod_step_103 rfl (lv_at hl 2 rfl) ?_
                refine lv_iconst (v := (nI 4)) hx hb dN_Mod_step_104 (by decide) ?_
                refine lv_icmp_ne (tgt := 122) hx hb dN_Mod_step_105 (by decide) (fun c_105_20 => ?_) (fun c_105_20 => ?_)
                · skip
                  refine lv_iconst (v := (zi false)) hx hb dN_Mod_step_122 (by decide) ?_
                  exact Jj2 (false) (by simp only [gdB, decide_eq_false c_51_7, decide_eq_false c_56_8, decide_eq_true c_61_9, decide_eq_true c_65_18, decide_eq_false c_89_19, decide_eq_false c_105_20, Bool.not_true, Bool.not_false, Bool.true_and, Bool.false_and, Bool.true_or, Bool.false_or, Bool.or_true, Bool.or_false, Bool.and_true, Bool.and_false])
                · skip
                  exact absurd (c_61_9.symm.trans c_105_20) (by decide)
              · skip
                exact absurd (c_61_9.symm.trans c_89_19) (by decide)
            · skip
              refine lv_iload_n hx hb dN_Mod_step_68 rfl (lv_at hl 3 rfl) ?_
              refine lv_ldc (v := nI 65536) hx hb hown (ht _ mw_1065) dN_Mod_step_69 ?_
              refine lv_icmp_ge (tgt := 87) hx hb dN_Mod_step_71 (by decide) (fun c_71_21 => ?_) (fun c_71_21 => ?_)
              · skip
                refine lv_iload_n hx hb dN_Mod_step_87 rfl (lv_at hl 2 rfl) ?_
                refine lv_iconst (v := (nI 3)) hx hb dN_Mod_step_88 (by decide) ?_
                refine lv_icmp_ne (tgt := 103) hx hb dN_Mod_step_89 (by decide) (fun c_89_22 => ?_) (fun c_89_22 => ?_)
                · skip
                  refine lv_iload_n hx hb dN_Mod_step_103 rfl (lv_at hl 2 rfl) ?_
                  refine lv_iconst (v := (nI 4)) hx hb dN_Mod_step_104 (by decide) ?_
                  refine lv_icmp_ne (tgt := 122) hx hb dN_Mod_step_105 (by decide) (fun c_105_23 => ?_) (fun c_105_23 => ?_)
                  · skip
                    refine lv_iconst (v := (zi false)) hx hb dN_Mod_step_122 (by decide) ?_
                    exact Jj2 (false) (by simp only [gdB, decide_eq_false c_51_7, decide_eq_false c_56_8, decide_eq_true c_61_9, decide_eq_false c_65_18, decide_eq_true c_71_21, decide_eq_false c_89_22, decide_eq_false c_105_23, Bool.not_true, Bool.not_false, Bool.true_and, Bool.false_and, Bool.true_or, Bool.false_or, Bool.or_true, Bool.or_false, Bool.and_true, Bool.and_false])
                  · skip
                    exact absurd (c_61_9.symm.trans c_105_23) (by decide)
                · skip
                  exact absurd (c_61_9.symm.trans c_89_22) (by decide)
              · skip
                refine lv_iload_n hx hb dN_Mod_step_74 rfl (lv_at hl 3 rfl) ?_
                refine lv_sipush (v := (nI 256)) hx hb dN_Mod_step_75 (by decide) ?_
                refine lv_idiv hx hb dN_Mod_step_78 (by decide) ?_
                refine lv_iload_n hx hb dN_Mod_step_79 rfl (lv_at hl 3 rfl) ?_
                refine lv_sipush (v := (nI 256)) hx hb dN_Mod_step_80 (by decide) ?_
                refine lv_irem hx hb dN_Mod_step_83 (by decide) ?_
                refine lv_icmp_le (tgt := 118) hx hb dN_Mod_step_84 (by decide) (fun c_84_24 => ?_) (fun c_84_24 => ?_)
                · skip
                  refine lv_iconst (v := (zi true)) hx hb dN_Mod_step_118 (by decide) ?_
                  refine lv_goto (tgt := 123) hx hb dN_Mod_step_119 (by decide) ?_
                  exact Jj2 (true) (by simp only [gdB, decide_eq_false c_51_7, decide_eq_false c_56_8, decide_eq_true c_61_9, decide_eq_false c_65_18, decide_eq_false c_71_21, decide_eq_true c_84_24, Bool.not_true, Bool.not_false, Bool.true_and, Bool.false_and, Bool.true_or, Bool.false_or, Bool.or_true, Bool.or_false, Bool.and_true, Bool.and_false])
                · skip
                  refine lv_iload_n hx hb dN_Mod_step_87 rfl (lv_at hl 2 rfl) ?_
                  refine lv_iconst (v := (nI 3)) hx hb dN_Mod_step_88 (by decide) ?_
                  refine lv_icmp_ne (tgt := 103) hx hb dN_Mod_step_89 (by decide) (fun c_89_25 => ?_) (fun c_89_25 => ?_)
                  · skip
                    refine lv_iload_n hx hb dN_Mod_step_103 rfl (lv_at hl 2 rfl) ?_
                    refine lv_iconst (v := (nI 4)) hx hb dN_Mod_step_104 (by decide) ?_
                    refine lv_icmp_ne (tgt := 122) hx hb dN_Mod_step_105 (by decide) (fun c_105_26 => ?_) (fun c_105_26 => ?_)
                    · skip
                      refine lv_iconst (v := (zi false)) hx hb dN_Mod_step_122 (by decide) ?_
                      exact Jj2 (false) (by simp only [gdB, decide_eq_false c_51_7, decide_eq_false c_56_8, decide_eq_true c_61_9, decide_eq_false c_65_18, decide_eq_false c_71_21, decide_eq_false c_84_24, decide_eq_false c_89_25, decide_eq_false c_105_26, Bool.not_true, Bool.not_false, Bool.true_and, Bool.false_and, Bool.true_or, Bool.false_or, Bool.or_true, Bool.or_false, Bool.and_true, Bool.and_false])
                    · skip
                      exact absurd (c_61_9.symm.trans c_105_26) (by decide)
                  · skip
                    exact absurd (c_61_9.symm.trans c_89_25) (by decide)
  · skip
    refine lv_iload_n hx hb dN_Mod_step_2 rfl (lv_at hl 1 rfl) ?_
    refine vx_calli (wc := [(o, .inr (12, [.int (nI th), .int (nI n), .int (nI b), .ref (q 3), .ref (q 4), .ref (q 5), .ref (q 6), .ref (q 7), .int (nI len), .ref (q 9), .ref (q 10), .ref (q 11), .ref (q 12), .ref (q 13), .ref (q 14), .ref (q 15), .ref (q 16), .ref (q 17), .int (nI tr), .int (nI hi), .ref (q 20), .ref (q 21), .ref (q 22), .ref (q 23), .int (nI ma)]))]) (wr := [(q 3, .inl (cI, 200, .inl (ni K))), (q 4, .inl (cI, 200, .inl vI)), (q 5, .inl (cI, 200, .inl fI)), (q 6, .inl (cI, 200, .inl sI))]) [0] [1, 2, 3, 4] hK hP hD hS hA rfl rfl (by decide) (by decide) (va_runV (As := [.int kx]) (rest := [.ref o]) ⟨hx, hb, hml, hown, ht⟩ (kMod_isStep l D cI cZ cJ o q th n b len tr hi ma (kx) _) (⟨callB_of 1 ht (TB_in2 gN_Mod_isStep) rfl rfl rfl (ht _ mw_14) (ht _ mw_1061) (by decide +kernel) ⟨Nat.le_of_ble_eq_true rfl, Nat.le_of_ble_eq_true rfl⟩, ht _ mw_1063, ht _ ms_32⟩) (vx_preV [0] hK hP hD (by decide) rfl (ci := 12) rfl 0 rfl) rfl rfl hl.1 rfl (lv_room (Nat.le_of_ble_eq_true rfl)) dN_Mod_step_3 ⟨Nat.le_of_ble_eq_true rfl, Nat.le_of_ble_eq_true rfl⟩) (fun r1 w1 H locs hq hP hD hS => ?_)
    obtain ⟨rfl, rfl⟩ := hq
    have hP : va_P D clN [(o, .inr (12, [.int (nI th), .int (nI n), .int (nI b), .ref (q 3), .ref (q 4), .ref (q 5), .ref (q 6), .ref (q 7), .int (nI len), .ref (q 9), .ref (q 10), .ref (q 11), .ref (q 12), .ref (q 13), .ref (q 14), .ref (q 15), .ref (q 16), .ref (q 17), .int (nI tr), .int (nI hi), .ref (q 20), .ref (q 21), .ref (q 22), .ref (q 23), .int (nI ma)])), (q 3, .inl (cI, 200, .inl (ni K))), (q 4, .inl (cI, 200, .inl vI)), (q 5, .inl (cI, 200, .inl fI)), (q 6, .inl (cI, 200, .inl sI))] H := hP.sub [4, 0, 1, 2, 3] rfl
    have hD : va_D A [(o, .inr (12, [.int (nI th), .int (nI n), .int (nI b), .ref (q 3), .ref (q 4), .ref (q 5), .ref (q 6), .ref (q 7), .int (nI len), .ref (q 9), .ref (q 10), .ref (q 11), .ref (q 12), .ref (q 13), .ref (q 14), .ref (q 15), .ref (q 16), .ref (q 17), .int (nI tr), .int (nI hi), .ref (q 20), .ref (q 21), .ref (q 22), .ref (q 23), .int (nI ma)])), (q 3, .inl (cI, 200, .inl (ni K))), (q 4, .inl (cI, 200, .inl vI)), (q 5, .inl (cI, 200, .inl fI)), (q 6, .inl (cI, 200, .inl sI))] := hD.sub [4, 0, 1, 2, 3] (by decide) rfl
    refine xz_eq0 (tgt := 41) hx hb dN_Mod_step_6 (by decide) (fun c_6_27 => ?_) (fun c_6_27 => ?_)
    · skip
      refine lv_iconst (v := (nI 1)) hx hb dN_Mod_step_41 (by decide) ?_
      refine lv_goto (tgt := 46) hx hb dN_Mod_step_42 (by decide) ?_
      exact Jj1 (1) _ _ _ ⟨hP, hD, hS, lv_sub hl [0, 1, 2, 3, 4, 5] rfl, by rw [if_pos]; simp only [ixB, c_6_27, Bool.not_true, Bool.not_false, Bool.true_and, Bool.false_and, Bool.true_or, Bool.false_or, Bool.or_true, Bool.or_false, Bool.and_true, Bool.and_false]⟩
    · skip
      refine lv_iload_n hx hb dN_Mod_step_9 rfl (lv_at hl 1 rfl) ?_
      refine lv_if_eq (tgt := 41) hx hb dN_Mod_step_10 (by decide) (fun c_10_28 => ?_) (fun c_10_28 => ?_)
      · skip
        refine lv_iconst (v := (nI 1)) hx hb dN_Mod_step_41 (by decide) ?_
        refine lv_goto (tgt := 46) hx hb dN_Mod_step_42 (by decide) ?_
        exact Jj1 (1) _ _ _ ⟨hP, hD, hS, lv_sub hl [0, 1, 2, 3, 4, 5] rfl, by rw [if_pos]; simp only [ixB, c_6_27, decide_eq_true c_10_28, Bool.not_true, Bool.not_false, Bool.true_and, Bool.false_and, Bool.true_or, Bool.false_or, Bool.or_true, Bool.or_false, Bool.and_true, Bool.and_false]⟩
      · skip
        refine lv_iload_n hx hb dN_Mod_step_13 rfl (lv_at hl 2 rfl) ?_
        refine lv_iconst (v := (nI 5)) hx hb dN_Mod_step_14 (by decide) ?_
        refine lv_icmp_eq (tgt := 27) hx hb dN_Mod_step_15 (by decide) (fun c_15_29 => ?_) (fun c_15_29 => ?_)
        · skip
          refine lv_iload_n hx hb dN_Mod_step_27 rfl (lv_at hl 2 rfl) ?_
          refine lv_iconst (v := (nI 2)) hx hb dN_Mod_step_28 (by decide) ?_
          refine lv_icmp_ne (tgt := 45) hx hb dN_Mod_step_29 (by decide) (fun c_29_30 => ?_) (fun c_29_30 => ?_)
          · skip
            refine lv_iconst (v := (nI 0)) hx hb dN_Mod_step_45 (by decide) ?_
            exact Jj1 (0) _ _ _ ⟨hP, hD, hS, lv_sub hl [0, 1, 2, 3, 4, 5] rfl, by rw [if_neg]; simp only [ixB, c_6_27, decide_eq_false c_10_28, decide_eq_true c_15_29, decide_eq_false c_29_30, Bool.not_true, Bool.not_false, Bool.true_and, Bool.false_and, Bool.true_or, Bool.false_or, Bool.or_true, Bool.or_false, Bool.and_true, Bool.and_false]; decide⟩
          · skip
            refine lv_aload_n hx hb dN_Mod_step_32 rfl (lv_at hl 0 rfl) ?_
            refine lv_iload hx hb dN_Mod_step_33 (lv_at hl 5 rfl) ?_
            refine vx_calli (wc := [(o, .inr (12, [.int (nI th), .int (nI n), .int (nI b), .ref (q 3), .ref (q 4), .ref (q 5), .ref (q 6), .ref (q 7), .int (nI len), .ref (q 9), .ref (q 10), .ref (q 11), .ref (q 12), .ref (q 13), .ref (q 14), .ref (q 15), .ref (q 16), .ref (q 17), .int (nI tr), .int (nI hi), .ref (q 20), .ref (q 21), .ref (q 22), .ref (q 23), .int (nI ma)]))]) (wr := [(q 3, .inl (cI, 200, .inl (ni K))), (q 4, .inl (cI, 200, .inl vI)), (q 5, .inl (cI, 200, .inl fI)), (q 6, .inl (cI, 200, .inl sI))]) [0] [1, 2, 3, 4] hK hP hD hS hA rfl rfl (by decide) (by decide) (va_runV (As := [.int b1]) (rest := [.ref o]) ⟨hx, hb, hml, hown, ht⟩ (kMod_isStep l D cI cZ cJ o q th n b len tr hi ma (b1) _) (⟨callB_of 1 ht (TB_in2 gN_Mod_isStep) rfl rfl rfl (ht _ mw_14) (ht _ mw_1061) (by decide +kernel) ⟨Nat.le_of_ble_eq_true rfl, Nat.le_of_ble_eq_true rfl⟩, ht _ mw_1063, ht _ ms_32⟩) (vx_preV [0] hK hP hD (by decide) rfl (ci := 12) rfl 0 rfl) rfl rfl hl.1 rfl (lv_room (Nat.le_of_ble_eq_true rfl)) dN_Mod_step_35 ⟨Nat.le_of_ble_eq_true rfl, Nat.le_of_ble_eq_true rfl⟩) (fun r1 w1 H locs hq hP hD hS => ?_)
            obtain ⟨rfl, rfl⟩ := hq
            have hP : va_P D clN [(o, .inr (12, [.int (nI th), .int (nI n), .int (nI b), .ref (q 3), .ref (q 4), .ref (q 5), .ref (q 6), .ref (q 7), .int (nI len), .ref (q 9), .ref (q 10), .ref (q 11), .ref (q 12), .ref (q 13), .ref (q 14), .ref (q 15), .ref (q 16), .ref (q 17), .int (nI tr), .int (nI hi), .ref (q 20), .ref (q 21), .ref (q 22), .ref (q 23), .int (nI ma)])), (q 3, .inl (cI, 200, .inl (ni K))), (q 4, .inl (cI, 200, .inl vI)), (q 5, .inl (cI, 200, .inl fI)), (q 6, .inl (cI, 200, .inl sI))] H := hP.sub [4, 0, 1, 2, 3] rfl
            have hD : va_D A [(o, .inr (12, [.int (nI th), .int (nI n), .int (nI b), .ref (q 3), .ref (q 4), .ref (q 5), .ref (q 6), .ref (q 7), .int (nI len), .ref (q 9), .ref (q 10), .ref (q 11), .ref (q 12), .ref (q 13), .ref (q 14), .ref (q 15), .ref (q 16), .ref (q 17), .int (nI tr), .int (nI hi), .ref (q 20), .ref (q 21), .ref (q 22), .ref (q 23), .int (nI ma)])), (q 3, .inl (cI, 200, .inl (ni K))), (q 4, .inl (cI, 200, .inl vI)), (q 5, .inl (cI, 200, .inl fI)), (q 6, .inl (cI, 200, .inl sI))] := hD.sub [4, 0, 1, 2, 3] (by decide) rfl
            refine xz_ne0 (tgt := 45) hx hb dN_Mod_step_38 (by decide) (fun c_38_31 => ?_) (fun c_38_31 => ?_)
            · skip
              refine lv_iconst (v := (nI 0)) hx hb dN_Mod_step_45 (by decide) ?_
              exact Jj1 (0) _ _ _ ⟨hP, hD, hS, lv_sub hl [0, 1, 2, 3, 4, 5] rfl, by rw [if_neg]; simp only [ixB, c_6_27, decide_eq_false c_10_28, decide_eq_true c_15_29, decide_eq_true c_29_30, c_38_31, Bool.not_true, Bool.not_false, Bool.true_and, Bool.false_and, Bool.true_or, Bool.false_or, Bool.or_true, Bool.or_false, Bool.and_true, Bool.and_false]; decide⟩
            · skip
              refine lv_iconst (v := (nI 1)) hx hb dN_Mod_step_41 (by decide) ?_
              refine lv_goto (tgt := 46) hx hb dN_Mod_step_42 (by decide) ?_
              exact Jj1 (1) _ _ _ ⟨hP, hD, hS, lv_sub hl [0, 1, 2, 3, 4, 5] rfl, by rw [if_pos]; simp only [ixB, c_6_27, decide_eq_false c_10_28, decide_eq_true c_15_29, decide_eq_true c_29_30, c_38_31, Bool.not_true, Bool.not_false, Bool.true_and, Bool.false_and, Bool.true_or, Bool.false_or, Bool.or_true, Bool.or_false, Bool.and_true, Bool.and_false]⟩
        · skip
          refine lv_aload_n hx hb dN_Mod_step_18 rfl (lv_at hl 0 rfl) ?_
          refine lv_iload hx hb dN_Mod_step_19 (lv_at hl 4 rfl) ?_
          refine vx_calli (wc := [(o, .inr (12, [.int (nI th), .int (nI n), .int (nI b), .ref (q 3), .ref (q 4), .ref (q 5), .ref (q 6), .ref (q 7), .int (nI len), .ref (q 9), .ref (q 10), .ref (q 11), .ref (q 12), .ref (q 13), .ref (q 14), .ref (q 15), .ref (q 16), .ref (q 17), .int (nI tr), .int (nI hi), .ref (q 20), .ref (q 21), .ref (q 22), .ref (q 23), .int (nI ma)]))]) (wr := [(q 3, .inl (cI, 200, .inl (ni K))), (q 4, .inl (cI, 200, .inl vI)), (q 5, .inl (cI, 200, .inl fI)), (q 6, .inl (cI, 200, .inl sI))]) [0] [1, 2, 3, 4] hK hP hD hS hA rfl rfl (by decide) (by decide) (va_runV (As := [.int a1]) (rest := [.ref o]) ⟨hx, hb, hml, hown, ht⟩ (kMod_isStep l D cI cZ cJ o q th n b len tr hi ma (a1) _) (⟨callB_of 1 ht (TB_in2 gN_Mod_isStep) rfl rfl rfl (ht _ mw_14) (ht _ mw_1061) (by decide +kernel) ⟨Nat.le_of_ble_eq_true rfl, Nat.le_of_ble_eq_true rfl⟩, ht _ mw_1063, ht _ ms_32⟩) (vx_preV [0] hK hP hD (by decide) rfl (ci := 12) rfl 0 rfl) rfl rfl hl.1 rfl (lv_room (Nat.le_of_ble_eq_true rfl)) dN_Mod_step_21 ⟨Nat.le_of_ble_eq_true rfl, Nat.le_of_ble_eq_true rfl⟩) (fun r1 w1 H locs hq hP hD hS => ?_)
          obtain ⟨rfl, rfl⟩ := hq
          have hP : va_P D clN [(o, .inr (12, [.int (nI th), .int (nI n), .int (nI b), .ref (q 3), .ref (q 4), .ref (q 5), .ref (q 6), .ref (q 7), .int (nI len), .ref (q 9), .ref (q 10), .ref (q 11), .ref (q 12), .ref (q 13), .ref (q 14), .ref (q 15), .ref (q 16), .ref (q 17), .int (nI tr), .int (nI hi), .ref (q 20), .ref (q 21), .ref (q 22), .ref (q 23), .int (nI ma)])), (q 3, .inl (cI, 200, .inl (ni K))), (q 4, .inl (cI, 200, .inl vI)), (q 5, .inl (cI, 200, .inl fI)), (q 6, .inl (cI, 200, .inl sI))] H := hP.sub [4, 0, 1, 2, 3] rfl
          have hD : va_D A [(o, .inr (12, [.int (nI th), .int (nI n), .int (nI b), .ref (q 3), .ref (q 4), .ref (q 5), .ref (q 6), .ref (q 7), .int (nI len), .ref (q 9), .ref (q 10), .ref (q 11), .ref (q 12), .ref (q 13), .ref (q 14), .ref (q 15), .ref (q 16), .ref (q 17), .int (nI tr), .int (nI hi), .ref (q 20), .ref (q 21), .ref (q 22), .ref (q 23), .int (nI ma)])), (q 3, .inl (cI, 200, .inl (ni K))), (q 4, .inl (cI, 200, .inl vI)), (q 5, .inl (cI, 200, .inl fI)), (q 6, .inl (cI, 200, .inl sI))] := hD.sub [4, 0, 1, 2, 3] (by decide) rfl
          refine xz_eq0 (tgt := 41) hx hb dN_Mod_step_24 (by decide) (fun c_24_32 => ?_) (fun c_24_32 => ?_)
          · skip
            refine lv_iconst (v := (nI 1)) hx hb dN_Mod_step_41 (by decide) ?_
            refine lv_goto (tgt := 46) hx hb dN_Mod_step_42 (by decide) ?_
            exact Jj1 (1) _ _ _ ⟨hP, hD, hS, lv_sub hl [0, 1, 2, 3, 4, 5] rfl, by rw [if_pos]; simp only [ixB, c_6_27, decide_eq_false c_10_28, decide_eq_false c_15_29, c_24_32, Bool.not_true, Bool.not_false, Bool.true_and, Bool.false_and, Bool.true_or, Bool.false_or, Bool.or_true, Bool.or_false, Bool.and_true, Bool.and_false]⟩
          · skip
            refine lv_iload_n hx hb dN_Mod_step_27 rfl (lv_at hl 2 rfl) ?_
            refine lv_iconst (v := (nI 2)) hx hb dN_Mod_step_28 (by decide) ?_
            refine lv_icmp_ne (tgt := 45) hx hb dN_Mod_step_29 (by decide) (fun c_29_33 => ?_) (fun c_29_33 => ?_)
            · skip
              refine lv_iconst (v := (nI 0)) hx hb dN_Mod_step_45 (by decide) ?_
              exact Jj1 (0) _ _ _ ⟨hP, hD, hS, lv_sub hl [0, 1, 2, 3, 4, 5] rfl, by rw [if_neg]; simp only [ixB, c_6_27, decide_eq_false c_10_28, decide_eq_false c_15_29, c_24_32, decide_eq_false c_29_33, Bool.not_true, Bool.not_false, Bool.true_and, Bool.false_and, Bool.true_or, Bool.false_or, Bool.or_true, Bool.or_false, Bool.and_true, Bool.and_false]; decide⟩
            · skip
              refine lv_aload_n hx hb dN_Mod_step_32 rfl (lv_at hl 0 rfl) ?_
              refine lv_iload hx hb dN_Mod_step_33 (lv_at hl 5 rfl) ?_
              refine vx_calli (wc := [(o, .inr (12, [.int (nI th), .int (nI n), .int (nI b), .ref (q 3), .ref (q 4), .ref (q 5), .ref (q 6), .ref (q 7), .int (nI len), .ref (q 9), .ref (q 10), .ref (q 11), .ref (q 12), .ref (q 13), .ref (q 14), .ref (q 15), .ref (q 16), .ref (q 17), .int (nI tr), .int (nI hi), .ref (q 20), .ref (q 21), .ref (q 22), .ref (q 23), .int (nI ma)]))]) (wr := [(q 3, .inl (cI, 200, .inl (ni K))), (q 4, .inl (cI, 200, .inl vI)), (q 5, .inl (cI, 200, .inl fI)), (q 6, .inl (cI, 200, .inl sI))]) [0] [1, 2, 3, 4] hK hP hD hS hA rfl rfl (by decide) (by decide) (va_runV (As := [.int b1]) (rest := [.ref o]) ⟨hx, hb, hml, hown, ht⟩ (kMod_isStep l D cI cZ cJ o q th n b len tr hi ma (b1) _) (⟨callB_of 1 ht (TB_in2 gN_Mod_isStep) rfl rfl rfl (ht _ mw_14) (ht _ mw_1061) (by decide +kernel) ⟨Nat.le_of_ble_eq_true rfl, Nat.le_of_ble_eq_true rfl⟩, ht _ mw_1063, ht _ ms_32⟩) (vx_preV [0] hK hP hD (by decide) rfl (ci := 12) rfl 0 rfl) rfl rfl hl.1 rfl (lv_room (Nat.le_of_ble_eq_true rfl)) dN_Mod_step_35 ⟨Nat.le_of_ble_eq_true rfl, Nat.le_of_ble_eq_true rfl⟩) (fun r1 w1 H locs hq hP hD hS => ?_)
              obtain ⟨rfl, rfl⟩ := hq
              have hP : va_P D clN [(o, .inr (12, [.int (nI th), .int (nI n), .int (nI b), .ref (q 3), .ref (q 4), .ref (q 5), .ref (q 6), .ref (q 7), .int (nI len), .ref (q 9), .ref (q 10), .ref (q 11), .ref (q 12), .ref (q 13), .ref (q 14), .ref (q 15), .ref (q 16), .ref (q 17), .int (nI tr), .int (nI hi), .ref (q 20), .ref (q 21), .ref (q 22), .ref (q 23), .int (nI ma)])), (q 3, .inl (cI, 200, .inl (ni K))), (q 4, .inl (cI, 200, .inl vI)), (q 5, .inl (cI, 200, .inl fI)), (q 6, .inl (cI, 200, .inl sI))] H := hP.sub [4, 0, 1, 2, 3] rfl
              have hD : va_D A [(o, .inr (12, [.int (nI th), .int (nI n), .int (nI b), .ref (q 3), .ref (q 4), .ref (q 5), .ref (q 6), .ref (q 7), .int (nI len), .ref (q 9), .ref (q 10), .ref (q 11), .ref (q 12), .ref (q 13), .ref (q 14), .ref (q 15), .ref (q 16), .ref (q 17), .int (nI tr), .int (nI hi), .ref (q 20), .ref (q 21), .ref (q 22), .ref (q 23), .int (nI ma)])), (q 3, .inl (cI, 200, .inl (ni K))), (q 4, .inl (cI, 200, .inl vI)), (q 5, .inl (cI, 200, .inl fI)), (q 6, .inl (cI, 200, .inl sI))] := hD.sub [4, 0, 1, 2, 3] (by decide) rfl
              refine xz_ne0 (tgt := 45) hx hb dN_Mod_step_38 (by decide) (fun c_38_34 => ?_) (fun c_38_34 => ?_)
              · skip
                refine lv_iconst (v := (nI 0)) hx hb dN_Mod_step_45 (by decide) ?_
                exact Jj1 (0) _ _ _ ⟨hP, hD, hS, lv_sub hl [0, 1, 2, 3, 4, 5] rfl, by rw [if_neg]; simp only [ixB, c_6_27, decide_eq_false c_10_28, decide_eq_false c_15_29, c_24_32, decide_eq_true c_29_33, c_38_34, Bool.not_true, Bool.not_false, Bool.true_and, Bool.false_and, Bool.true_or, Bool.false_or, Bool.or_true, Bool.or_false, Bool.and_true, Bool.and_false]; decide⟩
              · skip
                refine lv_iconst (v := (nI 1)) hx hb dN_Mod_step_41 (by decide) ?_
                refine lv_goto (tgt := 46) hx hb dN_Mod_step_42 (by decide) ?_
                exact Jj1 (1) _ _ _ ⟨hP, hD, hS, lv_sub hl [0, 1, 2, 3, 4, 5] rfl, by rw [if_pos]; simp only [ixB, c_6_27, decide_eq_false c_10_28, decide_eq_false c_15_29, c_24_32, decide_eq_true c_29_33, c_38_34, Bool.not_true, Bool.not_false, Bool.true_and, Bool.false_and, Bool.true_or, Bool.false_or, Bool.or_true, Bool.or_false, Bool.and_true, Bool.and_false]⟩
set_option maxHeartbeats 4000000 in
set_option maxRecDepth 100000 in
/-- step, done -/
theorem kMod_step (l : Launch) (D : va_G) (cI cZ cJ : ClassId) (o : Nat) (q : Nat → Nat) (th n b len tr hi ma : Nat) (K : Nat → Nat) (vI fI sI : Nat → Int32) (kx kd v a1 b1 : Int32) (k d : Nat) (hn : n ≤ 200) (hk : k < n) (hd : d < 6) (ekx : kx = nI k) (ekd : kd = nI d) (hok : stT n kx kd v a1 b1 = 0) : vx_Mv l yN_Mod_step wN_Mod_step ({ frames := 1, cells := 0, slots := 0, locals := 30 }) D clN (tyN cI cZ cJ) [.ref o, .int kx, .int kd, .int v, .int a1, .int b1] [(o, .inr (12, [.int (nI th), .int (nI n), .int (nI b), .ref (q 3), .ref (q 4), .ref (q 5), .ref (q 6), .ref (q 7), .int (nI len), .ref (q 9), .ref (q 10), .ref (q 11), .ref (q 12), .ref (q 13), .ref (q 14), .ref (q 15), .ref (q 16), .ref (q 17), .int (nI tr), .int (nI hi), .ref (q 20), .ref (q 21), .ref (q 22), .ref (q 23), .int (nI ma)])), (q 3, .inl (cI, 200, .inl (ni K))), (q 4, .inl (cI, 200, .inl vI)), (q 5, .inl (cI, 200, .inl fI)), (q 6, .inl (cI, 200, .inl sI))] (fun w => w = [(o, .inr (12, [.int (nI 0), .int (nI n), .int (nI b), .ref (q 3), .ref (q 4), .ref (q 5), .ref (q 6), .ref (q 7), .int (nI len), .ref (q 9), .ref (q 10), .ref (q 11), .ref (q 12), .ref (q 13), .ref (q 14), .ref (q 15), .ref (q 16), .ref (q 17), .int (nI tr), .int (nI hi), .ref (q 20), .ref (q 21), .ref (q 22), .ref (q 23), .int (nI ma)])), (q 3, .inl (cI, 200, .inl (ni (un K k d)))), (q 4, .inl (cI, 200, .inl ((upd vI k v)))), (q 5, .inl (cI, 200, .inl ((upd fI k a1)))), (q 6, .inl (cI, 200, .inl ((upd sI k b1))))]) := by
  refine vx_startV (cc := cN_Mod_step) (maxL := 7) (ret := none) (by decide) rfl (Nat.le_of_ble_eq_true rfl) ?_
  intro p_0 e_0 s m below meth c_0 A ls C hK hP hD hS hA hl
  obtain ⟨hx, hb, hr, hml, hown, hts, hlocks, hnm⟩ := id C
  have hown : s.vm.findClass "StepMachinesModel" = some m.cls := hown
  have ht : ∀ w ∈ TB, w.before _ s = true := fun w h => hts w (List.mem_cons_of_mem _ h)
  have hl : lv_has ls 7 [(0, .ref o), (1, .int kx), (2, .int kd), (3, .int v), (4, .int a1), (5, .int b1)] := hl
  refine lv_aload_n hx hb dN_Mod_step_0 rfl (lv_at hl 0 rfl) ?_
  refine lv_aload_n hx hb dN_Mod_step_1 rfl (lv_at hl 0 rfl) ?_
  refine vx_joinH (α := Nat) (fun j1 H locs ls => va_P D clN [(o, .inr (12, [.int (nI th), .int (nI n), .int (nI b), .ref (q 3), .ref (q 4), .ref (q 5), .ref (q 6), .ref (q 7), .int (nI len), .ref (q 9), .ref (q 10), .ref (q 11), .ref (q 12), .ref (q 13), .ref (q 14), .ref (q 15), .ref (q 16), .ref (q 17), .int (nI tr), .int (nI hi), .ref (q 20), .ref (q 21), .ref (q 22), .ref (q 23), .int (nI ma)])), (q 3, .inl (cI, 200, .inl (ni K))), (q 4, .inl (cI, 200, .inl vI)), (q 5, .inl (cI, 200, .inl fI)), (q 6, .inl (cI, 200, .inl sI))] H ∧ va_D A [(o, .inr (12, [.int (nI th), .int (nI n), .int (nI b), .ref (q 3), .ref (q 4), .ref (q 5), .ref (q 6), .ref (q 7), .int (nI len), .ref (q 9), .ref (q 10), .ref (q 11), .ref (q 12), .ref (q 13), .ref (q 14), .ref (q 15), .ref (q 16), .ref (q 17), .int (nI tr), .int (nI hi), .ref (q 20), .ref (q 21), .ref (q 22), .ref (q 23), .int (nI ma)])), (q 3, .inl (cI, 200, .inl (ni K))), (q 4, .inl (cI, 200, .inl vI)), (q 5, .inl (cI, 200, .inl fI)), (q 6, .inl (cI, 200, .inl sI))] ∧ va_S A s.heap H locs ∧ lv_has ls 7 [(0, .ref o), (1, .int kx), (2, .int kd), (3, .int v), (4, .int a1), (5, .int b1)] ∧ (j1 = (if ixB n kx kd a1 b1 = true then 1 else 0))) 46 (fun j1 => [.int (nI j1), .ref o]) (fun j1 H locs ls hq => ?_) (fun Jj1 => ?_)
  · obtain ⟨hP, hD, hS, hl, hj1⟩ := hq
    have hj_t := hj1
    have hjb : j1 ≤ 1 := by rw [hj1]; split <;> omega
    refine va_put (D := D) (ci := 12) (v := .int (nI j1)) (ty := .int) (C := RN_Mod) (T := FN_Mod) (N := 25) hx hb ht fN_Mod tN_Mod oN_Mod nN_Mod hown hK hP hD hS 0 rfl rfl 0 (by decide) (ht _ mw_972) (fun _ h9 => h9) rfl (by decide +kernel) (rfl) (rfl) (Nat.le_of_ble_eq_true rfl) dN_Mod_step_46 (fun H locs hP hD hS => ?_)
    have hP : va_P D clN [(o, .inr (12, [.int (nI j1), .int (nI n), .int (nI b), .ref (q 3), .ref (q 4), .ref (q 5), .ref (q 6), .ref (q 7), .int (nI len), .ref (q 9), .ref (q 10), .ref (q 11), .ref (q 12), .ref (q 13), .ref (q 14), .ref (q 15), .ref (q 16), .ref (q 17), .int (nI tr), .int (nI hi), .ref (q 20), .ref (q 21), .ref (q 22), .ref (q 23), .int (nI ma)])), (q 3, .inl (cI, 200, .inl (ni K))), (q 4, .inl (cI, 200, .inl vI)), (q 5, .inl (cI, 200, .inl fI)), (q 6, .inl (cI, 200, .inl sI))] H := hP
    have hD : va_D A [(o, .inr (12, [.int (nI j1), .int (nI n), .int (nI b), .ref (q 3), .ref (q 4), .ref (q 5), .ref (q 6), .ref (q 7), .int (nI len), .ref (q 9), .ref (q 10), .ref (q 11), .ref (q 12), .ref (q 13), .ref (q 14), .ref (q 15), .ref (q 16), .ref (q 17), .int (nI tr), .int (nI hi), .ref (q 20), .ref (q 21), .ref (q 22), .ref (q 23), .int (nI ma)])), (q 3, .inl (cI, 200, .inl (ni K))), (q 4, .inl (cI, 200, .inl vI)), (q 5, .inl (cI, 200, .inl fI)), (q 6, .inl (cI, 200, .inl sI))] := hD
    refine vx_join (α := Bool) (fun j2 => j2 = gdB kd v) (fun j2 => F0 m 123 ls [.int (zi j2)]) (fun j2 hj2 => ?_) (fun Jj2 => ?_)
    · skip
      have hj_g := hj2
      refine lv_istore (lv' := [(6, .int (zi j2)), (0, .ref o), (1, .int kx), (2, .int kd), (3, .int v), (4, .int a1), (5, .int b1)]) hx hb dN_Mod_step_123 hl (by decide) rfl (fun ls hl => ?_)
      refine lv_aload_n hx hb dN_Mod_step_125 rfl (lv_at hl 1 rfl) ?_
      refine va_get (D := D) (ci := 12) (v := .int (nI j1)) (C := RN_Mod) (T := FN_Mod) (N := 25) hx hb ht fN_Mod hown hK hP 0 rfl rfl 0 (by decide) (ht _ mw_972) (fun _ h9 => h9) rfl dN_Mod_step_126 ?_
      refine xn_ne0 (tgt := 142) hx hb dN_Mod_step_129 (by decide) (by omega) (fun c_129_2 => ?_) (fun c_129_2 => ?_)
      · skip
        exact absurd hok (by rw [st_1 (by by_cases h9 : ixB n kx kd a1 b1 = true; (exact h9); (rw [if_neg h9] at hj_t; exact absurd hj_t c_129_2))]; decide)
      · skip
        refine lv_iload hx hb dN_Mod_step_132 (lv_at hl 0 rfl) ?_
        refine xz_ne0 (tgt := 142) hx hb dN_Mod_step_134 (by decide) (fun c_134_3 => ?_) (fun c_134_3 => ?_)
        · skip
          refine lv_aload_n hx hb dN_Mod_step_142 rfl (lv_at hl 1 rfl) ?_
          refine va_get (D := D) (ci := 12) (v := .int (nI j1)) (C := RN_Mod) (T := FN_Mod) (N := 25) hx hb ht fN_Mod hown hK hP 0 rfl rfl 0 (by decide) (ht _ mw_972) (fun _ h9 => h9) rfl dN_Mod_step_143 ?_
          refine xn_le0 (tgt := 150) hx hb dN_Mod_step_146 (by decide) (by omega) (fun c_146_4 => ?_) (fun c_146_4 => ?_)
          · skip
            have hl : lv_has ls 7 [(6, .int (zi j2)), (0, .ref o), (1, .int (nI k)), (2, .int (nI d)), (3, .int v), (4, .int a1), (5, .int b1)] := by rw [ekx, ekd] at hl; exact hl
            refine lv_aload_n hx hb dN_Mod_step_150 rfl (lv_at hl 1 rfl) ?_
            refine va_get (D := D) (ci := 12) (v := .ref (q 3)) (C := RN_Mod) (T := FN_Mod) (N := 25) hx hb ht fN_Mod hown hK hP 0 rfl rfl 3 (by decide) (ht _ mw_975) (fun _ h9 => h9) rfl dN_Mod_step_151 ?_
            refine lv_iload_n hx hb dN_Mod_step_154 rfl (lv_at hl 2 rfl) ?_
            refine lv_iload_n hx hb dN_Mod_step_155 rfl (lv_at hl 3 rfl) ?_
            refine xn_ast hx hb hK hP hD hS 1 0 rfl rfl dN_Mod_step_156 (by omega) (by omega) (fun H locs hP hD hS => ?_)
            have hP : va_P D clN [(o, .inr (12, [.int (nI j1), .int (nI n), .int (nI b), .ref (q 3), .ref (q 4), .ref (q 5), .ref (q 6), .ref (q 7), .int (nI len), .ref (q 9), .ref (q 10), .ref (q 11), .ref (q 12), .ref (q 13), .ref (q 14), .ref (q 15), .ref (q 16), .ref (q 17), .int (nI tr), .int (nI hi), .ref (q 20), .ref (q 21), .ref (q 22), .ref (q 23), .int (nI ma)])), (q 3, .inl (cI, 200, .inl (ni (un K k d)))), (q 4, .inl (cI, 200, .inl vI)), (q 5, .inl (cI, 200, .inl fI)), (q 6, .inl (cI, 200, .inl sI))] H := hP
            have hD : va_D A [(o, .inr (12, [.int (nI j1), .int (nI n), .int (nI b), .ref (q 3), .ref (q 4), .ref (q 5), .ref (q 6), .ref (q 7), .int (nI len), .ref (q 9), .ref (q 10), .ref (q 11), .ref (q 12), .ref (q 13), .ref (q 14), .ref (q 15), .ref (q 16), .ref (q 17), .int (nI tr), .int (nI hi), .ref (q 20), .ref (q 21), .ref (q 22), .ref (q 23), .int (nI ma)])), (q 3, .inl (cI, 200, .inl (ni (un K k d)))), (q 4, .inl (cI, 200, .inl vI)), (q 5, .inl (cI, 200, .inl fI)), (q 6, .inl (cI, 200, .inl sI))] := hD
            refine lv_aload_n hx hb dN_Mod_step_157 rfl (lv_at hl 1 rfl) ?_
            refine va_get (D := D) (ci := 12) (v := .ref (q 4)) (C := RN_Mod) (T := FN_Mod) (N := 25) hx hb ht fN_Mod hown hK hP 0 rfl rfl 4 (by decide) (ht _ mw_976) (fun _ h9 => h9) rfl dN_Mod_step_158 ?_
            refine lv_iload_n hx hb dN_Mod_step_161 rfl (lv_at hl 2 rfl) ?_
            refine lv_iload_n hx hb dN_Mod_step_162 rfl (lv_at hl 4 rfl) ?_
            refine xi_ast hx hb hK hP hD hS 2 0 rfl rfl dN_Mod_step_163 (by omega) (by omega) (fun H locs hP hD hS => ?_)
            have hP : va_P D clN [(o, .inr (12, [.int (nI j1), .int (nI n), .int (nI b), .ref (q 3), .ref (q 4), .ref (q 5), .ref (q 6), .ref (q 7), .int (nI len), .ref (q 9), .ref (q 10), .ref (q 11), .ref (q 12), .ref (q 13), .ref (q 14), .ref (q 15), .ref (q 16), .ref (q 17), .int (nI tr), .int (nI hi), .ref (q 20), .ref (q 21), .ref (q 22), .ref (q 23), .int (nI ma)])), (q 3, .inl (cI, 200, .inl (ni (un K k d)))), (q 4, .inl (cI, 200, .inl ((upd vI k v)))), (q 5, .inl (cI, 200, .inl fI)), (q 6, .inl (cI, 200, .inl sI))] H := hP
            have hD : va_D A [(o, .inr (12, [.int (nI j1), .int (nI n), .int (nI b), .ref (q 3), .ref (q 4), .ref (q 5), .ref (q 6), .ref (q 7), .int (nI len), .ref (q 9), .ref (q 10), .ref (q 11), .ref (q 12), .ref (q 13), .ref (q 14), .ref (q 15), .ref (q 16), .ref (q 17), .int (nI tr), .int (nI hi), .ref (q 20), .ref (q 21), .ref (q 22), .ref (q 23), .int (nI ma)])), (q 3, .inl (cI, 200, .inl (ni (un K k d)))), (q 4, .inl (cI, 200, .inl ((upd vI k v)))), (q 5, .inl (cI, 200, .inl fI)), (q 6, .inl (cI, 200, .inl sI))] := hD
            refine lv_aload_n hx hb dN_Mod_step_164 rfl (lv_at hl 1 rfl) ?_
            refine va_get (D := D) (ci := 12) (v := .ref (q 5)) (C := RN_Mod) (T := FN_Mod) (N := 25) hx hb ht fN_Mod hown hK hP 0 rfl rfl 5 (by decide) (ht _ mw_977) (fun _ h9 => h9) rfl dN_Mod_step_165 ?_
            refine lv_iload_n hx hb dN_Mod_step_168 rfl (lv_at hl 2 rfl) ?_
            refine lv_iload hx hb dN_Mod_step_169 (lv_at hl 5 rfl) ?_
            refine xi_ast hx hb hK hP hD hS 3 0 rfl rfl dN_Mod_step_171 (by omega) (by omega) (fun H locs hP hD hS => ?_)
            have hP : va_P D clN [(o, .inr (12, [.int (nI j1), .int (nI n), .int (nI b), .ref (q 3), .ref (q 4), .ref (q 5), .ref (q 6), .ref (q 7), .int (nI len), .ref (q 9), .ref (q 10), .ref (q 11), .ref (q 12), .ref (q 13), .ref (q 14), .ref (q 15), .ref (q 16), .ref (q 17), .int (nI tr), .int (nI hi), .ref (q 20), .ref (q 21), .ref (q 22), .ref (q 23), .int (nI ma)])), (q 3, .inl (cI, 200, .inl (ni (un K k d)))), (q 4, .inl (cI, 200, .inl ((upd vI k v)))), (q 5, .inl (cI, 200, .inl ((upd fI k a1)))), (q 6, .inl (cI, 200, .inl sI))] H := hP
            have hD : va_D A [(o, .inr (12, [.int (nI j1), .int (nI n), .int (nI b), .ref (q 3), .ref (q 4), .ref (q 5), .ref (q 6), .ref (q 7), .int (nI len), .ref (q 9), .ref (q 10), .ref (q 11), .ref (q 12), .ref (q 13), .ref (q 14), .ref (q 15), .ref (q 16), .ref (q 17), .int (nI tr), .int (nI hi), .ref (q 20), .ref (q 21), .ref (q 22), .ref (q 23), .int (nI ma)])), (q 3, .inl (cI, 200, .inl (ni (un K k d)))), (q 4, .inl (cI, 200, .inl ((upd vI k v)))), (q 5, .inl (cI, 200, .inl ((upd fI k a1)))), (q 6, .inl (cI, 200, .inl sI))] := hD
            refine lv_aload_n hx hb dN_Mod_step_172 rfl (lv_at hl 1 rfl) ?_
            refine va_get (D := D) (ci := 12) (v := .ref (q 6)) (C := RN_Mod) (T := FN_Mod) (N := 25) hx hb ht fN_Mod hown hK hP 0 rfl rfl 6 (by decide) (ht _ mw_978) (fun _ h9 => h9) rfl dN_Mod_step_173 ?_
            refine lv_iload_n hx hb dN_Mod_step_176 rfl (lv_at hl 2 rfl) ?_
            refine lv_iload hx hb dN_Mod_step_177 (lv_at hl 6 rfl) ?_
            refine xi_ast hx hb hK hP hD hS 4 0 rfl rfl dN_Mod_step_179 (by omega) (by omega) (fun H locs hP hD hS => ?_)
            have hP : va_P D clN [(o, .inr (12, [.int (nI j1), .int (nI n), .int (nI b), .ref (q 3), .ref (q 4), .ref (q 5), .ref (q 6), .ref (q 7), .int (nI len), .ref (q 9), .ref (q 10), .ref (q 11), .ref (q 12), .ref (q 13), .ref (q 14), .ref (q 15), .ref (q 16), .ref (q 17), .int (nI tr), .int (nI hi), .ref (q 20), .ref (q 21), .ref (q 22), .ref (q 23), .int (nI ma)])), (q 3, .inl (cI, 200, .inl (ni (un K k d)))), (q 4, .inl (cI, 200, .inl ((upd vI k v)))), (q 5, .inl (cI, 200, .inl ((upd fI k a1)))), (q 6, .inl (cI, 200, .inl ((upd sI k b1))))] H := hP
            have hD : va_D A [(o, .inr (12, [.int (nI j1), .int (nI n), .int (nI b), .ref (q 3), .ref (q 4), .ref (q 5), .ref (q 6), .ref (q 7), .int (nI len), .ref (q 9), .ref (q 10), .ref (q 11), .ref (q 12), .ref (q 13), .ref (q 14), .ref (q 15), .ref (q 16), .ref (q 17), .int (nI tr), .int (nI hi), .ref (q 20), .ref (q 21), .ref (q 22), .ref (q 23), .int (nI ma)])), (q 3, .inl (cI, 200, .inl (ni (un K k d)))), (q 4, .inl (cI, 200, .inl ((upd vI k v)))), (q 5, .inl (cI, 200, .inl ((upd fI k a1)))), (q 6, .inl (cI, 200, .inl ((upd sI k b1))))] := hD
            exact vx_vret C hK hP hD hS dN_Mod_step_180 (Nat.le_of_ble_eq_true rfl) (Nat.le_of_ble_eq_true rfl) (by rw [c_129_2])
          · skip
            exact absurd c_146_4 (by omega)
        · skip
          exact absurd hok (by rw [st_2 (fun h9 => by rw [if_pos h9] at hj_t; omega) (by rw [← hj_g]; exact c_134_3)]; decide)
    · skip
      refine lv_iload_n hx hb dN_Mod_step_49 rfl (lv_at hl 2 rfl) ?_
      refine lv_iconst (v := (nI 2)) hx hb dN_Mod_step_50 (by decide) ?_
      refine lv_icmp_eq (tgt := 118) hx hb dN_Mod_step_51 (by decide) (fun c_51_5 => ?_) (fun c_51_5 => ?_)
      · skip
        refine lv_iconst (v := (zi true)) hx hb dN_Mod_step_118 (by decide) ?_
        refine lv_goto (tgt := 123) hx hb dN_Mod_step_119 (by decide) ?_
        exact Jj2 (true) (by simp only [gdB, decide_eq_true c_51_5, Bool.not_true, Bool.not_false, Bool.true_and, Bool.false_and, Bool.true_or, Bool.false_or, Bool.or_true, Bool.or_false, Bool.and_true, Bool.and_false])
      · skip
        refine lv_iload_n hx hb dN_Mod_step_54 rfl (lv_at hl 2 rfl) ?_
        refine lv_iconst (v := (nI 5)) hx hb dN_Mod_step_55 (by decide) ?_
        refine lv_icmp_eq (tgt := 118) hx hb dN_Mod_step_56 (by decide) (fun c_56_6 => ?_) (fun c_56_6 => ?_)
        · skip
          refine lv_iconst (v := (zi true)) hx hb dN_Mod_step_118 (by decide) ?_
          refine lv_goto (tgt := 123) hx hb dN_Mod_step_119 (by decide) ?_
          exact Jj2 (true) (by simp only [gdB, decide_eq_false c_51_5, decide_eq_true c_56_6, Bool.not_true, Bool.not_false, Bool.true_and, Bool.false_and, Bool.true_or, Bool.false_or, Bool.or_true, Bool.or_false, Bool.and_true, Bool.and_false])
        · skip
          refine lv_iload_n hx hb dN_Mod_step_59 rfl (lv_at hl 2 rfl) ?_
          refine lv_iconst (v := (nI 1)) hx hb dN_Mod_step_60 (by decide) ?_
          refine lv_icmp_ne (tgt := 87) hx hb dN_Mod_step_61 (by decide) (fun c_61_7 => ?_) (fun c_61_7 => ?_)
          · skip
            refine lv_iload_n hx hb dN_Mod_step_87 rfl (lv_at hl 2 rfl) ?_
            refine lv_iconst (v := (nI 3)) hx hb dN_Mod_step_88 (by decide) ?_
            refine lv_icmp_ne (tgt := 103) hx hb dN_Mod_step_89 (by decide) (fun c_89_8 => ?_) (fun c_89_8 => ?_)
            · skip
              refine lv_iload_n hx hb dN_Mod_step_103 rfl (lv_at hl 2 rfl) ?_
              refine lv_iconst (v := (nI 4)) hx hb dN_Mod_step_104 (by decide) ?_
              refine lv_icmp_ne (tgt := 122) hx hb dN_Mod_step_105 (by decide) (fun c_105_9 => ?_) (fun c_105_9 => ?_)
              · skip
                refine lv_iconst (v := (zi false)) hx hb dN_Mod_step_122 (by decide) ?_
                exact Jj2 (false) (by simp only [gdB, decide_eq_false c_51_5, decide_eq_false c_56_6, decide_eq_false c_61_7, decide_eq_false c_89_8, decide_eq_false c_105_9, Bool.not_true, Bool.not_false, Bool.true_and, Bool.false_and, Bool.true_or, Bool.false_or, Bool.or_true, Bool.or_false, Bool.and_true, Bool.and_false])
              · skip
                refine lv_iload_n hx hb dN_Mod_step_108 rfl (lv_at hl 3 rfl) ?_
                refine lv_if_lt (tgt := 122) hx hb dN_Mod_step_109 (by decide) (fun c_109_10 => ?_) (fun c_109_10 => ?_)
                · skip
                  refine lv_iconst (v := (zi false)) hx hb dN_Mod_step_122 (by decide) ?_
                  exact Jj2 (false) (by simp only [gdB, decide_eq_false c_51_5, decide_eq_false c_56_6, decide_eq_false c_61_7, decide_eq_false c_89_8, decide_eq_true c_105_9, decide_eq_true c_109_10, Bool.not_true, Bool.not_false, Bool.true_and, Bool.false_and, Bool.true_or, Bool.false_or, Bool.or_true, Bool.or_false, Bool.and_true, Bool.and_false])
                · skip
                  refine lv_iload_n hx hb dN_Mod_step_112 rfl (lv_at hl 3 rfl) ?_
                  refine lv_bipush (v := (nI 6)) hx hb dN_Mod_step_113 (by decide) ?_
                  refine lv_icmp_ge (tgt := 122) hx hb dN_Mod_step_115 (by decide) (fun c_115_11 => ?_) (fun c_115_11 => ?_)
                  · skip
                    refine lv_iconst (v := (zi false)) hx hb dN_Mod_step_122 (by decide) ?_
                    exact Jj2 (false) (by simp only [gdB, decide_eq_false c_51_5, decide_eq_false c_56_6, decide_eq_false c_61_7, decide_eq_false c_89_8, decide_eq_true c_105_9, decide_eq_false c_109_10, decide_eq_true c_115_11, Bool.not_true, Bool.not_false, Bool.true_and, Bool.false_and, Bool.true_or, Bool.false_or, Bool.or_true, Bool.or_false, Bool.and_true, Bool.and_false])
                  · skip
                    refine lv_iconst (v := (zi true)) hx hb dN_Mod_step_118 (by decide) ?_
                    refine lv_goto (tgt := 123) hx hb dN_Mod_step_119 (by decide) ?_
                    exact Jj2 (true) (by simp only [gdB, decide_eq_false c_51_5, decide_eq_false c_56_6, decide_eq_false c_61_7, decide_eq_false c_89_8, decide_eq_true c_105_9, decide_eq_false c_109_10, decide_eq_false c_115_11, Bool.not_true, Bool.not_false, Bool.true_and, Bool.false_and, Bool.true_or, Bool.false_or, Bool.or_true, Bool.or_false, Bool.and_true, Bool.and_false])
            · skip
              refine lv_iload_n hx hb dN_Mod_step_92 rfl (lv_at hl 3 rfl) ?_
              refine lv_iconst (v := (nI 2)) hx hb dN_Mod_step_93 (by decide) ?_
              refine lv_icmp_lt (tgt := 103) hx hb dN_Mod_step_94 (by decide) (fun c_94_12 => ?_) (fun c_94_12 => ?_)
              · skip
                refine lv_iload_n hx hb dN_Mod_step_103 rfl (lv_at hl 2 rfl) ?_
                refine lv_iconst (v := (nI 4)) hx hb dN_Mod_step_104 (by decide) ?_
                refine lv_icmp_ne (tgt := 122) hx hb dN_Mod_step_105 (by decide) (fun c_105_13 => ?_) (fun c_105_13 => ?_)
                · skip
                  refine lv_iconst (v := (zi false)) hx hb dN_Mod_step_122 (by decide) ?_
                  exact Jj2 (false) (by simp only [gdB, decide_eq_false c_51_5, decide_eq_false c_56_6, decide_eq_false c_61_7, decide_eq_true c_89_8, decide_eq_true c_94_12, decide_eq_false c_105_13, Bool.not_true, Bool.not_false, Bool.true_and, Bool.false_and, Bool.true_or, Bool.false_or, Bool.or_true, Bool.or_false, Bool.and_true, Bool.and_false])
                · skip
                  exact absurd (c_89_8.symm.trans c_105_13) (by decide)
              · skip
                refine lv_iload_n hx hb dN_Mod_step_97 rfl (lv_at hl 3 rfl) ?_
                refine lv_bipush (v := (nI 20)) hx hb dN_Mod_step_98 (by decide) ?_
                refine lv_icmp_lt (tgt := 118) hx hb dN_Mod_step_100 (by decide) (fun c_100_14 => ?_) (fun c_100_14 => ?_)
                · skip
                  refine lv_iconst (v := (zi true)) hx hb dN_Mod_step_118 (by decide) ?_
                  refine lv_goto (tgt := 123) hx hb dN_Mod_step_119 (by decide) ?_
                  exact Jj2 (true) (by simp only [gdB, decide_eq_false c_51_5, decide_eq_false c_56_6, decide_eq_false c_61_7, decide_eq_true c_89_8, decide_eq_false c_94_12, decide_eq_true c_100_14, Bool.not_true, Bool.not_false, Bool.true_and, Bool.false_and, Bool.true_or, Bool.false_or, Bool.or_true, Bool.or_false, Bool.and_true, Bool.and_false])
                · skip
                  refine lv_iload_n hx hb dN_Mod_step_103 rfl (lv_at hl 2 rfl) ?_
                  refine lv_iconst (v := (nI 4)) hx hb dN_Mod_step_104 (by decide) ?_
                  refine lv_icmp_ne (tgt := 122) hx hb dN_Mod_step_105 (by decide) (fun c_105_15 => ?_) (fun c_105_15 => ?_)
                  · skip
                    refine lv_iconst (v := (zi false)) hx hb dN_Mod_step_122 (by decide) ?_
                    exact Jj2 (false) (by simp only [gdB, decide_eq_false c_51_5, decide_eq_false c_56_6, decide_eq_false c_61_7, decide_eq_true c_89_8, decide_eq_false c_94_12, decide_eq_false c_100_14, decide_eq_false c_105_15, Bool.not_true, Bool.not_false, Bool.true_and, Bool.false_and, Bool.true_or, Bool.false_or, Bool.or_true, Bool.or_false, Bool.and_true, Bool.and_false])
                  · skip
                    exact absurd (c_89_8.symm.trans c_105_15) (by decide)
          · skip
            refine lv_iload_n hx hb dN_Mod_step_64 rfl (lv_at hl 3 rfl) ?_
            refine lv_if_lt (tgt := 87) hx hb dN_Mod_step_65 (by decide) (fun c_65_16 => ?_) (fun c_65_16 => ?_)
            · skip
              refine lv_iload_n hx hb dN_Mod_step_87 rfl (lv_at hl 2 rfl) ?_
              refine lv_iconst (v := (nI 3)) hx hb dN_Mod_step_88 (by decide) ?_
              refine lv_icmp_ne (tgt := 103) hx hb dN_Mod_step_89 (by decide) (fun c_89_17 => ?_) (fun c_89_17 => ?_)
              · skip
                refine lv_iload_n hx hb dN_Mod_step_103 rfl (lv_at hl 2 rfl) ?_
                refine lv_iconst (v := (nI 4)) hx hb dN_Mod_step_104 (by decide) ?_
                refine lv_icmp_ne (tgt := 122) hx hb dN_Mod_step_105 (by decide) (fun c_105_18 => ?_) (fun c_105_18 => ?_)
                · skip
                  refine lv_iconst (v := (zi false)) hx hb dN_Mod_step_122 (by decide) ?_
                  exact Jj2 (false) (by simp only [gdB, decide_eq_false c_51_5, decide_eq_false c_56_6, decide_eq_true c_61_7, decide_eq_true c_65_16, decide_eq_false c_89_17, decide_eq_false c_105_18, Bool.not_true, Bool.not_false, Bool.true_and, Bool.false_and, Bool.true_or, Bool.false_or, Bool.or_true, Bool.or_false, Bool.and_true, Bool.and_false])
                · skip
                  exact absurd (c_61_7.symm.trans c_105_18) (by decide)
              · skip
                exact absurd (c_61_7.symm.trans c_89_17) (by decide)
            · skip
              refine lv_iload_n hx hb dN_Mod_step_68 rfl (lv_at hl 3 rfl) ?_
              refine lv_ldc (v := nI 65536) hx hb hown (ht _ mw_1065) dN_Mod_step_69 ?_
              refine lv_icmp_ge (tgt := 87) hx hb dN_Mod_step_71 (by decide) (fun c_71_19 => ?_) (fun c_71_19 => ?_)
              · skip
                refine lv_iload_n hx hb dN_Mod_step_87 rfl (lv_at hl 2 rfl) ?_
                refine lv_iconst (v := (nI 3)) hx hb dN_Mod_step_88 (by decide) ?_
                refine lv_icmp_ne (tgt := 103) hx hb dN_Mod_step_89 (by decide) (fun c_89_20 => ?_) (fun c_89_20 => ?_)
                · skip
                  refine lv_iload_n hx hb dN_Mod_step_103 rfl (lv_at hl 2 rfl) ?_
                  refine lv_iconst (v := (nI 4)) hx hb dN_Mod_step_104 (by decide) ?_
                  refine lv_icmp_ne (tgt := 122) hx hb dN_Mod_step_105 (by decide) (fun c_105_21 => ?_) (fun c_105_21 => ?_)
                  · skip
                    refine lv_iconst (v := (zi false)) hx hb dN_Mod_step_122 (by decide) ?_
                    exact Jj2 (false) (by simp only [gdB, decide_eq_false c_51_5, decide_eq_false c_56_6, decide_eq_true c_61_7, decide_eq_false c_65_16, decide_eq_true c_71_19, decide_eq_false c_89_20, decide_eq_false c_105_21, Bool.not_true, Bool.not_false, Bool.true_and, Bool.false_and, Bool.true_or, Bool.false_or, Bool.or_true, Bool.or_false, Bool.and_true, Bool.and_false])
                  · skip
                    exact absurd (c_61_7.symm.trans c_105_21) (by decide)
                · skip
                  exact absurd (c_61_7.symm.trans c_89_20) (by decide)
              · skip
                refine lv_iload_n hx hb dN_Mod_step_74 rfl (lv_at hl 3 rfl) ?_
                refine lv_sipush (v := (nI 256)) hx hb dN_Mod_step_75 (by decide) ?_
                refine lv_idiv hx hb dN_Mod_step_78 (by decide) ?_
                refine lv_iload_n hx hb dN_Mod_step_79 rfl (lv_at hl 3 rfl) ?_
                refine lv_sipush (v := (nI 256)) hx hb dN_Mod_step_80 (by decide) ?_
                refine lv_irem hx hb dN_Mod_step_83 (by decide) ?_
                refine lv_icmp_le (tgt := 118) hx hb dN_Mod_step_84 (by decide) (fun c_84_22 => ?_) (fun c_84_22 => ?_)
                · skip
                  refine lv_iconst (v := (zi true)) hx hb dN_Mod_step_118 (by decide) ?_
                  refine lv_goto (tgt := 123) hx hb dN_Mod_step_119 (by decide) ?_
                  exact Jj2 (true) (by simp only [gdB, decide_eq_false c_51_5, decide_eq_false c_56_6, decide_eq_true c_61_7, decide_eq_false c_65_16, decide_eq_false c_71_19, decide_eq_true c_84_22, Bool.not_true, Bool.not_false, Bool.true_and, Bool.false_and, Bool.true_or, Bool.false_or, Bool.or_true, Bool.or_false, Bool.and_true, Bool.and_false])
                · skip
                  refine lv_iload_n hx hb dN_Mod_step_87 rfl (lv_at hl 2 rfl) ?_
                  refine lv_iconst (v := (nI 3)) hx hb dN_Mod_step_88 (by decide) ?_
                  refine lv_icmp_ne (tgt := 103) hx hb dN_Mod_step_89 (by decide) (fun c_89_23 => ?_) (fun c_89_23 => ?_)
                  · skip
                    refine lv_iload_n hx hb dN_Mod_step_103 rfl (lv_at hl 2 rfl) ?_
                    refine lv_iconst (v := (nI 4)) hx hb dN_Mod_step_104 (by decide) ?_
                    refine lv_icmp_ne (tgt := 122) hx hb dN_Mod_step_105 (by decide) (fun c_105_24 => ?_) (fun c_105_24 => ?_)
                    · skip
                      refine lv_iconst (v := (zi false)) hx hb dN_Mod_step_122 (by decide) ?_
                      exact Jj2 (false) (by simp only [gdB, decide_eq_false c_51_5, decide_eq_false c_56_6, decide_eq_true c_61_7, decide_eq_false c_65_16, decide_eq_false c_71_19, decide_eq_false c_84_22, decide_eq_false c_89_23, decide_eq_false c_105_24, Bool.not_true, Bool.not_false, Bool.true_and, Bool.false_and, Bool.true_or, Bool.false_or, Bool.or_true, Bool.or_false, Bool.and_true, Bool.and_false])
                    · skip
                      exact absurd (c_61_7.symm.trans c_105_24) (by decide)
                  · skip
                    exact absurd (c_61_7.symm.trans c_89_23) (by decide)
  · skip
    refine lv_iload_n hx hb dN_Mod_step_2 rfl (lv_at hl 1 rfl) ?_
    refine vx_calli (wc := [(o, .inr (12, [.int (nI th), .int (nI n), .int (nI b), .ref (q 3), .ref (q 4), .ref (q 5), .ref (q 6), .ref (q 7), .int (nI len), .ref (q 9), .ref (q 10), .ref (q 11), .ref (q 12), .ref (q 13), .ref (q 14), .ref (q 15), .ref (q 16), .ref (q 17), .int (nI tr), .int (nI hi), .ref (q 20), .ref (q 21), .ref (q 22), .ref (q 23), .int (nI ma)]))]) (wr := [(q 3, .inl (cI, 200, .inl (ni K))), (q 4, .inl (cI, 200, .inl vI)), (q 5, .inl (cI, 200, .inl fI)), (q 6, .inl (cI, 200, .inl sI))]) [0] [1, 2, 3, 4] hK hP hD hS hA rfl rfl (by decide) (by decide) (va_runV (As := [.int kx]) (rest := [.ref o]) ⟨hx, hb, hml, hown, ht⟩ (kMod_isStep l D cI cZ cJ o q th n b len tr hi ma (kx) _) (⟨callB_of 1 ht (TB_in2 gN_Mod_isStep) rfl rfl rfl (ht _ mw_14) (ht _ mw_1061) (by decide +kernel) ⟨Nat.le_of_ble_eq_true rfl, Nat.le_of_ble_eq_true rfl⟩, ht _ mw_1063, ht _ ms_32⟩) (vx_preV [0] hK hP hD (by decide) rfl (ci := 12) rfl 0 rfl) rfl rfl hl.1 rfl (lv_room (Nat.le_of_ble_eq_true rfl)) dN_Mod_step_3 ⟨Nat.le_of_ble_eq_true rfl, Nat.le_of_ble_eq_true rfl⟩) (fun r1 w1 H locs hq hP hD hS => ?_)
    obtain ⟨rfl, rfl⟩ := hq
    have hP : va_P D clN [(o, .inr (12, [.int (nI th), .int (nI n), .int (nI b), .ref (q 3), .ref (q 4), .ref (q 5), .ref (q 6), .ref (q 7), .int (nI len), .ref (q 9), .ref (q 10), .ref (q 11), .ref (q 12), .ref (q 13), .ref (q 14), .ref (q 15), .ref (q 16), .ref (q 17), .int (nI tr), .int (nI hi), .ref (q 20), .ref (q 21), .ref (q 22), .ref (q 23), .int (nI ma)])), (q 3, .inl (cI, 200, .inl (ni K))), (q 4, .inl (cI, 200, .inl vI)), (q 5, .inl (cI, 200, .inl fI)), (q 6, .inl (cI, 200, .inl sI))] H := hP.sub [4, 0, 1, 2, 3] rfl
    have hD : va_D A [(o, .inr (12, [.int (nI th), .int (nI n), .int (nI b), .ref (q 3), .ref (q 4), .ref (q 5), .ref (q 6), .ref (q 7), .int (nI len), .ref (q 9), .ref (q 10), .ref (q 11), .ref (q 12), .ref (q 13), .ref (q 14), .ref (q 15), .ref (q 16), .ref (q 17), .int (nI tr), .int (nI hi), .ref (q 20), .ref (q 21), .ref (q 22), .ref (q 23), .int (nI ma)])), (q 3, .inl (cI, 200, .inl (ni K))), (q 4, .inl (cI, 200, .inl vI)), (q 5, .inl (cI, 200, .inl fI)), (q 6, .inl (cI, 200, .inl sI))] := hD.sub [4, 0, 1, 2, 3] (by decide) rfl
    refine xz_eq0 (tgt := 41) hx hb dN_Mod_step_6 (by decide) (fun c_6_25 => ?_) (fun c_6_25 => ?_)
    · skip
      refine lv_iconst (v := (nI 1)) hx hb dN_Mod_step_41 (by decide) ?_
      refine lv_goto (tgt := 46) hx hb dN_Mod_step_42 (by decide) ?_
      exact Jj1 (1) _ _ _ ⟨hP, hD, hS, lv_sub hl [0, 1, 2, 3, 4, 5] rfl, by rw [if_pos]; simp only [ixB, c_6_25, Bool.not_true, Bool.not_false, Bool.true_and, Bool.false_and, Bool.true_or, Bool.false_or, Bool.or_true, Bool.or_false, Bool.and_true, Bool.and_false]⟩
    · skip
      refine lv_iload_n hx hb dN_Mod_step_9 rfl (lv_at hl 1 rfl) ?_
      refine lv_if_eq (tgt := 41) hx hb dN_Mod_step_10 (by decide) (fun c_10_26 => ?_) (fun c_10_26 => ?_)
      · skip
        refine lv_iconst (v := (nI 1)) hx hb dN_Mod_step_41 (by decide) ?_
        refine lv_goto (tgt := 46) hx hb dN_Mod_step_42 (by decide) ?_
        exact Jj1 (1) _ _ _ ⟨hP, hD, hS, lv_sub hl [0, 1, 2, 3, 4, 5] rfl, by rw [if_pos]; simp only [ixB, c_6_25, decide_eq_true c_10_26, Bool.not_true, Bool.not_false, Bool.true_and, Bool.false_and, Bool.true_or, Bool.false_or, Bool.or_true, Bool.or_false, Bool.and_true, Bool.and_false]⟩
      · skip
        refine lv_iload_n hx hb dN_Mod_step_13 rfl (lv_at hl 2 rfl) ?_
        refine lv_iconst (v := (nI 5)) hx hb dN_Mod_step_14 (by decide) ?_
        refine lv_icmp_eq (tgt := 27) hx hb dN_Mod_step_15 (by decide) (fun c_15_27 => ?_) (fun c_15_27 => ?_)
        · skip
          refine lv_iload_n hx hb dN_Mod_step_27 rfl (lv_at hl 2 rfl) ?_
          refine lv_iconst (v := (nI 2)) hx hb dN_Mod_step_28 (by decide) ?_
          refine lv_icmp_ne (tgt := 45) hx hb dN_Mod_step_29 (by decide) (fun c_29_28 => ?_) (fun c_29_28 => ?_)
          · skip
            refine lv_iconst (v := (nI 0)) hx hb dN_Mod_step_45 (by decide) ?_
            exact Jj1 (0) _ _ _ ⟨hP, hD, hS, lv_sub hl [0, 1, 2, 3, 4, 5] rfl, by rw [if_neg]; simp only [ixB, c_6_25, decide_eq_false c_10_26, decide_eq_true c_15_27, decide_eq_false c_29_28, Bool.not_true, Bool.not_false, Bool.true_and, Bool.false_and, Bool.true_or, Bool.false_or, Bool.or_true, Bool.or_false, Bool.and_true, Bool.and_false]; decide⟩
          · skip
            refine lv_aload_n hx hb dN_Mod_step_32 rfl (lv_at hl 0 rfl) ?_
            refine lv_iload hx hb dN_Mod_step_33 (lv_at hl 5 rfl) ?_
            refine vx_calli (wc := [(o, .inr (12, [.int (nI th), .int (nI n), .int (nI b), .ref (q 3), .ref (q 4), .ref (q 5), .ref (q 6), .ref (q 7), .int (nI len), .ref (q 9), .ref (q 10), .ref (q 11), .ref (q 12), .ref (q 13), .ref (q 14), .ref (q 15), .ref (q 16), .ref (q 17), .int (nI tr), .int (nI hi), .ref (q 20), .ref (q 21), .ref (q 22), .ref (q 23), .int (nI ma)]))]) (wr := [(q 3, .inl (cI, 200, .inl (ni K))), (q 4, .inl (cI, 200, .inl vI)), (q 5, .inl (cI, 200, .inl fI)), (q 6, .inl (cI, 200, .inl sI))]) [0] [1, 2, 3, 4] hK hP hD hS hA rfl rfl (by decide) (by decide) (va_runV (As := [.int b1]) (rest := [.ref o]) ⟨hx, hb, hml, hown, ht⟩ (kMod_isStep l D cI cZ cJ o q th n b len tr hi ma (b1) _) (⟨callB_of 1 ht (TB_in2 gN_Mod_isStep) rfl rfl rfl (ht _ mw_14) (ht _ mw_1061) (by decide +kernel) ⟨Nat.le_of_ble_eq_true rfl, Nat.le_of_ble_eq_true rfl⟩, ht _ mw_1063, ht _ ms_32⟩) (vx_preV [0] hK hP hD (by decide) rfl (ci := 12) rfl 0 rfl) rfl rfl hl.1 rfl (lv_room (Nat.le_of_ble_eq_true rfl)) dN_Mod_step_35 ⟨Nat.le_of_ble_eq_true rfl, Nat.le_of_ble_eq_true rfl⟩) (fun r1 w1 H locs hq hP hD hS => ?_)
            obtain ⟨rfl, rfl⟩ := hq
            have hP : va_P D clN [(o, .inr (12, [.int (nI th), .int (nI n), .int (nI b), .ref (q 3), .ref (q 4), .ref (q 5), .ref (q 6), .ref (q 7), .int (nI len), .ref (q 9), .ref (q 10), .ref (q 11), .ref (q 12), .ref (q 13), .ref (q 14), .ref (q 15), .ref (q 16), .ref (q 17), .int (nI tr), .int (nI hi), .ref (q 20), .ref (q 21), .ref (q 22), .ref (q 23), .int (nI ma)])), (q 3, .inl (cI, 200, .inl (ni K))), (q 4, .inl (cI, 200, .inl vI)), (q 5, .inl (cI, 200, .inl fI)), (q 6, .inl (cI, 200, .inl sI))] H := hP.sub [4, 0, 1, 2, 3] rfl
            have hD : va_D A [(o, .inr (12, [.int (nI th), .int (nI n), .int (nI b), .ref (q 3), .ref (q 4), .ref (q 5), .ref (q 6), .ref (q 7), .int (nI len), .ref (q 9), .ref (q 10), .ref (q 11), .ref (q 12), .ref (q 13), .ref (q 14), .ref (q 15), .ref (q 16), .ref (q 17), .int (nI tr), .int (nI hi), .ref (q 20), .ref (q 21), .ref (q 22), .ref (q 23), .int (nI ma)])), (q 3, .inl (cI, 200, .inl (ni K))), (q 4, .inl (cI, 200, .inl vI)), (q 5, .inl (cI, 200, .inl fI)), (q 6, .inl (cI, 200, .inl sI))] := hD.sub [4, 0, 1, 2, 3] (by decide) rfl
            refine xz_ne0 (tgt := 45) hx hb dN_Mod_step_38 (by decide) (fun c_38_29 => ?_) (fun c_38_29 => ?_)
            · skip
              refine lv_iconst (v := (nI 0)) hx hb dN_Mod_step_45 (by decide) ?_
              exact Jj1 (0) _ _ _ ⟨hP, hD, hS, lv_sub hl [0, 1, 2, 3, 4, 5] rfl, by rw [if_neg]; simp only [ixB, c_6_25, decide_eq_false c_10_26, decide_eq_true c_15_27, decide_eq_true c_29_28, c_38_29, Bool.not_true, Bool.not_false, Bool.true_and, Bool.false_and, Bool.true_or, Bool.false_or, Bool.or_true, Bool.or_false, Bool.and_true, Bool.and_false]; decide⟩
            · skip
              refine lv_iconst (v := (nI 1)) hx hb dN_Mod_step_41 (by decide) ?_
              refine lv_goto (tgt := 46) hx hb dN_Mod_step_42 (by decide) ?_
              exact Jj1 (1) _ _ _ ⟨hP, hD, hS, lv_sub hl [0, 1, 2, 3, 4, 5] rfl, by rw [if_pos]; simp only [ixB, c_6_25, decide_eq_false c_10_26, decide_eq_true c_15_27, decide_eq_true c_29_28, c_38_29, Bool.not_true, Bool.not_false, Bool.true_and, Bool.false_and, Bool.true_or, Bool.false_or, Bool.or_true, Bool.or_false, Bool.and_true, Bool.and_false]⟩
        · skip
          refine lv_aload_n hx hb dN_Mod_step_18 rfl (lv_at hl 0 rfl) ?_
          refine lv_iload hx hb dN_Mod_step_19 (lv_at hl 4 rfl) ?_
          refine vx_calli (wc := [(o, .inr (12, [.int (nI th), .int (nI n), .int (nI b), .ref (q 3), .ref (q 4), .ref (q 5), .ref (q 6), .ref (q 7), .int (nI len), .ref (q 9), .ref (q 10), .ref (q 11), .ref (q 12), .ref (q 13), .ref (q 14), .ref (q 15), .ref (q 16), .ref (q 17), .int (nI tr), .int (nI hi), .ref (q 20), .ref (q 21), .ref (q 22), .ref (q 23), .int (nI ma)]))]) (wr := [(q 3, .inl (cI, 200, .inl (ni K))), (q 4, .inl (cI, 200, .inl vI)), (q 5, .inl (cI, 200, .inl fI)), (q 6, .inl (cI, 200, .inl sI))]) [0] [1, 2, 3, 4] hK hP hD hS hA rfl rfl (by decide) (by decide) (va_runV (As := [.int a1]) (rest := [.ref o]) ⟨hx, hb, hml, hown, ht⟩ (kMod_isStep l D cI cZ cJ o q th n b len tr hi ma (a1) _) (⟨callB_of 1 ht (TB_in2 gN_Mod_isStep) rfl rfl rfl (ht _ mw_14) (ht _ mw_1061) (by decide +kernel) ⟨Nat.le_of_ble_eq_true rfl, Nat.le_of_ble_eq_true rfl⟩, ht _ mw_1063, ht _ ms_32⟩) (vx_preV [0] hK hP hD (by decide) rfl (ci := 12) rfl 0 rfl) rfl rfl hl.1 rfl (lv_room (Nat.le_of_ble_eq_true rfl)) dN_Mod_step_21 ⟨Nat.le_of_ble_eq_true rfl, Nat.le_of_ble_eq_true rfl⟩) (fun r1 w1 H locs hq hP hD hS => ?_)
          obtain ⟨rfl, rfl⟩ := hq
          have hP : va_P D clN [(o, .inr (12, [.int (nI th), .int (nI n), .int (nI b), .ref (q 3), .ref (q 4), .ref (q 5), .ref (q 6), .ref (q 7), .int (nI len), .ref (q 9), .ref (q 10), .ref (q 11), .ref (q 12), .ref (q 13), .ref (q 14), .ref (q 15), .ref (q 16), .ref (q 17), .int (nI tr), .int (nI hi), .ref (q 20), .ref (q 21), .ref (q 22), .ref (q 23), .int (nI ma)])), (q 3, .inl (cI, 200, .inl (ni K))), (q 4, .inl (cI, 200, .inl vI)), (q 5, .inl (cI, 200, .inl fI)), (q 6, .inl (cI, 200, .inl sI))] H := hP.sub [4, 0, 1, 2, 3] rfl
          have hD : va_D A [(o, .inr (12, [.int (nI th), .int (nI n), .int (nI b), .ref (q 3), .ref (q 4), .ref (q 5), .ref (q 6), .ref (q 7), .int (nI len), .ref (q 9), .ref (q 10), .ref (q 11), .ref (q 12), .ref (q 13), .ref (q 14), .ref (q 15), .ref (q 16), .ref (q 17), .int (nI tr), .int (nI hi), .ref (q 20), .ref (q 21), .ref (q 22), .ref (q 23), .int (nI ma)])), (q 3, .inl (cI, 200, .inl (ni K))), (q 4, .inl (cI, 200, .inl vI)), (q 5, .inl (cI, 200, .inl fI)), (q 6, .inl (cI, 200, .inl sI))] := hD.sub [4, 0, 1, 2, 3] (by decide) rfl
          refine xz_eq0 (tgt := 41) hx hb dN_Mod_step_24 (by decide) (fun c_24_30 => ?_) (fun c_24_30 => ?_)
          · skip
            refine lv_iconst (v := (nI 1)) hx hb dN_Mod_step_41 (by decide) ?_
            refine lv_goto (tgt := 46) hx hb dN_Mod_step_42 (by decide) ?_
            exact Jj1 (1) _ _ _ ⟨hP, hD, hS, lv_sub hl [0, 1, 2, 3, 4, 5] rfl, by rw [if_pos]; simp only [ixB, c_6_25, decide_eq_false c_10_26, decide_eq_false c_15_27, c_24_30, Bool.not_true, Bool.not_false, Bool.true_and, Bool.false_and, Bool.true_or, Bool.false_or, Bool.or_true, Bool.or_false, Bool.and_true, Bool.and_false]⟩
          · skip
            refine lv_iload_n hx hb dN_Mod_step_27 rfl (lv_at hl 2 rfl) ?_
            refine lv_iconst (v := (nI 2)) hx hb dN_Mod_step_28 (by decide) ?_
            refine lv_icmp_ne (tgt := 45) hx hb dN_Mod_step_29 (by decide) (fun c_29_31 => ?_) (fun c_29_31 => ?_)
            · skip
              refine lv_iconst (v := (nI 0)) hx hb dN_Mod_step_45 (by decide) ?_
              exact Jj1 (0) _ _ _ ⟨hP, hD, hS, lv_sub hl [0, 1, 2, 3, 4, 5] rfl, by rw [if_neg]; simp only [ixB, c_6_25, decide_eq_false c_10_26, decide_eq_false c_15_27, c_24_30, decide_eq_false c_29_31, Bool.not_true, Bool.not_false, Bool.true_and, Bool.false_and, Bool.true_or, Bool.false_or, Bool.or_true, Bool.or_false, Bool.and_true, Bool.and_false]; decide⟩
            · skip
              refine lv_aload_n hx hb dN_Mod_step_32 rfl (lv_at hl 0 rfl) ?_
              refine lv_iload hx hb dN_Mod_step_33 (lv_at hl 5 rfl) ?_
              refine vx_calli (wc := [(o, .inr (12, [.int (nI th), .int (nI n), .int (nI b), .ref (q 3), .ref (q 4), .ref (q 5), .ref (q 6), .ref (q 7), .int (nI len), .ref (q 9), .ref (q 10), .ref (q 11), .ref (q 12), .ref (q 13), .ref (q 14), .ref (q 15), .ref (q 16), .ref (q 17), .int (nI tr), .int (nI hi), .ref (q 20), .ref (q 21), .ref (q 22), .ref (q 23), .int (nI ma)]))]) (wr := [(q 3, .inl (cI, 200, .inl (ni K))), (q 4, .inl (cI, 200, .inl vI)), (q 5, .inl (cI, 200, .inl fI)), (q 6, .inl (cI, 200, .inl sI))]) [0] [1, 2, 3, 4] hK hP hD hS hA rfl rfl (by decide) (by decide) (va_runV (As := [.int b1]) (rest := [.ref o]) ⟨hx, hb, hml, hown, ht⟩ (kMod_isStep l D cI cZ cJ o q th n b len tr hi ma (b1) _) (⟨callB_of 1 ht (TB_in2 gN_Mod_isStep) rfl rfl rfl (ht _ mw_14) (ht _ mw_1061) (by decide +kernel) ⟨Nat.le_of_ble_eq_true rfl, Nat.le_of_ble_eq_true rfl⟩, ht _ mw_1063, ht _ ms_32⟩) (vx_preV [0] hK hP hD (by decide) rfl (ci := 12) rfl 0 rfl) rfl rfl hl.1 rfl (lv_room (Nat.le_of_ble_eq_true rfl)) dN_Mod_step_35 ⟨Nat.le_of_ble_eq_true rfl, Nat.le_of_ble_eq_true rfl⟩) (fun r1 w1 H locs hq hP hD hS => ?_)
              obtain ⟨rfl, rfl⟩ := hq
              have hP : va_P D clN [(o, .inr (12, [.int (nI th), .int (nI n), .int (nI b), .ref (q 3), .ref (q 4), .ref (q 5), .ref (q 6), .ref (q 7), .int (nI len), .ref (q 9), .ref (q 10), .ref (q 11), .ref (q 12), .ref (q 13), .ref (q 14), .ref (q 15), .ref (q 16), .ref (q 17), .int (nI tr), .int (nI hi), .ref (q 20), .ref (q 21), .ref (q 22), .ref (q 23), .int (nI ma)])), (q 3, .inl (cI, 200, .inl (ni K))), (q 4, .inl (cI, 200, .inl vI)), (q 5, .inl (cI, 200, .inl fI)), (q 6, .inl (cI, 200, .inl sI))] H := hP.sub [4, 0, 1, 2, 3] rfl
              have hD : va_D A [(o, .inr (12, [.int (nI th), .int (nI n), .int (nI b), .ref (q 3), .ref (q 4), .ref (q 5), .ref (q 6), .ref (q 7), .int (nI len), .ref (q 9), .ref (q 10), .ref (q 11), .ref (q 12), .ref (q 13), .ref (q 14), .ref (q 15), .ref (q 16), .ref (q 17), .int (nI tr), .int (nI hi), .ref (q 20), .ref (q 21), .ref (q 22), .ref (q 23), .int (nI ma)])), (q 3, .inl (cI, 200, .inl (ni K))), (q 4, .inl (cI, 200, .inl vI)), (q 5, .inl (cI, 200, .inl fI)), (q 6, .inl (cI, 200, .inl sI))] := hD.sub [4, 0, 1, 2, 3] (by decide) rfl
              refine xz_ne0 (tgt := 45) hx hb dN_Mod_step_38 (by decide) (fun c_38_32 => ?_) (fun c_38_32 => ?_)
              · skip
                refine lv_iconst (v := (nI 0)) hx hb dN_Mod_step_45 (by decide) ?_
                exact Jj1 (0) _ _ _ ⟨hP, hD, hS, lv_sub hl [0, 1, 2, 3, 4, 5] rfl, by rw [if_neg]; simp only [ixB, c_6_25, decide_eq_false c_10_26, decide_eq_false c_15_27, c_24_30, decide_eq_true c_29_31, c_38_32, Bool.not_true, Bool.not_false, Bool.true_and, Bool.false_and, Bool.true_or, Bool.false_or, Bool.or_true, Bool.or_false, Bool.and_true, Bool.and_false]; decide⟩
              · skip
                refine lv_iconst (v := (nI 1)) hx hb dN_Mod_step_41 (by decide) ?_
                refine lv_goto (tgt := 46) hx hb dN_Mod_step_42 (by decide) ?_
                exact Jj1 (1) _ _ _ ⟨hP, hD, hS, lv_sub hl [0, 1, 2, 3, 4, 5] rfl, by rw [if_pos]; simp only [ixB, c_6_25, decide_eq_false c_10_26, decide_eq_false c_15_27, c_24_30, decide_eq_true c_29_31, c_38_32, Bool.not_true, Bool.not_false, Bool.true_and, Bool.false_and, Bool.true_or, Bool.false_or, Bool.or_true, Bool.or_false, Bool.and_true, Bool.and_false]⟩
