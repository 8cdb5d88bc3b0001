theorem lp_in {L j : Nat} (hL : L ≤ 3072) (hj : 6 * j ≤ L) (h : ¬ nI (6 * j) > nI L - nI 6) : 6 * j + 6 ≤ L := by
  rcases Nat.lt_or_ge L 6 with h6 | h6
  · exfalso
    have a0 : nI L - nI 6 < 0 := by
      rcases (show L = 0 ∨ L = 1 ∨ L = 2 ∨ L = 3 ∨ L = 4 ∨ L = 5 by omega) with rfl | rfl | rfl | rfl | rfl | rfl <;> decide
    exact h (Int32.lt_of_lt_of_le a0 (nI_pos' (by omega)))
  · rw [pk_sub h6] at h
    have h2 : ¬ nI (L - 6) < nI (6 * j) := h
    rw [nI_ltI (by omega) (by omega)] at h2
    omega
theorem and15 (x : Int32) : ∃ k, k < 16 ∧ x &&& nI 15 = nI k := by
  refine ⟨(x.toBitVec &&& 15#32).toNat, ?_, ?_⟩
  · rw [BitVec.toNat_and]
    exact Nat.lt_of_le_of_lt Nat.and_le_right (by decide)
  · apply Int32.toBitVec_inj.mp
    rw [Int32.toBitVec_and]
    show _ = BitVec.ofNat 32 _
    rw [BitVec.ofNat_toNat, BitVec.setWidth_eq]
    rfl
set_option maxHeartbeats 4000000 in
set_option maxRecDepth 100000 in
/-- the law's loop -/
theorem lc_loop {p : Program} {l : Launch} {e : Env} {s : State} {m : MethodId} {below : List Frame} {meth : Method} {c : Code} {D : va_G} {cI cZ cJ : ClassId} {bf scr L : Nat} {xs : Nat → Int32} {A : Nat → Prop} (hl0 : l.stackTraces = false) (C9 : LC p s m c scr L xs D cI cZ cJ bf A) (hAe : ∀ q, A q → s.heap.size ≤ q) (hr : meth.sig.returnType = ret) (hlocks : meth.locks = false) (hL : L ≤ 3072) : ∀ (n j c0 s0 : Nat) (q a xn : Nat → Nat) (xb : Nat → Bool) (xf : Nat → Nat → Nat) (xg : Nat → Nat → Bool) (xi : Nat → Nat → Int32) (xl : Nat → Nat → Int64) (H : Heap) (locs : List Loc) (ls : Array Slot), 6 * j ≤ L → 513 ≤ j + n → c0 ≤ 100 + j → s0 ≤ 200000 + 6 * j → LF j xn xb xf xi → va_P D clN (LW cI cZ cJ q a xn xb xf xg xi xl) H → va_D A (LW cI cZ cJ q a xn xb xf xg xi xl) → va_S A s.heap H locs → lv_has ls 7 [(0, .ref scr), (1, .ref (a 0)), (2, .ref (a 56)), (3, .ref (a 57)), (4, .int (nI (6 * j)))] → W p l e room_1 s m #[Value.ref scr] below meth c H locs c0 s0 (lw_Z below #[Value.ref scr] s) (F0 m 23 ls []) := by
  obtain ⟨hx, hb, hml, hown, ht, hK, Z, hA, hX, hbl, hAb⟩ := id C9
  intro n
  induction n with
  | zero => intro j c0 s0 q a xn xb xf xg xi xl H locs ls h1 h2; omega
  | succ n ih =>
    intro j c0 s0 q a xn xb xf xg xi xl H locs ls hjL hjn hc hs hF hP hD hS hl
    have hc0 : c0 + 1 ≤ 601024 := by omega
    have hs0 : s0 + 6 ≤ 7293034 := by omega
    obtain ⟨k9, hk9, ek9⟩ := and15 (xs (6 * j))
    refine lv_iload hx hb dN_Law_law_23 (lv_at hl 4 rfl) ?_
    refine lv_aload_n hx hb dN_Law_law_25 rfl (lv_at hl 0 rfl) ?_
    refine va_slen hx hb hX hbl hAb hS dN_Law_law_26 ?_
    refine lv_bipush (v := (nI 6)) hx hb dN_Law_law_27 (by decide) ?_
    refine lv_isub hx hb dN_Law_law_29 ?_
    refine lv_icmp_gt (tgt := 633) hx hb dN_Law_law_30 (by decide) (fun c_30_0 => ?_) (fun c_30_0 => ?_)
    · skip
      refine lv_iconst (v := 1) hx hb dN_Law_law_633 (by decide) ?_
      refine va_forget (fun q hq => hAe _ (hS.2.2 q hq)) ?_
      refine W.widen (k := 601024) (n := 7293034) (by omega) (by omega) ?_
      exact lw_ret hx hb hr hlocks dN_Law_law_634
    · skip
      have hj : 6 * j + 6 ≤ L := lp_in hL hjL c_30_0
      refine lv_aload_n hx hb dN_Law_law_33 rfl (lv_at hl 0 rfl) ?_
      refine lv_iload hx hb dN_Law_law_34 (lv_at hl 4 rfl) ?_
      refine va_sld hx hb hX hbl hAb hS (vp_in_nI (by omega) (by omega)) dN_Law_law_36 ?_
      rw [nI_clamp (by omega)]
      refine lv_bipush (v := (nI 15)) hx hb dN_Law_law_37 (by decide) ?_
      refine lv_iand hx hb dN_Law_law_39 ?_
      refine xn_top (y := (nI k9)) ek9 ?_
      by_cases h_40_0 : k9 = 0
      · refine xn_tin (k := 0) (tgt := 100) hx hb dN_Law_law_40 h_40_0 (by decide) rfl (by decide) ?_
        refine lc_lay hl0 C9 hF hj hL hc0 hs0 hP hD hS hl ?_
        intro q a xn xb xf xg xi xl H locs ls c1 s1 hF hP hD hS hl hc1 hs1
        refine lv_iinc (v := nI (6 * (j + 1))) (lv' := [(4, .int (nI (6 * (j + 1)))), (0, .ref scr), (1, .ref (a 0)), (2, .ref (a 56)), (3, .ref (a 57))]) hx hb dN_Law_law_627 hl (k := 4) rfl (nI_add _ _) (by decide) rfl (fun ls hl => ?_)
        refine lv_goto (tgt := 23) hx hb dN_Law_law_630 (by decide) ?_
        exact ih (j + 1) _ _ q a xn xb xf xg xi xl _ _ _ (by omega) (by omega) (by omega) (by omega) hF hP hD hS (lv_sub hl [1, 2, 3, 4, 0] rfl)
      by_cases h_40_1 : k9 = 1
      · refine xn_tin (k := 1) (tgt := 136) hx hb dN_Law_law_40 h_40_1 (by decide) rfl (by decide) ?_
        refine lc_step hl0 C9 hF hj hL hc0 hs0 hP hD hS hl ?_
        intro q a xn xb xf xg xi xl H locs ls c1 s1 hF hP hD hS hl hc1 hs1
        refine lv_iinc (v := nI (6 * (j + 1))) (lv' := [(4, .int (nI (6 * (j + 1)))), (0, .ref scr), (1, .ref (a 0)), (2, .ref (a 56)), (3, .ref (a 57))]) hx hb dN_Law_law_627 hl (k := 4) rfl (nI_add _ _) (by decide) rfl (fun ls hl => ?_)
        refine lv_goto (tgt := 23) hx hb dN_Law_law_630 (by decide) ?_
        exact ih (j + 1) _ _ q a xn xb xf xg xi xl _ _ _ (by omega) (by omega) (by omega) (by omega) hF hP hD hS (lv_sub hl [1, 2, 3, 4, 0] rfl)
      by_cases h_40_2 : k9 = 2
      · refine xn_tin (k := 2) (tgt := 220) hx hb dN_Law_law_40 h_40_2 (by decide) rfl (by decide) ?_
        refine lc_begin hl0 C9 hF hj hL hc0 hs0 hP hD hS hl ?_
        intro q a xn xb xf xg xi xl H locs ls c1 s1 hF hP hD hS hl hc1 hs1
        refine lv_iinc (v := nI (6 * (j + 1))) (lv' := [(4, .int (nI (6 * (j + 1)))), (0, .ref scr), (1, .ref (a 0)), (2, .ref (a 56)), (3, .ref (a 57))]) hx hb dN_Law_law_627 hl (k := 4) rfl (nI_add _ _) (by decide) rfl (fun ls hl => ?_)
        refine lv_goto (tgt := 23) hx hb dN_Law_law_630 (by decide) ?_
        exact ih (j + 1) _ _ q a xn xb xf xg xi xl _ _ _ (by omega) (by omega) (by omega) (by omega) hF hP hD hS (lv_sub hl [1, 2, 3, 4, 0] rfl)
      by_cases h_40_3 : k9 = 3
      · refine xn_tin (k := 3) (tgt := 256) hx hb dN_Law_law_40 h_40_3 (by decide) rfl (by decide) ?_
        refine lc_put hl0 C9 hF hj hL hc0 hs0 hP hD hS hl ?_
        intro q a xn xb xf xg xi xl H locs ls c1 s1 hF hP hD hS hl hc1 hs1
        refine lv_iinc (v := nI (6 * (j + 1))) (lv' := [(4, .int (nI (6 * (j + 1)))), (0, .ref scr), (1, .ref (a 0)), (2, .ref (a 56)), (3, .ref (a 57))]) hx hb dN_Law_law_627 hl (k := 4) rfl (nI_add _ _) (by decide) rfl (fun ls hl => ?_)
        refine lv_goto (tgt := 23) hx hb dN_Law_law_630 (by decide) ?_
        exact ih (j + 1) _ _ q a xn xb xf xg xi xl _ _ _ (by omega) (by omega) (by omega) (by omega) hF hP hD hS (lv_sub hl [1, 2, 3, 4, 0] rfl)
      by_cases h_40_4 : k9 = 4
      · refine xn_tin (k := 4) (tgt := 325) hx hb dN_Law_law_40 h_40_4 (by decide) rfl (by decide) ?_
        refine lc_clear hl0 C9 hF hj hL hc0 hs0 hP hD hS hl ?_
        intro q a xn xb xf xg xi xl H locs ls c1 s1 hF hP hD hS hl hc1 hs1
        refine lv_iinc (v := nI (6 * (j + 1))) (lv' := [(4, .int (nI (6 * (j + 1)))), (0, .ref scr), (1, .ref (a 0)), (2, .ref (a 56)), (3, .ref (a 57))]) hx hb dN_Law_law_627 hl (k := 4) rfl (nI_add _ _) (by decide) rfl (fun ls hl => ?_)
        refine lv_goto (tgt := 23) hx hb dN_Law_law_630 (by decide) ?_
        exact ih (j + 1) _ _ q a xn xb xf xg xi xl _ _ _ (by omega) (by omega) (by omega) (by omega) hF hP hD hS (lv_sub hl [1, 2, 3, 4, 0] rfl)
      by_cases h_40_5 : k9 = 5
      · refine xn_tin (k := 5) (tgt := 336) hx hb dN_Law_law_40 h_40_5 (by decide) rfl (by decide) ?_
        refine lc_match hl0 C9 hF hj hL hc0 hs0 hP hD hS hl ?_
        intro q a xn xb xf xg xi xl H locs ls c1 s1 hF hP hD hS hl hc1 hs1
        refine lv_iinc (v := nI (6 * (j + 1))) (lv' := [(4, .int (nI (6 * (j + 1)))), (0, .ref scr), (1, .ref (a 0)), (2, .ref (a 56)), (3, .ref (a 57))]) hx hb dN_Law_law_627 hl (k := 4) rfl (nI_add _ _) (by decide) rfl (fun ls hl => ?_)
        refine lv_goto (tgt := 23) hx hb dN_Law_law_630 (by decide) ?_
        exact ih (j + 1) _ _ q a xn xb xf xg xi xl _ _ _ (by omega) (by omega) (by omega) (by omega) hF hP hD hS (lv_sub hl [1, 2, 3, 4, 0] rfl)
      by_cases h_40_6 : k9 = 6
      · refine xn_tin (k := 6) (tgt := 444) hx hb dN_Law_law_40 h_40_6 (by decide) rfl (by decide) ?_
        refine lc_saved hl0 C9 hF hj hL hc0 hs0 hP hD hS hl ?_
        intro q a xn xb xf xg xi xl H locs ls c1 s1 hF hP hD hS hl hc1 hs1
        refine lv_iinc (v := nI (6 * (j + 1))) (lv' := [(4, .int (nI (6 * (j + 1)))), (0, .ref scr), (1, .ref (a 0)), (2, .ref (a 56)), (3, .ref (a 57))]) hx hb dN_Law_law_627 hl (k := 4) rfl (nI_add _ _) (by decide) rfl (fun ls hl => ?_)
        refine lv_goto (tgt := 23) hx hb dN_Law_law_630 (by decide) ?_
        exact ih (j + 1) _ _ q a xn xb xf xg xi xl _ _ _ (by omega) (by omega) (by omega) (by omega) hF hP hD hS (lv_sub hl [1, 2, 3, 4, 0] rfl)
      by_cases h_40_7 : k9 = 7
      · refine xn_tin (k := 7) (tgt := 469) hx hb dN_Law_law_40 h_40_7 (by decide) rfl (by decide) ?_
        refine lc_ends hl0 C9 hF hj hL hc0 hs0 hP hD hS hl ?_
        intro q a xn xb xf xg xi xl H locs ls c1 s1 hF hP hD hS hl hc1 hs1
        refine lv_iinc (v := nI (6 * (j + 1))) (lv' := [(4, .int (nI (6 * (j + 1)))), (0, .ref scr), (1, .ref (a 0)), (2, .ref (a 56)), (3, .ref (a 57))]) hx hb dN_Law_law_627 hl (k := 4) rfl (nI_add _ _) (by decide) rfl (fun ls hl => ?_)
        refine lv_goto (tgt := 23) hx hb dN_Law_law_630 (by decide) ?_
        exact ih (j + 1) _ _ q a xn xb xf xg xi xl _ _ _ (by omega) (by omega) (by omega) (by omega) hF hP hD hS (lv_sub hl [1, 2, 3, 4, 0] rfl)
      by_cases h_40_8 : k9 = 8
      · refine xn_tin (k := 8) (tgt := 565) hx hb dN_Law_law_40 h_40_8 (by decide) rfl (by decide) ?_
        refine lc_keep hl0 C9 hF hj hL hc0 hs0 hP hD hS hl ?_
        intro q a xn xb xf xg xi xl H locs ls c1 s1 hF hP hD hS hl hc1 hs1
        refine lv_iinc (v := nI (6 * (j + 1))) (lv' := [(4, .int (nI (6 * (j + 1)))), (0, .ref scr), (1, .ref (a 0)), (2, .ref (a 56)), (3, .ref (a 57))]) hx hb dN_Law_law_627 hl (k := 4) rfl (nI_add _ _) (by decide) rfl (fun ls hl => ?_)
        refine lv_goto (tgt := 23) hx hb dN_Law_law_630 (by decide) ?_
        exact ih (j + 1) _ _ q a xn xb xf xg xi xl _ _ _ (by omega) (by omega) (by omega) (by omega) hF hP hD hS (lv_sub hl [1, 2, 3, 4, 0] rfl)
      by_cases h_40_9 : k9 = 9
      · refine xn_tin (k := 9) (tgt := 601) hx hb dN_Law_law_40 h_40_9 (by decide) rfl (by decide) ?_
        refine lc_one hl0 C9 hF hj hL hc0 hs0 hP hD hS hl ?_
        intro q a xn xb xf xg xi xl H locs ls c1 s1 hF hP hD hS hl hc1 hs1
        refine lv_iinc (v := nI (6 * (j + 1))) (lv' := [(4, .int (nI (6 * (j + 1)))), (0, .ref scr), (1, .ref (a 0)), (2, .ref (a 56)), (3, .ref (a 57))]) hx hb dN_Law_law_627 hl (k := 4) rfl (nI_add _ _) (by decide) rfl (fun ls hl => ?_)
        refine lv_goto (tgt := 23) hx hb dN_Law_law_630 (by decide) ?_
        exact ih (j + 1) _ _ q a xn xb xf xg xi xl _ _ _ (by omega) (by omega) (by omega) (by omega) hF hP hD hS (lv_sub hl [1, 2, 3, 4, 0] rfl)
      by_cases h_40_10 : k9 = 10
      · refine xn_tin (k := 10) (tgt := 614) hx hb dN_Law_law_40 h_40_10 (by decide) rfl (by decide) ?_
        refine lc_over hl0 C9 hF hj hL hc0 hs0 hP hD hS hl ?_
        intro q a xn xb xf xg xi xl H locs ls c1 s1 hF hP hD hS hl hc1 hs1
        refine lv_iinc (v := nI (6 * (j + 1))) (lv' := [(4, .int (nI (6 * (j + 1)))), (0, .ref scr), (1, .ref (a 0)), (2, .ref (a 56)), (3, .ref (a 57))]) hx hb dN_Law_law_627 hl (k := 4) rfl (nI_add _ _) (by decide) rfl (fun ls hl => ?_)
        refine lv_goto (tgt := 23) hx hb dN_Law_law_630 (by decide) ?_
        exact ih (j + 1) _ _ q a xn xb xf xg xi xl _ _ _ (by omega) (by omega) (by omega) (by omega) hF hP hD hS (lv_sub hl [1, 2, 3, 4, 0] rfl)
      refine xn_tout (tgt := 627) hx hb dN_Law_law_40 (by omega) (by omega) (by decide) ?_
      have hF := LF_s hF
      have hc1 : c0 ≤ c0 + 1 := by omega
      have hs1 : s0 ≤ s0 + 6 := by omega
      refine lv_iinc (v := nI (6 * (j + 1))) (lv' := [(4, .int (nI (6 * (j + 1)))), (0, .ref scr), (1, .ref (a 0)), (2, .ref (a 56)), (3, .ref (a 57))]) hx hb dN_Law_law_627 hl (k := 4) rfl (nI_add _ _) (by decide) rfl (fun ls hl => ?_)
      refine lv_goto (tgt := 23) hx hb dN_Law_law_630 (by decide) ?_
      exact ih (j + 1) _ _ q a xn xb xf xg xi xl _ _ _ (by omega) (by omega) (by omega) (by omega) hF hP hD hS (lv_sub hl [1, 2, 3, 4, 0] rfl)
