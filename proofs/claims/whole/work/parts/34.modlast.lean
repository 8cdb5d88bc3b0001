set_option maxHeartbeats 4000000 in
set_option maxRecDepth 100000 in
/-- lastEnd(fr) -/
theorem kMod_lastEnd (l : Launch) (D : va_G) (cI cZ cJ : ClassId) (o : Nat) (q : Nat → Nat) (th n b len tr hi ma : Nat) (K V F S u : Nat → Nat) (vI fI sI : Nat → Int32) (come : Nat → Bool) (fr : Nat) (hn0 : 0 < n) (hn : n ≤ 200) (hle : len ≤ 200) (hu : ∀ i, u i < 256) (hK5 : ∀ i, K i < 6) (hv : ∀ i, 0 < i → i < n → (K i = 1 ∨ K i = 3 ∨ K i = 4) → vI i = nI (V i)) (hvb : ∀ i, V i < 65536) (hv4 : ∀ i, i < n → K i = 4 → V i < 6) (hf : ∀ i, 0 < i → i < n → (K i = 1 ∨ K i = 2 ∨ K i = 3 ∨ K i = 4) → fI i = nI (F i) ∧ F i < n) (hs : ∀ i, 0 < i → i < n → K i = 2 → sI i = nI (S i) ∧ S i < n) (hfr : fr ≤ len) (hb0 : b < n) : vx_Mi l yN_Mod_lastEnd wN_Mod_lastEnd ({ frames := 3, cells := 0, slots := 0, locals := 90 }) D clN (tyN cI cZ cJ) [.ref o, .int (nI fr)] [(o, .inr (12, [.int (nI th), .int (nI n), .int (nI b), .ref (q 3), .ref (q 4), .ref (q 5), .ref (q 6), .ref (q 7), .int (nI len), .ref (q 9), .ref (q 10), .ref (q 11), .ref (q 12), .ref (q 13), .ref (q 14), .ref (q 15), .ref (q 16), .ref (q 17), .int (nI tr), .int (nI hi), .ref (q 20), .ref (q 21), .ref (q 22), .ref (q 23), .int (nI ma)])), (q 3, .inl (cI, 200, .inl (ni K))), (q 4, .inl (cI, 200, .inl vI)), (q 5, .inl (cI, 200, .inl fI)), (q 6, .inl (cI, 200, .inl sI)), (q 7, .inl (cI, 200, .inl (ni u))), (q 10, .inl (cZ, 40200, .inl (zb come)))] (fun r w => ∃ f : Nat → Bool, w = [(o, .inr (12, [.int (nI th), .int (nI n), .int (nI b), .ref (q 3), .ref (q 4), .ref (q 5), .ref (q 6), .ref (q 7), .int (nI len), .ref (q 9), .ref (q 10), .ref (q 11), .ref (q 12), .ref (q 13), .ref (q 14), .ref (q 15), .ref (q 16), .ref (q 17), .int (nI tr), .int (nI hi), .ref (q 20), .ref (q 21), .ref (q 22), .ref (q 23), .int (nI ma)])), (q 3, .inl (cI, 200, .inl (ni K))), (q 4, .inl (cI, 200, .inl vI)), (q 5, .inl (cI, 200, .inl fI)), (q 6, .inl (cI, 200, .inl sI)), (q 7, .inl (cI, 200, .inl (ni u))), (q 10, .inl (cZ, 40200, .inl (zb f)))] ∧ Las K V F S len u fr b (len + 1) r) := by
  refine vx_startI (cc := cN_Mod_lastEnd) (maxL := 7) (ret := (some .int)) (by decide) rfl (Nat.le_of_ble_eq_true rfl) ?_
  intro p_0 e_0 s m below meth c_0 A ls C hK hP hD hS hA hl
  obtain ⟨hx, hb, hr, hml, hown, hts, hlocks, hnm⟩ := id C
  have hown : s.vm.findClass "StepMachinesModel" = some m.cls := hown
  have ht : ∀ w ∈ TB, w.before _ s = true := fun w h => hts w (List.mem_cons_of_mem _ h)
  have hl : lv_has ls 7 [(0, .ref o), (1, .int (nI fr))] := hl
  refine lv_sipush (v := (nI 200)) hx hb dN_Mod_lastEnd_0 (by decide) ?_
  refine lv_iload_n hx hb dN_Mod_lastEnd_3 rfl (lv_at hl 1 rfl) ?_
  refine xn_mul hx hb dN_Mod_lastEnd_4 ?_
  refine lv_istore_n (lv' := [(2, .int (nI (200 * fr))), (0, .ref o), (1, .int (nI fr))]) hx hb dN_Mod_lastEnd_5 rfl hl (by decide) rfl (fun ls hl => ?_)
  refine vx_loop (α := (Nat → Bool) × Nat) (fun (vv : (Nat → Bool) × Nat) (H : Heap) (locs : List Loc) (ls : Array Slot) => match vv with | (f, k) => va_P D clN [(o, .inr (12, [.int (nI th), .int (nI n), .int (nI b), .ref (q 3), .ref (q 4), .ref (q 5), .ref (q 6), .ref (q 7), .int (nI len), .ref (q 9), .ref (q 10), .ref (q 11), .ref (q 12), .ref (q 13), .ref (q 14), .ref (q 15), .ref (q 16), .ref (q 17), .int (nI tr), .int (nI hi), .ref (q 20), .ref (q 21), .ref (q 22), .ref (q 23), .int (nI ma)])), (q 3, .inl (cI, 200, .inl (ni K))), (q 4, .inl (cI, 200, .inl vI)), (q 5, .inl (cI, 200, .inl fI)), (q 6, .inl (cI, 200, .inl sI)), (q 7, .inl (cI, 200, .inl (ni u))), (q 10, .inl (cZ, 40200, .inl (zb f)))] H ∧ va_D A [(o, .inr (12, [.int (nI th), .int (nI n), .int (nI b), .ref (q 3), .ref (q 4), .ref (q 5), .ref (q 6), .ref (q 7), .int (nI len), .ref (q 9), .ref (q 10), .ref (q 11), .ref (q 12), .ref (q 13), .ref (q 14), .ref (q 15), .ref (q 16), .ref (q 17), .int (nI tr), .int (nI hi), .ref (q 20), .ref (q 21), .ref (q 22), .ref (q 23), .int (nI ma)])), (q 3, .inl (cI, 200, .inl (ni K))), (q 4, .inl (cI, 200, .inl vI)), (q 5, .inl (cI, 200, .inl fI)), (q 6, .inl (cI, 200, .inl sI)), (q 7, .inl (cI, 200, .inl (ni u))), (q 10, .inl (cZ, 40200, .inl (zb f)))] ∧ va_S A s.heap H locs ∧ lv_has ls 7 [(0, .ref o), (1, .int (nI fr)), (2, .int (nI k))] ∧ (200 * fr ≤ k ∧ k ≤ 200 * len + 200 ∧ ∀ i, 200 * fr ≤ i → i < k → f i = false)) (fun (vv : (Nat → Bool) × Nat) => match vv with | (f, k) => 200 * len + 200 - k) 6 [] ?_ (come, 200 * fr) ⟨hP, hD, hS, lv_sub hl [1, 2, 0] rfl, ⟨by omega, by omega, fun i h1 h2 => absurd h1 (by omega)⟩⟩
  intro vv H locs ls hq ih_6_0
  obtain ⟨f, k⟩ := vv
  obtain ⟨hP, hD, hS, hl, hI⟩ := hq
  obtain ⟨hk1, hk2, hz⟩ := hI
  refine lv_iload_n hx hb dN_Mod_lastEnd_6 rfl (lv_at hl 2 rfl) ?_
  refine lv_sipush (v := (nI 200)) hx hb dN_Mod_lastEnd_7 (by decide) ?_
  refine lv_aload_n hx hb dN_Mod_lastEnd_10 rfl (lv_at hl 0 rfl) ?_
  refine va_get (D := D) (ci := 12) (v := .int (nI len)) (C := RN_Mod) (T := FN_Mod) (N := 25) hx hb ht fN_Mod hown hK hP 0 rfl rfl 8 (by decide) (ht _ mw_980) (fun _ h9 => h9) rfl dN_Mod_lastEnd_11 ?_
  refine xn_mul hx hb dN_Mod_lastEnd_14 ?_
  refine lv_sipush (v := (nI 200)) hx hb dN_Mod_lastEnd_15 (by decide) ?_
  refine xn_add hx hb dN_Mod_lastEnd_18 ?_
  refine xn_ge (tgt := 35) hx hb dN_Mod_lastEnd_19 (by decide) (by omega) (by omega) (fun c_19_1 => ?_) (fun c_19_1 => ?_)
  · skip
    have hz0 : ∀ i, 200 * fr ≤ i → i < 200 * len + 200 → f i = false := fun i h1 h2 => hz i h1 (by omega)
    have hini := init_fw (K := K) (V := V) (F := F) (S := S) (u := u) hn hb0 hfr hz0
    refine lv_aload_n hx hb dN_Mod_lastEnd_35 rfl (lv_at hl 0 rfl) ?_
    refine va_get (D := D) (ci := 12) (v := .ref (q 10)) (C := RN_Mod) (T := FN_Mod) (N := 25) hx hb ht fN_Mod hown hK hP 0 rfl rfl 10 (by decide) (ht _ mw_982) (fun _ h9 => h9) rfl dN_Mod_lastEnd_36 ?_
    refine lv_sipush (v := (nI 200)) hx hb dN_Mod_lastEnd_39 (by decide) ?_
    refine lv_iload_n hx hb dN_Mod_lastEnd_42 rfl (lv_at hl 1 rfl) ?_
    refine xn_mul hx hb dN_Mod_lastEnd_43 ?_
    refine lv_aload_n hx hb dN_Mod_lastEnd_44 rfl (lv_at hl 0 rfl) ?_
    refine va_get (D := D) (ci := 12) (v := .int (nI b)) (C := RN_Mod) (T := FN_Mod) (N := 25) hx hb ht fN_Mod hown hK hP 0 rfl rfl 2 (by decide) (ht _ mw_974) (fun _ h9 => h9) rfl dN_Mod_lastEnd_45 ?_
    refine xn_add hx hb dN_Mod_lastEnd_48 ?_
    refine lv_iconst (v := (zi true)) hx hb dN_Mod_lastEnd_49 (by decide) ?_
    refine xz_ast hx hb hK hP hD hS 6 1 rfl rfl dN_Mod_lastEnd_50 (by omega) (by omega) (fun H locs hP hD hS => ?_)
    have hP : va_P D clN [(o, .inr (12, [.int (nI th), .int (nI n), .int (nI b), .ref (q 3), .ref (q 4), .ref (q 5), .ref (q 6), .ref (q 7), .int (nI len), .ref (q 9), .ref (q 10), .ref (q 11), .ref (q 12), .ref (q 13), .ref (q 14), .ref (q 15), .ref (q 16), .ref (q 17), .int (nI tr), .int (nI hi), .ref (q 20), .ref (q 21), .ref (q 22), .ref (q 23), .int (nI ma)])), (q 3, .inl (cI, 200, .inl (ni K))), (q 4, .inl (cI, 200, .inl vI)), (q 5, .inl (cI, 200, .inl fI)), (q 6, .inl (cI, 200, .inl sI)), (q 7, .inl (cI, 200, .inl (ni u))), (q 10, .inl (cZ, 40200, .inl (zb (ub f ((200 * fr) + b) true))))] H := hP
    have hD : va_D A [(o, .inr (12, [.int (nI th), .int (nI n), .int (nI b), .ref (q 3), .ref (q 4), .ref (q 5), .ref (q 6), .ref (q 7), .int (nI len), .ref (q 9), .ref (q 10), .ref (q 11), .ref (q 12), .ref (q 13), .ref (q 14), .ref (q 15), .ref (q 16), .ref (q 17), .int (nI tr), .int (nI hi), .ref (q 20), .ref (q 21), .ref (q 22), .ref (q 23), .int (nI ma)])), (q 3, .inl (cI, 200, .inl (ni K))), (q 4, .inl (cI, 200, .inl vI)), (q 5, .inl (cI, 200, .inl fI)), (q 6, .inl (cI, 200, .inl sI)), (q 7, .inl (cI, 200, .inl (ni u))), (q 10, .inl (cZ, 40200, .inl (zb (ub f ((200 * fr) + b) true))))] := hD
    refine lv_iconst (v := (-1)) hx hb dN_Mod_lastEnd_51 (by decide) ?_
    refine lv_istore_n (lv' := [(2, .int (-1)), (0, .ref o), (1, .int (nI fr))]) hx hb dN_Mod_lastEnd_52 rfl hl (by decide) rfl (fun ls hl => ?_)
    refine lv_iload_n hx hb dN_Mod_lastEnd_53 rfl (lv_at hl 2 rfl) ?_
    refine lv_istore_n (lv' := [(3, .int (nI fr)), (2, .int (-1)), (0, .ref o), (1, .int (nI fr))]) hx hb dN_Mod_lastEnd_54 rfl hl (by decide) rfl (fun ls hl => ?_)
    refine vx_loop (α := Int32 × Nat × (Nat → Bool)) (fun (vv : Int32 × Nat × (Nat → Bool)) (H : Heap) (locs : List Loc) (ls : Array Slot) => match vv with | (x, p, f) => va_P D clN [(o, .inr (12, [.int (nI th), .int (nI n), .int (nI b), .ref (q 3), .ref (q 4), .ref (q 5), .ref (q 6), .ref (q 7), .int (nI len), .ref (q 9), .ref (q 10), .ref (q 11), .ref (q 12), .ref (q 13), .ref (q 14), .ref (q 15), .ref (q 16), .ref (q 17), .int (nI tr), .int (nI hi), .ref (q 20), .ref (q 21), .ref (q 22), .ref (q 23), .int (nI ma)])), (q 3, .inl (cI, 200, .inl (ni K))), (q 4, .inl (cI, 200, .inl vI)), (q 5, .inl (cI, 200, .inl fI)), (q 6, .inl (cI, 200, .inl sI)), (q 7, .inl (cI, 200, .inl (ni u))), (q 10, .inl (cZ, 40200, .inl (zb f)))] H ∧ va_D A [(o, .inr (12, [.int (nI th), .int (nI n), .int (nI b), .ref (q 3), .ref (q 4), .ref (q 5), .ref (q 6), .ref (q 7), .int (nI len), .ref (q 9), .ref (q 10), .ref (q 11), .ref (q 12), .ref (q 13), .ref (q 14), .ref (q 15), .ref (q 16), .ref (q 17), .int (nI tr), .int (nI hi), .ref (q 20), .ref (q 21), .ref (q 22), .ref (q 23), .int (nI ma)])), (q 3, .inl (cI, 200, .inl (ni K))), (q 4, .inl (cI, 200, .inl vI)), (q 5, .inl (cI, 200, .inl fI)), (q 6, .inl (cI, 200, .inl sI)), (q 7, .inl (cI, 200, .inl (ni u))), (q 10, .inl (cZ, 40200, .inl (zb f)))] ∧ va_S A s.heap H locs ∧ lv_has ls 7 [(0, .ref o), (1, .int (nI fr)), (2, .int x), (3, .int (nI p))] ∧ (fr ≤ p ∧ p ≤ len + 1 ∧ Blw K V F S len u fr b n p f ∧ (p ≤ len → Nil len n p f ∧ Sfw K V F S len u fr b n p f) ∧ Las K V F S len u fr b p x)) (fun (vv : Int32 × Nat × (Nat → Bool)) => match vv with | (x, p, f) => len + 1 - p) 55 [] ?_ (-1, fr, ub f ((200 * fr) + b) true) ⟨hP, hD, hS, lv_sub hl [2, 3, 1, 0] rfl, ⟨by omega, by omega, hini.1, fun _ => hini.2, Or.inl ⟨rfl, fun p1 h1 hw => absurd (Fw_ge hw) (by omega)⟩⟩⟩
    intro vv H locs ls hq ih_55_2
    obtain ⟨x, p, f⟩ := vv
    obtain ⟨hP, hD, hS, hl, hI⟩ := hq
    obtain ⟨hp1, hp2, hbl, hns, hla⟩ := hI
    refine lv_iload_n hx hb dN_Mod_lastEnd_55 rfl (lv_at hl 3 rfl) ?_
    refine lv_aload_n hx hb dN_Mod_lastEnd_56 rfl (lv_at hl 0 rfl) ?_
    refine va_get (D := D) (ci := 12) (v := .int (nI len)) (C := RN_Mod) (T := FN_Mod) (N := 25) hx hb ht fN_Mod hown hK hP 0 rfl rfl 8 (by decide) (ht _ mw_980) (fun _ h9 => h9) rfl dN_Mod_lastEnd_57 ?_
    refine xn_gt (tgt := 328) hx hb dN_Mod_lastEnd_60 (by decide) (by omega) (by omega) (fun c_60_3 => ?_) (fun c_60_3 => ?_)
    · skip
      refine lv_iload_n hx hb dN_Mod_lastEnd_328 rfl (lv_at hl 2 rfl) ?_
      exact vx_iret C hK hP hD hS dN_Mod_lastEnd_329 (Nat.le_of_ble_eq_true rfl) (Nat.le_of_ble_eq_true rfl) (⟨f, rfl, by rw [show len + 1 = p by omega]; exact hla⟩)
    · skip
      refine lv_iconst (v := (zi true)) hx hb dN_Mod_lastEnd_63 (by decide) ?_
      refine lv_istore (lv' := [(4, .int (zi true)), (0, .ref o), (1, .int (nI fr)), (2, .int x), (3, .int (nI p))]) hx hb dN_Mod_lastEnd_64 hl (by decide) rfl (fun ls hl => ?_)
      refine vx_loop (α := (Nat → Bool) × Bool) (fun (vv : (Nat → Bool) × Bool) (H : Heap) (locs : List Loc) (ls : Array Slot) => match vv with | (f, mo) => va_P D clN [(o, .inr (12, [.int (nI th), .int (nI n), .int (nI b), .ref (q 3), .ref (q 4), .ref (q 5), .ref (q 6), .ref (q 7), .int (nI len), .ref (q 9), .ref (q 10), .ref (q 11), .ref (q 12), .ref (q 13), .ref (q 14), .ref (q 15), .ref (q 16), .ref (q 17), .int (nI tr), .int (nI hi), .ref (q 20), .ref (q 21), .ref (q 22), .ref (q 23), .int (nI ma)])), (q 3, .inl (cI, 200, .inl (ni K))), (q 4, .inl (cI, 200, .inl vI)), (q 5, .inl (cI, 200, .inl fI)), (q 6, .inl (cI, 200, .inl sI)), (q 7, .inl (cI, 200, .inl (ni u))), (q 10, .inl (cZ, 40200, .inl (zb f)))] H ∧ va_D A [(o, .inr (12, [.int (nI th), .int (nI n), .int (nI b), .ref (q 3), .ref (q 4), .ref (q 5), .ref (q 6), .ref (q 7), .int (nI len), .ref (q 9), .ref (q 10), .ref (q 11), .ref (q 12), .ref (q 13), .ref (q 14), .ref (q 15), .ref (q 16), .ref (q 17), .int (nI tr), .int (nI hi), .ref (q 20), .ref (q 21), .ref (q 22), .ref (q 23), .int (nI ma)])), (q 3, .inl (cI, 200, .inl (ni K))), (q 4, .inl (cI, 200, .inl vI)), (q 5, .inl (cI, 200, .inl fI)), (q 6, .inl (cI, 200, .inl sI)), (q 7, .inl (cI, 200, .inl (ni u))), (q 10, .inl (cZ, 40200, .inl (zb f)))] ∧ va_S A s.heap H locs ∧ lv_has ls 7 [(0, .ref o), (1, .int (nI fr)), (2, .int x), (3, .int (nI p)), (4, .int (zi mo))] ∧ (Blw K V F S len u fr b n p f ∧ Nil len n p f ∧ Sfw K V F S len u fr b n p f ∧ (mo = false → ∀ k, 1 ≤ k → k < n → Cfw K V F S len u p k f))) (fun (vv : (Nat → Bool) × Bool) => match vv with | (f, mo) => cntF n f p + (if mo = true then 1 else 0)) 66 [] ?_ (f, true) ⟨hP, hD, hS, lv_sub hl [1, 2, 3, 4, 0] rfl, ⟨hbl, (hns (by omega)).1, (hns (by omega)).2, fun h => by cases h⟩⟩
      intro vv H locs ls hq ih_66_4
      obtain ⟨f, mo⟩ := vv
      obtain ⟨hP, hD, hS, hl, hI⟩ := hq
      obtain ⟨hbl2, hni2, hsf2, hcl⟩ := hI
      refine lv_iload hx hb dN_Mod_lastEnd_66 (lv_at hl 4 rfl) ?_
      refine xz_eq0 (tgt := 236) hx hb dN_Mod_lastEnd_68 (by decide) (fun c_68_5 => ?_) (fun c_68_5 => ?_)
      · skip
        refine lv_iconst (v := (nI 1)) hx hb dN_Mod_lastEnd_236 (by decide) ?_
        refine lv_istore (lv' := [(5, .int (nI 1)), (0, .ref o), (1, .int (nI fr)), (2, .int x), (3, .int (nI p)), (4, .int (zi mo))]) hx hb dN_Mod_lastEnd_237 hl (by decide) rfl (fun ls hl => ?_)
        refine vx_loop (α := (Nat → Bool) × Nat) (fun (vv : (Nat → Bool) × Nat) (H : Heap) (locs : List Loc) (ls : Array Slot) => match vv with | (f2, k2) => va_P D clN [(o, .inr (12, [.int (nI th), .int (nI n), .int (nI b), .ref (q 3), .ref (q 4), .ref (q 5), .ref (q 6), .ref (q 7), .int (nI len), .ref (q 9), .ref (q 10), .ref (q 11), .ref (q 12), .ref (q 13), .ref (q 14), .ref (q 15), .ref (q 16), .ref (q 17), .int (nI tr), .int (nI hi), .ref (q 20), .ref (q 21), .ref (q 22), .ref (q 23), .int (nI ma)])), (q 3, .inl (cI, 200, .inl (ni K))), (q 4, .inl (cI, 200, .inl vI)), (q 5, .inl (cI, 200, .inl fI)), (q 6, .inl (cI, 200, .inl sI)), (q 7, .inl (cI, 200, .inl (ni u))), (q 10, .inl (cZ, 40200, .inl (zb f2)))] H ∧ va_D A [(o, .inr (12, [.int (nI th), .int (nI n), .int (nI b), .ref (q 3), .ref (q 4), .ref (q 5), .ref (q 6), .ref (q 7), .int (nI len), .ref (q 9), .ref (q 10), .ref (q 11), .ref (q 12), .ref (q 13), .ref (q 14), .ref (q 15), .ref (q 16), .ref (q 17), .int (nI tr), .int (nI hi), .ref (q 20), .ref (q 21), .ref (q 22), .ref (q 23), .int (nI ma)])), (q 3, .inl (cI, 200, .inl (ni K))), (q 4, .inl (cI, 200, .inl vI)), (q 5, .inl (cI, 200, .inl fI)), (q 6, .inl (cI, 200, .inl sI)), (q 7, .inl (cI, 200, .inl (ni u))), (q 10, .inl (cZ, 40200, .inl (zb f2)))] ∧ va_S A s.heap H locs ∧ lv_has ls 7 [(0, .ref o), (1, .int (nI fr)), (2, .int x), (3, .int (nI p)), (5, .int (nI k2))] ∧ (1 ≤ k2 ∧ k2 ≤ n ∧ Ovr K V F S len u fr b n p k2 f2)) (fun (vv : (Nat → Bool) × Nat) => match vv with | (f2, k2) => n - k2) 239 [] ?_ (f, 1) ⟨hP, hD, hS, lv_sub hl [1, 2, 3, 4, 0] rfl, ⟨by omega, by omega, Ovr_0 (frow_done hb0 (fun i h1 h2 h3 => (hf i h1 h2 h3).2) (fun i h1 h2 h3 => (hs i h1 h2 h3).2) hsf2 (hcl c_68_5)) hbl2 hni2⟩⟩
        intro vv H locs ls hq ih_239_6
        obtain ⟨f2, k2⟩ := vv
        obtain ⟨hP, hD, hS, hl, hI⟩ := hq
        obtain ⟨hk21, hk22, hov⟩ := hI
        refine lv_iload hx hb dN_Mod_lastEnd_239 (lv_at hl 4 rfl) ?_
        refine lv_aload_n hx hb dN_Mod_lastEnd_241 rfl (lv_at hl 0 rfl) ?_
        refine va_get (D := D) (ci := 12) (v := .int (nI n)) (C := RN_Mod) (T := FN_Mod) (N := 25) hx hb ht fN_Mod hown hK hP 0 rfl rfl 1 (by decide) (ht _ mw_973) (fun _ h9 => h9) rfl dN_Mod_lastEnd_242 ?_
        refine xn_ge (tgt := 303) hx hb dN_Mod_lastEnd_245 (by decide) (by omega) (by omega) (fun c_245_7 => ?_) (fun c_245_7 => ?_)
        · skip
          refine lv_aload_n hx hb dN_Mod_lastEnd_303 rfl (lv_at hl 0 rfl) ?_
          refine va_get (D := D) (ci := 12) (v := .ref (q 10)) (C := RN_Mod) (T := FN_Mod) (N := 25) hx hb ht fN_Mod hown hK hP 0 rfl rfl 10 (by decide) (ht _ mw_982) (fun _ h9 => h9) rfl dN_Mod_lastEnd_304 ?_
          refine lv_sipush (v := (nI 200)) hx hb dN_Mod_lastEnd_307 (by decide) ?_
          refine lv_iload_n hx hb dN_Mod_lastEnd_310 rfl (lv_at hl 3 rfl) ?_
          refine xn_mul hx hb dN_Mod_lastEnd_311 ?_
          refine xz_ald hx hb hK hP 6 1 rfl rfl dN_Mod_lastEnd_312 (by omega) (by omega) ?_
          refine xz_eq0 (tgt := 320) hx hb dN_Mod_lastEnd_313 (by decide) (fun c_313_8 => ?_) (fun c_313_8 => ?_)
          · skip
            refine lv_iload_n hx hb dN_Mod_lastEnd_320 rfl (lv_at hl 2 rfl) ?_
            refine lv_istore_n (lv' := [(2, .int x), (0, .ref o), (1, .int (nI fr)), (3, .int (nI p)), (5, .int (nI k2))]) hx hb dN_Mod_lastEnd_321 rfl hl (by decide) rfl (fun ls hl => ?_)
            refine lv_iinc (v := (nI (p + 1))) (lv' := [(3, .int (nI (p + 1))), (2, .int x), (0, .ref o), (1, .int (nI fr)), (5, .int (nI k2))]) hx hb dN_Mod_lastEnd_322 hl (k := 3) rfl (nI_1 _) (by decide) rfl (fun ls hl => ?_)
            refine lv_goto (tgt := 55) hx hb dN_Mod_lastEnd_325 (by decide) ?_
            exact ih_55_2 (x, p + 1, f2) _ _ _ ⟨hP, hD, hS, lv_sub hl [2, 3, 1, 0] rfl, ⟨by omega, by omega, Blw_s hov.2.1 hov.1, fun h => ⟨(hov.2.2 (by omega)).2, Sfw_nxt c_245_7 (by omega) hb0 (fun i h1 h2 h3 => (hf i h1 h2 h3).2) (fun i h1 h2 h3 => (hs i h1 h2 h3).2) (hov.2.2 (by omega)).1⟩, Las_f hla (fun h => by have h8 := (hov.1 0 (by omega)).mpr h; rw [Nat.add_zero, c_313_8] at h8; cases h8)⟩⟩ (show (len + 1 - (p + 1)) < (len + 1 - p) from by omega)
          · skip
            refine lv_iload_n hx hb dN_Mod_lastEnd_316 rfl (lv_at hl 3 rfl) ?_
            refine lv_goto (tgt := 321) hx hb dN_Mod_lastEnd_317 (by decide) ?_
            refine lv_istore_n (lv' := [(2, .int (nI p)), (0, .ref o), (1, .int (nI fr)), (3, .int (nI p)), (5, .int (nI k2))]) hx hb dN_Mod_lastEnd_321 rfl hl (by decide) rfl (fun ls hl => ?_)
            refine lv_iinc (v := (nI (p + 1))) (lv' := [(3, .int (nI (p + 1))), (2, .int (nI p)), (0, .ref o), (1, .int (nI fr)), (5, .int (nI k2))]) hx hb dN_Mod_lastEnd_322 hl (k := 3) rfl (nI_1 _) (by decide) rfl (fun ls hl => ?_)
            refine lv_goto (tgt := 55) hx hb dN_Mod_lastEnd_325 (by decide) ?_
            exact ih_55_2 (nI (p), p + 1, f2) _ _ _ ⟨hP, hD, hS, lv_sub hl [2, 3, 1, 0] rfl, ⟨by omega, by omega, Blw_s hov.2.1 hov.1, fun h => ⟨(hov.2.2 (by omega)).2, Sfw_nxt c_245_7 (by omega) hb0 (fun i h1 h2 h3 => (hf i h1 h2 h3).2) (fun i h1 h2 h3 => (hs i h1 h2 h3).2) (hov.2.2 (by omega)).1⟩, Las_t (x := x) ((hov.1 0 (by omega)).mp c_313_8)⟩⟩ (show (len + 1 - (p + 1)) < (len + 1 - p) from by omega)
        · skip
          refine lv_aload_n hx hb dN_Mod_lastEnd_248 rfl (lv_at hl 0 rfl) ?_
          refine va_get (D := D) (ci := 12) (v := .ref (q 10)) (C := RN_Mod) (T := FN_Mod) (N := 25) hx hb ht fN_Mod hown hK hP 0 rfl rfl 10 (by decide) (ht _ mw_982) (fun _ h9 => h9) rfl dN_Mod_lastEnd_249 ?_
          refine lv_sipush (v := (nI 200)) hx hb dN_Mod_lastEnd_252 (by decide) ?_
          refine lv_iload_n hx hb dN_Mod_lastEnd_255 rfl (lv_at hl 3 rfl) ?_
          refine xn_mul hx hb dN_Mod_lastEnd_256 ?_
          refine lv_iload hx hb dN_Mod_lastEnd_257 (lv_at hl 4 rfl) ?_
          refine xn_add hx hb dN_Mod_lastEnd_259 ?_
          refine xz_ald hx hb hK hP 6 1 rfl rfl dN_Mod_lastEnd_260 (by omega) (by omega) ?_
          refine xz_eq0 (tgt := 297) hx hb dN_Mod_lastEnd_261 (by decide) (fun c_261_9 => ?_) (fun c_261_9 => ?_)
          · skip
            refine lv_iinc (v := (nI (k2 + 1))) (lv' := [(5, .int (nI (k2 + 1))), (0, .ref o), (1, .int (nI fr)), (2, .int x), (3, .int (nI p))]) hx hb dN_Mod_lastEnd_297 hl (k := 4) rfl (nI_1 _) (by decide) rfl (fun ls hl => ?_)
            refine lv_goto (tgt := 239) hx hb dN_Mod_lastEnd_300 (by decide) ?_
            exact ih_239_6 (f2, k2 + 1) _ _ _ ⟨hP, hD, hS, lv_sub hl [1, 2, 3, 4, 0] rfl, ⟨by omega, by omega, Ovr_keep hov (fun h9 => by have h8 := (hov.1 k2 (by omega)).mpr h9.1; rw [c_261_9] at h8; cases h8)⟩⟩ (show (n - (k2 + 1)) < (n - k2) from by omega)
          · skip
            refine lv_aload_n hx hb dN_Mod_lastEnd_264 rfl (lv_at hl 0 rfl) ?_
            refine lv_iload hx hb dN_Mod_lastEnd_265 (lv_at hl 4 rfl) ?_
            refine lv_iload_n hx hb dN_Mod_lastEnd_267 rfl (lv_at hl 3 rfl) ?_
            refine vx_calli (wc := [(o, .inr (12, [.int (nI th), .int (nI n), .int (nI b), .ref (q 3), .ref (q 4), .ref (q 5), .ref (q 6), .ref (q 7), .int (nI len), .ref (q 9), .ref (q 10), .ref (q 11), .ref (q 12), .ref (q 13), .ref (q 14), .ref (q 15), .ref (q 16), .ref (q 17), .int (nI tr), .int (nI hi), .ref (q 20), .ref (q 21), .ref (q 22), .ref (q 23), .int (nI ma)])), (q 3, .inl (cI, 200, .inl (ni K))), (q 4, .inl (cI, 200, .inl vI)), (q 7, .inl (cI, 200, .inl (ni u)))]) (wr := [(q 5, .inl (cI, 200, .inl fI)), (q 6, .inl (cI, 200, .inl sI)), (q 10, .inl (cZ, 40200, .inl (zb f2)))]) [0, 1, 2, 5] [3, 4, 6] hK hP hD hS hA rfl rfl (by decide) (by decide) (va_runV (As := [.int (nI k2), .int (nI p)]) (rest := []) ⟨hx, hb, hml, hown, ht⟩ (kMod_takes l D cI cZ cJ o q th n b len tr hi ma K V u vI k2 p hn hle (by omega) (by omega) hu hK5 hv hvb _) (⟨callB_of 2 ht (TB_in2 gN_Mod_takes) rfl rfl rfl (ht _ mw_14) (ht _ mw_1095) (by decide +kernel) ⟨Nat.le_of_ble_eq_true rfl, Nat.le_of_ble_eq_true rfl⟩, ht _ mw_1097, ht _ ms_36⟩) (vx_preV [0, 1, 2, 5] hK hP hD (by decide) rfl (ci := 12) rfl 0 rfl) rfl rfl hl.1 rfl (lv_room (Nat.le_of_ble_eq_true rfl)) dN_Mod_lastEnd_268 ⟨Nat.le_of_ble_eq_true rfl, Nat.le_of_ble_eq_true rfl⟩) (fun r1 w1 H locs hq hP hD hS => ?_)
            obtain ⟨rfl, rfl⟩ := hq
            have hP : va_P D clN [(o, .inr (12, [.int (nI th), .int (nI n), .int (nI b), .ref (q 3), .ref (q 4), .ref (q 5), .ref (q 6), .ref (q 7), .int (nI len), .ref (q 9), .ref (q 10), .ref (q 11), .ref (q 12), .ref (q 13), .ref (q 14), .ref (q 15), .ref (q 16), .ref (q 17), .int (nI tr), .int (nI hi), .ref (q 20), .ref (q 21), .ref (q 22), .ref (q 23), .int (nI ma)])), (q 3, .inl (cI, 200, .inl (ni K))), (q 4, .inl (cI, 200, .inl vI)), (q 5, .inl (cI, 200, .inl fI)), (q 6, .inl (cI, 200, .inl sI)), (q 7, .inl (cI, 200, .inl (ni u))), (q 10, .inl (cZ, 40200, .inl (zb f2)))] H := hP.sub [3, 4, 5, 0, 1, 6, 2] rfl
            have hD : va_D A [(o, .inr (12, [.int (nI th), .int (nI n), .int (nI b), .ref (q 3), .ref (q 4), .ref (q 5), .ref (q 6), .ref (q 7), .int (nI len), .ref (q 9), .ref (q 10), .ref (q 11), .ref (q 12), .ref (q 13), .ref (q 14), .ref (q 15), .ref (q 16), .ref (q 17), .int (nI tr), .int (nI hi), .ref (q 20), .ref (q 21), .ref (q 22), .ref (q 23), .int (nI ma)])), (q 3, .inl (cI, 200, .inl (ni K))), (q 4, .inl (cI, 200, .inl vI)), (q 5, .inl (cI, 200, .inl fI)), (q 6, .inl (cI, 200, .inl sI)), (q 7, .inl (cI, 200, .inl (ni u))), (q 10, .inl (cZ, 40200, .inl (zb f2)))] := hD.sub [3, 4, 5, 0, 1, 6, 2] (by decide) rfl
            refine xz_eq0 (tgt := 297) hx hb dN_Mod_lastEnd_271 (by decide) (fun c_271_10 => ?_) (fun c_271_10 => ?_)
            · skip
              refine lv_iinc (v := (nI (k2 + 1))) (lv' := [(5, .int (nI (k2 + 1))), (0, .ref o), (1, .int (nI fr)), (2, .int x), (3, .int (nI p))]) hx hb dN_Mod_lastEnd_297 hl (k := 4) rfl (nI_1 _) (by decide) rfl (fun ls hl => ?_)
              refine lv_goto (tgt := 239) hx hb dN_Mod_lastEnd_300 (by decide) ?_
              exact ih_239_6 (f2, k2 + 1) _ _ _ ⟨hP, hD, hS, lv_sub hl [1, 2, 3, 4, 0] rfl, ⟨by omega, by omega, Ovr_keep hov (fun h9 => by rw [c_271_10] at h9; cases h9.2)⟩⟩ (show (n - (k2 + 1)) < (n - k2) from by omega)
            · skip
              refine lv_aload_n hx hb dN_Mod_lastEnd_274 rfl (lv_at hl 0 rfl) ?_
              refine va_get (D := D) (ci := 12) (v := .ref (q 10)) (C := RN_Mod) (T := FN_Mod) (N := 25) hx hb ht fN_Mod hown hK hP 0 rfl rfl 10 (by decide) (ht _ mw_982) (fun _ h9 => h9) rfl dN_Mod_lastEnd_275 ?_
              refine lv_sipush (v := (nI 200)) hx hb dN_Mod_lastEnd_278 (by decide) ?_
              refine lv_iload_n hx hb dN_Mod_lastEnd_281 rfl (lv_at hl 3 rfl) ?_
              refine xn_mul hx hb dN_Mod_lastEnd_282 ?_
              refine lv_sipush (v := (nI 200)) hx hb dN_Mod_lastEnd_283 (by decide) ?_
              refine xn_add hx hb dN_Mod_lastEnd_286 ?_
              refine lv_aload_n hx hb dN_Mod_lastEnd_287 rfl (lv_at hl 0 rfl) ?_
              refine va_get (D := D) (ci := 12) (v := .ref (q 5)) (C := RN_Mod) (T := FN_Mod) (N := 25) hx hb ht fN_Mod hown hK hP 0 rfl rfl 5 (by decide) (ht _ mw_977) (fun _ h9 => h9) rfl dN_Mod_lastEnd_288 ?_
              refine lv_iload hx hb dN_Mod_lastEnd_291 (lv_at hl 4 rfl) ?_
              refine xi_ald hx hb hK hP 3 0 rfl rfl dN_Mod_lastEnd_293 (by omega) (by omega) ?_
              refine xn_top (y := (nI (F k2))) (hf k2 (by omega) (by omega) (Or.inl (takB_K c_271_10).2.1)).1 ?_
              refine xn_add hx hb dN_Mod_lastEnd_294 ?_
              refine lv_iconst (v := (zi true)) hx hb dN_Mod_lastEnd_295 (by decide) ?_
              refine xz_ast hx hb hK hP hD hS 6 1 rfl rfl dN_Mod_lastEnd_296 (by have := (hf k2 (by omega) (by omega) (Or.inl (takB_K c_271_10).2.1)).2; have := (takB_K c_271_10).2.2.1; omega) (by omega) (fun H locs hP hD hS => ?_)
              have hP : va_P D clN [(o, .inr (12, [.int (nI th), .int (nI n), .int (nI b), .ref (q 3), .ref (q 4), .ref (q 5), .ref (q 6), .ref (q 7), .int (nI len), .ref (q 9), .ref (q 10), .ref (q 11), .ref (q 12), .ref (q 13), .ref (q 14), .ref (q 15), .ref (q 16), .ref (q 17), .int (nI tr), .int (nI hi), .ref (q 20), .ref (q 21), .ref (q 22), .ref (q 23), .int (nI ma)])), (q 3, .inl (cI, 200, .inl (ni K))), (q 4, .inl (cI, 200, .inl vI)), (q 5, .inl (cI, 200, .inl fI)), (q 6, .inl (cI, 200, .inl sI)), (q 7, .inl (cI, 200, .inl (ni u))), (q 10, .inl (cZ, 40200, .inl (zb (ub f2 (((200 * p) + 200) + (F k2)) true))))] H := hP
              have hD : va_D A [(o, .inr (12, [.int (nI th), .int (nI n), .int (nI b), .ref (q 3), .ref (q 4), .ref (q 5), .ref (q 6), .ref (q 7), .int (nI len), .ref (q 9), .ref (q 10), .ref (q 11), .ref (q 12), .ref (q 13), .ref (q 14), .ref (q 15), .ref (q 16), .ref (q 17), .int (nI tr), .int (nI hi), .ref (q 20), .ref (q 21), .ref (q 22), .ref (q 23), .int (nI ma)])), (q 3, .inl (cI, 200, .inl (ni K))), (q 4, .inl (cI, 200, .inl vI)), (q 5, .inl (cI, 200, .inl fI)), (q 6, .inl (cI, 200, .inl sI)), (q 7, .inl (cI, 200, .inl (ni u))), (q 10, .inl (cZ, 40200, .inl (zb (ub f2 (((200 * p) + 200) + (F k2)) true))))] := hD
              refine lv_iinc (v := (nI (k2 + 1))) (lv' := [(5, .int (nI (k2 + 1))), (0, .ref o), (1, .int (nI fr)), (2, .int x), (3, .int (nI p))]) hx hb dN_Mod_lastEnd_297 hl (k := 4) rfl (nI_1 _) (by decide) rfl (fun ls hl => ?_)
              refine lv_goto (tgt := 239) hx hb dN_Mod_lastEnd_300 (by decide) ?_
              exact ih_239_6 (ub f2 (((200 * p) + 200) + (F k2)) true, k2 + 1) _ _ _ ⟨hP, hD, hS, lv_sub hl [1, 2, 3, 4, 0] rfl, ⟨by omega, by omega, Ovr_add hn (hf k2 (by omega) (by omega) (Or.inl (takB_K c_271_10).2.1)).2 (by omega) hov ((hov.1 k2 (by omega)).mp c_261_9) c_271_10⟩⟩ (show (n - (k2 + 1)) < (n - k2) from by omega)
      · skip
        refine lv_iconst (v := (zi false)) hx hb dN_Mod_lastEnd_71 (by decide) ?_
        refine lv_istore (lv' := [(4, .int (zi false)), (0, .ref o), (1, .int (nI fr)), (2, .int x), (3, .int (nI p))]) hx hb dN_Mod_lastEnd_72 hl (by decide) rfl (fun ls hl => ?_)
        refine lv_iconst (v := (nI 1)) hx hb dN_Mod_lastEnd_74 (by decide) ?_
        refine lv_istore (lv' := [(5, .int (nI 1)), (4, .int (zi false)), (0, .ref o), (1, .int (nI fr)), (2, .int x), (3, .int (nI p))]) hx hb dN_Mod_lastEnd_75 hl (by decide) rfl (fun ls hl => ?_)
        refine vx_loop (α := (Nat → Bool) × Bool × Nat) (fun (vv : (Nat → Bool) × Bool × Nat) (H : Heap) (locs : List Loc) (ls : Array Slot) => match vv with | (f1, mo1, k1) => va_P D clN [(o, .inr (12, [.int (nI th), .int (nI n), .int (nI b), .ref (q 3), .ref (q 4), .ref (q 5), .ref (q 6), .ref (q 7), .int (nI len), .ref (q 9), .ref (q 10), .ref (q 11), .ref (q 12), .ref (q 13), .ref (q 14), .ref (q 15), .ref (q 16), .ref (q 17), .int (nI tr), .int (nI hi), .ref (q 20), .ref (q 21), .ref (q 22), .ref (q 23), .int (nI ma)])), (q 3, .inl (cI, 200, .inl (ni K))), (q 4, .inl (cI, 200, .inl vI)), (q 5, .inl (cI, 200, .inl fI)), (q 6, .inl (cI, 200, .inl sI)), (q 7, .inl (cI, 200, .inl (ni u))), (q 10, .inl (cZ, 40200, .inl (zb f1)))] H ∧ va_D A [(o, .inr (12, [.int (nI th), .int (nI n), .int (nI b), .ref (q 3), .ref (q 4), .ref (q 5), .ref (q 6), .ref (q 7), .int (nI len), .ref (q 9), .ref (q 10), .ref (q 11), .ref (q 12), .ref (q 13), .ref (q 14), .ref (q 15), .ref (q 16), .ref (q 17), .int (nI tr), .int (nI hi), .ref (q 20), .ref (q 21), .ref (q 22), .ref (q 23), .int (nI ma)])), (q 3, .inl (cI, 200, .inl (ni K))), (q 4, .inl (cI, 200, .inl vI)), (q 5, .inl (cI, 200, .inl fI)), (q 6, .inl (cI, 200, .inl sI)), (q 7, .inl (cI, 200, .inl (ni u))), (q 10, .inl (cZ, 40200, .inl (zb f1)))] ∧ va_S A s.heap H locs ∧ lv_has ls 7 [(0, .ref o), (1, .int (nI fr)), (2, .int x), (3, .int (nI p)), (4, .int (zi mo1)), (5, .int (nI k1))] ∧ (1 ≤ k1 ∧ k1 ≤ n ∧ Blw K V F S len u fr b n p f1 ∧ Nil len n p f1 ∧ Sfw K V F S len u fr b n p f1 ∧ cntF n f1 p ≤ cntF n f p ∧ (mo1 = true → cntF n f1 p < cntF n f p) ∧ (mo1 = false → f1 = f ∧ ∀ k, 1 ≤ k → k < k1 → Cfw K V F S len u p k f1))) (fun (vv : (Nat → Bool) × Bool × Nat) => match vv with | (f1, mo1, k1) => n - k1) 77 [] ?_ (f, false, 1) ⟨hP, hD, hS, lv_sub hl [2, 3, 4, 5, 1, 0] rfl, ⟨by omega, by omega, hbl2, hni2, hsf2, Nat.le_refl _, (fun h => by cases h), fun _ => ⟨rfl, fun k h1 h2 => absurd h1 (by omega)⟩⟩⟩
        intro vv H locs ls hq ih_77_11
        obtain ⟨f1, mo1, k1⟩ := vv
        obtain ⟨hP, hD, hS, hl, hI⟩ := hq
        obtain ⟨hk11, hk1n, hbl1, hni1, hsf1, hct1, hmt1, hmo1⟩ := hI
        refine lv_iload hx hb dN_Mod_lastEnd_77 (lv_at hl 5 rfl) ?_
        refine lv_aload_n hx hb dN_Mod_lastEnd_79 rfl (lv_at hl 0 rfl) ?_
        refine va_get (D := D) (ci := 12) (v := .int (nI n)) (C := RN_Mod) (T := FN_Mod) (N := 25) hx hb ht fN_Mod hown hK hP 0 rfl rfl 1 (by decide) (ht _ mw_973) (fun _ h9 => h9) rfl dN_Mod_lastEnd_80 ?_
        refine xn_ge (tgt := 233) hx hb dN_Mod_lastEnd_83 (by decide) (by omega) (by omega) (fun c_83_12 => ?_) (fun c_83_12 => ?_)
        · skip
          refine lv_goto (tgt := 66) hx hb dN_Mod_lastEnd_233 (by decide) ?_
          exact ih_66_4 (f1, mo1) _ _ _ ⟨hP, hD, hS, lv_sub hl [0, 1, 2, 3, 4] rfl, ⟨hbl1, hni1, hsf1, fun h k h1 h2 => (hmo1 h).2 k h1 (by omega)⟩⟩ (show (cntF n f1 p + (if mo1 = true then 1 else 0)) < (cntF n f p + (if mo = true then 1 else 0)) from by rw [if_pos c_68_5]; cases mo1 with | true => (have := hmt1 rfl; simp; omega) | false => (rw [(hmo1 rfl).1]; simp))
        · skip
          refine lv_aload_n hx hb dN_Mod_lastEnd_86 rfl (lv_at hl 0 rfl) ?_
          refine va_get (D := D) (ci := 12) (v := .ref (q 10)) (C := RN_Mod) (T := FN_Mod) (N := 25) hx hb ht fN_Mod hown hK hP 0 rfl rfl 10 (by decide) (ht _ mw_982) (fun _ h9 => h9) rfl dN_Mod_lastEnd_87 ?_
          refine lv_sipush (v := (nI 200)) hx hb dN_Mod_lastEnd_90 (by decide) ?_
          refine lv_iload_n hx hb dN_Mod_lastEnd_93 rfl (lv_at hl 3 rfl) ?_
          refine xn_mul hx hb dN_Mod_lastEnd_94 ?_
          refine lv_iload hx hb dN_Mod_lastEnd_95 (lv_at hl 5 rfl) ?_
          refine xn_add hx hb dN_Mod_lastEnd_97 ?_
          refine xz_ald hx hb hK hP 6 1 rfl rfl dN_Mod_lastEnd_98 (by omega) (by omega) ?_
          refine xz_eq0 (tgt := 227) hx hb dN_Mod_lastEnd_99 (by decide) (fun c_99_13 => ?_) (fun c_99_13 => ?_)
          · skip
            refine lv_iinc (v := (nI (k1 + 1))) (lv' := [(5, .int (nI (k1 + 1))), (0, .ref o), (1, .int (nI fr)), (2, .int x), (3, .int (nI p)), (4, .int (zi mo1))]) hx hb dN_Mod_lastEnd_227 hl (k := 5) rfl (nI_1 _) (by decide) rfl (fun ls hl => ?_)
            refine lv_goto (tgt := 77) hx hb dN_Mod_lastEnd_230 (by decide) ?_
            exact ih_77_11 (f1, mo1, k1 + 1) _ _ _ ⟨hP, hD, hS, lv_sub hl [1, 2, 3, 4, 5, 0] rfl, ⟨by omega, by omega, hbl1, hni1, hsf1, hct1, hmt1, fun h => ⟨(hmo1 h).1, Cfw_more (hmo1 h).2 (fun h8 _ => by rw [c_99_13] at h8; cases h8)⟩⟩⟩ (show (n - (k1 + 1)) < (n - k1) from by omega)
          · skip
            refine lv_aload_n hx hb dN_Mod_lastEnd_102 rfl (lv_at hl 0 rfl) ?_
            refine lv_iload hx hb dN_Mod_lastEnd_103 (lv_at hl 5 rfl) ?_
            refine lv_iload_n hx hb dN_Mod_lastEnd_105 rfl (lv_at hl 3 rfl) ?_
            refine vx_calli (wc := [(o, .inr (12, [.int (nI th), .int (nI n), .int (nI b), .ref (q 3), .ref (q 4), .ref (q 5), .ref (q 6), .ref (q 7), .int (nI len), .ref (q 9), .ref (q 10), .ref (q 11), .ref (q 12), .ref (q 13), .ref (q 14), .ref (q 15), .ref (q 16), .ref (q 17), .int (nI tr), .int (nI hi), .ref (q 20), .ref (q 21), .ref (q 22), .ref (q 23), .int (nI ma)])), (q 3, .inl (cI, 200, .inl (ni K))), (q 4, .inl (cI, 200, .inl vI)), (q 7, .inl (cI, 200, .inl (ni u)))]) (wr := [(q 5, .inl (cI, 200, .inl fI)), (q 6, .inl (cI, 200, .inl sI)), (q 10, .inl (cZ, 40200, .inl (zb f1)))]) [0, 1, 2, 5] [3, 4, 6] hK hP hD hS hA rfl rfl (by decide) (by decide) (va_runV (As := [.int (nI k1), .int (nI p)]) (rest := []) ⟨hx, hb, hml, hown, ht⟩ (kMod_passes l D cI cZ cJ o q th n b len tr hi ma K V u vI k1 p hn hle (by omega) (by omega) hu hK5 hv hvb hv4 _) (⟨callB_of 2 ht (TB_in2 gN_Mod_passes) rfl rfl rfl (ht _ mw_14) (ht _ mw_1099) (by decide +kernel) ⟨Nat.le_of_ble_eq_true rfl, Nat.le_of_ble_eq_true rfl⟩, ht _ mw_1101, ht _ ms_37⟩) (vx_preV [0, 1, 2, 5] hK hP hD (by decide) rfl (ci := 12) rfl 0 rfl) rfl rfl hl.1 rfl (lv_room (Nat.le_of_ble_eq_true rfl)) dN_Mod_lastEnd_106 ⟨Nat.le_of_ble_eq_true rfl, Nat.le_of_ble_eq_true rfl⟩) (fun r1 w1 H locs hq hP hD hS => ?_)
            obtain ⟨rfl, rfl⟩ := hq
            have hP : va_P D clN [(o, .inr (12, [.int (nI th), .int (nI n), .int (nI b), .ref (q 3), .ref (q 4), .ref (q 5), .ref (q 6), .ref (q 7), .int (nI len), .ref (q 9), .ref (q 10), .ref (q 11), .ref (q 12), .ref (q 13), .ref (q 14), .ref (q 15), .ref (q 16), .ref (q 17), .int (nI tr), .int (nI hi), .ref (q 20), .ref (q 21), .ref (q 22), .ref (q 23), .int (nI ma)])), (q 3, .inl (cI, 200, .inl (ni K))), (q 4, .inl (cI, 200, .inl vI)), (q 5, .inl (cI, 200, .inl fI)), (q 6, .inl (cI, 200, .inl sI)), (q 7, .inl (cI, 200, .inl (ni u))), (q 10, .inl (cZ, 40200, .inl (zb f1)))] H := hP.sub [3, 4, 5, 0, 1, 6, 2] rfl
            have hD : va_D A [(o, .inr (12, [.int (nI th), .int (nI n), .int (nI b), .ref (q 3), .ref (q 4), .ref (q 5), .ref (q 6), .ref (q 7), .int (nI len), .ref (q 9), .ref (q 10), .ref (q 11), .ref (q 12), .ref (q 13), .ref (q 14), .ref (q 15), .ref (q 16), .ref (q 17), .int (nI tr), .int (nI hi), .ref (q 20), .ref (q 21), .ref (q 22), .ref (q 23), .int (nI ma)])), (q 3, .inl (cI, 200, .inl (ni K))), (q 4, .inl (cI, 200, .inl vI)), (q 5, .inl (cI, 200, .inl fI)), (q 6, .inl (cI, 200, .inl sI)), (q 7, .inl (cI, 200, .inl (ni u))), (q 10, .inl (cZ, 40200, .inl (zb f1)))] := hD.sub [3, 4, 5, 0, 1, 6, 2] (by decide) rfl
            refine xz_ne0 (tgt := 115) hx hb dN_Mod_lastEnd_109 (by decide) (fun c_109_14 => ?_) (fun c_109_14 => ?_)
            · skip
              refine vx_join (α := Nat) (fun j16 => j16 = if K k1 = 2 then S k1 else F k1) (fun j16 => F0 m 143 ls [.int (nI j16)]) (fun j16 hj16 => ?_) (fun Jj16 => ?_)
              · skip
                have hj_bb := hj16
                have hbbn : j16 < n := by rw [hj16]; split; exact (hs k1 (by omega) (by omega) (by assumption)).2; exact (hf k1 (by omega) (by omega) (by have := (pasB_K c_109_14).2; omega)).2
                refine lv_istore (lv' := [(6, .int (nI j16)), (0, .ref o), (1, .int (nI fr)), (2, .int x), (3, .int (nI p)), (4, .int (zi mo1)), (5, .int (nI k1))]) hx hb dN_Mod_lastEnd_143 hl (by decide) rfl (fun ls hl => ?_)
                refine vx_join (α := Bool) (fun j17 => j17 = (mo1 || (!f1 (200 * p + F k1) || !f1 (200 * p + j16)))) (fun j17 => F0 m 192 ls [.int (zi j17)]) (fun j17 hj17 => ?_) (fun Jj17 => ?_)
                · skip
                  have hj_mo := hj17
                  refine lv_istore (lv' := [(4, .int (zi j17)), (6, .int (nI j16)), (0, .ref o), (1, .int (nI fr)), (2, .int x), (3, .int (nI p)), (5, .int (nI k1))]) hx hb dN_Mod_lastEnd_192 hl (by decide) rfl (fun ls hl => ?_)
                  refine lv_aload_n hx hb dN_Mod_lastEnd_194 rfl (lv_at hl 2 rfl) ?_
                  refine va_get (D := D) (ci := 12) (v := .ref (q 10)) (C := RN_Mod) (T := FN_Mod) (N := 25) hx hb ht fN_Mod hown hK hP 0 rfl rfl 10 (by decide) (ht _ mw_982) (fun _ h9 => h9) rfl dN_Mod_lastEnd_195 ?_
                  refine lv_sipush (v := (nI 200)) hx hb dN_Mod_lastEnd_198 (by decide) ?_
                  refine lv_iload_n hx hb dN_Mod_lastEnd_201 rfl (lv_at hl 5 rfl) ?_
                  refine xn_mul hx hb dN_Mod_lastEnd_202 ?_
                  refine lv_aload_n hx hb dN_Mod_lastEnd_203 rfl (lv_at hl 2 rfl) ?_
                  refine va_get (D := D) (ci := 12) (v := .ref (q 5)) (C := RN_Mod) (T := FN_Mod) (N := 25) hx hb ht fN_Mod hown hK hP 0 rfl rfl 5 (by decide) (ht _ mw_977) (fun _ h9 => h9) rfl dN_Mod_lastEnd_204 ?_
                  refine lv_iload hx hb dN_Mod_lastEnd_207 (lv_at hl 6 rfl) ?_
                  refine xi_ald hx hb hK hP 3 0 rfl rfl dN_Mod_lastEnd_209 (by omega) (by omega) ?_
                  refine xn_top (y := (nI (F k1))) (hf k1 (by omega) (by omega) (by have := (pasB_K c_109_14).2; omega)).1 ?_
                  refine xn_add hx hb dN_Mod_lastEnd_210 ?_
                  refine lv_iconst (v := (zi true)) hx hb dN_Mod_lastEnd_211 (by decide) ?_
                  refine xz_ast hx hb hK hP hD hS 6 1 rfl rfl dN_Mod_lastEnd_212 (by have := (hf k1 (by omega) (by omega) (by have := (pasB_K c_109_14).2; omega)).2; omega) (by omega) (fun H locs hP hD hS => ?_)
                  have hP : va_P D clN [(o, .inr (12, [.int (nI th), .int (nI n), .int (nI b), .ref (q 3), .ref (q 4), .ref (q 5), .ref (q 6), .ref (q 7), .int (nI len), .ref (q 9), .ref (q 10), .ref (q 11), .ref (q 12), .ref (q 13), .ref (q 14), .ref (q 15), .ref (q 16), .ref (q 17), .int (nI tr), .int (nI hi), .ref (q 20), .ref (q 21), .ref (q 22), .ref (q 23), .int (nI ma)])), (q 3, .inl (cI, 200, .inl (ni K))), (q 4, .inl (cI, 200, .inl vI)), (q 5, .inl (cI, 200, .inl fI)), (q 6, .inl (cI, 200, .inl sI)), (q 7, .inl (cI, 200, .inl (ni u))), (q 10, .inl (cZ, 40200, .inl (zb (ub f1 ((200 * p) + (F k1)) true))))] H := hP
                  have hD : va_D A [(o, .inr (12, [.int (nI th), .int (nI n), .int (nI b), .ref (q 3), .ref (q 4), .ref (q 5), .ref (q 6), .ref (q 7), .int (nI len), .ref (q 9), .ref (q 10), .ref (q 11), .ref (q 12), .ref (q 13), .ref (q 14), .ref (q 15), .ref (q 16), .ref (q 17), .int (nI tr), .int (nI hi), .ref (q 20), .ref (q 21), .ref (q 22), .ref (q 23), .int (nI ma)])), (q 3, .inl (cI, 200, .inl (ni K))), (q 4, .inl (cI, 200, .inl vI)), (q 5, .inl (cI, 200, .inl fI)), (q 6, .inl (cI, 200, .inl sI)), (q 7, .inl (cI, 200, .inl (ni u))), (q 10, .inl (cZ, 40200, .inl (zb (ub f1 ((200 * p) + (F k1)) true))))] := hD
                  refine lv_aload_n hx hb dN_Mod_lastEnd_213 rfl (lv_at hl 2 rfl) ?_
                  refine va_get (D := D) (ci := 12) (v := .ref (q 10)) (C := RN_Mod) (T := FN_Mod) (N := 25) hx hb ht fN_Mod hown hK hP 0 rfl rfl 10 (by decide) (ht _ mw_982) (fun _ h9 => h9) rfl dN_Mod_lastEnd_214 ?_
                  refine lv_sipush (v := (nI 200)) hx hb dN_Mod_lastEnd_217 (by decide) ?_
                  refine lv_iload_n hx hb dN_Mod_lastEnd_220 rfl (lv_at hl 5 rfl) ?_
                  refine xn_mul hx hb dN_Mod_lastEnd_221 ?_
                  refine lv_iload hx hb dN_Mod_lastEnd_222 (lv_at hl 1 rfl) ?_
                  refine xn_add hx hb dN_Mod_lastEnd_224 ?_
                  refine lv_iconst (v := (zi true)) hx hb dN_Mod_lastEnd_225 (by decide) ?_
                  refine xz_ast hx hb hK hP hD hS 6 1 rfl rfl dN_Mod_lastEnd_226 (by omega) (by omega) (fun H locs hP hD hS => ?_)
                  have hP : va_P D clN [(o, .inr (12, [.int (nI th), .int (nI n), .int (nI b), .ref (q 3), .ref (q 4), .ref (q 5), .ref (q 6), .ref (q 7), .int (nI len), .ref (q 9), .ref (q 10), .ref (q 11), .ref (q 12), .ref (q 13), .ref (q 14), .ref (q 15), .ref (q 16), .ref (q 17), .int (nI tr), .int (nI hi), .ref (q 20), .ref (q 21), .ref (q 22), .ref (q 23), .int (nI ma)])), (q 3, .inl (cI, 200, .inl (ni K))), (q 4, .inl (cI, 200, .inl vI)), (q 5, .inl (cI, 200, .inl fI)), (q 6, .inl (cI, 200, .inl sI)), (q 7, .inl (cI, 200, .inl (ni u))), (q 10, .inl (cZ, 40200, .inl (zb (ub (ub f1 ((200 * p) + (F k1)) true) ((200 * p) + j16) true))))] H := hP
                  have hD : va_D A [(o, .inr (12, [.int (nI th), .int (nI n), .int (nI b), .ref (q 3), .ref (q 4), .ref (q 5), .ref (q 6), .ref (q 7), .int (nI len), .ref (q 9), .ref (q 10), .ref (q 11), .ref (q 12), .ref (q 13), .ref (q 14), .ref (q 15), .ref (q 16), .ref (q 17), .int (nI tr), .int (nI hi), .ref (q 20), .ref (q 21), .ref (q 22), .ref (q 23), .int (nI ma)])), (q 3, .inl (cI, 200, .inl (ni K))), (q 4, .inl (cI, 200, .inl vI)), (q 5, .inl (cI, 200, .inl fI)), (q 6, .inl (cI, 200, .inl sI)), (q 7, .inl (cI, 200, .inl (ni u))), (q 10, .inl (cZ, 40200, .inl (zb (ub (ub f1 ((200 * p) + (F k1)) true) ((200 * p) + j16) true))))] := hD
                  refine lv_iinc (v := (nI (k1 + 1))) (lv' := [(5, .int (nI (k1 + 1))), (4, .int (zi j17)), (6, .int (nI j16)), (0, .ref o), (1, .int (nI fr)), (2, .int x), (3, .int (nI p))]) hx hb dN_Mod_lastEnd_227 hl (k := 6) rfl (nI_1 _) (by decide) rfl (fun ls hl => ?_)
                  refine lv_goto (tgt := 77) hx hb dN_Mod_lastEnd_230 (by decide) ?_
                  exact ih_77_11 (ub (ub f1 ((200 * p) + (F k1)) true) ((200 * p) + j16) true, j17, k1 + 1) _ _ _ ⟨hP, hD, hS, lv_sub hl [3, 4, 5, 6, 1, 0] rfl, fpass_step hn (by omega) c_99_13 c_109_14 (fun i h1 h2 h3 => (hf i h1 h2 (by omega)).2) (fun i h1 h2 h3 => (hs i h1 h2 h3).2) hk11 hbl1 hni1 hsf1 hct1 hmt1 hmo1 hj_bb hj_mo⟩ (show (n - (k1 + 1)) < (n - k1) from by omega)
                · skip
                  refine lv_iload hx hb dN_Mod_lastEnd_145 (lv_at hl 5 rfl) ?_
                  refine xz_ne0 (tgt := 187) hx hb dN_Mod_lastEnd_147 (by decide) (fun c_147_17 => ?_) (fun c_147_17 => ?_)
                  · skip
                    refine lv_iconst (v := (zi true)) hx hb dN_Mod_lastEnd_187 (by decide) ?_
                    refine lv_goto (tgt := 192) hx hb dN_Mod_lastEnd_188 (by decide) ?_
                    exact Jj17 (true) (by simp [c_19_1, c_60_3, c_68_5, c_83_12, c_99_13, c_109_14, c_147_17])
                  · skip
                    refine lv_aload_n hx hb dN_Mod_lastEnd_150 rfl (lv_at hl 1 rfl) ?_
                    refine va_get (D := D) (ci := 12) (v := .ref (q 10)) (C := RN_Mod) (T := FN_Mod) (N := 25) hx hb ht fN_Mod hown hK hP 0 rfl rfl 10 (by decide) (ht _ mw_982) (fun _ h9 => h9) rfl dN_Mod_lastEnd_151 ?_
                    refine lv_sipush (v := (nI 200)) hx hb dN_Mod_lastEnd_154 (by decide) ?_
                    refine lv_iload_n hx hb dN_Mod_lastEnd_157 rfl (lv_at hl 4 rfl) ?_
                    refine xn_mul hx hb dN_Mod_lastEnd_158 ?_
                    refine lv_aload_n hx hb dN_Mod_lastEnd_159 rfl (lv_at hl 1 rfl) ?_
                    refine va_get (D := D) (ci := 12) (v := .ref (q 5)) (C := RN_Mod) (T := FN_Mod) (N := 25) hx hb ht fN_Mod hown hK hP 0 rfl rfl 5 (by decide) (ht _ mw_977) (fun _ h9 => h9) rfl dN_Mod_lastEnd_160 ?_
                    refine lv_iload hx hb dN_Mod_lastEnd_163 (lv_at hl 6 rfl) ?_
                    refine xi_ald hx hb hK hP 3 0 rfl rfl dN_Mod_lastEnd_165 (by omega) (by omega) ?_
                    refine xn_top (y := (nI (F k1))) (hf k1 (by omega) (by omega) (by have := (pasB_K c_109_14).2; omega)).1 ?_
                    refine xn_add hx hb dN_Mod_lastEnd_166 ?_
                    refine xz_ald hx hb hK hP 6 1 rfl rfl dN_Mod_lastEnd_167 (by have := (hf k1 (by omega) (by omega) (by have := (pasB_K c_109_14).2; omega)).2; omega) (by omega) ?_
                    refine xz_eq0 (tgt := 187) hx hb dN_Mod_lastEnd_168 (by decide) (fun c_168_18 => ?_) (fun c_168_18 => ?_)
                    · skip
                      refine lv_iconst (v := (zi true)) hx hb dN_Mod_lastEnd_187 (by decide) ?_
                      refine lv_goto (tgt := 192) hx hb dN_Mod_lastEnd_188 (by decide) ?_
                      exact Jj17 (true) (by simp [c_19_1, c_60_3, c_68_5, c_83_12, c_99_13, c_109_14, c_147_17, c_168_18])
                    · skip
                      refine lv_aload_n hx hb dN_Mod_lastEnd_171 rfl (lv_at hl 1 rfl) ?_
                      refine va_get (D := D) (ci := 12) (v := .ref (q 10)) (C := RN_Mod) (T := FN_Mod) (N := 25) hx hb ht fN_Mod hown hK hP 0 rfl rfl 10 (by decide) (ht _ mw_982) (fun _ h9 => h9) rfl dN_Mod_lastEnd_172 ?_
                      refine lv_sipush (v := (nI 200)) hx hb dN_Mod_lastEnd_175 (by decide) ?_
                      refine lv_iload_n hx hb dN_Mod_lastEnd_178 rfl (lv_at hl 4 rfl) ?_
                      refine xn_mul hx hb dN_Mod_lastEnd_179 ?_
                      refine lv_iload hx hb dN_Mod_lastEnd_180 (lv_at hl 0 rfl) ?_
                      refine xn_add hx hb dN_Mod_lastEnd_182 ?_
                      refine xz_ald hx hb hK hP 6 1 rfl rfl dN_Mod_lastEnd_183 (by omega) (by omega) ?_
                      refine xz_ne0 (tgt := 191) hx hb dN_Mod_lastEnd_184 (by decide) (fun c_184_19 => ?_) (fun c_184_19 => ?_)
                      · skip
                        refine lv_iconst (v := (zi false)) hx hb dN_Mod_lastEnd_191 (by decide) ?_
                        exact Jj17 (false) (by simp [c_19_1, c_60_3, c_68_5, c_83_12, c_99_13, c_109_14, c_147_17, c_168_18, c_184_19])
                      · skip
                        refine lv_iconst (v := (zi true)) hx hb dN_Mod_lastEnd_187 (by decide) ?_
                        refine lv_goto (tgt := 192) hx hb dN_Mod_lastEnd_188 (by decide) ?_
                        exact Jj17 (true) (by simp [c_19_1, c_60_3, c_68_5, c_83_12, c_99_13, c_109_14, c_147_17, c_168_18, c_184_19])
              · skip
                refine lv_aload_n hx hb dN_Mod_lastEnd_115 rfl (lv_at hl 0 rfl) ?_
                refine va_get (D := D) (ci := 12) (v := .ref (q 3)) (C := RN_Mod) (T := FN_Mod) (N := 25) hx hb ht fN_Mod hown hK hP 0 rfl rfl 3 (by decide) (ht _ mw_975) (fun _ h9 => h9) rfl dN_Mod_lastEnd_116 ?_
                refine lv_iload hx hb dN_Mod_lastEnd_119 (lv_at hl 5 rfl) ?_
                refine xn_ald hx hb hK hP 1 0 rfl rfl dN_Mod_lastEnd_121 (by omega) (by omega) ?_
                refine lv_iconst (v := (nI 2)) hx hb dN_Mod_lastEnd_122 (by decide) ?_
                refine xn_ne (tgt := 136) hx hb dN_Mod_lastEnd_123 (by decide) (by have := hK5 k1; omega) (by omega) (fun c_123_20 => ?_) (fun c_123_20 => ?_)
                · skip
                  refine lv_aload_n hx hb dN_Mod_lastEnd_136 rfl (lv_at hl 0 rfl) ?_
                  refine va_get (D := D) (ci := 12) (v := .ref (q 5)) (C := RN_Mod) (T := FN_Mod) (N := 25) hx hb ht fN_Mod hown hK hP 0 rfl rfl 5 (by decide) (ht _ mw_977) (fun _ h9 => h9) rfl dN_Mod_lastEnd_137 ?_
                  refine lv_iload hx hb dN_Mod_lastEnd_140 (lv_at hl 5 rfl) ?_
                  refine xi_ald hx hb hK hP 3 0 rfl rfl dN_Mod_lastEnd_142 (by omega) (by omega) ?_
                  refine xn_top (y := (nI (F k1))) (hf k1 (by omega) (by omega) (by have := (pasB_K c_109_14).2; omega)).1 ?_
                  exact Jj16 (F k1) (by rw [if_neg c_123_20])
                · skip
                  refine lv_aload_n hx hb dN_Mod_lastEnd_126 rfl (lv_at hl 0 rfl) ?_
                  refine va_get (D := D) (ci := 12) (v := .ref (q 6)) (C := RN_Mod) (T := FN_Mod) (N := 25) hx hb ht fN_Mod hown hK hP 0 rfl rfl 6 (by decide) (ht _ mw_978) (fun _ h9 => h9) rfl dN_Mod_lastEnd_127 ?_
                  refine lv_iload hx hb dN_Mod_lastEnd_130 (lv_at hl 5 rfl) ?_
                  refine xi_ald hx hb hK hP 4 0 rfl rfl dN_Mod_lastEnd_132 (by omega) (by omega) ?_
                  refine xn_top (y := (nI (S k1))) (hs k1 (by omega) (by omega) c_123_20).1 ?_
                  refine lv_goto (tgt := 143) hx hb dN_Mod_lastEnd_133 (by decide) ?_
                  exact Jj16 (S k1) (by rw [if_pos c_123_20])
            · skip
              refine lv_goto (tgt := 227) hx hb dN_Mod_lastEnd_112 (by decide) ?_
              refine lv_iinc (v := (nI (k1 + 1))) (lv' := [(5, .int (nI (k1 + 1))), (0, .ref o), (1, .int (nI fr)), (2, .int x), (3, .int (nI p)), (4, .int (zi mo1))]) hx hb dN_Mod_lastEnd_227 hl (k := 5) rfl (nI_1 _) (by decide) rfl (fun ls hl => ?_)
              refine lv_goto (tgt := 77) hx hb dN_Mod_lastEnd_230 (by decide) ?_
              exact ih_77_11 (f1, mo1, k1 + 1) _ _ _ ⟨hP, hD, hS, lv_sub hl [1, 2, 3, 4, 5, 0] rfl, ⟨by omega, by omega, hbl1, hni1, hsf1, hct1, hmt1, fun h => ⟨(hmo1 h).1, Cfw_more (hmo1 h).2 (fun _ h9 => by rw [c_109_14] at h9; cases h9)⟩⟩⟩ (show (n - (k1 + 1)) < (n - k1) from by omega)
  · skip
    refine lv_aload_n hx hb dN_Mod_lastEnd_22 rfl (lv_at hl 0 rfl) ?_
    refine va_get (D := D) (ci := 12) (v := .ref (q 10)) (C := RN_Mod) (T := FN_Mod) (N := 25) hx hb ht fN_Mod hown hK hP 0 rfl rfl 10 (by decide) (ht _ mw_982) (fun _ h9 => h9) rfl dN_Mod_lastEnd_23 ?_
    refine lv_iload_n hx hb dN_Mod_lastEnd_26 rfl (lv_at hl 2 rfl) ?_
    refine lv_iconst (v := (zi false)) hx hb dN_Mod_lastEnd_27 (by decide) ?_
    refine xz_ast hx hb hK hP hD hS 6 1 rfl rfl dN_Mod_lastEnd_28 (by omega) (by omega) (fun H locs hP hD hS => ?_)
    have hP : va_P D clN [(o, .inr (12, [.int (nI th), .int (nI n), .int (nI b), .ref (q 3), .ref (q 4), .ref (q 5), .ref (q 6), .ref (q 7), .int (nI len), .ref (q 9), .ref (q 10), .ref (q 11), .ref (q 12), .ref (q 13), .ref (q 14), .ref (q 15), .ref (q 16), .ref (q 17), .int (nI tr), .int (nI hi), .ref (q 20), .ref (q 21), .ref (q 22), .ref (q 23), .int (nI ma)])), (q 3, .inl (cI, 200, .inl (ni K))), (q 4, .inl (cI, 200, .inl vI)), (q 5, .inl (cI, 200, .inl fI)), (q 6, .inl (cI, 200, .inl sI)), (q 7, .inl (cI, 200, .inl (ni u))), (q 10, .inl (cZ, 40200, .inl (zb (ub f k false))))] H := hP
    have hD : va_D A [(o, .inr (12, [.int (nI th), .int (nI n), .int (nI b), .ref (q 3), .ref (q 4), .ref (q 5), .ref (q 6), .ref (q 7), .int (nI len), .ref (q 9), .ref (q 10), .ref (q 11), .ref (q 12), .ref (q 13), .ref (q 14), .ref (q 15), .ref (q 16), .ref (q 17), .int (nI tr), .int (nI hi), .ref (q 20), .ref (q 21), .ref (q 22), .ref (q 23), .int (nI ma)])), (q 3, .inl (cI, 200, .inl (ni K))), (q 4, .inl (cI, 200, .inl vI)), (q 5, .inl (cI, 200, .inl fI)), (q 6, .inl (cI, 200, .inl sI)), (q 7, .inl (cI, 200, .inl (ni u))), (q 10, .inl (cZ, 40200, .inl (zb (ub f k false))))] := hD
    refine lv_iinc (v := (nI (k + 1))) (lv' := [(2, .int (nI (k + 1))), (0, .ref o), (1, .int (nI fr))]) hx hb dN_Mod_lastEnd_29 hl (k := 2) rfl (nI_1 _) (by decide) rfl (fun ls hl => ?_)
    refine lv_goto (tgt := 6) hx hb dN_Mod_lastEnd_32 (by decide) ?_
    exact ih_6_0 (ub f k false, k + 1) _ _ _ ⟨hP, hD, hS, lv_sub hl [1, 2, 0] rfl, ⟨by omega, by omega, wip_step hz⟩⟩ (show (200 * len + 200 - (k + 1)) < (200 * len + 200 - k) from by omega)
