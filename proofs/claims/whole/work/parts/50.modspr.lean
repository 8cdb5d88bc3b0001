theorem Sp_ini {n r0 : Nat} {pl bs ba : Nat → Nat} {bt : Nat → Int32} (hr : r0 < n) (h : ∀ i, i < n → bt i = -1) : Sp n [] (un pl 0 r0) (un bs r0 0) (un ba r0 0) 1 bt := by
  refine ⟨⟨fun k hk _ => h k hk, (fun i x hx => by simp at hx)⟩, fun j hj => ?_, (fun i j h1 h2 => by omega), (fun x hx => by cases hx), by simp, ?_⟩
  · have e1 : j = 0 := by omega
    subst e1; rw [un_s]; exact ⟨hr, rfl⟩
  · have : cnF n (inR []) = n := cnF_all (fun k _ => rfl)
    simp [this]
theorem pw2 {pl : Nat → Nat} {h f s : Nat} (hx : f ≠ s) (hw : ∀ j, j < h → pl j ≠ f) : ∀ j, j < h + 1 → un pl h s j ≠ f := by
  intro j hj
  by_cases h1 : j = h
  · subst h1; rw [un_s]; exact Ne.symm hx
  · rw [un_n h1]; exact hw j (by omega)
set_option maxHeartbeats 4000000 in
set_option maxRecDepth 100000 in
/-- spreads(r0) -/
theorem kMod_spreads (l : Launch) (D : va_G) (cI cZ cJ : ClassId) (o : Nat) (q : Nat → Nat) (th n b len tr hi ma : Nat) (K V F S : Nat → Nat) (vI fI sI : Nat → Int32) (pl bs ba : Nat → Nat) (bt : Nat → Int32) (r0 : Nat) (hn0 : 0 < n) (hn : n ≤ 200) (hK5 : ∀ i, K i < 6) (hv : ∀ i, 0 < i → i < n → (K i = 1 ∨ K i = 3 ∨ K i = 4) → vI i = nI (V i)) (hv4 : ∀ i, i < n → K i = 4 → V i < 6) (hf : ∀ i, 0 < i → i < n → (K i = 1 ∨ K i = 2 ∨ K i = 3 ∨ K i = 4) → fI i = nI (F i) ∧ F i < n) (hs : ∀ i, 0 < i → i < n → K i = 2 → sI i = nI (S i) ∧ S i < n) (hv3 : ∀ i, i < n → K i = 3 → V i < 20) (hK1 : ∀ i, 0 < i → i < n → 1 ≤ K i) (hr0 : r0 < n) : vx_Mi l yN_Mod_spreads wN_Mod_spreads ({ frames := 1, cells := 0, slots := 0, locals := 30 }) D clN (tyN cI cZ cJ) [.ref o, .int (nI r0)] [(o, .inr (12, [.int (nI th), .int (nI n), .int (nI b), .ref (q 3), .ref (q 4), .ref (q 5), .ref (q 6), .ref (q 7), .int (nI len), .ref (q 9), .ref (q 10), .ref (q 11), .ref (q 12), .ref (q 13), .ref (q 14), .ref (q 15), .ref (q 16), .ref (q 17), .int (nI tr), .int (nI hi), .ref (q 20), .ref (q 21), .ref (q 22), .ref (q 23), .int (nI ma)])), (q 3, .inl (cI, 200, .inl (ni K))), (q 4, .inl (cI, 200, .inl vI)), (q 5, .inl (cI, 200, .inl fI)), (q 6, .inl (cI, 200, .inl sI)), (q 13, .inl (cI, 500, .inl (ni pl))), (q 21, .inl (cI, 200, .inl (ni bs))), (q 22, .inl (cI, 200, .inl (ni ba))), (q 23, .inl (cI, 200, .inl bt))] (fun r w => ∃ (hi : Nat) (pl bs ba : Nat → Nat) (bt : Nat → Int32), ∃ ok : Bool, r = zi ok ∧ (ok = true → ∃ rec, spN K V F S (2 * n + 2) [(r0, 0, 0)] [] = some rec ∧ Tm n rec bt bs ba ∧ (∀ x ∈ rec, x.1 < n) ∧ rec.length ≤ n) ∧ (ok = false → spN K V F S (2 * n + 2) [(r0, 0, 0)] [] = none) ∧ w = [(o, .inr (12, [.int (nI th), .int (nI n), .int (nI b), .ref (q 3), .ref (q 4), .ref (q 5), .ref (q 6), .ref (q 7), .int (nI len), .ref (q 9), .ref (q 10), .ref (q 11), .ref (q 12), .ref (q 13), .ref (q 14), .ref (q 15), .ref (q 16), .ref (q 17), .int (nI tr), .int (nI hi), .ref (q 20), .ref (q 21), .ref (q 22), .ref (q 23), .int (nI ma)])), (q 3, .inl (cI, 200, .inl (ni K))), (q 4, .inl (cI, 200, .inl vI)), (q 5, .inl (cI, 200, .inl fI)), (q 6, .inl (cI, 200, .inl sI)), (q 13, .inl (cI, 500, .inl (ni pl))), (q 21, .inl (cI, 200, .inl (ni bs))), (q 22, .inl (cI, 200, .inl (ni ba))), (q 23, .inl (cI, 200, .inl bt))]) := by
  refine vx_startI (cc := cN_Mod_spreads) (maxL := 7) (ret := (some .boolean)) (by decide) rfl (Nat.le_of_ble_eq_true rfl) ?_
  intro p_0 e_0 s m below meth c_0 A ls C hK hP hD hS hA hl
  obtain ⟨hx, hb, hr, hml, hown, hts, hlocks, hnm⟩ := id C
  have hown : s.vm.findClass "StepMachinesModel" = some m.cls := hown
  have ht : ∀ w ∈ TB, w.before _ s = true := fun w h => hts w (List.mem_cons_of_mem _ h)
  have hl : lv_has ls 7 [(0, .ref o), (1, .int (nI r0))] := hl
  refine lv_iconst (v := (nI 0)) hx hb dN_Mod_spreads_0 (by decide) ?_
  refine lv_istore_n (lv' := [(2, .int (nI 0)), (0, .ref o), (1, .int (nI r0))]) hx hb dN_Mod_spreads_1 rfl hl (by decide) rfl (fun ls hl => ?_)
  refine vx_loop (α := (Nat → Int32) × Nat) (fun (vv : (Nat → Int32) × Nat) (H : Heap) (locs : List Loc) (ls : Array Slot) => match vv with | (bt, k) => va_P D clN [(o, .inr (12, [.int (nI th), .int (nI n), .int (nI b), .ref (q 3), .ref (q 4), .ref (q 5), .ref (q 6), .ref (q 7), .int (nI len), .ref (q 9), .ref (q 10), .ref (q 11), .ref (q 12), .ref (q 13), .ref (q 14), .ref (q 15), .ref (q 16), .ref (q 17), .int (nI tr), .int (nI hi), .ref (q 20), .ref (q 21), .ref (q 22), .ref (q 23), .int (nI ma)])), (q 3, .inl (cI, 200, .inl (ni K))), (q 4, .inl (cI, 200, .inl vI)), (q 5, .inl (cI, 200, .inl fI)), (q 6, .inl (cI, 200, .inl sI)), (q 13, .inl (cI, 500, .inl (ni pl))), (q 21, .inl (cI, 200, .inl (ni bs))), (q 22, .inl (cI, 200, .inl (ni ba))), (q 23, .inl (cI, 200, .inl bt))] H ∧ va_D A [(o, .inr (12, [.int (nI th), .int (nI n), .int (nI b), .ref (q 3), .ref (q 4), .ref (q 5), .ref (q 6), .ref (q 7), .int (nI len), .ref (q 9), .ref (q 10), .ref (q 11), .ref (q 12), .ref (q 13), .ref (q 14), .ref (q 15), .ref (q 16), .ref (q 17), .int (nI tr), .int (nI hi), .ref (q 20), .ref (q 21), .ref (q 22), .ref (q 23), .int (nI ma)])), (q 3, .inl (cI, 200, .inl (ni K))), (q 4, .inl (cI, 200, .inl vI)), (q 5, .inl (cI, 200, .inl fI)), (q 6, .inl (cI, 200, .inl sI)), (q 13, .inl (cI, 500, .inl (ni pl))), (q 21, .inl (cI, 200, .inl (ni bs))), (q 22, .inl (cI, 200, .inl (ni ba))), (q 23, .inl (cI, 200, .inl bt))] ∧ va_S A s.heap H locs ∧ lv_has ls 7 [(0, .ref o), (1, .int (nI r0)), (2, .int (nI k))] ∧ (k ≤ n ∧ ∀ i, i < k → bt i = -1)) (fun (vv : (Nat → Int32) × Nat) => match vv with | (bt, k) => n - k) 2 [] ?_ (bt, 0) ⟨hP, hD, hS, lv_sub hl [1, 2, 0] rfl, ⟨by omega, fun i h => absurd h (by omega)⟩⟩
  intro vv H locs ls hq ih_2_0
  obtain ⟨bt, k⟩ := vv
  obtain ⟨hP, hD, hS, hl, hI⟩ := hq
  obtain ⟨hkn, hbt⟩ := hI
  refine lv_iload_n hx hb dN_Mod_spreads_2 rfl (lv_at hl 2 rfl) ?_
  refine lv_aload_n hx hb dN_Mod_spreads_3 rfl (lv_at hl 0 rfl) ?_
  refine va_get (D := D) (ci := 12) (v := .int (nI n)) (C := RN_Mod) (T := FN_Mod) (N := 25) hx hb ht fN_Mod hown hK hP 0 rfl rfl 1 (by decide) (ht _ mw_973) (fun _ h9 => h9) rfl dN_Mod_spreads_4 ?_
  refine xn_ge (tgt := 23) hx hb dN_Mod_spreads_7 (by decide) (by omega) (by omega) (fun c_7_1 => ?_) (fun c_7_1 => ?_)
  · skip
    refine lv_iconst (v := (nI 0)) hx hb dN_Mod_spreads_23 (by decide) ?_
    refine lv_istore_n (lv' := [(2, .int (nI 0)), (0, .ref o), (1, .int (nI r0))]) hx hb dN_Mod_spreads_24 rfl hl (by decide) rfl (fun ls hl => ?_)
    refine lv_aload_n hx hb dN_Mod_spreads_25 rfl (lv_at hl 1 rfl) ?_
    refine va_get (D := D) (ci := 12) (v := .ref (q 13)) (C := RN_Mod) (T := FN_Mod) (N := 25) hx hb ht fN_Mod hown hK hP 0 rfl rfl 13 (by decide) (ht _ mw_985) (fun _ h9 => h9) rfl dN_Mod_spreads_26 ?_
    refine lv_iconst (v := (nI 0)) hx hb dN_Mod_spreads_29 (by decide) ?_
    refine lv_iload_n hx hb dN_Mod_spreads_30 rfl (lv_at hl 2 rfl) ?_
    refine xn_ast hx hb hK hP hD hS 5 0 rfl rfl dN_Mod_spreads_31 (by omega) (by omega) (fun H locs hP hD hS => ?_)
    have hP : va_P D clN [(o, .inr (12, [.int (nI th), .int (nI n), .int (nI b), .ref (q 3), .ref (q 4), .ref (q 5), .ref (q 6), .ref (q 7), .int (nI len), .ref (q 9), .ref (q 10), .ref (q 11), .ref (q 12), .ref (q 13), .ref (q 14), .ref (q 15), .ref (q 16), .ref (q 17), .int (nI tr), .int (nI hi), .ref (q 20), .ref (q 21), .ref (q 22), .ref (q 23), .int (nI ma)])), (q 3, .inl (cI, 200, .inl (ni K))), (q 4, .inl (cI, 200, .inl vI)), (q 5, .inl (cI, 200, .inl fI)), (q 6, .inl (cI, 200, .inl sI)), (q 13, .inl (cI, 500, .inl (ni (un pl 0 r0)))), (q 21, .inl (cI, 200, .inl (ni bs))), (q 22, .inl (cI, 200, .inl (ni ba))), (q 23, .inl (cI, 200, .inl bt))] H := hP
    have hD : va_D A [(o, .inr (12, [.int (nI th), .int (nI n), .int (nI b), .ref (q 3), .ref (q 4), .ref (q 5), .ref (q 6), .ref (q 7), .int (nI len), .ref (q 9), .ref (q 10), .ref (q 11), .ref (q 12), .ref (q 13), .ref (q 14), .ref (q 15), .ref (q 16), .ref (q 17), .int (nI tr), .int (nI hi), .ref (q 20), .ref (q 21), .ref (q 22), .ref (q 23), .int (nI ma)])), (q 3, .inl (cI, 200, .inl (ni K))), (q 4, .inl (cI, 200, .inl vI)), (q 5, .inl (cI, 200, .inl fI)), (q 6, .inl (cI, 200, .inl sI)), (q 13, .inl (cI, 500, .inl (ni (un pl 0 r0)))), (q 21, .inl (cI, 200, .inl (ni bs))), (q 22, .inl (cI, 200, .inl (ni ba))), (q 23, .inl (cI, 200, .inl bt))] := hD
    refine lv_aload_n hx hb dN_Mod_spreads_32 rfl (lv_at hl 1 rfl) ?_
    refine lv_iconst (v := (nI 1)) hx hb dN_Mod_spreads_33 (by decide) ?_
    refine va_put (D := D) (ci := 12) (v := .int (nI 1)) (ty := .int) (C := RN_Mod) (T := FN_Mod) (N := 25) hx hb ht fN_Mod tN_Mod oN_Mod nN_Mod hown hK hP hD hS 0 rfl rfl 19 (by decide) (ht _ mw_991) (fun _ h9 => h9) rfl (by decide +kernel) (rfl) (rfl) (Nat.le_of_ble_eq_true rfl) dN_Mod_spreads_34 (fun H locs hP hD hS => ?_)
    have hP : va_P D clN [(o, .inr (12, [.int (nI th), .int (nI n), .int (nI b), .ref (q 3), .ref (q 4), .ref (q 5), .ref (q 6), .ref (q 7), .int (nI len), .ref (q 9), .ref (q 10), .ref (q 11), .ref (q 12), .ref (q 13), .ref (q 14), .ref (q 15), .ref (q 16), .ref (q 17), .int (nI tr), .int (nI 1), .ref (q 20), .ref (q 21), .ref (q 22), .ref (q 23), .int (nI ma)])), (q 3, .inl (cI, 200, .inl (ni K))), (q 4, .inl (cI, 200, .inl vI)), (q 5, .inl (cI, 200, .inl fI)), (q 6, .inl (cI, 200, .inl sI)), (q 13, .inl (cI, 500, .inl (ni (un pl 0 r0)))), (q 21, .inl (cI, 200, .inl (ni bs))), (q 22, .inl (cI, 200, .inl (ni ba))), (q 23, .inl (cI, 200, .inl bt))] H := hP
    have hD : va_D A [(o, .inr (12, [.int (nI th), .int (nI n), .int (nI b), .ref (q 3), .ref (q 4), .ref (q 5), .ref (q 6), .ref (q 7), .int (nI len), .ref (q 9), .ref (q 10), .ref (q 11), .ref (q 12), .ref (q 13), .ref (q 14), .ref (q 15), .ref (q 16), .ref (q 17), .int (nI tr), .int (nI 1), .ref (q 20), .ref (q 21), .ref (q 22), .ref (q 23), .int (nI ma)])), (q 3, .inl (cI, 200, .inl (ni K))), (q 4, .inl (cI, 200, .inl vI)), (q 5, .inl (cI, 200, .inl fI)), (q 6, .inl (cI, 200, .inl sI)), (q 13, .inl (cI, 500, .inl (ni (un pl 0 r0)))), (q 21, .inl (cI, 200, .inl (ni bs))), (q 22, .inl (cI, 200, .inl (ni ba))), (q 23, .inl (cI, 200, .inl bt))] := hD
    refine lv_aload_n hx hb dN_Mod_spreads_37 rfl (lv_at hl 1 rfl) ?_
    refine va_get (D := D) (ci := 12) (v := .ref (q 21)) (C := RN_Mod) (T := FN_Mod) (N := 25) hx hb ht fN_Mod hown hK hP 0 rfl rfl 21 (by decide) (ht _ mw_993) (fun _ h9 => h9) rfl dN_Mod_spreads_38 ?_
    refine lv_iload_n hx hb dN_Mod_spreads_41 rfl (lv_at hl 2 rfl) ?_
    refine lv_iconst (v := (nI 0)) hx hb dN_Mod_spreads_42 (by decide) ?_
    refine xn_ast hx hb hK hP hD hS 6 0 rfl rfl dN_Mod_spreads_43 (by omega) (by omega) (fun H locs hP hD hS => ?_)
    have hP : va_P D clN [(o, .inr (12, [.int (nI th), .int (nI n), .int (nI b), .ref (q 3), .ref (q 4), .ref (q 5), .ref (q 6), .ref (q 7), .int (nI len), .ref (q 9), .ref (q 10), .ref (q 11), .ref (q 12), .ref (q 13), .ref (q 14), .ref (q 15), .ref (q 16), .ref (q 17), .int (nI tr), .int (nI 1), .ref (q 20), .ref (q 21), .ref (q 22), .ref (q 23), .int (nI ma)])), (q 3, .inl (cI, 200, .inl (ni K))), (q 4, .inl (cI, 200, .inl vI)), (q 5, .inl (cI, 200, .inl fI)), (q 6, .inl (cI, 200, .inl sI)), (q 13, .inl (cI, 500, .inl (ni (un pl 0 r0)))), (q 21, .inl (cI, 200, .inl (ni (un bs r0 0)))), (q 22, .inl (cI, 200, .inl (ni ba))), (q 23, .inl (cI, 200, .inl bt))] H := hP
    have hD : va_D A [(o, .inr (12, [.int (nI th), .int (nI n), .int (nI b), .ref (q 3), .ref (q 4), .ref (q 5), .ref (q 6), .ref (q 7), .int (nI len), .ref (q 9), .ref (q 10), .ref (q 11), .ref (q 12), .ref (q 13), .ref (q 14), .ref (q 15), .ref (q 16), .ref (q 17), .int (nI tr), .int (nI 1), .ref (q 20), .ref (q 21), .ref (q 22), .ref (q 23), .int (nI ma)])), (q 3, .inl (cI, 200, .inl (ni K))), (q 4, .inl (cI, 200, .inl vI)), (q 5, .inl (cI, 200, .inl fI)), (q 6, .inl (cI, 200, .inl sI)), (q 13, .inl (cI, 500, .inl (ni (un pl 0 r0)))), (q 21, .inl (cI, 200, .inl (ni (un bs r0 0)))), (q 22, .inl (cI, 200, .inl (ni ba))), (q 23, .inl (cI, 200, .inl bt))] := hD
    refine lv_aload_n hx hb dN_Mod_spreads_44 rfl (lv_at hl 1 rfl) ?_
    refine va_get (D := D) (ci := 12) (v := .ref (q 22)) (C := RN_Mod) (T := FN_Mod) (N := 25) hx hb ht fN_Mod hown hK hP 0 rfl rfl 22 (by decide) (ht _ mw_994) (fun _ h9 => h9) rfl dN_Mod_spreads_45 ?_
    refine lv_iload_n hx hb dN_Mod_spreads_48 rfl (lv_at hl 2 rfl) ?_
    refine lv_iconst (v := (nI 0)) hx hb dN_Mod_spreads_49 (by decide) ?_
    refine xn_ast hx hb hK hP hD hS 7 0 rfl rfl dN_Mod_spreads_50 (by omega) (by omega) (fun H locs hP hD hS => ?_)
    have hP : va_P D clN [(o, .inr (12, [.int (nI th), .int (nI n), .int (nI b), .ref (q 3), .ref (q 4), .ref (q 5), .ref (q 6), .ref (q 7), .int (nI len), .ref (q 9), .ref (q 10), .ref (q 11), .ref (q 12), .ref (q 13), .ref (q 14), .ref (q 15), .ref (q 16), .ref (q 17), .int (nI tr), .int (nI 1), .ref (q 20), .ref (q 21), .ref (q 22), .ref (q 23), .int (nI ma)])), (q 3, .inl (cI, 200, .inl (ni K))), (q 4, .inl (cI, 200, .inl vI)), (q 5, .inl (cI, 200, .inl fI)), (q 6, .inl (cI, 200, .inl sI)), (q 13, .inl (cI, 500, .inl (ni (un pl 0 r0)))), (q 21, .inl (cI, 200, .inl (ni (un bs r0 0)))), (q 22, .inl (cI, 200, .inl (ni (un ba r0 0)))), (q 23, .inl (cI, 200, .inl bt))] H := hP
    have hD : va_D A [(o, .inr (12, [.int (nI th), .int (nI n), .int (nI b), .ref (q 3), .ref (q 4), .ref (q 5), .ref (q 6), .ref (q 7), .int (nI len), .ref (q 9), .ref (q 10), .ref (q 11), .ref (q 12), .ref (q 13), .ref (q 14), .ref (q 15), .ref (q 16), .ref (q 17), .int (nI tr), .int (nI 1), .ref (q 20), .ref (q 21), .ref (q 22), .ref (q 23), .int (nI ma)])), (q 3, .inl (cI, 200, .inl (ni K))), (q 4, .inl (cI, 200, .inl vI)), (q 5, .inl (cI, 200, .inl fI)), (q 6, .inl (cI, 200, .inl sI)), (q 13, .inl (cI, 500, .inl (ni (un pl 0 r0)))), (q 21, .inl (cI, 200, .inl (ni (un bs r0 0)))), (q 22, .inl (cI, 200, .inl (ni (un ba r0 0)))), (q 23, .inl (cI, 200, .inl bt))] := hD
    refine vx_loop (α := Nat × (Nat → Nat) × (Nat → Nat) × (Nat → Nat) × (Nat → Int32) × Nat × (List Rc)) (fun (vv : Nat × (Nat → Nat) × (Nat → Nat) × (Nat → Nat) × (Nat → Int32) × Nat × (List Rc)) (H : Heap) (locs : List Loc) (ls : Array Slot) => match vv with | (hi1, pl1, bs1, ba1, bt1, t, rc) => va_P D clN [(o, .inr (12, [.int (nI th), .int (nI n), .int (nI b), .ref (q 3), .ref (q 4), .ref (q 5), .ref (q 6), .ref (q 7), .int (nI len), .ref (q 9), .ref (q 10), .ref (q 11), .ref (q 12), .ref (q 13), .ref (q 14), .ref (q 15), .ref (q 16), .ref (q 17), .int (nI tr), .int (nI hi1), .ref (q 20), .ref (q 21), .ref (q 22), .ref (q 23), .int (nI ma)])), (q 3, .inl (cI, 200, .inl (ni K))), (q 4, .inl (cI, 200, .inl vI)), (q 5, .inl (cI, 200, .inl fI)), (q 6, .inl (cI, 200, .inl sI)), (q 13, .inl (cI, 500, .inl (ni pl1))), (q 21, .inl (cI, 200, .inl (ni bs1))), (q 22, .inl (cI, 200, .inl (ni ba1))), (q 23, .inl (cI, 200, .inl bt1))] H ∧ va_D A [(o, .inr (12, [.int (nI th), .int (nI n), .int (nI b), .ref (q 3), .ref (q 4), .ref (q 5), .ref (q 6), .ref (q 7), .int (nI len), .ref (q 9), .ref (q 10), .ref (q 11), .ref (q 12), .ref (q 13), .ref (q 14), .ref (q 15), .ref (q 16), .ref (q 17), .int (nI tr), .int (nI hi1), .ref (q 20), .ref (q 21), .ref (q 22), .ref (q 23), .int (nI ma)])), (q 3, .inl (cI, 200, .inl (ni K))), (q 4, .inl (cI, 200, .inl vI)), (q 5, .inl (cI, 200, .inl fI)), (q 6, .inl (cI, 200, .inl sI)), (q 13, .inl (cI, 500, .inl (ni pl1))), (q 21, .inl (cI, 200, .inl (ni bs1))), (q 22, .inl (cI, 200, .inl (ni ba1))), (q 23, .inl (cI, 200, .inl bt1))] ∧ va_S A s.heap H locs ∧ lv_has ls 7 [(0, .ref o), (1, .int (nI r0)), (2, .int (nI t))] ∧ (Sp n rc pl1 bs1 ba1 hi1 bt1 ∧ t = rc.length ∧ ∃ m, 2 * cnF n (inR rc) + hi1 < m ∧ spN K V F S m (absO pl1 bs1 ba1 hi1) rc = spN K V F S (2 * n + 2) [(r0, 0, 0)] [])) (fun (vv : Nat × (Nat → Nat) × (Nat → Nat) × (Nat → Nat) × (Nat → Int32) × Nat × (List Rc)) => match vv with | (hi1, pl1, bs1, ba1, bt1, t, rc) => 2 * cnF n (inR rc) + hi1) 51 [] ?_ (1, un pl 0 r0, un bs r0 0, un ba r0 0, bt, 0, []) ⟨hP, hD, hS, lv_sub hl [1, 2, 0] rfl, ⟨Sp_ini hr0 (fun i hi => hbt i (by omega)), rfl, 2 * n + 2, by have := cnF_le n (inR []); omega, by simp [absO, un_s]⟩⟩
    intro vv H locs ls hq ih_51_2
    obtain ⟨hi1, pl1, bs1, ba1, bt1, t, rc⟩ := vv
    obtain ⟨hP, hD, hS, hl, hI⟩ := hq
    obtain ⟨hsp, et, m0, hm1, hm0⟩ := hI
    refine lv_aload_n hx hb dN_Mod_spreads_51 rfl (lv_at hl 0 rfl) ?_
    refine va_get (D := D) (ci := 12) (v := .int (nI hi1)) (C := RN_Mod) (T := FN_Mod) (N := 25) hx hb ht fN_Mod hown hK hP 0 rfl rfl 19 (by decide) (ht _ mw_991) (fun _ h9 => h9) rfl dN_Mod_spreads_52 ?_
    refine xn_le0 (tgt := 327) hx hb dN_Mod_spreads_55 (by decide) (by have := hsp.2.2.2.2.1; have := hsp.2.2.2.2.2; omega) (fun c_55_3 => ?_) (fun c_55_3 => ?_)
    · skip
      refine lv_iconst (v := (nI 1)) hx hb dN_Mod_spreads_327 (by decide) ?_
      refine xn_top (y := zi true) rfl ?_
      exact vx_zret C hK hP hD hS dN_Mod_spreads_328 (Nat.le_of_ble_eq_true rfl) (Nat.le_of_ble_eq_true rfl) (zi_nar2 _) (⟨hi1, pl1, bs1, ba1, bt1, true, rfl, (fun _ => ⟨rc, by rw [← hm0, c_55_3]; cases m0 with | zero => omega | succ m => rfl, hsp.1, hsp.2.2.2.1, by have := hsp.2.2.2.2.2; omega⟩), (fun h => by cases h), rfl⟩)
    · skip
      obtain ⟨h2, rfl⟩ : ∃ h2, hi1 = h2 + 1 := ⟨hi1 - 1, by omega⟩
      obtain ⟨m1, rfl⟩ : ∃ m1, m0 = m1 + 1 := ⟨m0 - 1, by omega⟩
      have hb1 := hsp.2.2.2.2.1
      have hb2 := hsp.2.2.2.2.2
      have hq3 := hsp.2.1 h2 (by omega)
      refine lv_aload_n hx hb dN_Mod_spreads_58 rfl (lv_at hl 0 rfl) ?_
      refine lv_dup hx hb dN_Mod_spreads_59 rfl ?_
      refine va_get (D := D) (ci := 12) (v := .int (nI (h2 + 1))) (C := RN_Mod) (T := FN_Mod) (N := 25) hx hb ht fN_Mod hown hK hP 0 rfl rfl 19 (by decide) (ht _ mw_991) (fun _ h9 => h9) rfl dN_Mod_spreads_60 ?_
      refine lv_iconst (v := (nI 1)) hx hb dN_Mod_spreads_63 (by decide) ?_
      refine xn_sub hx hb dN_Mod_spreads_64 (by omega) ?_
      refine xn_top (y := (nI h2)) rfl ?_
      refine va_put (D := D) (ci := 12) (v := .int (nI h2)) (ty := .int) (C := RN_Mod) (T := FN_Mod) (N := 25) hx hb ht fN_Mod tN_Mod oN_Mod nN_Mod hown hK hP hD hS 0 rfl rfl 19 (by decide) (ht _ mw_991) (fun _ h9 => h9) rfl (by decide +kernel) (rfl) (rfl) (Nat.le_of_ble_eq_true rfl) dN_Mod_spreads_65 (fun H locs hP hD hS => ?_)
      have hP : va_P D clN [(o, .inr (12, [.int (nI th), .int (nI n), .int (nI b), .ref (q 3), .ref (q 4), .ref (q 5), .ref (q 6), .ref (q 7), .int (nI len), .ref (q 9), .ref (q 10), .ref (q 11), .ref (q 12), .ref (q 13), .ref (q 14), .ref (q 15), .ref (q 16), .ref (q 17), .int (nI tr), .int (nI h2), .ref (q 20), .ref (q 21), .ref (q 22), .ref (q 23), .int (nI ma)])), (q 3, .inl (cI, 200, .inl (ni K))), (q 4, .inl (cI, 200, .inl vI)), (q 5, .inl (cI, 200, .inl fI)), (q 6, .inl (cI, 200, .inl sI)), (q 13, .inl (cI, 500, .inl (ni pl1))), (q 21, .inl (cI, 200, .inl (ni bs1))), (q 22, .inl (cI, 200, .inl (ni ba1))), (q 23, .inl (cI, 200, .inl bt1))] H := hP
      have hD : va_D A [(o, .inr (12, [.int (nI th), .int (nI n), .int (nI b), .ref (q 3), .ref (q 4), .ref (q 5), .ref (q 6), .ref (q 7), .int (nI len), .ref (q 9), .ref (q 10), .ref (q 11), .ref (q 12), .ref (q 13), .ref (q 14), .ref (q 15), .ref (q 16), .ref (q 17), .int (nI tr), .int (nI h2), .ref (q 20), .ref (q 21), .ref (q 22), .ref (q 23), .int (nI ma)])), (q 3, .inl (cI, 200, .inl (ni K))), (q 4, .inl (cI, 200, .inl vI)), (q 5, .inl (cI, 200, .inl fI)), (q 6, .inl (cI, 200, .inl sI)), (q 13, .inl (cI, 500, .inl (ni pl1))), (q 21, .inl (cI, 200, .inl (ni bs1))), (q 22, .inl (cI, 200, .inl (ni ba1))), (q 23, .inl (cI, 200, .inl bt1))] := hD
      refine lv_aload_n hx hb dN_Mod_spreads_68 rfl (lv_at hl 0 rfl) ?_
      refine va_get (D := D) (ci := 12) (v := .ref (q 13)) (C := RN_Mod) (T := FN_Mod) (N := 25) hx hb ht fN_Mod hown hK hP 0 rfl rfl 13 (by decide) (ht _ mw_985) (fun _ h9 => h9) rfl dN_Mod_spreads_69 ?_
      refine lv_aload_n hx hb dN_Mod_spreads_72 rfl (lv_at hl 0 rfl) ?_
      refine va_get (D := D) (ci := 12) (v := .int (nI h2)) (C := RN_Mod) (T := FN_Mod) (N := 25) hx hb ht fN_Mod hown hK hP 0 rfl rfl 19 (by decide) (ht _ mw_991) (fun _ h9 => h9) rfl dN_Mod_spreads_73 ?_
      refine xn_ald hx hb hK hP 5 0 rfl rfl dN_Mod_spreads_76 (by omega) (by omega) ?_
      refine xn_name (fun k3 ek3 => ?_)
      refine lv_istore_n (lv' := [(3, .int (nI k3)), (0, .ref o), (1, .int (nI r0)), (2, .int (nI t))]) hx hb dN_Mod_spreads_77 rfl hl (by decide) rfl (fun ls hl => ?_)
      have hk3 : k3 < n := by rw [ek3]; exact hq3.1
      have hr3 : inR rc k3 = false := by rw [ek3]; exact hq3.2
      rw [absO, ← ek3, spN_step hr3] at hm0
      have hcn := cn_app (bs := bs1) (ba := ba1) hk3 hr3
      have hlf := Sp_leaf ek3 hsp
      rw [← et] at hlf
      refine lv_aload_n hx hb dN_Mod_spreads_78 rfl (lv_at hl 1 rfl) ?_
      refine va_get (D := D) (ci := 12) (v := .ref (q 23)) (C := RN_Mod) (T := FN_Mod) (N := 25) hx hb ht fN_Mod hown hK hP 0 rfl rfl 23 (by decide) (ht _ mw_995) (fun _ h9 => h9) rfl dN_Mod_spreads_79 ?_
      refine lv_iload_n hx hb dN_Mod_spreads_82 rfl (lv_at hl 0 rfl) ?_
      refine xi_ald hx hb hK hP 8 0 rfl rfl dN_Mod_spreads_83 (by omega) (by omega) ?_
      refine lv_if_lt (tgt := 89) hx hb dN_Mod_spreads_84 (by decide) (fun c_84_4 => ?_) (fun c_84_4 => ?_)
      · skip
        refine lv_aload_n hx hb dN_Mod_spreads_89 rfl (lv_at hl 1 rfl) ?_
        refine va_get (D := D) (ci := 12) (v := .ref (q 23)) (C := RN_Mod) (T := FN_Mod) (N := 25) hx hb ht fN_Mod hown hK hP 0 rfl rfl 23 (by decide) (ht _ mw_995) (fun _ h9 => h9) rfl dN_Mod_spreads_90 ?_
        refine lv_iload_n hx hb dN_Mod_spreads_93 rfl (lv_at hl 0 rfl) ?_
        refine lv_iload_n hx hb dN_Mod_spreads_94 rfl (lv_at hl 3 rfl) ?_
        refine xi_ast hx hb hK hP hD hS 8 0 rfl rfl dN_Mod_spreads_95 (by omega) (by omega) (fun H locs hP hD hS => ?_)
        have hP : va_P D clN [(o, .inr (12, [.int (nI th), .int (nI n), .int (nI b), .ref (q 3), .ref (q 4), .ref (q 5), .ref (q 6), .ref (q 7), .int (nI len), .ref (q 9), .ref (q 10), .ref (q 11), .ref (q 12), .ref (q 13), .ref (q 14), .ref (q 15), .ref (q 16), .ref (q 17), .int (nI tr), .int (nI h2), .ref (q 20), .ref (q 21), .ref (q 22), .ref (q 23), .int (nI ma)])), (q 3, .inl (cI, 200, .inl (ni K))), (q 4, .inl (cI, 200, .inl vI)), (q 5, .inl (cI, 200, .inl fI)), (q 6, .inl (cI, 200, .inl sI)), (q 13, .inl (cI, 500, .inl (ni pl1))), (q 21, .inl (cI, 200, .inl (ni bs1))), (q 22, .inl (cI, 200, .inl (ni ba1))), (q 23, .inl (cI, 200, .inl ((upd bt1 k3 (nI t)))))] H := hP
        have hD : va_D A [(o, .inr (12, [.int (nI th), .int (nI n), .int (nI b), .ref (q 3), .ref (q 4), .ref (q 5), .ref (q 6), .ref (q 7), .int (nI len), .ref (q 9), .ref (q 10), .ref (q 11), .ref (q 12), .ref (q 13), .ref (q 14), .ref (q 15), .ref (q 16), .ref (q 17), .int (nI tr), .int (nI h2), .ref (q 20), .ref (q 21), .ref (q 22), .ref (q 23), .int (nI ma)])), (q 3, .inl (cI, 200, .inl (ni K))), (q 4, .inl (cI, 200, .inl vI)), (q 5, .inl (cI, 200, .inl fI)), (q 6, .inl (cI, 200, .inl sI)), (q 13, .inl (cI, 500, .inl (ni pl1))), (q 21, .inl (cI, 200, .inl (ni bs1))), (q 22, .inl (cI, 200, .inl (ni ba1))), (q 23, .inl (cI, 200, .inl ((upd bt1 k3 (nI t)))))] := hD
        refine lv_iinc (v := (nI (t + 1))) (lv' := [(2, .int (nI (t + 1))), (3, .int (nI k3)), (0, .ref o), (1, .int (nI r0))]) hx hb dN_Mod_spreads_96 hl (k := 3) rfl (nI_1 _) (by decide) rfl (fun ls hl => ?_)
        refine lv_iload_n hx hb dN_Mod_spreads_99 rfl (lv_at hl 1 rfl) ?_
        refine xn_eq0 (tgt := 51) hx hb dN_Mod_spreads_100 (by decide) (by omega) (fun c_100_5 => ?_) (fun c_100_5 => ?_)
        · skip
          exact ih_51_2 (h2, pl1, bs1, ba1, upd bt1 k3 (nI t), t + 1, rc ++ [(k3, bs1 k3, ba1 k3)]) _ _ _ ⟨hP, hD, hS, lv_sub hl [2, 3, 0] rfl, ⟨hlf, by simp [et], m1, by omega, by rw [if_pos (by omega)] at hm0; exact hm0⟩⟩ (show (2 * cnF n (inR (rc ++ [(k3, bs1 k3, ba1 k3)])) + h2) < (2 * cnF n (inR rc) + (h2 + 1)) from by omega)
        · skip
          refine lv_aload_n hx hb dN_Mod_spreads_103 rfl (lv_at hl 2 rfl) ?_
          refine va_get (D := D) (ci := 12) (v := .ref (q 3)) (C := RN_Mod) (T := FN_Mod) (N := 25) hx hb ht fN_Mod hown hK hP 0 rfl rfl 3 (by decide) (ht _ mw_975) (fun _ h9 => h9) rfl dN_Mod_spreads_104 ?_
          refine lv_iload_n hx hb dN_Mod_spreads_107 rfl (lv_at hl 1 rfl) ?_
          refine xn_ald hx hb hK hP 1 0 rfl rfl dN_Mod_spreads_108 (by omega) (by omega) ?_
          refine lv_iconst (v := (nI 1)) hx hb dN_Mod_spreads_109 (by decide) ?_
          refine xn_eq (tgt := 51) hx hb dN_Mod_spreads_110 (by decide) (by have := hK5 k3; omega) (by omega) (fun c_110_6 => ?_) (fun c_110_6 => ?_)
          · skip
            exact ih_51_2 (h2, pl1, bs1, ba1, upd bt1 k3 (nI t), t + 1, rc ++ [(k3, bs1 k3, ba1 k3)]) _ _ _ ⟨hP, hD, hS, lv_sub hl [2, 3, 0] rfl, ⟨hlf, by simp [et], m1, by omega, by rw [if_pos (by omega)] at hm0; exact hm0⟩⟩ (show (2 * cnF n (inR (rc ++ [(k3, bs1 k3, ba1 k3)])) + h2) < (2 * cnF n (inR rc) + (h2 + 1)) from by omega)
          · skip
            refine lv_aload_n hx hb dN_Mod_spreads_113 rfl (lv_at hl 2 rfl) ?_
            refine va_get (D := D) (ci := 12) (v := .ref (q 3)) (C := RN_Mod) (T := FN_Mod) (N := 25) hx hb ht fN_Mod hown hK hP 0 rfl rfl 3 (by decide) (ht _ mw_975) (fun _ h9 => h9) rfl dN_Mod_spreads_114 ?_
            refine lv_iload_n hx hb dN_Mod_spreads_117 rfl (lv_at hl 1 rfl) ?_
            refine xn_ald hx hb hK hP 1 0 rfl rfl dN_Mod_spreads_118 (by omega) (by omega) ?_
            refine lv_iconst (v := (nI 5)) hx hb dN_Mod_spreads_119 (by decide) ?_
            refine xn_ne (tgt := 126) hx hb dN_Mod_spreads_120 (by decide) (by have := hK5 k3; omega) (by omega) (fun c_120_7 => ?_) (fun c_120_7 => ?_)
            · skip
              refine vx_join (α := Nat) (fun j9 => j9 = nxS K V k3 (bs1 k3)) (fun j9 => F0 m 160 ls [.int (nI j9)]) (fun j9 hj9 => ?_) (fun Jj9 => ?_)
              · skip
                have hj_s := hj9
                refine lv_istore (lv' := [(4, .int (nI j9)), (2, .int (nI (t + 1))), (3, .int (nI k3)), (0, .ref o), (1, .int (nI r0))]) hx hb dN_Mod_spreads_160 hl (by decide) rfl (fun ls hl => ?_)
                refine vx_join (α := Nat) (fun j10 => j10 = nxA K V k3 (ba1 k3)) (fun j10 => F0 m 196 ls [.int (nI j10)]) (fun j10 hj10 => ?_) (fun Jj10 => ?_)
                · skip
                  have hj_a := hj10
                  refine lv_istore (lv' := [(5, .int (nI j10)), (4, .int (nI j9)), (2, .int (nI (t + 1))), (3, .int (nI k3)), (0, .ref o), (1, .int (nI r0))]) hx hb dN_Mod_spreads_196 hl (by decide) rfl (fun ls hl => ?_)
                  refine vx_join (α := Bool) (fun j11 => j11 = decide (K k3 = 2)) (fun j11 => F0 m 213 ls [.int (zi j11)]) (fun j11 hj11 => ?_) (fun Jj11 => ?_)
                  · skip
                    have hj_b := hj11
                    refine lv_istore (lv' := [(6, .int (zi j11)), (5, .int (nI j10)), (4, .int (nI j9)), (2, .int (nI (t + 1))), (3, .int (nI k3)), (0, .ref o), (1, .int (nI r0))]) hx hb dN_Mod_spreads_213 hl (by decide) rfl (fun ls hl => ?_)
                    refine lv_iload hx hb dN_Mod_spreads_215 (lv_at hl 0 rfl) ?_
                    refine xz_eq0 (tgt := 262) hx hb dN_Mod_spreads_217 (by decide) (fun c_217_11 => ?_) (fun c_217_11 => ?_)
                    · skip
                      have hk2 : ¬ K k3 = 2 := by rw [c_217_11] at hj_b; simpa using hj_b.symm
                      refine lv_aload_n hx hb dN_Mod_spreads_262 rfl (lv_at hl 5 rfl) ?_
                      refine va_get (D := D) (ci := 12) (v := .ref (q 23)) (C := RN_Mod) (T := FN_Mod) (N := 25) hx hb ht fN_Mod hown hK hP 0 rfl rfl 23 (by decide) (ht _ mw_995) (fun _ h9 => h9) rfl dN_Mod_spreads_263 ?_
                      refine lv_aload_n hx hb dN_Mod_spreads_266 rfl (lv_at hl 5 rfl) ?_
                      refine va_get (D := D) (ci := 12) (v := .ref (q 5)) (C := RN_Mod) (T := FN_Mod) (N := 25) hx hb ht fN_Mod hown hK hP 0 rfl rfl 5 (by decide) (ht _ mw_977) (fun _ h9 => h9) rfl dN_Mod_spreads_267 ?_
                      refine lv_iload_n hx hb dN_Mod_spreads_270 rfl (lv_at hl 4 rfl) ?_
                      refine xi_ald hx hb hK hP 3 0 rfl rfl dN_Mod_spreads_271 (by omega) (by omega) ?_
                      refine xn_top (y := (nI (F k3))) (hf k3 (by omega) hk3 (by have := hK5 k3; have := hK1 k3 (by omega) hk3; omega)).1 ?_
                      refine xi_ald hx hb hK hP 8 0 rfl rfl dN_Mod_spreads_272 (by have := (hf k3 (by omega) hk3 (by have := hK5 k3; have := hK1 k3 (by omega) hk3; omega)).2; omega) (by omega) ?_
                      refine lv_if_ge (tgt := 289) hx hb dN_Mod_spreads_273 (by decide) (fun c_273_12 => ?_) (fun c_273_12 => ?_)
                      · skip
                        refine lv_iconst (v := (nI 0)) hx hb dN_Mod_spreads_289 (by decide) ?_
                        refine xn_top (y := zi false) rfl ?_
                        exact vx_zret C hK hP hD hS dN_Mod_spreads_290 (Nat.le_of_ble_eq_true rfl) (Nat.le_of_ble_eq_true rfl) (zi_nar2 _) (⟨_, _, _, _, _, false, rfl, (fun h => by cases h), (fun _ => by rw [← hm0, if_neg (show ¬ (k3 = 0 ∨ K k3 = 1 ∨ K k3 = 5) by omega)]; exact none_dup (Or.inl rfl) (tm_in hsp (hf k3 (by omega) hk3 (by have := hK5 k3; have := hK1 k3 (by omega) hk3; omega)).2 (by rw [← et]; exact c_273_12))), rfl⟩)
                      · skip
                        have hxF : inR (rc ++ [(k3, bs1 k3, ba1 k3)]) (F k3) = false := tm_out hsp (by omega) (by rw [← et]; exact c_273_12)
                        refine lv_aload_n hx hb dN_Mod_spreads_276 rfl (lv_at hl 5 rfl) ?_
                        refine lv_aload_n hx hb dN_Mod_spreads_277 rfl (lv_at hl 5 rfl) ?_
                        refine va_get (D := D) (ci := 12) (v := .ref (q 5)) (C := RN_Mod) (T := FN_Mod) (N := 25) hx hb ht fN_Mod hown hK hP 0 rfl rfl 5 (by decide) (ht _ mw_977) (fun _ h9 => h9) rfl dN_Mod_spreads_278 ?_
                        refine lv_iload_n hx hb dN_Mod_spreads_281 rfl (lv_at hl 4 rfl) ?_
                        refine xi_ald hx hb hK hP 3 0 rfl rfl dN_Mod_spreads_282 (by omega) (by omega) ?_
                        refine xn_top (y := (nI (F k3))) (hf k3 (by omega) hk3 (by have := hK5 k3; have := hK1 k3 (by omega) hk3; omega)).1 ?_
                        refine vx_calli (wc := [(o, .inr (12, [.int (nI th), .int (nI n), .int (nI b), .ref (q 3), .ref (q 4), .ref (q 5), .ref (q 6), .ref (q 7), .int (nI len), .ref (q 9), .ref (q 10), .ref (q 11), .ref (q 12), .ref (q 13), .ref (q 14), .ref (q 15), .ref (q 16), .ref (q 17), .int (nI tr), .int (nI h2), .ref (q 20), .ref (q 21), .ref (q 22), .ref (q 23), .int (nI ma)])), (q 13, .inl (cI, 500, .inl (ni pl1)))]) (wr := [(q 3, .inl (cI, 200, .inl (ni K))), (q 4, .inl (cI, 200, .inl vI)), (q 5, .inl (cI, 200, .inl fI)), (q 6, .inl (cI, 200, .inl sI)), (q 21, .inl (cI, 200, .inl (ni bs1))), (q 22, .inl (cI, 200, .inl (ni ba1))), (q 23, .inl (cI, 200, .inl ((upd bt1 k3 (nI t)))))]) [0, 5] [1, 2, 3, 4, 6, 7, 8] hK hP hD hS hA rfl rfl (by decide) (by decide) (va_runV (As := [.int (nI (F k3))]) (rest := []) ⟨hx, hb, hml, hown, ht⟩ (kMod_isWaiting l D cI cZ cJ o q th n b len tr h2 ma pl1 (F k3) (by omega) (by have := (hf k3 (by omega) hk3 (by have := hK5 k3; have := hK1 k3 (by omega) hk3; omega)).2; omega) (fun j hj => by have := (hsp.2.1 j (by omega)).1; omega) _) (⟨callB_of 1 ht (TB_in2 gN_Mod_isWaiting) rfl rfl rfl (ht _ mw_14) (ht _ mw_1151) (by decide +kernel) ⟨Nat.le_of_ble_eq_true rfl, Nat.le_of_ble_eq_true rfl⟩, ht _ mw_1153, ht _ ms_46⟩) (vx_preV [0, 5] hK hP hD (by decide) rfl (ci := 12) rfl 0 rfl) rfl rfl hl.1 rfl (lv_room (Nat.le_of_ble_eq_true rfl)) dN_Mod_spreads_283 ⟨Nat.le_of_ble_eq_true rfl, Nat.le_of_ble_eq_true rfl⟩) (fun r1 w1 H locs hq hP hD hS => ?_)
                        obtain ⟨rfl, rfl⟩ := hq
                        have hP : va_P D clN [(o, .inr (12, [.int (nI th), .int (nI n), .int (nI b), .ref (q 3), .ref (q 4), .ref (q 5), .ref (q 6), .ref (q 7), .int (nI len), .ref (q 9), .ref (q 10), .ref (q 11), .ref (q 12), .ref (q 13), .ref (q 14), .ref (q 15), .ref (q 16), .ref (q 17), .int (nI tr), .int (nI h2), .ref (q 20), .ref (q 21), .ref (q 22), .ref (q 23), .int (nI ma)])), (q 3, .inl (cI, 200, .inl (ni K))), (q 4, .inl (cI, 200, .inl vI)), (q 5, .inl (cI, 200, .inl fI)), (q 6, .inl (cI, 200, .inl sI)), (q 13, .inl (cI, 500, .inl (ni pl1))), (q 21, .inl (cI, 200, .inl (ni bs1))), (q 22, .inl (cI, 200, .inl (ni ba1))), (q 23, .inl (cI, 200, .inl ((upd bt1 k3 (nI t)))))] H := hP.sub [7, 0, 1, 2, 3, 8, 4, 5, 6] rfl
                        have hD : va_D A [(o, .inr (12, [.int (nI th), .int (nI n), .int (nI b), .ref (q 3), .ref (q 4), .ref (q 5), .ref (q 6), .ref (q 7), .int (nI len), .ref (q 9), .ref (q 10), .ref (q 11), .ref (q 12), .ref (q 13), .ref (q 14), .ref (q 15), .ref (q 16), .ref (q 17), .int (nI tr), .int (nI h2), .ref (q 20), .ref (q 21), .ref (q 22), .ref (q 23), .int (nI ma)])), (q 3, .inl (cI, 200, .inl (ni K))), (q 4, .inl (cI, 200, .inl vI)), (q 5, .inl (cI, 200, .inl fI)), (q 6, .inl (cI, 200, .inl sI)), (q 13, .inl (cI, 500, .inl (ni pl1))), (q 21, .inl (cI, 200, .inl (ni bs1))), (q 22, .inl (cI, 200, .inl (ni ba1))), (q 23, .inl (cI, 200, .inl ((upd bt1 k3 (nI t)))))] := hD.sub [7, 0, 1, 2, 3, 8, 4, 5, 6] (by decide) rfl
                        refine xz_eq0 (tgt := 291) hx hb dN_Mod_spreads_286 (by decide) (fun c_286_13 => ?_) (fun c_286_13 => ?_)
                        · skip
                          have hwF := wtB_f c_286_13
                          refine lv_iload hx hb dN_Mod_spreads_291 (lv_at hl 0 rfl) ?_
                          refine xz_eq0 (tgt := 310) hx hb dN_Mod_spreads_293 (by decide) (fun c_293_14 => ?_) (fun c_293_14 => ?_)
                          · skip
                            refine lv_aload_n hx hb dN_Mod_spreads_310 rfl (lv_at hl 5 rfl) ?_
                            refine lv_aload_n hx hb dN_Mod_spreads_311 rfl (lv_at hl 5 rfl) ?_
                            refine va_get (D := D) (ci := 12) (v := .ref (q 5)) (C := RN_Mod) (T := FN_Mod) (N := 25) hx hb ht fN_Mod hown hK hP 0 rfl rfl 5 (by decide) (ht _ mw_977) (fun _ h9 => h9) rfl dN_Mod_spreads_312 ?_
                            refine lv_iload_n hx hb dN_Mod_spreads_315 rfl (lv_at hl 4 rfl) ?_
                            refine xi_ald hx hb hK hP 3 0 rfl rfl dN_Mod_spreads_316 (by omega) (by omega) ?_
                            refine xn_top (y := (nI (F k3))) (hf k3 (by omega) hk3 (by have := hK5 k3; have := hK1 k3 (by omega) hk3; omega)).1 ?_
                            refine lv_iload hx hb dN_Mod_spreads_317 (lv_at hl 2 rfl) ?_
                            refine lv_iload hx hb dN_Mod_spreads_319 (lv_at hl 1 rfl) ?_
                            refine vx_callv (wc := [(o, .inr (12, [.int (nI th), .int (nI n), .int (nI b), .ref (q 3), .ref (q 4), .ref (q 5), .ref (q 6), .ref (q 7), .int (nI len), .ref (q 9), .ref (q 10), .ref (q 11), .ref (q 12), .ref (q 13), .ref (q 14), .ref (q 15), .ref (q 16), .ref (q 17), .int (nI tr), .int (nI h2), .ref (q 20), .ref (q 21), .ref (q 22), .ref (q 23), .int (nI ma)])), (q 13, .inl (cI, 500, .inl (ni pl1))), (q 21, .inl (cI, 200, .inl (ni bs1))), (q 22, .inl (cI, 200, .inl (ni ba1)))]) (wr := [(q 3, .inl (cI, 200, .inl (ni K))), (q 4, .inl (cI, 200, .inl vI)), (q 5, .inl (cI, 200, .inl fI)), (q 6, .inl (cI, 200, .inl sI)), (q 23, .inl (cI, 200, .inl ((upd bt1 k3 (nI t)))))]) [0, 5, 6, 7] [1, 2, 3, 4, 8] hK hP hD hS hA rfl rfl (by decide) (by decide) (va_runV (As := [.int (nI (F k3)), .int (nI j9), .int (nI j10)]) (rest := []) ⟨hx, hb, hml, hown, ht⟩ (kMod_hold l D cI cZ cJ o q th n b len tr h2 ma pl1 bs1 ba1 (F k3) j9 j10 (by omega) (by have := (hf k3 (by omega) hk3 (by have := hK5 k3; have := hK1 k3 (by omega) hk3; omega)).2; omega) _) (⟨callB_of 3 ht (TB_in2 gN_Mod_hold) rfl rfl rfl (ht _ mw_14) (ht _ mw_1155) (by decide +kernel) ⟨Nat.le_of_ble_eq_true rfl, Nat.le_of_ble_eq_true rfl⟩, ht _ mw_1157, ht _ ms_47⟩) (vx_preV [0, 5, 6, 7] hK hP hD (by decide) rfl (ci := 12) rfl 0 rfl) rfl rfl hl.1 rfl (lv_room (Nat.le_of_ble_eq_true rfl)) dN_Mod_spreads_321 ⟨Nat.le_of_ble_eq_true rfl, Nat.le_of_ble_eq_true rfl⟩) (fun w1 H locs hq hP hD hS => ?_)
                            subst hq
                            have hP : va_P D clN [(o, .inr (12, [.int (nI th), .int (nI n), .int (nI b), .ref (q 3), .ref (q 4), .ref (q 5), .ref (q 6), .ref (q 7), .int (nI len), .ref (q 9), .ref (q 10), .ref (q 11), .ref (q 12), .ref (q 13), .ref (q 14), .ref (q 15), .ref (q 16), .ref (q 17), .int (nI tr), .int (nI (h2 + 1)), .ref (q 20), .ref (q 21), .ref (q 22), .ref (q 23), .int (nI ma)])), (q 3, .inl (cI, 200, .inl (ni K))), (q 4, .inl (cI, 200, .inl vI)), (q 5, .inl (cI, 200, .inl fI)), (q 6, .inl (cI, 200, .inl sI)), (q 13, .inl (cI, 500, .inl (ni (un pl1 h2 (F k3))))), (q 21, .inl (cI, 200, .inl (ni (un bs1 (F k3) j9)))), (q 22, .inl (cI, 200, .inl (ni (un ba1 (F k3) j10)))), (q 23, .inl (cI, 200, .inl ((upd bt1 k3 (nI t)))))] H := hP.sub [5, 0, 1, 2, 3, 6, 7, 8, 4] rfl
                            have hD : va_D A [(o, .inr (12, [.int (nI th), .int (nI n), .int (nI b), .ref (q 3), .ref (q 4), .ref (q 5), .ref (q 6), .ref (q 7), .int (nI len), .ref (q 9), .ref (q 10), .ref (q 11), .ref (q 12), .ref (q 13), .ref (q 14), .ref (q 15), .ref (q 16), .ref (q 17), .int (nI tr), .int (nI (h2 + 1)), .ref (q 20), .ref (q 21), .ref (q 22), .ref (q 23), .int (nI ma)])), (q 3, .inl (cI, 200, .inl (ni K))), (q 4, .inl (cI, 200, .inl vI)), (q 5, .inl (cI, 200, .inl fI)), (q 6, .inl (cI, 200, .inl sI)), (q 13, .inl (cI, 500, .inl (ni (un pl1 h2 (F k3))))), (q 21, .inl (cI, 200, .inl (ni (un bs1 (F k3) j9)))), (q 22, .inl (cI, 200, .inl (ni (un ba1 (F k3) j10)))), (q 23, .inl (cI, 200, .inl ((upd bt1 k3 (nI t)))))] := hD.sub [5, 0, 1, 2, 3, 6, 7, 8, 4] (by decide) rfl
                            refine lv_goto (tgt := 51) hx hb dN_Mod_spreads_324 (by decide) ?_
                            exact ih_51_2 (h2 + 1, un pl1 h2 (F k3), un bs1 (F k3) j9, un ba1 (F k3) j10, upd bt1 k3 (nI t), t + 1, rc ++ [(k3, bs1 k3, ba1 k3)]) _ _ _ ⟨hP, hD, hS, lv_sub hl [5, 6, 3] rfl, ⟨Sp_push (hf k3 (by omega) hk3 (by have := hK5 k3; have := hK1 k3 (by omega) hk3; omega)).2 hxF hwF (by simp; omega) hlf, by simp [et], m1, by omega, by rw [if_neg (show ¬ (k3 = 0 ∨ K k3 = 1 ∨ K k3 = 5) by omega), pshO, if_neg hk2, ← hj_s, ← hj_a] at hm0; rw [absO_push hwF]; exact hm0⟩⟩ (show (2 * cnF n (inR (rc ++ [(k3, bs1 k3, ba1 k3)])) + (h2 + 1)) < (2 * cnF n (inR rc) + (h2 + 1)) from by omega)
                          · skip
                            exact absurd c_293_14 (by rw [c_217_11]; decide)
                        · skip
                          refine lv_iconst (v := (nI 0)) hx hb dN_Mod_spreads_289 (by decide) ?_
                          refine xn_top (y := zi false) rfl ?_
                          exact vx_zret C hK hP hD hS dN_Mod_spreads_290 (Nat.le_of_ble_eq_true rfl) (Nat.le_of_ble_eq_true rfl) (zi_nar2 _) (⟨_, _, _, _, _, false, rfl, (fun h => by cases h), (fun _ => by rw [← hm0, if_neg (show ¬ (k3 = 0 ∨ K k3 = 1 ∨ K k3 = 5) by omega)]; exact none_wait (Or.inl rfl) c_286_13), rfl⟩)
                    · skip
                      have hk2 : K k3 = 2 := by rw [c_217_11] at hj_b; simpa using hj_b.symm
                      refine lv_aload_n hx hb dN_Mod_spreads_220 rfl (lv_at hl 5 rfl) ?_
                      refine va_get (D := D) (ci := 12) (v := .ref (q 23)) (C := RN_Mod) (T := FN_Mod) (N := 25) hx hb ht fN_Mod hown hK hP 0 rfl rfl 23 (by decide) (ht _ mw_995) (fun _ h9 => h9) rfl dN_Mod_spreads_221 ?_
                      refine lv_aload_n hx hb dN_Mod_spreads_224 rfl (lv_at hl 5 rfl) ?_
                      refine va_get (D := D) (ci := 12) (v := .ref (q 6)) (C := RN_Mod) (T := FN_Mod) (N := 25) hx hb ht fN_Mod hown hK hP 0 rfl rfl 6 (by decide) (ht _ mw_978) (fun _ h9 => h9) rfl dN_Mod_spreads_225 ?_
                      refine lv_iload_n hx hb dN_Mod_spreads_228 rfl (lv_at hl 4 rfl) ?_
                      refine xi_ald hx hb hK hP 4 0 rfl rfl dN_Mod_spreads_229 (by omega) (by omega) ?_
                      refine xn_top (y := (nI (S k3))) (hs k3 (by omega) hk3 hk2).1 ?_
                      refine xi_ald hx hb hK hP 8 0 rfl rfl dN_Mod_spreads_230 (by have := (hs k3 (by omega) hk3 hk2).2; omega) (by omega) ?_
                      refine lv_if_ge (tgt := 289) hx hb dN_Mod_spreads_231 (by decide) (fun c_231_15 => ?_) (fun c_231_15 => ?_)
                      · skip
                        refine lv_iconst (v := (nI 0)) hx hb dN_Mod_spreads_289 (by decide) ?_
                        refine xn_top (y := zi false) rfl ?_
                        exact vx_zret C hK hP hD hS dN_Mod_spreads_290 (Nat.le_of_ble_eq_true rfl) (Nat.le_of_ble_eq_true rfl) (zi_nar2 _) (⟨_, _, _, _, _, false, rfl, (fun h => by cases h), (fun _ => by rw [← hm0, if_neg (show ¬ (k3 = 0 ∨ K k3 = 1 ∨ K k3 = 5) by omega)]; exact none_dup (Or.inr ⟨hk2, rfl⟩) (tm_in hsp (hs k3 (by omega) hk3 hk2).2 (by rw [← et]; exact c_231_15))), rfl⟩)
                      · skip
                        have hxS : inR (rc ++ [(k3, bs1 k3, ba1 k3)]) (S k3) = false := tm_out hsp (by omega) (by rw [← et]; exact c_231_15)
                        refine lv_aload_n hx hb dN_Mod_spreads_234 rfl (lv_at hl 5 rfl) ?_
                        refine lv_aload_n hx hb dN_Mod_spreads_235 rfl (lv_at hl 5 rfl) ?_
                        refine va_get (D := D) (ci := 12) (v := .ref (q 6)) (C := RN_Mod) (T := FN_Mod) (N := 25) hx hb ht fN_Mod hown hK hP 0 rfl rfl 6 (by decide) (ht _ mw_978) (fun _ h9 => h9) rfl dN_Mod_spreads_236 ?_
                        refine lv_iload_n hx hb dN_Mod_spreads_239 rfl (lv_at hl 4 rfl) ?_
                        refine xi_ald hx hb hK hP 4 0 rfl rfl dN_Mod_spreads_240 (by omega) (by omega) ?_
                        refine xn_top (y := (nI (S k3))) (hs k3 (by omega) hk3 hk2).1 ?_
                        refine vx_calli (wc := [(o, .inr (12, [.int (nI th), .int (nI n), .int (nI b), .ref (q 3), .ref (q 4), .ref (q 5), .ref (q 6), .ref (q 7), .int (nI len), .ref (q 9), .ref (q 10), .ref (q 11), .ref (q 12), .ref (q 13), .ref (q 14), .ref (q 15), .ref (q 16), .ref (q 17), .int (nI tr), .int (nI h2), .ref (q 20), .ref (q 21), .ref (q 22), .ref (q 23), .int (nI ma)])), (q 13, .inl (cI, 500, .inl (ni pl1)))]) (wr := [(q 3, .inl (cI, 200, .inl (ni K))), (q 4, .inl (cI, 200, .inl vI)), (q 5, .inl (cI, 200, .inl fI)), (q 6, .inl (cI, 200, .inl sI)), (q 21, .inl (cI, 200, .inl (ni bs1))), (q 22, .inl (cI, 200, .inl (ni ba1))), (q 23, .inl (cI, 200, .inl ((upd bt1 k3 (nI t)))))]) [0, 5] [1, 2, 3, 4, 6, 7, 8] hK hP hD hS hA rfl rfl (by decide) (by decide) (va_runV (As := [.int (nI (S k3))]) (rest := []) ⟨hx, hb, hml, hown, ht⟩ (kMod_isWaiting l D cI cZ cJ o q th n b len tr h2 ma pl1 (S k3) (by omega) (by have := (hs k3 (by omega) hk3 hk2).2; omega) (fun j hj => by have := (hsp.2.1 j (by omega)).1; omega) _) (⟨callB_of 1 ht (TB_in2 gN_Mod_isWaiting) rfl rfl rfl (ht _ mw_14) (ht _ mw_1151) (by decide +kernel) ⟨Nat.le_of_ble_eq_true rfl, Nat.le_of_ble_eq_true rfl⟩, ht _ mw_1153, ht _ ms_46⟩) (vx_preV [0, 5] hK hP hD (by decide) rfl (ci := 12) rfl 0 rfl) rfl rfl hl.1 rfl (lv_room (Nat.le_of_ble_eq_true rfl)) dN_Mod_spreads_241 ⟨Nat.le_of_ble_eq_true rfl, Nat.le_of_ble_eq_true rfl⟩) (fun r1 w1 H locs hq hP hD hS => ?_)
                        obtain ⟨rfl, rfl⟩ := hq
                        have hP : va_P D clN [(o, .inr (12, [.int (nI th), .int (nI n), .int (nI b), .ref (q 3), .ref (q 4), .ref (q 5), .ref (q 6), .ref (q 7), .int (nI len), .ref (q 9), .ref (q 10), .ref (q 11), .ref (q 12), .ref (q 13), .ref (q 14), .ref (q 15), .ref (q 16), .ref (q 17), .int (nI tr), .int (nI h2), .ref (q 20), .ref (q 21), .ref (q 22), .ref (q 23), .int (nI ma)])), (q 3, .inl (cI, 200, .inl (ni K))), (q 4, .inl (cI, 200, .inl vI)), (q 5, .inl (cI, 200, .inl fI)), (q 6, .inl (cI, 200, .inl sI)), (q 13, .inl (cI, 500, .inl (ni pl1))), (q 21, .inl (cI, 200, .inl (ni bs1))), (q 22, .inl (cI, 200, .inl (ni ba1))), (q 23, .inl (cI, 200, .inl ((upd bt1 k3 (nI t)))))] H := hP.sub [7, 0, 1, 2, 3, 8, 4, 5, 6] rfl
                        have hD : va_D A [(o, .inr (12, [.int (nI th), .int (nI n), .int (nI b), .ref (q 3), .ref (q 4), .ref (q 5), .ref (q 6), .ref (q 7), .int (nI len), .ref (q 9), .ref (q 10), .ref (q 11), .ref (q 12), .ref (q 13), .ref (q 14), .ref (q 15), .ref (q 16), .ref (q 17), .int (nI tr), .int (nI h2), .ref (q 20), .ref (q 21), .ref (q 22), .ref (q 23), .int (nI ma)])), (q 3, .inl (cI, 200, .inl (ni K))), (q 4, .inl (cI, 200, .inl vI)), (q 5, .inl (cI, 200, .inl fI)), (q 6, .inl (cI, 200, .inl sI)), (q 13, .inl (cI, 500, .inl (ni pl1))), (q 21, .inl (cI, 200, .inl (ni bs1))), (q 22, .inl (cI, 200, .inl (ni ba1))), (q 23, .inl (cI, 200, .inl ((upd bt1 k3 (nI t)))))] := hD.sub [7, 0, 1, 2, 3, 8, 4, 5, 6] (by decide) rfl
                        refine xz_ne0 (tgt := 289) hx hb dN_Mod_spreads_244 (by decide) (fun c_244_16 => ?_) (fun c_244_16 => ?_)
                        · skip
                          refine lv_iconst (v := (nI 0)) hx hb dN_Mod_spreads_289 (by decide) ?_
                          refine xn_top (y := zi false) rfl ?_
                          exact vx_zret C hK hP hD hS dN_Mod_spreads_290 (Nat.le_of_ble_eq_true rfl) (Nat.le_of_ble_eq_true rfl) (zi_nar2 _) (⟨_, _, _, _, _, false, rfl, (fun h => by cases h), (fun _ => by rw [← hm0, if_neg (show ¬ (k3 = 0 ∨ K k3 = 1 ∨ K k3 = 5) by omega)]; exact none_wait (Or.inr ⟨hk2, rfl⟩) c_244_16), rfl⟩)
                        · skip
                          refine lv_aload_n hx hb dN_Mod_spreads_247 rfl (lv_at hl 5 rfl) ?_
                          refine va_get (D := D) (ci := 12) (v := .ref (q 5)) (C := RN_Mod) (T := FN_Mod) (N := 25) hx hb ht fN_Mod hown hK hP 0 rfl rfl 5 (by decide) (ht _ mw_977) (fun _ h9 => h9) rfl dN_Mod_spreads_248 ?_
                          refine lv_iload_n hx hb dN_Mod_spreads_251 rfl (lv_at hl 4 rfl) ?_
                          refine xi_ald hx hb hK hP 3 0 rfl rfl dN_Mod_spreads_252 (by omega) (by omega) ?_
                          refine xn_top (y := (nI (F k3))) (hf k3 (by omega) hk3 (by have := hK5 k3; have := hK1 k3 (by omega) hk3; omega)).1 ?_
                          refine lv_aload_n hx hb dN_Mod_spreads_253 rfl (lv_at hl 5 rfl) ?_
                          refine va_get (D := D) (ci := 12) (v := .ref (q 6)) (C := RN_Mod) (T := FN_Mod) (N := 25) hx hb ht fN_Mod hown hK hP 0 rfl rfl 6 (by decide) (ht _ mw_978) (fun _ h9 => h9) rfl dN_Mod_spreads_254 ?_
                          refine lv_iload_n hx hb dN_Mod_spreads_257 rfl (lv_at hl 4 rfl) ?_
                          refine xi_ald hx hb hK hP 4 0 rfl rfl dN_Mod_spreads_258 (by omega) (by omega) ?_
                          refine xn_top (y := (nI (S k3))) (hs k3 (by omega) hk3 hk2).1 ?_
                          refine xn_eq (tgt := 289) hx hb dN_Mod_spreads_259 (by decide) (by have := (hf k3 (by omega) hk3 (by have := hK5 k3; have := hK1 k3 (by omega) hk3; omega)).2; omega) (by have := (hs k3 (by omega) hk3 hk2).2; omega) (fun c_259_17 => ?_) (fun c_259_17 => ?_)
                          · skip
                            refine lv_iconst (v := (nI 0)) hx hb dN_Mod_spreads_289 (by decide) ?_
                            refine xn_top (y := zi false) rfl ?_
                            exact vx_zret C hK hP hD hS dN_Mod_spreads_290 (Nat.le_of_ble_eq_true rfl) (Nat.le_of_ble_eq_true rfl) (zi_nar2 _) (⟨_, _, _, _, _, false, rfl, (fun h => by cases h), (fun _ => by rw [← hm0, if_neg (show ¬ (k3 = 0 ∨ K k3 = 1 ∨ K k3 = 5) by omega)]; exact none_same hk2 c_259_17), rfl⟩)
                          · skip
                            refine lv_aload_n hx hb dN_Mod_spreads_262 rfl (lv_at hl 5 rfl) ?_
                            refine va_get (D := D) (ci := 12) (v := .ref (q 23)) (C := RN_Mod) (T := FN_Mod) (N := 25) hx hb ht fN_Mod hown hK hP 0 rfl rfl 23 (by decide) (ht _ mw_995) (fun _ h9 => h9) rfl dN_Mod_spreads_263 ?_
                            refine lv_aload_n hx hb dN_Mod_spreads_266 rfl (lv_at hl 5 rfl) ?_
                            refine va_get (D := D) (ci := 12) (v := .ref (q 5)) (C := RN_Mod) (T := FN_Mod) (N := 25) hx hb ht fN_Mod hown hK hP 0 rfl rfl 5 (by decide) (ht _ mw_977) (fun _ h9 => h9) rfl dN_Mod_spreads_267 ?_
                            refine lv_iload_n hx hb dN_Mod_spreads_270 rfl (lv_at hl 4 rfl) ?_
                            refine xi_ald hx hb hK hP 3 0 rfl rfl dN_Mod_spreads_271 (by omega) (by omega) ?_
                            refine xn_top (y := (nI (F k3))) (hf k3 (by omega) hk3 (by have := hK5 k3; have := hK1 k3 (by omega) hk3; omega)).1 ?_
                            refine xi_ald hx hb hK hP 8 0 rfl rfl dN_Mod_spreads_272 (by have := (hf k3 (by omega) hk3 (by have := hK5 k3; have := hK1 k3 (by omega) hk3; omega)).2; omega) (by omega) ?_
                            refine lv_if_ge (tgt := 289) hx hb dN_Mod_spreads_273 (by decide) (fun c_273_18 => ?_) (fun c_273_18 => ?_)
                            · skip
                              refine lv_iconst (v := (nI 0)) hx hb dN_Mod_spreads_289 (by decide) ?_
                              refine xn_top (y := zi false) rfl ?_
                              exact vx_zret C hK hP hD hS dN_Mod_spreads_290 (Nat.le_of_ble_eq_true rfl) (Nat.le_of_ble_eq_true rfl) (zi_nar2 _) (⟨_, _, _, _, _, false, rfl, (fun h => by cases h), (fun _ => by rw [← hm0, if_neg (show ¬ (k3 = 0 ∨ K k3 = 1 ∨ K k3 = 5) by omega)]; exact none_dup (Or.inl rfl) (tm_in hsp (hf k3 (by omega) hk3 (by have := hK5 k3; have := hK1 k3 (by omega) hk3; omega)).2 (by rw [← et]; exact c_273_18))), rfl⟩)
                            · skip
                              have hxF : inR (rc ++ [(k3, bs1 k3, ba1 k3)]) (F k3) = false := tm_out hsp (by omega) (by rw [← et]; exact c_273_18)
                              refine lv_aload_n hx hb dN_Mod_spreads_276 rfl (lv_at hl 5 rfl) ?_
                              refine lv_aload_n hx hb dN_Mod_spreads_277 rfl (lv_at hl 5 rfl) ?_
                              refine va_get (D := D) (ci := 12) (v := .ref (q 5)) (C := RN_Mod) (T := FN_Mod) (N := 25) hx hb ht fN_Mod hown hK hP 0 rfl rfl 5 (by decide) (ht _ mw_977) (fun _ h9 => h9) rfl dN_Mod_spreads_278 ?_
                              refine lv_iload_n hx hb dN_Mod_spreads_281 rfl (lv_at hl 4 rfl) ?_
                              refine xi_ald hx hb hK hP 3 0 rfl rfl dN_Mod_spreads_282 (by omega) (by omega) ?_
                              refine xn_top (y := (nI (F k3))) (hf k3 (by omega) hk3 (by have := hK5 k3; have := hK1 k3 (by omega) hk3; omega)).1 ?_
                              refine vx_calli (wc := [(o, .inr (12, [.int (nI th), .int (nI n), .int (nI b), .ref (q 3), .ref (q 4), .ref (q 5), .ref (q 6), .ref (q 7), .int (nI len), .ref (q 9), .ref (q 10), .ref (q 11), .ref (q 12), .ref (q 13), .ref (q 14), .ref (q 15), .ref (q 16), .ref (q 17), .int (nI tr), .int (nI h2), .ref (q 20), .ref (q 21), .ref (q 22), .ref (q 23), .int (nI ma)])), (q 13, .inl (cI, 500, .inl (ni pl1)))]) (wr := [(q 3, .inl (cI, 200, .inl (ni K))), (q 4, .inl (cI, 200, .inl vI)), (q 5, .inl (cI, 200, .inl fI)), (q 6, .inl (cI, 200, .inl sI)), (q 21, .inl (cI, 200, .inl (ni bs1))), (q 22, .inl (cI, 200, .inl (ni ba1))), (q 23, .inl (cI, 200, .inl ((upd bt1 k3 (nI t)))))]) [0, 5] [1, 2, 3, 4, 6, 7, 8] hK hP hD hS hA rfl rfl (by decide) (by decide) (va_runV (As := [.int (nI (F k3))]) (rest := []) ⟨hx, hb, hml, hown, ht⟩ (kMod_isWaiting l D cI cZ cJ o q th n b len tr h2 ma pl1 (F k3) (by omega) (by have := (hf k3 (by omega) hk3 (by have := hK5 k3; have := hK1 k3 (by omega) hk3; omega)).2; omega) (fun j hj => by have := (hsp.2.1 j (by omega)).1; omega) _) (⟨callB_of 1 ht (TB_in2 gN_Mod_isWaiting) rfl rfl rfl (ht _ mw_14) (ht _ mw_1151) (by decide +kernel) ⟨Nat.le_of_ble_eq_true rfl, Nat.le_of_ble_eq_true rfl⟩, ht _ mw_1153, ht _ ms_46⟩) (vx_preV [0, 5] hK hP hD (by decide) rfl (ci := 12) rfl 0 rfl) rfl rfl hl.1 rfl (lv_room (Nat.le_of_ble_eq_true rfl)) dN_Mod_spreads_283 ⟨Nat.le_of_ble_eq_true rfl, Nat.le_of_ble_eq_true rfl⟩) (fun r1 w1 H locs hq hP hD hS => ?_)
                              obtain ⟨rfl, rfl⟩ := hq
                              have hP : va_P D clN [(o, .inr (12, [.int (nI th), .int (nI n), .int (nI b), .ref (q 3), .ref (q 4), .ref (q 5), .ref (q 6), .ref (q 7), .int (nI len), .ref (q 9), .ref (q 10), .ref (q 11), .ref (q 12), .ref (q 13), .ref (q 14), .ref (q 15), .ref (q 16), .ref (q 17), .int (nI tr), .int (nI h2), .ref (q 20), .ref (q 21), .ref (q 22), .ref (q 23), .int (nI ma)])), (q 3, .inl (cI, 200, .inl (ni K))), (q 4, .inl (cI, 200, .inl vI)), (q 5, .inl (cI, 200, .inl fI)), (q 6, .inl (cI, 200, .inl sI)), (q 13, .inl (cI, 500, .inl (ni pl1))), (q 21, .inl (cI, 200, .inl (ni bs1))), (q 22, .inl (cI, 200, .inl (ni ba1))), (q 23, .inl (cI, 200, .inl ((upd bt1 k3 (nI t)))))] H := hP.sub [7, 0, 1, 2, 3, 8, 4, 5, 6] rfl
                              have hD : va_D A [(o, .inr (12, [.int (nI th), .int (nI n), .int (nI b), .ref (q 3), .ref (q 4), .ref (q 5), .ref (q 6), .ref (q 7), .int (nI len), .ref (q 9), .ref (q 10), .ref (q 11), .ref (q 12), .ref (q 13), .ref (q 14), .ref (q 15), .ref (q 16), .ref (q 17), .int (nI tr), .int (nI h2), .ref (q 20), .ref (q 21), .ref (q 22), .ref (q 23), .int (nI ma)])), (q 3, .inl (cI, 200, .inl (ni K))), (q 4, .inl (cI, 200, .inl vI)), (q 5, .inl (cI, 200, .inl fI)), (q 6, .inl (cI, 200, .inl sI)), (q 13, .inl (cI, 500, .inl (ni pl1))), (q 21, .inl (cI, 200, .inl (ni bs1))), (q 22, .inl (cI, 200, .inl (ni ba1))), (q 23, .inl (cI, 200, .inl ((upd bt1 k3 (nI t)))))] := hD.sub [7, 0, 1, 2, 3, 8, 4, 5, 6] (by decide) rfl
                              refine xz_eq0 (tgt := 291) hx hb dN_Mod_spreads_286 (by decide) (fun c_286_19 => ?_) (fun c_286_19 => ?_)
                              · skip
                                have hwF := wtB_f c_286_19
                                refine lv_iload hx hb dN_Mod_spreads_291 (lv_at hl 0 rfl) ?_
                                refine xz_eq0 (tgt := 310) hx hb dN_Mod_spreads_293 (by decide) (fun c_293_20 => ?_) (fun c_293_20 => ?_)
                                · skip
                                  exact absurd c_293_20 (by rw [c_217_11]; decide)
                                · skip
                                  have hxw : F k3 ≠ S k3 := c_259_17
                                  refine lv_aload_n hx hb dN_Mod_spreads_296 rfl (lv_at hl 5 rfl) ?_
                                  refine lv_aload_n hx hb dN_Mod_spreads_297 rfl (lv_at hl 5 rfl) ?_
                                  refine va_get (D := D) (ci := 12) (v := .ref (q 6)) (C := RN_Mod) (T := FN_Mod) (N := 25) hx hb ht fN_Mod hown hK hP 0 rfl rfl 6 (by decide) (ht _ mw_978) (fun _ h9 => h9) rfl dN_Mod_spreads_298 ?_
                                  refine lv_iload_n hx hb dN_Mod_spreads_301 rfl (lv_at hl 4 rfl) ?_
                                  refine xi_ald hx hb hK hP 4 0 rfl rfl dN_Mod_spreads_302 (by omega) (by omega) ?_
                                  refine xn_top (y := (nI (S k3))) (hs k3 (by omega) hk3 hk2).1 ?_
                                  refine lv_iload hx hb dN_Mod_spreads_303 (lv_at hl 2 rfl) ?_
                                  refine lv_iload hx hb dN_Mod_spreads_305 (lv_at hl 1 rfl) ?_
                                  refine vx_callv (wc := [(o, .inr (12, [.int (nI th), .int (nI n), .int (nI b), .ref (q 3), .ref (q 4), .ref (q 5), .ref (q 6), .ref (q 7), .int (nI len), .ref (q 9), .ref (q 10), .ref (q 11), .ref (q 12), .ref (q 13), .ref (q 14), .ref (q 15), .ref (q 16), .ref (q 17), .int (nI tr), .int (nI h2), .ref (q 20), .ref (q 21), .ref (q 22), .ref (q 23), .int (nI ma)])), (q 13, .inl (cI, 500, .inl (ni pl1))), (q 21, .inl (cI, 200, .inl (ni bs1))), (q 22, .inl (cI, 200, .inl (ni ba1)))]) (wr := [(q 3, .inl (cI, 200, .inl (ni K))), (q 4, .inl (cI, 200, .inl vI)), (q 5, .inl (cI, 200, .inl fI)), (q 6, .inl (cI, 200, .inl sI)), (q 23, .inl (cI, 200, .inl ((upd bt1 k3 (nI t)))))]) [0, 5, 6, 7] [1, 2, 3, 4, 8] hK hP hD hS hA rfl rfl (by decide) (by decide) (va_runV (As := [.int (nI (S k3)), .int (nI j9), .int (nI j10)]) (rest := []) ⟨hx, hb, hml, hown, ht⟩ (kMod_hold l D cI cZ cJ o q th n b len tr h2 ma pl1 bs1 ba1 (S k3) j9 j10 (by omega) (by have := (hs k3 (by omega) hk3 hk2).2; omega) _) (⟨callB_of 3 ht (TB_in2 gN_Mod_hold) rfl rfl rfl (ht _ mw_14) (ht _ mw_1155) (by decide +kernel) ⟨Nat.le_of_ble_eq_true rfl, Nat.le_of_ble_eq_true rfl⟩, ht _ mw_1157, ht _ ms_47⟩) (vx_preV [0, 5, 6, 7] hK hP hD (by decide) rfl (ci := 12) rfl 0 rfl) rfl rfl hl.1 rfl (lv_room (Nat.le_of_ble_eq_true rfl)) dN_Mod_spreads_307 ⟨Nat.le_of_ble_eq_true rfl, Nat.le_of_ble_eq_true rfl⟩) (fun w1 H locs hq hP hD hS => ?_)
                                  subst hq
                                  have hP : va_P D clN [(o, .inr (12, [.int (nI th), .int (nI n), .int (nI b), .ref (q 3), .ref (q 4), .ref (q 5), .ref (q 6), .ref (q 7), .int (nI len), .ref (q 9), .ref (q 10), .ref (q 11), .ref (q 12), .ref (q 13), .ref (q 14), .ref (q 15), .ref (q 16), .ref (q 17), .int (nI tr), .int (nI (h2 + 1)), .ref (q 20), .ref (q 21), .ref (q 22), .ref (q 23), .int (nI ma)])), (q 3, .inl (cI, 200, .inl (ni K))), (q 4, .inl (cI, 200, .inl vI)), (q 5, .inl (cI, 200, .inl fI)), (q 6, .inl (cI, 200, .inl sI)), (q 13, .inl (cI, 500, .inl (ni (un pl1 h2 (S k3))))), (q 21, .inl (cI, 200, .inl (ni (un bs1 (S k3) j9)))), (q 22, .inl (cI, 200, .inl (ni (un ba1 (S k3) j10)))), (q 23, .inl (cI, 200, .inl ((upd bt1 k3 (nI t)))))] H := hP.sub [5, 0, 1, 2, 3, 6, 7, 8, 4] rfl
                                  have hD : va_D A [(o, .inr (12, [.int (nI th), .int (nI n), .int (nI b), .ref (q 3), .ref (q 4), .ref (q 5), .ref (q 6), .ref (q 7), .int (nI len), .ref (q 9), .ref (q 10), .ref (q 11), .ref (q 12), .ref (q 13), .ref (q 14), .ref (q 15), .ref (q 16), .ref (q 17), .int (nI tr), .int (nI (h2 + 1)), .ref (q 20), .ref (q 21), .ref (q 22), .ref (q 23), .int (nI ma)])), (q 3, .inl (cI, 200, .inl (ni K))), (q 4, .inl (cI, 200, .inl vI)), (q 5, .inl (cI, 200, .inl fI)), (q 6, .inl (cI, 200, .inl sI)), (q 13, .inl (cI, 500, .inl (ni (un pl1 h2 (S k3))))), (q 21, .inl (cI, 200, .inl (ni (un bs1 (S k3) j9)))), (q 22, .inl (cI, 200, .inl (ni (un ba1 (S k3) j10)))), (q 23, .inl (cI, 200, .inl ((upd bt1 k3 (nI t)))))] := hD.sub [5, 0, 1, 2, 3, 6, 7, 8, 4] (by decide) rfl
                                  refine lv_aload_n hx hb dN_Mod_spreads_310 rfl (lv_at hl 5 rfl) ?_
                                  refine lv_aload_n hx hb dN_Mod_spreads_311 rfl (lv_at hl 5 rfl) ?_
                                  refine va_get (D := D) (ci := 12) (v := .ref (q 5)) (C := RN_Mod) (T := FN_Mod) (N := 25) hx hb ht fN_Mod hown hK hP 0 rfl rfl 5 (by decide) (ht _ mw_977) (fun _ h9 => h9) rfl dN_Mod_spreads_312 ?_
                                  refine lv_iload_n hx hb dN_Mod_spreads_315 rfl (lv_at hl 4 rfl) ?_
                                  refine xi_ald hx hb hK hP 3 0 rfl rfl dN_Mod_spreads_316 (by omega) (by omega) ?_
                                  refine xn_top (y := (nI (F k3))) (hf k3 (by omega) hk3 (by have := hK5 k3; have := hK1 k3 (by omega) hk3; omega)).1 ?_
                                  refine lv_iload hx hb dN_Mod_spreads_317 (lv_at hl 2 rfl) ?_
                                  refine lv_iload hx hb dN_Mod_spreads_319 (lv_at hl 1 rfl) ?_
                                  refine vx_callv (wc := [(o, .inr (12, [.int (nI th), .int (nI n), .int (nI b), .ref (q 3), .ref (q 4), .ref (q 5), .ref (q 6), .ref (q 7), .int (nI len), .ref (q 9), .ref (q 10), .ref (q 11), .ref (q 12), .ref (q 13), .ref (q 14), .ref (q 15), .ref (q 16), .ref (q 17), .int (nI tr), .int (nI (h2 + 1)), .ref (q 20), .ref (q 21), .ref (q 22), .ref (q 23), .int (nI ma)])), (q 13, .inl (cI, 500, .inl (ni (un pl1 h2 (S k3))))), (q 21, .inl (cI, 200, .inl (ni (un bs1 (S k3) j9)))), (q 22, .inl (cI, 200, .inl (ni (un ba1 (S k3) j10))))]) (wr := [(q 3, .inl (cI, 200, .inl (ni K))), (q 4, .inl (cI, 200, .inl vI)), (q 5, .inl (cI, 200, .inl fI)), (q 6, .inl (cI, 200, .inl sI)), (q 23, .inl (cI, 200, .inl ((upd bt1 k3 (nI t)))))]) [0, 5, 6, 7] [1, 2, 3, 4, 8] hK hP hD hS hA rfl rfl (by decide) (by decide) (va_runV (As := [.int (nI (F k3)), .int (nI j9), .int (nI j10)]) (rest := []) ⟨hx, hb, hml, hown, ht⟩ (kMod_hold l D cI cZ cJ o q th n b len tr (h2 + 1) ma (un pl1 h2 (S k3)) (un bs1 (S k3) j9) (un ba1 (S k3) j10) (F k3) j9 j10 (by omega) (by have := (hf k3 (by omega) hk3 (by have := hK5 k3; have := hK1 k3 (by omega) hk3; omega)).2; omega) _) (⟨callB_of 3 ht (TB_in2 gN_Mod_hold) rfl rfl rfl (ht _ mw_14) (ht _ mw_1155) (by decide +kernel) ⟨Nat.le_of_ble_eq_true rfl, Nat.le_of_ble_eq_true rfl⟩, ht _ mw_1157, ht _ ms_47⟩) (vx_preV [0, 5, 6, 7] hK hP hD (by decide) rfl (ci := 12) rfl 0 rfl) rfl rfl hl.1 rfl (lv_room (Nat.le_of_ble_eq_true rfl)) dN_Mod_spreads_321 ⟨Nat.le_of_ble_eq_true rfl, Nat.le_of_ble_eq_true rfl⟩) (fun w1 H locs hq hP hD hS => ?_)
                                  subst hq
                                  have hP : va_P D clN [(o, .inr (12, [.int (nI th), .int (nI n), .int (nI b), .ref (q 3), .ref (q 4), .ref (q 5), .ref (q 6), .ref (q 7), .int (nI len), .ref (q 9), .ref (q 10), .ref (q 11), .ref (q 12), .ref (q 13), .ref (q 14), .ref (q 15), .ref (q 16), .ref (q 17), .int (nI tr), .int (nI ((h2 + 1) + 1)), .ref (q 20), .ref (q 21), .ref (q 22), .ref (q 23), .int (nI ma)])), (q 3, .inl (cI, 200, .inl (ni K))), (q 4, .inl (cI, 200, .inl vI)), (q 5, .inl (cI, 200, .inl fI)), (q 6, .inl (cI, 200, .inl sI)), (q 13, .inl (cI, 500, .inl (ni (un (un pl1 h2 (S k3)) (h2 + 1) (F k3))))), (q 21, .inl (cI, 200, .inl (ni (un (un bs1 (S k3) j9) (F k3) j9)))), (q 22, .inl (cI, 200, .inl (ni (un (un ba1 (S k3) j10) (F k3) j10)))), (q 23, .inl (cI, 200, .inl ((upd bt1 k3 (nI t)))))] H := hP.sub [5, 0, 1, 2, 3, 6, 7, 8, 4] rfl
                                  have hD : va_D A [(o, .inr (12, [.int (nI th), .int (nI n), .int (nI b), .ref (q 3), .ref (q 4), .ref (q 5), .ref (q 6), .ref (q 7), .int (nI len), .ref (q 9), .ref (q 10), .ref (q 11), .ref (q 12), .ref (q 13), .ref (q 14), .ref (q 15), .ref (q 16), .ref (q 17), .int (nI tr), .int (nI ((h2 + 1) + 1)), .ref (q 20), .ref (q 21), .ref (q 22), .ref (q 23), .int (nI ma)])), (q 3, .inl (cI, 200, .inl (ni K))), (q 4, .inl (cI, 200, .inl vI)), (q 5, .inl (cI, 200, .inl fI)), (q 6, .inl (cI, 200, .inl sI)), (q 13, .inl (cI, 500, .inl (ni (un (un pl1 h2 (S k3)) (h2 + 1) (F k3))))), (q 21, .inl (cI, 200, .inl (ni (un (un bs1 (S k3) j9) (F k3) j9)))), (q 22, .inl (cI, 200, .inl (ni (un (un ba1 (S k3) j10) (F k3) j10)))), (q 23, .inl (cI, 200, .inl ((upd bt1 k3 (nI t)))))] := hD.sub [5, 0, 1, 2, 3, 6, 7, 8, 4] (by decide) rfl
                                  refine lv_goto (tgt := 51) hx hb dN_Mod_spreads_324 (by decide) ?_
                                  exact ih_51_2 ((h2 + 1) + 1, un (un pl1 h2 (S k3)) (h2 + 1) (F k3), un (un bs1 (S k3) j9) (F k3) j9, un (un ba1 (S k3) j10) (F k3) j10, upd bt1 k3 (nI t), t + 1, rc ++ [(k3, bs1 k3, ba1 k3)]) _ _ _ ⟨hP, hD, hS, lv_sub hl [5, 6, 3] rfl, ⟨Sp_push (hf k3 (by omega) hk3 (by have := hK5 k3; have := hK1 k3 (by omega) hk3; omega)).2 hxF (fun j hj => pw2 hxw hwF j hj) (by simp; omega) (Sp_push (hs k3 (by omega) hk3 hk2).2 hxS (wtB_f c_244_16) (by simp; omega) hlf), by simp [et], m1, by omega, by rw [if_neg (show ¬ (k3 = 0 ∨ K k3 = 1 ∨ K k3 = 5) by omega), pshO, if_pos hk2, ← hj_s, ← hj_a] at hm0; rw [absO_push (fun j hj => pw2 hxw hwF j hj), absO_push (wtB_f c_244_16)]; exact hm0⟩⟩ (show (2 * cnF n (inR (rc ++ [(k3, bs1 k3, ba1 k3)])) + ((h2 + 1) + 1)) < (2 * cnF n (inR rc) + (h2 + 1)) from by omega)
                              · skip
                                refine lv_iconst (v := (nI 0)) hx hb dN_Mod_spreads_289 (by decide) ?_
                                refine xn_top (y := zi false) rfl ?_
                                exact vx_zret C hK hP hD hS dN_Mod_spreads_290 (Nat.le_of_ble_eq_true rfl) (Nat.le_of_ble_eq_true rfl) (zi_nar2 _) (⟨_, _, _, _, _, false, rfl, (fun h => by cases h), (fun _ => by rw [← hm0, if_neg (show ¬ (k3 = 0 ∨ K k3 = 1 ∨ K k3 = 5) by omega)]; exact none_wait (Or.inl rfl) c_286_19), rfl⟩)
                  · skip
                    refine lv_aload_n hx hb dN_Mod_spreads_198 rfl (lv_at hl 4 rfl) ?_
                    refine va_get (D := D) (ci := 12) (v := .ref (q 3)) (C := RN_Mod) (T := FN_Mod) (N := 25) hx hb ht fN_Mod hown hK hP 0 rfl rfl 3 (by decide) (ht _ mw_975) (fun _ h9 => h9) rfl dN_Mod_spreads_199 ?_
                    refine lv_iload_n hx hb dN_Mod_spreads_202 rfl (lv_at hl 3 rfl) ?_
                    refine xn_ald hx hb hK hP 1 0 rfl rfl dN_Mod_spreads_203 (by omega) (by omega) ?_
                    refine lv_iconst (v := (nI 2)) hx hb dN_Mod_spreads_204 (by decide) ?_
                    refine xn_ne (tgt := 212) hx hb dN_Mod_spreads_205 (by decide) (by have := hK5 k3; omega) (by omega) (fun c_205_21 => ?_) (fun c_205_21 => ?_)
                    · skip
                      refine lv_iconst (v := (zi false)) hx hb dN_Mod_spreads_212 (by decide) ?_
                      exact Jj11 (false) (by simp [c_7_1, c_55_3, c_84_4, c_100_5, c_110_6, c_120_7, c_205_21])
                    · skip
                      refine lv_iconst (v := (zi true)) hx hb dN_Mod_spreads_208 (by decide) ?_
                      refine lv_goto (tgt := 213) hx hb dN_Mod_spreads_209 (by decide) ?_
                      exact Jj11 (true) (by simp [c_7_1, c_55_3, c_84_4, c_100_5, c_110_6, c_120_7, c_205_21])
                · skip
                  refine lv_aload_n hx hb dN_Mod_spreads_162 rfl (lv_at hl 3 rfl) ?_
                  refine va_get (D := D) (ci := 12) (v := .ref (q 3)) (C := RN_Mod) (T := FN_Mod) (N := 25) hx hb ht fN_Mod hown hK hP 0 rfl rfl 3 (by decide) (ht _ mw_975) (fun _ h9 => h9) rfl dN_Mod_spreads_163 ?_
                  refine lv_iload_n hx hb dN_Mod_spreads_166 rfl (lv_at hl 2 rfl) ?_
                  refine xn_ald hx hb hK hP 1 0 rfl rfl dN_Mod_spreads_167 (by omega) (by omega) ?_
                  refine lv_iconst (v := (nI 4)) hx hb dN_Mod_spreads_168 (by decide) ?_
                  refine xn_ne (tgt := 190) hx hb dN_Mod_spreads_169 (by decide) (by have := hK5 k3; omega) (by omega) (fun c_169_22 => ?_) (fun c_169_22 => ?_)
                  · skip
                    refine lv_aload_n hx hb dN_Mod_spreads_190 rfl (lv_at hl 3 rfl) ?_
                    refine va_get (D := D) (ci := 12) (v := .ref (q 22)) (C := RN_Mod) (T := FN_Mod) (N := 25) hx hb ht fN_Mod hown hK hP 0 rfl rfl 22 (by decide) (ht _ mw_994) (fun _ h9 => h9) rfl dN_Mod_spreads_191 ?_
                    refine lv_iload_n hx hb dN_Mod_spreads_194 rfl (lv_at hl 2 rfl) ?_
                    refine xn_ald hx hb hK hP 7 0 rfl rfl dN_Mod_spreads_195 (by omega) (by omega) ?_
                    exact Jj10 (ba1 k3) (by rw [nxA, if_neg c_169_22])
                  · skip
                    refine lv_aload_n hx hb dN_Mod_spreads_172 rfl (lv_at hl 3 rfl) ?_
                    refine va_get (D := D) (ci := 12) (v := .ref (q 22)) (C := RN_Mod) (T := FN_Mod) (N := 25) hx hb ht fN_Mod hown hK hP 0 rfl rfl 22 (by decide) (ht _ mw_994) (fun _ h9 => h9) rfl dN_Mod_spreads_173 ?_
                    refine lv_iload_n hx hb dN_Mod_spreads_176 rfl (lv_at hl 2 rfl) ?_
                    refine xn_ald hx hb hK hP 7 0 rfl rfl dN_Mod_spreads_177 (by omega) (by omega) ?_
                    refine lv_iconst (v := (nI 1)) hx hb dN_Mod_spreads_178 (by decide) ?_
                    refine lv_aload_n hx hb dN_Mod_spreads_179 rfl (lv_at hl 3 rfl) ?_
                    refine va_get (D := D) (ci := 12) (v := .ref (q 4)) (C := RN_Mod) (T := FN_Mod) (N := 25) hx hb ht fN_Mod hown hK hP 0 rfl rfl 4 (by decide) (ht _ mw_976) (fun _ h9 => h9) rfl dN_Mod_spreads_180 ?_
                    refine lv_iload_n hx hb dN_Mod_spreads_183 rfl (lv_at hl 2 rfl) ?_
                    refine xi_ald hx hb hK hP 2 0 rfl rfl dN_Mod_spreads_184 (by omega) (by omega) ?_
                    refine xn_top (y := (nI (V k3))) (hv k3 (by omega) hk3 (Or.inr (Or.inr c_169_22))) ?_
                    refine lv_ishl hx hb dN_Mod_spreads_185 ?_
                    refine xn_top (y := (nI (2 ^ V k3))) (nI_bit (by have := hv4 k3 hk3 c_169_22; omega)) ?_
                    refine lv_ior hx hb dN_Mod_spreads_186 ?_
                    refine xn_top (y := (nI (ba1 k3 ||| 2 ^ V k3))) (nI_or _ _) ?_
                    refine lv_goto (tgt := 196) hx hb dN_Mod_spreads_187 (by decide) ?_
                    exact Jj10 (ba1 k3 ||| 2 ^ V k3) (by rw [nxA, if_pos c_169_22])
              · skip
                refine lv_aload_n hx hb dN_Mod_spreads_126 rfl (lv_at hl 2 rfl) ?_
                refine va_get (D := D) (ci := 12) (v := .ref (q 3)) (C := RN_Mod) (T := FN_Mod) (N := 25) hx hb ht fN_Mod hown hK hP 0 rfl rfl 3 (by decide) (ht _ mw_975) (fun _ h9 => h9) rfl dN_Mod_spreads_127 ?_
                refine lv_iload_n hx hb dN_Mod_spreads_130 rfl (lv_at hl 1 rfl) ?_
                refine xn_ald hx hb hK hP 1 0 rfl rfl dN_Mod_spreads_131 (by omega) (by omega) ?_
                refine lv_iconst (v := (nI 3)) hx hb dN_Mod_spreads_132 (by decide) ?_
                refine xn_ne (tgt := 154) hx hb dN_Mod_spreads_133 (by decide) (by have := hK5 k3; omega) (by omega) (fun c_133_23 => ?_) (fun c_133_23 => ?_)
                · skip
                  refine lv_aload_n hx hb dN_Mod_spreads_154 rfl (lv_at hl 2 rfl) ?_
                  refine va_get (D := D) (ci := 12) (v := .ref (q 21)) (C := RN_Mod) (T := FN_Mod) (N := 25) hx hb ht fN_Mod hown hK hP 0 rfl rfl 21 (by decide) (ht _ mw_993) (fun _ h9 => h9) rfl dN_Mod_spreads_155 ?_
                  refine lv_iload_n hx hb dN_Mod_spreads_158 rfl (lv_at hl 1 rfl) ?_
                  refine xn_ald hx hb hK hP 6 0 rfl rfl dN_Mod_spreads_159 (by omega) (by omega) ?_
                  exact Jj9 (bs1 k3) (by rw [nxS, if_neg c_133_23])
                · skip
                  refine lv_aload_n hx hb dN_Mod_spreads_136 rfl (lv_at hl 2 rfl) ?_
                  refine va_get (D := D) (ci := 12) (v := .ref (q 21)) (C := RN_Mod) (T := FN_Mod) (N := 25) hx hb ht fN_Mod hown hK hP 0 rfl rfl 21 (by decide) (ht _ mw_993) (fun _ h9 => h9) rfl dN_Mod_spreads_137 ?_
                  refine lv_iload_n hx hb dN_Mod_spreads_140 rfl (lv_at hl 1 rfl) ?_
                  refine xn_ald hx hb hK hP 6 0 rfl rfl dN_Mod_spreads_141 (by omega) (by omega) ?_
                  refine lv_iconst (v := (nI 1)) hx hb dN_Mod_spreads_142 (by decide) ?_
                  refine lv_aload_n hx hb dN_Mod_spreads_143 rfl (lv_at hl 2 rfl) ?_
                  refine va_get (D := D) (ci := 12) (v := .ref (q 4)) (C := RN_Mod) (T := FN_Mod) (N := 25) hx hb ht fN_Mod hown hK hP 0 rfl rfl 4 (by decide) (ht _ mw_976) (fun _ h9 => h9) rfl dN_Mod_spreads_144 ?_
                  refine lv_iload_n hx hb dN_Mod_spreads_147 rfl (lv_at hl 1 rfl) ?_
                  refine xi_ald hx hb hK hP 2 0 rfl rfl dN_Mod_spreads_148 (by omega) (by omega) ?_
                  refine xn_top (y := (nI (V k3))) (hv k3 (by omega) hk3 (Or.inr (Or.inl c_133_23))) ?_
                  refine lv_ishl hx hb dN_Mod_spreads_149 ?_
                  refine xn_top (y := (nI (2 ^ V k3))) (nI_bit (by have := hv3 k3 hk3 c_133_23; omega)) ?_
                  refine lv_ior hx hb dN_Mod_spreads_150 ?_
                  refine xn_top (y := (nI (bs1 k3 ||| 2 ^ V k3))) (nI_or _ _) ?_
                  refine lv_goto (tgt := 160) hx hb dN_Mod_spreads_151 (by decide) ?_
                  exact Jj9 (bs1 k3 ||| 2 ^ V k3) (by rw [nxS, if_pos c_133_23])
            · skip
              refine lv_goto (tgt := 51) hx hb dN_Mod_spreads_123 (by decide) ?_
              exact ih_51_2 (h2, pl1, bs1, ba1, upd bt1 k3 (nI t), t + 1, rc ++ [(k3, bs1 k3, ba1 k3)]) _ _ _ ⟨hP, hD, hS, lv_sub hl [2, 3, 0] rfl, ⟨hlf, by simp [et], m1, by omega, by rw [if_pos (by omega)] at hm0; exact hm0⟩⟩ (show (2 * cnF n (inR (rc ++ [(k3, bs1 k3, ba1 k3)])) + h2) < (2 * cnF n (inR rc) + (h2 + 1)) from by omega)
      · skip
        exact absurd (show bt1 k3 < 0 by rw [hsp.1.1 k3 hk3 hr3]; decide) c_84_4
  · skip
    refine lv_aload_n hx hb dN_Mod_spreads_10 rfl (lv_at hl 0 rfl) ?_
    refine va_get (D := D) (ci := 12) (v := .ref (q 23)) (C := RN_Mod) (T := FN_Mod) (N := 25) hx hb ht fN_Mod hown hK hP 0 rfl rfl 23 (by decide) (ht _ mw_995) (fun _ h9 => h9) rfl dN_Mod_spreads_11 ?_
    refine lv_iload_n hx hb dN_Mod_spreads_14 rfl (lv_at hl 2 rfl) ?_
    refine lv_iconst (v := (-1)) hx hb dN_Mod_spreads_15 (by decide) ?_
    refine xi_ast hx hb hK hP hD hS 8 0 rfl rfl dN_Mod_spreads_16 (by omega) (by omega) (fun H locs hP hD hS => ?_)
    have hP : va_P D clN [(o, .inr (12, [.int (nI th), .int (nI n), .int (nI b), .ref (q 3), .ref (q 4), .ref (q 5), .ref (q 6), .ref (q 7), .int (nI len), .ref (q 9), .ref (q 10), .ref (q 11), .ref (q 12), .ref (q 13), .ref (q 14), .ref (q 15), .ref (q 16), .ref (q 17), .int (nI tr), .int (nI hi), .ref (q 20), .ref (q 21), .ref (q 22), .ref (q 23), .int (nI ma)])), (q 3, .inl (cI, 200, .inl (ni K))), (q 4, .inl (cI, 200, .inl vI)), (q 5, .inl (cI, 200, .inl fI)), (q 6, .inl (cI, 200, .inl sI)), (q 13, .inl (cI, 500, .inl (ni pl))), (q 21, .inl (cI, 200, .inl (ni bs))), (q 22, .inl (cI, 200, .inl (ni ba))), (q 23, .inl (cI, 200, .inl ((upd bt k (-1)))))] H := hP
    have hD : va_D A [(o, .inr (12, [.int (nI th), .int (nI n), .int (nI b), .ref (q 3), .ref (q 4), .ref (q 5), .ref (q 6), .ref (q 7), .int (nI len), .ref (q 9), .ref (q 10), .ref (q 11), .ref (q 12), .ref (q 13), .ref (q 14), .ref (q 15), .ref (q 16), .ref (q 17), .int (nI tr), .int (nI hi), .ref (q 20), .ref (q 21), .ref (q 22), .ref (q 23), .int (nI ma)])), (q 3, .inl (cI, 200, .inl (ni K))), (q 4, .inl (cI, 200, .inl vI)), (q 5, .inl (cI, 200, .inl fI)), (q 6, .inl (cI, 200, .inl sI)), (q 13, .inl (cI, 500, .inl (ni pl))), (q 21, .inl (cI, 200, .inl (ni bs))), (q 22, .inl (cI, 200, .inl (ni ba))), (q 23, .inl (cI, 200, .inl ((upd bt k (-1)))))] := hD
    refine lv_iinc (v := (nI (k + 1))) (lv' := [(2, .int (nI (k + 1))), (0, .ref o), (1, .int (nI r0))]) hx hb dN_Mod_spreads_17 hl (k := 2) rfl (nI_1 _) (by decide) rfl (fun ls hl => ?_)
    refine lv_goto (tgt := 2) hx hb dN_Mod_spreads_20 (by decide) ?_
    exact ih_2_0 (upd bt k (-1), k + 1) _ _ _ ⟨hP, hD, hS, lv_sub hl [1, 2, 0] rfl, ⟨by omega, neg_step hbt⟩⟩ (show (n - (k + 1)) < (n - k) from by omega)
