set_option maxHeartbeats 4000000 in
set_option maxRecDepth 100000 in
/-- note(last, to, al) -/
theorem kMod_note (l : Launch) (D : va_G) (cI cZ cJ : ClassId) (o : Nat) (q : Nat → Nat) (th n b len tr hi ma : Nat) (K V F S u : Nat → Nat) (vI fI sI : Nat → Int32) (can : Nat → Bool) (last to : Nat) (al : Bool) (hn0 : 0 < n) (hn : n ≤ 200) (hle : len ≤ 200) (hu : ∀ i, u i < 256) (hK5 : ∀ i, K i < 6) (hv : ∀ i, 0 < i → i < n → (K i = 1 ∨ K i = 3 ∨ K i = 4) → vI i = nI (V i)) (hvb : ∀ i, V i < 65536) (hv4 : ∀ i, i < n → K i = 4 → V i < 6) (hf : ∀ i, 0 < i → i < n → (K i = 1 ∨ K i = 2 ∨ K i = 3 ∨ K i = 4) → fI i = nI (F i) ∧ F i < n) (hs : ∀ i, 0 < i → i < n → K i = 2 → sI i = nI (S i) ∧ S i < n) (hll : last ≤ len) (hto : to ≤ last + 1) : vx_Mv l yN_Mod_note wN_Mod_note ({ frames := 3, cells := 0, slots := 0, locals := 90 }) D clN (tyN cI cZ cJ) [.ref o, .int (nI last), .int (nI to), .int (zi al)] [(o, .inr (12, [.int (nI th), .int (nI n), .int (nI b), .ref (q 3), .ref (q 4), .ref (q 5), .ref (q 6), .ref (q 7), .int (nI len), .ref (q 9), .ref (q 10), .ref (q 11), .ref (q 12), .ref (q 13), .ref (q 14), .ref (q 15), .ref (q 16), .ref (q 17), .int (nI tr), .int (nI hi), .ref (q 20), .ref (q 21), .ref (q 22), .ref (q 23), .int (nI ma)])), (q 3, .inl (cI, 200, .inl (ni K))), (q 4, .inl (cI, 200, .inl vI)), (q 5, .inl (cI, 200, .inl fI)), (q 6, .inl (cI, 200, .inl sI)), (q 7, .inl (cI, 200, .inl (ni u))), (q 9, .inl (cZ, 40200, .inl (zb can)))] (fun w => ∃ f : Nat → Bool, w = [(o, .inr (12, [.int (nI th), .int (nI n), .int (nI b), .ref (q 3), .ref (q 4), .ref (q 5), .ref (q 6), .ref (q 7), .int (nI len), .ref (q 9), .ref (q 10), .ref (q 11), .ref (q 12), .ref (q 13), .ref (q 14), .ref (q 15), .ref (q 16), .ref (q 17), .int (nI tr), .int (nI hi), .ref (q 20), .ref (q 21), .ref (q 22), .ref (q 23), .int (nI ma)])), (q 3, .inl (cI, 200, .inl (ni K))), (q 4, .inl (cI, 200, .inl vI)), (q 5, .inl (cI, 200, .inl fI)), (q 6, .inl (cI, 200, .inl sI)), (q 7, .inl (cI, 200, .inl (ni u))), (q 9, .inl (cZ, 40200, .inl (zb f)))] ∧ ∀ p1 k, to ≤ p1 → p1 ≤ last → k < n → (f (200 * p1 + k) = true ↔ Can K V F S len u last al p1 k)) := by
  refine vx_startV (cc := cN_Mod_note) (maxL := 8) (ret := none) (by decide) rfl (Nat.le_of_ble_eq_true rfl) ?_
  intro p_0 e_0 s m below meth c_0 A ls C hK hP hD hS hA hl
  obtain ⟨hx, hb, hr, hml, hown, hts, hlocks, hnm⟩ := id C
  have hown : s.vm.findClass "StepMachinesModel" = some m.cls := hown
  have ht : ∀ w ∈ TB, w.before _ s = true := fun w h => hts w (List.mem_cons_of_mem _ h)
  have hl : lv_has ls 8 [(0, .ref o), (1, .int (nI last)), (2, .int (nI to)), (3, .int (zi al))] := hl
  refine lv_iload_n hx hb dN_Mod_note_0 rfl (lv_at hl 1 rfl) ?_
  refine lv_istore (lv' := [(4, .int (nI last)), (0, .ref o), (1, .int (nI last)), (2, .int (nI to)), (3, .int (zi al))]) hx hb dN_Mod_note_1 hl (by decide) rfl (fun ls hl => ?_)
  refine vx_loop (α := Int32 × Nat × (Nat → Bool)) (fun (vv : Int32 × Nat × (Nat → Bool)) (H : Heap) (locs : List Loc) (ls : Array Slot) => match vv with | (x, j, f) => va_P D clN [(o, .inr (12, [.int (nI th), .int (nI n), .int (nI b), .ref (q 3), .ref (q 4), .ref (q 5), .ref (q 6), .ref (q 7), .int (nI len), .ref (q 9), .ref (q 10), .ref (q 11), .ref (q 12), .ref (q 13), .ref (q 14), .ref (q 15), .ref (q 16), .ref (q 17), .int (nI tr), .int (nI hi), .ref (q 20), .ref (q 21), .ref (q 22), .ref (q 23), .int (nI ma)])), (q 3, .inl (cI, 200, .inl (ni K))), (q 4, .inl (cI, 200, .inl vI)), (q 5, .inl (cI, 200, .inl fI)), (q 6, .inl (cI, 200, .inl sI)), (q 7, .inl (cI, 200, .inl (ni u))), (q 9, .inl (cZ, 40200, .inl (zb f)))] H ∧ va_D A [(o, .inr (12, [.int (nI th), .int (nI n), .int (nI b), .ref (q 3), .ref (q 4), .ref (q 5), .ref (q 6), .ref (q 7), .int (nI len), .ref (q 9), .ref (q 10), .ref (q 11), .ref (q 12), .ref (q 13), .ref (q 14), .ref (q 15), .ref (q 16), .ref (q 17), .int (nI tr), .int (nI hi), .ref (q 20), .ref (q 21), .ref (q 22), .ref (q 23), .int (nI ma)])), (q 3, .inl (cI, 200, .inl (ni K))), (q 4, .inl (cI, 200, .inl vI)), (q 5, .inl (cI, 200, .inl fI)), (q 6, .inl (cI, 200, .inl sI)), (q 7, .inl (cI, 200, .inl (ni u))), (q 9, .inl (cZ, 40200, .inl (zb f)))] ∧ va_S A s.heap H locs ∧ lv_has ls 8 [(0, .ref o), (1, .int (nI last)), (2, .int (nI to)), (3, .int (zi al)), (4, .int x)] ∧ (x = nI j - nI 1 ∧ j ≤ last + 1 ∧ to ≤ j ∧ Above K V F S len u last al n j f)) (fun (vv : Int32 × Nat × (Nat → Bool)) => match vv with | (x, j, f) => j) 3 [] ?_ (nI (last), last + 1, can) ⟨hP, hD, hS, lv_sub hl [1, 2, 3, 4, 0] rfl, ⟨(m1_suc last).symm, by omega, by omega, fun p1 k h1 h2 h3 => absurd h1 (by omega)⟩⟩
  intro vv H locs ls hq ih_3_0
  obtain ⟨x, j, f⟩ := vv
  obtain ⟨hP, hD, hS, hl, hI⟩ := hq
  obtain ⟨ex, hj1, hj2, hrow⟩ := hI
  refine lv_iload hx hb dN_Mod_note_3 (lv_at hl 4 rfl) ?_
  refine lv_iload_n hx hb dN_Mod_note_5 rfl (lv_at hl 2 rfl) ?_
  refine lv_icmp_lt (tgt := 276) hx hb dN_Mod_note_6 (by decide) (fun c_6_1 => ?_) (fun c_6_1 => ?_)
  · skip
    rw [ex, m1_ltn (by omega) (by omega)] at c_6_1
    exact vx_vret C hK hP hD hS dN_Mod_note_276 (Nat.le_of_ble_eq_true rfl) (Nat.le_of_ble_eq_true rfl) (⟨f, rfl, fun p1 k h1 h2 h3 => hrow p1 k (by omega) h2 h3⟩)
  · skip
    rw [ex, m1_ltn (by omega) (by omega)] at c_6_1
    obtain ⟨p, rfl⟩ : ∃ p, j = p + 1 := ⟨j - 1, by omega⟩
    have hl : lv_has ls 8 [(0, .ref o), (1, .int (nI last)), (2, .int (nI to)), (3, .int (zi al)), (4, .int (nI p))] := by rw [ex, m1_suc] at hl; exact hl
    refine lv_iconst (v := (nI 0)) hx hb dN_Mod_note_9 (by decide) ?_
    refine lv_istore (lv' := [(5, .int (nI 0)), (0, .ref o), (1, .int (nI last)), (2, .int (nI to)), (3, .int (zi al)), (4, .int (nI p))]) hx hb dN_Mod_note_10 hl (by decide) rfl (fun ls hl => ?_)
    refine vx_loop (α := (Nat → Bool) × Nat) (fun (vv : (Nat → Bool) × Nat) (H : Heap) (locs : List Loc) (ls : Array Slot) => match vv with | (f, k) => va_P D clN [(o, .inr (12, [.int (nI th), .int (nI n), .int (nI b), .ref (q 3), .ref (q 4), .ref (q 5), .ref (q 6), .ref (q 7), .int (nI len), .ref (q 9), .ref (q 10), .ref (q 11), .ref (q 12), .ref (q 13), .ref (q 14), .ref (q 15), .ref (q 16), .ref (q 17), .int (nI tr), .int (nI hi), .ref (q 20), .ref (q 21), .ref (q 22), .ref (q 23), .int (nI ma)])), (q 3, .inl (cI, 200, .inl (ni K))), (q 4, .inl (cI, 200, .inl vI)), (q 5, .inl (cI, 200, .inl fI)), (q 6, .inl (cI, 200, .inl sI)), (q 7, .inl (cI, 200, .inl (ni u))), (q 9, .inl (cZ, 40200, .inl (zb f)))] H ∧ va_D A [(o, .inr (12, [.int (nI th), .int (nI n), .int (nI b), .ref (q 3), .ref (q 4), .ref (q 5), .ref (q 6), .ref (q 7), .int (nI len), .ref (q 9), .ref (q 10), .ref (q 11), .ref (q 12), .ref (q 13), .ref (q 14), .ref (q 15), .ref (q 16), .ref (q 17), .int (nI tr), .int (nI hi), .ref (q 20), .ref (q 21), .ref (q 22), .ref (q 23), .int (nI ma)])), (q 3, .inl (cI, 200, .inl (ni K))), (q 4, .inl (cI, 200, .inl vI)), (q 5, .inl (cI, 200, .inl fI)), (q 6, .inl (cI, 200, .inl sI)), (q 7, .inl (cI, 200, .inl (ni u))), (q 9, .inl (cZ, 40200, .inl (zb f)))] ∧ va_S A s.heap H locs ∧ lv_has ls 8 [(0, .ref o), (1, .int (nI last)), (2, .int (nI to)), (3, .int (zi al)), (4, .int (nI p)), (5, .int (nI k))] ∧ (k ≤ n ∧ Above K V F S len u last al n (p + 1) f ∧ ∀ k1, k1 < k → (f (200 * p + k1) = true ↔ Bs K V F S len u last al p k1))) (fun (vv : (Nat → Bool) × Nat) => match vv with | (f, k) => n - k) 12 [] ?_ (f, 0) ⟨hP, hD, hS, lv_sub hl [1, 2, 3, 4, 5, 0] rfl, ⟨by omega, hrow, fun k1 h1 => absurd h1 (by omega)⟩⟩
    intro vv H locs ls hq ih_12_2
    obtain ⟨f, k⟩ := vv
    obtain ⟨hP, hD, hS, hl, hI⟩ := hq
    obtain ⟨hkn, hab, hbs⟩ := hI
    refine lv_iload hx hb dN_Mod_note_12 (lv_at hl 5 rfl) ?_
    refine lv_aload_n hx hb dN_Mod_note_14 rfl (lv_at hl 0 rfl) ?_
    refine va_get (D := D) (ci := 12) (v := .int (nI n)) (C := RN_Mod) (T := FN_Mod) (N := 25) hx hb ht fN_Mod hown hK hP 0 rfl rfl 1 (by decide) (ht _ mw_973) (fun _ h9 => h9) rfl dN_Mod_note_15 ?_
    refine xn_ge (tgt := 112) hx hb dN_Mod_note_18 (by decide) (by omega) (by omega) (fun c_18_3 => ?_) (fun c_18_3 => ?_)
    · skip
      refine lv_iconst (v := (zi true)) hx hb dN_Mod_note_112 (by decide) ?_
      refine lv_istore (lv' := [(5, .int (zi true)), (0, .ref o), (1, .int (nI last)), (2, .int (nI to)), (3, .int (zi al)), (4, .int (nI p))]) hx hb dN_Mod_note_113 hl (by decide) rfl (fun ls hl => ?_)
      refine vx_loop (α := (Nat → Bool) × Bool) (fun (vv : (Nat → Bool) × Bool) (H : Heap) (locs : List Loc) (ls : Array Slot) => match vv with | (f, mo) => va_P D clN [(o, .inr (12, [.int (nI th), .int (nI n), .int (nI b), .ref (q 3), .ref (q 4), .ref (q 5), .ref (q 6), .ref (q 7), .int (nI len), .ref (q 9), .ref (q 10), .ref (q 11), .ref (q 12), .ref (q 13), .ref (q 14), .ref (q 15), .ref (q 16), .ref (q 17), .int (nI tr), .int (nI hi), .ref (q 20), .ref (q 21), .ref (q 22), .ref (q 23), .int (nI ma)])), (q 3, .inl (cI, 200, .inl (ni K))), (q 4, .inl (cI, 200, .inl vI)), (q 5, .inl (cI, 200, .inl fI)), (q 6, .inl (cI, 200, .inl sI)), (q 7, .inl (cI, 200, .inl (ni u))), (q 9, .inl (cZ, 40200, .inl (zb f)))] H ∧ va_D A [(o, .inr (12, [.int (nI th), .int (nI n), .int (nI b), .ref (q 3), .ref (q 4), .ref (q 5), .ref (q 6), .ref (q 7), .int (nI len), .ref (q 9), .ref (q 10), .ref (q 11), .ref (q 12), .ref (q 13), .ref (q 14), .ref (q 15), .ref (q 16), .ref (q 17), .int (nI tr), .int (nI hi), .ref (q 20), .ref (q 21), .ref (q 22), .ref (q 23), .int (nI ma)])), (q 3, .inl (cI, 200, .inl (ni K))), (q 4, .inl (cI, 200, .inl vI)), (q 5, .inl (cI, 200, .inl fI)), (q 6, .inl (cI, 200, .inl sI)), (q 7, .inl (cI, 200, .inl (ni u))), (q 9, .inl (cZ, 40200, .inl (zb f)))] ∧ va_S A s.heap H locs ∧ lv_has ls 8 [(0, .ref o), (1, .int (nI last)), (2, .int (nI to)), (3, .int (zi al)), (4, .int (nI p)), (5, .int (zi mo))] ∧ (Above K V F S len u last al n (p + 1) f ∧ Snd K V F S len u last al n p f ∧ (mo = false → ∀ k, 1 ≤ k → k < n → Cld K V F S len u p k f))) (fun (vv : (Nat → Bool) × Bool) => match vv with | (f, mo) => cntF n f p + (if mo = true then 1 else 0)) 115 [] ?_ (f, true) ⟨hP, hD, hS, lv_sub hl [1, 2, 3, 4, 5, 0] rfl, ⟨hab, fun k hk => ⟨fun h => Bs_Can ((hbs k (by omega)).mp h), (hbs k (by omega)).mpr⟩, fun h => by cases h⟩⟩
      intro vv H locs ls hq ih_115_4
      obtain ⟨f, mo⟩ := vv
      obtain ⟨hP, hD, hS, hl, hI⟩ := hq
      obtain ⟨hab, hsn, hcl⟩ := hI
      refine lv_iload hx hb dN_Mod_note_115 (lv_at hl 5 rfl) ?_
      refine xz_eq0 (tgt := 270) hx hb dN_Mod_note_117 (by decide) (fun c_117_5 => ?_) (fun c_117_5 => ?_)
      · skip
        refine lv_iinc (v := (nI p - nI 1)) (lv' := [(4, .int (nI p - nI 1)), (0, .ref o), (1, .int (nI last)), (2, .int (nI to)), (3, .int (zi al)), (5, .int (zi mo))]) hx hb dN_Mod_note_270 hl (k := 4) rfl (m1_dec p) (by decide) rfl (fun ls hl => ?_)
        refine lv_goto (tgt := 3) hx hb dN_Mod_note_273 (by decide) ?_
        exact ih_3_0 (nI p - nI 1, p, f) _ _ _ ⟨hP, hD, hS, lv_sub hl [1, 2, 3, 4, 0] rfl, ⟨rfl, by omega, by omega, row_done (fun i h1 h2 h3 => (hf i h1 h2 (by omega)).2) (fun i h1 h2 h3 => (hs i h1 h2 h3).2) hab hsn (hcl c_117_5)⟩⟩ (show (p) < (p + 1) from by omega)
      · skip
        refine lv_iconst (v := (zi false)) hx hb dN_Mod_note_120 (by decide) ?_
        refine lv_istore (lv' := [(5, .int (zi false)), (0, .ref o), (1, .int (nI last)), (2, .int (nI to)), (3, .int (zi al)), (4, .int (nI p))]) hx hb dN_Mod_note_121 hl (by decide) rfl (fun ls hl => ?_)
        refine lv_iconst (v := (nI 1)) hx hb dN_Mod_note_123 (by decide) ?_
        refine lv_istore (lv' := [(6, .int (nI 1)), (5, .int (zi false)), (0, .ref o), (1, .int (nI last)), (2, .int (nI to)), (3, .int (zi al)), (4, .int (nI p))]) hx hb dN_Mod_note_124 hl (by decide) rfl (fun ls hl => ?_)
        refine vx_loop (α := (Nat → Bool) × Bool × Nat) (fun (vv : (Nat → Bool) × Bool × Nat) (H : Heap) (locs : List Loc) (ls : Array Slot) => match vv with | (f1, mo1, k1) => va_P D clN [(o, .inr (12, [.int (nI th), .int (nI n), .int (nI b), .ref (q 3), .ref (q 4), .ref (q 5), .ref (q 6), .ref (q 7), .int (nI len), .ref (q 9), .ref (q 10), .ref (q 11), .ref (q 12), .ref (q 13), .ref (q 14), .ref (q 15), .ref (q 16), .ref (q 17), .int (nI tr), .int (nI hi), .ref (q 20), .ref (q 21), .ref (q 22), .ref (q 23), .int (nI ma)])), (q 3, .inl (cI, 200, .inl (ni K))), (q 4, .inl (cI, 200, .inl vI)), (q 5, .inl (cI, 200, .inl fI)), (q 6, .inl (cI, 200, .inl sI)), (q 7, .inl (cI, 200, .inl (ni u))), (q 9, .inl (cZ, 40200, .inl (zb f1)))] H ∧ va_D A [(o, .inr (12, [.int (nI th), .int (nI n), .int (nI b), .ref (q 3), .ref (q 4), .ref (q 5), .ref (q 6), .ref (q 7), .int (nI len), .ref (q 9), .ref (q 10), .ref (q 11), .ref (q 12), .ref (q 13), .ref (q 14), .ref (q 15), .ref (q 16), .ref (q 17), .int (nI tr), .int (nI hi), .ref (q 20), .ref (q 21), .ref (q 22), .ref (q 23), .int (nI ma)])), (q 3, .inl (cI, 200, .inl (ni K))), (q 4, .inl (cI, 200, .inl vI)), (q 5, .inl (cI, 200, .inl fI)), (q 6, .inl (cI, 200, .inl sI)), (q 7, .inl (cI, 200, .inl (ni u))), (q 9, .inl (cZ, 40200, .inl (zb f1)))] ∧ va_S A s.heap H locs ∧ lv_has ls 8 [(0, .ref o), (1, .int (nI last)), (2, .int (nI to)), (3, .int (zi al)), (4, .int (nI p)), (5, .int (zi mo1)), (6, .int (nI k1))] ∧ (1 ≤ k1 ∧ k1 ≤ n ∧ Above K V F S len u last al n (p + 1) f1 ∧ Snd K V F S len u last al n p f1 ∧ cntF n f1 p ≤ cntF n f p ∧ (mo1 = true → cntF n f1 p < cntF n f p) ∧ (mo1 = false → f1 = f ∧ ∀ k, 1 ≤ k → k < k1 → Cld K V F S len u p k f1))) (fun (vv : (Nat → Bool) × Bool × Nat) => match vv with | (f1, mo1, k1) => n - k1) 126 [] ?_ (f, false, 1) ⟨hP, hD, hS, lv_sub hl [2, 3, 4, 5, 6, 1, 0] rfl, ⟨by omega, by omega, hab, hsn, Nat.le_refl _, (fun h => by cases h), fun _ => ⟨rfl, fun k h1 h2 => absurd h1 (by omega)⟩⟩⟩
        intro vv H locs ls hq ih_126_6
        obtain ⟨f1, mo1, k1⟩ := vv
        obtain ⟨hP, hD, hS, hl, hI⟩ := hq
        obtain ⟨hk11, hk1n, hab1, hsn1, hct1, hmt1, hmo1⟩ := hI
        refine lv_iload hx hb dN_Mod_note_126 (lv_at hl 6 rfl) ?_
        refine lv_aload_n hx hb dN_Mod_note_128 rfl (lv_at hl 0 rfl) ?_
        refine va_get (D := D) (ci := 12) (v := .int (nI n)) (C := RN_Mod) (T := FN_Mod) (N := 25) hx hb ht fN_Mod hown hK hP 0 rfl rfl 1 (by decide) (ht _ mw_973) (fun _ h9 => h9) rfl dN_Mod_note_129 ?_
        refine xn_ge (tgt := 267) hx hb dN_Mod_note_132 (by decide) (by omega) (by omega) (fun c_132_7 => ?_) (fun c_132_7 => ?_)
        · skip
          refine lv_goto (tgt := 115) hx hb dN_Mod_note_267 (by decide) ?_
          exact ih_115_4 (f1, mo1) _ _ _ ⟨hP, hD, hS, lv_sub hl [0, 1, 2, 3, 4, 5] rfl, ⟨hab1, hsn1, fun h k h1 h2 => (hmo1 h).2 k h1 (by omega)⟩⟩ (show (cntF n f1 p + (if mo1 = true then 1 else 0)) < (cntF n f p + (if mo = true then 1 else 0)) from by rw [if_pos c_117_5]; cases mo1 with | true => (have := hmt1 rfl; simp; omega) | false => (rw [(hmo1 rfl).1]; simp))
        · skip
          refine lv_aload_n hx hb dN_Mod_note_135 rfl (lv_at hl 0 rfl) ?_
          refine va_get (D := D) (ci := 12) (v := .ref (q 9)) (C := RN_Mod) (T := FN_Mod) (N := 25) hx hb ht fN_Mod hown hK hP 0 rfl rfl 9 (by decide) (ht _ mw_981) (fun _ h9 => h9) rfl dN_Mod_note_136 ?_
          refine lv_sipush (v := (nI 200)) hx hb dN_Mod_note_139 (by decide) ?_
          refine lv_iload hx hb dN_Mod_note_142 (lv_at hl 4 rfl) ?_
          refine xn_mul hx hb dN_Mod_note_144 ?_
          refine lv_iload hx hb dN_Mod_note_145 (lv_at hl 6 rfl) ?_
          refine xn_add hx hb dN_Mod_note_147 ?_
          refine xz_ald hx hb hK hP 6 1 rfl rfl dN_Mod_note_148 (by omega) (by omega) ?_
          refine xz_ne0 (tgt := 261) hx hb dN_Mod_note_149 (by decide) (fun c_149_8 => ?_) (fun c_149_8 => ?_)
          · skip
            refine lv_iinc (v := (nI (k1 + 1))) (lv' := [(6, .int (nI (k1 + 1))), (0, .ref o), (1, .int (nI last)), (2, .int (nI to)), (3, .int (zi al)), (4, .int (nI p)), (5, .int (zi mo1))]) hx hb dN_Mod_note_261 hl (k := 6) rfl (nI_1 _) (by decide) rfl (fun ls hl => ?_)
            refine lv_goto (tgt := 126) hx hb dN_Mod_note_264 (by decide) ?_
            exact ih_126_6 (f1, mo1, k1 + 1) _ _ _ ⟨hP, hD, hS, lv_sub hl [1, 2, 3, 4, 5, 6, 0] rfl, ⟨by omega, by omega, hab1, hsn1, hct1, hmt1, fun h => ⟨(hmo1 h).1, Cld_more (hmo1 h).2 (fun h8 _ => by rw [c_149_8] at h8; cases h8)⟩⟩⟩ (show (n - (k1 + 1)) < (n - k1) from by omega)
          · skip
            refine lv_aload_n hx hb dN_Mod_note_152 rfl (lv_at hl 0 rfl) ?_
            refine lv_iload hx hb dN_Mod_note_153 (lv_at hl 6 rfl) ?_
            refine lv_iload hx hb dN_Mod_note_155 (lv_at hl 4 rfl) ?_
            refine vx_calli (wc := [(o, .inr (12, [.int (nI th), .int (nI n), .int (nI b), .ref (q 3), .ref (q 4), .ref (q 5), .ref (q 6), .ref (q 7), .int (nI len), .ref (q 9), .ref (q 10), .ref (q 11), .ref (q 12), .ref (q 13), .ref (q 14), .ref (q 15), .ref (q 16), .ref (q 17), .int (nI tr), .int (nI hi), .ref (q 20), .ref (q 21), .ref (q 22), .ref (q 23), .int (nI ma)])), (q 3, .inl (cI, 200, .inl (ni K))), (q 4, .inl (cI, 200, .inl vI)), (q 7, .inl (cI, 200, .inl (ni u)))]) (wr := [(q 5, .inl (cI, 200, .inl fI)), (q 6, .inl (cI, 200, .inl sI)), (q 9, .inl (cZ, 40200, .inl (zb f1)))]) [0, 1, 2, 5] [3, 4, 6] hK hP hD hS hA rfl rfl (by decide) (by decide) (va_runV (As := [.int (nI k1), .int (nI p)]) (rest := []) ⟨hx, hb, hml, hown, ht⟩ (kMod_passes l D cI cZ cJ o q th n b len tr hi ma K V u vI k1 p hn hle (by omega) (by omega) hu hK5 hv hvb hv4 _) (⟨callB_of 2 ht (TB_in2 gN_Mod_passes) rfl rfl rfl (ht _ mw_14) (ht _ mw_1099) (by decide +kernel) ⟨Nat.le_of_ble_eq_true rfl, Nat.le_of_ble_eq_true rfl⟩, ht _ mw_1101, ht _ ms_37⟩) (vx_preV [0, 1, 2, 5] hK hP hD (by decide) rfl (ci := 12) rfl 0 rfl) rfl rfl hl.1 rfl (lv_room (Nat.le_of_ble_eq_true rfl)) dN_Mod_note_157 ⟨Nat.le_of_ble_eq_true rfl, Nat.le_of_ble_eq_true rfl⟩) (fun r1 w1 H locs hq hP hD hS => ?_)
            obtain ⟨rfl, rfl⟩ := hq
            have hP : va_P D clN [(o, .inr (12, [.int (nI th), .int (nI n), .int (nI b), .ref (q 3), .ref (q 4), .ref (q 5), .ref (q 6), .ref (q 7), .int (nI len), .ref (q 9), .ref (q 10), .ref (q 11), .ref (q 12), .ref (q 13), .ref (q 14), .ref (q 15), .ref (q 16), .ref (q 17), .int (nI tr), .int (nI hi), .ref (q 20), .ref (q 21), .ref (q 22), .ref (q 23), .int (nI ma)])), (q 3, .inl (cI, 200, .inl (ni K))), (q 4, .inl (cI, 200, .inl vI)), (q 5, .inl (cI, 200, .inl fI)), (q 6, .inl (cI, 200, .inl sI)), (q 7, .inl (cI, 200, .inl (ni u))), (q 9, .inl (cZ, 40200, .inl (zb f1)))] H := hP.sub [3, 4, 5, 0, 1, 6, 2] rfl
            have hD : va_D A [(o, .inr (12, [.int (nI th), .int (nI n), .int (nI b), .ref (q 3), .ref (q 4), .ref (q 5), .ref (q 6), .ref (q 7), .int (nI len), .ref (q 9), .ref (q 10), .ref (q 11), .ref (q 12), .ref (q 13), .ref (q 14), .ref (q 15), .ref (q 16), .ref (q 17), .int (nI tr), .int (nI hi), .ref (q 20), .ref (q 21), .ref (q 22), .ref (q 23), .int (nI ma)])), (q 3, .inl (cI, 200, .inl (ni K))), (q 4, .inl (cI, 200, .inl vI)), (q 5, .inl (cI, 200, .inl fI)), (q 6, .inl (cI, 200, .inl sI)), (q 7, .inl (cI, 200, .inl (ni u))), (q 9, .inl (cZ, 40200, .inl (zb f1)))] := hD.sub [3, 4, 5, 0, 1, 6, 2] (by decide) rfl
            refine xz_ne0 (tgt := 166) hx hb dN_Mod_note_160 (by decide) (fun c_160_9 => ?_) (fun c_160_9 => ?_)
            · skip
              refine vx_join (α := Bool) (fun j11 => j11 = (f1 (200 * p + F k1) || (decide (K k1 = 2) && f1 (200 * p + S k1)))) (fun j11 => F0 m 226 ls [.int (zi j11)]) (fun j11 hj11 => ?_) (fun Jj11 => ?_)
              · skip
                have hj_is := hj11
                refine lv_istore (lv' := [(7, .int (zi j11)), (0, .ref o), (1, .int (nI last)), (2, .int (nI to)), (3, .int (zi al)), (4, .int (nI p)), (5, .int (zi mo1)), (6, .int (nI k1))]) hx hb dN_Mod_note_226 hl (by decide) rfl (fun ls hl => ?_)
                refine lv_aload_n hx hb dN_Mod_note_228 rfl (lv_at hl 1 rfl) ?_
                refine va_get (D := D) (ci := 12) (v := .ref (q 9)) (C := RN_Mod) (T := FN_Mod) (N := 25) hx hb ht fN_Mod hown hK hP 0 rfl rfl 9 (by decide) (ht _ mw_981) (fun _ h9 => h9) rfl dN_Mod_note_229 ?_
                refine lv_sipush (v := (nI 200)) hx hb dN_Mod_note_232 (by decide) ?_
                refine lv_iload hx hb dN_Mod_note_235 (lv_at hl 5 rfl) ?_
                refine xn_mul hx hb dN_Mod_note_237 ?_
                refine lv_iload hx hb dN_Mod_note_238 (lv_at hl 7 rfl) ?_
                refine xn_add hx hb dN_Mod_note_240 ?_
                refine lv_iload hx hb dN_Mod_note_241 (lv_at hl 0 rfl) ?_
                refine xz_ast hx hb hK hP hD hS 6 1 rfl rfl dN_Mod_note_243 (by omega) (by omega) (fun H locs hP hD hS => ?_)
                have hP : va_P D clN [(o, .inr (12, [.int (nI th), .int (nI n), .int (nI b), .ref (q 3), .ref (q 4), .ref (q 5), .ref (q 6), .ref (q 7), .int (nI len), .ref (q 9), .ref (q 10), .ref (q 11), .ref (q 12), .ref (q 13), .ref (q 14), .ref (q 15), .ref (q 16), .ref (q 17), .int (nI tr), .int (nI hi), .ref (q 20), .ref (q 21), .ref (q 22), .ref (q 23), .int (nI ma)])), (q 3, .inl (cI, 200, .inl (ni K))), (q 4, .inl (cI, 200, .inl vI)), (q 5, .inl (cI, 200, .inl fI)), (q 6, .inl (cI, 200, .inl sI)), (q 7, .inl (cI, 200, .inl (ni u))), (q 9, .inl (cZ, 40200, .inl (zb (ub f1 ((200 * p) + k1) j11))))] H := hP
                have hD : va_D A [(o, .inr (12, [.int (nI th), .int (nI n), .int (nI b), .ref (q 3), .ref (q 4), .ref (q 5), .ref (q 6), .ref (q 7), .int (nI len), .ref (q 9), .ref (q 10), .ref (q 11), .ref (q 12), .ref (q 13), .ref (q 14), .ref (q 15), .ref (q 16), .ref (q 17), .int (nI tr), .int (nI hi), .ref (q 20), .ref (q 21), .ref (q 22), .ref (q 23), .int (nI ma)])), (q 3, .inl (cI, 200, .inl (ni K))), (q 4, .inl (cI, 200, .inl vI)), (q 5, .inl (cI, 200, .inl fI)), (q 6, .inl (cI, 200, .inl sI)), (q 7, .inl (cI, 200, .inl (ni u))), (q 9, .inl (cZ, 40200, .inl (zb (ub f1 ((200 * p) + k1) j11))))] := hD
                refine vx_join (α := Bool) (fun j12 => j12 = (mo1 || j11)) (fun j12 => F0 m 259 ls [.int (zi j12)]) (fun j12 hj12 => ?_) (fun Jj12 => ?_)
                · skip
                  have hj_mo := hj12
                  refine lv_istore (lv' := [(5, .int (zi j12)), (7, .int (zi j11)), (0, .ref o), (1, .int (nI last)), (2, .int (nI to)), (3, .int (zi al)), (4, .int (nI p)), (6, .int (nI k1))]) hx hb dN_Mod_note_259 hl (by decide) rfl (fun ls hl => ?_)
                  refine lv_iinc (v := (nI (k1 + 1))) (lv' := [(6, .int (nI (k1 + 1))), (5, .int (zi j12)), (7, .int (zi j11)), (0, .ref o), (1, .int (nI last)), (2, .int (nI to)), (3, .int (zi al)), (4, .int (nI p))]) hx hb dN_Mod_note_261 hl (k := 7) rfl (nI_1 _) (by decide) rfl (fun ls hl => ?_)
                  refine lv_goto (tgt := 126) hx hb dN_Mod_note_264 (by decide) ?_
                  exact ih_126_6 (ub f1 ((200 * p) + k1) j11, j12, k1 + 1) _ _ _ ⟨hP, hD, hS, lv_sub hl [3, 4, 5, 6, 7, 1, 0] rfl, pass_step hn (by omega) c_149_8 c_160_9 (fun i h1 h2 h3 => (hf i h1 h2 (by omega)).2) (fun i h1 h2 h3 => (hs i h1 h2 h3).2) hk11 hab1 hsn1 hct1 hmt1 hmo1 hj_is hj_mo⟩ (show (n - (k1 + 1)) < (n - k1) from by omega)
                · skip
                  refine lv_iload hx hb dN_Mod_note_244 (lv_at hl 6 rfl) ?_
                  refine xz_ne0 (tgt := 254) hx hb dN_Mod_note_246 (by decide) (fun c_246_12 => ?_) (fun c_246_12 => ?_)
                  · skip
                    refine lv_iconst (v := (zi true)) hx hb dN_Mod_note_254 (by decide) ?_
                    refine lv_goto (tgt := 259) hx hb dN_Mod_note_255 (by decide) ?_
                    exact Jj12 (true) (by simp [c_6_1, c_18_3, c_117_5, c_132_7, c_149_8, c_160_9, c_246_12])
                  · skip
                    refine lv_iload hx hb dN_Mod_note_249 (lv_at hl 0 rfl) ?_
                    refine xz_eq0 (tgt := 258) hx hb dN_Mod_note_251 (by decide) (fun c_251_13 => ?_) (fun c_251_13 => ?_)
                    · skip
                      refine lv_iconst (v := (zi false)) hx hb dN_Mod_note_258 (by decide) ?_
                      exact Jj12 (false) (by simp [c_6_1, c_18_3, c_117_5, c_132_7, c_149_8, c_160_9, c_246_12, c_251_13])
                    · skip
                      refine lv_iconst (v := (zi true)) hx hb dN_Mod_note_254 (by decide) ?_
                      refine lv_goto (tgt := 259) hx hb dN_Mod_note_255 (by decide) ?_
                      exact Jj12 (true) (by simp [c_6_1, c_18_3, c_117_5, c_132_7, c_149_8, c_160_9, c_246_12, c_251_13])
              · skip
                refine lv_aload_n hx hb dN_Mod_note_166 rfl (lv_at hl 0 rfl) ?_
                refine va_get (D := D) (ci := 12) (v := .ref (q 9)) (C := RN_Mod) (T := FN_Mod) (N := 25) hx hb ht fN_Mod hown hK hP 0 rfl rfl 9 (by decide) (ht _ mw_981) (fun _ h9 => h9) rfl dN_Mod_note_167 ?_
                refine lv_sipush (v := (nI 200)) hx hb dN_Mod_note_170 (by decide) ?_
                refine lv_iload hx hb dN_Mod_note_173 (lv_at hl 4 rfl) ?_
                refine xn_mul hx hb dN_Mod_note_175 ?_
                refine lv_aload_n hx hb dN_Mod_note_176 rfl (lv_at hl 0 rfl) ?_
                refine va_get (D := D) (ci := 12) (v := .ref (q 5)) (C := RN_Mod) (T := FN_Mod) (N := 25) hx hb ht fN_Mod hown hK hP 0 rfl rfl 5 (by decide) (ht _ mw_977) (fun _ h9 => h9) rfl dN_Mod_note_177 ?_
                refine lv_iload hx hb dN_Mod_note_180 (lv_at hl 6 rfl) ?_
                refine xi_ald hx hb hK hP 3 0 rfl rfl dN_Mod_note_182 (by omega) (by omega) ?_
                refine xn_top (y := (nI (F k1))) (hf k1 (by omega) (by omega) (by have := (pasB_K c_160_9).2; omega)).1 ?_
                refine xn_add hx hb dN_Mod_note_183 ?_
                refine xz_ald hx hb hK hP 6 1 rfl rfl dN_Mod_note_184 (by have := (hf k1 (by omega) (by omega) (by have := (pasB_K c_160_9).2; omega)).2; omega) (by omega) ?_
                refine xz_ne0 (tgt := 221) hx hb dN_Mod_note_185 (by decide) (fun c_185_14 => ?_) (fun c_185_14 => ?_)
                · skip
                  refine lv_iconst (v := (zi true)) hx hb dN_Mod_note_221 (by decide) ?_
                  refine lv_goto (tgt := 226) hx hb dN_Mod_note_222 (by decide) ?_
                  exact Jj11 (true) (by simp [c_6_1, c_18_3, c_117_5, c_132_7, c_149_8, c_160_9, c_185_14])
                · skip
                  refine lv_aload_n hx hb dN_Mod_note_188 rfl (lv_at hl 0 rfl) ?_
                  refine va_get (D := D) (ci := 12) (v := .ref (q 3)) (C := RN_Mod) (T := FN_Mod) (N := 25) hx hb ht fN_Mod hown hK hP 0 rfl rfl 3 (by decide) (ht _ mw_975) (fun _ h9 => h9) rfl dN_Mod_note_189 ?_
                  refine lv_iload hx hb dN_Mod_note_192 (lv_at hl 6 rfl) ?_
                  refine xn_ald hx hb hK hP 1 0 rfl rfl dN_Mod_note_194 (by omega) (by omega) ?_
                  refine lv_iconst (v := (nI 2)) hx hb dN_Mod_note_195 (by decide) ?_
                  refine xn_ne (tgt := 225) hx hb dN_Mod_note_196 (by decide) (by have := hK5 k1; omega) (by omega) (fun c_196_15 => ?_) (fun c_196_15 => ?_)
                  · skip
                    refine lv_iconst (v := (zi false)) hx hb dN_Mod_note_225 (by decide) ?_
                    exact Jj11 (false) (by simp [c_6_1, c_18_3, c_117_5, c_132_7, c_149_8, c_160_9, c_185_14, c_196_15])
                  · skip
                    refine lv_aload_n hx hb dN_Mod_note_199 rfl (lv_at hl 0 rfl) ?_
                    refine va_get (D := D) (ci := 12) (v := .ref (q 9)) (C := RN_Mod) (T := FN_Mod) (N := 25) hx hb ht fN_Mod hown hK hP 0 rfl rfl 9 (by decide) (ht _ mw_981) (fun _ h9 => h9) rfl dN_Mod_note_200 ?_
                    refine lv_sipush (v := (nI 200)) hx hb dN_Mod_note_203 (by decide) ?_
                    refine lv_iload hx hb dN_Mod_note_206 (lv_at hl 4 rfl) ?_
                    refine xn_mul hx hb dN_Mod_note_208 ?_
                    refine lv_aload_n hx hb dN_Mod_note_209 rfl (lv_at hl 0 rfl) ?_
                    refine va_get (D := D) (ci := 12) (v := .ref (q 6)) (C := RN_Mod) (T := FN_Mod) (N := 25) hx hb ht fN_Mod hown hK hP 0 rfl rfl 6 (by decide) (ht _ mw_978) (fun _ h9 => h9) rfl dN_Mod_note_210 ?_
                    refine lv_iload hx hb dN_Mod_note_213 (lv_at hl 6 rfl) ?_
                    refine xi_ald hx hb hK hP 4 0 rfl rfl dN_Mod_note_215 (by omega) (by omega) ?_
                    refine xn_top (y := (nI (S k1))) (hs k1 (by omega) (by omega) c_196_15).1 ?_
                    refine xn_add hx hb dN_Mod_note_216 ?_
                    refine xz_ald hx hb hK hP 6 1 rfl rfl dN_Mod_note_217 (by have := (hs k1 (by omega) (by omega) c_196_15).2; omega) (by omega) ?_
                    refine xz_eq0 (tgt := 225) hx hb dN_Mod_note_218 (by decide) (fun c_218_16 => ?_) (fun c_218_16 => ?_)
                    · skip
                      refine lv_iconst (v := (zi false)) hx hb dN_Mod_note_225 (by decide) ?_
                      exact Jj11 (false) (by simp [c_6_1, c_18_3, c_117_5, c_132_7, c_149_8, c_160_9, c_185_14, c_196_15, c_218_16])
                    · skip
                      refine lv_iconst (v := (zi true)) hx hb dN_Mod_note_221 (by decide) ?_
                      refine lv_goto (tgt := 226) hx hb dN_Mod_note_222 (by decide) ?_
                      exact Jj11 (true) (by simp [c_6_1, c_18_3, c_117_5, c_132_7, c_149_8, c_160_9, c_185_14, c_196_15, c_218_16])
            · skip
              refine lv_goto (tgt := 261) hx hb dN_Mod_note_163 (by decide) ?_
              refine lv_iinc (v := (nI (k1 + 1))) (lv' := [(6, .int (nI (k1 + 1))), (0, .ref o), (1, .int (nI last)), (2, .int (nI to)), (3, .int (zi al)), (4, .int (nI p)), (5, .int (zi mo1))]) hx hb dN_Mod_note_261 hl (k := 6) rfl (nI_1 _) (by decide) rfl (fun ls hl => ?_)
              refine lv_goto (tgt := 126) hx hb dN_Mod_note_264 (by decide) ?_
              exact ih_126_6 (f1, mo1, k1 + 1) _ _ _ ⟨hP, hD, hS, lv_sub hl [1, 2, 3, 4, 5, 6, 0] rfl, ⟨by omega, by omega, hab1, hsn1, hct1, hmt1, fun h => ⟨(hmo1 h).1, Cld_more (hmo1 h).2 (fun _ h9 => by rw [c_160_9] at h9; cases h9)⟩⟩⟩ (show (n - (k1 + 1)) < (n - k1) from by omega)
    · skip
      refine lv_aload_n hx hb dN_Mod_note_21 rfl (lv_at hl 0 rfl) ?_
      refine va_get (D := D) (ci := 12) (v := .ref (q 9)) (C := RN_Mod) (T := FN_Mod) (N := 25) hx hb ht fN_Mod hown hK hP 0 rfl rfl 9 (by decide) (ht _ mw_981) (fun _ h9 => h9) rfl dN_Mod_note_22 ?_
      refine lv_sipush (v := (nI 200)) hx hb dN_Mod_note_25 (by decide) ?_
      refine lv_iload hx hb dN_Mod_note_28 (lv_at hl 4 rfl) ?_
      refine xn_mul hx hb dN_Mod_note_30 ?_
      refine lv_iload hx hb dN_Mod_note_31 (lv_at hl 5 rfl) ?_
      refine xn_add hx hb dN_Mod_note_33 ?_
      refine lv_iload hx hb dN_Mod_note_34 (lv_at hl 5 rfl) ?_
      refine xn_ne0 (tgt := 57) hx hb dN_Mod_note_36 (by decide) (by omega) (fun c_36_17 => ?_) (fun c_36_17 => ?_)
      · skip
        refine lv_aload_n hx hb dN_Mod_note_57 rfl (lv_at hl 0 rfl) ?_
        refine lv_iload hx hb dN_Mod_note_58 (lv_at hl 5 rfl) ?_
        refine lv_iload hx hb dN_Mod_note_60 (lv_at hl 4 rfl) ?_
        refine vx_calli (wc := [(o, .inr (12, [.int (nI th), .int (nI n), .int (nI b), .ref (q 3), .ref (q 4), .ref (q 5), .ref (q 6), .ref (q 7), .int (nI len), .ref (q 9), .ref (q 10), .ref (q 11), .ref (q 12), .ref (q 13), .ref (q 14), .ref (q 15), .ref (q 16), .ref (q 17), .int (nI tr), .int (nI hi), .ref (q 20), .ref (q 21), .ref (q 22), .ref (q 23), .int (nI ma)])), (q 3, .inl (cI, 200, .inl (ni K))), (q 4, .inl (cI, 200, .inl vI)), (q 7, .inl (cI, 200, .inl (ni u)))]) (wr := [(q 5, .inl (cI, 200, .inl fI)), (q 6, .inl (cI, 200, .inl sI)), (q 9, .inl (cZ, 40200, .inl (zb f)))]) [0, 1, 2, 5] [3, 4, 6] hK hP hD hS hA rfl rfl (by decide) (by decide) (va_runV (As := [.int (nI k), .int (nI p)]) (rest := [.int (nI ((200 * p) + k)), .ref (q 9)]) ⟨hx, hb, hml, hown, ht⟩ (kMod_takes l D cI cZ cJ o q th n b len tr hi ma K V u vI k p hn hle (by omega) (by omega) hu hK5 hv hvb _) (⟨callB_of 2 ht (TB_in2 gN_Mod_takes) rfl rfl rfl (ht _ mw_14) (ht _ mw_1095) (by decide +kernel) ⟨Nat.le_of_ble_eq_true rfl, Nat.le_of_ble_eq_true rfl⟩, ht _ mw_1097, ht _ ms_36⟩) (vx_preV [0, 1, 2, 5] hK hP hD (by decide) rfl (ci := 12) rfl 0 rfl) rfl rfl hl.1 rfl (lv_room (Nat.le_of_ble_eq_true rfl)) dN_Mod_note_62 ⟨Nat.le_of_ble_eq_true rfl, Nat.le_of_ble_eq_true rfl⟩) (fun r1 w1 H locs hq hP hD hS => ?_)
        obtain ⟨rfl, rfl⟩ := hq
        have hP : va_P D clN [(o, .inr (12, [.int (nI th), .int (nI n), .int (nI b), .ref (q 3), .ref (q 4), .ref (q 5), .ref (q 6), .ref (q 7), .int (nI len), .ref (q 9), .ref (q 10), .ref (q 11), .ref (q 12), .ref (q 13), .ref (q 14), .ref (q 15), .ref (q 16), .ref (q 17), .int (nI tr), .int (nI hi), .ref (q 20), .ref (q 21), .ref (q 22), .ref (q 23), .int (nI ma)])), (q 3, .inl (cI, 200, .inl (ni K))), (q 4, .inl (cI, 200, .inl vI)), (q 5, .inl (cI, 200, .inl fI)), (q 6, .inl (cI, 200, .inl sI)), (q 7, .inl (cI, 200, .inl (ni u))), (q 9, .inl (cZ, 40200, .inl (zb f)))] H := hP.sub [3, 4, 5, 0, 1, 6, 2] rfl
        have hD : va_D A [(o, .inr (12, [.int (nI th), .int (nI n), .int (nI b), .ref (q 3), .ref (q 4), .ref (q 5), .ref (q 6), .ref (q 7), .int (nI len), .ref (q 9), .ref (q 10), .ref (q 11), .ref (q 12), .ref (q 13), .ref (q 14), .ref (q 15), .ref (q 16), .ref (q 17), .int (nI tr), .int (nI hi), .ref (q 20), .ref (q 21), .ref (q 22), .ref (q 23), .int (nI ma)])), (q 3, .inl (cI, 200, .inl (ni K))), (q 4, .inl (cI, 200, .inl vI)), (q 5, .inl (cI, 200, .inl fI)), (q 6, .inl (cI, 200, .inl sI)), (q 7, .inl (cI, 200, .inl (ni u))), (q 9, .inl (cZ, 40200, .inl (zb f)))] := hD.sub [3, 4, 5, 0, 1, 6, 2] (by decide) rfl
        refine xz_eq0 (tgt := 104) hx hb dN_Mod_note_65 (by decide) (fun c_65_18 => ?_) (fun c_65_18 => ?_)
        · skip
          refine lv_iconst (v := (zi false)) hx hb dN_Mod_note_104 (by decide) ?_
          refine xz_ast hx hb hK hP hD hS 6 1 rfl rfl dN_Mod_note_105 (by omega) (by omega) (fun H locs hP hD hS => ?_)
          have hP : va_P D clN [(o, .inr (12, [.int (nI th), .int (nI n), .int (nI b), .ref (q 3), .ref (q 4), .ref (q 5), .ref (q 6), .ref (q 7), .int (nI len), .ref (q 9), .ref (q 10), .ref (q 11), .ref (q 12), .ref (q 13), .ref (q 14), .ref (q 15), .ref (q 16), .ref (q 17), .int (nI tr), .int (nI hi), .ref (q 20), .ref (q 21), .ref (q 22), .ref (q 23), .int (nI ma)])), (q 3, .inl (cI, 200, .inl (ni K))), (q 4, .inl (cI, 200, .inl vI)), (q 5, .inl (cI, 200, .inl fI)), (q 6, .inl (cI, 200, .inl sI)), (q 7, .inl (cI, 200, .inl (ni u))), (q 9, .inl (cZ, 40200, .inl (zb (ub f ((200 * p) + k) false))))] H := hP
          have hD : va_D A [(o, .inr (12, [.int (nI th), .int (nI n), .int (nI b), .ref (q 3), .ref (q 4), .ref (q 5), .ref (q 6), .ref (q 7), .int (nI len), .ref (q 9), .ref (q 10), .ref (q 11), .ref (q 12), .ref (q 13), .ref (q 14), .ref (q 15), .ref (q 16), .ref (q 17), .int (nI tr), .int (nI hi), .ref (q 20), .ref (q 21), .ref (q 22), .ref (q 23), .int (nI ma)])), (q 3, .inl (cI, 200, .inl (ni K))), (q 4, .inl (cI, 200, .inl vI)), (q 5, .inl (cI, 200, .inl fI)), (q 6, .inl (cI, 200, .inl sI)), (q 7, .inl (cI, 200, .inl (ni u))), (q 9, .inl (cZ, 40200, .inl (zb (ub f ((200 * p) + k) false))))] := hD
          refine lv_iinc (v := (nI (k + 1))) (lv' := [(5, .int (nI (k + 1))), (0, .ref o), (1, .int (nI last)), (2, .int (nI to)), (3, .int (zi al)), (4, .int (nI p))]) hx hb dN_Mod_note_106 hl (k := 5) rfl (nI_1 _) (by decide) rfl (fun ls hl => ?_)
          refine lv_goto (tgt := 12) hx hb dN_Mod_note_109 (by decide) ?_
          exact ih_12_2 (ub f ((200 * p) + k) false, k + 1) _ _ _ ⟨hP, hD, hS, lv_sub hl [1, 2, 3, 4, 5, 0] rfl, ⟨by omega, Above_ub hn (by omega) hab, Bs_step hbs (bs_f1 c_36_17 (Or.inl c_65_18))⟩⟩ (show (n - (k + 1)) < (n - k) from by omega)
        · skip
          refine lv_iload hx hb dN_Mod_note_68 (lv_at hl 4 rfl) ?_
          refine lv_iload_n hx hb dN_Mod_note_70 rfl (lv_at hl 1 rfl) ?_
          refine xn_ge (tgt := 104) hx hb dN_Mod_note_71 (by decide) (by omega) (by omega) (fun c_71_19 => ?_) (fun c_71_19 => ?_)
          · skip
            refine lv_iconst (v := (zi false)) hx hb dN_Mod_note_104 (by decide) ?_
            refine xz_ast hx hb hK hP hD hS 6 1 rfl rfl dN_Mod_note_105 (by omega) (by omega) (fun H locs hP hD hS => ?_)
            have hP : va_P D clN [(o, .inr (12, [.int (nI th), .int (nI n), .int (nI b), .ref (q 3), .ref (q 4), .ref (q 5), .ref (q 6), .ref (q 7), .int (nI len), .ref (q 9), .ref (q 10), .ref (q 11), .ref (q 12), .ref (q 13), .ref (q 14), .ref (q 15), .ref (q 16), .ref (q 17), .int (nI tr), .int (nI hi), .ref (q 20), .ref (q 21), .ref (q 22), .ref (q 23), .int (nI ma)])), (q 3, .inl (cI, 200, .inl (ni K))), (q 4, .inl (cI, 200, .inl vI)), (q 5, .inl (cI, 200, .inl fI)), (q 6, .inl (cI, 200, .inl sI)), (q 7, .inl (cI, 200, .inl (ni u))), (q 9, .inl (cZ, 40200, .inl (zb (ub f ((200 * p) + k) false))))] H := hP
            have hD : va_D A [(o, .inr (12, [.int (nI th), .int (nI n), .int (nI b), .ref (q 3), .ref (q 4), .ref (q 5), .ref (q 6), .ref (q 7), .int (nI len), .ref (q 9), .ref (q 10), .ref (q 11), .ref (q 12), .ref (q 13), .ref (q 14), .ref (q 15), .ref (q 16), .ref (q 17), .int (nI tr), .int (nI hi), .ref (q 20), .ref (q 21), .ref (q 22), .ref (q 23), .int (nI ma)])), (q 3, .inl (cI, 200, .inl (ni K))), (q 4, .inl (cI, 200, .inl vI)), (q 5, .inl (cI, 200, .inl fI)), (q 6, .inl (cI, 200, .inl sI)), (q 7, .inl (cI, 200, .inl (ni u))), (q 9, .inl (cZ, 40200, .inl (zb (ub f ((200 * p) + k) false))))] := hD
            refine lv_iinc (v := (nI (k + 1))) (lv' := [(5, .int (nI (k + 1))), (0, .ref o), (1, .int (nI last)), (2, .int (nI to)), (3, .int (zi al)), (4, .int (nI p))]) hx hb dN_Mod_note_106 hl (k := 5) rfl (nI_1 _) (by decide) rfl (fun ls hl => ?_)
            refine lv_goto (tgt := 12) hx hb dN_Mod_note_109 (by decide) ?_
            exact ih_12_2 (ub f ((200 * p) + k) false, k + 1) _ _ _ ⟨hP, hD, hS, lv_sub hl [1, 2, 3, 4, 5, 0] rfl, ⟨by omega, Above_ub hn (by omega) hab, Bs_step hbs (bs_f1 c_36_17 (Or.inr (Or.inl c_71_19)))⟩⟩ (show (n - (k + 1)) < (n - k) from by omega)
          · skip
            refine lv_aload_n hx hb dN_Mod_note_74 rfl (lv_at hl 0 rfl) ?_
            refine va_get (D := D) (ci := 12) (v := .ref (q 9)) (C := RN_Mod) (T := FN_Mod) (N := 25) hx hb ht fN_Mod hown hK hP 0 rfl rfl 9 (by decide) (ht _ mw_981) (fun _ h9 => h9) rfl dN_Mod_note_75 ?_
            refine lv_sipush (v := (nI 200)) hx hb dN_Mod_note_78 (by decide) ?_
            refine lv_iload hx hb dN_Mod_note_81 (lv_at hl 4 rfl) ?_
            refine xn_mul hx hb dN_Mod_note_83 ?_
            refine lv_sipush (v := (nI 200)) hx hb dN_Mod_note_84 (by decide) ?_
            refine xn_add hx hb dN_Mod_note_87 ?_
            refine lv_aload_n hx hb dN_Mod_note_88 rfl (lv_at hl 0 rfl) ?_
            refine va_get (D := D) (ci := 12) (v := .ref (q 5)) (C := RN_Mod) (T := FN_Mod) (N := 25) hx hb ht fN_Mod hown hK hP 0 rfl rfl 5 (by decide) (ht _ mw_977) (fun _ h9 => h9) rfl dN_Mod_note_89 ?_
            refine lv_iload hx hb dN_Mod_note_92 (lv_at hl 5 rfl) ?_
            refine xi_ald hx hb hK hP 3 0 rfl rfl dN_Mod_note_94 (by omega) (by omega) ?_
            refine xn_top (y := (nI (F k))) (hf k (by omega) (by omega) (Or.inl (takB_K c_65_18).2.1)).1 ?_
            refine xn_add hx hb dN_Mod_note_95 ?_
            refine xz_ald hx hb hK hP 6 1 rfl rfl dN_Mod_note_96 (by have := (hf k (by omega) (by omega) (Or.inl (takB_K c_65_18).2.1)).2; omega) (by omega) ?_
            refine xz_eq0 (tgt := 104) hx hb dN_Mod_note_97 (by decide) (fun c_97_20 => ?_) (fun c_97_20 => ?_)
            · skip
              refine lv_iconst (v := (zi false)) hx hb dN_Mod_note_104 (by decide) ?_
              refine xz_ast hx hb hK hP hD hS 6 1 rfl rfl dN_Mod_note_105 (by omega) (by omega) (fun H locs hP hD hS => ?_)
              have hP : va_P D clN [(o, .inr (12, [.int (nI th), .int (nI n), .int (nI b), .ref (q 3), .ref (q 4), .ref (q 5), .ref (q 6), .ref (q 7), .int (nI len), .ref (q 9), .ref (q 10), .ref (q 11), .ref (q 12), .ref (q 13), .ref (q 14), .ref (q 15), .ref (q 16), .ref (q 17), .int (nI tr), .int (nI hi), .ref (q 20), .ref (q 21), .ref (q 22), .ref (q 23), .int (nI ma)])), (q 3, .inl (cI, 200, .inl (ni K))), (q 4, .inl (cI, 200, .inl vI)), (q 5, .inl (cI, 200, .inl fI)), (q 6, .inl (cI, 200, .inl sI)), (q 7, .inl (cI, 200, .inl (ni u))), (q 9, .inl (cZ, 40200, .inl (zb (ub f ((200 * p) + k) false))))] H := hP
              have hD : va_D A [(o, .inr (12, [.int (nI th), .int (nI n), .int (nI b), .ref (q 3), .ref (q 4), .ref (q 5), .ref (q 6), .ref (q 7), .int (nI len), .ref (q 9), .ref (q 10), .ref (q 11), .ref (q 12), .ref (q 13), .ref (q 14), .ref (q 15), .ref (q 16), .ref (q 17), .int (nI tr), .int (nI hi), .ref (q 20), .ref (q 21), .ref (q 22), .ref (q 23), .int (nI ma)])), (q 3, .inl (cI, 200, .inl (ni K))), (q 4, .inl (cI, 200, .inl vI)), (q 5, .inl (cI, 200, .inl fI)), (q 6, .inl (cI, 200, .inl sI)), (q 7, .inl (cI, 200, .inl (ni u))), (q 9, .inl (cZ, 40200, .inl (zb (ub f ((200 * p) + k) false))))] := hD
              refine lv_iinc (v := (nI (k + 1))) (lv' := [(5, .int (nI (k + 1))), (0, .ref o), (1, .int (nI last)), (2, .int (nI to)), (3, .int (zi al)), (4, .int (nI p))]) hx hb dN_Mod_note_106 hl (k := 5) rfl (nI_1 _) (by decide) rfl (fun ls hl => ?_)
              refine lv_goto (tgt := 12) hx hb dN_Mod_note_109 (by decide) ?_
              exact ih_12_2 (ub f ((200 * p) + k) false, k + 1) _ _ _ ⟨hP, hD, hS, lv_sub hl [1, 2, 3, 4, 5, 0] rfl, ⟨by omega, Above_ub hn (by omega) hab, Bs_step hbs (bs_f1 c_36_17 (Or.inr (Or.inr (fun z => by have h9 := (hab (p + 1) (F k) (by omega) (by omega) (hf k (by omega) (by omega) (Or.inl (takB_K c_65_18).2.1)).2).mpr z; rw [show 200 * (p + 1) + F k = 200 * p + 200 + F k by omega] at h9; rw [c_97_20] at h9; cases h9))))⟩⟩ (show (n - (k + 1)) < (n - k) from by omega)
            · skip
              refine lv_iconst (v := (zi true)) hx hb dN_Mod_note_100 (by decide) ?_
              refine lv_goto (tgt := 105) hx hb dN_Mod_note_101 (by decide) ?_
              refine xz_ast hx hb hK hP hD hS 6 1 rfl rfl dN_Mod_note_105 (by omega) (by omega) (fun H locs hP hD hS => ?_)
              have hP : va_P D clN [(o, .inr (12, [.int (nI th), .int (nI n), .int (nI b), .ref (q 3), .ref (q 4), .ref (q 5), .ref (q 6), .ref (q 7), .int (nI len), .ref (q 9), .ref (q 10), .ref (q 11), .ref (q 12), .ref (q 13), .ref (q 14), .ref (q 15), .ref (q 16), .ref (q 17), .int (nI tr), .int (nI hi), .ref (q 20), .ref (q 21), .ref (q 22), .ref (q 23), .int (nI ma)])), (q 3, .inl (cI, 200, .inl (ni K))), (q 4, .inl (cI, 200, .inl vI)), (q 5, .inl (cI, 200, .inl fI)), (q 6, .inl (cI, 200, .inl sI)), (q 7, .inl (cI, 200, .inl (ni u))), (q 9, .inl (cZ, 40200, .inl (zb (ub f ((200 * p) + k) true))))] H := hP
              have hD : va_D A [(o, .inr (12, [.int (nI th), .int (nI n), .int (nI b), .ref (q 3), .ref (q 4), .ref (q 5), .ref (q 6), .ref (q 7), .int (nI len), .ref (q 9), .ref (q 10), .ref (q 11), .ref (q 12), .ref (q 13), .ref (q 14), .ref (q 15), .ref (q 16), .ref (q 17), .int (nI tr), .int (nI hi), .ref (q 20), .ref (q 21), .ref (q 22), .ref (q 23), .int (nI ma)])), (q 3, .inl (cI, 200, .inl (ni K))), (q 4, .inl (cI, 200, .inl vI)), (q 5, .inl (cI, 200, .inl fI)), (q 6, .inl (cI, 200, .inl sI)), (q 7, .inl (cI, 200, .inl (ni u))), (q 9, .inl (cZ, 40200, .inl (zb (ub f ((200 * p) + k) true))))] := hD
              refine lv_iinc (v := (nI (k + 1))) (lv' := [(5, .int (nI (k + 1))), (0, .ref o), (1, .int (nI last)), (2, .int (nI to)), (3, .int (zi al)), (4, .int (nI p))]) hx hb dN_Mod_note_106 hl (k := 5) rfl (nI_1 _) (by decide) rfl (fun ls hl => ?_)
              refine lv_goto (tgt := 12) hx hb dN_Mod_note_109 (by decide) ?_
              exact ih_12_2 (ub f ((200 * p) + k) true, k + 1) _ _ _ ⟨hP, hD, hS, lv_sub hl [1, 2, 3, 4, 5, 0] rfl, ⟨by omega, Above_ub hn (by omega) hab, Bs_step hbs (bs_t1 c_65_18 c_71_19 ((hab (p + 1) (F k) (by omega) (by omega) (hf k (by omega) (by omega) (Or.inl (takB_K c_65_18).2.1)).2).mp (by have := c_97_20; rw [show 200 * (p + 1) + F k = 200 * p + 200 + F k by omega]; exact this)))⟩⟩ (show (n - (k + 1)) < (n - k) from by omega)
      · skip
        refine lv_iload hx hb dN_Mod_note_39 (lv_at hl 4 rfl) ?_
        refine lv_iload_n hx hb dN_Mod_note_41 rfl (lv_at hl 1 rfl) ?_
        refine xn_eq (tgt := 49) hx hb dN_Mod_note_42 (by decide) (by omega) (by omega) (fun c_42_21 => ?_) (fun c_42_21 => ?_)
        · skip
          refine lv_iconst (v := (zi true)) hx hb dN_Mod_note_49 (by decide) ?_
          refine lv_goto (tgt := 105) hx hb dN_Mod_note_50 (by decide) ?_
          refine xz_ast hx hb hK hP hD hS 6 1 rfl rfl dN_Mod_note_105 (by omega) (by omega) (fun H locs hP hD hS => ?_)
          have hP : va_P D clN [(o, .inr (12, [.int (nI th), .int (nI n), .int (nI b), .ref (q 3), .ref (q 4), .ref (q 5), .ref (q 6), .ref (q 7), .int (nI len), .ref (q 9), .ref (q 10), .ref (q 11), .ref (q 12), .ref (q 13), .ref (q 14), .ref (q 15), .ref (q 16), .ref (q 17), .int (nI tr), .int (nI hi), .ref (q 20), .ref (q 21), .ref (q 22), .ref (q 23), .int (nI ma)])), (q 3, .inl (cI, 200, .inl (ni K))), (q 4, .inl (cI, 200, .inl vI)), (q 5, .inl (cI, 200, .inl fI)), (q 6, .inl (cI, 200, .inl sI)), (q 7, .inl (cI, 200, .inl (ni u))), (q 9, .inl (cZ, 40200, .inl (zb (ub f ((200 * p) + k) true))))] H := hP
          have hD : va_D A [(o, .inr (12, [.int (nI th), .int (nI n), .int (nI b), .ref (q 3), .ref (q 4), .ref (q 5), .ref (q 6), .ref (q 7), .int (nI len), .ref (q 9), .ref (q 10), .ref (q 11), .ref (q 12), .ref (q 13), .ref (q 14), .ref (q 15), .ref (q 16), .ref (q 17), .int (nI tr), .int (nI hi), .ref (q 20), .ref (q 21), .ref (q 22), .ref (q 23), .int (nI ma)])), (q 3, .inl (cI, 200, .inl (ni K))), (q 4, .inl (cI, 200, .inl vI)), (q 5, .inl (cI, 200, .inl fI)), (q 6, .inl (cI, 200, .inl sI)), (q 7, .inl (cI, 200, .inl (ni u))), (q 9, .inl (cZ, 40200, .inl (zb (ub f ((200 * p) + k) true))))] := hD
          refine lv_iinc (v := (nI (k + 1))) (lv' := [(5, .int (nI (k + 1))), (0, .ref o), (1, .int (nI last)), (2, .int (nI to)), (3, .int (zi al)), (4, .int (nI p))]) hx hb dN_Mod_note_106 hl (k := 5) rfl (nI_1 _) (by decide) rfl (fun ls hl => ?_)
          refine lv_goto (tgt := 12) hx hb dN_Mod_note_109 (by decide) ?_
          exact ih_12_2 (ub f ((200 * p) + k) true, k + 1) _ _ _ ⟨hP, hD, hS, lv_sub hl [1, 2, 3, 4, 5, 0] rfl, ⟨by omega, Above_ub hn (by omega) hab, Bs_step hbs (bs_t0 c_36_17 (Or.inl c_42_21))⟩⟩ (show (n - (k + 1)) < (n - k) from by omega)
        · skip
          refine lv_iload_n hx hb dN_Mod_note_45 rfl (lv_at hl 3 rfl) ?_
          refine xz_ne0 (tgt := 53) hx hb dN_Mod_note_46 (by decide) (fun c_46_22 => ?_) (fun c_46_22 => ?_)
          · skip
            refine lv_iconst (v := (zi false)) hx hb dN_Mod_note_53 (by decide) ?_
            refine lv_goto (tgt := 105) hx hb dN_Mod_note_54 (by decide) ?_
            refine xz_ast hx hb hK hP hD hS 6 1 rfl rfl dN_Mod_note_105 (by omega) (by omega) (fun H locs hP hD hS => ?_)
            have hP : va_P D clN [(o, .inr (12, [.int (nI th), .int (nI n), .int (nI b), .ref (q 3), .ref (q 4), .ref (q 5), .ref (q 6), .ref (q 7), .int (nI len), .ref (q 9), .ref (q 10), .ref (q 11), .ref (q 12), .ref (q 13), .ref (q 14), .ref (q 15), .ref (q 16), .ref (q 17), .int (nI tr), .int (nI hi), .ref (q 20), .ref (q 21), .ref (q 22), .ref (q 23), .int (nI ma)])), (q 3, .inl (cI, 200, .inl (ni K))), (q 4, .inl (cI, 200, .inl vI)), (q 5, .inl (cI, 200, .inl fI)), (q 6, .inl (cI, 200, .inl sI)), (q 7, .inl (cI, 200, .inl (ni u))), (q 9, .inl (cZ, 40200, .inl (zb (ub f ((200 * p) + k) false))))] H := hP
            have hD : va_D A [(o, .inr (12, [.int (nI th), .int (nI n), .int (nI b), .ref (q 3), .ref (q 4), .ref (q 5), .ref (q 6), .ref (q 7), .int (nI len), .ref (q 9), .ref (q 10), .ref (q 11), .ref (q 12), .ref (q 13), .ref (q 14), .ref (q 15), .ref (q 16), .ref (q 17), .int (nI tr), .int (nI hi), .ref (q 20), .ref (q 21), .ref (q 22), .ref (q 23), .int (nI ma)])), (q 3, .inl (cI, 200, .inl (ni K))), (q 4, .inl (cI, 200, .inl vI)), (q 5, .inl (cI, 200, .inl fI)), (q 6, .inl (cI, 200, .inl sI)), (q 7, .inl (cI, 200, .inl (ni u))), (q 9, .inl (cZ, 40200, .inl (zb (ub f ((200 * p) + k) false))))] := hD
            refine lv_iinc (v := (nI (k + 1))) (lv' := [(5, .int (nI (k + 1))), (0, .ref o), (1, .int (nI last)), (2, .int (nI to)), (3, .int (zi al)), (4, .int (nI p))]) hx hb dN_Mod_note_106 hl (k := 5) rfl (nI_1 _) (by decide) rfl (fun ls hl => ?_)
            refine lv_goto (tgt := 12) hx hb dN_Mod_note_109 (by decide) ?_
            exact ih_12_2 (ub f ((200 * p) + k) false, k + 1) _ _ _ ⟨hP, hD, hS, lv_sub hl [1, 2, 3, 4, 5, 0] rfl, ⟨by omega, Above_ub hn (by omega) hab, Bs_step hbs (bs_f0 c_36_17 c_42_21 c_46_22)⟩⟩ (show (n - (k + 1)) < (n - k) from by omega)
          · skip
            refine lv_iconst (v := (zi true)) hx hb dN_Mod_note_49 (by decide) ?_
            refine lv_goto (tgt := 105) hx hb dN_Mod_note_50 (by decide) ?_
            refine xz_ast hx hb hK hP hD hS 6 1 rfl rfl dN_Mod_note_105 (by omega) (by omega) (fun H locs hP hD hS => ?_)
            have hP : va_P D clN [(o, .inr (12, [.int (nI th), .int (nI n), .int (nI b), .ref (q 3), .ref (q 4), .ref (q 5), .ref (q 6), .ref (q 7), .int (nI len), .ref (q 9), .ref (q 10), .ref (q 11), .ref (q 12), .ref (q 13), .ref (q 14), .ref (q 15), .ref (q 16), .ref (q 17), .int (nI tr), .int (nI hi), .ref (q 20), .ref (q 21), .ref (q 22), .ref (q 23), .int (nI ma)])), (q 3, .inl (cI, 200, .inl (ni K))), (q 4, .inl (cI, 200, .inl vI)), (q 5, .inl (cI, 200, .inl fI)), (q 6, .inl (cI, 200, .inl sI)), (q 7, .inl (cI, 200, .inl (ni u))), (q 9, .inl (cZ, 40200, .inl (zb (ub f ((200 * p) + k) true))))] H := hP
            have hD : va_D A [(o, .inr (12, [.int (nI th), .int (nI n), .int (nI b), .ref (q 3), .ref (q 4), .ref (q 5), .ref (q 6), .ref (q 7), .int (nI len), .ref (q 9), .ref (q 10), .ref (q 11), .ref (q 12), .ref (q 13), .ref (q 14), .ref (q 15), .ref (q 16), .ref (q 17), .int (nI tr), .int (nI hi), .ref (q 20), .ref (q 21), .ref (q 22), .ref (q 23), .int (nI ma)])), (q 3, .inl (cI, 200, .inl (ni K))), (q 4, .inl (cI, 200, .inl vI)), (q 5, .inl (cI, 200, .inl fI)), (q 6, .inl (cI, 200, .inl sI)), (q 7, .inl (cI, 200, .inl (ni u))), (q 9, .inl (cZ, 40200, .inl (zb (ub f ((200 * p) + k) true))))] := hD
            refine lv_iinc (v := (nI (k + 1))) (lv' := [(5, .int (nI (k + 1))), (0, .ref o), (1, .int (nI last)), (2, .int (nI to)), (3, .int (zi al)), (4, .int (nI p))]) hx hb dN_Mod_note_106 hl (k := 5) rfl (nI_1 _) (by decide) rfl (fun ls hl => ?_)
            refine lv_goto (tgt := 12) hx hb dN_Mod_note_109 (by decide) ?_
            exact ih_12_2 (ub f ((200 * p) + k) true, k + 1) _ _ _ ⟨hP, hD, hS, lv_sub hl [1, 2, 3, 4, 5, 0] rfl, ⟨by omega, Above_ub hn (by omega) hab, Bs_step hbs (bs_t0 c_36_17 (Or.inr c_46_22))⟩⟩ (show (n - (k + 1)) < (n - k) from by omega)
