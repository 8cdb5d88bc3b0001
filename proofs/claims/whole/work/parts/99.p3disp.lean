theorem lc_ends {p : Program} {l : Launch} {e : Env} {s : State} {m : MethodId} {below : List Frame} {meth : Method} {c : Code} {Q : State → Prop} {D : va_G} {cI cZ cJ : ClassId} {bf scr L : Nat} {xs : Nat → Int32} {A : Nat → Prop} (hl0 : l.stackTraces = false) (C9 : LC p s m c scr L xs D cI cZ cJ bf A) {q a xn : Nat → Nat} {xb : Nat → Bool} {xf : Nat → Nat → Nat} {xg : Nat → Nat → Bool} {xi : Nat → Nat → Int32} {xl : Nat → Nat → Int64} {j c0 s0 : Nat} {H : Heap} {locs : List Loc} {ls : Array Slot} (hF : LF j xn xb xf xi) (hj : 6 * j + 6 ≤ L) (hL : L ≤ 3072) (hc0 : c0 + 1 ≤ 601024) (hs0 : s0 + 6 ≤ 7293034) (hP : va_P D clN (LW cI cZ cJ q a xn xb xf xg xi xl) H) (hD : va_D A (LW cI cZ cJ q a xn xb xf xg xi xl)) (hS : va_S A s.heap H locs) (hl : lv_has ls 7 [(0, .ref scr), (1, .ref (a 0)), (2, .ref (a 56)), (3, .ref (a 57)), (4, .int (nI (6 * j)))]) (kk : LK p l e s m below meth c Q D cI cZ cJ scr A j c0 s0) : W p l e room_1 s m #[Value.ref scr] below meth c H locs c0 s0 Q (F0 m 469 ls []) := by
  obtain ⟨hJ, f2, f3, f4, f5, f6, g1, g2, g3, g4, g5, t1, t2, t3, t4, t5⟩ := id hF
  by_cases h0 : (xs (6 * j + 2)) = 0
  · cases h9 : (goodB (xn 2) (xs (6 * j + 1)) (xs (6 * j + 3)) && !(false && decide ((xs (6 * j + 1)) = 0)))
    · exact lc_ends_bad0 hl0 C9 hF hj hL hc0 hs0 h0 h9 hP hD hS hl kk
    · rw [Bool.and_eq_true] at h9
      obtain ⟨how, fr, hh, hfr, e1, e3⟩ := goodB_of f2 h9.1
      exact lc_ends_ok0 hl0 C9 hF hj hL hc0 hs0 h0 e1 e3 hh hfr (fun h => lo_of h9.2 (by rw [e1, h]; rfl)) hP hD hS hl kk
  · cases h9 : (goodB (xn 2) (xs (6 * j + 1)) (xs (6 * j + 3)) && !(true && decide ((xs (6 * j + 1)) = 0)))
    · exact lc_ends_bad1 hl0 C9 hF hj hL hc0 hs0 h0 h9 hP hD hS hl kk
    · rw [Bool.and_eq_true] at h9
      obtain ⟨how, fr, hh, hfr, e1, e3⟩ := goodB_of f2 h9.1
      exact lc_ends_ok1 hl0 C9 hF hj hL hc0 hs0 h0 e1 e3 hh hfr (fun h => lo_of h9.2 (by rw [e1, h]; rfl)) hP hD hS hl kk
theorem lc_match {p : Program} {l : Launch} {e : Env} {s : State} {m : MethodId} {below : List Frame} {meth : Method} {c : Code} {Q : State → Prop} {D : va_G} {cI cZ cJ : ClassId} {bf scr L : Nat} {xs : Nat → Int32} {A : Nat → Prop} (hl0 : l.stackTraces = false) (C9 : LC p s m c scr L xs D cI cZ cJ bf A) {q a xn : Nat → Nat} {xb : Nat → Bool} {xf : Nat → Nat → Nat} {xg : Nat → Nat → Bool} {xi : Nat → Nat → Int32} {xl : Nat → Nat → Int64} {j c0 s0 : Nat} {H : Heap} {locs : List Loc} {ls : Array Slot} (hF : LF j xn xb xf xi) (hj : 6 * j + 6 ≤ L) (hL : L ≤ 3072) (hc0 : c0 + 1 ≤ 601024) (hs0 : s0 + 6 ≤ 7293034) (hP : va_P D clN (LW cI cZ cJ q a xn xb xf xg xi xl) H) (hD : va_D A (LW cI cZ cJ q a xn xb xf xg xi xl)) (hS : va_S A s.heap H locs) (hl : lv_has ls 7 [(0, .ref scr), (1, .ref (a 0)), (2, .ref (a 56)), (3, .ref (a 57)), (4, .int (nI (6 * j)))]) (kk : LK p l e s m below meth c Q D cI cZ cJ scr A j c0 s0) : W p l e room_1 s m #[Value.ref scr] below meth c H locs c0 s0 Q (F0 m 336 ls []) := by
  obtain ⟨hJ, f2, f3, f4, f5, f6, g1, g2, g3, g4, g5, t1, t2, t3, t4, t5⟩ := id hF
  by_cases h0 : (xs (6 * j + 2)) = 0
  · cases h9 : (goodB (xn 2) (xs (6 * j + 1)) (xs (6 * j + 4)) && macB (xs (6 * j + 3)))
    · exact lc_match_bad0 hl0 C9 hF hj hL hc0 hs0 h0 h9 hP hD hS hl kk
    · rw [Bool.and_eq_true] at h9
      obtain ⟨how, fr, hh, hfr, e1, e4⟩ := goodB_of f2 h9.1
      obtain ⟨mac, hm, e3⟩ := macB_of h9.2
      exact lc_match_ok0 hl0 C9 hF hj hL hc0 hs0 h0 e1 e3 e4 hh hfr hm hP hD hS hl kk
  · cases h9 : (goodB (xn 2) (xs (6 * j + 1)) (xs (6 * j + 4)) && macB (xs (6 * j + 3)))
    · exact lc_match_bad1 hl0 C9 hF hj hL hc0 hs0 h0 h9 hP hD hS hl kk
    · rw [Bool.and_eq_true] at h9
      obtain ⟨how, fr, hh, hfr, e1, e4⟩ := goodB_of f2 h9.1
      obtain ⟨mac, hm, e3⟩ := macB_of h9.2
      exact lc_match_ok1 hl0 C9 hF hj hL hc0 hs0 h0 e1 e3 e4 hh hfr hm hP hD hS hl kk
