/-! A row of the table while it is made: one step after the other. -/
section TB3
variable {K V F S kC vC fC sC : Nat → Nat} {n b r q tu c R : Nat} {js sc me sor : Nat → Nat} {aC ros : Nat → Int32} {en : Int32}
theorem Sf_cn (h : Sf n tu c js sc me R sor ros) (hc : 0 < c) (hm : me (js (c - 1)) ≠ tu) : js (c - 1) < n ∧ sc (js (c - 1)) < 2 ^ 24 ∧ cnF n (seenB (un me (js (c - 1)) tu) tu) + 1 = cnF n (seenB me tu) ∧ ∀ k, un me (js (c - 1)) tu k ≤ tu := by
  obtain ⟨h1, h2, h3, h4⟩ := h
  have hk := h2 (c - 1) (by omega)
  have hq := cnF_ub hk.1 (seen_f hm)
  rw [← seenB_un] at hq
  refine ⟨hk.1, hk.2, hq, fun k => ?_⟩
  rw [un]; split
  · exact Nat.le_refl _
  · exact h4 k
theorem absK_c (hc : 0 < c) : absK js c = js (c - 1) :: absK js (c - 1) := by
  obtain ⟨d, rfl⟩ : ∃ d, c = d + 1 := ⟨c - 1, by omega⟩
  rfl
theorem TW_never (H : Pg n kC vC fC sC K V F S) (h : TW K V F S n b r q tu c js sc me aC en R sor ros) (hc : 0 < c) (hm : me (js (c - 1)) ≠ tu) (h5 : kC (js (c - 1)) = 5) : TW K V F S n b r q tu (c - 1) js sc (un me (js (c - 1)) tu) aC en R sor ros := by
  obtain ⟨hS, h⟩ := h
  obtain ⟨g1, g2, g3, g4⟩ := Sf_cn hS hc hm
  refine ⟨⟨hS.1, fun i hi => hS.2.1 i (by omega), by have := hS.2.2.1; omega, g4⟩, ?_⟩
  rcases h with ⟨st, rec, h⟩ | ⟨h, hd⟩
  · obtain ⟨s, a, st2, rfl, h2, h3⟩ := TA_top hc h
    have h0 := Pg_0 H (k := js (c - 1)) (by omega)
    have hK := Pg_K H h0 g1
    exact Or.inl ⟨_, _, TA_leaf hc h g1 (by omega) (RowA_skip h.2.2.2.2.2.2.2.2.1 (by show js (c - 1) ≠ 0; omega) (by show K (js (c - 1)) ≠ 1; omega)) h.2.2.2.2.2.2.2.2.2.1 h.2.2.2.2.2.2.2.2.2.2⟩
  · rw [absK_c hc] at hd
    exact Or.inr ⟨h, Doom_pop hd hm⟩
theorem TW_end (H : Pg n kC vC fC sC K V F S) (h : TW K V F S n b r q tu c js sc me aC en R sor ros) (hc : 0 < c) (hm : me (js (c - 1)) ≠ tu) (h5 : kC (js (c - 1)) = 0) : TW K V F S n b r q tu (c - 1) js sc (un me (js (c - 1)) tu) aC (nI (sc (js (c - 1)))) R sor ros := by
  obtain ⟨hS, h⟩ := h
  obtain ⟨g1, g2, g3, g4⟩ := Sf_cn hS hc hm
  have h0 := Pg_z H g1 h5
  refine ⟨⟨hS.1, fun i hi => hS.2.1 i (by omega), by have := hS.2.2.1; omega, g4⟩, ?_⟩
  rcases h with ⟨st, rec, h⟩ | ⟨h, hd⟩
  · obtain ⟨s, a, st2, rfl, h2, h3, h4, h6⟩ := TA_top hc h
    refine Or.inl ⟨_, _, TA_leaf hc h g1 (Or.inl h0) ?_ h.2.2.2.2.2.2.2.2.2.1 h.2.2.2.2.2.2.2.2.2.2⟩
    rw [h3]
    have := RowA_end (s := s) (a := a) h.2.2.2.2.2.2.2.2.1
    rw [h0]; exact this
  · rw [absK_c hc] at hd
    exact Or.inr ⟨h, Doom_pop hd hm⟩
/-- what pushes nothing but one -/
theorem TW_one (H : Pg n kC vC fC sC K V F S) (h : TW K V F S n b r q tu c js sc me aC en R sor ros) (hc : 0 < c) (hm : me (js (c - 1)) ≠ tu) (h5 : kC (js (c - 1)) = 3 ∨ kC (js (c - 1)) = 4) {cd : Nat} (hcd : cd < 2 ^ 24) (he : ∀ s a, sc (js (c - 1)) = cdN s a → SvN s → a < 2 ^ 6 → cd = cdN (nxS K V (js (c - 1)) s) (nxA K V (js (c - 1)) a) ∧ SvN (nxS K V (js (c - 1)) s) ∧ nxA K V (js (c - 1)) a < 2 ^ 6) :
    TW K V F S n b r q tu c (un js (c - 1) (fC (js (c - 1)))) (un sc (fC (js (c - 1))) cd) (un me (js (c - 1)) tu) aC en R sor ros := by
  obtain ⟨hS, h⟩ := h
  obtain ⟨g1, g2, g3, g4⟩ := Sf_cn hS hc hm
  have h0 := Pg_0 H (k := js (c - 1)) (by omega)
  have hK := Pg_K H h0 g1
  have hF := Pg_at H g1 (by omega) (by omega)
  have e1 : absK (un js (c - 1) (fC (js (c - 1)))) c = fC (js (c - 1)) :: absK js (c - 1) := by
    have := absK_push (js := js) (c := c - 1) (v := fC (js (c - 1)))
    rw [show c - 1 + 1 = c by omega] at this; exact this
  have hlt : ∀ k ∈ fC (js (c - 1)) :: absK js (c - 1), k < n := by
    intro k hk
    rcases List.mem_cons.mp hk with e | hk
    · rw [e]; exact hF.1
    · obtain ⟨i, hi, rfl⟩ := (absK_mem _).mp hk
      exact (hS.2.1 i (by omega)).1
  refine ⟨⟨hS.1, fun i hi => ?_, by have := hS.2.2.1; omega, g4⟩, ?_⟩
  · by_cases e : i = c - 1
    · subst e; rw [un_s, un_s]; exact ⟨hF.1, hcd⟩
    · rw [un_n e]
      have := hS.2.1 i hi
      refine ⟨this.1, ?_⟩
      rw [un]; split
      · exact hcd
      · exact this.2
  rw [e1]
  rcases h with ⟨st, rec, h⟩ | ⟨h, hd⟩
  · obtain ⟨s, a, st2, rfl, h2, h3, h4, h6⟩ := TA_top hc h
    have he := he s a h3 h4 h6
    have hst : (pshO K V F S (js (c - 1)) s a st2).map (·.1) = fC (js (c - 1)) :: absK js (c - 1) := by
      rw [pshO, if_neg (by omega), List.map_cons, h2, hF.2]
    by_cases hD : Doom (un me (js (c - 1)) tu) tu (fC (js (c - 1)) :: absK js (c - 1))
    · exact Or.inr ⟨TA_doom hc h g1 (by omega) (by omega) (by omega) hst hD hlt, hD⟩
    · refine Or.inl ⟨_, _, TA_push hc h g1 (by omega) (by omega) (by omega) (by rw [e1]; exact hst) ?_ (by rw [e1]; exact hD) (by rw [e1]; exact hlt)⟩
      intro x hx
      rw [pshO, if_neg (by omega)] at hx
      rcases List.mem_cons.mp hx with e | hx
      · subst e
        refine ⟨?_, he.2⟩
        show un sc (fC (js (c - 1))) cd (F (js (c - 1))) = _
        rw [← hF.2, un_s]; exact he.1
      · have hq := h.2.2.2.2.2.1 x (List.mem_cons_of_mem _ hx)
        refine ⟨?_, hq.2⟩
        rw [un_n]
        · exact hq.1
        · intro e
          apply hD
          refine Or.inr (fun hnd => (List.nodup_cons.mp hnd).1 ?_)
          rw [← e, ← h2]
          exact List.mem_map.mpr ⟨x, hx, rfl⟩
  · rw [absK_c hc] at hd
    exact Or.inr ⟨h, Doom_more (Doom_pop hd hm)⟩
theorem TW_two (H : Pg n kC vC fC sC K V F S) (h : TW K V F S n b r q tu c js sc me aC en R sor ros) (hc : 0 < c) (hm : me (js (c - 1)) ≠ tu) (h5 : kC (js (c - 1)) = 2) :
    TW K V F S n b r q tu (c - 1 + 1 + 1) (un (un js (c - 1) (sC (js (c - 1)))) (c - 1 + 1) (fC (js (c - 1)))) (un (un sc (sC (js (c - 1))) (sc (js (c - 1)))) (fC (js (c - 1))) (sc (js (c - 1)))) (un me (js (c - 1)) tu) aC en R sor ros := by
  obtain ⟨hS, h⟩ := h
  obtain ⟨g1, g2, g3, g4⟩ := Sf_cn hS hc hm
  have h0 := Pg_0 H (k := js (c - 1)) (by omega)
  have hK := Pg_K H h0 g1
  have hF := Pg_at H g1 (by omega) (by omega)
  have hS2 := Pg_2 H g1 h5
  have e1 : absK (un (un js (c - 1) (sC (js (c - 1)))) (c - 1 + 1) (fC (js (c - 1)))) (c - 1 + 1 + 1) = fC (js (c - 1)) :: sC (js (c - 1)) :: absK js (c - 1) := by
    rw [absK_push, absK_push]
  have hlt : ∀ k ∈ fC (js (c - 1)) :: sC (js (c - 1)) :: absK js (c - 1), k < n := by
    intro k hk
    rcases List.mem_cons.mp hk with e | hk
    · rw [e]; exact hF.1
    · rcases List.mem_cons.mp hk with e | hk
      · rw [e]; exact hS2.1
      · obtain ⟨i, hi, rfl⟩ := (absK_mem _).mp hk
        exact (hS.2.1 i (by omega)).1
  refine ⟨⟨hS.1, fun i hi => ?_, by have := hS.2.2.1; omega, g4⟩, ?_⟩
  · have hsc : ∀ j, sc j < 2 ^ 24 → un (un sc (sC (js (c - 1))) (sc (js (c - 1)))) (fC (js (c - 1))) (sc (js (c - 1))) j < 2 ^ 24 := by
      intro j hj
      rw [un]; split
      · exact g2
      · rw [un]; split
        · exact g2
        · exact hj
    by_cases e : i = c - 1 + 1
    · subst e; rw [un_s, un_s]; exact ⟨hF.1, g2⟩
    · rw [un_n e]
      by_cases e2 : i = c - 1
      · subst e2; rw [un_s]
        refine ⟨hS2.1, ?_⟩
        rw [un]; split
        · exact g2
        · rw [un_s]; exact g2
      · rw [un_n e2]
        have := hS.2.1 i (by omega)
        exact ⟨this.1, hsc _ this.2⟩
  rw [e1]
  rcases h with ⟨st, rec, h⟩ | ⟨h, hd⟩
  · obtain ⟨s, a, st2, rfl, h2, h3, h4, h6⟩ := TA_top hc h
    have hst : (pshO K V F S (js (c - 1)) s a st2).map (·.1) = fC (js (c - 1)) :: sC (js (c - 1)) :: absK js (c - 1) := by
      rw [pshO, if_pos (by omega), List.map_cons, List.map_cons, h2, hF.2, hS2.2]
    by_cases hD : Doom (un me (js (c - 1)) tu) tu (fC (js (c - 1)) :: sC (js (c - 1)) :: absK js (c - 1))
    · exact Or.inr ⟨TA_doom hc h g1 (by omega) (by omega) (by omega) hst hD hlt, hD⟩
    · have hnd : (fC (js (c - 1)) :: sC (js (c - 1)) :: absK js (c - 1)).Nodup := Classical.byContradiction (fun hn => hD (Or.inr hn))
      obtain ⟨n1, n2⟩ := List.nodup_cons.mp hnd
      obtain ⟨n3, n4⟩ := List.nodup_cons.mp n2
      have hne : sC (js (c - 1)) ≠ fC (js (c - 1)) := fun e => n1 (by rw [← e]; exact List.mem_cons_self)
      have hs : nxS K V (js (c - 1)) s = s := by rw [nxS, if_neg (by omega)]
      have ha : nxA K V (js (c - 1)) a = a := by rw [nxA, if_neg (by omega)]
      refine Or.inl ⟨_, _, TA_push hc h g1 (by omega) (by omega) (by omega) (by rw [e1]; exact hst) ?_ (by rw [e1]; exact hD) (by rw [e1]; exact hlt)⟩
      intro x hx
      rw [pshO, if_pos (by omega), hs, ha] at hx
      rcases List.mem_cons.mp hx with e | hx
      · subst e
        refine ⟨?_, h4, h6⟩
        show un (un sc _ _) (fC (js (c - 1))) _ (F (js (c - 1))) = _
        rw [← hF.2, un_s]; exact h3
      · rcases List.mem_cons.mp hx with e | hx
        · subst e
          refine ⟨?_, h4, h6⟩
          show un (un sc _ _) (fC (js (c - 1))) _ (S (js (c - 1))) = _
          rw [← hS2.2, un_n hne, un_s]; exact h3
        · have hq := h.2.2.2.2.2.1 x (List.mem_cons_of_mem _ hx)
          have hmem : x.1 ∈ absK js (c - 1) := by rw [← h2]; exact List.mem_map.mpr ⟨x, hx, rfl⟩
          refine ⟨?_, hq.2⟩
          rw [un_n (fun e => n1 (by rw [← e]; exact List.mem_cons_of_mem _ hmem)), un_n (fun e => n3 (by rw [← e]; exact hmem))]
          exact hq.1
  · rw [absK_c hc] at hd
    exact Or.inr ⟨h, Doom_more (Doom_more (Doom_pop hd hm))⟩
theorem nx_save (H : Pg n kC vC fC sC K V F S) {k : Nat} (hk : k < n) (h3 : kC k = 3) (s a : Nat) (hs : SvN s) (ha : a < 2 ^ 6) : cdN s a ||| 2 ^ (vC k - 2) = cdN (nxS K V k s) (nxA K V k a) ∧ SvN (nxS K V k s) ∧ nxA K V k a < 2 ^ 6 := by
  have h0 := Pg_0 H (k := k) (by omega)
  have hK := Pg_K H h0 hk
  have hv := Pg_3 H hk h3
  rw [nxS, nxA, if_pos (by omega), if_neg (by omega), ← hv.2.2]
  exact ⟨cd_save hv.1, SvN_or hs hv.1 hv.2.1, ha⟩
theorem nx_ass (H : Pg n kC vC fC sC K V F S) {k : Nat} (hk : k < n) (h4 : kC k = 4) (s a : Nat) (hs : SvN s) (ha : a < 2 ^ 6) : cdN s a ||| 2 ^ (18 + vC k) = cdN (nxS K V k s) (nxA K V k a) ∧ SvN (nxS K V k s) ∧ nxA K V k a < 2 ^ 6 := by
  have h0 := Pg_0 H (k := k) (by omega)
  have hK := Pg_K H h0 hk
  have hv := Pg_4 H hk h4
  rw [nxS, nxA, if_neg (by omega), if_pos (by omega), ← hv.2]
  exact ⟨cd_ass, hs, Nat.or_lt_two_pow ha (Nat.pow_lt_pow_right (by omega) hv.1)⟩
end TB3
