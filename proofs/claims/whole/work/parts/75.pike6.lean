/-! The run of the rows of threads answers as the reference. -/
section PK6
variable {K V F S : Nat → Nat} {len : Nat} {u : Nat → Nat} {L : Nat} {al : Bool} {p n b how fr : Nat} {lo sk : Bool}
theorem pk_mid (H : PkH K V F S len n b how fr) (hsk : sk = true ∨ how ≠ 0 ∨ lo = false) {p0 e : Nat} {sva : Sv} (hs : sva 0 = nI p0) (hst0 : Start len how fr p0) (hmin : ∀ p1, p1 < p0 → Start len how fr p1 → ¬ Can K V F S len u len (decide (how = 2)) p1 b) (hLB : LB K V F S len u b how lo p0 L al) : ∀ (m p : Nat) (st : List (Nat × Sv)) (best : Option (Nat × Sv)), p + m = len + 1 → p0 ≤ p → p ≤ L → (∀ x ∈ st, Thr K V F S len u n b how fr p x) → bok (nI p0) best →
    rsN K V F S len u L al n p (rwN K V F S len u p (2 * n + st.length + 2) (st ++ (if best = none ∧ (how = 0 ∨ p = fr) then [(b, svB p)] else [])) (fun _ => false)) = some (e, sva) → pkN K V F S len u n b how lo sk fr m p st best = some (e, sva) := by
  have hLl : L ≤ len := by
    rcases hLB with ⟨_, h, _⟩ | ⟨_, _, _, h, _⟩
    · omega
    · exact h
  obtain ⟨hF, hS, hF1, hV, hb, hfr, hl⟩ := id H
  have hp0l : p0 ≤ len := hst0.2.1
  intro m
  induction m with
  | zero => intro p st best h1 h2 h3; omega
  | succ m ih =>
    intro p st best hm hp0 hpL hst hbest hrs
    rw [pkN]
    obtain ⟨hR, hnd⟩ := pk_row (u := u) H (best := best) (show fr ≤ p by have := hst0.1; omega) (by omega) hst
    generalize rwN K V F S len u p (2 * n + st.length + 2) (st ++ (if best = none ∧ (how = 0 ∨ p = fr) then [(b, svB p)] else [])) (fun _ => false) = R at hR hnd hrs
    have hend : ∀ x ∈ R, x.1 = 0 → mayB len how p = true → ¬ x.2 0 < nI p0 := by
      intro x hx h0 hmay
      obtain ⟨s, k1, k2, k3⟩ := Thr_Can (hR x hx) (by rw [h0]; exact mayB_Can hmay)
      have : p0 ≤ s := Nat.le_of_not_lt (fun h => hmin s h k2 k3)
      rw [k1]
      exact nI_nlt this (by have := k2.2.1; omega)
    have hlo0 : lo = false → mayB len how p = true → accB K V F S len u L al p 0 = true := by
      intro hlo hmay
      rcases hLB with ⟨_, rfl, rfl⟩ | ⟨_, h, _⟩
      · simp only [mayB, Bool.or_eq_true, decide_eq_true_eq] at hmay
        simp only [accB, endB, Bool.or_eq_true, Bool.and_eq_true, decide_eq_true_eq, Bool.not_eq_true', decide_eq_false_iff_not]
        rcases hmay with h | h
        · exact Or.inl ⟨trivial, Or.inr h⟩
        · exact Or.inl ⟨trivial, Or.inl h⟩
      · rw [hlo] at h; cases h
    cases hf : R.find? (fun x => accB K V F S len u L al p x.1) with
    | none => rw [rsN, hf] at hrs; cases hrs
    | some q =>
      obtain ⟨k, svf⟩ := q
      have hacc : accB K V F S len u L al p k = true := by simpa using List.find?_some hf
      have hrs2 := hrs
      rw [rsN, hf] at hrs2
      by_cases hk : k = 0
      · subst hk
        simp only [if_true, Option.some.injEq, Prod.mk.injEq] at hrs2
        obtain ⟨he, hsv⟩ := hrs2
        subst he; subst hsv
        have hE : p = L ∨ al = false := by
          have ht : takB K V len u 0 p = false := by
            cases hq : takB K V len u 0 p with
            | false => rfl
            | true => have := (takB_K hq).1; omega
          simpa [accB, endB, ht] using hacc
        have hmay : mayB len how p = true := by
          simp only [mayB, Bool.or_eq_true, decide_eq_true_eq]
          rcases hLB with ⟨_, h2, h3⟩ | ⟨h, _⟩
          · rcases hE with h4 | h4
            · exact Or.inr (by omega)
            · rw [h3] at h4; exact Or.inl (by simpa using h4)
          · exact Or.inl h
        obtain ⟨g1, R', g2, g3, g4, g5⟩ := gbN_end (lo := lo) (sk := sk) (S := S) (L := L) (al := al) hs hmay (fun _ => hacc) R best (fun x hx h0 => hend x hx h0 hmay) hnd hbest hf
        rw [g1, g2]
        have hR' : ∀ x ∈ R', Thr K V F S len u n b how fr p x := fun x hx => hR x (g3 x hx)
        cases m with
        | zero => rfl
        | succ m =>
          cases hloc : lo with
          | false =>
            rcases hLB with ⟨_, rfl, rfl⟩ | ⟨_, h, _⟩
            · exact pk_done H _ _ _ _ (by omega) (tkL_lt hF1 (fun x hx => (hR' x hx).1)) (tkL_none (by omega) (g5 hloc))
            · rw [hloc] at h; cases h
          | true =>
            rcases hLB with ⟨h, rfl, rfl⟩ | ⟨_, _, rfl, _, hfw, hmax⟩
            · rcases h with h | h
              · rcases hE with h4 | h4
                · omega
                · simp [h] at h4
              · rw [hloc] at h; cases h
            · rcases hE with h4 | h4
              · subst h4
                exact pk_doneL H hs hst0 (by rcases hsk with h | h | h; exact Or.inl h; exact Or.inr h; rw [hloc] at h; cases h) hmin hmax _ _ _ (by omega) (by have := hst0.1; omega) (by omega) (Thr_take hF1 hR')
              · cases h4
      · simp only [if_neg hk] at hrs2
        have hs0 : svf 0 = nI p0 := by rw [← gwN_0 hV hrs2]; exact hs
        obtain ⟨R', g2, g3, g4, g5, g6⟩ := gbN_go (S := S) (L := L) (al := al) (lo := lo) (sk := sk) hk hs0 hlo0 R best hend hbest hf
        rw [g2]
        have hR' : ∀ x ∈ R', Thr K V F S len u n b how fr p x := fun x hx => hR x (g3 x hx)
        have hpl : p < L := (accB_tak hacc hk).2.1
        refine ih (p + 1) _ _ (by omega) (by omega) (by omega) (Thr_take hF1 hR') g5 ?_
        rw [rsN_go hF hS hF1 (fun x hx => (hR' x hx).1) (fun x hx => ?_) ?_ g6 hk, rsN_congr (g6.trans hf.symm)]
        · exact hrs
        · split
          · simp only [List.length_cons, List.length_nil]; omega
          · simp only [List.length_nil]; omega
        · split at hx
          · rw [List.mem_singleton.mp hx]; exact hb
          · cases hx
/-- before the find: all is dead -/
theorem pk_pre (H : PkH K V F S len n b how fr) {st : List (Nat × Sv)} {best : Option (Nat × Sv)} (hp1 : fr ≤ p) (hp2 : p ≤ len) (hst : ∀ x ∈ st, Thr K V F S len u n b how fr p x) (hd : ∀ x ∈ st, ¬ Can K V F S len u len (decide (how = 2)) p x.1) (hb0 : Start len how fr p → ¬ Can K V F S len u len (decide (how = 2)) p b) :
    ∃ R', (gbN K V F len u how lo sk p (rwN K V F S len u p (2 * n + st.length + 2) (st ++ (if (none : Option (Nat × Sv)) = none ∧ (how = 0 ∨ p = fr) then [(b, svB p)] else [])) (fun _ => false)) none).1 = none ∧ (gbN K V F len u how lo sk p (rwN K V F S len u p (2 * n + st.length + 2) (st ++ (if (none : Option (Nat × Sv)) = none ∧ (how = 0 ∨ p = fr) then [(b, svB p)] else [])) (fun _ => false)) none).2 = tkL K V F len u p R' ∧ (∀ x ∈ R', Thr K V F S len u n b how fr p x) ∧ ∀ x ∈ R', ¬ Can K V F S len u len (decide (how = 2)) p x.1 := by
  obtain ⟨hR, -⟩ := pk_row (u := u) H (best := none) hp1 hp2 hst
  have hall : ∀ x ∈ st ++ (if (none : Option (Nat × Sv)) = none ∧ (how = 0 ∨ p = fr) then [(b, svB p)] else []), ¬ Can K V F S len u len (decide (how = 2)) p x.1 := by
    intro x hx
    rcases List.mem_append.mp hx with h | h
    · exact hd x h
    · split at h
      · rename_i hc
        rw [List.mem_singleton.mp h]
        refine hb0 ⟨hp1, hp2, fun h0 => ?_⟩
        rcases hc.2 with h1 | h1
        · exact absurd h1 h0
        · exact h1
      · cases h
  have hD := rwN_all (p := p) (V := V) (K := K) (F := F) (S := S) (len := len) (u := u) (Pd := fun x => ¬ Can K V F S len u len (decide (how = 2)) p x.1) (fun k sv h hp => ⟨fun hc => h ((Can_p hp).mpr (Or.inl hc)), fun h2 hc => h ((Can_p hp).mpr (Or.inr ⟨h2, hc⟩))⟩) (2 * n + st.length + 2) _ (fun _ => false) hall
  obtain ⟨g1, R', h1, h2, -⟩ := gbN_keep (K := K) (V := V) (F := F) (u := u) (lo := lo) (sk := sk) (p := p) (len := len) (how := how) _ none (fun x hx h0 hmay => by
    have := hD x hx
    rw [h0] at this
    exact absurd (mayB_Can hmay) this)
  exact ⟨R', g1, h1, fun x hx => hR x (h2 x hx), fun x hx => hD x (h2 x hx)⟩
theorem pk_none (H : PkH K V F S len n b how fr) (hno : ∀ p, Start len how fr p → ¬ Can K V F S len u len (decide (how = 2)) p b) : ∀ (m p : Nat) (st : List (Nat × Sv)), p + m = len + 1 → fr ≤ p → (∀ x ∈ st, Thr K V F S len u n b how fr p x) → (∀ x ∈ st, ¬ Can K V F S len u len (decide (how = 2)) p x.1) → pkN K V F S len u n b how lo sk fr m p st none = none := by
  intro m
  induction m with
  | zero => intro p st _ _ _ _; rfl
  | succ m ih =>
    intro p st hm hp hst hd
    obtain ⟨R', g1, g2, g3, g4⟩ := pk_pre (lo := lo) (sk := sk) (best := none) H hp (by omega) hst hd (hno p)
    rw [pkN, g1, g2]
    exact ih (p + 1) _ (by omega) (by omega) (Thr_take H.2.2.1 g3) (dead_tk g4)
theorem pk_some (H : PkH K V F S len n b how fr) (hsk : sk = true ∨ how ≠ 0 ∨ lo = false) {p0 e : Nat} {sv : Sv} (hst0 : Start len how fr p0) (hmin : ∀ p1, p1 < p0 → Start len how fr p1 → ¬ Can K V F S len u len (decide (how = 2)) p1 b) (hLB : LB K V F S len u b how lo p0 L al) (hpL : p0 ≤ L) (hg : gwN K V F S len u L al n (L + 1 - p0) p0 b (fun _ => -1) = some (e, sv)) : ∀ (m p : Nat) (st : List (Nat × Sv)), p + m = len + 1 → fr ≤ p → p ≤ p0 → (∀ x ∈ st, Thr K V F S len u n b how fr p x) → (∀ x ∈ st, ¬ Can K V F S len u len (decide (how = 2)) p x.1) → pkN K V F S len u n b how lo sk fr m p st none = some (e, upd sv 0 (nI p0)) := by
  intro m
  induction m with
  | zero => intro p st h1 h2 h3; have := hst0.2.1; omega
  | succ m ih =>
    intro p st hm hp hp0 hst hd
    obtain ⟨hF, hS, hF1, hV, hb, hfr, hl⟩ := id H
    have hpl : p ≤ len := by have := hst0.2.1; omega
    rcases Nat.lt_or_ge p p0 with hlt | hge
    · obtain ⟨R', g1, g2, g3, g4⟩ := pk_pre (lo := lo) (sk := sk) (best := none) H hp hpl hst hd (hmin p hlt)
      rw [pkN, g1, g2]
      exact ih (p + 1) _ (by omega) (by omega) (by omega) (Thr_take hF1 g3) (dead_tk g4)
    · obtain rfl : p = p0 := by omega
      refine pk_mid H hsk (by simp [upd]) hst0 hmin hLB (m + 1) p st none hm (Nat.le_refl _) hpL hst (fun q h => by cases h) ?_
      have hc : (none : Option (Nat × Sv)) = none ∧ (how = 0 ∨ p = fr) := ⟨rfl, by
        by_cases h : how = 0
        · exact Or.inl h
        · exact Or.inr (hst0.2.2 h)⟩
      rw [if_pos hc, rsN_beg hF hS hpL (fun x hx => (hst x hx).1) hb (by omega) (fun x hx hcan => ?_)]
      · exact gwN_B hV hg p
      · rcases hLB with ⟨_, rfl, rfl⟩ | ⟨h1, _, rfl, h2, _⟩
        · exact hd x hx hcan
        · obtain ⟨mm, hmm⟩ := hcan
          refine hd x hx ⟨mm, ?_⟩
          rw [decide_eq_false h1]
          exact Can_wk h2 _ _ _ hmm
/-- the rows of threads answer as the reference -/
theorem pk_ref (H : PkH K V F S len n b how fr) (hsk : sk = true ∨ how ≠ 0 ∨ lo = false) {r : Option (Nat × Nat × Sv)} (h : RefR K V F S len u n b how lo fr r) : pkN K V F S len u n b how lo sk fr (len + 1 - fr) fr [] none = r.map (fun x => (x.2.1, upd x.2.2 0 (nI x.1))) := by
  have hfr : fr ≤ len := H.2.2.2.2.2.1
  rcases h with ⟨rfl, hno⟩ | ⟨p0, e, sv, rfl, h1, h2, h3, L, al, h4, h5, h6⟩
  · exact pk_none H hno _ _ _ (by omega) (Nat.le_refl _) (fun x hx => by cases hx) (fun x hx => by cases hx)
  · exact pk_some H hsk h1 h3 h4 h5 h6 _ _ _ (by omega) (Nat.le_refl _) h1.1 (fun x hx => by cases hx) (fun x hx => by cases hx)
end PK6
