/-! Over one byte, in plain words: what is found, and who goes on. -/
section TB3
variable {K V F S : Nat → Nat} {len : Nat} {u : Nat → Nat} {p n b how fr : Nat} {lo : Bool}
def notE (x : Nat × Sv) : Bool := !decide (x.1 = 0)
theorem gb_tk : ∀ (R : List (Nat × Sv)) (best : Option (Nat × Sv)), (gbN K V F len u how lo false p R best).2 = tkL K V F len u p (if lo = false ∧ mayB len how p = true then R.takeWhile notE else R) := by
  intro R
  induction R with
  | nil => intro best; split <;> rfl
  | cons x r ih =>
    obtain ⟨k, sv⟩ := x
    intro best
    rw [gbN, if_neg (by simp : ¬ (false && skB best sv) = true)]
    have h0t : ∀ q, takB K V len u 0 q = false := fun q => by
      cases hq : takB K V len u 0 q with
      | false => rfl
      | true => have := (takB_K hq).1; omega
    have skip : ∀ r2, takB K V len u k p = false → tkL K V F len u p ((k, sv) :: r2) = tkL K V F len u p r2 := fun r2 h => by
      rw [tkL, List.filterMap_cons, if_neg (by rw [h]; simp)]; rfl
    by_cases hk : k = 0
    · subst hk
      rw [if_pos rfl]
      by_cases hm : mayB len how p = true
      · rw [if_pos hm]
        cases hlo : lo with
        | true =>
          have := ih (some (p, sv))
          rw [hlo] at this
          rw [if_pos rfl, this, if_neg (fun h => by cases h.1), if_neg (fun h => by cases h.1), skip _ (h0t p)]
        | false =>
          rw [if_neg (by simp), if_pos ⟨rfl, hm⟩]
          rfl
      · rw [if_neg hm, ih best, if_neg (fun h => hm h.2), if_neg (fun h => hm h.2), skip _ (h0t p)]
    · rw [if_neg hk]
      have hne : notE (k, sv) = true := by simp [notE, hk]
      by_cases ht : takB K V len u k p = true
      · rw [if_pos ht]
        show (F k, sv) :: (gbN K V F len u how lo false p r best).2 = _
        rw [ih best]
        split
        · rw [List.takeWhile_cons_of_pos hne, tkL_cons ht]
        · rw [tkL_cons ht]
      · rw [if_neg ht, ih best]
        split
        · rw [List.takeWhile_cons_of_pos hne, skip _ (by simpa using ht)]
        · rw [skip _ (by simpa using ht)]
theorem gb_best : ∀ (R : List (Nat × Sv)) (best : Option (Nat × Sv)), R.Pairwise (fun x y => x.1 ≠ y.1) → (gbN K V F len u how lo false p R best).1 = (match R.find? (fun x => decide (x.1 = 0)) with
    | none => best
    | some x => if mayB len how p = true then some (p, x.2) else best) := by
  intro R
  induction R with
  | nil => intro best _; rfl
  | cons x r ih =>
    obtain ⟨k, sv⟩ := x
    intro best hnd
    obtain ⟨h1, h2⟩ := List.pairwise_cons.mp hnd
    rw [gbN, if_neg (by simp : ¬ (false && skB best sv) = true), List.find?_cons]
    by_cases hk : k = 0
    · subst hk
      have hno : r.find? (fun x => decide (x.1 = 0)) = none := List.find?_eq_none.mpr (fun y hy => by
        have := h1 y hy
        simp only [decide_eq_true_eq]
        exact fun e => this e.symm)
      have keep : ∀ best2, (gbN K V F len u how lo false p r best2).1 = best2 := fun best2 => by rw [ih best2 h2, hno]
      rw [if_pos rfl]
      simp only [decide_true]
      by_cases hm : mayB len how p = true
      · rw [if_pos hm, if_pos hm]
        split
        · exact keep _
        · rfl
      · rw [if_neg hm, if_neg hm]
        exact keep _
    · rw [if_neg hk]
      simp only [hk, decide_false]
      by_cases ht : takB K V len u k p = true
      · rw [if_pos ht]
        exact ih best h2
      · rw [if_neg ht]
        exact ih best h2
end TB3
