/-! One way: who goes on is one, however often. -/
section TB2
variable {K V F S : Nat → Nat} {len : Nat} {u : Nat → Nat} {p n b how fr : Nat} {lo sk : Bool}
theorem rwN_seen {y : Nat × Sv} : ∀ (m c : Nat) (s : Nat → Bool), s y.1 = true → rwN K V F S len u p m (List.replicate c y) s = [] := by
  intro m
  induction m with
  | zero => intro c s _; rfl
  | succ m ih =>
    intro c s hs
    cases c with
    | zero => rfl
    | succ c =>
      obtain ⟨k, sv⟩ := y
      rw [List.replicate_succ, rwN, if_pos hs]
      exact ih c s hs
theorem mkN_up (hF : ∀ i, 0 < i → i < n → (K i = 2 ∨ K i = 3 ∨ K i = 4) → F i < n) (hS : ∀ i, 0 < i → i < n → K i = 2 → S i < n) : ∀ (m : Nat) (st : List (Nat × Sv)) (s : Nat → Bool), (∀ x ∈ st, x.1 < n) → ∀ j, s j = true → mkN K V F S len u p m st s j = true := by
  intro m
  induction m with
  | zero => intro st s _ j h; exact h
  | succ m ih =>
    intro st s hl j h
    match st, hl with
    | [], _ => exact h
    | (k, sv) :: r, hl =>
      obtain ⟨o, t, s2, g1, g2, g3, g4, g5, -⟩ := rwN_one (p := p) (V := V) (len := len) (u := u) hF hS (sv := sv) (s := s) (hl _ List.mem_cons_self) (fun x hx => hl x (List.mem_cons_of_mem _ hx))
      have b1 := g2 m []
      simp only [List.append_nil] at b1
      rw [b1]
      exact ih _ _ g4 j (g5 j h)
theorem mkN_self (hF : ∀ i, 0 < i → i < n → (K i = 2 ∨ K i = 3 ∨ K i = 4) → F i < n) (hS : ∀ i, 0 < i → i < n → K i = 2 → S i < n) {y : Nat × Sv} (hy : y.1 < n) (m : Nat) (s : Nat → Bool) : mkN K V F S len u p (m + 1) [y] s y.1 = true := by
  obtain ⟨k, sv⟩ := y
  rw [mkN]
  split
  · rename_i h; exact mkN_up hF hS _ _ _ (fun x hx => by cases hx) _ h
  · split
    · exact mkN_up hF hS _ _ _ (fun x hx => by cases hx) _ ub_s
    · split
      · rename_i hp
        have hKp := pasB_K hp
        exact mkN_up hF hS _ _ _ (psh_lt (hF k hKp.1 hy hKp.2) (fun h2 => hS k hKp.1 hy h2) (fun x hx => by cases hx)) _ ub_s
      · exact mkN_up hF hS _ _ _ (fun x hx => by cases hx) _ ub_s
theorem rwN_rep (hF : ∀ i, 0 < i → i < n → (K i = 2 ∨ K i = 3 ∨ K i = 4) → F i < n) (hS : ∀ i, 0 < i → i < n → K i = 2 → S i < n) {y : Nat × Sv} (hy : y.1 < n) {c m m2 : Nat} (h1 : 2 * n + (1 + c) < m) (h2 : 2 * n + 1 < m2) : rwN K V F S len u p m (List.replicate (c + 1) y) (fun _ => false) = rwN K V F S len u p m2 [y] (fun _ => false) := by
  have hall : cnF n (fun _ => false) = n := cnF_all (fun _ _ => rfl)
  have hy1 : ∀ x ∈ [y], x.1 < n := fun x hx => by rw [List.mem_singleton.mp hx]; exact hy
  have hle := (mkN_le (V := V) (len := len) (u := u) (p := p) hF hS m2 [y] (fun _ => false) hy1).1
  have h := (rwN_app (p := p) (V := V) (len := len) (u := u) hF hS m2 m (2 * n + c + 1) [y] (List.replicate c y) (fun _ => false) (by rw [hall]; simp; omega) (by rw [hall]; simpa using h2) (by rw [List.length_replicate]; rw [hall] at hle; omega) hy1 (fun x hx => by rw [(List.mem_replicate.mp hx).2]; exact hy)).1
  obtain ⟨q, rfl⟩ : ∃ q, m2 = q + 1 := ⟨m2 - 1, by omega⟩
  rw [rwN_seen _ _ _ (mkN_self hF hS hy q _), List.append_nil] at h
  rw [← h]
  rfl
/-- nobody goes on: what was found stays -/
theorem pk_empty (hhow : how ≠ 0) : ∀ (m p : Nat) (best : Option (Nat × Sv)), fr < p → pkN K V F S len u n b how lo sk fr m p [] best = best := by
  intro m
  induction m with
  | zero => intro p best _; rfl
  | succ m ih =>
    intro p best hp
    have e : (if best = none ∧ (how = 0 ∨ p = fr) then [(b, svB p)] else []) = [] := if_neg (fun h => by rcases h.2 with h | h <;> omega)
    rw [pkN, e]
    exact ih (p + 1) best (by omega)
/-- the same one often is that one -/
theorem pk_rep (hF : ∀ i, 0 < i → i < n → (K i = 2 ∨ K i = 3 ∨ K i = 4) → F i < n) (hS : ∀ i, 0 < i → i < n → K i = 2 → S i < n) (hhow : how ≠ 0) {y : Nat × Sv} (hy : y.1 < n) {m c : Nat} {best : Option (Nat × Sv)} (hp : fr < p) : pkN K V F S len u n b how lo sk fr m p (List.replicate (c + 1) y) best = pkN K V F S len u n b how lo sk fr m p [y] best := by
  cases m with
  | zero => rfl
  | succ m =>
    have e : (if best = none ∧ (how = 0 ∨ p = fr) then [(b, svB p)] else []) = [] := if_neg (fun h => by rcases h.2 with h | h <;> omega)
    have e2 := rwN_rep (p := p) (V := V) (len := len) (u := u) hF hS hy (c := c) (m := 2 * n + (List.replicate (c + 1) y).length + 2) (m2 := 2 * n + [y].length + 2) (by rw [List.length_replicate]; omega) (by simp)
    rw [pkN, pkN, e, List.append_nil, List.append_nil, e2]
/-- who goes on is one, however often -/
theorem gb_uni {y : Nat × Sv} : ∀ (R : List (Nat × Sv)) (best : Option (Nat × Sv)), (∀ x ∈ R, x.1 ≠ 0 → takB K V len u x.1 p = true → (F x.1, x.2) = y) → ∃ c, (gbN K V F len u how lo sk p R best).2 = List.replicate c y := by
  intro R
  induction R with
  | nil => intro best _; exact ⟨0, rfl⟩
  | cons x r ih =>
    obtain ⟨k, sv⟩ := x
    intro best h
    have hr : ∀ x ∈ r, x.1 ≠ 0 → takB K V len u x.1 p = true → (F x.1, x.2) = y := fun x hx => h x (List.mem_cons_of_mem _ hx)
    rw [gbN]
    split
    · exact ih best hr
    · split
      · split
        · split
          · exact ih _ hr
          · exact ⟨0, rfl⟩
        · exact ih best hr
      · rename_i hk
        split
        · rename_i ht
          obtain ⟨c, hc⟩ := ih best hr
          refine ⟨c + 1, ?_⟩
          rw [List.replicate_succ, hc]
          have := h (k, sv) List.mem_cons_self hk ht
          exact congrArg (· :: List.replicate c y) this
        · exact ih best hr
end TB2
