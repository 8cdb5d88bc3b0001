/-! Going over one byte: what is found, what goes on. -/
section PK3
variable {K V F S : Nat → Nat} {len : Nat} {u : Nat → Nat} {L : Nat} {al : Bool} {p n how : Nat} {lo sk : Bool}
/-- what holds of a stack and is kept by passing holds of a row -/
theorem rwN_all {Pd : Nat × Sv → Prop} (hc : ∀ k sv, Pd (k, sv) → pasB K V len u k p = true → Pd (F k, svk K V p k sv) ∧ (K k = 2 → Pd (S k, svk K V p k sv))) : ∀ (m : Nat) (st : List (Nat × Sv)) (s : Nat → Bool), (∀ x ∈ st, Pd x) → ∀ x ∈ rwN K V F S len u p m st s, Pd x := by
  intro m
  induction m with
  | zero => intro st s _ x hx; cases hx
  | succ m ih =>
    intro st s hst x hx
    match st with
    | [] => cases hx
    | (k, sv) :: r =>
      have hr : ∀ y ∈ r, Pd y := fun y hy => hst y (List.mem_cons_of_mem _ hy)
      rw [rwN] at hx
      split at hx
      · exact ih _ _ hr x hx
      · split at hx
        · rcases List.mem_cons.mp hx with rfl | hx
          · exact hst _ List.mem_cons_self
          · exact ih _ _ hr x hx
        · split at hx
          · rename_i hp
            obtain ⟨g1, g2⟩ := hc k sv (hst _ List.mem_cons_self) hp
            refine ih _ _ (fun y hy => ?_) x hx
            unfold psh at hy
            split at hy
            · rename_i h2
              rcases List.mem_cons.mp hy with rfl | hy
              · exact g1
              · rcases List.mem_cons.mp hy with rfl | hy
                · exact g2 h2
                · exact hr y hy
            · rcases List.mem_cons.mp hy with rfl | hy
              · exact g1
              · exact hr y hy
          · exact ih _ _ hr x hx
/-- each step but once -/
theorem rwN_nd : ∀ (m : Nat) (st : List (Nat × Sv)) (s : Nat → Bool), (rwN K V F S len u p m st s).Pairwise (fun x y => x.1 ≠ y.1) ∧ ∀ x ∈ rwN K V F S len u p m st s, s x.1 = false := by
  intro m
  induction m with
  | zero => intro st s; exact ⟨List.Pairwise.nil, fun x hx => by cases hx⟩
  | succ m ih =>
    intro st s
    match st with
    | [] => exact ⟨List.Pairwise.nil, fun x hx => by cases hx⟩
    | (k, sv) :: r =>
      have down : ∀ (t : List (Nat × Sv)), s k = false → ∀ x ∈ rwN K V F S len u p m t (ub s k true), s x.1 = false ∧ x.1 ≠ k := by
        intro t hs x hx
        have h := (ih t (ub s k true)).2 x hx
        by_cases hk : x.1 = k
        · rw [hk, ub_s] at h; cases h
        · rw [ub_n hk] at h; exact ⟨h, hk⟩
      rw [rwN]
      split
      · exact ih _ _
      · rename_i hs
        have hs0 : s k = false := by simpa using hs
        split
        · refine ⟨List.Pairwise.cons (fun y hy => (down r hs0 y hy).2.symm) (ih _ _).1, fun x hx => ?_⟩
          rcases List.mem_cons.mp hx with rfl | hx
          · exact hs0
          · exact (down r hs0 x hx).1
        · split
          · exact ⟨(ih _ _).1, fun x hx => (down _ hs0 x hx).1⟩
          · exact ⟨(ih _ _).1, fun x hx => (down _ hs0 x hx).1⟩
def mayB (len how p : Nat) : Bool := decide (how ≠ 2) || decide (p = len)
def skB (best : Option (Nat × Sv)) (sv : Sv) : Bool := match best with
  | none => false
  | some (_, sb) => decide (sb 0 < sv 0)
/-- over one byte: what is found, and who goes on -/
def gbN (K V F : Nat → Nat) (len : Nat) (u : Nat → Nat) (how : Nat) (lo sk : Bool) (p : Nat) : List (Nat × Sv) → Option (Nat × Sv) → Option (Nat × Sv) × List (Nat × Sv)
  | [], best => (best, [])
  | (k, sv) :: r, best =>
    if (sk && skB best sv) = true then gbN K V F len u how lo sk p r best
    else if k = 0 then (if mayB len how p = true then (if lo = true then gbN K V F len u how lo sk p r (some (p, sv)) else (some (p, sv), [])) else gbN K V F len u how lo sk p r best)
    else if takB K V len u k p = true then ((gbN K V F len u how lo sk p r best).1, (F k, sv) :: (gbN K V F len u how lo sk p r best).2)
    else gbN K V F len u how lo sk p r best
def bok (x : Int32) (best : Option (Nat × Sv)) : Prop := ∀ q, best = some q → ¬ q.2 0 < x
theorem bok_sk {x : Int32} {best : Option (Nat × Sv)} {sv : Sv} (h : bok x best) (hs : sv 0 = x) : skB best sv = false := by
  cases best with
  | none => rfl
  | some q =>
    obtain ⟨e, sb⟩ := q
    have := h _ rfl
    simp only [skB, decide_eq_false_iff_not]
    rw [hs]; exact this
theorem tkL_cons {k : Nat} {sv : Sv} {R : List (Nat × Sv)} (h : takB K V len u k p = true) : tkL K V F len u p ((k, sv) :: R) = (F k, sv) :: tkL K V F len u p R := by
  rw [tkL, List.filterMap_cons, if_pos h]; rfl
theorem gbN_out {x0 : Int32} : ∀ (R : List (Nat × Sv)) (best : Option (Nat × Sv)), (∀ x ∈ R, x.1 = 0 → mayB len how p = true → ¬ x.2 0 < x0) → bok x0 best → ∃ R', (gbN K V F len u how lo sk p R best).2 = tkL K V F len u p R' ∧ (∀ x ∈ R', x ∈ R) ∧ R'.length ≤ R.length ∧ bok x0 (gbN K V F len u how lo sk p R best).1 := by
  intro R
  induction R with
  | nil => intro best _ hb; exact ⟨[], rfl, fun x hx => hx, Nat.le_refl _, hb⟩
  | cons y r ih =>
    obtain ⟨k, sv⟩ := y
    intro best hR hb
    have hr : ∀ x ∈ r, x.1 = 0 → mayB len how p = true → ¬ x.2 0 < x0 := fun x hx => hR x (List.mem_cons_of_mem _ hx)
    have up : ∀ best2, bok x0 best2 → ∃ R', (gbN K V F len u how lo sk p r best2).2 = tkL K V F len u p R' ∧ (∀ x ∈ R', x ∈ (k, sv) :: r) ∧ R'.length ≤ ((k, sv) :: r).length ∧ bok x0 (gbN K V F len u how lo sk p r best2).1 := by
      intro best2 hb2
      obtain ⟨R', h1, h2, h3, h4⟩ := ih best2 hr hb2
      exact ⟨R', h1, fun x hx => List.mem_cons_of_mem _ (h2 x hx), Nat.le_trans h3 (Nat.le_succ _), h4⟩
    rw [gbN]
    split
    · exact up best hb
    · split
      · rename_i h0
        split
        · rename_i hm
          have hb2 : bok x0 (some (p, sv)) := fun q hq => by cases hq; exact hR (k, sv) List.mem_cons_self h0 hm
          split
          · exact up _ hb2
          · exact ⟨[], rfl, fun x hx => by (cases hx), Nat.zero_le _, hb2⟩
        · exact up best hb
      · split
        · rename_i ht
          obtain ⟨R', h1, h2, h3, h4⟩ := ih best hr hb
          refine ⟨(k, sv) :: R', ?_, fun x hx => ?_, Nat.succ_le_succ h3, h4⟩
          · rw [tkL_cons ht, h1]
          · rcases List.mem_cons.mp hx with rfl | hx
            · exact List.mem_cons_self
            · exact List.mem_cons_of_mem _ (h2 x hx)
        · exact up best hb
/-- one that leads on is found: it goes on, the first of those that lead on -/
theorem gbN_go {x0 : Int32} {k0 : Nat} {sv0 : Sv} (h0 : k0 ≠ 0) (hs0 : sv0 0 = x0) (hlo : lo = false → mayB len how p = true → accB K V F S len u L al p 0 = true) : ∀ (R : List (Nat × Sv)) (best : Option (Nat × Sv)), (∀ x ∈ R, x.1 = 0 → mayB len how p = true → ¬ x.2 0 < x0) → bok x0 best → R.find? (fun x => accB K V F S len u L al p x.1) = some (k0, sv0) →
    ∃ R', (gbN K V F len u how lo sk p R best).2 = tkL K V F len u p R' ∧ (∀ x ∈ R', x ∈ R) ∧ R'.length ≤ R.length ∧ bok x0 (gbN K V F len u how lo sk p R best).1 ∧ R'.find? (fun x => accB K V F S len u L al p x.1) = some (k0, sv0) := by
  intro R
  induction R with
  | nil => intro best _ _ h; cases h
  | cons y r ih =>
    obtain ⟨k, sv⟩ := y
    intro best hR hb h
    have hr : ∀ x ∈ r, x.1 = 0 → mayB len how p = true → ¬ x.2 0 < x0 := fun x hx => hR x (List.mem_cons_of_mem _ hx)
    rw [List.find?_cons] at h
    have up : ∀ best2, bok x0 best2 → accB K V F S len u L al p k = false → ∃ R', (gbN K V F len u how lo sk p r best2).2 = tkL K V F len u p R' ∧ (∀ x ∈ R', x ∈ (k, sv) :: r) ∧ R'.length ≤ ((k, sv) :: r).length ∧ bok x0 (gbN K V F len u how lo sk p r best2).1 ∧ R'.find? (fun x => accB K V F S len u L al p x.1) = some (k0, sv0) := by
      intro best2 hb2 hna
      have h' : r.find? (fun x => accB K V F S len u L al p x.1) = some (k0, sv0) := by simpa [hna] using h
      obtain ⟨R', h1, h2, h3, h4, h5⟩ := ih best2 hr hb2 h'
      exact ⟨R', h1, fun x hx => List.mem_cons_of_mem _ (h2 x hx), Nat.le_trans h3 (Nat.le_succ _), h4, h5⟩
    have hfound : accB K V F S len u L al p k = true → k = k0 ∧ sv = sv0 := fun ha => by
      simp [ha] at h; exact h
    rw [gbN]
    split
    · rename_i hsk
      refine up best hb ?_
      cases ha : accB K V F S len u L al p k with
      | false => rfl
      | true =>
        obtain ⟨rfl, rfl⟩ := hfound ha
        rw [bok_sk hb hs0, Bool.and_false] at hsk; cases hsk
    · split
      · rename_i hk
        have hna : accB K V F S len u L al p k = false := by
          cases ha : accB K V F S len u L al p k with
          | false => rfl
          | true => exact absurd ((hfound ha).1.symm.trans hk) h0
        split
        · rename_i hm
          have hb2 : bok x0 (some (p, sv)) := fun q hq => by cases hq; exact hR (k, sv) List.mem_cons_self hk hm
          split
          · exact up _ hb2 hna
          · rename_i hl
            have := hlo (by simpa using hl) hm
            rw [hk] at hna
            rw [this] at hna; cases hna
        · exact up best hb hna
      · rename_i hk
        split
        · rename_i ht
          cases ha : accB K V F S len u L al p k with
          | true =>
            obtain ⟨rfl, rfl⟩ := hfound ha
            obtain ⟨R', h1, h2, h3, h4⟩ := gbN_out (K := K) (V := V) (F := F) (u := u) (lo := lo) (sk := sk) r best hr hb
            refine ⟨(k, sv) :: R', by rw [tkL_cons ht, h1], fun x hx => ?_, Nat.succ_le_succ h3, h4, by simp [ha]⟩
            rcases List.mem_cons.mp hx with rfl | hx
            · exact List.mem_cons_self
            · exact List.mem_cons_of_mem _ (h2 x hx)
          | false =>
            have h' : r.find? (fun x => accB K V F S len u L al p x.1) = some (k0, sv0) := by simpa [ha] using h
            obtain ⟨R', h1, h2, h3, h4, h5⟩ := ih best hr hb h'
            refine ⟨(k, sv) :: R', by rw [tkL_cons ht, h1], fun x hx => ?_, Nat.succ_le_succ h3, h4, by rw [List.find?_cons, ha]; exact h5⟩
            rcases List.mem_cons.mp hx with rfl | hx
            · exact List.mem_cons_self
            · exact List.mem_cons_of_mem _ (h2 x hx)
        · rename_i ht
          refine up best hb ?_
          simp [accB, hk, ht]
/-- nothing is found that may count: what was found stays -/
theorem gbN_keep : ∀ (R : List (Nat × Sv)) (best : Option (Nat × Sv)), (∀ x ∈ R, x.1 = 0 → mayB len how p = true → (sk && skB best x.2) = true) → (gbN K V F len u how lo sk p R best).1 = best ∧ ∃ R', (gbN K V F len u how lo sk p R best).2 = tkL K V F len u p R' ∧ (∀ x ∈ R', x ∈ R) ∧ R'.length ≤ R.length := by
  intro R
  induction R with
  | nil => intro best _; exact ⟨rfl, [], rfl, fun x hx => hx, Nat.le_refl _⟩
  | cons y r ih =>
    obtain ⟨k, sv⟩ := y
    intro best hR
    obtain ⟨g1, R', h1, h2, h3⟩ := ih best (fun x hx => hR x (List.mem_cons_of_mem _ hx))
    have fin : (gbN K V F len u how lo sk p r best).1 = best ∧ ∃ R', (gbN K V F len u how lo sk p r best).2 = tkL K V F len u p R' ∧ (∀ x ∈ R', x ∈ (k, sv) :: r) ∧ R'.length ≤ ((k, sv) :: r).length := ⟨g1, R', h1, fun x hx => List.mem_cons_of_mem _ (h2 x hx), Nat.le_trans h3 (Nat.le_succ _)⟩
    rw [gbN]
    split
    · exact fin
    · rename_i hsk
      split
      · rename_i hk
        split
        · rename_i hm
          exact absurd (hR _ List.mem_cons_self hk hm) hsk
        · exact fin
      · split
        · rename_i ht
          refine ⟨g1, (k, sv) :: R', by rw [tkL_cons ht, h1], fun x hx => ?_, Nat.succ_le_succ h3⟩
          rcases List.mem_cons.mp hx with rfl | hx
          · exact List.mem_cons_self
          · exact List.mem_cons_of_mem _ (h2 x hx)
        · exact fin
/-- the END is found -/
theorem gbN_end {x0 : Int32} {sv0 : Sv} (hs0 : sv0 0 = x0) (hm : mayB len how p = true) (hlo : lo = false → accB K V F S len u L al p 0 = true) : ∀ (R : List (Nat × Sv)) (best : Option (Nat × Sv)), (∀ x ∈ R, x.1 = 0 → ¬ x.2 0 < x0) → R.Pairwise (fun x y => x.1 ≠ y.1) → bok x0 best → R.find? (fun x => accB K V F S len u L al p x.1) = some (0, sv0) →
    (gbN K V F len u how lo sk p R best).1 = some (p, sv0) ∧ ∃ R', (gbN K V F len u how lo sk p R best).2 = tkL K V F len u p R' ∧ (∀ x ∈ R', x ∈ R) ∧ R'.length ≤ R.length ∧ (lo = false → R'.find? (fun x => accB K V F S len u L al p x.1) = none) := by
  intro R
  induction R with
  | nil => intro best _ _ _ h; cases h
  | cons y r ih =>
    obtain ⟨k, sv⟩ := y
    intro best hR hnd hb h
    have hr : ∀ x ∈ r, x.1 = 0 → ¬ x.2 0 < x0 := fun x hx => hR x (List.mem_cons_of_mem _ hx)
    obtain ⟨hnd1, hnd2⟩ := List.pairwise_cons.mp hnd
    rw [List.find?_cons] at h
    have hfound : accB K V F S len u L al p k = true → k = 0 ∧ sv = sv0 := fun ha => by
      simp [ha] at h; exact h
    have up : accB K V F S len u L al p k = false → (gbN K V F len u how lo sk p r best).1 = some (p, sv0) ∧ ∃ R', (gbN K V F len u how lo sk p r best).2 = tkL K V F len u p R' ∧ (∀ x ∈ R', x ∈ (k, sv) :: r) ∧ R'.length ≤ ((k, sv) :: r).length ∧ (lo = false → R'.find? (fun x => accB K V F S len u L al p x.1) = none) := by
      intro hna
      obtain ⟨g1, R', h1, h2, h3, h4⟩ := ih best hr hnd2 hb (by simpa [hna] using h)
      exact ⟨g1, R', h1, fun x hx => List.mem_cons_of_mem _ (h2 x hx), Nat.le_trans h3 (Nat.le_succ _), h4⟩
    rw [gbN]
    split
    · rename_i hsk
      refine up ?_
      cases ha : accB K V F S len u L al p k with
      | false => rfl
      | true =>
        obtain ⟨rfl, rfl⟩ := hfound ha
        rw [bok_sk hb hs0, Bool.and_false] at hsk; cases hsk
    · split
      · rename_i hk
        cases ha : accB K V F S len u L al p k with
        | true =>
          obtain ⟨-, rfl⟩ := hfound ha
          split
          · rename_i hl
            obtain ⟨g1, R', h1, h2, h3⟩ := gbN_keep (K := K) (V := V) (F := F) (len := len) (u := u) (how := how) (lo := lo) (sk := sk) (p := p) r (some (p, sv)) (fun x hx h1 => absurd (hk.trans h1.symm) (hnd1 x hx))
            exact ⟨g1, R', h1, fun x hx => List.mem_cons_of_mem _ (h2 x hx), Nat.le_trans h3 (Nat.le_succ _), fun h => by rw [hl] at h; cases h⟩
          · exact ⟨rfl, [], rfl, fun x hx => by (cases hx), Nat.zero_le _, fun _ => rfl⟩
        | false =>
          have h' : r.find? (fun x => accB K V F S len u L al p x.1) = some (0, sv0) := by simpa [ha] using h
          obtain ⟨x, hx⟩ : ∃ x ∈ r, x.1 = 0 := ⟨(0, sv0), List.mem_of_find?_eq_some h', rfl⟩
          exact absurd (hk.trans hx.2.symm) (hnd1 x hx.1)
      · rename_i hk
        have hna : accB K V F S len u L al p k = false := by
          cases ha : accB K V F S len u L al p k with
          | false => rfl
          | true => exact absurd (hfound ha).1 hk
        split
        · rename_i ht
          obtain ⟨g1, R', h1, h2, h3, h4⟩ := ih best hr hnd2 hb (by simpa [hna] using h)
          refine ⟨g1, (k, sv) :: R', by rw [tkL_cons ht, h1], fun x hx => ?_, Nat.succ_le_succ h3, fun hl => by rw [List.find?_cons, hna]; exact h4 hl⟩
          rcases List.mem_cons.mp hx with rfl | hx
          · exact List.mem_cons_self
          · exact List.mem_cons_of_mem _ (h2 x hx)
        · exact up hna
end PK3
