/-! The run of the rows of threads: nothing, then the found one, then no more. -/
section PK5
variable {K V F S : Nat → Nat} {len : Nat} {u : Nat → Nat} {L : Nat} {al : Bool} {p n b how fr : Nat} {lo sk : Bool}
/-- what a run stands on -/
def PkH (K V F S : Nat → Nat) (len n b how fr : Nat) : Prop := (∀ i, 0 < i → i < n → (K i = 2 ∨ K i = 3 ∨ K i = 4) → F i < n) ∧ (∀ i, 0 < i → i < n → K i = 2 → S i < n) ∧ (∀ i, 0 < i → i < n → K i = 1 → F i < n) ∧ (∀ k, K k = 3 → V k ≠ 0) ∧ b < n ∧ fr ≤ len ∧ len < 2 ^ 30
/-- the row at a place: its threads, each step but once -/
theorem pk_row (H : PkH K V F S len n b how fr) {st : List (Nat × Sv)} {best : Option (Nat × Sv)} (hp1 : fr ≤ p) (hp2 : p ≤ len) (hst : ∀ x ∈ st, Thr K V F S len u n b how fr p x) :
    (∀ x ∈ rwN K V F S len u p (2 * n + st.length + 2) (st ++ (if best = none ∧ (how = 0 ∨ p = fr) then [(b, svB p)] else [])) (fun _ => false), Thr K V F S len u n b how fr p x) ∧ (rwN K V F S len u p (2 * n + st.length + 2) (st ++ (if best = none ∧ (how = 0 ∨ p = fr) then [(b, svB p)] else [])) (fun _ => false)).Pairwise (fun x y => x.1 ≠ y.1) := by
  obtain ⟨hF, hS, hF1, hV, hb, hfr, hl⟩ := H
  refine ⟨rwN_all (Thr_pass hV hF hS) _ _ _ (fun x hx => ?_), (rwN_nd _ _ _).1⟩
  rcases List.mem_append.mp hx with h | h
  · exact hst x h
  · split at h
    · rename_i hc
      rw [List.mem_singleton.mp h]
      refine Thr_new hb ⟨hp1, hp2, fun h0 => ?_⟩
      rcases hc.2 with h1 | h1
      · exact absurd h1 h0
      · exact h1
    · cases h
/-- a dead row: nothing in it may count -/
theorem pk_dead (H : PkH K V F S len n b how fr) {st : List (Nat × Sv)} {m : Nat} (hst : ∀ x ∈ st, x.1 < n) (hm : 2 * n + st.length < m) (hd : ∀ x ∈ st, ¬ Can K V F S len u len (decide (how = 2)) p x.1) : ∀ x ∈ rwN K V F S len u p m st (fun _ => false), ¬ Can K V F S len u len (decide (how = 2)) p x.1 := by
  refine rwN_all (Pd := fun x => ¬ Can K V F S len u len (decide (how = 2)) p x.1) (fun k sv h hp => ⟨fun hc => h ((Can_p hp).mpr (Or.inl hc)), fun h2 hc => h ((Can_p hp).mpr (Or.inr ⟨h2, hc⟩))⟩) _ _ _ hd
theorem dead_tk {R : List (Nat × Sv)} (h : ∀ x ∈ R, ¬ Can K V F S len u len (decide (how = 2)) p x.1) : ∀ x ∈ tkL K V F len u p R, ¬ Can K V F S len u len (decide (how = 2)) (p + 1) x.1 := by
  intro x hx hc
  obtain ⟨y, hy, h1⟩ := List.mem_filterMap.mp hx
  split at h1
  · rename_i ht
    cases h1
    exact h y hy ((Can_t ht).mpr ⟨(takB_K ht).2.2.1, hc⟩)
  · cases h1
/-- behind the find, where the first counts: dead threads alone -/
theorem pk_done (H : PkH K V F S len n b how fr) : ∀ (m p : Nat) (st : List (Nat × Sv)) (q : Nat × Sv), p + m = len + 1 → (∀ x ∈ st, x.1 < n) → (∀ x ∈ st, ¬ Can K V F S len u len (decide (how = 2)) p x.1) → pkN K V F S len u n b how lo sk fr m p st (some q) = some q := by
  intro m
  induction m with
  | zero => intro p st q _ _ _; rfl
  | succ m ih =>
    intro p st q hm hst hd
    obtain ⟨hF, hS, hF1, hV, hb, hfr, hl⟩ := id H
    rw [pkN]
    have e : (if (some q : Option (Nat × Sv)) = none ∧ (how = 0 ∨ p = fr) then [(b, svB p)] else []) = [] := if_neg (fun h => by cases h.1)
    rw [e, List.append_nil]
    have hR := pk_dead (p := p) (u := u) H hst (show 2 * n + st.length < 2 * n + st.length + 2 by omega) hd
    have hlt := (mkN_le (V := V) (len := len) (u := u) (p := p) hF hS (2 * n + st.length + 2) st (fun _ => false) hst).2
    obtain ⟨g1, R', h1, h2, -⟩ := gbN_keep (K := K) (V := V) (F := F) (u := u) (lo := lo) (sk := sk) (rwN K V F S len u p (2 * n + st.length + 2) st (fun _ => false)) (some q) (fun x hx h0 hmay => by
      have := hR x hx
      rw [h0] at this
      exact absurd (mayB_Can hmay) this)
    rw [g1, h1]
    exact ih (p + 1) _ q (by omega) (tkL_lt hF1 (fun x hx => (hlt x (h2 x hx)).1)) (dead_tk (fun x hx => hR x (h2 x hx)))
/-- behind the find, where the longest counts: what still ends began later -/
theorem pk_doneL (H : PkH K V F S len n b how fr) {p0 e : Nat} {sv : Sv} (hs : sv 0 = nI p0) (hst0 : Start len how fr p0) (hsk : sk = true ∨ how ≠ 0) (hmin : ∀ p1, p1 < p0 → Start len how fr p1 → ¬ Can K V F S len u len (decide (how = 2)) p1 b) (hmax : ∀ p1, Fw K V F S len u p0 b p1 0 → p1 ≤ e) : ∀ (m p : Nat) (st : List (Nat × Sv)), e < p → fr ≤ p → p + m = len + 1 → (∀ x ∈ st, Thr K V F S len u n b how fr p x) → pkN K V F S len u n b how lo sk fr m p st (some (e, sv)) = some (e, sv) := by
  intro m
  induction m with
  | zero => intro p st _ _ _ _; rfl
  | succ m ih =>
    intro p st he hfp hm hst
    obtain ⟨hF, hS, hF1, hV, hb, hfr, hl⟩ := id H
    rw [pkN]
    obtain ⟨hR, -⟩ := pk_row (u := u) H (best := some (e, sv)) hfp (by omega) hst
    obtain ⟨g1, R', h1, h2, -⟩ := gbN_keep (K := K) (V := V) (F := F) (u := u) (lo := lo) (sk := sk) _ (some (e, sv)) (fun x hx h0 hmay => by
      obtain ⟨s, k1, k2, k3⟩ := Thr_Can (hR x hx) (by rw [h0]; exact mayB_Can hmay)
      have hsp : p0 < s := by
        rcases Nat.lt_trichotomy s p0 with h | h | h
        · exact absurd k3 (hmin s h k2)
        · obtain ⟨-, s2, j1, j2, j3⟩ := hR x hx
          have : s2 = s := (nI_eq (by have := j2.2.1; omega) (by have := k2.2.1; omega)).mp (j1.symm.trans k1)
          subst this
          subst h
          rw [h0] at j3
          have := hmax p j3
          omega
        · exact h
      rcases hsk with hsk | hsk
      · rw [hsk, Bool.true_and]
        show decide (sv 0 < x.2 0) = true
        rw [hs, k1]
        exact decide_eq_true (nI_lt hsp (by have := k2.2.1; omega))
      · have q1 := k2.2.2 hsk
        have q2 := hst0.2.2 hsk
        omega)
    rw [g1, h1]
    exact ih (p + 1) _ (by omega) (by omega) (by omega) (Thr_take hF1 (fun x hx => hR x (h2 x hx)))
end PK5
