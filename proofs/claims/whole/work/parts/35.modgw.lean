/-! The reference's walk, as mathematics: at a place the first step in order from which the END can be come to; then on. -/
abbrev Sv : Type := Nat → Int32
noncomputable def canB (K V F S : Nat → Nat) (len : Nat) (u : Nat → Nat) (L : Nat) (al : Bool) (p k : Nat) : Bool := @decide (Can K V F S len u L al p k) (Classical.propDecidable _)
theorem canB_iff {K V F S : Nat → Nat} {len : Nat} {u : Nat → Nat} {L : Nat} {al : Bool} {p k : Nat} : canB K V F S len u L al p k = true ↔ Can K V F S len u L al p k := @decide_eq_true_iff _ (Classical.propDecidable _)
def svk (K V : Nat → Nat) (p k : Nat) (sv : Sv) : Sv := if K k = 3 then upd sv (V k) (nI p) else sv
def psh (K F S : Nat → Nat) (k : Nat) (sv : Sv) (r : List (Nat × Sv)) : List (Nat × Sv) := (F k, sv) :: (if K k = 2 then (S k, sv) :: r else r)
def endB (L : Nat) (al : Bool) (p : Nat) : Bool := decide (p = L) || !al
noncomputable def goB (K V F S : Nat → Nat) (len : Nat) (u : Nat → Nat) (L : Nat) (al : Bool) (p k : Nat) : Bool := decide (p < L) && canB K V F S len u L al (p + 1) (F k)
noncomputable def plN (K V F S : Nat → Nat) (len : Nat) (u : Nat → Nat) (L : Nat) (al : Bool) (p : Nat) : Nat → List (Nat × Sv) → (Nat → Bool) → Option (Nat × Sv)
  | 0, _, _ => none
  | _ + 1, [], _ => none
  | m + 1, (k, sv) :: r, seen =>
    if seen k = true then plN K V F S len u L al p m r seen
    else if k = 0 then (if endB L al p = true then some (0, sv) else plN K V F S len u L al p m r (ub seen k true))
    else if takB K V len u k p = true then (if goB K V F S len u L al p k = true then some (k, sv) else plN K V F S len u L al p m r (ub seen k true))
    else if pasB K V len u k p = true then plN K V F S len u L al p m (psh K F S k (svk K V p k sv) r) (ub seen k true)
    else plN K V F S len u L al p m r (ub seen k true)
/-- one place after the other -/
noncomputable def gwN (K V F S : Nat → Nat) (len : Nat) (u : Nat → Nat) (L : Nat) (al : Bool) (n : Nat) : Nat → Nat → Nat → Sv → Option (Nat × Sv)
  | 0, _, _, _ => none
  | m + 1, p, a, sv => match plN K V F S len u L al p (2 * n + 2) [(a, sv)] (fun _ => false) with
    | none => none
    | some (k, sv1) => if k = 0 then some (p, sv1) else gwN K V F S len u L al n m (p + 1) (F k) sv1
def cnF (n : Nat) (f : Nat → Bool) : Nat := (List.range n).countP (fun k => !f k)
theorem cnF_ub {n k : Nat} {f : Nat → Bool} (hk : k < n) (h : f k = false) : cnF n (ub f k true) + 1 = cnF n f := by
  have key : ∀ m, (List.range m).countP (fun j => !ub f k true j) + (if k < m then 1 else 0) = (List.range m).countP (fun j => !f j) := by
    intro m
    induction m with
    | zero => simp
    | succ m ih =>
      rw [List.range_succ, List.countP_append, List.countP_append, ← ih]
      by_cases hm : m = k
      · subst hm
        simp [ub_s, h]
      · have h1 : ub f k true m = f m := ub_n (by omega)
        by_cases h2 : k < m
        · simp [h1, h2, Nat.lt_succ_of_lt h2]; omega
        · have h3 : ¬ k < m + 1 := by omega
          simp [h1, h2, h3]
  have := key n
  rw [if_pos hk] at this
  exact this
theorem cnF_le (n : Nat) (f : Nat → Bool) : cnF n f ≤ n := by
  unfold cnF
  have := List.countP_le_length (p := fun k => !f k) (l := List.range n)
  simpa using this
theorem cnF_all {n : Nat} {f : Nat → Bool} (h : ∀ k, k < n → f k = false) : cnF n f = n := by
  unfold cnF
  rw [List.countP_eq_length.mpr]
  · simp
  · intro k hk; simp [h k (List.mem_range.mp hk)]
section PL
variable {K V F S : Nat → Nat} {len : Nat} {u : Nat → Nat} {L : Nat} {al : Bool} {p n : Nat}
/-- a step at which the walk goes on or ends -/
def Acc (K V F S : Nat → Nat) (len : Nat) (u : Nat → Nat) (L : Nat) (al : Bool) (p k : Nat) : Prop := (k = 0 ∧ endB L al p = true) ∨ (takB K V len u k p = true ∧ goB K V F S len u L al p k = true)
theorem plN_some : ∀ (m : Nat) (st : List (Nat × Sv)) (seen : Nat → Bool) (k : Nat) (sv : Sv), plN K V F S len u L al p m st seen = some (k, sv) → Acc K V F S len u L al p k := by
  intro m
  induction m with
  | zero => intro st seen k sv h; simp [plN] at h
  | succ m ih =>
    intro st seen k sv h
    match st with
    | [] => simp [plN] at h
    | (k1, sv1) :: r =>
      rw [plN] at h
      split at h
      · exact ih _ _ _ _ h
      · split at h
        · split at h
          · rename_i h1 h2; cases h; exact Or.inl ⟨rfl, h2⟩
          · exact ih _ _ _ _ h
        · split at h
          · split at h
            · rename_i h2 h3; cases h; exact Or.inr ⟨h2, h3⟩
            · exact ih _ _ _ _ h
          · split at h
            · exact ih _ _ _ _ h
            · exact ih _ _ _ _ h
/-- a set of steps that leads to no END at this place -/
def Ded (K V F S : Nat → Nat) (len : Nat) (u : Nat → Nat) (L : Nat) (al : Bool) (p : Nat) (X : Nat → Prop) : Prop := ∀ k, X k → ¬ Acc K V F S len u L al p k ∧ (pasB K V len u k p = true → X (F k) ∧ (K k = 2 → X (S k)))
theorem Ded_Can {X : Nat → Prop} (h : Ded K V F S len u L al p X) : ∀ k, X k → ¬ Can K V F S len u L al p k := by
  have key : ∀ m k, X k → canN K V F S len u L al m p k = true → False := by
    intro m
    induction m with
    | zero => intro k _ hc; simp [canN] at hc
    | succ m ih =>
      intro k hk hc
      obtain ⟨h1, h2⟩ := h k hk
      by_cases h0 : k = 0
      · subst h0
        exact h1 (Or.inl ⟨rfl, by simpa [canN, endB] using hc⟩)
      · cases ht : takB K V len u k p with
        | true =>
          have h3 := (Can_t ht).mp ⟨m + 1, hc⟩
          exact h1 (Or.inr ⟨ht, by simp [goB, h3.1, canB_iff.mpr h3.2]⟩)
        | false =>
          cases hp : pasB K V len u k p with
          | false => exact Can_n h0 ht hp ⟨m + 1, hc⟩
          | true =>
            simp [canN, h0, ht, hp] at hc
            rcases hc with hc | hc
            · exact ih _ (h2 hp).1 hc
            · exact ih _ ((h2 hp).2 hc.1) hc.2
  intro k hk ⟨m, hm⟩
  exact key m k hk hm
/-- all that has been seen is done with: it ends nowhere, and what follows it has been seen or waits -/
def Dne (K V F S : Nat → Nat) (len : Nat) (u : Nat → Nat) (L : Nat) (al : Bool) (p : Nat) (st : List (Nat × Sv)) (seen : Nat → Bool) : Prop := ∀ k, seen k = true → ¬ Acc K V F S len u L al p k ∧ (pasB K V len u k p = true → (seen (F k) = true ∨ ∃ x ∈ st, x.1 = F k) ∧ (K k = 2 → (seen (S k) = true ∨ ∃ x ∈ st, x.1 = S k)))
theorem Dne_pop {k : Nat} {sv : Sv} {r : List (Nat × Sv)} {seen : Nat → Bool} (hs : seen k = true) (h : Dne K V F S len u L al p ((k, sv) :: r) seen) : Dne K V F S len u L al p r seen := by
  intro j hj
  obtain ⟨h1, h2⟩ := h j hj
  refine ⟨h1, fun hp => ⟨?_, fun h3 => ?_⟩⟩
  · rcases (h2 hp).1 with h4 | ⟨x, hx, hx2⟩
    · exact Or.inl h4
    · rcases List.mem_cons.mp hx with rfl | hx
      · exact Or.inl (by rw [← hx2]; exact hs)
      · exact Or.inr ⟨x, hx, hx2⟩
  · rcases (h2 hp).2 h3 with h4 | ⟨x, hx, hx2⟩
    · exact Or.inl h4
    · rcases List.mem_cons.mp hx with rfl | hx
      · exact Or.inl (by rw [← hx2]; exact hs)
      · exact Or.inr ⟨x, hx, hx2⟩
theorem Dne_see {k : Nat} {sv : Sv} {r st : List (Nat × Sv)} {seen : Nat → Bool} (hst : ∀ x ∈ r, x ∈ st) (hn : ¬ Acc K V F S len u L al p k) (hp : pasB K V len u k p = true → (∃ x ∈ st, x.1 = F k) ∧ (K k = 2 → ∃ x ∈ st, x.1 = S k)) (h : Dne K V F S len u L al p ((k, sv) :: r) seen) : Dne K V F S len u L al p st (ub seen k true) := by
  have up : ∀ t, seen t = true ∨ (∃ x ∈ (k, sv) :: r, x.1 = t) → ub seen k true t = true ∨ ∃ x ∈ st, x.1 = t := by
    intro t ht
    by_cases htk : t = k
    · exact Or.inl (by rw [htk, ub_s])
    · rcases ht with ht | ⟨x, hx, hx2⟩
      · exact Or.inl (by rw [ub_n htk]; exact ht)
      · rcases List.mem_cons.mp hx with rfl | hx
        · exact absurd hx2.symm htk
        · exact Or.inr ⟨x, hst x hx, hx2⟩
  intro j hj
  by_cases hjk : j = k
  · subst hjk
    exact ⟨hn, fun h1 => ⟨Or.inr (hp h1).1, fun h2 => Or.inr ((hp h1).2 h2)⟩⟩
  · rw [ub_n hjk] at hj
    obtain ⟨h1, h2⟩ := h j hj
    exact ⟨h1, fun h3 => ⟨up _ (h2 h3).1, fun h4 => up _ ((h2 h3).2 h4)⟩⟩
theorem mem_psh {k : Nat} {sv : Sv} {r : List (Nat × Sv)} : ∀ x ∈ r, x ∈ psh K F S k sv r := by
  intro x hx
  unfold psh
  split
  · exact List.mem_cons_of_mem _ (List.mem_cons_of_mem _ hx)
  · exact List.mem_cons_of_mem _ hx
theorem psh_lt {k : Nat} {sv : Sv} {r : List (Nat × Sv)} (hF : F k < n) (hS : K k = 2 → S k < n) (h : ∀ x ∈ r, x.1 < n) : ∀ x ∈ psh K F S k sv r, x.1 < n := by
  intro x hx
  unfold psh at hx
  split at hx
  · rename_i h2
    rcases List.mem_cons.mp hx with rfl | hx
    · exact hF
    · rcases List.mem_cons.mp hx with rfl | hx
      · exact hS h2
      · exact h x hx
  · rcases List.mem_cons.mp hx with rfl | hx
    · exact hF
    · exact h x hx
theorem psh_len {k : Nat} {sv : Sv} {r : List (Nat × Sv)} : (psh K F S k sv r).length ≤ r.length + 2 := by
  unfold psh; split <;> simp
/-- if nothing is found, all that was come to is dead -/
theorem plN_none (hF : ∀ i, 0 < i → i < n → (K i = 2 ∨ K i = 3 ∨ K i = 4) → F i < n) (hS : ∀ i, 0 < i → i < n → K i = 2 → S i < n) : ∀ (m : Nat) (st : List (Nat × Sv)) (seen : Nat → Bool), 2 * cnF n seen + st.length < m → (∀ x ∈ st, x.1 < n) → Dne K V F S len u L al p st seen → plN K V F S len u L al p m st seen = none → ∃ X : Nat → Prop, Ded K V F S len u L al p X ∧ (∀ k, seen k = true → X k) ∧ ∀ x ∈ st, X x.1 := by
  intro m
  induction m with
  | zero => intro st seen hm; omega
  | succ m ih =>
    intro st seen hm hlt hd h
    match st, hlt, hd, hm, h with
    | [], _, hd, _, _ =>
      refine ⟨fun k => seen k = true, fun k hk => ?_, fun k hk => hk, fun x hx => by cases hx⟩
      obtain ⟨h1, h2⟩ := hd k hk
      refine ⟨h1, fun h3 => ⟨?_, fun h4 => ?_⟩⟩
      · rcases (h2 h3).1 with h5 | ⟨x, hx, _⟩
        · exact h5
        · cases hx
      · rcases (h2 h3).2 h4 with h5 | ⟨x, hx, _⟩
        · exact h5
        · cases hx
    | (k, sv) :: r, hlt, hd, hm, h =>
      have hkn : k < n := hlt (k, sv) List.mem_cons_self
      have hrn : ∀ x ∈ r, x.1 < n := fun x hx => hlt x (List.mem_cons_of_mem _ hx)
      have hlen : ((k, sv) :: r).length = r.length + 1 := rfl
      rw [plN] at h
      by_cases hs : seen k = true
      · rw [if_pos hs] at h
        obtain ⟨X, hX, h1, h2⟩ := ih r seen (by omega) hrn (Dne_pop hs hd) h
        exact ⟨X, hX, h1, fun x hx => by
          rcases List.mem_cons.mp hx with rfl | hx
          · exact h1 k hs
          · exact h2 x hx⟩
      · rw [if_neg hs] at h
        have hs0 : seen k = false := by simpa using hs
        have hc := cnF_ub (n := n) hkn hs0
        have fin : ∀ st2 : List (Nat × Sv), (∀ x ∈ r, x ∈ st2) → st2.length ≤ r.length + 2 → (∀ x ∈ st2, x.1 < n) → ¬ Acc K V F S len u L al p k → (pasB K V len u k p = true → (∃ x ∈ st2, x.1 = F k) ∧ (K k = 2 → ∃ x ∈ st2, x.1 = S k)) → plN K V F S len u L al p m st2 (ub seen k true) = none → ∃ X : Nat → Prop, Ded K V F S len u L al p X ∧ (∀ k, seen k = true → X k) ∧ ∀ x ∈ (k, sv) :: r, X x.1 := by
          intro st2 h1 h2 h3 h4 h5 h6
          obtain ⟨X, hX, g1, g2⟩ := ih st2 (ub seen k true) (by omega) h3 (Dne_see h1 h4 h5 hd) h6
          have gk : X k := g1 k ub_s
          refine ⟨X, hX, fun j hj => ?_, fun x hx => ?_⟩
          · by_cases hjk : j = k
            · subst hjk; exact gk
            · exact g1 j (by rw [ub_n hjk]; exact hj)
          · rcases List.mem_cons.mp hx with rfl | hx
            · exact gk
            · exact g2 x (h1 x hx)
        by_cases h0 : k = 0
        · rw [if_pos h0] at h
          split at h
          · cases h
          · rename_i h1
            have ht : takB K V len u k p = false := by
              cases hq : takB K V len u k p with
              | false => rfl
              | true => have := (takB_K hq).1; omega
            have hpp : pasB K V len u k p = false := by
              cases hq : pasB K V len u k p with
              | false => rfl
              | true => have := (pasB_K hq).1; omega
            exact fin r (fun x hx => hx) (by omega) hrn (fun ha => by
              rcases ha with ⟨_, ha⟩ | ⟨ha, _⟩
              · exact h1 ha
              · rw [ht] at ha; cases ha) (fun ha => by rw [hpp] at ha; cases ha) h
        · rw [if_neg h0] at h
          by_cases ht : takB K V len u k p = true
          · rw [if_pos ht] at h
            split at h
            · cases h
            · rename_i h1
              exact fin r (fun x hx => hx) (by omega) hrn (fun ha => by
                rcases ha with ⟨ha, _⟩ | ⟨_, ha⟩
                · exact h0 ha
                · exact h1 ha) (fun ha => by rw [tak_pas ht] at ha; cases ha) h
          · rw [if_neg ht] at h
            have hna : ¬ Acc K V F S len u L al p k := fun ha => by
              rcases ha with ⟨ha, _⟩ | ⟨ha, _⟩
              · exact h0 ha
              · exact ht ha
            by_cases hp : pasB K V len u k p = true
            · rw [if_pos hp] at h
              have hKp := (pasB_K hp).2
              refine fin _ mem_psh psh_len (psh_lt (hF k (by omega) hkn hKp) (fun h2 => hS k (by omega) hkn h2) hrn) hna (fun _ => ⟨⟨(F k, svk K V p k sv), List.mem_cons_self, rfl⟩, fun h2 => ⟨(S k, svk K V p k sv), ?_, rfl⟩⟩) h
              unfold psh
              rw [if_pos h2]
              exact List.mem_cons_of_mem _ List.mem_cons_self
            · rw [if_neg hp] at h
              exact fin r (fun x hx => hx) (by omega) hrn hna (fun ha => absurd ha hp) h
theorem plN_can (hF : ∀ i, 0 < i → i < n → (K i = 2 ∨ K i = 3 ∨ K i = 4) → F i < n) (hS : ∀ i, 0 < i → i < n → K i = 2 → S i < n) {a : Nat} {sv : Sv} (ha : a < n) (hc : Can K V F S len u L al p a) : ∃ x, plN K V F S len u L al p (2 * n + 2) [(a, sv)] (fun _ => false) = some x := by
  cases h : plN K V F S len u L al p (2 * n + 2) [(a, sv)] (fun _ => false) with
  | some x => exact ⟨x, rfl⟩
  | none =>
    have h1 : cnF n (fun _ => false) = n := cnF_all (fun _ _ => rfl)
    obtain ⟨X, hX, _, h3⟩ := plN_none (n := n) hF hS _ _ _ (by rw [h1]; simp) (fun x hx => by rw [List.mem_singleton.mp hx]; exact ha) (fun k hk => by cases hk) h
    exact absurd hc (Ded_Can hX a (h3 _ List.mem_cons_self))
/-- what was seen beyond the program's steps doesn't matter -/
theorem plN_congr (hF : ∀ i, 0 < i → i < n → (K i = 2 ∨ K i = 3 ∨ K i = 4) → F i < n) (hS : ∀ i, 0 < i → i < n → K i = 2 → S i < n) : ∀ (m : Nat) (st : List (Nat × Sv)) (s1 s2 : Nat → Bool), (∀ k, k < n → s1 k = s2 k) → (∀ x ∈ st, x.1 < n) → plN K V F S len u L al p m st s1 = plN K V F S len u L al p m st s2 := by
  intro m
  induction m with
  | zero => intro st s1 s2 _ _; rfl
  | succ m ih =>
    intro st s1 s2 hs hlt
    match st, hlt with
    | [], _ => rfl
    | (k, sv) :: r, hlt =>
      have hkn : k < n := hlt (k, sv) List.mem_cons_self
      have hrn : ∀ x ∈ r, x.1 < n := fun x hx => hlt x (List.mem_cons_of_mem _ hx)
      have hu : ∀ j, j < n → ub s1 k true j = ub s2 k true j := fun j hj => by
        by_cases hjk : j = k
        · subst hjk; rw [ub_s, ub_s]
        · rw [ub_n hjk, ub_n hjk]; exact hs j hj
      rw [plN, plN, hs k hkn, ih r s1 s2 hs hrn, ih r _ _ hu hrn]
      by_cases hp : pasB K V len u k p = true
      · have hKp := (pasB_K hp)
        rw [ih _ _ _ hu (psh_lt (hF k hKp.1 hkn hKp.2) (fun h2 => hS k hKp.1 hkn h2) hrn)]
      · simp only [if_neg hp]
end PL
