/-! The run with marks answers as the reference. -/
def gtB (best : Option (Nat × Sv)) (q : Nat) : Bool := match best with
  | none => true
  | some (e, _) => decide (e < q)
def dfN (ch : Nd2 → Sv → List (Nd2 × Sv)) (len how : Nat) (lo : Bool) : Nat → List (Nd2 × Sv) → (Nd2 → Bool) → Option (Nat × Sv) → Option (Nat × Sv) × (Nd2 → Bool)
  | 0, _, T, best => (best, T)
  | _ + 1, [], T, best => (best, T)
  | m + 1, (x, sv) :: r, T, best =>
    if T x = true then dfN ch len how lo m r T best
    else if x.2 = 0 then
      (if (if (mayB len how x.1 && gtB best x.1) = true then some (x.1, sv) else best) ≠ none ∧ lo = false then ((if (mayB len how x.1 && gtB best x.1) = true then some (x.1, sv) else best), uv T x)
      else dfN ch len how lo m r (uv T x) (if (mayB len how x.1 && gtB best x.1) = true then some (x.1, sv) else best))
    else dfN ch len how lo m (ch x sv ++ r) (uv T x) best
def mrN (ch : Nd2 → Sv → List (Nd2 × Sv)) (len how b M : Nat) (lo : Bool) : Nat → Nat → (Nd2 → Bool) → Option (Nat × Sv)
  | 0, _, _ => none
  | m + 1, p, T => match (dfN ch len how lo M [((p, b), svB p)] T none).1 with
    | some q => some q
    | none => mrN ch len how b M lo m (p + 1) (dfN ch len how lo M [((p, b), svB p)] T none).2
theorem Nd_all (n : Nat) : ∀ m : Nat, ∃ N : List Nd2, N.Nodup ∧ N.length = m * n ∧ ∀ q k, (q, k) ∈ N ↔ (q < m ∧ k < n) := by
  intro m
  induction m with
  | zero => exact ⟨[], List.nodup_nil, by simp, fun q k => by simp⟩
  | succ m ih =>
    obtain ⟨N, h1, h0, h2⟩ := ih
    refine ⟨N ++ (List.range n).map (fun k => (m, k)), List.nodup_append.mpr ⟨h1, ?_, ?_⟩, by rw [List.length_append, h0]; simp [Nat.succ_mul], fun q k => ?_⟩
    · refine List.Pairwise.map _ (fun a b hab e => hab (congrArg Prod.snd e)) List.nodup_range
    · intro a ha c hc e
      obtain ⟨k, -, rfl⟩ := List.mem_map.mp hc
      subst e
      have := ((h2 m k).mp ha).1
      omega
    · rw [List.mem_append, h2, List.mem_map]
      constructor
      · rintro (h | ⟨k', hk', e⟩)
        · exact ⟨by omega, h.2⟩
        · cases e
          exact ⟨by omega, List.mem_range.mp hk'⟩
      · rintro ⟨h3, h4⟩
        rcases Nat.lt_succ_iff_lt_or_eq.mp h3 with h | h
        · exact Or.inl ⟨h, h4⟩
        · exact Or.inr ⟨k, List.mem_range.mpr h4, by rw [h]⟩
section MR
variable {K V F S : Nat → Nat} {len : Nat} {u : Nat → Nat} {L : Nat} {al : Bool} {p n b how fr : Nat} {lo : Bool} {N : List Nd2}
theorem chG_0 (q : Nat) (sv : Sv) : chG K V F S len u (q, 0) sv = [] := by
  unfold chG
  have h1 : ¬ takB K V len u 0 q = true := fun h => by have := (takB_K h).1; omega
  have h2 : ¬ pasB K V len u 0 q = true := fun h => by have := (pasB_K h).1; omega
  rw [if_neg h1, if_neg h2]
/-- dead ways: nothing is found, what is marked is dead -/
theorem df_dead : ∀ (m : Nat) (st : List (Nd2 × Sv)) (T : Nd2 → Bool) (best : Option (Nat × Sv)), (∀ x ∈ st, ¬ Can K V F S len u len (decide (how = 2)) x.1.1 x.1.2) → (dfN (chG K V F S len u) len how lo m st T best).1 = best ∧ ∀ x, (dfN (chG K V F S len u) len how lo m st T best).2 x = true → T x = true ∨ ¬ Can K V F S len u len (decide (how = 2)) x.1 x.2 := by
  intro m
  induction m with
  | zero => intro st T best _; exact ⟨rfl, fun x h => Or.inl h⟩
  | succ m ih =>
    intro st T best hst
    match st, hst with
    | [], _ => exact ⟨rfl, fun x h => Or.inl h⟩
    | (x, sv) :: r, hst =>
      have hx : ¬ Can K V F S len u len (decide (how = 2)) x.1 x.2 := hst (x, sv) List.mem_cons_self
      have hr : ∀ y ∈ r, ¬ Can K V F S len u len (decide (how = 2)) y.1.1 y.1.2 := fun y hy => hst y (List.mem_cons_of_mem _ hy)
      have hu : ∀ y, uv T x y = true → T y = true ∨ ¬ Can K V F S len u len (decide (how = 2)) y.1 y.2 := fun y hy => by
        by_cases h : y = x
        · subst h; exact Or.inr hx
        · rw [uv_n h] at hy; exact Or.inl hy
      have fin : ∀ t, (∀ y ∈ t, ¬ Can K V F S len u len (decide (how = 2)) y.1.1 y.1.2) → (dfN (chG K V F S len u) len how lo m t (uv T x) best).1 = best ∧ ∀ y, (dfN (chG K V F S len u) len how lo m t (uv T x) best).2 y = true → T y = true ∨ ¬ Can K V F S len u len (decide (how = 2)) y.1 y.2 := fun t ht => by
        obtain ⟨g1, g2⟩ := ih t (uv T x) best ht
        refine ⟨g1, fun y hy => ?_⟩
        rcases g2 y hy with h | h
        · exact hu y h
        · exact Or.inr h
      rw [dfN]
      split
      · exact ih r T best hr
      · split
        · rename_i h0
          have hm : mayB len how x.1 = false := by
            cases h : mayB len how x.1 with
            | false => rfl
            | true => exact absurd (by rw [h0]; exact mayB_Can h) hx
          have e : (if (mayB len how x.1 && gtB best x.1) = true then some (x.1, sv) else best) = best := by rw [hm]; rfl
          rw [e]
          split
          · exact ⟨rfl, hu⟩
          · exact fin r hr
        · refine fin _ (fun y hy => ?_)
          rcases List.mem_append.mp hy with h | h
          · unfold chG at h
            split at h
            · rename_i ht
              rw [List.mem_singleton.mp h]
              exact fun hc => hx ((Can_t ht).mpr ⟨(takB_K ht).2.2.1, hc⟩)
            · split at h
              · rename_i hp
                obtain ⟨z, hz, rfl⟩ := List.mem_map.mp h
                intro hc
                unfold psh at hz
                split at hz
                · rename_i h2
                  rcases List.mem_cons.mp hz with rfl | hz
                  · exact hx ((Can_p hp).mpr (Or.inl hc))
                  · rw [List.mem_singleton.mp hz] at hc
                    exact hx ((Can_p hp).mpr (Or.inr ⟨h2, hc⟩))
                · rw [List.mem_singleton.mp hz] at hc
                  exact hx ((Can_p hp).mpr (Or.inl hc))
              · cases h
          · exact hr y h
/-- where the first counts -/
theorem df_first : ∀ (m : Nat) (st : List (Nd2 × Sv)) (T : Nd2 → Bool) (e : Nat) (sv1 : Sv), gdN (chG K V F S len u) (tgB len (decide (how = 2))) m st T = some ((e, 0), sv1) → (dfN (chG K V F S len u) len how false m st T none).1 = some (e, sv1) := by
  intro m
  induction m with
  | zero => intro st T e sv1 h; simp [gdN] at h
  | succ m ih =>
    intro st T e sv1 h
    match st with
    | [] => simp [gdN] at h
    | (x, sv) :: r =>
      rw [gdN] at h
      rw [dfN]
      split at h
      · rename_i hs; rw [if_pos hs]; exact ih _ _ _ _ h
      · rename_i hs
        rw [if_neg hs]
        have hmt : x.2 = 0 → (tgB len (decide (how = 2)) x = mayB len how x.1) := fun h0 => by
          simp only [tgB, h0, decide_true, Bool.true_and, endB, mayB]
          by_cases h2 : how = 2 <;> by_cases h3 : x.1 = len <;> simp [h2, h3]
        split at h
        · rename_i ha
          have h0 : x.2 = 0 := by simp only [tgB, Bool.and_eq_true, decide_eq_true_eq] at ha; exact ha.1
          rw [if_pos h0, ← hmt h0, ha]
          cases h
          simp [gtB]
        · rename_i ha
          by_cases h0 : x.2 = 0
          · have hm : mayB len how x.1 = false := by rw [← hmt h0]; simpa using ha
            obtain ⟨q, k⟩ := x
            have h0' : k = 0 := h0
            subst h0'
            rw [if_pos rfl, hm]
            rw [chG_0] at h
            simpa using ih _ _ _ _ h
          · rw [if_neg h0]; exact ih _ _ _ _ h
/-- where the longest counts: the longest has been found -/
theorem df_keep {Q : Nd2 → Prop} (hQ : ∀ x, Q x → (∀ sv, ∀ y ∈ chG K V F S len u x sv, Q y.1) ∧ (x.2 = 0 → mayB len how x.1 = true → x.1 ≤ L)) {sv1 : Sv} : ∀ (m : Nat) (st : List (Nd2 × Sv)) (T : Nd2 → Bool), (∀ x ∈ st, Q x.1) → (dfN (chG K V F S len u) len how true m st T (some (L, sv1))).1 = some (L, sv1) := by
  intro m
  induction m with
  | zero => intro st T _; rfl
  | succ m ih =>
    intro st T hst
    match st, hst with
    | [], _ => rfl
    | (x, sv) :: r, hst =>
      have hx : Q x := hst (x, sv) List.mem_cons_self
      have hr : ∀ y ∈ r, Q y.1 := fun y hy => hst y (List.mem_cons_of_mem _ hy)
      rw [dfN]
      split
      · exact ih r T hr
      · split
        · rename_i h0
          have e : (if (mayB len how x.1 && gtB (some (L, sv1)) x.1) = true then some (x.1, sv) else some (L, sv1)) = some (L, sv1) := by
            refine if_neg (fun h => ?_)
            simp only [Bool.and_eq_true, gtB, decide_eq_true_eq] at h
            have := (hQ x hx).2 h0 h.1
            omega
          rw [e, if_neg (fun h => by cases h.2)]
          exact ih r _ hr
        · refine ih _ _ (fun y hy => ?_)
          rcases List.mem_append.mp hy with h | h
          · exact (hQ x hx).1 sv y h
          · exact hr y h
theorem df_longest {Q : Nd2 → Prop} (hQ : ∀ x, Q x → (∀ sv, ∀ y ∈ chG K V F S len u x sv, Q y.1) ∧ (x.2 = 0 → mayB len how x.1 = true → x.1 ≤ L)) (hL : mayB len how L = true) : ∀ (m : Nat) (st : List (Nd2 × Sv)) (T : Nd2 → Bool) (best : Option (Nat × Sv)) (e : Nat) (sv1 : Sv), (∀ x ∈ st, Q x.1) → (∀ q, best = some q → q.1 < L) → gdN (chG K V F S len u) (tgB L true) m st T = some ((e, 0), sv1) → (dfN (chG K V F S len u) len how true m st T best).1 = some (L, sv1) := by
  intro m
  induction m with
  | zero => intro st T best e sv1 _ _ h; simp [gdN] at h
  | succ m ih =>
    intro st T best e sv1 hst hb h
    match st, hst, h with
    | [], _, h => simp [gdN] at h
    | (x, sv) :: r, hst, h =>
      have hx : Q x := hst (x, sv) List.mem_cons_self
      have hr : ∀ y ∈ r, Q y.1 := fun y hy => hst y (List.mem_cons_of_mem _ hy)
      rw [gdN] at h
      rw [dfN]
      split at h
      · rename_i hs; rw [if_pos hs]; exact ih _ _ _ _ _ hr hb h
      · rename_i hs
        rw [if_neg hs]
        split at h
        · rename_i ha
          simp only [tgB, endB, Bool.and_eq_true, decide_eq_true_eq, Bool.not_true, Bool.or_false] at ha
          cases h
          have hg : gtB best L = true := by
            cases hbq : best with
            | none => rfl
            | some q => obtain ⟨e1, s1⟩ := q; exact decide_eq_true (hb _ hbq)
          have h1 : e = L := ha.2
          have e : (if (mayB len how e && gtB best e) = true then some (e, sv1) else best) = some (L, sv1) := by rw [h1, hL, hg]; rfl
          rw [if_pos rfl, e, if_neg (fun h => by cases h.2)]
          exact df_keep hQ _ _ _ hr
        · rename_i ha
          by_cases h0 : x.2 = 0
          · have hne : x.1 ≠ L := fun h2 => ha (by simp [tgB, endB, h0, h2])
            obtain ⟨q, k⟩ := x
            have h0' : k = 0 := h0
            subst h0'
            rw [chG_0] at h
            rw [if_pos rfl, if_neg (fun h => by cases h.2)]
            refine ih _ _ _ _ _ hr (fun z hz => ?_) (by simpa using h)
            split at hz
            · rename_i hm
              cases hz
              have := (hQ _ hx).2 rfl (by simp only [Bool.and_eq_true] at hm; exact hm.1)
              exact Nat.lt_of_le_of_ne this hne
            · exact hb z hz
          · rw [if_neg h0]
            refine ih _ _ _ _ _ (fun y hy => ?_) hb h
            rcases List.mem_append.mp hy with h | h
            · exact (hQ x hx).1 sv y h
            · exact hr y h
end MR
