/-! Rows of threads, as mathematics: all steps in order at a place; the first that leads to the END is the reference's. -/
section PK
variable {K V F S : Nat → Nat} {len : Nat} {u : Nat → Nat} {L : Nat} {al : Bool} {p n : Nat}
noncomputable def accB (K V F S : Nat → Nat) (len : Nat) (u : Nat → Nat) (L : Nat) (al : Bool) (p k : Nat) : Bool := (decide (k = 0) && endB L al p) || (takB K V len u k p && goB K V F S len u L al p k)
/-- all ends and bytes that are come to, in order -/
def rwN (K V F S : Nat → Nat) (len : Nat) (u : Nat → Nat) (p : Nat) : Nat → List (Nat × Sv) → (Nat → Bool) → List (Nat × Sv)
  | 0, _, _ => []
  | _ + 1, [], _ => []
  | m + 1, (k, sv) :: r, seen =>
    if seen k = true then rwN K V F S len u p m r seen
    else if k = 0 ∨ K k = 1 then (k, sv) :: rwN K V F S len u p m r (ub seen k true)
    else if pasB K V len u k p = true then rwN K V F S len u p m (psh K F S k (svk K V p k sv) r) (ub seen k true)
    else rwN K V F S len u p m r (ub seen k true)
theorem plN_rwN : ∀ (m : Nat) (st : List (Nat × Sv)) (seen : Nat → Bool), plN K V F S len u L al p m st seen = (rwN K V F S len u p m st seen).find? (fun x => accB K V F S len u L al p x.1) := by
  intro m
  induction m with
  | zero => intro st seen; rfl
  | succ m ih =>
    intro st seen
    match st with
    | [] => rfl
    | (k, sv) :: r =>
      rw [plN, rwN]
      by_cases hs : seen k = true
      · rw [if_pos hs, if_pos hs]; exact ih _ _
      · rw [if_neg hs, if_neg hs]
        by_cases h0 : k = 0
        · subst h0
          have ht : takB K V len u 0 p = false := by
            cases hq : takB K V len u 0 p with
            | false => rfl
            | true => have := (takB_K hq).1; omega
          rw [if_pos rfl, if_pos (Or.inl rfl), List.find?_cons]
          by_cases he : endB L al p = true
          · simp [accB, he]
          · simp [accB, he, ht, ih]
        · rw [if_neg h0]
          by_cases ht : takB K V len u k p = true
          · have hK := (takB_K ht).2.1
            rw [if_pos ht, if_pos (Or.inr hK), List.find?_cons]
            by_cases hg : goB K V F S len u L al p k = true
            · simp [accB, ht, hg]
            · simp [accB, ht, hg, h0, ih]
          · rw [if_neg ht]
            by_cases hK : K k = 1
            · have hp : ¬ pasB K V len u k p = true := fun h => by have := (pasB_K h).2; omega
              rw [if_neg hp, if_pos (Or.inr hK), List.find?_cons]
              simp [accB, ht, h0, ih]
            · rw [if_neg (by omega : ¬ (k = 0 ∨ K k = 1))]
              by_cases hp : pasB K V len u k p = true
              · rw [if_pos hp, if_pos hp]; exact ih _ _
              · rw [if_neg hp, if_neg hp]; exact ih _ _
/-- the steps from which no END can be come to -/
theorem Ded_no (hpL : ∀ k, Can K V F S len u L al (p + 1) k → p < L ∨ True) : Ded K V F S len u L al p (fun k => ¬ Can K V F S len u L al p k) := by
  intro k hk
  refine ⟨fun ha => hk ?_, fun hp => ?_⟩
  · rcases ha with ⟨rfl, h⟩ | ⟨h1, h2⟩
    · refine (Can_0 p).mpr ?_
      simpa [endB] using h
    · simp only [goB, Bool.and_eq_true, decide_eq_true_eq] at h2
      exact (Can_t h1).mpr ⟨h2.1, canB_iff.mp h2.2⟩
  · constructor
    · exact fun h => hk ((Can_p hp).mpr (Or.inl h))
    · exact fun h2 h => hk ((Can_p hp).mpr (Or.inr ⟨h2, h⟩))
noncomputable def nX (X : Nat → Prop) (x : Nat × Sv) : Bool := @decide (¬ X x.1) (Classical.propDecidable _)
theorem nX_t {X : Nat → Prop} {x : Nat × Sv} (h : ¬ X x.1) : nX X x = true := @decide_eq_true _ (Classical.propDecidable _) h
theorem nX_f {X : Nat → Prop} {x : Nat × Sv} (h : X x.1) : nX X x = false := @decide_eq_false _ (Classical.propDecidable _) (fun z => z h)
/-- one turn at a step that leads nowhere -/
theorem plN_skip (hF : ∀ i, 0 < i → i < n → (K i = 2 ∨ K i = 3 ∨ K i = 4) → F i < n) (hS : ∀ i, 0 < i → i < n → K i = 2 → S i < n) {X : Nat → Prop} (hX : Ded K V F S len u L al p X) {m k : Nat} {sv : Sv} {r : List (Nat × Sv)} {s : Nat → Bool} (hk : X k) (hkn : k < n) (hr : ∀ x ∈ r, x.1 < n) (hm : 2 * cnF n s + (r.length + 1) < m + 1) :
    ∃ st2 s2, plN K V F S len u L al p (m + 1) ((k, sv) :: r) s = plN K V F S len u L al p m st2 s2 ∧ st2.filter (nX X) = r.filter (nX X) ∧ (∀ j, ¬ X j → s2 j = s j) ∧ 2 * cnF n s2 + st2.length < m ∧ ∀ x ∈ st2, x.1 < n := by
  obtain ⟨hna, hpp⟩ := hX k hk
  have hoff : ∀ j, ¬ X j → ub s k true j = s j := fun j hj => ub_n (fun e => hj (by rw [e]; exact hk))
  by_cases hs : s k = true
  · exact ⟨r, s, by rw [plN, if_pos hs], rfl, fun _ _ => rfl, by omega, hr⟩
  · have hs0 : s k = false := by simpa using hs
    have hc := cnF_ub (n := n) hkn hs0
    have plain : plN K V F S len u L al p (m + 1) ((k, sv) :: r) s = plN K V F S len u L al p m r (ub s k true) → ∃ st2 s2, plN K V F S len u L al p (m + 1) ((k, sv) :: r) s = plN K V F S len u L al p m st2 s2 ∧ st2.filter (nX X) = r.filter (nX X) ∧ (∀ j, ¬ X j → s2 j = s j) ∧ 2 * cnF n s2 + st2.length < m ∧ ∀ x ∈ st2, x.1 < n :=
      fun h => ⟨r, _, h, rfl, hoff, by omega, hr⟩
    by_cases h0 : k = 0
    · refine plain ?_
      rw [plN, if_neg hs, if_pos h0, if_neg (fun he => hna (Or.inl ⟨h0, he⟩))]
    · by_cases ht : takB K V len u k p = true
      · refine plain ?_
        rw [plN, if_neg hs, if_neg h0, if_pos ht, if_neg (fun hg => hna (Or.inr ⟨ht, hg⟩))]
      · by_cases hp : pasB K V len u k p = true
        · obtain ⟨g1, g2⟩ := hpp hp
          have hKp := pasB_K hp
          refine ⟨psh K F S k (svk K V p k sv) r, ub s k true, by rw [plN, if_neg hs, if_neg h0, if_neg ht, if_pos hp], ?_, hoff, ?_, psh_lt (hF k hKp.1 hkn hKp.2) (fun h2 => hS k hKp.1 hkn h2) hr⟩
          · unfold psh
            split
            · rename_i h2
              rw [List.filter_cons_of_neg (by rw [nX_f g1]; simp), List.filter_cons_of_neg (by rw [nX_f (g2 h2)]; simp)]
            · rw [List.filter_cons_of_neg (by rw [nX_f g1]; simp)]
          · have := psh_len (K := K) (F := F) (S := S) (k := k) (sv := svk K V p k sv) (r := r)
            omega
        · refine plain ?_
          rw [plN, if_neg hs, if_neg h0, if_neg ht, if_neg hp]
/-- what leads nowhere doesn't matter, on the stack or seen; nor does fuel -/
theorem plN_strip (hF : ∀ i, 0 < i → i < n → (K i = 2 ∨ K i = 3 ∨ K i = 4) → F i < n) (hS : ∀ i, 0 < i → i < n → K i = 2 → S i < n) {X : Nat → Prop} (hX : Ded K V F S len u L al p X) : ∀ (N m1 m2 : Nat) (st1 st2 : List (Nat × Sv)) (s1 s2 : Nat → Bool), m1 + m2 ≤ N → 2 * cnF n s1 + st1.length < m1 → 2 * cnF n s2 + st2.length < m2 → (∀ x ∈ st1, x.1 < n) → (∀ x ∈ st2, x.1 < n) → st1.filter (nX X) = st2.filter (nX X) → (∀ j, ¬ X j → s1 j = s2 j) →
    plN K V F S len u L al p m1 st1 s1 = plN K V F S len u L al p m2 st2 s2 := by
  intro N
  induction N with
  | zero => intro m1 m2 st1 st2 s1 s2 hN h1; omega
  | succ N ih =>
    intro m1 m2 st1 st2 s1 s2 hN h1 h2 hl1 hl2 hf ha
    obtain ⟨m1, rfl⟩ : ∃ q, m1 = q + 1 := ⟨m1 - 1, by omega⟩
    obtain ⟨m2, rfl⟩ : ∃ q, m2 = q + 1 := ⟨m2 - 1, by omega⟩
    have left : ∀ k sv r, st1 = (k, sv) :: r → X k → plN K V F S len u L al p (m1 + 1) st1 s1 = plN K V F S len u L al p (m2 + 1) st2 s2 := by
      intro k sv r e hk
      subst e
      obtain ⟨st3, s3, g1, g2, g3, g4, g5⟩ := plN_skip hF hS hX (sv := sv) hk (hl1 _ List.mem_cons_self) (fun x hx => hl1 x (List.mem_cons_of_mem _ hx)) (by simpa using h1)
      rw [g1]
      refine ih m1 (m2 + 1) st3 st2 s3 s2 (by omega) g4 h2 g5 hl2 ?_ (fun j hj => (g3 j hj).trans (ha j hj))
      rw [g2, ← hf, List.filter_cons_of_neg (by rw [nX_f hk]; simp)]
    have right : ∀ k sv r, st2 = (k, sv) :: r → X k → plN K V F S len u L al p (m1 + 1) st1 s1 = plN K V F S len u L al p (m2 + 1) st2 s2 := by
      intro k sv r e hk
      subst e
      obtain ⟨st3, s3, g1, g2, g3, g4, g5⟩ := plN_skip hF hS hX (sv := sv) hk (hl2 _ List.mem_cons_self) (fun x hx => hl2 x (List.mem_cons_of_mem _ hx)) (by simpa using h2)
      rw [g1]
      refine ih (m1 + 1) m2 st1 st3 s1 s3 (by omega) h1 g4 hl1 g5 ?_ (fun j hj => (ha j hj).trans (g3 j hj).symm)
      rw [g2, hf, List.filter_cons_of_neg (by rw [nX_f hk]; simp)]
    match st1, st2 with
    | [], [] => rfl
    | [], (k, sv) :: r =>
      by_cases hk : X k
      · exact right k sv r rfl hk
      · rw [List.filter_cons_of_pos (by exact nX_t hk)] at hf; cases hf
    | (k, sv) :: r, [] =>
      by_cases hk : X k
      · exact left k sv r rfl hk
      · rw [List.filter_cons_of_pos (by exact nX_t hk)] at hf; cases hf
    | (k, sv) :: r, (k2, sv2) :: r2 =>
      by_cases hk : X k
      · exact left k sv r rfl hk
      · by_cases hk2 : X k2
        · exact right k2 sv2 r2 rfl hk2
        · rw [List.filter_cons_of_pos (by exact nX_t hk), List.filter_cons_of_pos (by exact nX_t hk2)] at hf
          injection hf with e1 e2
          injection e1 with e3 e4
          subst e3; subst e4
          have hkn : k < n := hl1 (k, sv) List.mem_cons_self
          have hr1 : ∀ x ∈ r, x.1 < n := fun x hx => hl1 x (List.mem_cons_of_mem _ hx)
          have hr2 : ∀ x ∈ r2, x.1 < n := fun x hx => hl2 x (List.mem_cons_of_mem _ hx)
          have q1 : ((k, sv) :: r).length = r.length + 1 := rfl
          have q2 : ((k, sv) :: r2).length = r2.length + 1 := rfl
          rw [plN, plN, ← ha k hk]
          by_cases hs : s1 k = true
          · rw [if_pos hs, if_pos hs]
            exact ih m1 m2 r r2 s1 s2 (by omega) (by omega) (by omega) hr1 hr2 e2 ha
          · rw [if_neg hs, if_neg hs]
            have hs1 : s1 k = false := by simpa using hs
            have hs2 : s2 k = false := by rw [← ha k hk]; exact hs1
            have c1 := cnF_ub (n := n) hkn hs1
            have c2 := cnF_ub (n := n) hkn hs2
            have hu : ∀ j, ¬ X j → ub s1 k true j = ub s2 k true j := fun j hj => by
              by_cases hjk : j = k
              · subst hjk; rw [ub_s, ub_s]
              · rw [ub_n hjk, ub_n hjk]; exact ha j hj
            have go := ih m1 m2 r r2 (ub s1 k true) (ub s2 k true) (by omega) (by omega) (by omega) hr1 hr2 e2 hu
            rw [go]
            by_cases hp : pasB K V len u k p = true
            · have hKp := pasB_K hp
              have l1 := psh_len (K := K) (F := F) (S := S) (k := k) (sv := svk K V p k sv) (r := r)
              have l2 := psh_len (K := K) (F := F) (S := S) (k := k) (sv := svk K V p k sv) (r := r2)
              have go2 := ih m1 m2 (psh K F S k (svk K V p k sv) r) (psh K F S k (svk K V p k sv) r2) (ub s1 k true) (ub s2 k true) (by omega) (by omega) (by omega) (psh_lt (hF k hKp.1 hkn hKp.2) (fun h2 => hS k hKp.1 hkn h2) hr1) (psh_lt (hF k hKp.1 hkn hKp.2) (fun h2 => hS k hKp.1 hkn h2) hr2) (by
                unfold psh
                split
                · simp only [List.filter_cons, e2]
                · simp only [List.filter_cons, e2]) hu
              rw [go2]
            · simp only [if_neg hp]
theorem plN_app : ∀ (m : Nat) (st r : List (Nat × Sv)) (s : Nat → Bool) (x : Nat × Sv), plN K V F S len u L al p m st s = some x → plN K V F S len u L al p m (st ++ r) s = some x := by
  intro m
  induction m with
  | zero => intro st r s x h; simp [plN] at h
  | succ m ih =>
    intro st r s x h
    match st with
    | [] => simp [plN] at h
    | (k, sv) :: t =>
      have hpsh : ∀ sv, psh K F S k sv t ++ r = psh K F S k sv (t ++ r) := fun sv => by unfold psh; split <;> simp
      rw [List.cons_append, plN]
      rw [plN] at h
      split at h
      · rename_i hs; rw [if_pos hs]; exact ih _ _ _ _ h
      · rename_i hs
        rw [if_neg hs]
        split at h
        · rename_i h0
          rw [if_pos h0]
          split at h
          · rename_i he; rw [if_pos he]; exact h
          · rename_i he; rw [if_neg he]; exact ih _ _ _ _ h
        · rename_i h0
          rw [if_neg h0]
          split at h
          · rename_i ht
            rw [if_pos ht]
            split at h
            · rename_i hg; rw [if_pos hg]; exact h
            · rename_i hg; rw [if_neg hg]; exact ih _ _ _ _ h
          · rename_i ht
            rw [if_neg ht]
            split at h
            · rename_i hp
              rw [if_pos hp, ← hpsh]
              exact ih _ _ _ _ h
            · rename_i hp
              rw [if_neg hp]
              exact ih _ _ _ _ h
/-- the first on the stack from which the END can be come to decides -/
theorem plN_first (hF : ∀ i, 0 < i → i < n → (K i = 2 ∨ K i = 3 ∨ K i = 4) → F i < n) (hS : ∀ i, 0 < i → i < n → K i = 2 → S i < n) {m : Nat} {st r : List (Nat × Sv)} {s : Nat → Bool} {a : Nat} {sv : Sv} (hm : 2 * cnF n s + st.length < m) (hl : ∀ x ∈ st, x.1 < n) (hs : ∀ j, Can K V F S len u L al p j → s j = false) (h : st.filter (nX (fun k => ¬ Can K V F S len u L al p k)) = (a, sv) :: r) :
    plN K V F S len u L al p m st s = plN K V F S len u L al p (2 * n + 2) [(a, sv)] (fun _ => false) := by
  have hX := Ded_no (K := K) (V := V) (F := F) (S := S) (len := len) (u := u) (L := L) (al := al) (p := p) (fun _ _ => Or.inr trivial)
  have hmem : ∀ x ∈ (a, sv) :: r, x ∈ st ∧ Can K V F S len u L al p x.1 := fun x hx => by
    rw [← h] at hx
    obtain ⟨h1, h2⟩ := List.mem_filter.mp hx
    refine ⟨h1, ?_⟩
    by_cases hc : Can K V F S len u L al p x.1
    · exact hc
    · rw [nX_f (X := fun k => ¬ Can K V F S len u L al p k) hc] at h2; cases h2
  have hall : cnF n (fun _ => false) = n := cnF_all (fun _ _ => rfl)
  have ha := hmem (a, sv) List.mem_cons_self
  obtain ⟨x, hx⟩ := plN_can (p := p) hF hS (sv := sv) (hl _ ha.1) ha.2
  have hlr : ∀ y ∈ (a, sv) :: r, y.1 < n := fun y hy => hl y (hmem y hy).1
  have e1 := plN_strip hF hS hX (m + (2 * n + 2 + r.length)) m (2 * n + 2 + r.length) st ((a, sv) :: r) s (fun _ => false) (Nat.le_refl _) hm (by rw [hall]; simp; omega) hl hlr (by
    rw [h]
    refine (List.filter_eq_self.mpr (fun y hy => ?_)).symm
    exact nX_t (X := fun k => ¬ Can K V F S len u L al p k) (fun z => z (hmem y hy).2)) (fun j hj => hs j (Classical.byContradiction hj))
  have e2 := plN_strip hF hS hX ((2 * n + 2 + r.length) + (2 * n + 2)) (2 * n + 2 + r.length) (2 * n + 2) [(a, sv)] [(a, sv)] (fun _ => false) (fun _ => false) (Nat.le_refl _) (by rw [hall]; simp; omega) (by rw [hall]; simp) (fun y hy => hlr y (by rw [List.mem_singleton.mp hy]; exact List.mem_cons_self)) (fun y hy => hlr y (by rw [List.mem_singleton.mp hy]; exact List.mem_cons_self)) rfl (fun _ _ => rfl)
  rw [e1, hx]
  exact plN_app _ [(a, sv)] r _ x (e2.trans hx)
theorem plN_dead (hF : ∀ i, 0 < i → i < n → (K i = 2 ∨ K i = 3 ∨ K i = 4) → F i < n) (hS : ∀ i, 0 < i → i < n → K i = 2 → S i < n) {m : Nat} {st : List (Nat × Sv)} {s : Nat → Bool} (hm : 2 * cnF n s + st.length < m) (hl : ∀ x ∈ st, x.1 < n) (h : ∀ x ∈ st, ¬ Can K V F S len u L al p x.1) : plN K V F S len u L al p m st s = none := by
  have hX := Ded_no (K := K) (V := V) (F := F) (S := S) (len := len) (u := u) (L := L) (al := al) (p := p) (fun _ _ => Or.inr trivial)
  have e1 := plN_strip hF hS hX (m + (2 * cnF n s + 1)) m (2 * cnF n s + 1) st [] s s (Nat.le_refl _) hm (by simp) hl (fun x hx => by cases hx) (by
    rw [List.filter_nil]
    refine List.filter_eq_nil_iff.mpr (fun x hx => ?_)
    rw [nX_f (X := fun k => ¬ Can K V F S len u L al p k) (h x hx)]; simp) (fun _ _ => rfl)
  rw [e1]
  rfl
end PK
