/-! One way after the other: the first way that comes to the END is the reference's. -/
def chG (K V F S : Nat → Nat) (len : Nat) (u : Nat → Nat) (x : Nd2) (sv : Sv) : List (Nd2 × Sv) := if takB K V len u x.2 x.1 = true then [((x.1 + 1, F x.2), sv)] else if pasB K V len u x.2 x.1 = true then (psh K F S x.2 (svk K V x.1 x.2 sv) []).map (fun y => ((x.1, y.1), y.2)) else []
def tgB (L : Nat) (al : Bool) (x : Nd2) : Bool := decide (x.2 = 0) && endB L al x.1
def lft (p : Nat) (st : List (Nat × Sv)) : List (Nd2 × Sv) := st.map (fun y => ((p, y.1), y.2))
section MK
variable {K V F S : Nat → Nat} {len : Nat} {u : Nat → Nat} {L : Nat} {al : Bool} {p n : Nat} {N : List Nd2}
theorem chG_2 (x : Nd2) (sv : Sv) : (chG K V F S len u x sv).length ≤ 2 := by
  unfold chG
  split
  · simp
  · split
    · rw [List.length_map]
      exact psh_len (r := [])
    · simp
/-- what a way stands on -/
def MkH (K V F S : Nat → Nat) (len : Nat) (u : Nat → Nat) (L : Nat) (al : Bool) (n : Nat) (N : List Nd2) : Prop := (∀ i, 0 < i → i < n → (K i = 2 ∨ K i = 3 ∨ K i = 4) → F i < n) ∧ (∀ i, 0 < i → i < n → K i = 2 → S i < n) ∧ (∀ i, 0 < i → i < n → K i = 1 → F i < n) ∧ N.Nodup ∧ (∀ q k, q ≤ len → k < n → (q, k) ∈ N) ∧ ∀ p k, takB K V len u k p = true → Can K V F S len u L al (p + 1) (F k) → p < L
theorem mk_X (H : MkH K V F S len u L al n N) : ∀ x : Nd2, ¬ Can K V F S len u L al x.1 x.2 → tgB L al x = false ∧ ∀ sv, ∀ y ∈ chG K V F S len u x sv, ¬ Can K V F S len u L al y.1.1 y.1.2 := by
  intro x hx
  constructor
  · cases h : tgB L al x with
    | false => rfl
    | true =>
      simp only [tgB, Bool.and_eq_true, decide_eq_true_eq] at h
      refine absurd ?_ hx
      rw [h.1]
      exact (Can_0 _).mpr (by simpa [endB] using h.2)
  · intro sv y hy hc
    unfold chG at hy
    split at hy
    · rename_i ht
      rw [List.mem_singleton.mp hy] at hc
      exact hx ((Can_t ht).mpr ⟨H.2.2.2.2.2 _ _ ht hc, hc⟩)
    · split at hy
      · rename_i hp
        obtain ⟨z, hz, rfl⟩ := List.mem_map.mp hy
        unfold psh at hz
        split at hz
        · rename_i h2
          rcases List.mem_cons.mp hz with rfl | hz
          · exact hx ((Can_p hp).mpr (Or.inl hc))
          · rw [List.mem_singleton.mp hz] at hc
            exact hx ((Can_p hp).mpr (Or.inr ⟨h2, hc⟩))
        · rw [List.mem_singleton.mp hz] at hc
          exact hx ((Can_p hp).mpr (Or.inl hc))
      · cases hy
theorem mk_Y (H : MkH K V F S len u L al n N) (p : Nat) : ∀ x : Nd2, (p ≤ x.1 ∧ x.1 ≤ len ∧ x.2 < n) → x ∈ N ∧ ∀ sv, ∀ y ∈ chG K V F S len u x sv, p ≤ y.1.1 ∧ y.1.1 ≤ len ∧ y.1.2 < n := by
  intro x ⟨h1, h2, h3⟩
  obtain ⟨hF, hS, hF1, hN, hall, hx⟩ := H
  refine ⟨hall x.1 x.2 h2 h3, fun sv y hy => ?_⟩
  unfold chG at hy
  split at hy
  · rename_i ht
    rw [List.mem_singleton.mp hy]
    have hk := takB_K ht
    exact ⟨by show p ≤ x.1 + 1; omega, hk.2.2.1, hF1 _ hk.1 h3 hk.2.1⟩
  · split at hy
    · rename_i hp
      have hk := pasB_K hp
      obtain ⟨z, hz, rfl⟩ := List.mem_map.mp hy
      exact ⟨h1, h2, psh_lt (hF _ hk.1 h3 hk.2) (fun h2 => hS _ hk.1 h3 h2) (fun y hy => by cases hy) z hz⟩
    · cases hy
theorem lft_filter (X : Nd2 → Prop) (st : List (Nat × Sv)) : (lft p st).filter (nY X) = lft p (st.filter (nX (fun k => X (p, k)))) := by
  unfold lft
  rw [List.filter_map]
  rfl
theorem gd_sim (H : MkH K V F S len u L al n N) (hpl : p ≤ len) : ∀ (m : Nat) (st : List (Nat × Sv)) (s : Nat → Bool) (M : Nat) (R : List (Nd2 × Sv)) (T : Nd2 → Bool) (k : Nat) (sv1 : Sv), plN K V F S len u L al p m st s = some (k, sv1) → 2 * cnF n s + st.length < m → 2 * cnV N T + (st.length + R.length) < M → (∀ x ∈ st, x.1 < n) → (∀ x ∈ R, p ≤ x.1.1 ∧ x.1.1 ≤ len ∧ x.1.2 < n) → (∀ j, Can K V F S len u L al p j → T (p, j) = s j) →
    (k = 0 → gdN (chG K V F S len u) (tgB L al) M (lft p st ++ R) T = some ((p, 0), sv1)) ∧ (k ≠ 0 → ∃ M2 R2 T2, gdN (chG K V F S len u) (tgB L al) M (lft p st ++ R) T = gdN (chG K V F S len u) (tgB L al) M2 (((p + 1, F k), sv1) :: R2) T2 ∧ 2 * cnV N T2 + (R2.length + 1) < M2 ∧ (∀ q j, q ≠ p → T2 (q, j) = T (q, j)) ∧ takB K V len u k p = true ∧ k < n) := by
  obtain ⟨hF, hS, hF1, hN, hall, hx⟩ := id H
  have hX := Ded_no (K := K) (V := V) (F := F) (S := S) (len := len) (u := u) (L := L) (al := al) (p := p) (fun _ _ => Or.inr trivial)
  intro m
  induction m with
  | zero => intro st s M R T k sv1 h; simp [plN] at h
  | succ m ih =>
    intro st s M R T k sv1 h hm hM hst hR hT
    match st, h, hm, hM, hst with
    | [], h, _, _, _ => simp [plN] at h
    | (k1, svA) :: r, h, hm, hM, hst =>
      have hk1 : k1 < n := hst (k1, svA) List.mem_cons_self
      have hr : ∀ x ∈ r, x.1 < n := fun x hx => hst x (List.mem_cons_of_mem _ hx)
      have hlen : ((k1, svA) :: r).length = r.length + 1 := rfl
      have hYl : ∀ t : List (Nat × Sv), (∀ x ∈ t, x.1 < n) → ∀ x ∈ lft p t ++ R, p ≤ x.1.1 ∧ x.1.1 ≤ len ∧ x.1.2 < n := by
        intro t ht x hx
        rcases List.mem_append.mp hx with h | h
        · obtain ⟨z, hz, rfl⟩ := List.mem_map.mp h
          exact ⟨Nat.le_refl _, hpl, ht z hz⟩
        · exact hR x h
      have hll : ∀ t : List (Nat × Sv), (lft p t ++ R).length = t.length + R.length := fun t => by simp [lft]
      by_cases hal : Can K V F S len u L al p k1
      · obtain ⟨M, rfl⟩ : ∃ q, M = q + 1 := ⟨M - 1, by omega⟩
        have hTk := hT k1 hal
        rw [plN] at h
        have eL : lft p ((k1, svA) :: r) ++ R = ((p, k1), svA) :: (lft p r ++ R) := rfl
        rw [eL, gdN, hTk]
        by_cases hs : s k1 = true
        · rw [if_pos hs] at h ⊢
          exact ih r s M R T k sv1 h (by omega) (by omega) hr hR hT
        · rw [if_neg hs] at h ⊢
          have hs0 : s k1 = false := by simpa using hs
          have c1 := cnF_ub (n := n) hk1 hs0
          have c2 := cnV_uv (N := N) (s := T) (x := (p, k1)) hN (hall p k1 hpl hk1) (by rw [hTk]; exact hs0)
          by_cases h0 : k1 = 0
          · have he : endB L al p = true := by
              subst h0
              have := (Can_0 p).mp hal
              simpa [endB] using this
            rw [if_pos h0, if_pos he] at h
            cases h
            have ht : tgB L al (p, k1) = true := by simp [tgB, h0, he]
            rw [if_pos ht, h0]
            exact ⟨fun _ => rfl, fun h => absurd rfl h⟩
          · rw [if_neg h0] at h
            have ht0 : ¬ tgB L al (p, k1) = true := by simp [tgB, h0]
            rw [if_neg ht0]
            by_cases ht : takB K V len u k1 p = true
            · have hg : goB K V F S len u L al p k1 = true := by
                have := (Can_t ht).mp hal
                simp [goB, this.1, canB_iff.mpr this.2]
              rw [if_pos ht, if_pos hg] at h
              have e1 := (Prod.mk.inj (Option.some.inj h)).1.symm
              have e2 := (Prod.mk.inj (Option.some.inj h)).2.symm
              rw [e1, e2]
              refine ⟨fun h => absurd h h0, fun _ => ⟨M, lft p r ++ R, uv T (p, k1), ?_, by rw [hll]; omega, fun q j hq => uv_n (fun e => hq (congrArg Prod.fst e)), ht, hk1⟩⟩
              have : chG K V F S len u (p, k1) svA = [((p + 1, F k1), svA)] := by unfold chG; rw [if_pos ht]
              rw [this]; rfl
            · rw [if_neg ht] at h
              by_cases hp : pasB K V len u k1 p = true
              · rw [if_pos hp] at h
                have hKp := pasB_K hp
                have e : chG K V F S len u (p, k1) svA ++ (lft p r ++ R) = lft p (psh K F S k1 (svk K V p k1 svA) r) ++ R := by
                  unfold chG
                  rw [if_neg ht, if_pos hp, ← List.append_assoc]
                  unfold lft psh
                  split <;> simp
                rw [e]
                have hpl2 := psh_len (K := K) (F := F) (S := S) (k := k1) (sv := svk K V p k1 svA) (r := r)
                have := ih _ (ub s k1 true) M R (uv T (p, k1)) k sv1 h (by omega) (by omega) (psh_lt (hF _ hKp.1 hk1 hKp.2) (fun h2 => hS _ hKp.1 hk1 h2) hr) hR (fun j hj => by
                  by_cases hjk : j = k1
                  · subst hjk; rw [uv_s, ub_s]
                  · rw [uv_n (fun e => hjk (congrArg Prod.snd e)), ub_n hjk]; exact hT j hj)
                refine ⟨this.1, fun hk => ?_⟩
                obtain ⟨M2, R2, T2, g1, g2, g3, g4, g5⟩ := this.2 hk
                exact ⟨M2, R2, T2, g1, g2, fun q j hq => (g3 q j hq).trans (uv_n (fun e => hq (congrArg Prod.fst e))), g4, g5⟩
              · exact absurd hal (Can_n h0 (by simpa using ht) (by simpa using hp))
      · obtain ⟨st2, s2, g1, g2, g3, g4, g5⟩ := plN_skip hF hS hX (sv := svA) hal hk1 hr (by omega)
        rw [g1] at h
        have hst1 : ∀ x ∈ (k1, svA) :: r, x.1 < n := hst
        have e := gd_strip (ch := chG K V F S len u) (ac := tgB L al) (X := fun x => ¬ Can K V F S len u L al x.1 x.2) (Y := fun x => p ≤ x.1 ∧ x.1 ≤ len ∧ x.2 < n) hN chG_2 (mk_X H) (mk_Y H p) _ M (2 * cnV N T + (st2.length + R.length) + 1) (lft p ((k1, svA) :: r) ++ R) (lft p st2 ++ R) T T (Nat.le_refl _) (by rw [hll]; exact hM) (by rw [hll]; omega) (hYl _ hst1) (hYl _ g5) (by
          rw [List.filter_append, List.filter_append, lft_filter, lft_filter]
          show lft p (((k1, svA) :: r).filter (nX (fun k => ¬ Can K V F S len u L al p k))) ++ _ = lft p (st2.filter (nX (fun k => ¬ Can K V F S len u L al p k))) ++ _
          rw [g2, List.filter_cons_of_neg (by rw [nX_f (X := fun k => ¬ Can K V F S len u L al p k) hal]; simp)]) (fun _ _ _ => rfl)
        rw [e]
        exact ih st2 s2 _ R T k sv1 h g4 (by omega) g5 hR (fun j hj => (hT j hj).trans (g3 j (fun z => z hj)).symm)
/-- the first way is the reference's way -/
theorem gd_gw (H : MkH K V F S len u L al n N) : ∀ (m p a : Nat) (sv : Sv) (M : Nat) (T : Nd2 → Bool) (e : Nat) (sv1 : Sv), gwN K V F S len u L al n m p a sv = some (e, sv1) → p ≤ len → a < n → 2 * cnV N T + 1 < M → (∀ q j, p ≤ q → Can K V F S len u L al q j → T (q, j) = false) → gdN (chG K V F S len u) (tgB L al) M [((p, a), sv)] T = some ((e, 0), sv1) := by
  intro m
  induction m with
  | zero => intro p a sv M T e sv1 h; simp [gwN] at h
  | succ m ih =>
    intro p a sv M T e sv1 h hpl ha hM hT
    have hall : cnF n (fun _ => false) = n := cnF_all (fun _ _ => rfl)
    rw [gwN] at h
    cases hq : plN K V F S len u L al p (2 * n + 2) [(a, sv)] (fun _ => false) with
    | none => rw [hq] at h; cases h
    | some x =>
      obtain ⟨k, sv2⟩ := x
      rw [hq] at h
      have hs := gd_sim H hpl _ _ _ M [] T k sv2 hq (by rw [hall]; simp) (by simpa using hM) (fun x hx => by rw [List.mem_singleton.mp hx]; exact ha) (fun x hx => by cases hx) (fun j hj => hT p j (Nat.le_refl _) hj)
      have e1 : lft p [(a, sv)] ++ [] = [((p, a), sv)] := rfl
      rw [e1] at hs
      by_cases hk : k = 0
      · subst hk
        simp only [if_true, Option.some.injEq, Prod.mk.injEq] at h
        rw [hs.1 rfl, h.1, h.2]
      · simp only [if_neg hk] at h
        obtain ⟨M2, R2, T2, g1, g2, g3, g4, g5⟩ := hs.2 hk
        have hkk := takB_K g4
        rw [g1]
        exact gd_app _ [((p + 1, F k), sv2)] R2 _ _ (ih (p + 1) (F k) sv2 M2 T2 e sv1 h hkk.2.2.1 (H.2.2.1 _ hkk.1 g5 hkk.2.1) (by omega) (fun q j hqp hc => by rw [g3 q j (by omega)]; exact hT q j (by omega) hc))
end MK
