/-! A row of one way: the place's row is what of it may be passed there. -/
def hoB (len : Nat) (u : Nat → Nat) (p a : Nat) : Bool := (List.range 6).all (fun v => !a.testBit v || soB len u v p)
theorem hoB_iff {len : Nat} {u : Nat → Nat} {p a : Nat} : hoB len u p a = true ↔ ∀ v, v < 6 → a.testBit v = true → soB len u v p = true := by
  simp only [hoB, List.all_eq_true, List.mem_range, Bool.or_eq_true, Bool.not_eq_true']
  constructor
  · intro h v hv ht
    rcases h v hv with h1 | h1
    · rw [ht] at h1; cases h1
    · exact h1
  · intro h v hv
    cases ht : a.testBit v with
    | false => exact Or.inl rfl
    | true => exact Or.inr (h v hv ht)
theorem hoB_or {len : Nat} {u : Nat → Nat} {p a v : Nat} (hv : v < 6) : hoB len u p (a ||| 2 ^ v) = (hoB len u p a && soB len u v p) := by
  rw [Bool.eq_iff_iff, Bool.and_eq_true, hoB_iff, hoB_iff]
  constructor
  · intro h
    exact ⟨fun w hw ht => h w hw (by rw [Nat.testBit_or, ht]; rfl), h v hv (by rw [Nat.testBit_or, Nat.testBit_two_pow_self]; simp)⟩
  · intro ⟨h1, h2⟩ w hw ht
    rw [Nat.testBit_or, Bool.or_eq_true] at ht
    rcases ht with ht | ht
    · exact h1 w hw ht
    · rw [Nat.testBit_two_pow] at ht
      have : v = w := by simpa using ht
      rw [← this]; exact h2
def svS (p s : Nat) (sv : Sv) : Sv := fun j => if s.testBit j = true then nI p else sv j
theorem svS_or {p s v : Nat} {sv : Sv} : upd (svS p s sv) v (nI p) = svS p (s ||| 2 ^ v) sv := by
  funext j
  simp only [upd, svS, Nat.testBit_or, Nat.testBit_two_pow]
  by_cases h : j = v
  · subst h; simp
  · have h2 : ¬ v = j := fun e => h e.symm
    simp [h, h2]
section TBL
variable {K V F S : Nat → Nat} {len : Nat} {u : Nat → Nat} {p n : Nat} {sv : Sv}
def lfR (len : Nat) (u : Nat → Nat) (p : Nat) (sv : Sv) (st : List Rc) : List (Nat × Sv) := (st.filter (fun x => hoB len u p x.2.2)).map (fun x => (x.1, svS p x.2.1 sv))
theorem lfR_t {x : Rc} {st : List Rc} (h : hoB len u p x.2.2 = true) : lfR len u p sv (x :: st) = (x.1, svS p x.2.1 sv) :: lfR len u p sv st := by
  unfold lfR; rw [List.filter_cons_of_pos (by exact h), List.map_cons]
theorem lfR_f {x : Rc} {st : List Rc} (h : hoB len u p x.2.2 = false) : lfR len u p sv (x :: st) = lfR len u p sv st := by
  unfold lfR; rw [List.filter_cons_of_neg (by rw [h]; simp)]
def leafB (K : Nat → Nat) (x : Rc) : Bool := decide (x.1 = 0) || decide (K x.1 = 1)
theorem rwN_spN (hF : ∀ i, 0 < i → i < n → (K i = 2 ∨ K i = 3 ∨ K i = 4) → F i < n) (hS : ∀ i, 0 < i → i < n → K i = 2 → S i < n) (hK : ∀ i, 0 < i → i < n → 1 ≤ K i ∧ K i < 6) (h4 : ∀ i, 0 < i → i < n → K i = 4 → V i < 6) : ∀ (m : Nat) (st r rec : List Rc), (∀ x ∈ st, x.1 < n) → spN K V F S m st r = some rec → ∃ tl, rec = r ++ tl ∧ ∀ (M : Nat) (seen : Nat → Bool), m ≤ M → (∀ k, seen k = true → inR r k = true) → rwN K V F S len u p M (lfR len u p sv st) seen = lfR len u p sv (tl.filter (leafB K)) := by
  intro m
  induction m with
  | zero => intro st r rec _ h; simp [spN] at h
  | succ m ih =>
    intro st r rec hst h
    match st, hst, h with
    | [], _, h =>
      have : r = rec := by simpa [spN] using h
      exact ⟨[], by rw [this, List.append_nil], fun M seen hM _ => by
        obtain ⟨M, rfl⟩ : ∃ q, M = q + 1 := ⟨M - 1, by omega⟩
        rfl⟩
    | (k, s, a) :: st2, hst, h =>
      have hk : k < n := hst (k, s, a) List.mem_cons_self
      have hst2 : ∀ x ∈ st2, x.1 < n := fun x hx => hst x (List.mem_cons_of_mem _ hx)
      rw [spN] at h
      split at h
      · cases h
      · rename_i hr
        have hr0 : inR r k = false := by simpa using hr
        have hin : ∀ seen : Nat → Bool, (∀ j, seen j = true → inR r j = true) → seen k = false ∧ (∀ j, seen j = true → inR (r ++ [(k, s, a)]) j = true) ∧ ∀ j, ub seen k true j = true → inR (r ++ [(k, s, a)]) j = true := by
          intro seen hs
          refine ⟨?_, fun j hj => by rw [inR_app, hs j hj]; rfl, fun j hj => ?_⟩
          · cases hq : seen k with
            | false => rfl
            | true => rw [hs k hq] at hr0; cases hr0
          · rw [inR_app]
            by_cases hjk : j = k
            · subst hjk; simp
            · rw [ub_n hjk] at hj; rw [hs j hj]; rfl
        split at h
        · rename_i hleaf
          obtain ⟨tl, h1, h2⟩ := ih st2 _ rec hst2 h
          refine ⟨(k, s, a) :: tl, by rw [h1]; simp, fun M seen hM hs => ?_⟩
          obtain ⟨q1, q2, q3⟩ := hin seen hs
          obtain ⟨M, rfl⟩ : ∃ q, M = q + 1 := ⟨M - 1, by omega⟩
          cases hho : hoB len u p a with
          | false =>
            rw [lfR_f (by exact hho), h2 (M + 1) seen (by omega) q2]
            rw [List.filter_cons]
            split
            · rw [lfR_f (by exact hho)]
            · rfl
          | true =>
            rw [lfR_t (by exact hho), rwN, if_neg (by rw [q1]; simp)]
            by_cases h01 : k = 0 ∨ K k = 1
            · rw [if_pos h01, h2 M _ (by omega) q3, List.filter_cons_of_pos (by simpa [leafB] using h01), lfR_t (by exact hho)]
            · have hp : ¬ pasB K V len u k p = true := fun hp => by have := (pasB_K hp).2; omega
              rw [if_neg h01, if_neg hp, h2 M _ (by omega) q3, List.filter_cons_of_neg (by simpa [leafB] using h01)]
        · rename_i hleaf
          have hk0 : 0 < k := by omega
          have hKk := hK k hk0 hk
          have hK3 : K k = 2 ∨ K k = 3 ∨ K k = 4 := by omega
          have hpush : ∀ x ∈ pshO K V F S k s a st2, x.1 < n := by
            intro x hx
            unfold pshO at hx
            rcases List.mem_cons.mp hx with rfl | hx
            · exact hF k hk0 hk hK3
            · split at hx
              · rename_i h2
                rcases List.mem_cons.mp hx with rfl | hx
                · exact hS k hk0 hk h2
                · exact hst2 x hx
              · exact hst2 x hx
          obtain ⟨tl, h1, h2⟩ := ih _ _ rec hpush h
          refine ⟨(k, s, a) :: tl, by rw [h1]; simp, fun M seen hM hs => ?_⟩
          obtain ⟨q1, q2, q3⟩ := hin seen hs
          obtain ⟨M, rfl⟩ : ∃ q, M = q + 1 := ⟨M - 1, by omega⟩
          have hnl : ¬ leafB K (k, s, a) = true := by simp [leafB]; omega
          rw [List.filter_cons_of_neg hnl]
          have hna : hoB len u p (nxA K V k a) = (hoB len u p a && (decide (K k ≠ 4) || soB len u (V k) p)) := by
            unfold nxA
            split
            · rename_i h4k
              rw [hoB_or (h4 k hk0 hk h4k)]; simp [h4k]
            · rename_i h4k; simp [h4k]
          have dropped : hoB len u p (nxA K V k a) = false → lfR len u p sv (pshO K V F S k s a st2) = lfR len u p sv st2 := by
            intro hf
            unfold pshO
            rw [lfR_f (by exact hf)]
            split
            · rw [lfR_f (by exact hf)]
            · rfl
          cases hho : hoB len u p a with
          | false =>
            rw [lfR_f (by exact hho), ← h2 (M + 1) seen (by omega) q2, dropped (by rw [hna, hho]; rfl)]
          | true =>
            rw [lfR_t (by exact hho), rwN, if_neg (by rw [q1]; simp), if_neg (by show ¬ (k = 0 ∨ K k = 1); omega)]
            by_cases hp : pasB K V len u k p = true
            · have hna2 : hoB len u p (nxA K V k a) = true := by
                rw [hna, hho, Bool.true_and, Bool.or_eq_true]
                by_cases h4k : K k = 4
                · refine Or.inr ?_
                  simpa [pasB, hk0, h4k] using hp
                · exact Or.inl (by simpa using h4k)
              rw [if_pos hp, ← h2 M _ (by omega) q3]
              have esv : svk K V p k (svS p s sv) = svS p (nxS K V k s) sv := by
                unfold svk nxS
                split
                · exact svS_or
                · rfl
              show rwN K V F S len u p M (psh K F S k (svk K V p k (svS p s sv)) (lfR len u p sv st2)) (ub seen k true) = _
              rw [esv]
              unfold psh pshO
              rw [lfR_t (by exact hna2)]
              split
              · rw [lfR_t (by exact hna2)]
              · rfl
            · have hna2 : hoB len u p (nxA K V k a) = false := by
                rw [hna, hho, Bool.true_and]
                have h4k : K k = 4 := by
                  rcases hK3 with h | h | h
                  · exact absurd (by simp [pasB, hk0, h]) hp
                  · exact absurd (by simp [pasB, hk0, h]) hp
                  · exact h
                have : soB len u (V k) p = false := by simpa [pasB, hk0, h4k] using hp
                simp [h4k, this]
              rw [if_neg hp, ← h2 M _ (by omega) q3, dropped hna2]
end TBL
