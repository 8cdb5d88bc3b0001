/-! What the law's tests of its arguments give. -/
theorem lay_of {x : Int32} (h : layB x = false) : ∃ k, 1 ≤ k ∧ k ≤ 200 ∧ x = nI k := by
  simp only [layB, Bool.or_eq_false_iff, decide_eq_false_iff_not] at h
  obtain ⟨h1, h2⟩ := h
  have h0 : ¬ x < 0 := fun h => h1 (Int32.lt_of_lt_of_le h (by decide))
  obtain ⟨j, hj, rfl⟩ := nI_of h0
  rw [nI_ltI (by omega) (by omega)] at h1 h2
  exact ⟨j, by omega, by omega, rfl⟩
theorem keep_of {x : Int32} (h : ¬ keepT x = 1) : ∃ k, 4 ≤ k ∧ k ≤ 64 ∧ x = nI k ∧ keepT (nI k) = 0 := by
  have h8 := h
  unfold keepT at h
  split at h
  · exact absurd rfl h
  · split at h
    · exact absurd rfl h
    · rename_i h1 h2
      have h0 : ¬ x < 0 := fun h => h1 (Int32.lt_of_lt_of_le h (by decide))
      obtain ⟨j, hj, rfl⟩ := nI_of h0
      have h3 : keepT (nI j) = 0 := by unfold keepT; rw [if_neg h1, if_neg h2]
      rw [nI_ltI (by omega) (by omega)] at h1 h2
      exact ⟨j, by omega, by omega, rfl, h3⟩
theorem put_of {len : Nat} {x : Int32} (hl : len ≤ 200) (h : putB len x = true) : ∃ k, k ≤ 8 ∧ len + k ≤ 200 ∧ x = nI k := by
  simp only [putB, Bool.and_eq_true, Bool.not_eq_true', decide_eq_false_iff_not, decide_eq_true_eq] at h
  obtain ⟨h1, h2, h3⟩ := h
  obtain ⟨j, hj, rfl⟩ := nI_of h1
  rw [nI_ltI (by omega) (by omega)] at h2
  rw [nI_add, nI_leI (by omega) (by omega)] at h3
  exact ⟨j, by omega, by omega, rfl⟩
theorem putU_lt {u : Nat → Nat} {len m j : Nat} {v : Int64} (h : ∀ i, u i < 256) : ∀ i, putU u len m j v i < 256 := by
  intro i
  unfold putU
  split
  · exact byt_lt _ _
  · exact h i
theorem stT_1 {n : Nat} {k kd v a b : Int32} (h : ixB n k kd a b = true) : stT n k kd v a b = 1 := by unfold stT; rw [if_pos h]
theorem stT_2 {n : Nat} {k kd v a b : Int32} (h : ixB n k kd a b = false) (h2 : gdB kd v = false) : stT n k kd v a b = 2 := by unfold stT; rw [if_neg (by rw [h]; decide), if_neg (by rw [h2]; decide)]
theorem stT_0 {n : Nat} {k kd v a b : Int32} (h : ixB n k kd a b = false) (h2 : gdB kd v = true) : stT n k kd v a b = 0 := by unfold stT; rw [if_neg (by rw [h]; decide), if_pos h2]
theorem gd_kd {kd v : Int32} (h : gdB kd v = true) : ∃ d : Nat, 1 ≤ d ∧ d < 6 ∧ kd = nI d := by
  simp only [gdB, Bool.or_eq_true, Bool.and_eq_true, decide_eq_true_eq] at h
  rcases h with h | h | h | h | h
  · exact ⟨2, by omega, by omega, h⟩
  · exact ⟨5, by omega, by omega, h⟩
  · exact ⟨1, by omega, by omega, h.1⟩
  · exact ⟨3, by omega, by omega, h.1⟩
  · exact ⟨4, by omega, by omega, h.1⟩
theorem step_of {n : Nat} {k kd v a b : Int32} (hn : n ≤ 200) (h9 : ixB n k kd a b = false) (h8 : gdB kd v = true) : ∃ k9 d9 v9 a9 b9 : Nat, k = nI k9 ∧ kd = nI d9 ∧ 0 < k9 ∧ k9 < n ∧ 1 ≤ d9 ∧ d9 < 6 ∧ (d9 ≠ 2 → d9 ≠ 5 → v = nI v9) ∧ (d9 ≠ 5 → a = nI a9) ∧ (d9 = 2 → b = nI b9) ∧ (d9 ≠ 5 → a9 < n) ∧ (d9 = 2 → b9 < n) ∧ (d9 = 1 → v9 < 65536 ∧ v9 / 256 ≤ v9 % 256) ∧ (d9 = 3 → 2 ≤ v9 ∧ v9 < 20) ∧ (d9 = 4 → v9 < 6) := by
  obtain ⟨d, d1, d6, rfl⟩ := gd_kd h8
  obtain ⟨i1, i2, i3, i4⟩ := ix_k h9
  obtain ⟨k9, hk, rfl⟩ := stepB_of hn i1
  have hk0 : 0 < k9 := by
    rcases Nat.eq_zero_or_pos k9 with h | h
    · subst h; exact absurd rfl i2
    · exact h
  obtain ⟨v9, hv⟩ : ∃ v9 : Nat, (d ≠ 2 → d ≠ 5 → v = nI v9) ∧ (d = 1 → v9 < 65536 ∧ v9 / 256 ≤ v9 % 256) ∧ (d = 3 → 2 ≤ v9 ∧ v9 < 20) ∧ (d = 4 → v9 < 6) := by
    by_cases h2 : d = 2
    · exact ⟨0, fun h => absurd h2 h, by omega, by omega, by omega⟩
    by_cases h5 : d = 5
    · exact ⟨0, fun _ h => absurd h5 h, by omega, by omega, by omega⟩
    obtain ⟨v9, e, c1, c3, c4⟩ := gd_ex h2 h5 d1 d6 h8
    exact ⟨v9, fun _ _ => e, c1, c3, c4⟩
  obtain ⟨a9, ha, hal⟩ : ∃ a9 : Nat, (d ≠ 5 → a = nI a9) ∧ (d ≠ 5 → a9 < n) := by
    by_cases h5 : d = 5
    · exact ⟨0, fun h => absurd h5 h, fun h => absurd h5 h⟩
    obtain ⟨a9, h, e⟩ := stepB_of hn (i3 (fun h => h5 ((nI_eq (by omega) (by omega)).mp h)))
    exact ⟨a9, fun _ => e, fun _ => h⟩
  obtain ⟨b9, hb, hbl⟩ : ∃ b9 : Nat, (d = 2 → b = nI b9) ∧ (d = 2 → b9 < n) := by
    by_cases h2 : d = 2
    · obtain ⟨b9, h, e⟩ := stepB_of hn (i4 (by rw [h2]))
      exact ⟨b9, fun _ => e, fun _ => h⟩
    · exact ⟨0, fun h => absurd h h2, fun h => absurd h h2⟩
  exact ⟨k9, d, v9, a9, b9, rfl, rfl, hk0, hk, d1, d6, hv.1, ha, hb, hal, hbl, hv.2.1, hv.2.2.1, hv.2.2.2⟩
theorem lx_res (x : Option (Nat × Nat × Sv)) : resS x 1 = resI x := by
  cases x with
  | none => rfl
  | some y => obtain ⟨a, b, c⟩ := y; rfl
theorem lo_of {lo : Bool} {x : Int32} (h : (!(lo && decide (x = 0))) = true) (hx : x = 0) : lo = false := by
  cases lo with
  | false => rfl
  | true => subst hx; exact absurd h (by decide)
