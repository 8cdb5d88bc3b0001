/-! What the reference answers, in its own words: the first place, the bound, the walk. -/
def Start (len how fr p : Nat) : Prop := fr ≤ p ∧ p ≤ len ∧ (how ≠ 0 → p = fr)
def LB (K V F S : Nat → Nat) (len : Nat) (u : Nat → Nat) (b how : Nat) (lo : Bool) (p L : Nat) (al : Bool) : Prop :=
  ((how = 2 ∨ lo = false) ∧ L = len ∧ al = decide (how = 2)) ∨ (how ≠ 2 ∧ lo = true ∧ al = true ∧ L ≤ len ∧ Fw K V F S len u p b L 0 ∧ ∀ p1, Fw K V F S len u p b p1 0 → p1 ≤ L)
def RefR (K V F S : Nat → Nat) (len : Nat) (u : Nat → Nat) (n b how : Nat) (lo : Bool) (fr : Nat) (r : Option (Nat × Nat × Sv)) : Prop :=
  (r = none ∧ ∀ p, Start len how fr p → ¬ Can K V F S len u len (decide (how = 2)) p b) ∨
  ∃ (p e : Nat) (sv : Sv), r = some (p, e, sv) ∧ Start len how fr p ∧ Can K V F S len u len (decide (how = 2)) p b ∧ (∀ p1, p1 < p → Start len how fr p1 → ¬ Can K V F S len u len (decide (how = 2)) p1 b) ∧ ∃ (L : Nat) (al : Bool), LB K V F S len u b how lo p L al ∧ p ≤ L ∧ gwN K V F S len u L al n (L + 1 - p) p b (fun _ => -1) = some (e, sv)
def resI (r : Option (Nat × Nat × Sv)) : Int32 := match r with
  | none => -1
  | some (_, e, _) => nI e
def resS (r : Option (Nat × Nat × Sv)) : Sv := match r with
  | none => fun _ => -1
  | some (p, e, sv) => upd (upd sv 0 (nI p)) 1 (nI e)
section RF
variable {K V F S : Nat → Nat} {len : Nat} {u : Nat → Nat} {L : Nat} {al : Bool} {p0 b p k n : Nat}
theorem Can_leT : ∀ (m p k : Nat), canN K V F S len u L true m p k = true → p ≤ L := by
  intro m
  induction m with
  | zero => intro p k h; simp [canN] at h
  | succ m ih =>
    intro p k h
    rw [canN] at h
    split at h
    · simp at h; omega
    · split at h
      · simp only [Bool.and_eq_true, decide_eq_true_eq] at h; omega
      · split at h
        · simp only [Bool.or_eq_true, Bool.and_eq_true] at h
          rcases h with h | h
          · exact ih _ _ h
          · exact ih _ _ h.2
        · cases h
/-- what can be come to from the beginning, and from which the END can be come to, lies on a way -/
theorem Fw_Can (hx : ∀ p k, Can K V F S len u L al (p + 1) k → p < L) (h : Fw K V F S len u p0 b p k) (hc : Can K V F S len u L al p k) : Can K V F S len u L al p0 b := by
  obtain ⟨m, hm⟩ := h
  induction m generalizing p k with
  | zero => rw [← hm.1, ← hm.2]; exact hc
  | succ m ih =>
    rcases hm with hm | ⟨p1, k1, h1, h2, rfl, rfl⟩ | ⟨k1, h1, h2, h3⟩
    · exact ih hc hm
    · exact ih ((Can_t h2).mpr ⟨hx _ _ hc, hc⟩) h1
    · refine ih ((Can_p h2).mpr ?_) h1
      rcases h3 with rfl | ⟨h3, rfl⟩
      · exact Or.inl hc
      · exact Or.inr ⟨h3, hc⟩
theorem Fw_CanT {e : Nat} (h : Fw K V F S len u p0 b e 0) : Can K V F S len u e true p0 b :=
  Fw_Can (fun p k ⟨m, hm⟩ => by have := Can_leT m _ _ hm; omega) h ((Can_0 e).mpr (Or.inl rfl))
theorem Can_Fw : ∀ (m p k : Nat), Fw K V F S len u p0 b p k → canN K V F S len u L al m p k = true → ∃ e, Fw K V F S len u p0 b e 0 := by
  intro m
  induction m with
  | zero => intro p k _ h; simp [canN] at h
  | succ m ih =>
    intro p k hw h
    by_cases h0 : k = 0
    · subst h0; exact ⟨p, hw⟩
    · cases ht : takB K V len u k p with
      | true => simp [canN, h0, ht] at h; exact ih _ _ (Fw_t hw ht) h.2
      | false =>
        cases hp : pasB K V len u k p with
        | false => simp [canN, h0, ht, hp] at h
        | true =>
          simp [canN, h0, ht, hp] at h
          rcases h with h | h
          · exact ih _ _ (Fw_f hw hp) h
          · exact ih _ _ (Fw_s hw hp h.1) h.2
theorem Las_some {x : Int32} (hp : p0 ≤ len) (h : Las K V F S len u p0 b (len + 1) x) (hc : Can K V F S len u L al p0 b) : ∃ e, x = nI e ∧ e ≤ len ∧ p0 ≤ e ∧ Fw K V F S len u p0 b e 0 ∧ ∀ p1, Fw K V F S len u p0 b p1 0 → p1 ≤ e := by
  obtain ⟨m, hm⟩ := hc
  obtain ⟨e, he⟩ := Can_Fw m p0 b Fw_0 hm
  rcases h with ⟨_, h2⟩ | ⟨e1, h1, h2, h3, h4⟩
  · exact absurd he (h2 e (by have := Fw_len hp he; omega))
  · exact ⟨e1, h1, by omega, Fw_ge h3, h3, fun p1 hw => h4 p1 (by have := Fw_len hp hw; omega) hw⟩
end RF
