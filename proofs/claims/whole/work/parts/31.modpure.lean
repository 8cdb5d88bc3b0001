/-! The reference's own lookahead, as mathematics: from step k at place p the END can be come to. -/
def canN (K V F S : Nat → Nat) (len : Nat) (u : Nat → Nat) (last : Nat) (al : Bool) : Nat → Nat → Nat → Bool
  | 0, _, _ => false
  | m + 1, p, k => if k = 0 then (decide (p = last) || !al) else if takB K V len u k p = true then (decide (p < last) && canN K V F S len u last al m (p + 1) (F k)) else if pasB K V len u k p = true then (canN K V F S len u last al m p (F k) || (decide (K k = 2) && canN K V F S len u last al m p (S k))) else false
def Can (K V F S : Nat → Nat) (len : Nat) (u : Nat → Nat) (last : Nat) (al : Bool) (p k : Nat) : Prop := ∃ m, canN K V F S len u last al m p k = true
section CN
variable {K V F S : Nat → Nat} {len : Nat} {u : Nat → Nat} {last : Nat} {al : Bool} {p k n : Nat}
theorem takB_K (h : takB K V len u k p = true) : 0 < k ∧ K k = 1 ∧ p < len ∧ V k / 256 ≤ u p ∧ u p ≤ V k % 256 := by simpa [takB] using h
theorem pasB_K (h : pasB K V len u k p = true) : 0 < k ∧ (K k = 2 ∨ K k = 3 ∨ K k = 4) := by
  simp only [pasB, Bool.and_eq_true, Bool.or_eq_true, decide_eq_true_eq] at h
  exact ⟨h.1, by rcases h.2 with h | h | h; exact Or.inl h; exact Or.inr (Or.inl h); exact Or.inr (Or.inr h.1)⟩
theorem tak_pas (h : takB K V len u k p = true) : pasB K V len u k p = false := by
  have h1 := (takB_K h).2.1
  cases hq : pasB K V len u k p with
  | false => rfl
  | true => have := (pasB_K hq).2; omega
theorem canN_mono : ∀ (m p k : Nat), canN K V F S len u last al m p k = true → canN K V F S len u last al (m + 1) p k = true := by
  intro m
  induction m with
  | zero => intro p k h; simp [canN] at h
  | succ m ih =>
    intro p k h
    rw [canN] at h ⊢
    split at h
    · rename_i h0; rw [if_pos h0]; exact h
    · rename_i h0
      rw [if_neg h0]
      split at h
      · rename_i h1
        rw [if_pos h1]
        simp only [Bool.and_eq_true] at h ⊢
        exact ⟨h.1, ih _ _ h.2⟩
      · rename_i h1
        rw [if_neg h1]
        split at h
        · rename_i h2
          rw [if_pos h2]
          simp only [Bool.and_eq_true, Bool.or_eq_true] at h ⊢
          rcases h with h | h
          · exact Or.inl (ih _ _ h)
          · exact Or.inr ⟨h.1, ih _ _ h.2⟩
        · cases h
theorem canN_le {m m2 : Nat} (hm : m ≤ m2) {p k : Nat} (h : canN K V F S len u last al m p k = true) : canN K V F S len u last al m2 p k = true := by
  induction hm with
  | refl => exact h
  | step _ ih => exact canN_mono _ _ _ ih
theorem Can_0 (p : Nat) : Can K V F S len u last al p 0 ↔ (p = last ∨ al = false) := by
  constructor
  · intro ⟨m, h⟩
    cases m with
    | zero => simp [canN] at h
    | succ m => simpa [canN] using h
  · intro h; exact ⟨1, by simpa [canN] using h⟩
theorem Can_t (h : takB K V len u k p = true) : Can K V F S len u last al p k ↔ (p < last ∧ Can K V F S len u last al (p + 1) (F k)) := by
  have h0 : ¬ k = 0 := by have := (takB_K h).1; omega
  constructor
  · intro ⟨m, hm⟩
    cases m with
    | zero => simp [canN] at hm
    | succ m => simp [canN, h0, h] at hm; exact ⟨hm.1, m, hm.2⟩
  · intro ⟨h1, m, hm⟩
    exact ⟨m + 1, by simp [canN, h0, h, h1, hm]⟩
theorem Can_p (h : pasB K V len u k p = true) : Can K V F S len u last al p k ↔ (Can K V F S len u last al p (F k) ∨ (K k = 2 ∧ Can K V F S len u last al p (S k))) := by
  have h0 : ¬ k = 0 := by have := (pasB_K h).1; omega
  have ht : takB K V len u k p = false := by
    cases hq : takB K V len u k p with
    | false => rfl
    | true => rw [tak_pas hq] at h; cases h
  constructor
  · intro ⟨m, hm⟩
    cases m with
    | zero => simp [canN] at hm
    | succ m =>
      simp [canN, h0, h, ht] at hm
      rcases hm with hm | hm
      · exact Or.inl ⟨m, hm⟩
      · exact Or.inr ⟨hm.1, m, hm.2⟩
  · intro hm
    rcases hm with ⟨m, hm⟩ | ⟨h1, m, hm⟩
    · exact ⟨m + 1, by simp [canN, h0, h, ht, hm]⟩
    · exact ⟨m + 1, by simp [canN, h0, h, ht, h1, hm]⟩
theorem Can_n (h0 : k ≠ 0) (h1 : takB K V len u k p = false) (h2 : pasB K V len u k p = false) : ¬ Can K V F S len u last al p k := by
  intro ⟨m, hm⟩
  cases m with
  | zero => simp [canN] at hm
  | succ m => simp [canN, h0, h1, h2] at hm
/-- what the first pass lays at a place -/
def Bs (K V F S : Nat → Nat) (len : Nat) (u : Nat → Nat) (last : Nat) (al : Bool) (p k : Nat) : Prop := (k = 0 ∧ (p = last ∨ al = false)) ∨ (0 < k ∧ takB K V len u k p = true ∧ p < last ∧ Can K V F S len u last al (p + 1) (F k))
theorem Bs_Can (h : Bs K V F S len u last al p k) : Can K V F S len u last al p k := by
  rcases h with ⟨rfl, h⟩ | ⟨h0, h1, h2, h3⟩
  · exact (Can_0 p).mpr h
  · exact (Can_t h1).mpr ⟨h2, h3⟩
/-- the rows above place p are right -/
def Above (K V F S : Nat → Nat) (len : Nat) (u : Nat → Nat) (last : Nat) (al : Bool) (n p : Nat) (f : Nat → Bool) : Prop := ∀ p1 k, p ≤ p1 → p1 ≤ last → k < n → (f (200 * p1 + k) = true ↔ Can K V F S len u last al p1 k)
theorem Above_ub {f : Nat → Bool} {v : Bool} (hn : n ≤ 200) (hk : k < n) (h : Above K V F S len u last al n (p + 1) f) : Above K V F S len u last al n (p + 1) (ub f (200 * p + k) v) := by
  intro p1 k1 h1 h2 h3
  rw [ub_n (by omega)]
  exact h p1 k1 h1 h2 h3
theorem Bs_step {f : Nat → Bool} {v : Bool} (h : ∀ k1, k1 < k → (f (200 * p + k1) = true ↔ Bs K V F S len u last al p k1)) (hv : v = true ↔ Bs K V F S len u last al p k) : ∀ k1, k1 < k + 1 → (ub f (200 * p + k) v (200 * p + k1) = true ↔ Bs K V F S len u last al p k1) := by
  intro k1 h1
  rcases Nat.lt_succ_iff_lt_or_eq.mp h1 with h2 | h2
  · rw [ub_n (by omega)]; exact h k1 h2
  · subst h2; rw [ub_s]; exact hv
theorem bs_t0 (h0 : k = 0) (h : p = last ∨ al = false) : (true = true ↔ Bs K V F S len u last al p k) := iff_of_true rfl (Or.inl ⟨h0, h⟩)
theorem bs_f0 (h0 : k = 0) (h1 : p ≠ last) (h2 : al = true) : (false = true ↔ Bs K V F S len u last al p k) := iff_of_false (by simp) (by
  rintro (⟨_, h | h⟩ | ⟨h, _⟩)
  · exact h1 h
  · rw [h2] at h; cases h
  · omega)
theorem bs_t1 (h1 : takB K V len u k p = true) (h2 : p < last) (h3 : Can K V F S len u last al (p + 1) (F k)) : (true = true ↔ Bs K V F S len u last al p k) := iff_of_true rfl (Or.inr ⟨(takB_K h1).1, h1, h2, h3⟩)
theorem bs_f1 (h0 : k ≠ 0) (h : takB K V len u k p = false ∨ last ≤ p ∨ ¬ Can K V F S len u last al (p + 1) (F k)) : (false = true ↔ Bs K V F S len u last al p k) := iff_of_false (by simp) (by
  rintro (⟨h1, _⟩ | ⟨_, h1, h2, h3⟩)
  · exact h0 h1
  · rcases h with h | h | h
    · rw [h] at h1; cases h1
    · omega
    · exact h h3)
/-- how many are not yet known at place p -/
def cntF (n : Nat) (f : Nat → Bool) (p : Nat) : Nat := (List.range n).countP (fun k => !f (200 * p + k))
theorem cntF_ub {f : Nat → Bool} (hk : k < n) (h : f (200 * p + k) = false) : cntF n (ub f (200 * p + k) true) p < cntF n f p := by
  have key : ∀ m, (List.range m).countP (fun j => !ub f (200 * p + k) true (200 * p + j)) + (if k < m then 1 else 0) = (List.range m).countP (fun j => !f (200 * p + j)) := by
    intro m
    induction m with
    | zero => simp
    | succ m ih =>
      rw [List.range_succ, List.countP_append, List.countP_append, ← ih]
      by_cases hm : m = k
      · subst hm
        simp [ub_s, h]
      · have h1 : ub f (200 * p + k) true (200 * p + m) = f (200 * p + m) := ub_n (by omega)
        by_cases h2 : k < m
        · simp [h1, h2, Nat.lt_succ_of_lt h2]; omega
        · have h3 : ¬ k < m + 1 := by omega
          simp [h1, h2, h3]
  have := key n
  rw [if_pos hk] at this
  unfold cntF
  omega
theorem ub_same {f : Nat → Bool} {i : Nat} {v : Bool} (h : f i = v) : ub f i v = f := by
  funext j
  by_cases hj : j = i
  · subst hj; rw [ub_s, h]
  · rw [ub_n hj]
/-- what is known at place p is so; what the first pass laid is known -/
def Snd (K V F S : Nat → Nat) (len : Nat) (u : Nat → Nat) (last : Nat) (al : Bool) (n p : Nat) (f : Nat → Bool) : Prop := ∀ k, k < n → (f (200 * p + k) = true → Can K V F S len u last al p k) ∧ (Bs K V F S len u last al p k → f (200 * p + k) = true)
/-- nothing more comes of step k -/
def Cld (K V F S : Nat → Nat) (len : Nat) (u : Nat → Nat) (p k : Nat) (f : Nat → Bool) : Prop := f (200 * p + k) = false → pasB K V len u k p = true → (f (200 * p + F k) || (decide (K k = 2) && f (200 * p + S k))) = false
theorem Snd_ub {f : Nat → Bool} {v : Bool} (hk : k < n) (h0 : f (200 * p + k) = false) (hp : pasB K V len u k p = true) (hF : F k < n) (hS : K k = 2 → S k < n) (h : Snd K V F S len u last al n p f) (hv : v = (f (200 * p + F k) || (decide (K k = 2) && f (200 * p + S k)))) : Snd K V F S len u last al n p (ub f (200 * p + k) v) := by
  intro k1 h1
  by_cases hk1 : k1 = k
  · subst hk1
    rw [ub_s]
    refine ⟨fun hv1 => ?_, fun hb => ?_⟩
    · rw [hv] at hv1
      refine (Can_p hp).mpr ?_
      simp only [Bool.or_eq_true, Bool.and_eq_true, decide_eq_true_eq] at hv1
      rcases hv1 with q | ⟨q1, q2⟩
      · exact Or.inl ((h _ hF).1 q)
      · exact Or.inr ⟨q1, (h _ (hS q1)).1 q2⟩
    · have := (h k1 h1).2 hb
      rw [h0] at this; cases this
  · rw [ub_n (by omega)]; exact h k1 h1
theorem row_done {f : Nat → Bool} (hF : ∀ i, 0 < i → i < n → (K i = 2 ∨ K i = 3 ∨ K i = 4) → F i < n) (hS : ∀ i, 0 < i → i < n → K i = 2 → S i < n) (ha : Above K V F S len u last al n (p + 1) f) (hs : Snd K V F S len u last al n p f) (hc : ∀ k, 1 ≤ k → k < n → Cld K V F S len u p k f) : Above K V F S len u last al n p f := by
  have key : ∀ m k, k < n → canN K V F S len u last al m p k = true → f (200 * p + k) = true := by
    intro m
    induction m with
    | zero => intro k _ h; simp [canN] at h
    | succ m ih =>
      intro k hk h
      by_cases h0 : k = 0
      · subst h0
        exact (hs 0 hk).2 (Or.inl ⟨rfl, (Can_0 p).mp ⟨m + 1, h⟩⟩)
      · cases ht : takB K V len u k p with
        | true => exact (hs k hk).2 (Or.inr ⟨by omega, ht, (Can_t ht).mp ⟨m + 1, h⟩⟩)
        | false =>
          cases hp : pasB K V len u k p with
          | false => exact absurd ⟨m + 1, h⟩ (Can_n h0 ht hp)
          | true =>
            cases hf : f (200 * p + k) with
            | true => rfl
            | false =>
              have h1 := hc k (by omega) hk hf hp
              simp [canN, h0, ht, hp] at h
              have hK := (pasB_K hp).2
              rcases h with h | h
              · have := ih _ (hF k (by omega) hk hK) h
                rw [this] at h1; simp at h1
              · have := ih _ (hS k (by omega) hk h.1) h.2
                simp [this, h.1] at h1
  intro p1 k h1 h2 h3
  rcases Nat.eq_or_lt_of_le h1 with h4 | h4
  · subst h4
    exact ⟨fun h => (hs k h3).1 h, fun ⟨m, h⟩ => key m k h3 h⟩
  · exact ha p1 k h4 h2 h3
end CN
theorem m1_ltn {j t : Nat} (hj : j < 2 ^ 30) (ht : t < 2 ^ 30) : nI j - nI 1 < nI t ↔ j ≤ t := by
  rcases Nat.eq_zero_or_pos j with h0 | h0
  · subst h0
    constructor
    · intro _; omega
    · intro _
      have h1 : nI 0 - nI 1 < 0 := pk_sneg (by omega) (by omega)
      have h2 : (0 : Int32) ≤ nI t := nI_pos' (by omega)
      exact Int32.lt_of_lt_of_le h1 h2
  · rw [pk_sub h0, nI_ltI (by omega) (by omega)]; omega
theorem m1_dec (p : Nat) : nI p + Int32.ofInt (-1) = nI p - nI 1 := by
  have : Int32.ofInt (-1) = -(nI 1) := by decide
  rw [this, Int32.sub_eq_add_neg]
theorem m1_suc (p : Nat) : nI (p + 1) - nI 1 = nI p := by rw [pk_sub (by omega)]; rfl
section CP
variable {K V F S : Nat → Nat} {len : Nat} {u : Nat → Nat} {last : Nat} {al : Bool} {p k n : Nat}
theorem Cld_more {f : Nat → Bool} {k1 : Nat} (h : ∀ k, 1 ≤ k → k < k1 → Cld K V F S len u p k f) (hk : Cld K V F S len u p k1 f) : ∀ k, 1 ≤ k → k < k1 + 1 → Cld K V F S len u p k f := by
  intro k h1 h2
  rcases Nat.lt_succ_iff_lt_or_eq.mp h2 with h3 | h3
  · exact h k h1 h3
  · subst h3; exact hk
theorem pass_step {f f1 : Nat → Bool} {mo1 v m : Bool} {k1 : Nat} (hn : n ≤ 200) (hk : k1 < n) (h0 : f1 (200 * p + k1) = false) (hp : pasB K V len u k1 p = true) (hF : ∀ i, 0 < i → i < n → (K i = 2 ∨ K i = 3 ∨ K i = 4) → F i < n) (hS : ∀ i, 0 < i → i < n → K i = 2 → S i < n)
    (h11 : 1 ≤ k1) (hab : Above K V F S len u last al n (p + 1) f1) (hsn : Snd K V F S len u last al n p f1) (hct : cntF n f1 p ≤ cntF n f p) (hmt : mo1 = true → cntF n f1 p < cntF n f p) (hmo : mo1 = false → f1 = f ∧ ∀ k, 1 ≤ k → k < k1 → Cld K V F S len u p k f1)
    (hv : v = (f1 (200 * p + F k1) || (decide (K k1 = 2) && f1 (200 * p + S k1)))) (hm : m = (mo1 || v)) :
    1 ≤ k1 + 1 ∧ k1 + 1 ≤ n ∧ Above K V F S len u last al n (p + 1) (ub f1 (200 * p + k1) v) ∧ Snd K V F S len u last al n p (ub f1 (200 * p + k1) v) ∧ cntF n (ub f1 (200 * p + k1) v) p ≤ cntF n f p ∧ (m = true → cntF n (ub f1 (200 * p + k1) v) p < cntF n f p) ∧ (m = false → ub f1 (200 * p + k1) v = f ∧ ∀ k, 1 ≤ k → k < k1 + 1 → Cld K V F S len u p k (ub f1 (200 * p + k1) v)) := by
  refine ⟨by omega, by omega, Above_ub hn hk hab, Snd_ub hk h0 hp (hF k1 (by omega) hk (pasB_K hp).2) (fun h => hS k1 (by omega) hk h) hsn hv, ?_⟩
  cases v with
  | true =>
    have h1 := cntF_ub (n := n) hk h0
    refine ⟨by omega, fun _ => by omega, fun h => ?_⟩
    rw [h] at hm; simp at hm
  | false =>
    rw [ub_same h0]
    refine ⟨hct, fun h => hmt (by rw [h] at hm; simpa using hm.symm), fun h => ?_⟩
    have hmf : mo1 = false := by rw [h] at hm; simpa using hm.symm
    exact ⟨(hmo hmf).1, Cld_more (hmo hmf).2 (fun _ _ => hv.symm)⟩
end CP
