/-! Forward: what can be come to from the beginning at place p0. -/
def fwN (K V F S : Nat → Nat) (len : Nat) (u : Nat → Nat) (p0 b : Nat) : Nat → Nat → Nat → Prop
  | 0, p, k => p = p0 ∧ k = b
  | m + 1, p, k => fwN K V F S len u p0 b m p k ∨ (∃ p1 k1, fwN K V F S len u p0 b m p1 k1 ∧ takB K V len u k1 p1 = true ∧ p = p1 + 1 ∧ k = F k1) ∨ (∃ k1, fwN K V F S len u p0 b m p k1 ∧ pasB K V len u k1 p = true ∧ (k = F k1 ∨ (K k1 = 2 ∧ k = S k1)))
def Fw (K V F S : Nat → Nat) (len : Nat) (u : Nat → Nat) (p0 b p k : Nat) : Prop := ∃ m, fwN K V F S len u p0 b m p k
def Ent (K V F S : Nat → Nat) (len : Nat) (u : Nat → Nat) (p0 b p k : Nat) : Prop := (p = p0 ∧ k = b) ∨ ∃ p1 k1, Fw K V F S len u p0 b p1 k1 ∧ takB K V len u k1 p1 = true ∧ p = p1 + 1 ∧ k = F k1
section FW
variable {K V F S : Nat → Nat} {len : Nat} {u : Nat → Nat} {p0 b p k n : Nat}
theorem Fw_0 : Fw K V F S len u p0 b p0 b := ⟨0, rfl, rfl⟩
theorem Fw_t {k1 : Nat} (h : Fw K V F S len u p0 b p k1) (ht : takB K V len u k1 p = true) : Fw K V F S len u p0 b (p + 1) (F k1) := by
  obtain ⟨m, hm⟩ := h
  exact ⟨m + 1, Or.inr (Or.inl ⟨p, k1, hm, ht, rfl, rfl⟩)⟩
theorem Fw_f {k1 : Nat} (h : Fw K V F S len u p0 b p k1) (hp : pasB K V len u k1 p = true) : Fw K V F S len u p0 b p (F k1) := by
  obtain ⟨m, hm⟩ := h
  exact ⟨m + 1, Or.inr (Or.inr ⟨k1, hm, hp, Or.inl rfl⟩)⟩
theorem Fw_s {k1 : Nat} (h : Fw K V F S len u p0 b p k1) (hp : pasB K V len u k1 p = true) (h2 : K k1 = 2) : Fw K V F S len u p0 b p (S k1) := by
  obtain ⟨m, hm⟩ := h
  exact ⟨m + 1, Or.inr (Or.inr ⟨k1, hm, hp, Or.inr ⟨h2, rfl⟩⟩)⟩
theorem Ent_Fw (h : Ent K V F S len u p0 b p k) : Fw K V F S len u p0 b p k := by
  rcases h with ⟨rfl, rfl⟩ | ⟨p1, k1, h1, h2, rfl, rfl⟩
  · exact Fw_0
  · exact Fw_t h1 h2
theorem Fw_ge (h : Fw K V F S len u p0 b p k) : p0 ≤ p := by
  obtain ⟨m, hm⟩ := h
  induction m generalizing p k with
  | zero => exact Nat.le_of_eq hm.1.symm
  | succ m ih =>
    rcases hm with hm | ⟨p1, k1, h1, _, rfl, _⟩ | ⟨k1, h1, _⟩
    · exact ih hm
    · have := ih h1; omega
    · exact ih h1
theorem Fw_len (hp : p0 ≤ len) (h : Fw K V F S len u p0 b p k) : p ≤ len := by
  obtain ⟨m, hm⟩ := h
  induction m generalizing p k with
  | zero => rw [hm.1]; exact hp
  | succ m ih =>
    rcases hm with hm | ⟨p1, k1, h1, h2, rfl, _⟩ | ⟨k1, h1, _⟩
    · exact ih hm
    · have := (takB_K h2).2.2.1; omega
    · exact ih h1
theorem Fw_lt (hb : b < n) (hF1 : ∀ i, 0 < i → i < n → (K i = 1 ∨ K i = 2 ∨ K i = 3 ∨ K i = 4) → F i < n) (hS : ∀ i, 0 < i → i < n → K i = 2 → S i < n) (h : Fw K V F S len u p0 b p k) : k < n := by
  obtain ⟨m, hm⟩ := h
  induction m generalizing p k with
  | zero => rw [hm.2]; exact hb
  | succ m ih =>
    rcases hm with hm | ⟨p1, k1, h1, h2, _, rfl⟩ | ⟨k1, h1, h2, h3⟩
    · exact ih hm
    · exact hF1 k1 (takB_K h2).1 (ih h1) (Or.inl (takB_K h2).2.1)
    · have hk := pasB_K h2
      rcases h3 with rfl | ⟨h3, rfl⟩
      · exact hF1 k1 hk.1 (ih h1) (by omega)
      · exact hS k1 hk.1 (ih h1) h3
/-- the rows below place p are right -/
def Blw (K V F S : Nat → Nat) (len : Nat) (u : Nat → Nat) (p0 b n p : Nat) (f : Nat → Bool) : Prop := ∀ p1 k, p0 ≤ p1 → p1 < p → k < n → (f (200 * p1 + k) = true ↔ Fw K V F S len u p0 b p1 k)
/-- nothing is laid yet beyond place p -/
def Nil (len n p : Nat) (f : Nat → Bool) : Prop := ∀ p1 k, p < p1 → p1 ≤ len → k < n → f (200 * p1 + k) = false
/-- at place p: what is laid can be come to; what comes in is laid -/
def Sfw (K V F S : Nat → Nat) (len : Nat) (u : Nat → Nat) (p0 b n p : Nat) (f : Nat → Bool) : Prop := ∀ k, k < n → (f (200 * p + k) = true → Fw K V F S len u p0 b p k) ∧ (Ent K V F S len u p0 b p k → f (200 * p + k) = true)
def Cfw (K V F S : Nat → Nat) (len : Nat) (u : Nat → Nat) (p k : Nat) (f : Nat → Bool) : Prop := f (200 * p + k) = true → pasB K V len u k p = true → f (200 * p + F k) = true ∧ (K k = 2 → f (200 * p + S k) = true)
theorem cntF_le {f : Nat → Bool} {i : Nat} : cntF n (ub f i true) p ≤ cntF n f p := by
  unfold cntF
  apply List.countP_mono_left
  intro j _ h
  by_cases hj : 200 * p + j = i
  · rw [hj, ub_s] at h; cases h
  · rw [ub_n hj] at h; exact h
theorem Blw_ub {f : Nat → Bool} {v : Bool} (hn : n ≤ 200) (hk : k < n) (h : Blw K V F S len u p0 b n p f) : Blw K V F S len u p0 b n p (ub f (200 * p + k) v) := by
  intro p1 k1 h1 h2 h3
  rw [ub_n (by omega)]
  exact h p1 k1 h1 h2 h3
theorem Nil_ub {f : Nat → Bool} {v : Bool} (hn : n ≤ 200) (hk : k < n) (h : Nil len n p f) : Nil len n p (ub f (200 * p + k) v) := by
  intro p1 k1 h1 h2 h3
  rw [ub_n (by omega)]
  exact h p1 k1 h1 h2 h3
theorem Sfw_ub {f : Nat → Bool} (hF : Fw K V F S len u p0 b p k) (h : Sfw K V F S len u p0 b n p f) : Sfw K V F S len u p0 b n p (ub f (200 * p + k) true) := by
  intro k1 h1
  by_cases hk1 : k1 = k
  · subst hk1; rw [ub_s]; exact ⟨fun _ => hF, fun _ => rfl⟩
  · rw [ub_n (by omega)]; exact h k1 h1
theorem Cfw_more {f : Nat → Bool} {k1 : Nat} (h : ∀ k, 1 ≤ k → k < k1 → Cfw K V F S len u p k f) (hk : Cfw K V F S len u p k1 f) : ∀ k, 1 ≤ k → k < k1 + 1 → Cfw K V F S len u p k f := by
  intro k h1 h2
  rcases Nat.lt_succ_iff_lt_or_eq.mp h2 with h3 | h3
  · exact h k h1 h3
  · subst h3; exact hk
theorem fpass_step {f f1 : Nat → Bool} {mo1 m : Bool} {k1 bb : Nat} (hn : n ≤ 200) (hk : k1 < n) (h0 : f1 (200 * p + k1) = true) (hp : pasB K V len u k1 p = true) (hF : ∀ i, 0 < i → i < n → (K i = 2 ∨ K i = 3 ∨ K i = 4) → F i < n) (hS : ∀ i, 0 < i → i < n → K i = 2 → S i < n)
    (h11 : 1 ≤ k1) (hbl : Blw K V F S len u p0 b n p f1) (hni : Nil len n p f1) (hsf : Sfw K V F S len u p0 b n p f1) (hct : cntF n f1 p ≤ cntF n f p) (hmt : mo1 = true → cntF n f1 p < cntF n f p) (hmo : mo1 = false → f1 = f ∧ ∀ k, 1 ≤ k → k < k1 → Cfw K V F S len u p k f1)
    (hbb : bb = if K k1 = 2 then S k1 else F k1) (hm : m = (mo1 || (!f1 (200 * p + F k1) || !f1 (200 * p + bb)))) :
    1 ≤ k1 + 1 ∧ k1 + 1 ≤ n ∧ Blw K V F S len u p0 b n p (ub (ub f1 (200 * p + F k1) true) (200 * p + bb) true) ∧ Nil len n p (ub (ub f1 (200 * p + F k1) true) (200 * p + bb) true) ∧ Sfw K V F S len u p0 b n p (ub (ub f1 (200 * p + F k1) true) (200 * p + bb) true) ∧ cntF n (ub (ub f1 (200 * p + F k1) true) (200 * p + bb) true) p ≤ cntF n f p ∧ (m = true → cntF n (ub (ub f1 (200 * p + F k1) true) (200 * p + bb) true) p < cntF n f p) ∧ (m = false → ub (ub f1 (200 * p + F k1) true) (200 * p + bb) true = f ∧ ∀ k, 1 ≤ k → k < k1 + 1 → Cfw K V F S len u p k (ub (ub f1 (200 * p + F k1) true) (200 * p + bb) true)) := by
  have hKp := (pasB_K hp).2
  have hFn := hF k1 (by omega) hk hKp
  have hw : Fw K V F S len u p0 b p k1 := (hsf k1 hk).1 h0
  have hbn : bb < n ∧ Fw K V F S len u p0 b p bb := by
    by_cases h2 : K k1 = 2
    · rw [if_pos h2] at hbb; subst hbb; exact ⟨hS k1 (by omega) hk h2, Fw_s hw hp h2⟩
    · rw [if_neg h2] at hbb; subst hbb; exact ⟨hFn, Fw_f hw hp⟩
  have c1 : cntF n (ub f1 (200 * p + F k1) true) p ≤ cntF n f1 p := cntF_le
  have c2 : cntF n (ub (ub f1 (200 * p + F k1) true) (200 * p + bb) true) p ≤ cntF n (ub f1 (200 * p + F k1) true) p := cntF_le
  refine ⟨by omega, by omega, Blw_ub hn hbn.1 (Blw_ub hn hFn hbl), Nil_ub hn hbn.1 (Nil_ub hn hFn hni), Sfw_ub hbn.2 (Sfw_ub (Fw_f hw hp) hsf), by omega, ?_, ?_⟩
  · intro hmt1
    rw [hmt1] at hm
    cases mo1 with
    | true => have := hmt rfl; omega
    | false =>
      cases h1 : f1 (200 * p + F k1) with
      | false => have := cntF_ub (n := n) (f := f1) (p := p) hFn h1; omega
      | true =>
        cases h2 : f1 (200 * p + bb) with
        | true => simp [h1, h2] at hm
        | false =>
          have h3 : ub f1 (200 * p + F k1) true = f1 := ub_same h1
          have h4 := cntF_ub (n := n) (f := f1) (p := p) hbn.1 h2
          rw [h3]; omega
  · intro hmf
    rw [hmf] at hm
    cases mo1 with
    | true => simp at hm
    | false =>
      cases h1 : f1 (200 * p + F k1) with
      | false => simp [h1] at hm
      | true =>
        cases h2 : f1 (200 * p + bb) with
        | false => simp [h1, h2] at hm
        | true =>
          rw [ub_same (v := true) h1, ub_same (v := true) h2]
          refine ⟨(hmo rfl).1, Cfw_more (hmo rfl).2 (fun _ _ => ⟨h1, fun hk2 => ?_⟩)⟩
          rw [if_pos hk2] at hbb; subst hbb; exact h2
theorem frow_done {f : Nat → Bool} (hb : b < n) (hF1 : ∀ i, 0 < i → i < n → (K i = 1 ∨ K i = 2 ∨ K i = 3 ∨ K i = 4) → F i < n) (hS : ∀ i, 0 < i → i < n → K i = 2 → S i < n) (hs : Sfw K V F S len u p0 b n p f) (hc : ∀ k, 1 ≤ k → k < n → Cfw K V F S len u p k f) : ∀ k, k < n → (f (200 * p + k) = true ↔ Fw K V F S len u p0 b p k) := by
  have key : ∀ m k, k < n → fwN K V F S len u p0 b m p k → f (200 * p + k) = true := by
    intro m
    induction m with
    | zero => intro k hk h; exact (hs k hk).2 (Or.inl h)
    | succ m ih =>
      intro k hk h
      rcases h with h | ⟨p1, k1, h1, h2, h3, h4⟩ | ⟨k1, h1, h2, h3⟩
      · exact ih k hk h
      · exact (hs k hk).2 (Or.inr ⟨p1, k1, ⟨m, h1⟩, h2, h3, h4⟩)
      · have hk1 : k1 < n := Fw_lt hb hF1 hS ⟨m, h1⟩
        have h5 := hc k1 (pasB_K h2).1 hk1 (ih k1 hk1 h1) h2
        rcases h3 with rfl | ⟨h3, rfl⟩
        · exact h5.1
        · exact h5.2 h3
  intro k hk
  exact ⟨fun h => (hs k hk).1 h, fun ⟨m, h⟩ => key m k hk h⟩
/-- the bytes of place p lead on: the row beyond, as far as step k1 -/
def Nxt (K V F S : Nat → Nat) (len : Nat) (u : Nat → Nat) (p0 b n p k1 : Nat) (f : Nat → Bool) : Prop := ∀ k, k < n → (f (200 * (p + 1) + k) = true ↔ ∃ k2, 1 ≤ k2 ∧ k2 < k1 ∧ Fw K V F S len u p0 b p k2 ∧ takB K V len u k2 p = true ∧ k = F k2)
theorem Nxt_0 {f : Nat → Bool} (hp : p < len) (h : Nil len n p f) : Nxt K V F S len u p0 b n p 1 f := by
  intro k hk
  rw [h (p + 1) k (by omega) (by omega) hk]
  exact ⟨(fun h => by cases h), fun ⟨k2, h1, h2, _⟩ => absurd h1 (by omega)⟩
theorem Nxt_keep {f : Nat → Bool} {k1 : Nat} (h : Nxt K V F S len u p0 b n p k1 f) (hk : ¬ (Fw K V F S len u p0 b p k1 ∧ takB K V len u k1 p = true)) : Nxt K V F S len u p0 b n p (k1 + 1) f := by
  intro k hkn
  rw [h k hkn]
  constructor
  · rintro ⟨k2, h1, h2, h3⟩; exact ⟨k2, h1, by omega, h3⟩
  · rintro ⟨k2, h1, h2, h3, h4, h5⟩
    refine ⟨k2, h1, ?_, h3, h4, h5⟩
    rcases Nat.lt_succ_iff_lt_or_eq.mp h2 with h6 | h6
    · exact h6
    · subst h6; exact absurd ⟨h3, h4⟩ hk
theorem Nxt_add {f : Nat → Bool} {k1 : Nat} (hk1 : 1 ≤ k1) (h : Nxt K V F S len u p0 b n p k1 f) (hf : Fw K V F S len u p0 b p k1) (ht : takB K V len u k1 p = true) : Nxt K V F S len u p0 b n p (k1 + 1) (ub f (200 * (p + 1) + F k1) true) := by
  intro k hkn
  by_cases hk : k = F k1
  · subst hk
    rw [ub_s]
    exact ⟨fun _ => ⟨k1, hk1, by omega, hf, ht, rfl⟩, fun _ => rfl⟩
  · rw [ub_n (by omega), h k hkn]
    constructor
    · rintro ⟨k2, h1, h2, h3⟩; exact ⟨k2, h1, by omega, h3⟩
    · rintro ⟨k2, h1, h2, h3, h4, h5⟩
      refine ⟨k2, h1, ?_, h3, h4, h5⟩
      rcases Nat.lt_succ_iff_lt_or_eq.mp h2 with h6 | h6
      · exact h6
      · subst h6; exact absurd h5 hk
/-- which END is the last one so far -/
def Las (K V F S : Nat → Nat) (len : Nat) (u : Nat → Nat) (p0 b p : Nat) (x : Int32) : Prop := (x = -1 ∧ ∀ p1, p1 < p → ¬ Fw K V F S len u p0 b p1 0) ∨ ∃ e1, x = nI e1 ∧ e1 < p ∧ Fw K V F S len u p0 b e1 0 ∧ ∀ p1, p1 < p → Fw K V F S len u p0 b p1 0 → p1 ≤ e1
theorem Las_t {x : Int32} (h : Fw K V F S len u p0 b p 0) : Las K V F S len u p0 b (p + 1) (nI p) := Or.inr ⟨p, rfl, by omega, h, fun p1 h1 _ => by omega⟩
theorem Las_f {x : Int32} (h : Las K V F S len u p0 b p x) (hn : ¬ Fw K V F S len u p0 b p 0) : Las K V F S len u p0 b (p + 1) x := by
  rcases h with ⟨h1, h2⟩ | ⟨e1, h1, h2, h3, h4⟩
  · exact Or.inl ⟨h1, fun p1 hp hw => by
      rcases Nat.lt_succ_iff_lt_or_eq.mp hp with h6 | h6
      · exact h2 p1 h6 hw
      · subst h6; exact hn hw⟩
  · exact Or.inr ⟨e1, h1, by omega, h3, fun p1 hp hw => by
      rcases Nat.lt_succ_iff_lt_or_eq.mp hp with h6 | h6
      · exact h4 p1 h6 hw
      · subst h6; exact absurd hw hn⟩
end FW
section FW2
variable {K V F S : Nat → Nat} {len : Nat} {u : Nat → Nat} {p0 b p k n : Nat}
theorem wip_step {f : Nat → Bool} {a : Nat} (h : ∀ i, a ≤ i → i < k → f i = false) : ∀ i, a ≤ i → i < k + 1 → ub f k false i = false := by
  intro i h1 h2
  by_cases hi : i = k
  · subst hi; exact ub_s
  · rw [ub_n hi]; exact h i h1 (by omega)
theorem init_fw {f : Nat → Bool} (hn : n ≤ 200) (hb : b < n) (hp : p0 ≤ len) (h : ∀ i, 200 * p0 ≤ i → i < 200 * len + 200 → f i = false) :
    Blw K V F S len u p0 b n p0 (ub f (200 * p0 + b) true) ∧ Nil len n p0 (ub f (200 * p0 + b) true) ∧ Sfw K V F S len u p0 b n p0 (ub f (200 * p0 + b) true) := by
  refine ⟨fun p1 k h1 h2 _ => absurd h1 (by omega), fun p1 k h1 h2 h3 => ?_, fun k hk => ⟨fun hf => ?_, fun he => ?_⟩⟩
  · rw [ub_n (by omega)]; exact h _ (by omega) (by omega)
  · by_cases hkb : k = b
    · subst hkb; exact Fw_0
    · rw [ub_n (by omega), h _ (by omega) (by omega)] at hf; cases hf
  · rcases he with ⟨_, rfl⟩ | ⟨p1, k1, h1, _, h3, _⟩
    · exact ub_s
    · have := Fw_ge h1; omega
theorem Blw_s {f : Nat → Bool} (h : Blw K V F S len u p0 b n p f) (hr : ∀ k, k < n → (f (200 * p + k) = true ↔ Fw K V F S len u p0 b p k)) : Blw K V F S len u p0 b n (p + 1) f := by
  intro p1 k h1 h2 h3
  rcases Nat.lt_succ_iff_lt_or_eq.mp h2 with h4 | h4
  · exact h p1 k h1 h4 h3
  · subst h4; exact hr k h3
theorem Sfw_nxt {f : Nat → Bool} {k1 : Nat} (hk : n ≤ k1) (hp : p0 ≤ p) (hb : b < n) (hF1 : ∀ i, 0 < i → i < n → (K i = 1 ∨ K i = 2 ∨ K i = 3 ∨ K i = 4) → F i < n) (hS : ∀ i, 0 < i → i < n → K i = 2 → S i < n) (h : Nxt K V F S len u p0 b n p k1 f) : Sfw K V F S len u p0 b n (p + 1) f := by
  intro k hkn
  refine ⟨fun hf => ?_, fun he => ?_⟩
  · obtain ⟨k2, _, _, h3, h4, rfl⟩ := (h k hkn).mp hf
    exact Fw_t h3 h4
  · rcases he with ⟨h1, _⟩ | ⟨p1, k2, h1, h2, h3, h4⟩
    · omega
    · have e1 : p1 = p := by omega
      subst e1
      have h5 := Fw_lt hb hF1 hS h1
      exact (h k hkn).mpr ⟨k2, (takB_K h2).1, by omega, h1, h2, h4⟩
/-- what is kept while the bytes of place p are gone over -/
def Ovr (K V F S : Nat → Nat) (len : Nat) (u : Nat → Nat) (p0 b n p k2 : Nat) (f : Nat → Bool) : Prop := (∀ k, k < n → (f (200 * p + k) = true ↔ Fw K V F S len u p0 b p k)) ∧ Blw K V F S len u p0 b n p f ∧ (p < len → Nxt K V F S len u p0 b n p k2 f ∧ Nil len n (p + 1) f)
theorem Ovr_0 {f : Nat → Bool} (hr : ∀ k, k < n → (f (200 * p + k) = true ↔ Fw K V F S len u p0 b p k)) (hb : Blw K V F S len u p0 b n p f) (hn : Nil len n p f) : Ovr K V F S len u p0 b n p 1 f :=
  ⟨hr, hb, fun hp => ⟨Nxt_0 hp hn, fun p1 k h1 h2 h3 => hn p1 k (by omega) h2 h3⟩⟩
theorem Ovr_keep {f : Nat → Bool} {k2 : Nat} (h : Ovr K V F S len u p0 b n p k2 f) (hk : ¬ (Fw K V F S len u p0 b p k2 ∧ takB K V len u k2 p = true)) : Ovr K V F S len u p0 b n p (k2 + 1) f :=
  ⟨h.1, h.2.1, fun hp => ⟨Nxt_keep (h.2.2 hp).1 hk, (h.2.2 hp).2⟩⟩
theorem Ovr_add {f : Nat → Bool} {k2 : Nat} (hn : n ≤ 200) (hF : F k2 < n) (hk2 : 1 ≤ k2) (h : Ovr K V F S len u p0 b n p k2 f) (hf : Fw K V F S len u p0 b p k2) (ht : takB K V len u k2 p = true) : Ovr K V F S len u p0 b n p (k2 + 1) (ub f (200 * p + 200 + F k2) true) := by
  have e : 200 * p + 200 + F k2 = 200 * (p + 1) + F k2 := by omega
  rw [e]
  refine ⟨fun k hk => ?_, fun p1 k h1 h2 h3 => ?_, fun hp => ⟨Nxt_add hk2 (h.2.2 hp).1 hf ht, fun p1 k h1 h2 h3 => ?_⟩⟩
  · rw [ub_n (by omega)]; exact h.1 k hk
  · rw [ub_n (by omega)]; exact h.2.1 p1 k h1 h2 h3
  · rw [ub_n (by omega)]; exact (h.2.2 hp).2 p1 k h1 h2 h3
end FW2
