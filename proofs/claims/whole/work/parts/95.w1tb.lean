/-! The table's numbers: what is saved and what must hold, in one. -/
def cdN (s a : Nat) : Nat := (a <<< 18) ||| (s >>> 2)
theorem cd_bit (s a j : Nat) : (cdN s a).testBit j = ((decide (18 ≤ j) && a.testBit (j - 18)) || s.testBit (2 + j)) := by
  rw [cdN, Nat.testBit_or, Nat.testBit_shiftLeft, Nat.testBit_shiftRight]
theorem pw_bit (v j : Nat) : (2 ^ v).testBit j = decide (v = j) := Nat.testBit_two_pow
theorem cd_save {s a v : Nat} (hv : 2 ≤ v) : cdN s a ||| 2 ^ (v - 2) = cdN (s ||| 2 ^ v) a := by
  apply Nat.eq_of_testBit_eq
  intro j
  rw [Nat.testBit_or, cd_bit, cd_bit, Nat.testBit_or, pw_bit, pw_bit]
  have e : decide (v - 2 = j) = decide (v = 2 + j) := decide_eq_decide.mpr (by omega)
  rw [e, Bool.or_assoc]
theorem cd_ass {s a v : Nat} : cdN s a ||| 2 ^ (18 + v) = cdN s (a ||| 2 ^ v) := by
  apply Nat.eq_of_testBit_eq
  intro j
  rw [Nat.testBit_or, cd_bit, cd_bit, Nat.testBit_or, pw_bit, pw_bit]
  by_cases h : 18 ≤ j
  · have e : decide (18 + v = j) = decide (v = j - 18) := decide_eq_decide.mpr (by omega)
    rw [e]
    cases a.testBit (j - 18) <;> cases s.testBit (2 + j) <;> cases decide (v = j - 18) <;> simp [h]
  · have e : ¬ 18 + v = j := by omega
    simp [h, e]
theorem cd_lt {s a : Nat} (hs : s < 2 ^ 20) (ha : a < 2 ^ 6) : cdN s a < 2 ^ 24 := by
  refine Nat.or_lt_two_pow ?_ ?_
  · rw [Nat.shiftLeft_eq]; omega
  · rw [Nat.shiftRight_eq_div_pow]; omega
theorem cd_sv {s a k : Nat} (h2 : 2 ≤ k) (hk : k < 20) : (cdN s a).testBit (k - 2) = s.testBit k := by
  rw [cd_bit, show 2 + (k - 2) = k by omega]
  have : ¬ 18 ≤ k - 2 := by omega
  simp [this]
theorem cd_as {s a : Nat} (hs : s < 2 ^ 20) : cdN s a / 2 ^ 18 = a := by
  apply Nat.eq_of_testBit_eq
  intro j
  rw [Nat.testBit_div_two_pow, cd_bit, show j + 18 - 18 = j by omega, Nat.testBit_lt_two_pow (Nat.lt_of_lt_of_le hs (Nat.pow_le_pow_right (by decide) (by omega)))]
  have : 18 ≤ j + 18 := by omega
  simp [this]
theorem cd_0 : cdN 0 0 = 0 := rfl
/-- saves of the places 2 to 19 alone -/
def SvN (s : Nat) : Prop := s < 2 ^ 20 ∧ s.testBit 0 = false ∧ s.testBit 1 = false
theorem SvN_0 : SvN 0 := ⟨by decide, rfl, rfl⟩
theorem SvN_or {s v : Nat} (h : SvN s) (h2 : 2 ≤ v) (hv : v < 20) : SvN (s ||| 2 ^ v) := by
  refine ⟨Nat.or_lt_two_pow h.1 (Nat.pow_lt_pow_right (by omega) hv), ?_, ?_⟩
  · rw [Nat.testBit_or, pw_bit, h.2.1]; simp; omega
  · rw [Nat.testBit_or, pw_bit, h.2.2]; simp; omega
theorem cd_inj {s a s2 a2 : Nat} (h : SvN s) (h2 : SvN s2) (e : cdN s a = cdN s2 a2) : s = s2 ∧ a = a2 := by
  refine ⟨?_, ?_⟩
  · apply Nat.eq_of_testBit_eq
    intro j
    match j with
    | 0 => rw [h.2.1, h2.2.1]
    | 1 => rw [h.2.2, h2.2.2]
    | j + 2 =>
      by_cases hj : j + 2 < 20
      · have e1 := cd_sv (s := s) (a := a) (k := j + 2) (by omega) hj
        have e2 := cd_sv (s := s2) (a := a2) (k := j + 2) (by omega) hj
        rw [← e1, ← e2, e]
      · rw [Nat.testBit_lt_two_pow (Nat.lt_of_lt_of_le h.1 (Nat.pow_le_pow_right (by decide) (by omega))), Nat.testBit_lt_two_pow (Nat.lt_of_lt_of_le h2.1 (Nat.pow_le_pow_right (by decide) (by omega)))]
  · have e1 := cd_as (s := s) (a := a) h.1
    have e2 := cd_as (s := s2) (a := a2) h2.1
    rw [← e1, ← e2, e]
/-- an action -/
def acN (c o x : Nat) : Nat := c * 128 ||| o ||| x
theorem ac_eq {c o x : Nat} (ho : o = 0 ∨ o = 64) (hx : x < 64) : acN c o x = c * 128 + (o + x) := by
  have h1 : o ||| x = o + x := by
    rcases ho with h | h
    · subst h; simp
    · subst h
      have := Nat.two_pow_add_eq_or_of_lt (i := 6) hx 1
      rw [show 2 ^ 6 * 1 = 64 from rfl] at this
      exact this.symm
  have h2 := Nat.two_pow_add_eq_or_of_lt (i := 7) (b := o + x) (by rcases ho with h | h <;> omega) c
  rw [acN, Nat.or_assoc, h1, Nat.mul_comm]
  exact h2.symm
theorem ac_c {c o x : Nat} (ho : o = 0 ∨ o = 64) (hx : x < 64) : acN c o x / 128 = c ∧ acN c o x % 64 = x ∧ ((acN c o x).testBit 6 = decide (o = 64)) := by
  rw [ac_eq ho hx]
  refine ⟨by rcases ho with h | h <;> omega, by rcases ho with h | h <;> omega, ?_⟩
  rw [Nat.testBit_eq_decide_div_mod_eq]
  refine decide_eq_decide.mpr ?_
  rcases ho with h | h <;> omega
theorem ac_lt {c o x : Nat} (hc : c < 2 ^ 24) (ho : o = 0 ∨ o = 64) (hx : x < 64) : acN c o x < 2 ^ 31 := by
  rw [ac_eq ho hx]; rcases ho with h | h <;> omega
theorem orI {a b : Nat} (ha : a < 2 ^ 31) (hb : b < 2 ^ 31) : nI a ||| nI b = nI (a ||| b) := by
  apply Int32.toBitVec_inj.mp
  apply BitVec.eq_of_toNat_eq
  have h := Nat.or_lt_two_pow ha hb
  rw [Int32.toBitVec_or, BitVec.toNat_or, pk_tn (by omega), pk_tn (by omega), pk_tn (by omega)]
theorem andI {a b : Nat} (ha : a < 2 ^ 31) (hb : b < 2 ^ 31) : nI a &&& nI b = nI (a &&& b) := by
  apply Int32.toBitVec_inj.mp
  apply BitVec.eq_of_toNat_eq
  have h : a &&& b ≤ a := Nat.and_le_left
  rw [Int32.toBitVec_and, BitVec.toNat_and, pk_tn (by omega), pk_tn (by omega), pk_tn (by omega)]
theorem shlI {a r : Nat} (hr : r < 31) (h : a * 2 ^ r < 2 ^ 31) : nI a <<< (nI r &&& 31) = nI (a * 2 ^ r) := pk_shlN _ r (sm32 r (by omega)) (by omega)
theorem and64 {x : Nat} (h : x < 2 ^ 31) : nI x &&& nI 64 = 0 ↔ x.testBit 6 = false := by
  rw [andI h (by omega), ← nI_0, nI_eq (by have : x &&& 64 ≤ x := Nat.and_le_left; omega) (by omega)]
  constructor
  · intro e
    have h2 := congrArg (fun y => y.testBit 6) e
    simp only [Nat.testBit_and, Nat.zero_testBit] at h2
    simpa [show Nat.testBit 64 6 = true from rfl] using h2
  · intro e
    apply Nat.eq_of_testBit_eq
    intro j
    rw [Nat.testBit_and, show (64 : Nat) = 2 ^ 6 from rfl, pw_bit, Nat.zero_testBit]
    by_cases hj : 6 = j
    · subst hj; rw [e]; rfl
    · simp [hj]
/-- all that must hold does -/
theorem ho_and {len : Nat} {u : Nat → Nat} {p a : Nat} (hu : ∀ i, u i < 256) (hp : p ≤ len) (ha : a < 2 ^ 6) : a &&& soP len u p = a ↔ hoB len u p a = true := by
  rw [hoB, List.all_eq_true]
  constructor
  · intro e v hv
    have hv := List.mem_range.mp hv
    have h2 := congrArg (fun y => y.testBit v) e
    simp only [Nat.testBit_and, soP_bit hu hp hv] at h2
    cases h3 : a.testBit v with
    | false => rfl
    | true => rw [h3] at h2; simpa using h2
  · intro h
    apply Nat.eq_of_testBit_eq
    intro v
    rw [Nat.testBit_and]
    by_cases hv : v < 6
    · have := h v (List.mem_range.mpr hv)
      rw [soP_bit hu hp hv]
      cases h3 : a.testBit v with
      | false => rfl
      | true => rw [h3] at this; simpa using this
    · rw [Nat.testBit_lt_two_pow (Nat.lt_of_lt_of_le ha (Nat.pow_le_pow_right (by decide) (by omega)))]; rfl
