/-! What is kept of states. -/
def stK (stp : Nat → Nat) (k : Nat) (st : Nat → Nat) (m : Nat) : Nat → Nat := fun q => if k * 200 ≤ q ∧ q < k * 200 + m then st (q - k * 200) else stp q
theorem stK_0 (stp : Nat → Nat) (k : Nat) (st : Nat → Nat) : stK stp k st 0 = stp := by funext q; rw [stK, if_neg (by omega)]
theorem stK_s (stp : Nat → Nat) (k : Nat) (st : Nat → Nat) (m : Nat) : un (stK stp k st m) (k * 200 + m) (st m) = stK stp k st (m + 1) := by
  funext q; rw [un, stK, stK]
  by_cases h : q = k * 200 + m
  · rw [if_pos h, if_pos (by omega), show q - k * 200 = m by omega]
  · rw [if_neg h]
    by_cases h2 : k * 200 ≤ q ∧ q < k * 200 + m
    · rw [if_pos h2, if_pos (by omega)]
    · rw [if_neg h2, if_neg (by omega)]
/-- a state of this number is this row with this label -/
def KSm (stp cnt lbl : Nat → Nat) (i : Nat) (ct : Nat) (st : Nat → Nat) (lb : Nat) : Prop := lbl i = lb ∧ cnt i = ct ∧ ∀ j, j < ct → stp (i * 200 + j) = st j
/-- what numberOf leaves -/
def NR (mo kn : Nat) (stp mvs cnt lbl : Nat → Nat) (ct : Nat) (st : Nat → Nat) (lb : Nat) (i kn2 : Nat) (stp2 mvs2 cnt2 lbl2 : Nat → Nat) : Prop :=
  (i < kn ∧ KSm stp cnt lbl i ct st lb ∧ kn2 = kn ∧ stp2 = stp ∧ mvs2 = mvs ∧ cnt2 = cnt ∧ lbl2 = lbl) ∨
  (((kn < mo ∧ i = kn) ∨ (mo ≤ kn ∧ i = 0)) ∧ kn2 = i + 1 ∧ stp2 = stK stp i st ct ∧ mvs2 = wpR mvs (33 * i) (33 * i + 33) ∧ cnt2 = un cnt i ct ∧ lbl2 = un lbl i lb)
