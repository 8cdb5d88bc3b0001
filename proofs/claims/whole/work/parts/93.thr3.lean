/-! What is so at a place, in bits; the run of the rows of threads, one place after the other. -/
def isWI (x : Int32) : Bool := (!decide (x < nI 48) && decide (x ≤ nI 57)) || ((!decide (x < nI 65) && decide (x ≤ nI 90)) || ((!decide (x < nI 97) && decide (x ≤ nI 122)) || decide (x = nI 95)))
theorem isWI_n {c : Nat} (h : c < 256) : isWI (nI c) = isW c := by
  have a : ∀ m, m < 256 → decide (nI c < nI m) = decide (c < m) := fun m hm => decide_eq_decide.mpr (nI_ltI (by omega) (by omega))
  have b : ∀ m, m < 256 → decide (nI c ≤ nI m) = decide (c ≤ m) := fun m hm => decide_eq_decide.mpr (nI_leI (by omega) (by omega))
  have d : decide (nI c = nI 95) = decide (c = 95) := decide_eq_decide.mpr (nI_eq (by omega) (by omega))
  rw [isWI, isW, a 48 (by omega), b 57 (by omega), a 65 (by omega), b 90 (by omega), a 97 (by omega), b 122 (by omega), d]
  by_cases h1 : c < 48 <;> by_cases h2 : c ≤ 57 <;> by_cases h3 : c < 65 <;> by_cases h4 : c ≤ 90 <;> by_cases h5 : c < 97 <;> by_cases h6 : c ≤ 122 <;> by_cases h7 : c = 95 <;> simp [h1, h2, h3, h4, h5, h6, h7] <;> omega
theorem isWI_m1 : isWI (-1) = false := by decide
def soG (a b c d e : Bool) : Nat := (if a = true then 32 else 16) ||| (if b = true then 5 else 0) ||| (if c = true then 10 else 0) ||| (if d = true then 4 else 0) ||| (if e = true then 8 else 0)
theorem soG_lt : ∀ a b c d e, soG a b c d e < 64 := by decide
theorem soG_bit : ∀ a b c d e, (soG a b c d e).testBit 0 = b ∧ (soG a b c d e).testBit 1 = c ∧ (soG a b c d e).testBit 2 = (b || d) ∧ (soG a b c d e).testBit 3 = (c || e) ∧ (soG a b c d e).testBit 4 = !a ∧ (soG a b c d e).testBit 5 = a := by decide
def soW (x y : Int32) : Nat := soG (decide (isWI x = isWI y)) (decide (x = -1)) (decide (y = -1)) (decide (x = nI 10)) (decide (y = nI 10))
def soP (len : Nat) (u : Nat → Nat) (p : Nat) : Nat := soW (bvI len u p) (bvI len u (p + 1))
theorem soW_lt (x y : Int32) : soW x y < 64 := soG_lt _ _ _ _ _
theorem soP_lt (len : Nat) (u : Nat → Nat) (p : Nat) : soP len u p < 64 := soW_lt _ _
theorem bvI_w {len : Nat} {u : Nat → Nat} {q : Nat} (hu : ∀ i, u i < 256) : isWI (bvI len u q) = isW (byB len u q) := by
  rw [bvI, byB]
  split
  · exact isWI_n (hu _)
  · decide
theorem bvI_m1 {len : Nat} {u : Nat → Nat} {q : Nat} (hu : ∀ i, u i < 256) : bvI len u q = -1 ↔ ¬ (1 ≤ q ∧ q ≤ len) := by
  rw [bvI]
  split
  · rename_i h
    constructor
    · intro h2; exact absurd h2 (nI_nm1 (by have := hu (q - 1); omega))
    · intro h2; exact absurd h h2
  · rename_i h; simp [h]
theorem bvI_10 {len : Nat} {u : Nat → Nat} {q : Nat} (hu : ∀ i, u i < 256) : bvI len u q = nI 10 ↔ 1 ≤ q ∧ q ≤ len ∧ u (q - 1) = 10 := by
  rw [bvI]
  have := hu (q - 1)
  split
  · rename_i h
    rw [nI_eq (by omega) (by omega)]
    constructor
    · intro h2; exact ⟨h.1, h.2, h2⟩
    · intro h2; exact h2.2.2
  · rename_i h
    constructor
    · intro h2; exact absurd h2 (by decide)
    · intro h2; exact absurd ⟨h2.1, h2.2.1⟩ h
/-- the bits of what is so -/
theorem soP_bit {len : Nat} {u : Nat → Nat} {v p : Nat} (hu : ∀ i, u i < 256) (hp : p ≤ len) (hv : v < 6) : (soP len u p).testBit v = soB len u v p := by
  have hw1 := bvI_w (len := len) (q := p) hu
  have hw2 := bvI_w (len := len) (q := p + 1) hu
  have hm1 := bvI_m1 (len := len) (q := p) hu
  have hm2 := bvI_m1 (len := len) (q := p + 1) hu
  have ht1 := bvI_10 (len := len) (q := p) hu
  have ht2 := bvI_10 (len := len) (q := p + 1) hu
  rw [show p + 1 - 1 = p by omega] at ht2
  have em1 : (bvI len u p = -1) ↔ p = 0 := hm1.trans (by omega)
  have em2 : (bvI len u (p + 1) = -1) ↔ p = len := hm2.trans (by omega)
  have ed1 : decide (bvI len u p = -1) = decide (p = 0) := decide_eq_decide.mpr em1
  have ed2 : decide (bvI len u (p + 1) = -1) = decide (p = len) := decide_eq_decide.mpr em2
  obtain ⟨b0, b1, b2, b3, b4, b5⟩ := soG_bit (decide (isWI (bvI len u p) = isWI (bvI len u (p + 1)))) (decide (bvI len u p = -1)) (decide (bvI len u (p + 1) = -1)) (decide (bvI len u p = nI 10)) (decide (bvI len u (p + 1) = nI 10))
  unfold soP soW
  match v, hv with
  | 0, _ => rw [b0, ed1]; rfl
  | 1, _ => rw [b1, ed2]; rfl
  | 2, _ =>
    rw [b2, ed1]
    simp only [soB]
    rw [show decide (bvI len u p = nI 10) = decide (1 ≤ p ∧ p ≤ len ∧ u (p - 1) = 10) from decide_eq_decide.mpr ht1]
    by_cases h2 : p = 0
    · simp [h2]
    · have h3 : 1 ≤ p := by omega
      simp [h2, h3, hp]
  | 3, _ =>
    rw [b3, ed2]
    simp only [soB]
    rw [show decide (bvI len u (p + 1) = nI 10) = decide (1 ≤ p + 1 ∧ p + 1 ≤ len ∧ u p = 10) from decide_eq_decide.mpr ht2]
    by_cases h2 : p = len
    · simp [h2]
    · have h3 : p < len := by omega
      have h4 : p + 1 ≤ len := h3
      simp [h2, h3, h4]
  | 4, _ =>
    rw [b4, hw1, hw2]
    simp only [soB]
    cases isW (byB len u p) <;> cases isW (byB len u (p + 1)) <;> rfl
  | 5, _ =>
    rw [b5, hw1, hw2]
    simp only [soB]
    cases isW (byB len u p) <;> cases isW (byB len u (p + 1)) <;> rfl
theorem sm32 : ∀ v, v < 32 → ((nI v &&& 31).toBitVec.smod 32).toNat = v := by decide
/-- a bit of a number -/
theorem bitI {s v : Nat} (hs : s < 2 ^ 31) (hv : v < 32) : nI s >>> (nI v &&& 31) &&& nI 1 = 0 ↔ s.testBit v = false := by
  rw [pk_shrN hs _ v (sm32 v hv), pk_andN (by have := Nat.div_le_self s (2 ^ v); omega) 1 (by rfl), ← nI_0, nI_eq (by have := Nat.mod_lt (s / 2 ^ v) (by decide : 0 < 2 ^ 1); omega) (by omega), Nat.testBit_eq_decide_div_mod_eq]
  have := Nat.mod_lt (s / 2 ^ v) (by decide : 0 < 2)
  simp
theorem pk_step {K V F S : Nat → Nat} {len : Nat} {u : Nat → Nat} {p n b how fr m : Nat} {lo : Bool} {T T2 : List (Nat × Sv)} {best : Option (Nat × Sv)} (H : FS K F S n) (hT : ∀ x ∈ T, x.1 < n) (hb : b < n) (h2 : T2 = T ++ (if best = none ∧ (how = 0 ∨ p = fr) then [(b, svB p)] else [])) :
    pkN K V F S len u n b how lo true fr (m + 1) p T best = pkN K V F S len u n b how lo true fr m (p + 1) (gbN K V F len u how lo true p (rwF K V F S len u p n T2 (fun _ => false)) best).2 (gbN K V F len u how lo true p (rwF K V F S len u p n T2 (fun _ => false)) best).1 := by
  have hl : ∀ x ∈ T2, x.1 < n := by
    intro x hx
    rw [h2] at hx
    rcases List.mem_append.mp hx with hx | hx
    · exact hT x hx
    · split at hx
      · rw [List.mem_singleton.mp hx]; exact hb
      · cases hx
  have hlen : T2.length ≤ T.length + 1 := by
    rw [h2, List.length_append]; split <;> simp
  have e := (rwF_any (V := V) (len := len) (u := u) (p := p) (s := fun _ => false) H hl (2 * n + T.length + 2) (by rw [cnF_all (fun _ _ => rfl)]; omega)).1
  rw [pkN, ← h2, e]
