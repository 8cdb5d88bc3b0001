/-! The reference's own tests of its arguments; its answers -/
def goodB (len : Nat) (x y : Int32) : Bool := !decide (x < 0) && (!decide (nI 3 ≤ x) && (!decide (y < 0) && !decide (nI len < y)))
def macB (x : Int32) : Bool := !decide (x < 0) && !decide (nI 3 ≤ x)
theorem goodB_ok {len how fr : Nat} (h1 : how < 3) (h2 : fr ≤ len) (hl : len ≤ 200) : goodB len (nI how) (nI fr) = true := by
  have a1 : ¬ nI how < 0 := nI_pos (by omega)
  have a2 : ¬ nI 3 ≤ nI how := by rw [nI_leI (by omega) (by omega)]; omega
  have a3 : ¬ nI fr < 0 := nI_pos (by omega)
  have a4 : ¬ nI len < nI fr := by rw [nI_ltI (by omega) (by omega)]; omega
  simp [goodB, a1, a2, a3, a4]
theorem goodB_of {len : Nat} {x y : Int32} (hl : len ≤ 200) (h : goodB len x y = true) : ∃ how fr, how < 3 ∧ fr ≤ len ∧ x = nI how ∧ y = nI fr := by
  simp only [goodB, Bool.and_eq_true, Bool.not_eq_true', decide_eq_false_iff_not] at h
  obtain ⟨h1, h2, h3, h4⟩ := h
  obtain ⟨a, ha, rfl⟩ := nI_of h1
  obtain ⟨c, hc, rfl⟩ := nI_of h3
  rw [nI_leI (by omega) (by omega)] at h2
  rw [nI_ltI (by omega) (by omega)] at h4
  exact ⟨a, c, by omega, by omega, rfl, rfl⟩
theorem macB_of {x : Int32} (h : macB x = true) : ∃ k, k < 3 ∧ x = nI k := by
  simp only [macB, Bool.and_eq_true, Bool.not_eq_true', decide_eq_false_iff_not] at h
  obtain ⟨a, ha, rfl⟩ := nI_of h.1
  have h2 := h.2
  rw [nI_leI (by omega) (by omega)] at h2
  exact ⟨a, by omega, rfl⟩
section GL
variable {K V F S : Nat → Nat} {len : Nat} {u : Nat → Nat} {L : Nat} {al : Bool} {n : Nat}
theorem gw_lt : ∀ (m p a : Nat) (sv : Sv) (e : Nat) (sv1 : Sv), gwN K V F S len u L al n m p a sv = some (e, sv1) → e < p + m := by
  intro m
  induction m with
  | zero => intro p a sv e sv1 h; simp [gwN] at h
  | succ m ih =>
    intro p a sv e sv1 h
    rw [gwN] at h
    split at h
    · cases h
    · split at h
      · cases h; omega
      · have := ih _ _ _ _ _ h; omega
theorem LB_len {b how p : Nat} {lo : Bool} (h : LB K V F S len u b how lo p L al) : L ≤ len := by
  rcases h with ⟨_, h, _⟩ | ⟨_, _, _, h, _⟩ <;> omega
theorem RefR_le {b how fr : Nat} {lo : Bool} {p e : Nat} {sv : Sv} (h : RefR K V F S len u n b how lo fr (some (p, e, sv))) : e ≤ len ∧ p ≤ len := by
  rcases h with ⟨h, _⟩ | ⟨p1, e1, sv1, h, h2, _, _, L, al, h3, h4, h5⟩
  · cases h
  · cases h
    have := gw_lt _ _ _ _ _ _ h5
    have := LB_len h3
    exact ⟨by omega, h2.2.1⟩
theorem res_some {b how fr : Nat} {lo : Bool} {x : Option (Nat × Nat × Sv)} (h : 0 ≤ resI x) : ∃ p e s, x = some (p, e, s) := by
  match x, h with
  | none, h => exact absurd h (by decide)
  | some (p, e, s), _ => exact ⟨p, e, s, rfl⟩
theorem res_none {b how fr : Nat} {lo : Bool} {x : Option (Nat × Nat × Sv)} (hl : len ≤ 200) (hr : RefR K V F S len u n b how lo fr x) (h : ¬ 0 ≤ resI x) : x = none := by
  match x, hr, h with
  | none, _, _ => rfl
  | some (p, e, s), hr, h => exact absurd (nI_pos' (by have := (RefR_le hr).1; omega)) h
end GL
theorem fn_step {f g : Sv} {k : Nat} {v : Int32} (h : ∀ i, i < k → f i = g i) (hv : v = g k) : ∀ i, i < k + 1 → upd f k v i = g i := by
  intro i hi
  by_cases hik : i = k
  · subst hik; rw [pk_us, hv]
  · rw [pk_un hik]; exact h i (by omega)
def svd (kp : Sv) (x : Int32) : Int32 := if x < 0 then -1 else if nI 19 < x then -1 else kp x.toNatClampNeg
def keepT (x : Int32) : Nat := if x < nI 4 then 1 else if nI 64 < x then 1 else 0
def layK (K : Nat → Nat) (m : Nat) : Nat → Nat := fun i => if i < m then 5 else K i
theorem layK_step (K : Nat → Nat) (k : Nat) : un (layK K k) k 5 = layK K (k + 1) := by
  funext i
  by_cases h : i = k
  · subst h; rw [un_s]; simp [layK]
  · rw [un_n h]
    by_cases h2 : i < k
    · simp [layK, h2, Nat.lt_succ_of_lt h2]
    · have h3 : ¬ i < k + 1 := by omega
      simp [layK, h2, h3]
theorem layK_0 (K : Nat → Nat) : layK K 0 = K := by funext i; simp [layK]
def layB (x : Int32) : Bool := decide (x < nI 1) || decide (nI 200 < x)
/-- step's tests: an index, then kind and value -/
def ixB (n : Nat) (k kd a b : Int32) : Bool := !stepB n k || (decide (k = 0) || ((!decide (kd = nI 5) && !stepB n a) || (decide (kd = nI 2) && !stepB n b)))
def gdB (kd v : Int32) : Bool := decide (kd = nI 2) || (decide (kd = nI 5) || ((decide (kd = nI 1) && (!decide (v < 0) && (!decide (nI 65536 ≤ v) && decide (v / nI 256 ≤ v - v / nI 256 * nI 256)))) || ((decide (kd = nI 3) && (!decide (v < nI 2) && decide (v < nI 20))) || (decide (kd = nI 4) && (!decide (v < 0) && !decide (nI 6 ≤ v))))))
def stT (n : Nat) (k kd v a b : Int32) : Nat := if ixB n k kd a b = true then 1 else if gdB kd v = true then 0 else 2
theorem st_1 {n : Nat} {k kd v a b : Int32} (h : ixB n k kd a b = true) : stT n k kd v a b = 1 := by unfold stT; rw [if_pos h]
theorem st_2 {n : Nat} {k kd v a b : Int32} (h : ¬ ixB n k kd a b = true) (h2 : gdB kd v = false) : stT n k kd v a b = 2 := by unfold stT; rw [if_neg h, if_neg (by rw [h2]; decide)]
theorem st_0 {n : Nat} {k kd v a b : Int32} (h : ¬ ixB n k kd a b = true) (h2 : gdB kd v = true) : stT n k kd v a b = 0 := by unfold stT; rw [if_neg h, if_pos h2]
