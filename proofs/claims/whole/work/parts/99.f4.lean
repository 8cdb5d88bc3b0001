/-! What match leaves: the reference's answer, whichever machine; not too many steps. -/
def reM (x : Option (Nat × Nat × Sv)) : Option (Nat × Sv) := x.map (fun x => (x.2.1, upd x.2.2 0 (nI x.1)))
theorem tk_1 {n len tk : Nat} (h0 : 0 < n) (hn : n ≤ 200) (hl : len ≤ 200) (h : tk ≤ 200 * n + 8 * (n * len)) : tk ≤ 60 * n * (len + 20) ∧ 60 * n * (len + 20) < 2 ^ 31 := by
  have e : 60 * n * (len + 20) = 60 * (n * len) + 1200 * n := by rw [Nat.mul_add, Nat.mul_assoc 60 n len]; omega
  have h2 : n * len ≤ 200 * 200 := Nat.mul_le_mul hn hl
  exact ⟨by omega, by omega⟩
theorem tk_m {n len tk : Nat} (h0 : 0 < n) (h : tk ≤ 0 + 2 * ((len + 1) * n) + (len + 1)) : tk ≤ 200 * n + 8 * (n * len) := by
  have e : (len + 1) * n = n * len + n := by rw [Nat.add_mul, Nat.one_mul, Nat.mul_comm]
  have h2 : len ≤ n * len := Nat.le_mul_of_pos_left len h0
  omega
theorem tk_t {n len tk tk1 : Nat} (h0 : 0 < n) (h1 : tk1 ≤ 0 + 64 * (2 * n + 1)) (h : tk ≤ tk1 + 6 * n * (len + 1)) : tk ≤ 200 * n + 8 * (n * len) := by
  have e : 6 * n * (len + 1) = 6 * (n * len) + 6 * n := by rw [Nat.mul_add, Nat.mul_assoc 6 n len]; omega
  omega
theorem tk_b {n len tk tk1 : Nat} (h0 : 0 < n) (h1 : tk1 ≤ 0 + 64 * (2 * n + 1)) (h : tk ≤ tk1 + len + 1) : tk ≤ 200 * n + 8 * (n * len) := by
  have h2 : len ≤ n * len := Nat.le_mul_of_pos_left len h0
  omega
theorem TbOk_mem {K V F S : Nat → Nat} {n b R : Nat} {sor : Nat → Nat} {aC eC : Nat → Int32} (h : TbOk K V F S n b R sor aC eC) : b ∈ stl sor R := stl_mem.mpr ⟨0, h.1, h.2.2.1⟩
