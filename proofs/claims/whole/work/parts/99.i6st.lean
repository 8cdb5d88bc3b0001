def KpL (stp cnt : Nat → Nat) (i : Nat) : List Nat := (List.range (cnt i)).map (fun j => stp (i * 200 + j))
theorem KpL_len (stp cnt : Nat → Nat) (i : Nat) : (KpL stp cnt i).length = cnt i := by simp [KpL]
theorem KpL_drop {stp cnt : Nat → Nat} {i j : Nat} (q : List Nat) (h : j < cnt i) : (KpL stp cnt i).drop j ++ q = stp (i * 200 + j) :: ((KpL stp cnt i).drop (j + 1) ++ q) := by
  have hl : j < (KpL stp cnt i).length := by rw [KpL_len]; exact h
  rw [List.drop_eq_getElem_cons hl, List.cons_append]
  simp [KpL]
theorem KpL_all {stp cnt : Nat → Nat} {i j : Nat} (q : List Nat) (h : cnt i ≤ j) : (KpL stp cnt i).drop j ++ q = q := by
  rw [List.drop_eq_nil_of_le (by rw [KpL_len]; exact h), List.nil_append]
