/-! Small facts for the class's own methods. -/
theorem i3 (x : Int32) : nI 3 ≤ x ↔ nI 2 < x := by
  rw [Int32.le_iff_toInt_le, Int32.lt_iff_toInt_lt, nI_toInt (by omega), nI_toInt (by omega)]; omega
theorem i20 (x : Int32) : nI 20 ≤ x ↔ nI 19 < x := by
  rw [Int32.le_iff_toInt_le, Int32.lt_iff_toInt_lt, nI_toInt (by omega), nI_toInt (by omega)]; omega
theorem i1 (x : Int32) : x < nI 1 ↔ ¬ nI 1 ≤ x := by rw [Int32.not_le]
theorem mxI {m : Nat} (h4 : 4 ≤ m) (hm : m ≤ 64) : (if nI 4 < nI m then nI m else nI 4) = nI m := by
  by_cases h : m = 4
  · subst h; rfl
  · rw [if_pos ((nI_ltI (by omega) (by omega)).mpr (by omega))]
