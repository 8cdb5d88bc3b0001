theorem sh1 {r : Nat} (hr : r < 31) : nI 1 <<< (nI r &&& 31) = nI (2 ^ r) := by
  have h : 1 * 2 ^ r < 2 ^ 31 := by rw [Nat.one_mul]; exact Nat.pow_lt_pow_right (by omega) hr
  rw [shlI hr h, Nat.one_mul]
theorem pw31 {r : Nat} (hr : r < 31) : 2 ^ r < 2 ^ 31 := Nat.pow_lt_pow_right (by omega) hr
section TB7
variable {K V F S kC vC fC sC : Nat → Nat} {n b q tu R : Nat} {sor : Nat → Nat} {aC ros eC : Nat → Int32}
theorem RwS_0 : RwS n 0 sor (fun _ => -1) := ⟨by omega, fun i hi => by omega, fun k _ => Or.inl ⟨rfl, fun i hi => by omega⟩⟩
theorem MkI_0 {x : Int32} {R2 : Nat} {sor2 : Nat → Nat} {ros2 : Nat → Int32} (hb : b < n) (h : RfR n 0 sor (fun _ => -1) b x R2 sor2 ros2) : MkI K V F S n b true 0 R2 sor2 aC eC ros2 := by
  obtain ⟨h1, h2, h3, h4⟩ := h
  rcases h4 with ⟨_, e, _⟩ | ⟨i, p1, p2, p3, p4⟩
  · omega
  · have e0 : stl sor 0 = [] := rfl
    rw [e0] at p4
    have hl : (stl sor2 R2).length = R2 := stl_len
    have e1 : addL [] b = [b] := by simp [addL]
    rw [p4, e1] at hl
    have hR : R2 = 1 := hl.symm
    subst hR
    have hi : i = 0 := by omega
    subst hi
    refine ⟨h1, by omega, fun h => (by cases h), fun _ => ⟨by omega, by omega, p2, ?_, fun i hi => by omega⟩⟩
    rw [p4]; exact Mst_ini hb
end TB7
