/-! the bytes of a long -/
def byt (v : Int64) (k : Nat) : Nat := v.toBitVec.toNat / 2 ^ (8 * k) % 256
theorem byt_lt (v : Int64) (k : Nat) : byt v k < 256 := Nat.mod_lt _ (by decide)
theorem tb255 (i : Nat) : Nat.testBit 255 i = decide (i < 8) := Nat.testBit_two_pow_sub_one 8 i
theorem bv_s (x : BitVec 64) (n : Nat) (hn : n + 8 ≤ 64) : ((x.sshiftRight n) &&& 255#64).toNat = x.toNat / 2 ^ n % 256 := by
  apply Nat.eq_of_testBit_eq
  intro i
  rw [BitVec.toNat_and, Nat.testBit_and, show (255#64).toNat = 255 from rfl, tb255, show (256 : Nat) = 2 ^ 8 from rfl, Nat.testBit_mod_two_pow, Nat.testBit_div_two_pow, BitVec.testBit_toNat, BitVec.testBit_toNat, BitVec.getLsbD_sshiftRight]
  by_cases h : i < 8
  · have h1 : ¬ 64 ≤ i := by omega
    have h2 : n + i < 64 := by omega
    simp [h, h1, h2, Nat.add_comm]
  · simp [h]
theorem bv_u (x : BitVec 64) (n : Nat) : (BitVec.setWidth 32 (x >>> n) &&& 255#32).toNat = x.toNat / 2 ^ n % 256 := by
  rw [BitVec.toNat_and, BitVec.toNat_setWidth, BitVec.toNat_ushiftRight, show (255#32).toNat = 2 ^ 8 - 1 from rfl, Nat.and_two_pow_sub_one_eq_mod, Nat.shiftRight_eq_div_pow, Nat.mod_mod_of_dvd _ (by decide)]
theorem sh8 : ∀ k, k < 8 → (((nI (8 * k)).toInt64 &&& 63).toBitVec.smod 64) = BitVec.ofNat 64 (8 * k) := by decide
theorem sh8u : ∀ k, k < 8 → (((nI (8 * k)).toInt64.toUInt64 &&& Int64.toUInt64 63).toBitVec % 64) = BitVec.ofNat 64 (8 * k) := by decide
theorem byt_m (v : Int64) {k : Nat} (hk : k < 8) : ((v >>> ((nI (8 * k)).toInt64 &&& 63)) &&& 255).toInt32 = nI (byt v k) := by
  apply Int32.toBitVec_inj.mp
  apply BitVec.eq_of_toNat_eq
  rw [Int64.toBitVec_toInt32, BitVec.signExtend_eq_setWidth_of_le _ (by decide), BitVec.toNat_setWidth, Int64.toBitVec_and, Int64.toBitVec_shiftRight, sh8 k hk]
  have h1 : v.toBitVec.sshiftRight' (BitVec.ofNat 64 (8 * k)) = v.toBitVec.sshiftRight (8 * k) := by
    rw [BitVec.sshiftRight', BitVec.toNat_ofNat, Nat.mod_eq_of_lt (by omega)]
  rw [h1, show (255 : Int64).toBitVec = 255#64 from rfl, bv_s _ _ (by omega)]
  have h2 := byt_lt v k
  rw [pk_tn (by omega)]
  exact Nat.mod_eq_of_lt (by have : v.toBitVec.toNat / 2 ^ (8 * k) % 256 < 256 := h2; omega)
theorem byt_u (v : Int64) {k : Nat} (hk : k < 8) : ((v.toUInt64 >>> ((nI (8 * k)).toInt64.toUInt64 &&& Int64.toUInt64 63)).toInt64).toInt32 &&& nI 255 = nI (byt v k) := by
  apply Int32.toBitVec_inj.mp
  apply BitVec.eq_of_toNat_eq
  rw [Int32.toBitVec_and, Int64.toBitVec_toInt32, show ((v.toUInt64 >>> ((nI (8 * k)).toInt64.toUInt64 &&& Int64.toUInt64 63)).toInt64).toBitVec = v.toBitVec >>> (8 * k) by
    show (v.toUInt64 >>> ((nI (8 * k)).toInt64.toUInt64 &&& Int64.toUInt64 63)).toBitVec = _
    rw [UInt64.toBitVec_shiftRight, sh8u k hk]
    show v.toBitVec >>> (BitVec.ofNat 64 (8 * k)) = _
    rw [BitVec.ushiftRight_eq', BitVec.toNat_ofNat, Nat.mod_eq_of_lt (by omega)]]
  rw [show (nI 255).toBitVec = 255#32 from rfl, BitVec.signExtend_eq_setWidth_of_le _ (by decide), bv_u, pk_tn (by have := byt_lt v k; omega)]
  rfl
/-- what put leaves of the subject: m bytes of v behind the first len, the highest first; as far as j are still to come -/
def putU (u : Nat → Nat) (len m j : Nat) (v : Int64) : Nat → Nat := fun i => if len ≤ i ∧ i + j < len + m then byt v (len + m - 1 - i) else u i
theorem putU_0 (u : Nat → Nat) (len m : Nat) (v : Int64) : putU u len m m v = u := by
  funext i; unfold putU; rw [if_neg (by omega)]
theorem putU_s {u : Nat → Nat} {len m k : Nat} {v : Int64} (hk : k < m) : un (putU u len m (k + 1) v) (len + (m - (k + 1))) (byt v k) = putU u len m k v := by
  funext i
  by_cases h : i = len + (m - (k + 1))
  · subst h
    rw [un_s]; unfold putU
    rw [if_pos (by omega), show len + m - 1 - (len + (m - (k + 1))) = k by omega]
  · rw [un_n h]; unfold putU
    by_cases h2 : len ≤ i ∧ i + (k + 1) < len + m
    · rw [if_pos h2, if_pos (by omega)]
    · rw [if_neg h2, if_neg (by omega)]
def putB (len : Nat) (x : Int32) : Bool := !decide (x < 0) && (!decide (nI 8 < x) && decide (nI len + x ≤ nI 200))
