/-! The class's marks: bits of pairs, and jobs of a step at a place. -/
def pk1 (g : Nat → Bool) (i : Nat) : Int32 := Int32.ofBitVec (BitVec.ofNat 32 (bitsN (fun j => g (32 * i + j)) 32))
theorem pk1_bit (g : Nat → Bool) (i j : Nat) : (pk1 g i).toBitVec.getLsbD j = (decide (j < 32) && g (32 * i + j)) := by
  show (BitVec.ofNat 32 _).getLsbD j = _
  rw [BitVec.getLsbD_ofNat, bitsN_tb]
  by_cases h : j < 32 <;> simp [h]
theorem sb32 : ∀ r, r < 32 → ((nI r &&& 31).toBitVec.smod 32) = BitVec.ofNat 32 r := by decide
theorem one_shl {r : Nat} (hr : r < 32) (j : Nat) : (nI 1 <<< (nI r &&& 31)).toBitVec.getLsbD j = decide (j = r) := by
  rw [Int32.toBitVec_shiftLeft, sb32 r hr, BitVec.shiftLeft_eq', BitVec.toNat_ofNat, Nat.mod_eq_of_lt (by omega), show (nI 1).toBitVec = 1#32 from rfl, BitVec.getLsbD_shiftLeft]
  by_cases h : j = r
  · subst h; simp [hr]
  · by_cases h2 : j < r
    · simp [h, h2]
    · have h3 : j - r ≠ 0 := by omega
      simp [h, h2, h3]
/-- a mark is read -/
theorem pk1_rd {g : Nat → Bool} {q : Nat} : (pk1 g (q / 32) &&& nI 1 <<< (nI (q % 32) &&& 31)) = 0 ↔ g q = false := by
  have hr : q % 32 < 32 := Nat.mod_lt _ (by decide)
  have e : 32 * (q / 32) + q % 32 = q := Nat.div_add_mod q 32
  constructor
  · intro h
    have h2 := congrArg (fun x : Int32 => x.toBitVec.getLsbD (q % 32)) h
    simp only [Int32.toBitVec_and, BitVec.getLsbD_and, pk1_bit, one_shl hr, hr, e] at h2
    simpa using h2
  · intro h
    apply Int32.toBitVec_inj.mp
    apply BitVec.eq_of_getLsbD_eq
    intro j hj
    rw [Int32.toBitVec_and, BitVec.getLsbD_and, pk1_bit, one_shl hr]
    by_cases h1 : j = q % 32
    · subst h1; rw [e, h]; simp
    · simp [h1]
/-- a mark is made -/
theorem pk1_wr {g : Nat → Bool} {q : Nat} : upd (pk1 g) (q / 32) (pk1 g (q / 32) ||| nI 1 <<< (nI (q % 32) &&& 31)) = pk1 (ub g q true) := by
  have hr : q % 32 < 32 := Nat.mod_lt _ (by decide)
  funext i
  rw [upd]
  apply Int32.toBitVec_inj.mp
  apply BitVec.eq_of_getLsbD_eq
  intro j hj
  split
  · rename_i h; subst h
    rw [Int32.toBitVec_or, BitVec.getLsbD_or, pk1_bit, one_shl hr, pk1_bit, ub]
    by_cases h1 : j = q % 32
    · rw [if_pos (by omega)]; simp [h1, hr]
    · rw [if_neg (by omega)]; simp [h1]
  · rename_i h
    rw [pk1_bit, pk1_bit, ub_n (by omega)]
/-- words wiped from the first on -/
def wp1 (g : Nat → Bool) (m : Nat) : Nat → Bool := fun j => if j < 32 * m then false else g j
theorem pk1_wp (g : Nat → Bool) (m : Nat) : upd (pk1 (wp1 g m)) m 0 = pk1 (wp1 g (m + 1)) := by
  funext i
  rw [upd]
  apply Int32.toBitVec_inj.mp
  apply BitVec.eq_of_getLsbD_eq
  intro j hj
  split
  · rename_i h; subst h
    rw [pk1_bit, wp1, if_pos (by omega)]; simp
  · rename_i h
    rw [pk1_bit, pk1_bit, wp1, wp1]
    by_cases h1 : 32 * i + j < 32 * m
    · rw [if_pos h1, if_pos (by omega)]
    · rw [if_neg h1, if_neg (by omega)]
theorem wp1_0 (g : Nat → Bool) : wp1 g 0 = g := by funext j; rw [wp1, if_neg (by omega)]
theorem pk1_0 : pk1 (fun _ => false) = fun _ => 0 := by
  funext i
  apply Int32.toBitVec_inj.mp
  apply BitVec.eq_of_getLsbD_eq
  intro j hj
  rw [pk1_bit]; simp
/-- the marks of a program and a subject -/
def tdB (n len : Nat) (g : Nat → Bool) : Nd2 → Bool := fun x => decide (x.2 < n) && (decide (x.1 ≤ len) && g (x.1 * n + x.2))
theorem pair_inj {n a b k j : Nat} (hk : k < n) (hj : j < n) (h : a * n + k = b * n + j) : a = b ∧ k = j := by
  have h1 : (a * n + k) / n = a := by rw [Nat.mul_comm, Nat.mul_add_div (by omega), Nat.div_eq_of_lt hk, Nat.add_zero]
  have h2 : (b * n + j) / n = b := by rw [Nat.mul_comm, Nat.mul_add_div (by omega), Nat.div_eq_of_lt hj, Nat.add_zero]
  rw [h, h2] at h1
  subst h1
  omega
theorem tdB_ub {n len p k : Nat} {g : Nat → Bool} (hk : k < n) (hp : p ≤ len) : tdB n len (ub g (p * n + k) true) = uv (tdB n len g) (p, k) := by
  funext y
  obtain ⟨a, j⟩ := y
  by_cases h : (a, j) = (p, k)
  · cases h
    rw [uv_s]; simp [tdB, hk, hp, ub_s]
  · rw [uv_n h]
    show (decide (j < n) && (decide (a ≤ len) && ub g (p * n + k) true (a * n + j))) = (decide (j < n) && (decide (a ≤ len) && g (a * n + j)))
    by_cases hj : j < n
    · rw [ub_n (fun e => h (by have := pair_inj hj hk e; rw [this.1, this.2]))]
    · simp [hj]
theorem tdB_wp {n len m : Nat} {g : Nat → Bool} (hm : n * (len + 1) ≤ 32 * m) : tdB n len (wp1 g m) = fun _ => false := by
  funext y
  obtain ⟨a, j⟩ := y
  show (decide (j < n) && (decide (a ≤ len) && wp1 g m (a * n + j))) = false
  by_cases hj : j < n
  · by_cases ha : a ≤ len
    · have : a * n ≤ len * n := Nat.mul_le_mul_right n ha
      have e : n * (len + 1) = len * n + n := by rw [Nat.mul_add, Nat.mul_one, Nat.mul_comm]
      rw [wp1, if_pos (by omega)]; simp
    · simp [ha]
  · simp [hj]
def absM (js : Nat → Nat) : Nat → Sv → List (Nd2 × Sv)
  | 0, _ => []
  | c + 1, sv => if 51456 ≤ js c then absM js c (pbS sv (js c)) else ((js c / 256, js c % 256), sv) :: absM js c sv
def MobOk (n len j : Nat) : Prop := (j < 51456 ∧ j % 256 < n ∧ j / 256 ≤ len) ∨ (51456 ≤ j ∧ (j - 51456) / 256 < 20 ∧ (j - 51456) % 256 ≤ 201)
theorem MobOk.lt {n len j : Nat} (h : MobOk n len j) : j < 65536 := by
  rcases h with h | ⟨h1, h2, h3⟩
  · omega
  · have := Nat.div_add_mod (j - 51456) 256; omega
theorem absM_un {js : Nat → Nat} {c v : Nat} : ∀ (c0 : Nat) (sv : Sv), c0 ≤ c → absM (un js c v) c0 sv = absM js c0 sv := by
  intro c0
  induction c0 with
  | zero => intro sv _; rfl
  | succ c0 ih =>
    intro sv h
    rw [absM, absM, un_n (by omega)]
    split
    · exact ih _ (by omega)
    · rw [ih _ (by omega)]
theorem absM_push {js : Nat → Nat} {c p k : Nat} {sv : Sv} (hk : k < 256) (hp : p ≤ 200) : absM (un js c (p * 256 + k)) (c + 1) sv = ((p, k), sv) :: absM js c sv := by
  rw [absM, un_s, if_neg (by omega), absM_un c _ (Nat.le_refl _), show (p * 256 + k) / 256 = p by omega, show (p * 256 + k) % 256 = k by omega]
theorem absM_pb {js : Nat → Nat} {c v h : Nat} {x : Int32} {sv : Sv} (hv : v < 20) (hh : h ≤ 201) (he : sv v = nI h - nI 1) : absM (un js c (51456 + v * 256 + h)) (c + 1) (upd sv v x) = absM js c sv := by
  rw [absM, un_s, if_pos (by omega), absM_un c _ (Nat.le_refl _), pbS]
  have e1 : (51456 + v * 256 + h - 51456) / 256 = v := by omega
  have e2 : (51456 + v * 256 + h - 51456) % 256 = h := by omega
  rw [e1, e2, upd_self he]
