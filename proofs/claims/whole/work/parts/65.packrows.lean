/-! Numbers packed into longs: w bits each, e of them in an element. -/
def bitsN (f : Nat → Bool) : Nat → Nat
  | 0 => 0
  | n + 1 => bitsN f n ||| (f n).toNat <<< n
theorem bitsN_tb (f : Nat → Bool) : ∀ n j, (bitsN f n).testBit j = (decide (j < n) && f j) := by
  intro n
  induction n with
  | zero => intro j; simp [bitsN]
  | succ n ih =>
    intro j
    rw [bitsN, Nat.testBit_or, ih, Nat.testBit_shiftLeft]
    by_cases h : j = n
    · subst h; simp; cases f j <;> simp
    · by_cases h2 : j < n
      · have h3 : ¬ n ≤ j := by omega
        have h4 : j < n + 1 := by omega
        simp [h2, h3, h4]
      · have h3 : n ≤ j := by omega
        have h4 : ¬ j < n + 1 := by omega
        have h5 : Nat.testBit (f n).toNat (j - n) = false := by
          obtain ⟨t, ht⟩ : ∃ t, j - n = t + 1 := ⟨j - n - 1, by omega⟩
          rw [ht]; cases f n <;> simp [Nat.testBit_succ]
        simp [h2, h4, h5]
def pkW (w e : Nat) (g : Nat → Nat) (i : Nat) : Int64 := Int64.ofBitVec (BitVec.ofNat 64 (bitsN (fun j => (g (e * i + j / w)).testBit (j % w)) 64))
theorem pkW_bit (w e : Nat) (g : Nat → Nat) (i j : Nat) : (pkW w e g i).toBitVec.getLsbD j = (decide (j < 64) && (g (e * i + j / w)).testBit (j % w)) := by
  show (BitVec.ofNat 64 _).getLsbD j = _
  rw [BitVec.getLsbD_ofNat, bitsN_tb]
  by_cases h : j < 64 <;> simp [h]
theorem pkW_0 (w e : Nat) : pkW w e (fun _ => 0) = fun _ => 0 := by
  funext i
  apply Int64.toBitVec_inj.mp
  apply BitVec.eq_of_getLsbD_eq
  intro j hj
  rw [pkW_bit]; simp
theorem sh16l : ∀ r, r < 4 → (((nI (r * 16)).toInt64 &&& 63).toBitVec.smod 64) = BitVec.ofNat 64 (r * 16) := by decide
theorem sh16u : ∀ r, r < 4 → (((nI (r * 16)).toInt64.toUInt64 &&& Int64.toUInt64 63).toBitVec % 64) = BitVec.ofNat 64 (r * 16) := by decide
theorem sh8l : ∀ r, r < 8 → (((nI (r * 8)).toInt64 &&& 63).toBitVec.smod 64) = BitVec.ofNat 64 (r * 8) := by decide
theorem sh8v : ∀ r, r < 8 → (((nI (r * 8)).toInt64.toUInt64 &&& Int64.toUInt64 63).toBitVec % 64) = BitVec.ofNat 64 (r * 8) := by decide
/-- a piece is read -/
theorem pkW_rd (w e : Nat) (hw : 0 < w) (hwe : w * e = 64) (hw2 : w ≤ 31) (g : Nat → Nat) (c : Nat) (hg : g c < 2 ^ w) (M : Int64) (hM : M.toBitVec = BitVec.ofNat 64 (2 ^ w - 1)) (S : UInt64) (hS : S.toBitVec % 64 = BitVec.ofNat 64 (c % e * w)) :
    ((((pkW w e g (c / e)).toUInt64 >>> S).toInt64) &&& M).toInt32 = nI (g c) := by
  have he : 0 < e := by
    rcases Nat.eq_zero_or_pos e with h | h
    · subst h; omega
    · exact h
  have hr : c % e < e := Nat.mod_lt _ he
  have hrw : c % e * w + w ≤ 64 := by
    have : (c % e + 1) * w ≤ e * w := Nat.mul_le_mul_right w hr
    rw [Nat.add_mul, Nat.one_mul, Nat.mul_comm e w, hwe] at this; exact this
  have h32 : (2 : Nat) ^ w ≤ 2 ^ 31 := Nat.pow_le_pow_right (by decide) hw2
  apply Int32.toBitVec_inj.mp
  apply BitVec.eq_of_toNat_eq
  rw [pk_tn (by omega), Int64.toBitVec_toInt32, BitVec.signExtend_eq_setWidth_of_le _ (by decide), BitVec.toNat_setWidth, Int64.toBitVec_and, hM]
  have e1 : (((pkW w e g (c / e)).toUInt64 >>> S).toInt64).toBitVec = (pkW w e g (c / e)).toBitVec >>> (c % e * w) := by
    show ((pkW w e g (c / e)).toUInt64 >>> S).toBitVec = _
    rw [UInt64.toBitVec_shiftRight, hS]
    show (pkW w e g (c / e)).toBitVec >>> (BitVec.ofNat 64 (c % e * w)) = _
    rw [BitVec.ushiftRight_eq', BitVec.toNat_ofNat, Nat.mod_eq_of_lt (by omega)]
  rw [e1]
  have e2 : ((pkW w e g (c / e)).toBitVec >>> (c % e * w) &&& BitVec.ofNat 64 (2 ^ w - 1)).toNat = g c := by
    apply Nat.eq_of_testBit_eq
    intro j
    rw [BitVec.testBit_toNat, BitVec.getLsbD_and, BitVec.getLsbD_ushiftRight, pkW_bit, BitVec.getLsbD_ofNat, Nat.testBit_two_pow_sub_one]
    by_cases hj : j < w
    · have a1 : c % e * w + j < 64 := by omega
      have a2 : j < 64 := by omega
      have a3 : (c % e * w + j) / w = c % e := by rw [Nat.mul_comm, Nat.mul_add_div hw, Nat.div_eq_of_lt hj, Nat.add_zero]
      have a4 : (c % e * w + j) % w = j := by rw [Nat.mul_comm, Nat.mul_add_mod, Nat.mod_eq_of_lt hj]
      rw [a3, a4, Nat.div_add_mod]
      simp [a1, a2, hj]
    · have : g c < 2 ^ j := Nat.lt_of_lt_of_le hg (Nat.pow_le_pow_right (by decide) (by omega))
      rw [Nat.testBit_lt_two_pow this]
      simp [hj]
  rw [e2]
  exact Nat.mod_eq_of_lt (by omega)
/-- a piece is written -/
theorem pkW_wr (w e : Nat) (hw : 0 < w) (hwe : w * e = 64) (g : Nat → Nat) (c v : Nat) (hv : v < 2 ^ w) (M X : Int64) (hM : M.toBitVec = BitVec.ofNat 64 (2 ^ w - 1)) (hX : X.toBitVec = BitVec.ofNat 64 v) (S : Int64) (hS : S.toBitVec.smod 64 = BitVec.ofNat 64 (c % e * w)) :
    vp_updL (pkW w e g) (c / e) ((pkW w e g (c / e) &&& (M <<< S ^^^ -1)) ||| X <<< S) = pkW w e (un g c v) := by
  have he : 0 < e := by
    rcases Nat.eq_zero_or_pos e with h | h
    · subst h; omega
    · exact h
  have hr : c % e < e := Nat.mod_lt _ he
  have hrw : c % e * w + w ≤ 64 := by
    have : (c % e + 1) * w ≤ e * w := Nat.mul_le_mul_right w hr
    rw [Nat.add_mul, Nat.one_mul, Nat.mul_comm e w, hwe] at this; exact this
  funext i
  have sh : ∀ Y : Int64, (Y <<< S).toBitVec = Y.toBitVec <<< (c % e * w) := by
    intro Y
    rw [Int64.toBitVec_shiftLeft, hS, BitVec.shiftLeft_eq', BitVec.toNat_ofNat, Nat.mod_eq_of_lt (by omega)]
  rw [vp_updL]
  split
  · rename_i hi; subst hi
    apply Int64.toBitVec_inj.mp
    apply BitVec.eq_of_getLsbD_eq
    intro j hj
    rw [Int64.toBitVec_or, Int64.toBitVec_and, Int64.toBitVec_xor, sh, sh, hM, hX, BitVec.getLsbD_or, BitVec.getLsbD_and, BitVec.getLsbD_xor, BitVec.getLsbD_shiftLeft, BitVec.getLsbD_shiftLeft, BitVec.getLsbD_ofNat, BitVec.getLsbD_ofNat, Nat.testBit_two_pow_sub_one, pkW_bit, pkW_bit, show (-1 : Int64).toBitVec = BitVec.allOnes 64 from rfl, BitVec.getLsbD_allOnes]
    have hd := Nat.div_add_mod j w
    have hm := Nat.mod_lt j hw
    have hde := Nat.div_add_mod c e
    by_cases hc : j / w = c % e
    · have a1 : ¬ j < c % e * w := by rw [← hc, Nat.mul_comm]; omega
      have a2 : j - c % e * w = j % w := by rw [← hc, Nat.mul_comm]; omega
      have a3 : un g c v (e * (c / e) + j / w) = v := by rw [hc, hde, un, if_pos rfl]
      rw [a2, a3]
      have a4 : j % w < 64 := by omega
      simp [hj, a1, a4, hm]
    · have a3 : un g c v (e * (c / e) + j / w) = g (e * (c / e) + j / w) := by rw [un, if_neg (by omega)]
      rw [a3]
      by_cases a1 : j < c % e * w
      · simp [hj, a1]
      · have a5 : ¬ j - c % e * w < w := by
          intro h
          apply hc
          have : c % e * w ≤ j := by omega
          rw [show j = w * (c % e) + (j - c % e * w) by rw [Nat.mul_comm]; omega, Nat.mul_add_div hw, Nat.div_eq_of_lt h, Nat.add_zero]
        have a6 : v < 2 ^ (j - c % e * w) := Nat.lt_of_lt_of_le hv (Nat.pow_le_pow_right (by decide) (by omega))
        rw [Nat.testBit_lt_two_pow a6]
        simp [hj, a1, a5]
  · rename_i hi
    apply Int64.toBitVec_inj.mp
    apply BitVec.eq_of_getLsbD_eq
    intro j hj
    rw [pkW_bit, pkW_bit, un, if_neg]
    intro h
    apply hi
    have hj2 : j / w < e := Nat.div_lt_of_lt_mul (by omega)
    rw [← h, Nat.mul_add_div he, Nat.div_eq_of_lt hj2, Nat.add_zero]
theorem nI_l64 {j : Nat} (h : j < 2 ^ 31) : (nI j).toInt64.toBitVec = BitVec.ofNat 64 j := by
  rw [Int32.toBitVec_toInt64]
  apply BitVec.eq_of_toInt_eq
  rw [BitVec.toInt_signExtend_of_le (by decide)]
  have e1 : (nI j).toBitVec.toInt = (j : Int) := by
    show (BitVec.ofNat 32 j).toInt = _
    rw [BitVec.toInt_ofNat', Int.bmod_eq_of_le (by omega) (by omega)]
  rw [e1, BitVec.toInt_ofNat', Int.bmod_eq_of_le (by omega) (by omega)]
/-- jobs: four to an element -/
abbrev pkJ (g : Nat → Nat) : Nat → Int64 := pkW 16 4 g
/-- numbers of a byte: eight to an element -/
abbrev pkB (g : Nat → Nat) : Nat → Int64 := pkW 8 8 g
theorem pj_rd {g : Nat → Nat} {c : Nat} (h : g c < 65536) : ((((pkJ g) (c / 4)).toUInt64 >>> ((nI (c % 4 * 16)).toInt64.toUInt64 &&& Int64.toUInt64 63)).toInt64 &&& 65535).toInt32 = nI (g c) :=
  pkW_rd 16 4 (by decide) rfl (by decide) g c h _ rfl _ (sh16u _ (Nat.mod_lt _ (by decide)))
theorem pj_wr {g : Nat → Nat} {c v : Nat} (h : v < 65536) : vp_updL (pkJ g) (c / 4) (((pkJ g) (c / 4) &&& (65535 <<< ((nI (c % 4 * 16)).toInt64 &&& 63) ^^^ -1)) ||| (nI v).toInt64 <<< ((nI (c % 4 * 16)).toInt64 &&& 63)) = pkJ (un g c v) :=
  pkW_wr 16 4 (by decide) rfl g c v h _ _ rfl (nI_l64 (by omega)) _ (sh16l _ (Nat.mod_lt _ (by decide)))
theorem pb_rd {g : Nat → Nat} {c : Nat} (h : g c < 256) : ((((pkB g) (c / 8)).toUInt64 >>> ((nI (c % 8 * 8)).toInt64.toUInt64 &&& Int64.toUInt64 63)).toInt64 &&& 255).toInt32 = nI (g c) :=
  pkW_rd 8 8 (by decide) rfl (by decide) g c h _ rfl _ (sh8v _ (Nat.mod_lt _ (by decide)))
theorem l255 {v : Nat} (h : v < 256) : ((nI v).toInt64 &&& 255).toBitVec = BitVec.ofNat 64 v := by
  rw [Int64.toBitVec_and, nI_l64 (by omega)]
  apply BitVec.eq_of_toNat_eq
  rw [BitVec.toNat_and, BitVec.toNat_ofNat, Nat.mod_eq_of_lt (by omega), show (255 : Int64).toBitVec.toNat = 2 ^ 8 - 1 from rfl, Nat.and_two_pow_sub_one_eq_mod, Nat.mod_eq_of_lt (by omega)]
theorem pb_wr {g : Nat → Nat} {c v : Nat} (h : v < 256) : vp_updL (pkB g) (c / 8) (((pkB g) (c / 8) &&& (255 <<< ((nI (c % 8 * 8)).toInt64 &&& 63) ^^^ -1)) ||| ((nI v).toInt64 &&& 255) <<< ((nI (c % 8 * 8)).toInt64 &&& 63)) = pkB (un g c v) :=
  pkW_wr 8 8 (by decide) rfl g c v h _ _ rfl (l255 h) _ (sh8l _ (Nat.mod_lt _ (by decide)))
/-- an element wiped: eight numbers are 0 -/
def wpB (g : Nat → Nat) (i : Nat) : Nat → Nat := fun j => if j / 8 = i then 0 else g j
theorem pb_wp (g : Nat → Nat) (i : Nat) : vp_updL (pkB g) i 0 = pkB (wpB g i) := by
  funext k
  rw [vp_updL]
  apply Int64.toBitVec_inj.mp
  apply BitVec.eq_of_getLsbD_eq
  intro j hj
  have e1 : (8 * k + j / 8) / 8 = k := by omega
  rw [pkW_bit, wpB, e1]
  split
  · rename_i h; subst h; simp
  · rename_i h; rw [pkW_bit]
section XLR
variable {p : Program} {l : Launch} {e : Env} {R : Room} {s : State} {m : MethodId} {args : Array Value} {below : List Frame} {meth : Method} {c : Code} {H : Heap} {locs : List Loc} {cells slots : Nat} {Q : State → Prop}
variable {cc : ByteArray} {pc : Nat} {ls : Array Slot} {rest : List Value} {D : va_G} {cl : List vw_C} {A : Nat → Prop} {a : Nat} {tys : List (ClassId × FieldType)} {ws : va_W} {H0 : Heap}
theorem xl_ald (hx : p.tables.exec = Jvm.exec) (hb : c.code = cc) (hK : va_K D cl tys s) (hP : va_P D cl ws H) (q0 t0 : Nat) {cA : ClassId} {n : Nat} {f : Nat → Int64} (ha : ws[q0]? = some (a, .inl (cA, n, .inr (.inl f)))) (ht : tys[t0]? = some (cA, .long)) {i : Nat} (hdg : decode cc pc = .ok (.laload, 1)) (hi : i < n) (hn : n < 2 ^ 31)
    (k : W p l e R s m args below meth c H locs cells slots Q (F0 m (pc + 1) ls (.long (f i) :: rest))) : W p l e R s m args below meth c H locs cells slots Q (F0 m pc ls (.int (nI i) :: .ref a :: rest)) :=
  va_lald hx hb hK hP q0 t0 ha ht (vp_in_nI hi hn) hdg (by rw [nI_clamp (by omega)]; exact k)
theorem xl_ast (hx : p.tables.exec = Jvm.exec) (hb : c.code = cc) (hK : va_K D cl tys s) (hP : va_P D cl ws H) (hD : va_D A ws) (hS : va_S A H0 H locs) (q0 t0 : Nat) {cA : ClassId} {n : Nat} {f : Nat → Int64} (ha : ws[q0]? = some (a, .inl (cA, n, .inr (.inl f)))) (ht : tys[t0]? = some (cA, .long)) {i : Nat} {x : Int64} (hdg : decode cc pc = .ok (.lastore, 1)) (hi : i < n) (hn : n < 2 ^ 31)
    (kk : ∀ (H1 : Heap) (locs1 : List Loc), va_P D cl (ws.set q0 (a, .inl (cA, n, .inr (.inl (vp_updL f i x))))) H1 → va_D A (ws.set q0 (a, .inl (cA, n, .inr (.inl (vp_updL f i x))))) → va_S A H0 H1 locs1 → W p l e R s m args below meth c H1 locs1 cells slots Q (F0 m (pc + 1) ls rest)) : W p l e R s m args below meth c H locs cells slots Q (F0 m pc ls (.long x :: .int (nI i) :: .ref a :: rest)) :=
  va_last hx hb hK hP hD hS q0 t0 ha ht (vp_in_nI hi hn) hdg (by rw [nI_clamp (by omega)]; exact kk)
theorem xl_new (hx : p.tables.exec = Jvm.exec) (hb : c.code = cc) (harr : (Cond.arrayClass .long).before args s = true) (hK : va_K D cl tys s) (hP : va_P D cl ws H) (hD : va_D A ws) (hS : va_S A H0 H locs) (hA : ∀ q, H0.size ≤ q → A q) (t0 : Nat) {cI : ClassId} (ht : tys[t0]? = some (cI, .long)) {n : Nat} (hdg : decode cc pc = .ok (.newarray .long, 2)) (hn : n < 10000000) (hcells : cells + 1 ≤ R.cells) (hslots : slots + n ≤ R.slots)
    (kk : ∀ (q : Nat) (H1 : Heap), va_P D cl (ws ++ [(q, .inl (cI, n, .inr (.inl (fun _ => 0))))]) H1 → va_D A (ws ++ [(q, .inl (cI, n, .inr (.inl (fun _ => 0))))]) → va_S A H0 H1 locs → W p l e R s m args below meth c H1 locs (cells + 1) (slots + n) Q (F0 m (pc + 2) ls (.ref q :: rest))) : W p l e R s m args below meth c H locs cells slots Q (F0 m pc ls (.int (nI n) :: rest)) := by
  refine va_newa (atype := .long) (a0 := (n, .inr (.inl (fun _ => 0)))) (ty := .long) (N' := n) hx hb harr rfl hK hP hD hS hA (fun cA => rfl) (nI_pos (by omega)) (nI_clamp (by omega)) (by simp [componentBytes]; omega) hcells hslots hdg (fun q cA H1 hK1 hP1 hD1 hS1 => ?_)
  have e : cA = cI := by
    have h1 := (hK1.2 tys.length (cA, .long) (by simp)).2
    have h2 := (hK.2 t0 (cI, .long) ht).2
    exact Option.some.inj (h1.symm.trans h2)
  subst e
  exact kk q H1 hP1 hD1 hS1
theorem xn_copy (hx : p.tables.exec = Jvm.exec) (hb : c.code = cc) (hml : c.maxLocals = ls.size) {own : String} {index : Nat} (hown : s.vm.findClass own = some m.cls) (hlink : (Cond.methodLink own index arraycopyName).before args s = true) (hnat : (Cond.native arraycopyName).before args s = true) (hstat : (Cond.static arraycopyName).before args s = true) (hini : (Cond.initialized "java/lang/System").before args s = true)
    (hK : va_K D cl tys s) (hP : va_P D cl ws H) (hD : va_D A ws) (hS : va_S A H0 H locs) (q0 q1 t0 : Nat) {a0 : Nat} {c0 : ClassId} {n0 n1 : Nat} {f g : Nat → Int32} (ha0 : ws[q0]? = some (a0, .inl (c0, n0, .inl f))) (ha1 : ws[q1]? = some (a, .inl (c0, n1, .inl g))) (ht0 : tys[t0]? = some (c0, .int))
    {sp dp n : Nat} (h4 : sp + n ≤ n0) (h5 : dp + n ≤ n1) (hn0 : n0 < 2 ^ 31) (hn1 : n1 < 2 ^ 31)
    (hframes : 1 ≤ R.frames) (hlocals : (rest.map fun v => v.category).sum + (nativeFrameWords "java/lang/System" "arraycopy" 5 + 11) ≤ R.locals) (hdg : decode cc pc = .ok (.invokestatic index, 3))
    (kk : ∀ (H1 : Heap) (locs1 : List Loc), va_P D cl (ws.set q1 (a, .inl (c0, n1, .inl (va_cpy f g sp dp n)))) H1 → va_D A (ws.set q1 (a, .inl (c0, n1, .inl (va_cpy f g sp dp n)))) → va_S A H0 H1 locs1 → W p l e R s m args below meth c H1 locs1 cells slots Q (F0 m (pc + 3) ls rest)) : W p l e R s m args below meth c H locs cells slots Q (F0 m pc ls (.int (nI n) :: .int (nI dp) :: .ref a :: .int (nI sp) :: .ref a0 :: rest)) := by
  refine va_copyi hx hb hml hown hlink hnat hstat hini hK hP hD hS q0 q1 t0 t0 ha0 ha1 ht0 ht0 rfl (nI_pos (by omega)) (nI_pos (by omega)) (nI_pos (by omega)) ?_ ?_ (fun i _ => rfl) hframes hlocals hdg ?_
  · rw [nI_clamp (by omega), nI_clamp (by omega)]; exact h4
  · rw [nI_clamp (by omega), nI_clamp (by omega)]; exact h5
  · rw [nI_clamp (by omega), nI_clamp (by omega), nI_clamp (by omega)]; exact kk
end XLR
theorem xP_fnL {D : va_G} {cl : List vw_C} {ws : va_W} {H : Heap} {q a n : Nat} {c : ClassId} {f g : Nat → Int64} (hP : va_P D cl ws H) (hq : ws[q]? = some (a, .inl (c, n, .inr (.inl f)))) (h : f = g) : va_P D cl (ws.set q (a, .inl (c, n, .inr (.inl g)))) H := by
  subst h
  intro k x hx
  by_cases hk : k = q
  · subst hk
    have hlt : k < ws.length := (List.getElem?_eq_some_iff.mp hq).1
    rw [List.getElem?_set_self hlt] at hx
    cases hx
    exact hP k _ hq
  · rw [List.getElem?_set_ne (by omega)] at hx
    exact hP k x hx
