/-! The class's rows of threads: over a byte, and the run. -/
def beS : Option (Nat × Sv) → Sv
  | none => fun _ => -1
  | some (e, sv) => upd sv 1 (nI e)
def BeOk (best : Option (Nat × Sv)) : Prop := ∀ x, best = some x → x.1 ≤ 200
theorem nI_nm1 {e : Nat} (h : e < 2 ^ 31) : nI e ≠ -1 := by
  intro h2
  have h3 := nI_pos h
  rw [h2] at h3
  exact h3 (by decide)
theorem beS_1 {best : Option (Nat × Sv)} (h : BeOk best) : beS best 1 = -1 ↔ best = none := by
  cases best with
  | none => simp [beS]
  | some x =>
    have h1 := h x rfl
    have h2 : beS (some x) 1 = nI x.1 := pk_us
    rw [h2]
    constructor
    · intro h3; exact absurd h3 (nI_nm1 (by omega))
    · intro h3; cases h3
theorem beS_sk {best : Option (Nat × Sv)} {sv : Sv} (h : BeOk best) : (beS best 1 ≠ -1 ∧ ¬ sv 0 ≤ beS best 0) ↔ skB best sv = true := by
  rw [Ne, beS_1 h]
  cases best with
  | none => simp [skB]
  | some x =>
    have h2 : beS (some x) 0 = x.2 0 := pk_un (by decide)
    rw [h2]
    simp [skB]
section TR
variable {K V F S kC vC fC sC : Nat → Nat} {len : Nat} {u : Nat → Nat} {p n how : Nat} {lo : Bool}
theorem rwF_app (H : FS K F S n) {st q : List (Nat × Sv)} {s : Nat → Bool} (hl : ∀ x ∈ st, x.1 < n) (hq : ∀ x ∈ q, x.1 < n) : rwF K V F S len u p n (st ++ q) s = rwF K V F S len u p n st s ++ rwF K V F S len u p n q (mkF K V F S len u p n st s) ∧ mkF K V F S len u p n (st ++ q) s = mkF K V F S len u p n q (mkF K V F S len u p n st s) :=
  rwN_app H.1 H.2 _ _ _ st q s (by simp) (by omega) (by show _ < 2 * cnF n (mkF K V F S len u p n st s) + q.length + 1; unfold mkF; omega) hl hq
theorem mkF_le (H : FS K F S n) {st : List (Nat × Sv)} {s : Nat → Bool} (hl : ∀ x ∈ st, x.1 < n) : cnF n (mkF K V F S len u p n st s) ≤ cnF n s ∧ ∀ x ∈ rwF K V F S len u p n st s, x.1 < n ∧ (x.1 = 0 ∨ K x.1 = 1) := mkN_le H.1 H.2 _ st s hl
/-- the rest of a row is as the whole -/
def gbP (K V F : Nat → Nat) (len : Nat) (u : Nat → Nat) (how : Nat) (lo : Bool) (p : Nat) (R : List (Nat × Sv)) (i : Nat) (best : Option (Nat × Sv)) (T : List (Nat × Sv)) (B0 : Option (Nat × Sv)) (T0 : List (Nat × Sv)) : Prop :=
  (gbN K V F len u how lo true p (R.drop i) best).1 = B0 ∧ T ++ (gbN K V F len u how lo true p (R.drop i) best).2 = T0
variable {R T T0 : List (Nat × Sv)} {i k : Nat} {sv : Sv} {best B0 : Option (Nat × Sv)}
theorem drop_at (h : R[i]? = some (k, sv)) : R.drop i = (k, sv) :: R.drop (i + 1) := by
  obtain ⟨h1, h2⟩ := List.getElem?_eq_some_iff.mp h
  rw [List.drop_eq_getElem_cons h1, h2]
theorem gbP_0 : gbP K V F len u how lo p R 0 best [] (gbN K V F len u how lo true p R best).1 (gbN K V F len u how lo true p R best).2 := by
  simp [gbP]
theorem gbP_end (h : gbP K V F len u how lo p R i best T B0 T0) (hi : R.length ≤ i) : best = B0 ∧ T = T0 := by
  obtain ⟨h1, h2⟩ := h
  rw [List.drop_eq_nil_of_le hi] at h1 h2
  simp [gbN] at h1 h2
  exact ⟨h1, h2⟩
theorem gbP_skip (h : gbP K V F len u how lo p R i best T B0 T0) (hi : R[i]? = some (k, sv)) (hs : skB best sv = true) : gbP K V F len u how lo p R (i + 1) best T B0 T0 := by
  rw [gbP, drop_at hi, gbN, if_pos (by simp [hs])] at h; exact h
theorem gbP_no (h : gbP K V F len u how lo p R i best T B0 T0) (hi : R[i]? = some (k, sv)) (hs : ¬ skB best sv = true) (hk : k = 0) (hm : mayB len how p = false) : gbP K V F len u how lo p R (i + 1) best T B0 T0 := by
  rw [gbP, drop_at hi, gbN, if_neg (by simpa using hs), if_pos hk, if_neg (by simp [hm])] at h; exact h
theorem gbP_yes (h : gbP K V F len u how lo p R i best T B0 T0) (hi : R[i]? = some (k, sv)) (hs : ¬ skB best sv = true) (hk : k = 0) (hm : mayB len how p = true) (hlo : lo = true) : gbP K V F len u how lo p R (i + 1) (some (p, sv)) T B0 T0 := by
  rw [gbP, drop_at hi, gbN, if_neg (by simpa using hs), if_pos hk, if_pos hm, if_pos hlo] at h; exact h
theorem gbP_ret (h : gbP K V F len u how lo p R i best T B0 T0) (hi : R[i]? = some (k, sv)) (hs : ¬ skB best sv = true) (hk : k = 0) (hm : mayB len how p = true) (hlo : lo = false) : some (p, sv) = B0 ∧ T = T0 := by
  rw [gbP, drop_at hi, gbN, if_neg (by simpa using hs), if_pos hk, if_pos hm, if_neg (by simp [hlo])] at h
  simp at h
  exact h
theorem gbP_take (h : gbP K V F len u how lo p R i best T B0 T0) (hi : R[i]? = some (k, sv)) (hs : ¬ skB best sv = true) (hk : k ≠ 0) (ht : takB K V len u k p = true) : gbP K V F len u how lo p R (i + 1) best (T ++ [(F k, sv)]) B0 T0 := by
  rw [gbP, drop_at hi, gbN, if_neg (by simpa using hs), if_neg hk, if_pos ht] at h
  rw [gbP, List.append_assoc]
  exact h
theorem gbP_not (h : gbP K V F len u how lo p R i best T B0 T0) (hi : R[i]? = some (k, sv)) (hs : ¬ skB best sv = true) (hk : k ≠ 0) (ht : takB K V len u k p = false) : gbP K V F len u how lo p R (i + 1) best T B0 T0 := by
  rw [gbP, drop_at hi, gbN, if_neg (by simpa using hs), if_neg hk, if_neg (by simp [ht])] at h; exact h
theorem rwL_at {ct i : Nat} {st : Nat → Nat} {sd : Nat → Int32} (h : i < ct) : (rwL ct st sd)[i]? = some (st i, slc sd (st i)) := by
  simp [rwL, h]
/-- a row of the class is the row of a stack at a place -/
def RowIs (K V F S : Nat → Nat) (len : Nat) (u : Nat → Nat) (p n : Nat) (T : List (Nat × Sv)) (ct tu : Nat) (st me : Nat → Nat) (sd : Nat → Int32) : Prop :=
  (∀ x ∈ T, x.1 < n) ∧ rwL ct st sd = rwF K V F S len u p n T (fun _ => false) ∧ seenB me tu = mkF K V F S len u p n T (fun _ => false) ∧ ct + cnF n (seenB me tu) ≤ n ∧ (∀ i, i < ct → st i < n ∧ me (st i) = tu ∧ SvOk (slc sd (st i))) ∧ ∀ k, me k ≤ tu
theorem RowIs_0 {st me : Nat → Nat} {sd : Nat → Int32} {tu : Nat} (h : ∀ k, me k ≤ tu) : RowIs K V F S len u p n [] 0 (tu + 1) st me sd := by
  have e : seenB me (tu + 1) = fun _ => false := by
    funext k; have := h k; simp [seenB]; omega
  refine ⟨fun x (hx : x ∈ []) => (List.not_mem_nil hx).elim, rfl, e.trans rfl, ?_, fun i hi => by omega, fun k => by have := h k; omega⟩
  rw [e, cnF_all (fun _ _ => rfl)]; omega
theorem RowIs_TI {T : List (Nat × Sv)} {ct tu : Nat} {st me js : Nat → Nat} {sd : Nat → Int32} {nw : Sv} {a : Nat} (h : RowIs K V F S len u p n T ct tu st me sd) (hs : SvOk nw) (hN : Nm nw) (ha : a < n) : TI n tu 1 (un js 0 a) nw ct st me sd :=
  ⟨fun i hi => by rw [show i = 0 by omega, un_s]; exact Or.inl ha, hs, hN, h.2.2.2.1, h.2.2.2.2.1, h.2.2.2.2.2⟩
/-- a thread is added to a row -/
theorem RowIs_add (H : FS K F S n) {T : List (Nat × Sv)} {ct tu ct2 : Nat} {st me st2 me2 : Nat → Nat} {sd sd2 : Nat → Int32} {nw nw2 : Sv} {a : Nat} {js2 : Nat → Nat} (h : RowIs K V F S len u p n T ct tu st me sd) (ha : a < n) (hI : TI n tu 0 js2 nw2 ct2 st2 me2 sd2)
    (h1 : rwL ct2 st2 sd2 = rwL ct st sd ++ rwF K V F S len u p n [(a, nw)] (seenB me tu)) (h2 : seenB me2 tu = mkF K V F S len u p n [(a, nw)] (seenB me tu)) : RowIs K V F S len u p n (T ++ [(a, nw)]) ct2 tu st2 me2 sd2 := by
  obtain ⟨g1, g2, g3, -, -, -⟩ := h
  have ha1 : ∀ x ∈ [(a, nw)], x.1 < n := fun x hx => by rw [List.mem_singleton.mp hx]; exact ha
  have e := rwF_app (V := V) (len := len) (u := u) (p := p) (s := fun _ => false) H g1 ha1
  refine ⟨fun x hx => ?_, ?_, ?_, hI.2.2.2.1, hI.2.2.2.2.1, hI.2.2.2.2.2⟩
  · rcases List.mem_append.mp hx with hx | hx
    · exact g1 x hx
    · exact ha1 x hx
  · rw [h1, e.1, g2, g3]
  · rw [h2, e.2, g3]
end TR
/-- the byte ahead of a place, -1 for none -/
def bvI (len : Nat) (u : Nat → Nat) (q : Nat) : Int32 := if 1 ≤ q ∧ q ≤ len then nI (u (q - 1)) else -1
def tkI (vC : Nat → Nat) (k : Nat) (x : Int32) : Bool := !decide (x < nI (vC k / 256)) && decide (x ≤ nI (vC k % 256))
theorem tkI_tak {K V vC : Nat → Nat} {len : Nat} {u : Nat → Nat} {k p : Nat} (hk : 0 < k) (hK : K k = 1) (hv : vC k = V k) (hV : V k < 65536) (hu : ∀ i, u i < 256) : tkI vC k (bvI len u (p + 1)) = takB K V len u k p := by
  rw [tkI, takB, bvI, hv]
  have hup := hu p
  by_cases hp : p < len
  · rw [if_pos (by omega), show p + 1 - 1 = p by omega]
    have e1 : decide (nI (u p) < nI (V k / 256)) = decide (u p < V k / 256) := decide_eq_decide.mpr (nI_ltI (by omega) (by omega))
    have e2 : decide (nI (u p) ≤ nI (V k % 256)) = decide (u p ≤ V k % 256) := decide_eq_decide.mpr (nI_leI (by omega) (by omega))
    rw [e1, e2]
    simp only [hk, hK, hp, decide_true, Bool.true_and]
    congr 1
    by_cases h : u p < V k / 256
    · have : ¬ V k / 256 ≤ u p := by omega
      simp [h, this]
    · have : V k / 256 ≤ u p := by omega
      simp [h, this]
  · rw [if_neg (by omega)]
    have e1 : decide ((-1 : Int32) < nI (V k / 256)) = true := decide_eq_true (Int32.lt_of_lt_of_le (by decide) (nI_pos' (by omega)))
    rw [e1]
    simp [hp]
