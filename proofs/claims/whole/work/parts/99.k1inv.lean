/-! What the class's program and the reference's program have in common, between two calls of the law. -/
/-- a value that a step of that kind may have -/
theorem gd_ex {kd : Nat} {x : Int32} (h2 : kd ≠ 2) (h5 : kd ≠ 5) (h1 : 1 ≤ kd) (h6 : kd < 6) (h : gdB (nI kd) x = true) : ∃ v : Nat, x = nI v ∧ (kd = 1 → v < 65536 ∧ v / 256 ≤ v % 256) ∧ (kd = 3 → 2 ≤ v ∧ v < 20) ∧ (kd = 4 → v < 6) := by
  have hc : kd = 1 ∨ kd = 3 ∨ kd = 4 := by omega
  rcases hc with rfl | rfl | rfl
  · rw [gdB_1] at h
    simp only [Bool.and_eq_true, Bool.not_eq_true', decide_eq_false_iff_not, decide_eq_true_eq] at h
    obtain ⟨h0, h3, h4⟩ := h
    obtain ⟨v, hv, rfl⟩ := nI_of h0
    rw [nI_leI (by omega) hv] at h3
    rw [pk_rem hv (by omega) (by omega), pk_div hv (by omega) (by omega), nI_leI (by omega) (by omega)] at h4
    exact ⟨v, rfl, fun _ => ⟨by omega, h4⟩, fun h => absurd h (by decide), fun h => absurd h (by decide)⟩
  · rw [gdB_3] at h
    simp only [Bool.and_eq_true, Bool.not_eq_true', decide_eq_false_iff_not, decide_eq_true_eq] at h
    have h0 : ¬ x < 0 := fun h9 => h.1 (Int32.lt_of_lt_of_le h9 (by decide))
    obtain ⟨v, hv, rfl⟩ := nI_of h0
    rw [nI_ltI hv (by omega), nI_ltI hv (by omega)] at h
    exact ⟨v, rfl, fun h => absurd h (by decide), fun _ => ⟨by omega, by omega⟩, fun h => absurd h (by decide)⟩
  · rw [gdB_4] at h
    simp only [Bool.and_eq_true, Bool.not_eq_true', decide_eq_false_iff_not, decide_eq_true_eq] at h
    obtain ⟨v, hv, rfl⟩ := nI_of h.1
    have h3 := h.2
    rw [nI_leI (by omega) hv] at h3
    exact ⟨v, rfl, fun h => absurd h (by decide), fun h => absurd h (by decide), fun _ => by omega⟩
/-- one step, in the class and in the reference -/
def JS (n k kc vc fc sc : Nat) (vi fi si : Int32) : Prop :=
  kc = k ∧ 1 ≤ k ∧ ((k = 1 ∨ k = 3 ∨ k = 4) → vi = nI vc) ∧ (k = 1 → vc < 65536 ∧ vc / 256 ≤ vc % 256) ∧ (k = 3 → 2 ≤ vc ∧ vc < 20) ∧ (k = 4 → vc < 6) ∧ (k ≠ 5 → fi = nI fc ∧ fc < n) ∧ (k = 2 → si = nI sc ∧ sc < n)
def JP (n b : Nat) (kC vC fC sC K : Nat → Nat) (vI fI sI : Nat → Int32) : Prop :=
  0 < n ∧ n ≤ 200 ∧ b < n ∧ kC 0 = 0 ∧ (∀ i, K i < 6) ∧ ∀ i, 0 < i → i < n → JS n (K i) (kC i) (vC i) (fC i) (sC i) (vI i) (fI i) (sI i)
/-- the values, as both see them -/
def vX (n : Nat) (K vC : Nat → Nat) : Nat → Nat := fun i => if 0 < i ∧ i < n ∧ (K i = 1 ∨ K i = 3 ∨ K i = 4) then vC i else 2
section JV
variable {n b : Nat} {kC vC fC sC K : Nat → Nat} {vI fI sI : Nat → Int32}
theorem JP_init : JP 1 0 (fun _ => 0) vC fC sC (fun _ => 0) vI fI sI := ⟨by omega, by omega, by omega, rfl, fun _ => by show (0 : Nat) < 6; omega, fun i h1 h2 => by omega⟩
theorem JP_lay (h : JP n b kC vC fC sC K vI fI sI) {m : Nat} (h1 : 1 ≤ m) (h2 : m ≤ 200) : JP m 0 (lyC kC 5 m) (lyC vC 0 m) (lyC fC 0 m) (lyC sC 0 m) (layK K m) vI fI sI := by
  obtain ⟨_, _, _, h0, h6, _⟩ := h
  refine ⟨by omega, h2, by omega, by simp [lyC, h0], fun i => ?_, fun i hi hm => ?_⟩
  · unfold layK; split
    · omega
    · exact h6 i
  · have e1 : layK K m i = 5 := by unfold layK; rw [if_pos hm]
    have e2 : lyC kC 5 m i = 5 := by unfold lyC; rw [if_pos (by omega)]
    rw [e1, e2]
    exact ⟨rfl, by omega, fun h => by omega, fun h => by omega, fun h => by omega, fun h => by omega, fun h => absurd rfl h, fun h => by omega⟩
theorem JP_begin (h : JP n b kC vC fC sC K vI fI sI) {k : Nat} (hk : k < n) : JP n k kC vC fC sC K vI fI sI := ⟨h.1, h.2.1, hk, h.2.2.2⟩
theorem JP_step (h : JP n b kC vC fC sC K vI fI sI) {k kd v a d : Nat} {x y z : Int32} (h0 : 0 < k) (hk : k < n) (h1 : 1 ≤ kd) (h6 : kd < 6) (hx : kd ≠ 2 → kd ≠ 5 → x = nI v) (hy : kd ≠ 5 → y = nI a) (hz : kd = 2 → z = nI d) (ha : kd ≠ 5 → a < n) (hd : kd = 2 → d < n) (hv1 : kd = 1 → v < 65536 ∧ v / 256 ≤ v % 256) (hv3 : kd = 3 → 2 ≤ v ∧ v < 20) (hv4 : kd = 4 → v < 6) :
    JP n b (un kC k kd) (un vC k (if kd = 2 ∨ kd = 5 then 0 else v)) (un fC k (if kd = 5 then 0 else a)) (un sC k (if kd = 2 then d else 0)) (un K k kd) (upd vI k x) (upd fI k y) (upd sI k z) := by
  obtain ⟨g1, g2, g3, g4, g5, g6⟩ := h
  refine ⟨g1, g2, g3, by rw [un_n (by omega)]; exact g4, fun i => ?_, fun i hi hn => ?_⟩
  · unfold un; split
    · exact h6
    · exact g5 i
  · by_cases he : i = k
    · subst he
      simp only [un, upd, if_true]
      refine ⟨rfl, h1, fun h => ?_, fun h => ?_, fun h => ?_, fun h => ?_, fun h => ?_, fun h => ?_⟩
      · rw [if_neg (by omega)]; exact hx (by omega) (by omega)
      · rw [if_neg (by omega)]; exact hv1 h
      · rw [if_neg (by omega)]; exact hv3 h
      · rw [if_neg (by omega)]; exact hv4 h
      · rw [if_neg h]; exact ⟨hy h, ha h⟩
      · rw [if_pos h]; exact ⟨hz h, hd h⟩
    · simp only [un, upd, if_neg he]
      exact g6 i hi hn
/-- the values of a step that has one -/
theorem vX_in {i : Nat} (h0 : 0 < i) (hn : i < n) (hk : K i = 1 ∨ K i = 3 ∨ K i = 4) : vX n K vC i = vC i := by unfold vX; rw [if_pos ⟨h0, hn, hk⟩]
theorem JP_Pg (h : JP n b kC vC fC sC K vI fI sI) : Pg n kC vC fC sC K (vX n K vC) fC sC := by
  obtain ⟨g1, g2, g3, g4, g5, g6⟩ := h
  refine ⟨g1, g2, g4, fun i hi hn => ?_⟩
  obtain ⟨a1, a2, a3, a4, a5, a6, a7, a8⟩ := g6 i hi hn
  refine ⟨a1, a2, g5 i, fun h => (vX_in hi hn h).symm, fun h => ?_, fun h => ?_, fun h => ?_, fun h => ⟨rfl, (a7 h).2⟩, fun h => ⟨rfl, (a8 h).2⟩⟩
  · rw [vX_in hi hn (Or.inl h)]; exact a4 h
  · rw [vX_in hi hn (Or.inr (Or.inl h))]; exact a5 h
  · rw [vX_in hi hn (Or.inr (Or.inr h))]; exact a6 h
theorem JP_hv (h : JP n b kC vC fC sC K vI fI sI) : ∀ i, 0 < i → i < n → (K i = 1 ∨ K i = 3 ∨ K i = 4) → vI i = nI (vX n K vC i) := fun i hi hn hk => by rw [vX_in hi hn hk]; exact (h.2.2.2.2.2 i hi hn).2.2.1 hk
theorem vX_c (n : Nat) (K vC : Nat → Nat) (i : Nat) : vX n K vC i = 2 ∨ (0 < i ∧ i < n ∧ (K i = 1 ∨ K i = 3 ∨ K i = 4) ∧ vX n K vC i = vC i) := by
  by_cases h : 0 < i ∧ i < n ∧ (K i = 1 ∨ K i = 3 ∨ K i = 4)
  · exact Or.inr ⟨h.1, h.2.1, h.2.2, vX_in h.1 h.2.1 h.2.2⟩
  · left; unfold vX; rw [if_neg h]
theorem JP_v (h : JP n b kC vC fC sC K vI fI sI) (i : Nat) : vX n K vC i < 65536 ∧ (K i = 4 → vX n K vC i < 6) ∧ (K i = 3 → 2 ≤ vX n K vC i ∧ vX n K vC i < 20) := by
  rcases vX_c n K vC i with h2 | ⟨hi, hn, hk, he⟩
  · rw [h2]; exact ⟨by omega, fun _ => by omega, fun _ => by omega⟩
  · obtain ⟨a1, a2, a3, a4, a5, a6, a7, a8⟩ := h.2.2.2.2.2 i hi hn
    rw [he]
    refine ⟨?_, a6, a5⟩
    rcases hk with hk | hk | hk
    · exact (a4 hk).1
    · have := a5 hk; omega
    · have := a6 hk; omega
theorem JP_hvb (h : JP n b kC vC fC sC K vI fI sI) : ∀ i, vX n K vC i < 65536 := fun i => (JP_v h i).1
theorem JP_hv4 (h : JP n b kC vC fC sC K vI fI sI) : ∀ i, i < n → K i = 4 → vX n K vC i < 6 := fun i _ => (JP_v h i).2.1
theorem JP_hv3 (h : JP n b kC vC fC sC K vI fI sI) : ∀ i, i < n → K i = 3 → vX n K vC i < 20 := fun i _ hk => ((JP_v h i).2.2 hk).2
theorem JP_hf (h : JP n b kC vC fC sC K vI fI sI) : ∀ i, 0 < i → i < n → (K i = 1 ∨ K i = 2 ∨ K i = 3 ∨ K i = 4) → fI i = nI (fC i) ∧ fC i < n := fun i hi hn hk => (h.2.2.2.2.2 i hi hn).2.2.2.2.2.2.1 (by omega)
theorem JP_hs (h : JP n b kC vC fC sC K vI fI sI) : ∀ i, 0 < i → i < n → K i = 2 → sI i = nI (sC i) ∧ sC i < n := fun i hi hn hk => (h.2.2.2.2.2 i hi hn).2.2.2.2.2.2.2 hk
theorem JP_K1 (h : JP n b kC vC fC sC K vI fI sI) : ∀ i, 0 < i → i < n → 1 ≤ K i := fun i hi hn => (h.2.2.2.2.2 i hi hn).2.1
theorem JP_PkH (h : JP n b kC vC fC sC K vI fI sI) {len how fr : Nat} (hfr : fr ≤ len) (hle : len ≤ 200) : PkH K (vX n K vC) fC sC len n b how fr :=
  ⟨fun i hi hn hk => (JP_hf h i hi hn (by omega)).2, fun i hi hn hk => (JP_hs h i hi hn hk).2, fun i hi hn hk => (JP_hf h i hi hn (Or.inl hk)).2, fun k hk => by have := (JP_v h k).2.2 hk; omega, h.2.2.1, hfr, by omega⟩
end JV
/-- nothing is kept of states -/
theorem KI_none {K V F S : Nat → Nat} {n b mo : Nat} {stp mvs cnt lbl : Nat → Nat} (h1 : 4 ≤ mo) (h2 : mo ≤ 64) (h3 : ∀ q, stp q < 256) (h4 : ∀ q, mvs q < 256) (h5 : ∀ q, lbl q < 2 ^ 30) (h6 : ∀ q, cnt q < 2 ^ 30) : KI K V F S n b mo 0 stp mvs cnt lbl :=
  ⟨h1, h2, by omega, h3, h4, h5, h6, fun i hi => by omega, fun i y hi => by omega⟩
/-- after a change of the program: forgotten, with the new program -/
theorem KI_forget {K V F S K2 V2 F2 S2 : Nat → Nat} {n b mo kn n2 b2 : Nat} {stp mvs cnt lbl : Nat → Nat} (h : KI K V F S n b mo kn stp mvs cnt lbl) : KI K2 V2 F2 S2 n2 b2 mo 0 stp mvs cnt lbl :=
  KI_none h.1 h.2.1 h.2.2.2.1 h.2.2.2.2.1 h.2.2.2.2.2.1 h.2.2.2.2.2.2.1
