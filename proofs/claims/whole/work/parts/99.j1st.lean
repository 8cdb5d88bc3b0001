/-! What is kept of states stays right. -/
def gtN (lb : Nat) (e : Bool) : Nat := if e = true ∧ lb / 4 = 0 then 1 else lb / 4
def MoveTo (K V F S : Nat → Nat) (n b kn : Nat) (stp cnt lbl : Nat → Nat) (lb : Nat) (L : List Nat) (y v : Nat) : Prop :=
  (y ≠ 256 ∧ (addA [] (SPv K V F S n b lb L y).2 ≠ [] ∨ gtN lb (SPv K V F S n b lb L y).1 = 0) ∧ ∃ nx, nx < kn ∧ KpL stp cnt nx = addA [] (SPv K V F S n b lb L y).2 ∧ lbl nx = gtN lb (SPv K V F S n b lb L y).1 * 4 + sortB (nI y) ∧ v = (nx + 2) * 2 + (SPv K V F S n b lb L y).1.toNat) ∨
  (¬ (y ≠ 256 ∧ (addA [] (SPv K V F S n b lb L y).2 ≠ [] ∨ gtN lb (SPv K V F S n b lb L y).1 = 0)) ∧ v = 2 + (SPv K V F S n b lb L y).1.toNat)
def KI (K V F S : Nat → Nat) (n b mo kn : Nat) (stp mvs cnt lbl : Nat → Nat) : Prop :=
  4 ≤ mo ∧ mo ≤ 64 ∧ kn ≤ mo ∧ (∀ q, stp q < 256) ∧ (∀ q, mvs q < 256) ∧ (∀ q, lbl q < 2 ^ 30) ∧ (∀ q, cnt q < 2 ^ 30) ∧ (∀ i, i < kn → cnt i ≤ n ∧ lbl i < 16 ∧ ∀ j, j < cnt i → stp (i * 200 + j) < n) ∧
  ∀ i y, i < kn → y ≤ 256 → mvs (i * 264 + y) ≠ 0 → MoveTo K V F S n b kn stp cnt lbl (lbl i) (KpL stp cnt i) y (mvs (i * 264 + y))
section ST5
variable {K V F S : Nat → Nat} {n b mo kn kn2 ct lb i : Nat} {stp mvs cnt lbl st stp2 mvs2 cnt2 lbl2 : Nat → Nat}
theorem MoveTo_mono {L : List Nat} {y v : Nat} (h : MoveTo K V F S n b kn stp cnt lbl lb L y v) (hk : kn ≤ kn2) (hs : ∀ j, j < kn → KpL stp2 cnt2 j = KpL stp cnt j ∧ lbl2 j = lbl j) : MoveTo K V F S n b kn2 stp2 cnt2 lbl2 lb L y v := by
  rcases h with ⟨h1, h2, nx, h3, h4, h5, h6⟩ | h
  · exact Or.inl ⟨h1, h2, nx, by omega, by rw [(hs nx h3).1]; exact h4, by rw [(hs nx h3).2]; exact h5, h6⟩
  · exact Or.inr h
theorem stK_in {a : Nat} (h : a < ct) : stK stp i st ct (i * 200 + a) = st a := by
  rw [stK, if_pos (by omega), show i * 200 + a - i * 200 = a by omega]
theorem stK_out {j a : Nat} (hj : j ≠ i) (ha : a < 200) (hct : ct ≤ 200) : stK stp i st ct (j * 200 + a) = stp (j * 200 + a) := by
  rw [stK, if_neg (by omega)]
theorem KpL_new : KpL (stK stp i st ct) (un cnt i ct) i = stl st ct := by
  unfold KpL stl
  rw [un_s]
  apply List.map_congr_left
  intro a ha
  exact stK_in (List.mem_range.mp ha)
theorem KpL_old {j : Nat} (hj : j ≠ i) (hc : cnt j ≤ 200) (hct : ct ≤ 200) : KpL (stK stp i st ct) (un cnt i ct) j = KpL stp cnt j := by
  unfold KpL
  rw [un_n hj]
  apply List.map_congr_left
  intro a ha
  exact stK_out hj (by have := List.mem_range.mp ha; omega) hct
theorem KpL_same (h : KSm stp cnt lbl i ct st lb) : KpL stp cnt i = stl st ct := by
  unfold KpL stl
  rw [h.2.1]
  apply List.map_congr_left
  intro a ha
  exact h.2.2 a (List.mem_range.mp ha)
theorem wp_row {j y : Nat} (hy : y ≤ 256) : wpR mvs (33 * i) (33 * i + 33) (j * 264 + y) = if j = i then 0 else mvs (j * 264 + y) := by
  rw [wpR]
  by_cases h : j = i
  · subst h; rw [if_pos rfl, if_pos (by omega)]
  · rw [if_neg h, if_neg (by omega)]
/-- a state is looked up or added -/
theorem KI_num (hn : n ≤ 200) (h : KI K V F S n b mo kn stp mvs cnt lbl) (hct : ct ≤ n) (hst : ∀ j, j < ct → st j < n) (hst2 : ∀ q, q < ct → st q < 256) (hlb : lb < 16) (hN : NR mo kn stp mvs cnt lbl ct st lb i kn2 stp2 mvs2 cnt2 lbl2) :
    KI K V F S n b mo kn2 stp2 mvs2 cnt2 lbl2 ∧ i < kn2 ∧ KpL stp2 cnt2 i = stl st ct ∧ lbl2 i = lb ∧ (kn ≤ kn2 → ∀ j, j < kn → KpL stp2 cnt2 j = KpL stp cnt j ∧ lbl2 j = lbl j) ∧ (¬ kn ≤ kn2 → kn2 < 4) := by
  obtain ⟨h1, h2, h3, h4, h5, h6, h7, h8, h9⟩ := h
  rcases hN with ⟨g1, g2, rfl, rfl, rfl, rfl, rfl⟩ | ⟨g1, rfl, rfl, rfl, rfl, rfl⟩
  · exact ⟨⟨h1, h2, h3, h4, h5, h6, h7, h8, h9⟩, g1, KpL_same g2, g2.1, fun _ j _ => ⟨rfl, rfl⟩, fun hx => absurd (Nat.le_refl _) hx⟩
  · have hi : i ≤ kn ∧ i < mo := by rcases g1 with g1 | g1 <;> omega
    have hold : ∀ j, j < i → KpL (stK stp i st ct) (un cnt i ct) j = KpL stp cnt j ∧ un lbl i lb j = lbl j := fun j hj => ⟨KpL_old (by omega) (by have := (h8 j (by omega)).1; omega) (by omega), un_n (by omega)⟩
    refine ⟨⟨h1, h2, by omega, fun q => ?_, fun q => ?_, fun q => ?_, fun q => ?_, fun j hj => ?_, fun j y hj hy hv => ?_⟩, by omega, KpL_new, un_s, fun hk j hj => ?_, fun hk => by rcases g1 with g1 | g1 <;> omega⟩
    · rw [stK]; split
      · exact hst2 _ (by omega)
      · exact h4 q
    · rw [wpR]; split
      · omega
      · exact h5 q
    · rw [un]; split
      · omega
      · exact h6 q
    · rw [un]; split
      · omega
      · exact h7 q
    · by_cases e : j = i
      · subst e; rw [un_s, un_s]
        exact ⟨hct, hlb, fun a ha => by rw [stK_in ha]; exact hst a ha⟩
      · have := h8 j (by omega)
        rw [un_n e, un_n e]
        exact ⟨this.1, this.2.1, fun a ha => by rw [stK_out e (by omega) (by omega)]; exact this.2.2 a ha⟩
    · rw [wp_row hy] at hv ⊢
      by_cases e : j = i
      · rw [if_pos e] at hv; exact absurd rfl hv
      · rw [if_neg e] at hv ⊢
        have hj2 : j < i := by omega
        have hq := hold j hj2
        rw [hq.1, hq.2]
        rcases g1 with g1 | g1
        · exact MoveTo_mono (h9 j y (by omega) hy hv) (by omega) (fun a ha => hold a (by omega))
        · omega
    · rcases g1 with g1 | g1
      · exact hold j (by omega)
      · omega
/-- a move is noted down -/
theorem KI_know (h : KI K V F S n b mo kn stp mvs cnt lbl) {y v : Nat} (hi : i < kn) (hy : y ≤ 256) (hv : v < 256) (hM : MoveTo K V F S n b kn stp cnt lbl (lbl i) (KpL stp cnt i) y v) : KI K V F S n b mo kn stp (un mvs (i * 264 + y) v) cnt lbl := by
  obtain ⟨h1, h2, h3, h4, h5, h6, h7, h8, h9⟩ := h
  refine ⟨h1, h2, h3, h4, fun q => ?_, h6, h7, h8, fun j z hj hz hq => ?_⟩
  · rw [un]; split
    · exact hv
    · exact h5 q
  · by_cases e : j * 264 + z = i * 264 + y
    · have e1 : j = i := by omega
      have e2 : z = y := by omega
      subst e1; subst e2
      rw [un_s]; exact hM
    · rw [un_n e] at hq ⊢; exact h9 j z hj hz hq
theorem sort_lt (x : Int32) : sortB x < 4 := by
  unfold sortB; split
  · omega
  · split
    · omega
    · split <;> omega
theorem gt_lt {lb : Nat} {e : Bool} (h : lb < 16) : gtN lb e < 4 := by unfold gtN; split <;> omega
theorem KI_0 (h4 : 4 ≤ mo) (h64 : mo ≤ 64) (hs : ∀ q, stp q < 256) (hm : ∀ q, mvs q < 256) (hl : ∀ q, lbl q < 2 ^ 30) (hc : ∀ q, cnt q < 2 ^ 30) : KI K V F S n b mo 0 stp mvs cnt lbl := ⟨h4, h64, by omega, hs, hm, hl, hc, fun i hi => by omega, fun i y hi => by omega⟩
end ST5
