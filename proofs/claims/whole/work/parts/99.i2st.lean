/-! States of the class: a step is followed. -/
section ST2
variable {K V F S kC vC fC sC : Nat → Nat} {len : Nat} {u : Nat → Nat} {p n how : Nat} {lo : Bool}
def FI (K V F S : Nat → Nat) (len : Nat) (u : Nat → Nat) (p n how : Nat) (lo : Bool) (E' : Bool) (O' : List Nat) (M' : Nat → Bool) (B tu tu2 : Nat) (c : Nat) (js me : Nat → Nat) (O : List Nat) (ct : Nat) (st me2 : Nat → Nat) (e : Bool) (tk turn : Nat) : Prop :=
  (∀ i, i < c → js i < n) ∧ c + cnF n (seenB me tu) ≤ n + 1 ∧ (∀ k, me k ≤ tu) ∧ OnI n O ct st me2 tu2 ∧ turn + 2 * cnF n (seenB me tu) + c ≤ 402 ∧ tk + 2 * cnF n (seenB me tu) + c ≤ B ∧ (e = true → me 0 = tu ∧ lo = true) ∧
  (e || (gkN K V F len u how lo p (rkF K V F S len u p n (absK js c) (seenB me tu))).1) = E' ∧ addA O (gkN K V F len u how lo p (rkF K V F S len u p n (absK js c) (seenB me tu))).2 = O' ∧ mkG K V F S len u p n (absK js c) (seenB me tu) = M'
variable {E' : Bool} {O' : List Nat} {M' : Nat → Bool} {B tu tu2 c ct tk turn : Nat} {js me st me2 : Nat → Nat} {O : List Nat} {e : Bool}
theorem FI_0 (hn : n ≤ 200) {a : Nat} (ha : a < n) (hme : ∀ k, me k ≤ tu) (hO : OnI n O ct st me2 tu2) : FI K V F S len u p n how lo (gkN K V F len u how lo p (rkF K V F S len u p n [a] (seenB me tu))).1 (addA O (gkN K V F len u how lo p (rkF K V F S len u p n [a] (seenB me tu))).2) (mkG K V F S len u p n [a] (seenB me tu)) (tk + 2 * cnF n (seenB me tu) + 1) tu tu2 (0 + 1) (un js 0 a) me O ct st me2 false tk 0 := by
  have e1 : absK (un js 0 a) (0 + 1) = [a] := absK_push
  have hc := cnF_le n (seenB me tu)
  refine ⟨fun i hi => ?_, by omega, hme, hO, by omega, by omega, (fun h => by cases h), by rw [e1]; rfl, by rw [e1], by rw [e1]⟩
  rw [show i = 0 by omega, un_s]; exact ha
theorem absK_lt (h : ∀ i, i < c → js i < n) : ∀ x ∈ absK js c, x < n := by
  intro x hx
  obtain ⟨i, hi, rfl⟩ := (absK_mem c).mp hx
  exact h i hi
theorem FI_seen (H : FS K F S n) (h : FI K V F S len u p n how lo E' O' M' B tu tu2 c js me O ct st me2 e tk turn) (hc : 0 < c) (hm : me (js (c - 1)) = tu) : FI K V F S len u p n how lo E' O' M' B tu tu2 (c - 1) js me O ct st me2 e (tk + 1) (turn + 1) := by
  obtain ⟨h1, h2, h3, h4, h5, h6, h7, h8, h9, h10⟩ := h
  have a := rkF_seen (V := V) (len := len) (u := u) (p := p) (s := seenB me tu) H (h1 (c - 1) (by omega)) (absK_lt (fun i hi => h1 i (by omega)) (c := c - 1) (js := js)) (by simp [seenB, hm])
  rw [absK_c hc, a.1] at h8 h9
  rw [absK_c hc, a.2] at h10
  exact ⟨fun i hi => h1 i (by omega), by omega, h3, h4, by omega, by omega, h7, h8, h9, h10⟩
/-- the step is new -/
theorem FI_new (h : FI K V F S len u p n how lo E' O' M' B tu tu2 c js me O ct st me2 e tk turn) (hc : 0 < c) (hm : me (js (c - 1)) ≠ tu) : js (c - 1) < n ∧ cnF n (seenB (un me (js (c - 1)) tu) tu) + 1 = cnF n (seenB me tu) ∧ (∀ k, un me (js (c - 1)) tu k ≤ tu) ∧ (e = true → un me (js (c - 1)) tu 0 = tu ∧ lo = true) ∧ ∀ x ∈ absK js (c - 1), x < n := by
  obtain ⟨h1, h2, h3, h4, h5, h6, h7, -⟩ := h
  have hk := h1 (c - 1) (by omega)
  have hq := cnF_ub hk (seen_f hm)
  rw [← seenB_un] at hq
  refine ⟨hk, hq, fun k => ?_, fun he => ?_, absK_lt (fun i hi => h1 i (by omega))⟩
  · rw [un]; split
    · exact Nat.le_refl _
    · exact h3 k
  · refine ⟨?_, (h7 he).2⟩
    rw [un]; split
    · rfl
    · exact (h7 he).1
theorem FI_step (h : FI K V F S len u p n how lo E' O' M' B tu tu2 c js me O ct st me2 e tk turn) (hc : 0 < c) (hm : me (js (c - 1)) ≠ tu) {c2 ct2 : Nat} {js2 st2 me3 : Nat → Nat} {O2 : List Nat} (hc2 : c2 ≤ c + 1) (hj : ∀ i, i < c2 → js2 i < n) (hO : OnI n O2 ct2 st2 me3 tu2)
    (g1 : (gkN K V F len u how lo p (rkF K V F S len u p n (absK js c) (seenB me tu))).1 = (gkN K V F len u how lo p (rkF K V F S len u p n (absK js2 c2) (seenB (un me (js (c - 1)) tu) tu))).1)
    (g2 : addA O (gkN K V F len u how lo p (rkF K V F S len u p n (absK js c) (seenB me tu))).2 = addA O2 (gkN K V F len u how lo p (rkF K V F S len u p n (absK js2 c2) (seenB (un me (js (c - 1)) tu) tu))).2)
    (g3 : mkG K V F S len u p n (absK js c) (seenB me tu) = mkG K V F S len u p n (absK js2 c2) (seenB (un me (js (c - 1)) tu) tu)) :
    FI K V F S len u p n how lo E' O' M' B tu tu2 c2 js2 (un me (js (c - 1)) tu) O2 ct2 st2 me3 e (tk + 1) (turn + 1) ∧ 2 * cnF n (seenB (un me (js (c - 1)) tu) tu) + c2 < 2 * cnF n (seenB me tu) + c := by
  obtain ⟨n1, n2, n3, n4, n5⟩ := FI_new h hc hm
  obtain ⟨h1, h2, h3, h4, h5, h6, h7, h8, h9, h10⟩ := h
  exact ⟨⟨hj, by omega, n3, hO, by omega, by omega, n4, by rw [← g1]; exact h8, by rw [← g2]; exact h9, by rw [← g3]; exact h10⟩, by omega⟩
theorem FI_push (H : Pg n kC vC fC sC K V F S) (h : FI K V F S len u p n how lo E' O' M' B tu tu2 c js me O ct st me2 e tk turn) (hc : 0 < c) (hm : me (js (c - 1)) ≠ tu) (hp : pasB K V len u (js (c - 1)) p = true) {c2 : Nat} {js2 : Nat → Nat} (hc2 : c2 ≤ c + 1) (hj : ∀ i, i < c2 → js2 i < n) (he : absK js2 c2 = pkS K F S (js (c - 1)) (absK js (c - 1))) :
    FI K V F S len u p n how lo E' O' M' B tu tu2 c2 js2 (un me (js (c - 1)) tu) O ct st me2 e (tk + 1) (turn + 1) ∧ 2 * cnF n (seenB (un me (js (c - 1)) tu) tu) + c2 < 2 * cnF n (seenB me tu) + c := by
  obtain ⟨n1, n2, n3, n4, n5⟩ := FI_new h hc hm
  have a := rkF_pass (V := V) (len := len) (u := u) (p := p) H.FS n1 n5 (seen_f hm) hp
  refine FI_step h hc hm hc2 hj h.2.2.2.1 ?_ ?_ ?_
  · rw [absK_c hc, a.1, he, seenB_un]
  · rw [absK_c hc, a.1, he, seenB_un]
  · rw [absK_c hc, a.2, he, seenB_un]
theorem FI_nil (H : Pg n kC vC fC sC K V F S) (h : FI K V F S len u p n how lo E' O' M' B tu tu2 c js me O ct st me2 e tk turn) (hc : 0 < c) (hm : me (js (c - 1)) ≠ tu) (h1 : ¬ (js (c - 1) = 0 ∨ K (js (c - 1)) = 1)) (hp : ¬ pasB K V len u (js (c - 1)) p = true) :
    FI K V F S len u p n how lo E' O' M' B tu tu2 (c - 1) js (un me (js (c - 1)) tu) O ct st me2 e (tk + 1) (turn + 1) ∧ 2 * cnF n (seenB (un me (js (c - 1)) tu) tu) + (c - 1) < 2 * cnF n (seenB me tu) + c := by
  obtain ⟨n1, n2, n3, n4, n5⟩ := FI_new h hc hm
  have a := rkF_stop (V := V) (len := len) (u := u) (p := p) H.FS n1 n5 (seen_f hm) h1 hp
  refine FI_step h hc hm (by omega) (fun i hi => h.1 i (by omega)) h.2.2.2.1 ?_ ?_ ?_
  · rw [absK_c hc, a.1, seenB_un]
  · rw [absK_c hc, a.1, seenB_un]
  · rw [absK_c hc, a.2, seenB_un]
theorem FI_byte (H : Pg n kC vC fC sC K V F S) (h : FI K V F S len u p n how lo E' O' M' B tu tu2 c js me O ct st me2 e tk turn) (hc : 0 < c) (hm : me (js (c - 1)) ≠ tu) (h0 : js (c - 1) ≠ 0) (h1 : K (js (c - 1)) = 1) {ct2 : Nat} {st2 me3 : Nat → Nat} {O2 : List Nat} (hO : OnI n O2 ct2 st2 me3 tu2) (hO2 : O2 = if takB K V len u (js (c - 1)) p = true then addL O (F (js (c - 1))) else O) :
    FI K V F S len u p n how lo E' O' M' B tu tu2 (c - 1) js (un me (js (c - 1)) tu) O2 ct2 st2 me3 e (tk + 1) (turn + 1) ∧ 2 * cnF n (seenB (un me (js (c - 1)) tu) tu) + (c - 1) < 2 * cnF n (seenB me tu) + c := by
  obtain ⟨n1, n2, n3, n4, n5⟩ := FI_new h hc hm
  have a := rkF_leaf (V := V) (len := len) (u := u) (p := p) H.FS n1 n5 (seen_f hm) (Or.inr h1)
  refine FI_step h hc hm (by omega) (fun i hi => h.1 i (by omega)) hO ?_ ?_ ?_
  · rw [absK_c hc, a.1, seenB_un, gkN, if_neg h0]; split <;> rfl
  · rw [absK_c hc, a.1, seenB_un, gkN, if_neg h0, hO2]
    split
    · rw [addA_cons]
    · rfl
  · rw [absK_c hc, a.2, seenB_un]
/-- the END -/
theorem FI_end (H : Pg n kC vC fC sC K V F S) (h : FI K V F S len u p n how lo E' O' M' B tu tu2 c js me O ct st me2 e tk turn) (hc : 0 < c) (hm : me (js (c - 1)) ≠ tu) (h0 : js (c - 1) = 0) :
    (mayB len how p = true → lo = false → E' = true ∧ O = O' ∧ tk + 1 + 2 * cnF n (seenB (un me (js (c - 1)) tu) tu) ≤ B) ∧ ((mayB len how p = false ∨ lo = true) → FI K V F S len u p n how lo E' O' M' B tu tu2 (c - 1) js (un me (js (c - 1)) tu) O ct st me2 (mayB len how p) (tk + 1) (turn + 1) ∧ 2 * cnF n (seenB (un me (js (c - 1)) tu) tu) + (c - 1) < 2 * cnF n (seenB me tu) + c) := by
  obtain ⟨n1, n2, n3, n4, n5⟩ := FI_new h hc hm
  have a := rkF_leaf (V := V) (len := len) (u := u) (p := p) H.FS n1 n5 (seen_f hm) (Or.inl h0)
  obtain ⟨h1, h2, h3, h4, h5, h6, h7, h8, h9, h10⟩ := h
  have he : e = false := by
    cases e with
    | false => rfl
    | true => rw [h0] at hm; exact absurd (h7 rfl).1 hm
  subst he
  rw [absK_c hc, a.1, gkN, if_pos h0] at h8 h9
  rw [absK_c hc, a.2] at h10
  rw [← seenB_un] at h8 h9 h10
  refine ⟨fun m1 l1 => ?_, fun hx => ⟨⟨fun i hi => h1 i (by omega), by omega, n3, h4, by omega, by omega, fun hb => ⟨by rw [h0, un_s], ?_⟩, ?_, ?_, h10⟩, by omega⟩⟩
  · rw [if_pos m1, if_neg (by rw [l1]; decide)] at h8 h9
    exact ⟨h8.symm, h9, by omega⟩
  · rcases hx with hx | hx
    · rw [hx] at hb; cases hb
    · exact hx
  · by_cases m1 : mayB len how p = true
    · have l1 : lo = true := by rcases hx with hx | hx; (rw [hx] at m1; cases m1); (exact hx)
      rw [if_pos m1, if_pos l1] at h8
      rw [m1]; simpa using h8
    · rw [if_neg m1] at h8
      have : mayB len how p = false := by simpa using m1
      rw [this]; exact h8
  · by_cases m1 : mayB len how p = true
    · have l1 : lo = true := by rcases hx with hx | hx; (rw [hx] at m1; cases m1); (exact hx)
      rw [if_pos m1, if_pos l1] at h9; exact h9
    · rw [if_neg m1] at h9; exact h9
theorem FI_fin (h : FI K V F S len u p n how lo E' O' M' B tu tu2 0 js me O ct st me2 e tk turn) : e = E' ∧ O = O' ∧ seenB me tu = M' ∧ OnI n O' ct st me2 tu2 ∧ (∀ k, me k ≤ tu) ∧ tk + 2 * cnF n (seenB me tu) ≤ B := by
  obtain ⟨h1, h2, h3, h4, h5, h6, h7, h8, h9, h10⟩ := h
  have a : absK js 0 = [] := rfl
  rw [a, rkF_nil.1, gkN] at h8 h9
  rw [a, rkF_nil.2] at h10
  have e1 : e = E' := by simpa using h8
  have e2 : O = O' := h9
  exact ⟨e1, e2, h10, by rw [← e2]; exact h4, h3, by omega⟩
end ST2
