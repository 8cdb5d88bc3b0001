/-! Small facts that the walks of the class's methods use. -/
theorem gdB_1 (x : Int32) : gdB (nI 1) x = (!decide (x < 0) && (!decide (nI 65536 ≤ x) && decide (x / nI 256 ≤ x - x / nI 256 * nI 256))) := by
  show ((!decide (x < 0) && (!decide (nI 65536 ≤ x) && decide (x / nI 256 ≤ x - x / nI 256 * nI 256))) || false) = _
  simp
theorem gdB_2 (x : Int32) : gdB (nI 2) x = true := rfl
theorem gdB_5 (x : Int32) : gdB (nI 5) x = true := rfl
theorem gdB_3 (x : Int32) : gdB (nI 3) x = (!decide (x < nI 2) && decide (x < nI 20)) := by
  show ((!decide (x < nI 2) && decide (x < nI 20)) || false) = _
  simp
theorem gdB_4 (x : Int32) : gdB (nI 4) x = (!decide (x < 0) && !decide (nI 6 ≤ x)) := rfl
theorem pb_eq (a h : Nat) : nI a + (nI h - nI 1) + nI 1 = nI (a + h) := by
  rw [Int32.add_assoc, Int32.sub_add_cancel, nI_add]
theorem cpy_slc {sd : Nat → Int32} {g : Sv} {k j : Nat} (hj : j < 20) : va_cpy sd g (k * 20) 0 20 j = slc sd k j := by
  rw [va_cpy, if_pos (by omega), slc, if_pos hj, show k * 20 + (j - 0) = k * 20 + j by omega]
theorem cpy_all {f g : Nat → Int32} {j : Nat} (hj : j < 20) : va_cpy f g 0 0 20 j = f j := by
  rw [va_cpy, if_pos (by omega), show 0 + (j - 0) = j by omega]
section T4
variable {K V F S kC vC fC sC : Nat → Nat} {len : Nat} {u : Nat → Nat} {p n tu k c ct : Nat} {js st me : Nat → Nat} {sv : Sv} {sd : Nat → Int32}
theorem Pg_k (H : Pg n kC vC fC sC K V F S) (hk : k < n) : kC k < 6 := by
  rcases Nat.eq_zero_or_pos k with h | h
  · subst h; have := H.2.2.1; omega
  · have := H.2.2.2 k h hk; omega
theorem Pg_0 (H : Pg n kC vC fC sC K V F S) (h : kC k ≠ 0) : 0 < k := by
  rcases Nat.eq_zero_or_pos k with h0 | h0
  · subst h0; exact absurd H.2.2.1 h
  · exact h0
theorem Pg_at (H : Pg n kC vC fC sC K V F S) (hk : k < n) (h : kC k ≠ 0) (h5 : kC k ≠ 5) : fC k < n ∧ fC k = F k := by
  have q := H.2.2.2 k (Pg_0 H h) hk
  have := q.2.2.2.2.2.2.2.1 (by omega)
  omega
theorem Pg_2 (H : Pg n kC vC fC sC K V F S) (hk : k < n) (h : kC k = 2) : sC k < n ∧ sC k = S k := by
  have q := H.2.2.2 k (Pg_0 H (by omega)) hk
  have := q.2.2.2.2.2.2.2.2 (by omega)
  omega
theorem Pg_3 (H : Pg n kC vC fC sC K V F S) (hk : k < n) (h : kC k = 3) : 2 ≤ vC k ∧ vC k < 20 ∧ vC k = V k := by
  have q := H.2.2.2 k (Pg_0 H (by omega)) hk
  have h1 := q.2.2.2.1 (by omega)
  have h2 := q.2.2.2.2.2.1 (by omega)
  omega
theorem Pg_4 (H : Pg n kC vC fC sC K V F S) (hk : k < n) (h : kC k = 4) : vC k < 6 ∧ vC k = V k := by
  have q := H.2.2.2 k (Pg_0 H (by omega)) hk
  have h1 := q.2.2.2.1 (by omega)
  have h2 := q.2.2.2.2.2.2.1 (by omega)
  omega
theorem Pg_1v (H : Pg n kC vC fC sC K V F S) (hk : k < n) (h0 : 0 < k) (h : K k = 1) : V k < 65536 ∧ V k / 256 ≤ V k % 256 := (H.2.2.2 k h0 hk).2.2.2.2.1 h
theorem Pg_1 (H : Pg n kC vC fC sC K V F S) (hk : k < n) (h : kC k = 1) : vC k < 65536 ∧ vC k = V k ∧ K k = 1 := by
  have q := H.2.2.2 k (Pg_0 H (by omega)) hk
  have h1 := q.2.2.2.1 (by omega)
  have h2 := q.2.2.2.2.1 (by omega)
  omega
theorem Pg_K (H : Pg n kC vC fC sC K V F S) (h0 : 0 < k) (hk : k < n) : K k = kC k := ((H.2.2.2 k h0 hk).1).symm
theorem Pg_no4 (H : Pg n kC vC fC sC K V F S) (hk : k < n) (h : kC k = 4) (hs : soB len u (vC k) p = false) : ¬ pasB K V len u k p = true := by
  have h0 := Pg_0 H (k := k) (by omega)
  have h4 : K k = 4 := by rw [Pg_K H h0 hk, h]
  rw [(Pg_4 H hk h).2] at hs
  simp [pasB, h4, hs]
theorem Pg_no5 (H : Pg n kC vC fC sC K V F S) (hk : k < n) (h : kC k = 5) : ¬ pasB K V len u k p = true := by
  have h0 := Pg_0 H (k := k) (by omega)
  have h5 : K k = 5 := by rw [Pg_K H h0 hk, h]
  simp [pasB, h5]
theorem TI_ct (H : Pg n kC vC fC sC K V F S) (hI : TI n tu c js sv ct st me sd) (hk : k < n) (hm : me k ≠ tu) : ct < 200 := by
  have h1 := hI.2.2.2.1
  have h2 := (TI_met hI hk hm).2.1
  have h3 := H.2.1
  omega
theorem TI_pb2 (hI : TI n tu c js sv ct st me sd) (hn : n ≤ 200) (hc : 0 < c) (h : 51456 ≤ js (c - 1)) : TI n tu (c - 1) js (pbS sv (js (c - 1))) ct st me sd ∧ absJ js c sv = absJ js (c - 1) (pbS sv (js (c - 1))) ∧ (js (c - 1) - 51456) / 256 < 20 ∧ js (c - 1) < 65536 := by
  obtain ⟨d, rfl⟩ : ∃ d, c = d + 1 := ⟨c - 1, by omega⟩
  rw [Nat.add_sub_cancel] at h ⊢
  have h1 := TI_pb hI hn h
  have h2 := hI.1 d (by omega)
  refine ⟨h1.1, h1.2, ?_, h2.lt hn⟩
  rcases h2 with h2 | h2
  · omega
  · exact h2.2.1
theorem TI_pop (hI : TI n tu c js sv ct st me sd) (hc : 0 < c) (h : ¬ 51456 ≤ js (c - 1)) : TI n tu (c - 1) js sv ct st me sd ∧ absJ js c sv = (js (c - 1), sv) :: absJ js (c - 1) sv ∧ js (c - 1) < n := by
  obtain ⟨d, rfl⟩ : ∃ d, c = d + 1 := ⟨c - 1, by omega⟩
  rw [Nat.add_sub_cancel] at h ⊢
  refine ⟨⟨fun i hi => hI.1 i (by omega), hI.2⟩, ?_, ?_⟩
  · rw [absJ, if_neg h]
  · rcases hI.1 d (by omega) with h2 | h2
    · exact h2
    · exact absurd h2.1 h
/-- what the walk of a thread keeps -/
def CI (K V F S : Nat → Nat) (len : Nat) (u : Nat → Nat) (p n tu : Nat) (R0 : List (Nat × Sv)) (M0 : Nat → Bool) (B : Nat) (c : Nat) (js : Nat → Nat) (sv : Sv) (ct : Nat) (st me : Nat → Nat) (sd : Nat → Int32) (tk turn : Nat) : Prop :=
  TI n tu c js sv ct st me sd ∧ c + cnF n (seenB me tu) ≤ 201 ∧ turn + (2 * cnF n (seenB me tu) + c) ≤ 401 ∧ tk + 2 * cnF n (seenB me tu) + c ≤ B ∧
  rwL ct st sd ++ rwF K V F S len u p n (absJ js c sv) (seenB me tu) = R0 ∧ mkF K V F S len u p n (absJ js c sv) (seenB me tu) = M0
variable {R0 : List (Nat × Sv)} {M0 : Nat → Bool} {B tk turn : Nat}
theorem CI_0 {a : Nat} (hn : n ≤ 200) (ha : a < n) (hs : SvOk sv) (hN : Nm sv) (hI : TI n tu 0 js sv ct st me sd) : CI K V F S len u p n tu (rwL ct st sd ++ rwF K V F S len u p n [(a, sv)] (seenB me tu)) (mkF K V F S len u p n [(a, sv)] (seenB me tu)) (tk + 2 * cnF n (seenB me tu) + 1) (0 + 1) (un js 0 a) sv ct st me sd tk 0 := by
  have hc := cnF_le n (seenB me tu)
  have e : absJ (un js 0 a) (0 + 1) sv = [(a, sv)] := by rw [absJ_push (by omega)]; rfl
  refine ⟨⟨fun i hi => ?_, hs, hN, hI.2.2.2⟩, by omega, by omega, by omega, by rw [e], by rw [e]⟩
  rw [show i = 0 by omega, un_s]; exact Or.inl ha
theorem CI_pb (hn : n ≤ 200) (h : CI K V F S len u p n tu R0 M0 B c js sv ct st me sd tk turn) (hc : 0 < c) (hj : 51456 ≤ js (c - 1)) : CI K V F S len u p n tu R0 M0 B (c - 1) js (pbS sv (js (c - 1))) ct st me sd tk (turn + 1) := by
  obtain ⟨h1, h2, h3, h4, h5, h6⟩ := h
  have g := TI_pb2 h1 hn hc hj
  rw [g.2.1] at h5 h6
  exact ⟨g.1, by omega, by omega, by omega, h5, h6⟩
theorem CI_visit (h : CI K V F S len u p n tu R0 M0 B c js sv ct st me sd tk turn) (hc : 0 < c) (hj : ¬ 51456 ≤ js (c - 1)) {c2 ct2 : Nat} {js2 st2 me2 : Nat → Nat} {sv2 : Sv} {sd2 : Nat → Int32} (hV : VP K V F S len u p n tu (js (c - 1)) (c - 1) js sv ct st me sd c2 js2 sv2 ct2 st2 me2 sd2) : CI K V F S len u p n tu R0 M0 B c2 js2 sv2 ct2 st2 me2 sd2 (tk + 1) (turn + 1) := by
  obtain ⟨h1, h2, h3, h4, h5, h6⟩ := h
  obtain ⟨g1, g2, g3, g4, g5, g6, g7⟩ := hV
  have g := TI_pop h1 hc hj
  rw [g.2.1] at h5 h6
  exact ⟨g1, by omega, by omega, by omega, by rw [g6]; exact h5, by rw [g7]; exact h6⟩
theorem CI_end (h : CI K V F S len u p n tu R0 M0 B 0 js sv ct st me sd tk turn) : TI n tu 0 js sv ct st me sd ∧ rwL ct st sd = R0 ∧ seenB me tu = M0 ∧ tk + 2 * cnF n (seenB me tu) ≤ B := by
  obtain ⟨h1, h2, h3, h4, h5, h6⟩ := h
  refine ⟨h1, ?_, h6, by omega⟩
  rw [← h5]; exact (List.append_nil _).symm
end T4
