theorem ub_id {g : Nat → Bool} {q : Nat} (h : g q = true) : ub g q true = g := by
  funext j; rw [ub]; split
  · rename_i e; rw [e, h]
  · rfl
section MK3
variable {K V F S kC vC fC sC : Nat → Nat} {len : Nat} {u : Nat → Nat} {p n how k c : Nat} {lo : Bool} {js : Nat → Nat} {sv : Sv} {g : Nat → Bool} {best : Option (Nat × Sv)} {N : List Nd2}
def enB (len how p : Nat) (sv : Sv) (best : Option (Nat × Sv)) : Option (Nat × Sv) := if (mayB len how p && gtB best p) = true then some (p, sv) else best
theorem Pg_z (H : Pg n kC vC fC sC K V F S) (hk : k < n) (h : kC k = 0) : k = 0 := by
  rcases Nat.eq_zero_or_pos k with h0 | h0
  · exact h0
  · have := H.2.2.2 k h0 hk; omega
theorem MV_end (H : Pg n kC vC fC sC K V F S) (hN : AllN n len N) (hI : MI n len c js sv) (hk : k < n) (hp : p ≤ len) (hle : len ≤ 200) (hb : BeOk best) (hl : lo = false → best = none) (h : g (p * n + k) = false) (h0 : kC k = 0) : MV K V F S len u n how lo N p k c js sv g best c js sv (ub g (p * n + k) true) (enB len how p sv best) := by
  have hk0 := Pg_z H hk h0
  subst hk0
  unfold enB
  split
  · rename_i hx
    have hx := Bool.and_eq_true_iff.mp hx
    exact MV_end1 hN hI hk hp hle h hx.1 hx.2
  · rename_i hx
    exact MV_end0 hN hI hk hp hb hl h (by simpa using hx)
/-- the run over the beginnings -/
def MRI (K V F S : Nat → Nat) (len : Nat) (u : Nat → Nat) (n b how M : Nat) (lo : Bool) (N : List Nd2) (X : Option (Nat × Sv)) (B last : Nat) (p : Nat) (g : Nat → Bool) (be : Sv) (best : Option (Nat × Sv)) (tk : Nat) : Prop :=
  be = beS best ∧ BeOk best ∧ p ≤ last + 1 ∧ tk + 2 * cnV N (tdB n len g) ≤ B + p ∧ (best = none → mrN (chG K V F S len u) len how b M lo (last + 1 - p) p (tdB n len g) = X) ∧ (best ≠ none → best = X)
variable {b M B last tk : Nat} {X : Option (Nat × Sv)} {be : Sv}
theorem MRI_step (h : MRI K V F S len u n b how M lo N X B last p g be best tk) (hp : p ≤ last) (hn : best = none) {g2 : Nat → Bool} {be2 : Sv} {best2 : Option (Nat × Sv)} {tk2 : Nat} (hX : dfN (chG K V F S len u) len how lo M [((p, b), svB p)] (tdB n len g) none = (best2, tdB n len g2)) (h2 : be2 = beS best2) (h3 : BeOk best2) (h4 : tk2 + 2 * cnV N (tdB n len g2) ≤ tk + 2 * cnV N (tdB n len g) + 1) : MRI K V F S len u n b how M lo N X B last (p + 1) g2 be2 best2 tk2 := by
  obtain ⟨k1, k2, k3, k4, k5, k6⟩ := h
  have e := k5 hn
  rw [show last + 1 - p = (last + 1 - (p + 1)) + 1 by omega, mrN, hX] at e
  refine ⟨h2, h3, by omega, by omega, fun hz => ?_, fun hz => ?_⟩
  · rw [hz] at e; exact e
  · cases hq : best2 with
    | none => exact absurd hq hz
    | some x => rw [hq] at e; exact e
theorem MRI_end (h : MRI K V F S len u n b how M lo N X B last p g be best tk) (hp : last < p ∨ be 1 ≠ -1) : be = beS X ∧ BeOk X ∧ tk ≤ B + (last + 1) := by
  obtain ⟨k1, k2, k3, k4, k5, k6⟩ := h
  have e : best = X := by
    cases hq : best with
    | some x => rw [← hq]; exact k6 (by rw [hq]; simp)
    | none =>
      rcases hp with hp | hp
      · have := k5 hq
        rw [show last + 1 - p = 0 by omega, mrN] at this
        exact this
      · exact absurd (by rw [k1]; exact (beS_1 k2).mpr hq) hp
  subst e
  exact ⟨k1, k2, by omega⟩
theorem MRI_0 (hN : AllN n len N) {g2 : Nat → Bool} {fr w : Nat} (hfr : fr ≤ last) (hw : n * (len + 1) ≤ 32 * w) : MRI K V F S len u n b how M lo N (mrN (chG K V F S len u) len how b M lo (last + 1 - fr) fr (fun _ => false)) (tk + 2 * ((len + 1) * n)) last fr (wp1 g2 w) (fun _ => -1) none tk := by
  refine ⟨rfl, (fun x hx => by cases hx), by omega, ?_, fun _ => by rw [tdB_wp hw], fun h => absurd rfl h⟩
  have : cnV N (tdB n len (wp1 g2 w)) ≤ N.length := List.countP_le_length
  rw [hN.2.1] at this
  omega
end MK3
