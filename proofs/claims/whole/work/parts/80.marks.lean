/-! Marks of what was tried, as mathematics: one way after the other over pairs of a place and a step. -/
abbrev Nd2 : Type := Nat × Nat
def uv (s : Nd2 → Bool) (x : Nd2) : Nd2 → Bool := fun y => if y = x then true else s y
theorem uv_s {s : Nd2 → Bool} {x : Nd2} : uv s x x = true := by simp [uv]
theorem uv_n {s : Nd2 → Bool} {x y : Nd2} (h : y ≠ x) : uv s x y = s y := by simp [uv, h]
def cnV (N : List Nd2) (s : Nd2 → Bool) : Nat := N.countP (fun x => !s x)
theorem cnV_uv {N : List Nd2} {s : Nd2 → Bool} {x : Nd2} (hN : N.Nodup) (hx : x ∈ N) (hs : s x = false) : cnV N (uv s x) + 1 = cnV N s := by
  have same : ∀ M : List Nd2, x ∉ M → cnV M (uv s x) = cnV M s := by
    intro M hM
    refine List.countP_congr (fun y hy => ?_)
    rw [uv_n (fun e => hM (by rw [← e]; exact hy))]
  induction N with
  | nil => cases hx
  | cons y r ih =>
    obtain ⟨h1, h2⟩ := List.nodup_cons.mp hN
    by_cases hyx : y = x
    · subst hyx
      have := same r h1
      simp only [cnV, List.countP_cons, uv_s, hs] at this ⊢
      simp [this]
    · have hxr : x ∈ r := by
        rcases List.mem_cons.mp hx with h | h
        · exact absurd h.symm hyx
        · exact h
      have := ih h2 hxr
      simp only [cnV, List.countP_cons, uv_n hyx] at this ⊢
      omega
def gdN (ch : Nd2 → Sv → List (Nd2 × Sv)) (ac : Nd2 → Bool) : Nat → List (Nd2 × Sv) → (Nd2 → Bool) → Option (Nd2 × Sv)
  | 0, _, _ => none
  | _ + 1, [], _ => none
  | m + 1, (x, sv) :: r, s => if s x = true then gdN ch ac m r s else if ac x = true then some (x, sv) else gdN ch ac m (ch x sv ++ r) (uv s x)
noncomputable def nY (X : Nd2 → Prop) (x : Nd2 × Sv) : Bool := @decide (¬ X x.1) (Classical.propDecidable _)
theorem nY_t {X : Nd2 → Prop} {x : Nd2 × Sv} (h : ¬ X x.1) : nY X x = true := @decide_eq_true _ (Classical.propDecidable _) h
theorem nY_f {X : Nd2 → Prop} {x : Nd2 × Sv} (h : X x.1) : nY X x = false := @decide_eq_false _ (Classical.propDecidable _) (fun z => z h)
section GD
variable {ch : Nd2 → Sv → List (Nd2 × Sv)} {ac : Nd2 → Bool} {N : List Nd2} {X Y : Nd2 → Prop}
theorem gd_skip (hN : N.Nodup) (hc2 : ∀ x sv, (ch x sv).length ≤ 2) (hX : ∀ x, X x → ac x = false ∧ ∀ sv, ∀ y ∈ ch x sv, X y.1) (hY : ∀ x, Y x → x ∈ N ∧ ∀ sv, ∀ y ∈ ch x sv, Y y.1) {m : Nat} {x : Nd2} {sv : Sv} {r : List (Nd2 × Sv)} {s : Nd2 → Bool} (hx : X x) (hxY : Y x) (hr : ∀ y ∈ r, Y y.1) (hm : 2 * cnV N s + (r.length + 1) < m + 1) :
    ∃ st2 s2, gdN ch ac (m + 1) ((x, sv) :: r) s = gdN ch ac m st2 s2 ∧ st2.filter (nY X) = r.filter (nY X) ∧ (∀ j, ¬ X j → s2 j = s j) ∧ 2 * cnV N s2 + st2.length < m ∧ ∀ y ∈ st2, Y y.1 := by
  by_cases hs : s x = true
  · exact ⟨r, s, by rw [gdN, if_pos hs], rfl, fun _ _ => rfl, by omega, hr⟩
  · have hs0 : s x = false := by simpa using hs
    have hc := cnV_uv hN (hY x hxY).1 hs0
    have hl := hc2 x sv
    refine ⟨ch x sv ++ r, uv s x, by rw [gdN, if_neg hs, if_neg (by rw [(hX x hx).1]; simp)], ?_, fun j hj => uv_n (fun e => hj (by rw [e]; exact hx)), by rw [List.length_append]; omega, fun y hy => ?_⟩
    · rw [List.filter_append, List.filter_eq_nil_iff.mpr (fun y hy => by rw [nY_f ((hX x hx).2 sv y hy)]; simp), List.nil_append]
    · rcases List.mem_append.mp hy with h | h
      · exact (hY x hxY).2 sv y h
      · exact hr y h
/-- what leads nowhere doesn't matter, nor what lies outside the region, nor fuel -/
theorem gd_strip (hN : N.Nodup) (hc2 : ∀ x sv, (ch x sv).length ≤ 2) (hX : ∀ x, X x → ac x = false ∧ ∀ sv, ∀ y ∈ ch x sv, X y.1) (hY : ∀ x, Y x → x ∈ N ∧ ∀ sv, ∀ y ∈ ch x sv, Y y.1) : ∀ (M m1 m2 : Nat) (st1 st2 : List (Nd2 × Sv)) (s1 s2 : Nd2 → Bool), m1 + m2 ≤ M → 2 * cnV N s1 + st1.length < m1 → 2 * cnV N s2 + st2.length < m2 → (∀ x ∈ st1, Y x.1) → (∀ x ∈ st2, Y x.1) → st1.filter (nY X) = st2.filter (nY X) → (∀ j, Y j → ¬ X j → s1 j = s2 j) → gdN ch ac m1 st1 s1 = gdN ch ac m2 st2 s2 := by
  intro M
  induction M with
  | zero => intro m1 m2 st1 st2 s1 s2 hM h1; omega
  | succ M ih =>
    intro m1 m2 st1 st2 s1 s2 hM h1 h2 hl1 hl2 hf ha
    obtain ⟨m1, rfl⟩ : ∃ q, m1 = q + 1 := ⟨m1 - 1, by omega⟩
    obtain ⟨m2, rfl⟩ : ∃ q, m2 = q + 1 := ⟨m2 - 1, by omega⟩
    have left : ∀ x sv r, st1 = (x, sv) :: r → X x → gdN ch ac (m1 + 1) st1 s1 = gdN ch ac (m2 + 1) st2 s2 := by
      intro x sv r e hx
      subst e
      obtain ⟨st3, s3, g1, g2, g3, g4, g5⟩ := gd_skip hN hc2 hX hY (sv := sv) hx (hl1 (x, sv) List.mem_cons_self) (fun y hy => hl1 y (List.mem_cons_of_mem _ hy)) (by simpa using h1)
      rw [g1]
      refine ih m1 (m2 + 1) st3 st2 s3 s2 (by omega) g4 h2 g5 hl2 ?_ (fun j hj hj2 => (g3 j hj2).trans (ha j hj hj2))
      rw [g2, ← hf, List.filter_cons_of_neg (by rw [nY_f hx]; simp)]
    have right : ∀ x sv r, st2 = (x, sv) :: r → X x → gdN ch ac (m1 + 1) st1 s1 = gdN ch ac (m2 + 1) st2 s2 := by
      intro x sv r e hx
      subst e
      obtain ⟨st3, s3, g1, g2, g3, g4, g5⟩ := gd_skip hN hc2 hX hY (sv := sv) hx (hl2 (x, sv) List.mem_cons_self) (fun y hy => hl2 y (List.mem_cons_of_mem _ hy)) (by simpa using h2)
      rw [g1]
      refine ih (m1 + 1) m2 st1 st3 s1 s3 (by omega) h1 g4 hl1 g5 ?_ (fun j hj hj2 => (ha j hj hj2).trans (g3 j hj2).symm)
      rw [g2, hf, List.filter_cons_of_neg (by rw [nY_f hx]; simp)]
    match st1, st2 with
    | [], [] => rfl
    | [], (x, sv) :: r =>
      by_cases hx : X x
      · exact right x sv r rfl hx
      · rw [List.filter_cons_of_pos (by exact nY_t hx)] at hf; cases hf
    | (x, sv) :: r, [] =>
      by_cases hx : X x
      · exact left x sv r rfl hx
      · rw [List.filter_cons_of_pos (by exact nY_t hx)] at hf; cases hf
    | (x, sv) :: r, (x2, sv2) :: r2 =>
      by_cases hx : X x
      · exact left x sv r rfl hx
      · by_cases hx2 : X x2
        · exact right x2 sv2 r2 rfl hx2
        · rw [List.filter_cons_of_pos (by exact nY_t hx), List.filter_cons_of_pos (by exact nY_t hx2)] at hf
          injection hf with e1 e2
          injection e1 with e3 e4
          subst e3; subst e4
          have hxY : Y x := hl1 (x, sv) List.mem_cons_self
          have hr1 : ∀ y ∈ r, Y y.1 := fun y hy => hl1 y (List.mem_cons_of_mem _ hy)
          have hr2 : ∀ y ∈ r2, Y y.1 := fun y hy => hl2 y (List.mem_cons_of_mem _ hy)
          have q1 : ((x, sv) :: r).length = r.length + 1 := rfl
          have q2 : ((x, sv) :: r2).length = r2.length + 1 := rfl
          rw [gdN, gdN, ← ha x hxY hx]
          by_cases hs : s1 x = true
          · rw [if_pos hs, if_pos hs]
            exact ih m1 m2 r r2 s1 s2 (by omega) (by omega) (by omega) hr1 hr2 e2 ha
          · rw [if_neg hs, if_neg hs]
            have hs1 : s1 x = false := by simpa using hs
            have hs2 : s2 x = false := by rw [← ha x hxY hx]; exact hs1
            have c1 := cnV_uv hN (hY x hxY).1 hs1
            have c2 := cnV_uv hN (hY x hxY).1 hs2
            have hl := hc2 x sv
            split
            · rfl
            · refine ih m1 m2 _ _ _ _ (by omega) (by rw [List.length_append]; omega) (by rw [List.length_append]; omega) (fun y hy => ?_) (fun y hy => ?_) (by rw [List.filter_append, List.filter_append, e2]) (fun j hj hj2 => ?_)
              · rcases List.mem_append.mp hy with h | h
                · exact (hY x hxY).2 sv y h
                · exact hr1 y h
              · rcases List.mem_append.mp hy with h | h
                · exact (hY x hxY).2 sv y h
                · exact hr2 y h
              · by_cases hjx : j = x
                · subst hjx; rw [uv_s, uv_s]
                · rw [uv_n hjx, uv_n hjx]; exact ha j hj hj2
theorem gd_app : ∀ (m : Nat) (st r : List (Nd2 × Sv)) (s : Nd2 → Bool) (x : Nd2 × Sv), gdN ch ac m st s = some x → gdN ch ac m (st ++ r) s = some x := by
  intro m
  induction m with
  | zero => intro st r s x h; simp [gdN] at h
  | succ m ih =>
    intro st r s x h
    match st with
    | [] => simp [gdN] at h
    | (y, sv) :: t =>
      rw [List.cons_append, gdN]
      rw [gdN] at h
      split at h
      · rename_i hs; rw [if_pos hs]; exact ih _ _ _ _ h
      · rename_i hs
        rw [if_neg hs]
        split at h
        · rename_i ha; rw [if_pos ha]; exact h
        · rename_i ha
          rw [if_neg ha, ← List.append_assoc]
          exact ih _ _ _ _ h
end GD
