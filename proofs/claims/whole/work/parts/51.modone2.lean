/-! The reference's isOneWay: starts, pairs -/
def stl (st : Nat → Nat) (ma : Nat) : List Nat := (List.range ma).map st
def addL (l : List Nat) (k : Nat) : List Nat := if k ∈ l then l else l ++ [k]
theorem stl_mem {st : Nat → Nat} {ma k : Nat} : k ∈ stl st ma ↔ ∃ i, i < ma ∧ st i = k := by simp [stl]
theorem stl_add {st : Nat → Nat} {ma k : Nat} (h : k ∉ stl st ma) : stl (un st ma k) (ma + 1) = addL (stl st ma) k := by
  unfold addL
  rw [if_neg h]
  unfold stl
  rw [List.range_succ, List.map_append]
  congr 1
  · apply List.map_congr_left
    intro i hi
    exact un_lt (List.mem_range.mp hi)
  · simp [un_s]
theorem addL_in {l : List Nat} {k : Nat} (h : k ∈ l) : addL l k = l := by unfold addL; rw [if_pos h]
theorem addL_mem {l : List Nat} {k x : Nat} : x ∈ addL l k ↔ x ∈ l ∨ x = k := by
  unfold addL
  split
  · rename_i h
    exact ⟨Or.inl, fun h1 => h1.elim id (fun e => e ▸ h)⟩
  · simp
theorem addL_nodup {l : List Nat} {k : Nat} (h : l.Nodup) : (addL l k).Nodup := by
  unfold addL
  split
  · exact h
  · rename_i hk
    rw [List.nodup_append]
    refine ⟨h, by simp, fun a ha b hb => ?_⟩
    rw [List.mem_singleton.mp hb]
    exact fun e => hk (e ▸ ha)
theorem sub_len : ∀ (l m : List Nat), l.Nodup → (∀ x ∈ l, x ∈ m) → l.length ≤ m.length := by
  intro l
  induction l with
  | nil => intro m _ _; simp
  | cons a l ih =>
    intro m hn hs
    have ha : a ∈ m := hs a List.mem_cons_self
    have hn2 := List.nodup_cons.mp hn
    have h1 := ih (m.erase a) hn2.2 (fun x hx => by
      have hxa : x ≠ a := fun e => hn2.1 (e ▸ hx)
      exact (List.mem_erase_of_ne hxa).mpr (hs x (List.mem_cons_of_mem _ hx)))
    have h2 := List.length_erase_of_mem ha
    have h3 : 0 < m.length := List.length_pos_of_mem ha
    simp only [List.length_cons]
    omega
theorem nodup_lt {l : List Nat} {n : Nat} (h : l.Nodup) (hl : ∀ x ∈ l, x < n) : l.length ≤ n := by
  have := sub_len l (List.range n) h (fun x hx => List.mem_range.mpr (hl x hx))
  simpa using this
def alB (fI : Nat → Int32) (bs ba : Nat → Nat) (bt : Nat → Int32) (x y : Nat) : Bool := (decide (bt 0 < 0) || (decide (bt x < bt 0) == decide (bt y < bt 0))) && (decide (fI x = fI y) && (decide (bs x = bs y) && decide (ba x = ba y)))
def OWs (K V F S : Nat → Nat) (n b : Nat) (l : List Nat) : Prop := l.length ≤ 64 ∧ b ∈ l ∧ ∀ r ∈ l, ∃ rec, Gd K V F S n r rec ∧ ∀ x ∈ rec, K x.1 = 1 → x.1 ≠ 0 → F x.1 ∈ l
section OW
variable {K V F S : Nat → Nat} {n b : Nat}
/-- a start that must be among every such set -/
def Mst (K V F S : Nat → Nat) (n b : Nat) (l : List Nat) : Prop := l.Nodup ∧ (∀ x ∈ l, x < n) ∧ b ∈ l ∧ ∀ X, OWs K V F S n b X → ∀ x ∈ l, x ∈ X
theorem Mst_add {l : List Nat} {k : Nat} (h : Mst K V F S n b l) (hk : k < n) (hX : ∀ X, OWs K V F S n b X → k ∈ X) : Mst K V F S n b (addL l k) := by
  obtain ⟨h1, h2, h3, h4⟩ := h
  refine ⟨addL_nodup h1, fun x hx => ?_, addL_mem.mpr (Or.inl h3), fun X hO x hx => ?_⟩
  · rcases addL_mem.mp hx with hx | rfl
    · exact h2 x hx
    · exact hk
  · rcases addL_mem.mp hx with hx | rfl
    · exact h4 X hO x hx
    · exact hX X hO
theorem not_many {l : List Nat} (h : Mst K V F S n b l) (hl : 64 < l.length) : ¬ OneW K V F S n b := by
  rintro ⟨X, hX⟩
  have := sub_len l X h.1 (h.2.2.2 X hX)
  have := hX.1
  omega
theorem not_none {l : List Nat} {r : Nat} (h : Mst K V F S n b l) (hr : r ∈ l) (hn : spN K V F S (2 * n + 2) [(r, 0, 0)] [] = none) : ¬ OneW K V F S n b := by
  rintro ⟨X, hX⟩
  obtain ⟨rec, hg, _⟩ := hX.2.2 r (h.2.2.2 X hX r hr)
  rw [hg.1] at hn; cases hn
theorem not_cmp {l : List Nat} {r : Nat} {rec : List Rc} (h : Mst K V F S n b l) (hr : r ∈ l) (hn : spN K V F S (2 * n + 2) [(r, 0, 0)] [] = some rec) (hc : ¬ Cmp K V F rec) : ¬ OneW K V F S n b := by
  rintro ⟨X, hX⟩
  obtain ⟨rec2, hg, _⟩ := hX.2.2 r (h.2.2.2 X hX r hr)
  have e1 : rec2 = rec := by have := hg.1; rw [hn] at this; cases this; rfl
  exact hc (e1 ▸ hg.2)
theorem in_all {l : List Nat} {r : Nat} {rec : List Rc} {x : Rc} (h : Mst K V F S n b l) (hr : r ∈ l) (hn : spN K V F S (2 * n + 2) [(r, 0, 0)] [] = some rec) (hx : x ∈ rec) (hk : K x.1 = 1) (h0 : x.1 ≠ 0) : ∀ X, OWs K V F S n b X → F x.1 ∈ X := by
  intro X hX
  obtain ⟨rec2, hg, h2⟩ := hX.2.2 r (h.2.2.2 X hX r hr)
  have e1 : rec2 = rec := by have := hg.1; rw [hn] at this; cases this; rfl
  exact h2 x (e1 ▸ hx) hk h0
/-- what holds of the saved bits -/
theorem lor_lt {a c k : Nat} (ha : a < 2 ^ k) (hc : c < k) : a ||| 2 ^ c < 2 ^ k := Nat.or_lt_two_pow ha (Nat.pow_lt_pow_right (by omega) hc)
theorem spN_bits (h3 : ∀ i, i < n → K i = 3 → V i < 20) (h4 : ∀ i, i < n → K i = 4 → V i < 6) (hF : ∀ i, 0 < i → i < n → (K i = 2 ∨ K i = 3 ∨ K i = 4) → F i < n) (hS : ∀ i, 0 < i → i < n → K i = 2 → S i < n) (hK : ∀ i, 0 < i → i < n → 1 ≤ K i ∧ K i < 6) : ∀ (m : Nat) (st r rec : List Rc), (∀ x ∈ st, x.1 < n ∧ x.2.1 < 2 ^ 20 ∧ x.2.2 < 2 ^ 6) → (∀ x ∈ r, x.2.1 < 2 ^ 20 ∧ x.2.2 < 2 ^ 6) → spN K V F S m st r = some rec → ∀ x ∈ rec, x.2.1 < 2 ^ 20 ∧ x.2.2 < 2 ^ 6 := by
  intro m
  induction m with
  | zero => intro st r rec _ _ h; simp [spN] at h
  | succ m ih =>
    intro st r rec hst hr h
    match st, hst with
    | [], _ => simp only [spN, Option.some.injEq] at h; rw [← h]; exact hr
    | (k, s, a) :: st, hst =>
      obtain ⟨hk, hs, ha⟩ := hst (k, s, a) List.mem_cons_self
      have hst2 : ∀ x ∈ st, x.1 < n ∧ x.2.1 < 2 ^ 20 ∧ x.2.2 < 2 ^ 6 := fun x hx => hst x (List.mem_cons_of_mem _ hx)
      have hr2 : ∀ x ∈ r ++ [(k, s, a)], x.2.1 < 2 ^ 20 ∧ x.2.2 < 2 ^ 6 := fun x hx => by
        rcases List.mem_append.mp hx with hx | hx
        · exact hr x hx
        · rw [List.mem_singleton.mp hx]; exact ⟨hs, ha⟩
      rw [spN] at h
      split at h
      · cases h
      · split at h
        · exact ih _ _ _ hst2 hr2 h
        · rename_i hne
          have hk0 : 0 < k := by omega
          have hK1 := hK k hk0 hk
          have g1 : nxS K V k s < 2 ^ 20 := by
            unfold nxS; split
            · rename_i h9; exact lor_lt hs (h3 k hk h9)
            · exact hs
          have g2 : nxA K V k a < 2 ^ 6 := by
            unfold nxA; split
            · rename_i h9; exact lor_lt ha (h4 k hk h9)
            · exact ha
          refine ih _ _ _ (fun x hx => ?_) hr2 h
          unfold pshO at hx
          split at hx
          · rename_i h9
            rcases List.mem_cons.mp hx with rfl | hx
            · exact ⟨hF k hk0 hk (by omega), g1, g2⟩
            · rcases List.mem_cons.mp hx with rfl | hx
              · exact ⟨hS k hk0 hk h9, g1, g2⟩
              · exact hst2 x hx
          · rcases List.mem_cons.mp hx with rfl | hx
            · exact ⟨hF k hk0 hk (by omega), g1, g2⟩
            · exact hst2 x hx
/-- the steps of a record are different -/
theorem spN_nodup : ∀ (m : Nat) (st r rec : List Rc), (∀ (i j : Nat) (x y : Rc), r[i]? = some x → r[j]? = some y → x.1 = y.1 → i = j) → spN K V F S m st r = some rec → ∀ (i j : Nat) (x y : Rc), rec[i]? = some x → rec[j]? = some y → x.1 = y.1 → i = j := by
  intro m
  induction m with
  | zero => intro st r rec _ h; simp [spN] at h
  | succ m ih =>
    intro st r rec hr h
    match st with
    | [] => simp only [spN, Option.some.injEq] at h; rw [← h]; exact hr
    | (k, s, a) :: st =>
      rw [spN] at h
      split at h
      · cases h
      · rename_i hk
        have hr2 : ∀ (i j : Nat) (x y : Rc), (r ++ [(k, s, a)])[i]? = some x → (r ++ [(k, s, a)])[j]? = some y → x.1 = y.1 → i = j := by
          have key : ∀ (i : Nat) (x : Rc), (r ++ [(k, s, a)])[i]? = some x → (i < r.length ∧ r[i]? = some x) ∨ (i = r.length ∧ x = (k, s, a)) := by
            intro i x hx
            by_cases hi : i < r.length
            · rw [List.getElem?_append_left hi] at hx; exact Or.inl ⟨hi, hx⟩
            · rw [List.getElem?_append_right (by omega)] at hx
              have hz : i - r.length < 1 := (List.getElem?_eq_some_iff.mp hx).1
              rw [show i - r.length = 0 by omega] at hx
              exact Or.inr ⟨by omega, by simpa using hx.symm⟩
          intro i j x y hx hy hxy
          rcases key i x hx with ⟨h1, h2⟩ | ⟨h1, h2⟩ <;> rcases key j y hy with ⟨h3, h4⟩ | ⟨h3, h4⟩
          · exact hr i j x y h2 h4 hxy
          · subst h4; exact absurd (inR_iff.mpr ⟨x, List.mem_of_getElem? h2, hxy⟩) hk
          · subst h2; exact absurd (inR_iff.mpr ⟨y, List.mem_of_getElem? h4, hxy.symm⟩) hk
          · omega
        split at h
        · exact ih _ _ _ hr2 h
        · exact ih _ _ _ hr2 h
end OW
section PR
variable {K V F S : Nat → Nat} {n : Nat} {rec : List Rc} {bt fI : Nat → Int32} {bs ba : Nat → Nat}
theorem Tm_in (hT : Tm n rec bt bs ba) (hl : rec.length ≤ 200) {k : Nat} (hk : k < n) : ¬ bt k < 0 ↔ ∃ (i : Nat) (x : Rc), rec[i]? = some x ∧ x.1 = k := by
  constructor
  · intro h
    cases hr : inR rec k with
    | false => rw [hT.1 k hk hr] at h; exact absurd (by decide) h
    | true =>
      obtain ⟨x, hx, rfl⟩ := inR_iff.mp hr
      obtain ⟨i, hi⟩ := List.getElem?_of_mem hx
      exact ⟨i, x, hi, rfl⟩
  · rintro ⟨i, x, hi, rfl⟩
    rw [(hT.2 i x hi).1]
    have : i < rec.length := (List.getElem?_eq_some_iff.mp hi).1
    exact nI_pos (by omega)
theorem alB_iff (hn : 0 < n) (hT : Tm n rec bt bs ba) (hl : rec.length ≤ 200) (hd : ∀ (i j : Nat) (x y : Rc), rec[i]? = some x → rec[j]? = some y → x.1 = y.1 → i = j) {i j : Nat} {x y : Rc} (hx : rec[i]? = some x) (hy : rec[j]? = some y) (hfx : fI x.1 = nI (F x.1)) (hfy : fI y.1 = nI (F y.1)) (hFx : F x.1 < 200) (hFy : F y.1 < 200) : alB fI bs ba bt x.1 y.1 = true ↔ (F x.1 = F y.1 ∧ x.2 = y.2 ∧ sideP rec i j) := by
  have hxi := hT.2 i x hx
  have hyj := hT.2 j y hy
  have hil : i < rec.length := (List.getElem?_eq_some_iff.mp hx).1
  have hjl : j < rec.length := (List.getElem?_eq_some_iff.mp hy).1
  have side : (decide (bt 0 < 0) || (decide (bt x.1 < bt 0) == decide (bt y.1 < bt 0))) = true ↔ sideP rec i j := by
    by_cases h0 : bt 0 < 0
    · simp only [h0, decide_true, Bool.true_or, true_iff]
      intro e he
      exfalso
      cases hr : rec[e]? with
      | none => rw [hr] at he; cases he
      | some z =>
        rw [hr] at he
        have hz : z.1 = 0 := by simpa using he
        have h1 := (hT.2 e z hr).1
        rw [hz] at h1
        rw [h1] at h0
        have : e < rec.length := (List.getElem?_eq_some_iff.mp hr).1
        exact nI_pos (by omega) h0
    · obtain ⟨e, z, hz, hz0⟩ := (Tm_in hT hl hn).mp h0
      have h1 := (hT.2 e z hz).1
      rw [hz0] at h1
      have hel : e < rec.length := (List.getElem?_eq_some_iff.mp hz).1
      rw [hxi.1, hyj.1, h1]
      have h0' : ¬ nI e < 0 := nI_pos (by omega)
      simp only [h0', decide_false, Bool.false_or, beq_iff_eq, decide_eq_decide]
      rw [nI_ltI (by omega) (by omega), nI_ltI (by omega) (by omega)]
      constructor
      · intro h e2 he2
        cases hr : rec[e2]? with
        | none => rw [hr] at he2; cases he2
        | some z2 =>
          rw [hr] at he2
          have hz2 : z2.1 = 0 := by simpa using he2
          have : e2 = e := hd e2 e z2 z hr hz (by rw [hz2, hz0])
          subst this; exact h
      · intro h
        exact h e (by rw [hz]; simp [hz0])
  unfold alB
  rw [Bool.and_eq_true, Bool.and_eq_true, Bool.and_eq_true, side, hfx, hfy, hxi.2.1, hxi.2.2, hyj.2.1, hyj.2.2]
  simp only [decide_eq_true_eq]
  rw [nI_eq (by omega) (by omega)]
  constructor
  · rintro ⟨h1, h2, h3, h4⟩
    exact ⟨h2, Prod.ext h3 h4, h1⟩
  · rintro ⟨h1, h2, h3⟩
    exact ⟨h3, h1, by rw [h2], by rw [h2]⟩
end PR
