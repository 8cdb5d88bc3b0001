/-! A row of the table while it is made. -/
def absK (js : Nat → Nat) : Nat → List Nat
  | 0 => []
  | c + 1 => js c :: absK js c
theorem absK_un {js : Nat → Nat} {c v : Nat} : ∀ c0, c0 ≤ c → absK (un js c v) c0 = absK js c0 := by
  intro c0
  induction c0 with
  | zero => intro _; rfl
  | succ c0 ih => intro h; rw [absK, absK, un_n (by omega), ih (by omega)]
theorem absK_push {js : Nat → Nat} {c v : Nat} : absK (un js c v) (c + 1) = v :: absK js c := by
  rw [absK, un_s, absK_un c (Nat.le_refl _)]
theorem absK_mem {js : Nat → Nat} {k : Nat} : ∀ c, k ∈ absK js c ↔ ∃ i, i < c ∧ js i = k := by
  intro c
  induction c with
  | zero => simp [absK]
  | succ c ih =>
    rw [absK, List.mem_cons, ih]
    constructor
    · rintro (h | ⟨i, h1, h2⟩)
      · exact ⟨c, by omega, h.symm⟩
      · exact ⟨i, by omega, h2⟩
    · rintro ⟨i, h1, h2⟩
      by_cases h : i = c
      · subst h; exact Or.inl h2.symm
      · exact Or.inr ⟨i, by omega, h2⟩
/-- a step that will be come to twice -/
def Doom (me : Nat → Nat) (tu : Nat) (L : List Nat) : Prop := (∃ k ∈ L, me k = tu) ∨ ¬ L.Nodup
theorem Doom_pop {me : Nat → Nat} {tu k : Nat} {L : List Nat} (h : Doom me tu (k :: L)) (hk : me k ≠ tu) : Doom (un me k tu) tu L := by
  rcases h with ⟨j, hj, hm⟩ | h
  · rcases List.mem_cons.mp hj with e | hj
    · rw [e] at hm; exact absurd hm hk
    · refine Or.inl ⟨j, hj, ?_⟩
      rw [un]; split
      · rfl
      · exact hm
  · by_cases hL : L.Nodup
    · have hmem : k ∈ L := by
        apply Classical.byContradiction
        intro hn
        exact h (List.nodup_cons.mpr ⟨hn, hL⟩)
      exact Or.inl ⟨k, hmem, un_s⟩
    · exact Or.inr hL
theorem Doom_more {me : Nat → Nat} {tu v : Nat} {L : List Nat} (h : Doom me tu L) : Doom me tu (v :: L) := by
  rcases h with ⟨j, hj, hm⟩ | h
  · exact Or.inl ⟨j, List.mem_cons_of_mem _ hj, hm⟩
  · exact Or.inr (fun hn => h (List.nodup_cons.mp hn).2)
theorem Doom_nil {me : Nat → Nat} {tu : Nat} : ¬ Doom me tu [] := by
  rintro (⟨j, hj, _⟩ | h)
  · cases hj
  · exact h List.nodup_nil
def StR (sc : Nat → Nat) (st : List Rc) : Prop := ∀ x ∈ st, sc x.1 = cdN x.2.1 x.2.2 ∧ SvN x.2.1 ∧ x.2.2 < 2 ^ 6
def tkR (K V : Nat → Nat) (x : Rc) (b : Nat) : Prop := x.1 ≠ 0 ∧ K x.1 = 1 ∧ V x.1 / 256 ≤ b ∧ b ≤ V x.1 % 256
def ordB (rec : List Rc) (j : Nat) : Nat := if (rec.take j).any zR = true then 64 else 0
theorem ordB_o (rec : List Rc) (j : Nat) : ordB rec j = 0 ∨ ordB rec j = 64 := by
  unfold ordB; split
  · exact Or.inr rfl
  · exact Or.inl rfl
def RowA (K V F : Nat → Nat) (R : Nat) (sor : Nat → Nat) (aC : Nat → Int32) (en : Int32) (q : Nat) (rec : List Rc) : Prop :=
  ((en = -1 ∧ ∀ x ∈ rec, x.1 ≠ 0) ∨ (∃ x ∈ rec, x.1 = 0 ∧ en = nI (cdN x.2.1 x.2.2))) ∧
  ∀ b, b < 256 → (∀ (j : Nat) (x : Rc), rec[j]? = some x → tkR K V x b → ∃ i, i < R ∧ sor i = F x.1 ∧ aC (q * 256 + b) = nI (acN (cdN x.2.1 x.2.2) (ordB rec j) i)) ∧ (aC (q * 256 + b) = -1 ∨ ∃ x ∈ rec, tkR K V x b)
/-- rows: which step each is of, and back -/
def RwS (n R : Nat) (sor : Nat → Nat) (ros : Nat → Int32) : Prop := R ≤ 64 ∧ (∀ i, i < R → sor i < n) ∧ ∀ k, k < n → (ros k = -1 ∧ ∀ i, i < R → sor i ≠ k) ∨ ∃ i, i < R ∧ sor i = k ∧ ros k = nI i
section TB2
variable {K V F S kC vC fC sC : Nat → Nat} {n b r q tu c R k s a : Nat} {js sc me sor : Nat → Nat} {aC ros : Nat → Int32} {en : Int32} {st rec : List Rc}
def TA (K V F S : Nat → Nat) (n b r q tu c : Nat) (js sc me : Nat → Nat) (aC : Nat → Int32) (en : Int32) (R : Nat) (sor : Nat → Nat) (st rec : List Rc) : Prop :=
  spN K V F S (2 * n + 2 - rec.length) st rec = spN K V F S (2 * n + 2) [(r, 0, 0)] [] ∧ rec.length + cnF n (inR rec) = n ∧ st.map (·.1) = absK js c ∧ (absK js c).Nodup ∧ (∀ k ∈ absK js c, inR rec k = false) ∧ StR sc st ∧
  (∀ x ∈ rec, x.1 < n ∧ SvN x.2.1 ∧ x.2.2 < 2 ^ 6) ∧ (∀ k, k < n → (me k = tu ↔ inR rec k = true)) ∧ RowA K V F R sor aC en q rec ∧ Mst K V F S n b (stl sor R) ∧ r ∈ stl sor R
def Sf (n tu c : Nat) (js sc me : Nat → Nat) (R : Nat) (sor : Nat → Nat) (ros : Nat → Int32) : Prop :=
  RwS n R sor ros ∧ (∀ i, i < c → js i < n ∧ sc (js i) < 2 ^ 24) ∧ c + cnF n (seenB me tu) ≤ n + 1 ∧ ∀ k, me k ≤ tu
def TW (K V F S : Nat → Nat) (n b r q tu c : Nat) (js sc me : Nat → Nat) (aC : Nat → Int32) (en : Int32) (R : Nat) (sor : Nat → Nat) (ros : Nat → Int32) : Prop :=
  Sf n tu c js sc me R sor ros ∧ ((∃ st rec, TA K V F S n b r q tu c js sc me aC en R sor st rec) ∨ (¬ OneW K V F S n b ∧ Doom me tu (absK js c)))
theorem inR_new {rec : List Rc} {k s a j : Nat} : inR (rec ++ [(k, s, a)]) j = ub (inR rec) k true j := by
  rw [inR_app, ub]
  by_cases h : j = k
  · subst h; simp
  · have : ¬ k = j := fun e => h e.symm
    simp [h, this]
theorem ordB_app {x : Rc} {j : Nat} (h : j ≤ rec.length) : ordB (rec ++ [x]) j = ordB rec j := by
  unfold ordB; rw [List.take_append_of_le_length h]
/-- a step that takes no byte and isn't the END leaves the row as it is -/
theorem RowA_skip {x : Rc} (h : RowA K V F R sor aC en q rec) (h0 : x.1 ≠ 0) (h1 : K x.1 ≠ 1) : RowA K V F R sor aC en q (rec ++ [x]) := by
  obtain ⟨g1, g2⟩ := h
  refine ⟨?_, fun b hb => ⟨fun j y hy ht => ?_, ?_⟩⟩
  · rcases g1 with ⟨e, g1⟩ | ⟨y, hy, e⟩
    · refine Or.inl ⟨e, fun y hy => ?_⟩
      rcases List.mem_append.mp hy with hy | hy
      · exact g1 y hy
      · rw [List.mem_singleton.mp hy]; exact h0
    · exact Or.inr ⟨y, List.mem_append_left _ hy, e⟩
  · by_cases hj : j < rec.length
    · rw [List.getElem?_append_left hj] at hy
      rw [ordB_app (by omega)]
      exact (g2 b hb).1 j y hy ht
    · rw [List.getElem?_append_right (by omega)] at hy
      have : y = x := by
        have hy := List.getElem?_eq_some_iff.mp hy
        obtain ⟨hl, hy⟩ := hy
        simp at hl
        simp [hl] at hy
        exact hy.symm
      subst this
      exact absurd ht.2.1 h1
  · rcases (g2 b hb).2 with e | ⟨y, hy, ht⟩
    · exact Or.inl e
    · exact Or.inr ⟨y, List.mem_append_left _ hy, ht⟩
theorem RowA_end (h : RowA K V F R sor aC en q rec) : RowA K V F R sor aC (nI (cdN s a)) q (rec ++ [(0, s, a)]) := by
  obtain ⟨g1, g2⟩ := h
  refine ⟨Or.inr ⟨(0, s, a), by simp, rfl, rfl⟩, fun b hb => ⟨fun j y hy ht => ?_, ?_⟩⟩
  · by_cases hj : j < rec.length
    · rw [List.getElem?_append_left hj] at hy
      rw [ordB_app (by omega)]
      exact (g2 b hb).1 j y hy ht
    · rw [List.getElem?_append_right (by omega)] at hy
      obtain ⟨hl, hy⟩ := List.getElem?_eq_some_iff.mp hy
      simp at hl
      simp [hl] at hy
      rw [← hy] at ht
      exact absurd rfl ht.1
  · rcases (g2 b hb).2 with e | ⟨y, hy, ht⟩
    · exact Or.inl e
    · exact Or.inr ⟨y, List.mem_append_left _ hy, ht⟩
theorem TA_top (hc : 0 < c) (h : TA K V F S n b r q tu c js sc me aC en R sor st rec) : ∃ s a st2, st = (js (c - 1), s, a) :: st2 ∧ st2.map (·.1) = absK js (c - 1) ∧ sc (js (c - 1)) = cdN s a ∧ SvN s ∧ a < 2 ^ 6 := by
  obtain ⟨d, rfl⟩ : ∃ d, c = d + 1 := ⟨c - 1, by omega⟩
  rw [Nat.add_sub_cancel]
  obtain ⟨-, -, h3, -, -, h6, -⟩ := h
  rw [absK] at h3
  match st, h3 with
  | (k, s, a) :: st2, h3 =>
    simp only [List.map_cons, List.cons.injEq] at h3
    obtain ⟨h3, h4⟩ := h3
    have h7 := h6 (k, s, a) List.mem_cons_self
    subst h3
    exact ⟨s, a, st2, rfl, h4, h7⟩
/-- a step that pushes nothing -/
theorem TA_leaf (hc : 0 < c) (h : TA K V F S n b r q tu c js sc me aC en R sor ((js (c - 1), s, a) :: st) rec) (hkn : js (c - 1) < n) (hk : js (c - 1) = 0 ∨ K (js (c - 1)) = 1 ∨ K (js (c - 1)) = 5) {aC2 : Nat → Int32} {en2 : Int32} {R2 : Nat} {sor2 : Nat → Nat}
    (hA : RowA K V F R2 sor2 aC2 en2 q (rec ++ [(js (c - 1), s, a)])) (hM : Mst K V F S n b (stl sor2 R2)) (hr : r ∈ stl sor2 R2) : TA K V F S n b r q tu (c - 1) js sc (un me (js (c - 1)) tu) aC2 en2 R2 sor2 st (rec ++ [(js (c - 1), s, a)]) := by
  obtain ⟨d, rfl⟩ : ∃ d, c = d + 1 := ⟨c - 1, by omega⟩
  rw [Nat.add_sub_cancel] at *
  obtain ⟨h1, h2, h3, h4, h5, h6, h7, h8, -, -, -⟩ := h
  rw [absK] at h3 h4 h5
  simp only [List.map_cons, List.cons.injEq, true_and] at h3
  have hd := h5 (js d) List.mem_cons_self
  have hcn := cnF_ub hkn hd
  have e9 : inR (rec ++ [(js d, s, a)]) = ub (inR rec) (js d) true := by funext j; exact inR_new
  have h4' := List.nodup_cons.mp h4
  refine ⟨?_, by rw [e9, List.length_append]; simp; omega, h3, h4'.2, fun k hk => ?_, fun x hx => h6 x (List.mem_cons_of_mem _ hx), fun x hx => ?_, fun k hk => ?_, hA, hM, hr⟩
  · rw [show 2 * n + 2 - rec.length = (2 * n + 2 - (rec ++ [(js d, s, a)]).length) + 1 by rw [List.length_append]; simp; omega, spN_step hd, if_pos hk] at h1
    exact h1
  · rw [inR_new, ub_n (fun e => h4'.1 (by rw [← e]; exact hk))]
    exact h5 k (List.mem_cons_of_mem _ hk)
  · rcases List.mem_append.mp hx with hx | hx
    · exact h7 x hx
    · rw [List.mem_singleton.mp hx]
      have := h6 (js d, s, a) List.mem_cons_self
      exact ⟨hkn, this.2⟩
  · rw [inR_new]
    by_cases e : k = js d
    · subst e; rw [un_s, ub_s]; simp
    · rw [un_n e, ub_n e]; exact h8 k hk
/-- a step that pushes -/
theorem TA_push (hc : 0 < c) (h : TA K V F S n b r q tu c js sc me aC en R sor ((js (c - 1), s, a) :: st) rec) (hkn : js (c - 1) < n) (h0 : js (c - 1) ≠ 0) (h1' : K (js (c - 1)) ≠ 1) (h5' : K (js (c - 1)) ≠ 5) {c2 : Nat} {js2 sc2 : Nat → Nat}
    (hst : (pshO K V F S (js (c - 1)) s a st).map (·.1) = absK js2 c2) (hsc : StR sc2 (pshO K V F S (js (c - 1)) s a st)) (hnd : ¬ Doom (un me (js (c - 1)) tu) tu (absK js2 c2)) (hlt : ∀ k ∈ absK js2 c2, k < n) : TA K V F S n b r q tu c2 js2 sc2 (un me (js (c - 1)) tu) aC en R sor (pshO K V F S (js (c - 1)) s a st) (rec ++ [(js (c - 1), s, a)]) := by
  obtain ⟨d, rfl⟩ : ∃ d, c = d + 1 := ⟨c - 1, by omega⟩
  rw [Nat.add_sub_cancel] at *
  obtain ⟨h1, h2, h3, h4, h5, h6, h7, h8, h9, h10, h11⟩ := h
  rw [absK] at h3 h4 h5
  have hd := h5 (js d) List.mem_cons_self
  have hcn := cnF_ub hkn hd
  have e9 : inR (rec ++ [(js d, s, a)]) = ub (inR rec) (js d) true := by funext j; exact inR_new
  have hme : ∀ k, k < n → (un me (js d) tu k = tu ↔ inR (rec ++ [(js d, s, a)]) k = true) := by
    intro k hk
    rw [inR_new]
    by_cases e : k = js d
    · subst e; rw [un_s, ub_s]; simp
    · rw [un_n e, ub_n e]; exact h8 k hk
  refine ⟨?_, by rw [e9, List.length_append]; simp; omega, hst, Classical.byContradiction (fun hn => hnd (Or.inr hn)), fun k hk => ?_, hsc, fun x hx => ?_, hme, RowA_skip h9 h0 h1', h10, h11⟩
  · rw [show 2 * n + 2 - rec.length = (2 * n + 2 - (rec ++ [(js d, s, a)]).length) + 1 by rw [List.length_append]; simp; omega, spN_step hd, if_neg (by omega)] at h1
    exact h1
  · cases hq : inR (rec ++ [(js d, s, a)]) k with
    | false => rfl
    | true => exact absurd (Or.inl ⟨k, hk, (hme k (hlt k hk)).mpr hq⟩) hnd
  · rcases List.mem_append.mp hx with hx | hx
    · exact h7 x hx
    · rw [List.mem_singleton.mp hx]
      have := h6 (js d, s, a) List.mem_cons_self
      exact ⟨hkn, this.2⟩
/-- a step that will be come to twice: not one way -/
theorem TA_doom (hc : 0 < c) (h : TA K V F S n b r q tu c js sc me aC en R sor ((js (c - 1), s, a) :: st) rec) (hkn : js (c - 1) < n) (h0 : js (c - 1) ≠ 0) (h1' : K (js (c - 1)) ≠ 1) (h5' : K (js (c - 1)) ≠ 5) {L : List Nat}
    (hst : (pshO K V F S (js (c - 1)) s a st).map (·.1) = L) (hd : Doom (un me (js (c - 1)) tu) tu L) (hlt : ∀ k ∈ L, k < n) : ¬ OneW K V F S n b := by
  obtain ⟨d, rfl⟩ : ∃ d, c = d + 1 := ⟨c - 1, by omega⟩
  rw [Nat.add_sub_cancel] at *
  obtain ⟨h1, h2, h3, h4, h5, h6, h7, h8, h9, h10, h11⟩ := h
  rw [absK] at h3 h4 h5
  have hdd := h5 (js d) List.mem_cons_self
  have hcn := cnF_ub hkn hdd
  rw [show 2 * n + 2 - rec.length = (2 * n + 1 - rec.length) + 1 by omega, spN_step hdd, if_neg (by omega)] at h1
  refine not_none h10 h11 ?_
  rw [← h1]
  rcases hd with ⟨k, hk, hm⟩ | hd
  · refine spN_dup _ _ _ ?_
    rw [← hst] at hk
    obtain ⟨x, hx, rfl⟩ := List.mem_map.mp hk
    refine ⟨x, hx, ?_⟩
    rw [inR_new]
    by_cases e : x.1 = js d
    · rw [e, ub_s]
    · rw [un_n e] at hm
      rw [ub_n e]
      exact (h8 x.1 (hlt _ (by rw [← hst]; exact List.mem_map.mpr ⟨x, hx, rfl⟩))).mp hm
  · refine spN_two _ _ _ ?_
    rw [← hst] at hd
    apply Classical.byContradiction
    intro hn
    apply hd
    rw [List.nodup_iff_pairwise_ne, List.pairwise_iff_getElem]
    intro i j hi hj hij he
    rw [List.length_map] at hi hj
    simp only [List.getElem_map] at he
    exact hn ⟨i, j, _, _, hij, List.getElem?_eq_getElem hi, List.getElem?_eq_getElem hj, he⟩
end TB2
