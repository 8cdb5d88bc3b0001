/-! A row of the table: a step that takes bytes. -/
def tbA (aC : Nat → Int32) (q lo hi : Nat) (x : Int32) (m : Nat) : Nat → Int32 := fun t => if q * 256 ≤ t ∧ t < q * 256 + m ∧ lo ≤ t - q * 256 ∧ t - q * 256 ≤ hi then x else aC t
theorem tbA_0 (aC : Nat → Int32) (q lo hi : Nat) (x : Int32) : tbA aC q lo hi x 0 = aC := by
  funext t; rw [tbA, if_neg (by omega)]
theorem tbA_no (aC : Nat → Int32) (q lo hi : Nat) (x : Int32) (m : Nat) (h : ¬ (lo ≤ m ∧ m ≤ hi)) : tbA aC q lo hi x m = tbA aC q lo hi x (m + 1) := by
  funext t; rw [tbA, tbA]
  by_cases h1 : q * 256 ≤ t ∧ t < q * 256 + m ∧ lo ≤ t - q * 256 ∧ t - q * 256 ≤ hi
  · rw [if_pos h1, if_pos (by omega)]
  · rw [if_neg h1, if_neg (by omega)]
theorem tbA_yes (aC : Nat → Int32) (q lo hi : Nat) (x : Int32) (m : Nat) (h : lo ≤ m ∧ m ≤ hi) : upd (tbA aC q lo hi x m) (q * 256 + m) x = tbA aC q lo hi x (m + 1) := by
  funext t; rw [upd, tbA, tbA]
  by_cases h0 : t = q * 256 + m
  · rw [if_pos h0, if_pos (by omega)]
  · rw [if_neg h0]
    by_cases h1 : q * 256 ≤ t ∧ t < q * 256 + m ∧ lo ≤ t - q * 256 ∧ t - q * 256 ≤ hi
    · rw [if_pos h1, if_pos (by omega)]
    · rw [if_neg h1, if_neg (by omega)]
theorem tbA_at (aC : Nat → Int32) (q lo hi : Nat) (x : Int32) (m b : Nat) (hb : b < m) : tbA aC q lo hi x m (q * 256 + b) = if lo ≤ b ∧ b ≤ hi then x else aC (q * 256 + b) := by
  rw [tbA]
  have e : q * 256 + b - q * 256 = b := by omega
  rw [e]
  by_cases h : lo ≤ b ∧ b ≤ hi
  · rw [if_pos h, if_pos ⟨by omega, by omega, h.1, h.2⟩]
  · rw [if_neg h, if_neg (fun g => h ⟨g.2.2.1, g.2.2.2⟩)]
theorem tbA_un (aC : Nat → Int32) (q lo hi : Nat) (x : Int32) (m b : Nat) (hb : m ≤ b) : tbA aC q lo hi x m (q * 256 + b) = aC (q * 256 + b) := by
  rw [tbA, if_neg (by omega)]
theorem tbA_q (aC : Nat → Int32) (q lo hi : Nat) (x : Int32) (m q2 b : Nat) (hm : m ≤ 256) (hb : b < 256) (hq : q2 ≠ q) : tbA aC q lo hi x m (q2 * 256 + b) = aC (q2 * 256 + b) := by
  rw [tbA, if_neg (by omega)]
/-- a row for a step -/
def RfR (n R : Nat) (sor : Nat → Nat) (ros : Nat → Int32) (k : Nat) (x : Int32) (R2 : Nat) (sor2 : Nat → Nat) (ros2 : Nat → Int32) : Prop :=
  RwS n R2 sor2 ros2 ∧ R ≤ R2 ∧ (∀ i, i < R → sor2 i = sor i) ∧ ((x = -1 ∧ R = 64 ∧ R2 = R ∧ ∀ i, i < R → sor i ≠ k) ∨ (∃ i, i < R2 ∧ sor2 i = k ∧ x = nI i ∧ stl sor2 R2 = addL (stl sor R) k))
section RF
variable {n R k : Nat} {sor : Nat → Nat} {ros : Nat → Int32}
theorem Rf_new (h : RwS n R sor ros) (hk : k < n) (hR : R < 64) (hx : ros k = -1) : RfR n R sor ros k (nI R) (R + 1) (un sor R k) (upd ros k (nI R)) := by
  obtain ⟨h1, h2, h3⟩ := h
  have hno : ∀ i, i < R → sor i ≠ k := by
    rcases h3 k hk with ⟨_, h⟩ | ⟨i, hi, _, e⟩
    · exact h
    · rw [hx] at e; exact absurd e.symm (nI_nm1 (by omega))
  have hk2 : k ∉ stl sor R := fun hm => by
    obtain ⟨i, hi, e⟩ := stl_mem.mp hm
    exact hno i hi e
  refine ⟨⟨by omega, fun i hi => ?_, fun j hj => ?_⟩, by omega, fun i hi => un_n (by omega), Or.inr ⟨R, by omega, un_s, rfl, stl_add hk2⟩⟩
  · by_cases e : i = R
    · subst e; rw [un_s]; exact hk
    · rw [un_n e]; exact h2 i (by omega)
  · by_cases e : j = k
    · subst e; exact Or.inr ⟨R, by omega, un_s, pk_us⟩
    · rw [pk_un e]
      rcases h3 j hj with ⟨g1, g2⟩ | ⟨i, hi, g1, g2⟩
      · refine Or.inl ⟨g1, fun i hi => ?_⟩
        by_cases e2 : i = R
        · subst e2; rw [un_s]; exact fun z => e z.symm
        · rw [un_n e2]; exact g2 i (by omega)
      · exact Or.inr ⟨i, by omega, by rw [un_n (by omega)]; exact g1, g2⟩
theorem Rf_full (h : RwS n R sor ros) (hk : k < n) (hR : 64 ≤ R) (hx : ros k = -1) : RfR n R sor ros k (-1) R sor ros := by
  refine ⟨h, by omega, fun i _ => rfl, Or.inl ⟨rfl, by have := h.1; omega, rfl, ?_⟩⟩
  rcases h.2.2 k hk with ⟨_, h⟩ | ⟨i, hi, _, e⟩
  · exact h
  · rw [hx] at e; exact absurd e.symm (nI_nm1 (by have := h.1; omega))
theorem Rf_old (h : RwS n R sor ros) (hk : k < n) (hx : ros k ≠ -1) : RfR n R sor ros k (ros k) R sor ros := by
  refine ⟨h, by omega, fun i _ => rfl, Or.inr ?_⟩
  rcases h.2.2 k hk with ⟨e, _⟩ | ⟨i, hi, e1, e2⟩
  · exact absurd e hx
  · exact ⟨i, hi, e1, e2, (addL_in (stl_mem.mpr ⟨i, hi, e1⟩)).symm⟩
end RF
section TB4b
variable {K V F S kC vC fC sC : Nat → Nat} {n b r q tu c R : Nat} {js sc me sor : Nat → Nat} {aC ros : Nat → Int32} {en : Int32}
theorem spN_pre : ∀ (m : Nat) (st rec rc2 : List Rc), spN K V F S m st rec = some rc2 → ∃ t, rc2 = rec ++ t := by
  intro m
  induction m with
  | zero => intro st rec rc2 h; cases h
  | succ m ih =>
    intro st rec rc2 h
    match st with
    | [] => rw [spN] at h; cases h; exact ⟨[], by simp⟩
    | (k, s, a) :: st =>
      rw [spN] at h
      split at h
      · cases h
      · split at h
        · obtain ⟨t, e⟩ := ih _ _ _ h
          exact ⟨(k, s, a) :: t, by rw [e, List.append_assoc]; rfl⟩
        · obtain ⟨t, e⟩ := ih _ _ _ h
          exact ⟨(k, s, a) :: t, by rw [e, List.append_assoc]; rfl⟩
theorem TA_fin {s a : Nat} {st rec rc2 : List Rc} {k : Nat} (h : TA K V F S n b r q tu c js sc me aC en R sor ((k, s, a) :: st) rec) (hc : 0 < c) (hkn : k < n) (h2 : spN K V F S (2 * n + 2) [(r, 0, 0)] [] = some rc2) : ∃ t, rc2 = rec ++ (k, s, a) :: t := by
  obtain ⟨h1, hl, h3, -, h5, -⟩ := h
  have hk : k ∈ absK js c := by rw [← h3]; exact List.mem_cons_self
  have hd := h5 k hk
  have hcn := cnF_ub hkn hd
  rw [← h1, show 2 * n + 2 - rec.length = (2 * n + 1 - rec.length) + 1 by omega, spN_step hd] at h2
  split at h2
  · obtain ⟨t, e⟩ := spN_pre _ _ _ _ h2
    exact ⟨t, by rw [e, List.append_assoc]; rfl⟩
  · obtain ⟨t, e⟩ := spN_pre _ _ _ _ h2
    exact ⟨t, by rw [e, List.append_assoc]; rfl⟩
/-- the code of a step that takes bytes: alike only if all is alike -/
theorem ord_en {rec : List Rc} {x : Rc} (h : (en = -1 ∧ ∀ x ∈ rec, x.1 ≠ 0) ∨ (∃ x ∈ rec, x.1 = 0 ∧ en = nI (cdN x.2.1 x.2.2))) (hb : ∀ x ∈ rec, x.1 < n ∧ SvN x.2.1 ∧ x.2.2 < 2 ^ 6) : ordB (rec ++ [x]) rec.length = (if en = -1 then 0 else 64) := by
  rw [ordB_app (Nat.le_refl _), ordB, List.take_length]
  rcases h with ⟨e, h⟩ | ⟨y, hy, hy0, e⟩
  · rw [if_pos e, if_neg]
    intro ha
    obtain ⟨y, hy, hz⟩ := List.any_eq_true.mp ha
    exact h y hy (by simpa [zR] using hz)
  · rw [if_pos (List.any_eq_true.mpr ⟨y, hy, by simp [zR, hy0]⟩), if_neg]
    rw [e]
    have hq := hb y hy
    exact nI_nm1 (by have := cd_lt hq.2.1.1 hq.2.2; omega)
theorem tk_row {s a k b : Nat} (hk : k ≠ 0) (hK : K k = 1) : tkR K V (k, s, a) b ↔ (V k / 256 ≤ b ∧ b ≤ V k % 256) := by
  constructor
  · intro h; exact ⟨h.2.2.1, h.2.2.2⟩
  · intro h; exact ⟨hk, hK, h.1, h.2⟩
theorem RowA_take {rec : List Rc} {s a k i R2 : Nat} {sor2 : Nat → Nat} (hA : RowA K V F R sor aC en q rec) (hb : ∀ x ∈ rec, x.1 < n ∧ SvN x.2.1 ∧ x.2.2 < 2 ^ 6) (hk : k ≠ 0) (hK : K k = 1) (hRR : R ≤ R2) (hR2 : R2 ≤ 64) (hso : ∀ i, i < R → sor2 i = sor i) (hi : i < R2) (hi2 : sor2 i = F k)
    (hcf : ∀ b, b < 256 → V k / 256 ≤ b → b ≤ V k % 256 → aC (q * 256 + b) = -1 ∨ aC (q * 256 + b) = nI (acN (cdN s a) (if en = -1 then 0 else 64) i)) :
    RowA K V F R2 sor2 (tbA aC q (V k / 256) (V k % 256) (nI (acN (cdN s a) (if en = -1 then 0 else 64) i)) 256) en q (rec ++ [(k, s, a)]) := by
  obtain ⟨g1, g2⟩ := hA
  have hor := ord_en (x := (k, s, a)) g1 hb
  refine ⟨?_, fun b hb9 => ?_⟩
  · rcases g1 with ⟨e, g1⟩ | ⟨y, hy, e⟩
    · refine Or.inl ⟨e, fun y hy => ?_⟩
      rcases List.mem_append.mp hy with hy | hy
      · exact g1 y hy
      · rw [List.mem_singleton.mp hy]; exact hk
    · exact Or.inr ⟨y, List.mem_append_left _ hy, e⟩
  · rw [tbA_at _ _ _ _ _ _ _ hb9]
    obtain ⟨q1, q2⟩ := g2 b hb9
    constructor
    · intro j y hy ht
      by_cases hj : j < rec.length
      · rw [List.getElem?_append_left hj] at hy
        rw [ordB_app (by omega)]
        obtain ⟨i2, p1, p2, p3⟩ := q1 j y hy ht
        refine ⟨i2, by omega, by rw [hso i2 p1]; exact p2, ?_⟩
        split
        · rename_i ht2
          have hym : y ∈ rec := List.mem_of_getElem? hy
          have hyb := hb y hym
          rcases hcf b hb9 ht2.1 ht2.2 with e | e
          · rw [p3] at e
            exact absurd e (nI_nm1 (ac_lt (cd_lt hyb.2.1.1 hyb.2.2) (ordB_o rec j) (by omega)))
          · rw [← e, p3]
        · exact p3
      · rw [List.getElem?_append_right (by omega)] at hy
        obtain ⟨hl, hy3⟩ := List.getElem?_eq_some_iff.mp hy
        simp at hl
        have hj2 : j = rec.length := by omega
        have hy4 : y = (k, s, a) := by simp [hl] at hy3; exact hy3.symm
        rw [hy4] at ht
        rw [hj2, hy4, hor, if_pos ((tk_row hk hK).mp ht)]
        exact ⟨i, hi, hi2, rfl⟩
    · by_cases ht2 : V k / 256 ≤ b ∧ b ≤ V k % 256
      · exact Or.inr ⟨(k, s, a), by simp, (tk_row hk hK).mpr ht2⟩
      · rw [if_neg ht2]
        rcases q2 with e | ⟨y, hy, ht⟩
        · exact Or.inl e
        · exact Or.inr ⟨y, List.mem_append_left _ hy, ht⟩
theorem TA_more {s a : Nat} {st rec : List Rc} {k : Nat} (h : TA K V F S n b r q tu c js sc me aC en R sor ((k, s, a) :: st) rec) (hc : 0 < c) (hkn : k < n) (hk : k ≠ 0) (hK : K k = 1) (hF : F k < n) : Mst K V F S n b (addL (stl sor R) (F k)) := by
  have hM := h.2.2.2.2.2.2.2.2.2.1
  have hr := h.2.2.2.2.2.2.2.2.2.2
  refine Mst_add hM hF (fun X hX => ?_)
  obtain ⟨rc2, hG, hx⟩ := hX.2.2 r (hM.2.2.2 X hX r hr)
  obtain ⟨t, e⟩ := TA_fin h hc hkn hG.1
  exact hx (k, s, a) (by rw [e]; simp) hK hk
theorem TW_take (H : Pg n kC vC fC sC K V F S) (h : TW K V F S n b r q tu c js sc me aC en R sor ros) (hc : 0 < c) (hm : me (js (c - 1)) ≠ tu) (h1 : kC (js (c - 1)) = 1) {i R2 : Nat} {sor2 : Nat → Nat} {ros2 : Nat → Int32} {x : Int32} (hR : RfR n R sor ros (fC (js (c - 1))) x R2 sor2 ros2) (hx : x = nI i) (hi : i < 64)
    (hcf : ∀ b, b < 256 → V (js (c - 1)) / 256 ≤ b → b ≤ V (js (c - 1)) % 256 → aC (q * 256 + b) = -1 ∨ aC (q * 256 + b) = nI (acN (sc (js (c - 1))) (if en = -1 then 0 else 64) i)) :
    TW K V F S n b r q tu (c - 1) js sc (un me (js (c - 1)) tu) (tbA aC q (V (js (c - 1)) / 256) (V (js (c - 1)) % 256) (nI (acN (sc (js (c - 1))) (if en = -1 then 0 else 64) i)) 256) en R2 sor2 ros2 := by
  obtain ⟨hS, h⟩ := h
  obtain ⟨g1, g2, g3, g4⟩ := Sf_cn hS hc hm
  have h0 := Pg_0 H (k := js (c - 1)) (by omega)
  have hK := Pg_K H h0 g1
  have hF := Pg_at H g1 (by omega) (by omega)
  obtain ⟨r1, r2, r3, r4⟩ := hR
  obtain ⟨i2, p1, p2, p3, p4⟩ : ∃ i, i < R2 ∧ sor2 i = fC (js (c - 1)) ∧ x = nI i ∧ stl sor2 R2 = addL (stl sor R) (fC (js (c - 1))) := by
    rcases r4 with ⟨e, _⟩ | r4
    · rw [hx] at e; exact absurd e (nI_nm1 (by omega))
    · exact r4
  have hii : i2 = i := by
    rw [hx] at p3
    exact ((nI_eq (by omega) (by have := r1.1; omega)).mp p3).symm
  subst hii
  refine ⟨⟨r1, fun i hi => hS.2.1 i (by omega), by have := hS.2.2.1; omega, g4⟩, ?_⟩
  rcases h with ⟨st, rec, h⟩ | ⟨h, hd⟩
  · obtain ⟨s, a, st2, rfl, h2, h3, h4, h6⟩ := TA_top hc h
    have hmore := TA_more h hc g1 (by omega) (by omega) (by rw [← hF.2]; exact hF.1)
    rw [hF.2] at p2 p4
    refine Or.inl ⟨_, _, TA_leaf hc h g1 (by omega) ?_ (by rw [p4]; exact hmore) (by rw [p4]; exact addL_mem.mpr (Or.inl h.2.2.2.2.2.2.2.2.2.2))⟩
    rw [h3] at hcf ⊢
    exact RowA_take h.2.2.2.2.2.2.2.2.1 h.2.2.2.2.2.2.1 (by omega) (by omega) r2 r1.1 r3 p1 p2 hcf
  · rw [absK_c hc] at hd
    exact Or.inr ⟨h, Doom_pop hd hm⟩
theorem TW_full (H : Pg n kC vC fC sC K V F S) (h : TW K V F S n b r q tu c js sc me aC en R sor ros) (hc : 0 < c) (h1 : kC (js (c - 1)) = 1) (hR : R = 64) (hno : ∀ i, i < R → sor i ≠ fC (js (c - 1))) : ¬ OneW K V F S n b := by
  obtain ⟨hS, h⟩ := h
  rcases h with ⟨st, rec, h⟩ | ⟨h, hd⟩
  · have g1 := (hS.2.1 (c - 1) (by omega)).1
    have h0 := Pg_0 H (k := js (c - 1)) (by omega)
    have hK := Pg_K H h0 g1
    have hF := Pg_at H g1 (by omega) (by omega)
    obtain ⟨s, a, st2, rfl, h2, h3, h4, h6⟩ := TA_top hc h
    have hmore := TA_more h hc g1 (by omega) (by omega) (by rw [← hF.2]; exact hF.1)
    refine not_many hmore ?_
    rw [addL, if_neg, List.length_append, stl_len]
    · simp; omega
    · intro hm
      obtain ⟨i, hi, e⟩ := stl_mem.mp hm
      exact hno i hi (by rw [e, hF.2])
  · exact h
theorem take_any_iff {rec : List Rc} {j : Nat} : (rec.take j).any zR = true ↔ ∃ e, e < j ∧ ∃ z, rec[e]? = some z ∧ z.1 = 0 := by
  rw [List.any_eq_true]
  constructor
  · rintro ⟨z, hz, h0⟩
    obtain ⟨e, he⟩ := List.mem_iff_getElem?.mp hz
    have hlt := (List.getElem?_eq_some_iff.mp he).1
    rw [List.length_take] at hlt
    rw [List.getElem?_take_of_lt (by omega)] at he
    exact ⟨e, by omega, z, he, by simpa [zR] using h0⟩
  · rintro ⟨e, he, z, hz, h0⟩
    refine ⟨z, ?_, by simp [zR, h0]⟩
    refine List.mem_iff_getElem?.mpr ⟨e, ?_⟩
    rw [List.getElem?_take_of_lt he]; exact hz
theorem ord_side {rc2 : List Rc} {i j : Nat} {x y : Rc} (hx : rc2[i]? = some x) (hy : rc2[j]? = some y) (hx0 : x.1 ≠ 0) (hy0 : y.1 ≠ 0) (h : sideP rc2 i j) : ordB rc2 i = ordB rc2 j := by
  have key : ∀ (i j : Nat) (x : Rc), rc2[j]? = some x → x.1 ≠ 0 → (∀ e, (rc2[e]?).map (·.1) = some 0 → (i < e ↔ j < e)) → (rc2.take i).any zR = true → (rc2.take j).any zR = true := by
    intro i j x hx hx0 h ha
    obtain ⟨e, he, z, hz, h0⟩ := take_any_iff.mp ha
    refine take_any_iff.mpr ⟨e, ?_, z, hz, h0⟩
    have h2 := h e (by rw [hz]; simp [h0])
    have h3 : e ≠ j := fun e2 => by
      subst e2
      rw [hz] at hx; cases hx; exact hx0 h0
    omega
  unfold ordB
  by_cases ha : (rc2.take i).any zR = true
  · rw [if_pos ha, if_pos (key i j y hy hy0 h ha)]
  · rw [if_neg ha, if_neg (fun hb => ha (key j i x hx hx0 (fun e he => (h e he).symm) hb))]
theorem TW_conf (H : Pg n kC vC fC sC K V F S) (h : TW K V F S n b r q tu c js sc me aC en R sor ros) (hc : 0 < c) (h1 : kC (js (c - 1)) = 1) {i R2 b9 : Nat} {sor2 : Nat → Nat} {ros2 : Nat → Int32} {x : Int32} (hR : RfR n R sor ros (fC (js (c - 1))) x R2 sor2 ros2) (hx : x = nI i) (hi : i < 64)
    (hb : b9 < 256) (hb1 : V (js (c - 1)) / 256 ≤ b9) (hb2 : b9 ≤ V (js (c - 1)) % 256) (hc1 : aC (q * 256 + b9) ≠ -1) (hc2 : aC (q * 256 + b9) ≠ nI (acN (sc (js (c - 1))) (if en = -1 then 0 else 64) i)) : ¬ OneW K V F S n b := by
  obtain ⟨hS, h⟩ := h
  rcases h with ⟨st, rec, h⟩ | ⟨h, hd⟩
  · have g1 := (hS.2.1 (c - 1) (by omega)).1
    have h0 := Pg_0 H (k := js (c - 1)) (by omega)
    have hK := Pg_K H h0 g1
    have hF := Pg_at H g1 (by omega) (by omega)
    obtain ⟨s, a, st2, rfl, h2, h3, h4, h6⟩ := TA_top hc h
    rintro ⟨X, hX⟩
    have hM := h.2.2.2.2.2.2.2.2.2.1
    obtain ⟨rc2, hG, -⟩ := hX.2.2 r (hM.2.2.2 X hX r h.2.2.2.2.2.2.2.2.2.2)
    obtain ⟨t, e⟩ := TA_fin h hc g1 hG.1
    obtain ⟨q1, q2⟩ := h.2.2.2.2.2.2.2.2.1.2 b9 hb
    obtain ⟨y, hy, ht⟩ : ∃ y ∈ rec, tkR K V y b9 := by
      rcases q2 with e | q2
      · exact absurd e hc1
      · exact q2
    obtain ⟨j, hj⟩ := List.mem_iff_getElem?.mp hy
    have hjl := (List.getElem?_eq_some_iff.mp hj).1
    obtain ⟨i2, p1, p2, p3⟩ := q1 j y hj ht
    have hyin : inR rec y.1 = true := inR_iff.mpr ⟨y, hy, rfl⟩
    have hkin : inR rec (js (c - 1)) = false := h.2.2.2.2.1 _ (by rw [absK_c hc]; exact List.mem_cons_self)
    have hne : y.1 ≠ js (c - 1) := fun e => by rw [e, hkin] at hyin; cases hyin
    have a1 : rc2[j]? = some y := by rw [e, List.getElem?_append_left hjl]; exact hj
    have a2 : rc2[rec.length]? = some (js (c - 1), s, a) := by rw [e, List.getElem?_append_right (Nat.le_refl _), Nat.sub_self]; rfl
    obtain ⟨c1, c2, c3⟩ := hG.2 j rec.length y _ a1 a2 hne ht.2.1 ht.1 (by show K (js (c - 1)) = 1; omega) (by show js (c - 1) ≠ 0; omega) (by
      simp only [meetB, Bool.and_eq_true, decide_eq_true_eq]
      have := ht.2.2
      exact ⟨by omega, by omega⟩)
    have o1 := ord_side a1 a2 ht.1 (by show js (c - 1) ≠ 0; omega) c3
    have o2 : ordB rc2 j = ordB rec j := by rw [e]; unfold ordB; rw [List.take_append_of_le_length (by omega)]
    have o3 : ordB rc2 rec.length = (if en = -1 then 0 else 64) := by
      rw [← ord_en (x := (js (c - 1), s, a)) h.2.2.2.2.2.2.2.2.1.1 h.2.2.2.2.2.2.1, ordB_app (Nat.le_refl _), e]
      unfold ordB
      rw [List.take_append_of_le_length (Nat.le_refl _)]
    apply hc2
    rw [p3, h3, c2, ← o2, o1, o3]
    obtain ⟨r1, r2, r3, r4⟩ := hR
    rcases r4 with ⟨e9, _⟩ | ⟨i3, z1, z2, z3, z4⟩
    · rw [hx] at e9; exact absurd e9 (nI_nm1 (by omega))
    · have hii : i3 = i := by
        rw [hx] at z3
        exact ((nI_eq (by omega) (by have := r1.1; omega)).mp z3).symm
      subst hii
      have e10 : i2 = i3 := by
        have hy2 : sor2 i2 = fC (js (c - 1)) := by rw [r3 i2 p1, p2, c1, hF.2]
        rcases r1.2.2 (fC (js (c - 1))) hF.1 with ⟨_, hz⟩ | ⟨i4, w1, w2, w3⟩
        · exact absurd z2 (hz i3 z1)
        · have hM2 := TA_more h hc g1 (by omega) (by omega) (by rw [← hF.2]; exact hF.1)
          rw [← hF.2, ← z4] at hM2
          have hnd := hM2.1
          rw [List.nodup_iff_pairwise_ne, List.pairwise_iff_getElem] at hnd
          apply Classical.byContradiction
          intro hn
          have hl2 : (stl sor2 R2).length = R2 := stl_len
          rcases Nat.lt_or_gt_of_ne hn with hlt | hlt
          · exact hnd i2 i3 (by omega) (by omega) hlt (by simp [stl, hy2, z2])
          · exact hnd i3 i2 (by omega) (by omega) hlt (by simp [stl, hy2, z2])
      rw [e10]
  · exact h
end TB4b
