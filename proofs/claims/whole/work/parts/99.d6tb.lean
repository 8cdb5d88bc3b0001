/-! The table's run is the run by records. -/
def svK (cd p : Nat) (f : Sv) (k : Nat) : Sv := fun j => if 2 ≤ j ∧ j < k ∧ cd.testBit (j - 2) = true then nI p else f j
theorem svK_2 (cd p : Nat) (f : Sv) : svK cd p f 2 = f := by funext j; rw [svK, if_neg (by omega)]
theorem svK_yes {cd p k : Nat} {f : Sv} (h : cd.testBit (k - 2) = true) (hk : 2 ≤ k) : upd (svK cd p f k) k (nI p) = svK cd p f (k + 1) := by
  funext j; rw [upd, svK, svK]
  by_cases e : j = k
  · subst e; rw [if_pos rfl, if_pos ⟨hk, by omega, h⟩]
  · rw [if_neg e]
    by_cases h2 : 2 ≤ j ∧ j < k ∧ cd.testBit (j - 2) = true
    · rw [if_pos h2, if_pos ⟨h2.1, by omega, h2.2.2⟩]
    · rw [if_neg h2, if_neg (fun h3 => h2 ⟨h3.1, by omega, h3.2.2⟩)]
theorem svK_no {cd p k : Nat} {f : Sv} (h : cd.testBit (k - 2) = false) : svK cd p f k = svK cd p f (k + 1) := by
  funext j; rw [svK, svK]
  by_cases h2 : 2 ≤ j ∧ j < k ∧ cd.testBit (j - 2) = true
  · rw [if_pos h2, if_pos ⟨h2.1, by omega, h2.2.2⟩]
  · rw [if_neg h2, if_neg]
    rintro ⟨h3, h4, h5⟩
    by_cases e : j = k
    · subst e; rw [h] at h5; cases h5
    · exact h2 ⟨h3, by omega, h5⟩
theorem svK_S {s a p : Nat} {f : Sv} (h : SvN s) : svK (cdN s a) p f 20 = svS p s f := by
  funext j; rw [svK, svS]
  by_cases h2 : 2 ≤ j ∧ j < 20
  · rw [cd_sv h2.1 h2.2]
    by_cases h3 : s.testBit j = true
    · rw [if_pos ⟨h2.1, h2.2, h3⟩, if_pos h3]
    · rw [if_neg (fun h4 => h3 h4.2.2), if_neg h3]
  · have h3 : s.testBit j = false := by
      match j with
      | 0 => exact h.2.1
      | 1 => exact h.2.2
      | j + 2 => exact Nat.testBit_lt_two_pow (Nat.lt_of_lt_of_le h.1 (Nat.pow_le_pow_right (by decide) (by omega)))
    rw [if_neg (fun h4 => h2 ⟨h4.1, h4.2.1⟩), if_neg (by rw [h3]; decide)]
theorem Nm_K {cd p : Nat} {f : Sv} (h : Nm f) : Nm (svK cd p f 20) := fun j hj => by rw [svK, if_neg (by omega)]; exact h j hj
section TB8
variable {K V F S kC vC fC sC : Nat → Nat} {len : Nat} {u : Nat → Nat} {n b R p q how : Nat} {sor : Nat → Nat} {aC eC : Nat → Int32} {lo : Bool} {sv : Sv} {best : Option (Nat × Sv)}
def rcN (K V F S : Nat → Nat) (n r : Nat) : List Rc := (spN K V F S (2 * n + 2) [(r, 0, 0)] []).getD []
theorem RowF_rc (h : RowF K V F S n R sor aC eC q) : spN K V F S (2 * n + 2) [(sor q, 0, 0)] [] = some (rcN K V F S n (sor q)) ∧ Cmp K V F (rcN K V F S n (sor q)) ∧ (∀ x ∈ rcN K V F S n (sor q), x.1 < n ∧ SvN x.2.1 ∧ x.2.2 < 2 ^ 6) ∧ (∀ x ∈ rcN K V F S n (sor q), K x.1 = 1 → x.1 ≠ 0 → ∃ i, i < R ∧ sor i = F x.1) ∧ RowA K V F R sor aC (eC q) q (rcN K V F S n (sor q)) ∧ ∀ (i j : Nat) (x y : Rc), (rcN K V F S n (sor q))[i]? = some x → (rcN K V F S n (sor q))[j]? = some y → x.1 = y.1 → i = j := by
  obtain ⟨rec, g1, g2, g3, g4, g5⟩ := h
  have e : rcN K V F S n (sor q) = rec := by rw [rcN, g1]; rfl
  rw [e]
  exact ⟨g1, g2, g3, g4, g5, spN_nodup (K := K) (V := V) (F := F) (S := S) (2 * n + 2) [(sor q, 0, 0)] [] rec (fun i j x y hx => by cases hx) g1⟩
theorem TbOk_H (H : Pg n kC vC fC sC K V F S) (h : TbOk K V F S n b R sor aC eC) : TbH K V F S n (stl sor R) (rcN K V F S n) := by
  refine ⟨fun i h0 hi => ⟨(H.2.2.2 i h0 hi).2.1, (H.2.2.2 i h0 hi).2.2.1⟩, fun i h0 hi h4 => (H.2.2.2 i h0 hi).2.2.2.2.2.2.1 h4, fun r hr => ?_⟩
  obtain ⟨q, hq, e⟩ := stl_mem.mp hr
  obtain ⟨g1, g2, g3, g4, -, -⟩ := RowF_rc (h.2.2.2.2 q hq)
  rw [e] at g1 g2 g4
  refine ⟨by rw [← e]; exact h.2.2.2.1 q hq, g1, g2, fun x hx hk h0 => ?_⟩
  obtain ⟨i, p1, p2⟩ := g4 x hx hk h0
  exact stl_mem.mpr ⟨i, p1, p2⟩
theorem tk_Rc {x : Rc} (hp : p < len) : takB K V len u x.1 p = true ↔ tkR K V x (u p) := by
  constructor
  · intro h
    have h1 := takB_K h
    exact ⟨by omega, h1.2.1, h1.2.2.2.1, h1.2.2.2.2⟩
  · rintro ⟨h1, h2, h3, h4⟩
    have h0 : 0 < x.1 := by omega
    simp [takB, h0, h2, hp, h3, h4]
theorem tb_none (h : RowF K V F S n R sor aC eC q) (hR : R ≤ 64) (hu : ∀ i, u i < 256) (ha : p < len → aC (q * 256 + u p) = -1) : (rcN K V F S n (sor q)).find? (fun x => takB K V len u x.1 p) = none := by
  obtain ⟨g1, g2, g3, g4, g5, g6⟩ := RowF_rc h
  refine List.find?_eq_none.mpr (fun x hx ht => ?_)
  have hp : p < len := (takB_K ht).2.2.1
  obtain ⟨j, hj⟩ := List.mem_iff_getElem?.mp hx
  obtain ⟨i, p1, p2, p3⟩ := (g5.2 (u p) (hu p)).1 j x hj ((tk_Rc hp).mp ht)
  rw [ha hp] at p3
  have hb := g3 x hx
  exact nI_nm1 (ac_lt (cd_lt hb.2.1.1 hb.2.2) (ordB_o _ j) (by omega)) p3.symm
theorem beh_ord {rec : List Rc} {j : Nat} {x : Rc} (hn : ∀ (i j : Nat) (x y : Rc), rec[i]? = some x → rec[j]? = some y → x.1 = y.1 → i = j) (hj : rec[j]? = some x) (h0 : x.1 ≠ 0) : behB rec x = decide (ordB rec j = 64) := by
  have key : ∀ (rec : List Rc) (j : Nat), rec[j]? = some x → (∀ (i j : Nat) (x y : Rc), rec[i]? = some x → rec[j]? = some y → x.1 = y.1 → i = j) → ((rec.takeWhile (fun y => !zR y)).any (fun y => decide (y.1 = x.1)) = true ↔ ¬ (rec.take j).any zR = true) := by
    intro rec
    induction rec with
    | nil => intro j hj; cases hj
    | cons y r ih =>
      intro j hj hn
      by_cases hy : zR y = true
      · have hy0 : y.1 = 0 := by simpa [zR] using hy
        have hj0 : j ≠ 0 := fun e => by
          subst e
          simp at hj; rw [hj] at hy0; exact h0 hy0
        obtain ⟨d, rfl⟩ : ∃ d, j = d + 1 := ⟨j - 1, by omega⟩
        simp [List.takeWhile_cons, hy]
      · have hy1 : zR y = false := by simpa using hy
        match j, hj with
        | 0, hj =>
          simp at hj
          rw [List.takeWhile_cons, if_pos (by simp [hy1]), List.any_cons, hj]
          simp
        | d + 1, hj =>
          have hj' : r[d]? = some x := by simpa using hj
          have hne : y.1 ≠ x.1 := fun e => by
            have := hn 0 (d + 1) y x (by simp) hj e
            omega
          have := ih d hj' (fun i j a c ha hc e => by have := hn (i + 1) (j + 1) a c (by simpa using ha) (by simpa using hc) e; omega)
          rw [List.takeWhile_cons, if_pos (by simp [hy1]), List.any_cons, List.take_succ_cons, List.any_cons, hy1]
          simp only [hne, decide_false, Bool.false_or]
          exact this
  have h1 := key rec j hj hn
  unfold behB ordB
  by_cases ha : (rec.take j).any zR = true
  · rw [if_pos ha]
    cases hb : (rec.takeWhile (fun y => !zR y)).any (fun y => decide (y.1 = x.1)) with
    | true => exact absurd ha (h1.mp hb)
    | false => rfl
  · rw [if_neg ha, h1.mpr ha]; rfl
theorem tb_some (h : RowF K V F S n R sor aC eC q) (hR : R ≤ 64) (hu : ∀ i, u i < 256) (hp : p < len) (ha : aC (q * 256 + u p) ≠ -1) : ∃ (x : Rc) (i o : Nat), (rcN K V F S n (sor q)).find? (fun x => takB K V len u x.1 p) = some x ∧ i < R ∧ sor i = F x.1 ∧ aC (q * 256 + u p) = nI (acN (cdN x.2.1 x.2.2) o i) ∧ (o = 0 ∨ o = 64) ∧ behB (rcN K V F S n (sor q)) x = decide (o = 64) ∧ SvN x.2.1 ∧ x.2.2 < 2 ^ 6 := by
  obtain ⟨g1, g2, g3, g4, g5, g6⟩ := RowF_rc h
  cases hf : (rcN K V F S n (sor q)).find? (fun x => takB K V len u x.1 p) with
  | none =>
    exfalso
    rcases (g5.2 (u p) (hu p)).2 with e | ⟨x, hx, ht⟩
    · exact ha e
    · exact List.find?_eq_none.mp hf x hx ((tk_Rc hp).mpr ht)
  | some x =>
    have hx := List.mem_of_find?_eq_some hf
    have ht : tkR K V x (u p) := (tk_Rc hp).mp (List.find?_some (p := fun x : Rc => takB K V len u x.1 p) hf)
    obtain ⟨j, hj⟩ := List.mem_iff_getElem?.mp hx
    obtain ⟨i, p1, p2, p3⟩ := (g5.2 (u p) (hu p)).1 j x hj ht
    have hb := g3 x hx
    exact ⟨x, i, _, rfl, p1, p2, p3, ordB_o _ j, beh_ord g6 hj ht.1, hb.2.1, hb.2.2⟩
theorem tb_end (h : RowF K V F S n R sor aC eC q) : (eC q = -1 ∧ tbE len u how p (rcN K V F S n (sor q)) sv best = (false, best)) ∨ ∃ s a, eC q = nI (cdN s a) ∧ SvN s ∧ a < 2 ^ 6 ∧ tbE len u how p (rcN K V F S n (sor q)) sv best = (if (hoB len u p a && mayB len how p) = true then (true, some (p, svS p s sv)) else (false, best)) := by
  obtain ⟨g1, g2, g3, g4, g5, g6⟩ := RowF_rc h
  rcases g5.1 with ⟨e, hz⟩ | ⟨x, hx, hx0, e⟩
  · refine Or.inl ⟨e, ?_⟩
    have hf : (rcN K V F S n (sor q)).find? zR = none := List.find?_eq_none.mpr (fun y hy h0 => hz y hy (by simpa [zR] using h0))
    rw [tbE, hf]
  · have hb := g3 x hx
    refine Or.inr ⟨x.2.1, x.2.2, e, hb.2.1, hb.2.2, ?_⟩
    have hf : (rcN K V F S n (sor q)).find? zR = some x := by
      cases hf : (rcN K V F S n (sor q)).find? zR with
      | none => exact absurd (List.find?_eq_none.mp hf x hx) (by simp [zR, hx0])
      | some y =>
        have hy := List.mem_of_find?_eq_some hf
        have hy0 : y.1 = 0 := by simpa [zR] using List.find?_some hf
        obtain ⟨i, hi⟩ := List.mem_iff_getElem?.mp hx
        obtain ⟨j, hj⟩ := List.mem_iff_getElem?.mp hy
        have := g6 i j x y hi hj (by rw [hx0, hy0])
        subst this
        rw [hi] at hj; cases hj; rfl
    rw [tbE, hf]
/-- what the run over the rows keeps -/
def TRI (K V F S : Nat → Nat) (len : Nat) (u : Nat → Nat) (n R how : Nat) (lo : Bool) (sor : Nat → Nat) (fr : Nat) (X : Option (Nat × Sv)) (tk : Nat) (p q : Nat) (sv be : Sv) (best : Option (Nat × Sv)) (tk9 : Nat) : Prop :=
  fr ≤ p ∧ p ≤ len + 1 ∧ q < R ∧ Nm sv ∧ be = beS best ∧ BeOk best ∧ tbN K V F len u how lo (rcN K V F S n) (len + 1 - p) p (sor q) sv best = X ∧ tk9 + fr ≤ tk + p
variable {X : Option (Nat × Sv)} {fr tk tk9 : Nat} {be : Sv}
theorem TRI_0 (h : TbOk K V F S n b R sor aC eC) (hfr : fr ≤ len) : TRI K V F S len u n R how lo sor fr (tbN K V F len u how lo (rcN K V F S n) (len + 1 - fr) fr b (svB fr) none) tk fr 0 (svB fr) (fun _ => -1) none tk :=
  ⟨Nat.le_refl _, by omega, h.1, Nm_upd (fun _ _ => rfl) (by decide), rfl, (fun x hx => by cases hx), by rw [h.2.2.1], by omega⟩
theorem TRI_out (h : TRI K V F S len u n R how lo sor fr X tk p q sv be best tk9) (hp : len < p) : be = beS X ∧ BeOk X ∧ tk9 ≤ tk + len + 1 := by
  obtain ⟨h1, h2, h3, h4, h5, h6, h7, h8⟩ := h
  rw [show len + 1 - p = 0 by omega, tbN] at h7
  subst h7
  exact ⟨h5, h6, by omega⟩
theorem TRI_none (h : TRI K V F S len u n R how lo sor fr X tk p q sv be best tk9) (hp : p ≤ len) (hf : (rcN K V F S n (sor q)).find? (fun x => takB K V len u x.1 p) = none) : (tbE len u how p (rcN K V F S n (sor q)) sv best).2 = X := by
  rw [← h.2.2.2.2.2.2.1, show len + 1 - p = (len + 1 - (p + 1)) + 1 by omega, tbN, hf]
theorem TRI_some {x : Rc} (h : TRI K V F S len u n R how lo sor fr X tk p q sv be best tk9) (hp : p ≤ len) (hf : (rcN K V F S n (sor q)).find? (fun x => takB K V len u x.1 p) = some x) : (if ((tbE len u how p (rcN K V F S n (sor q)) sv best).1 && (!lo && behB (rcN K V F S n (sor q)) x)) = true then (tbE len u how p (rcN K V F S n (sor q)) sv best).2
      else if hoB len u p x.2.2 = true then tbN K V F len u how lo (rcN K V F S n) (len + 1 - (p + 1)) (p + 1) (F x.1) (svS p x.2.1 sv) (tbE len u how p (rcN K V F S n (sor q)) sv best).2 else (tbE len u how p (rcN K V F S n (sor q)) sv best).2) = X := by
  rw [← h.2.2.2.2.2.2.1, show len + 1 - p = (len + 1 - (p + 1)) + 1 by omega, tbN, hf]
/-- what endHere leaves -/
def EH (K V F S : Nat → Nat) (len : Nat) (u : Nat → Nat) (n how p : Nat) (sor : Nat → Nat) (q : Nat) (sv : Sv) (best : Option (Nat × Sv)) (g : Bool) (best2 : Option (Nat × Sv)) : Prop := tbE len u how p (rcN K V F S n (sor q)) sv best = (g, best2) ∧ BeOk best2
theorem TRI_ret1 (h : TRI K V F S len u n R how lo sor fr X tk p q sv be best tk9) (hp : p ≤ len) {g : Bool} {best2 : Option (Nat × Sv)} (hE : EH K V F S len u n how p sor q sv best g best2) (hf : (rcN K V F S n (sor q)).find? (fun x => takB K V len u x.1 p) = none) : beS best2 = beS X ∧ BeOk X ∧ tk9 + 1 ≤ tk + len + 1 := by
  have e := TRI_none h hp hf
  rw [hE.1] at e
  subst e
  exact ⟨rfl, hE.2, by have := h.1; have := h.2.2.2.2.2.2.2; omega⟩
theorem TRI_ret2 {x : Rc} (h : TRI K V F S len u n R how lo sor fr X tk p q sv be best tk9) (hp : p ≤ len) {g : Bool} {best2 : Option (Nat × Sv)} (hE : EH K V F S len u n how p sor q sv best g best2) (hf : (rcN K V F S n (sor q)).find? (fun x => takB K V len u x.1 p) = some x) (hc : (g = true ∧ lo = false ∧ behB (rcN K V F S n (sor q)) x = true) ∨ (¬ (g = true ∧ lo = false ∧ behB (rcN K V F S n (sor q)) x = true) ∧ ¬ hoB len u p x.2.2 = true)) : beS best2 = beS X ∧ BeOk X ∧ tk9 + 1 ≤ tk + len + 1 := by
  have e := TRI_some h hp hf
  rw [hE.1] at e
  have e2 : best2 = X := by
    rcases hc with ⟨h1, h2, h3⟩ | ⟨h1, h2⟩
    · rw [if_pos (by rw [h1, h2, h3]; rfl)] at e; exact e
    · by_cases hq : (g && (!lo && behB (rcN K V F S n (sor q)) x)) = true
      · rw [if_pos hq] at e; exact e
      · rw [if_neg hq, if_neg h2] at e; exact e
  subst e2
  exact ⟨rfl, hE.2, by have := h.1; have := h.2.2.2.2.2.2.2; omega⟩
theorem TRI_go {x : Rc} {i : Nat} (h : TRI K V F S len u n R how lo sor fr X tk p q sv be best tk9) (hp : p ≤ len) {g : Bool} {best2 : Option (Nat × Sv)} (hE : EH K V F S len u n how p sor q sv best g best2) (hf : (rcN K V F S n (sor q)).find? (fun x => takB K V len u x.1 p) = some x) (hc : ¬ (g = true ∧ lo = false ∧ behB (rcN K V F S n (sor q)) x = true)) (hh : hoB len u p x.2.2 = true) (hi : i < R) (hs : sor i = F x.1) (hsv : SvN x.2.1) : TRI K V F S len u n R how lo sor fr X tk (p + 1) i (svK (cdN x.2.1 x.2.2) p sv 20) (beS best2) best2 (tk9 + 1) := by
  have e := TRI_some h hp hf
  rw [hE.1] at e
  have hq : ¬ (g && (!lo && behB (rcN K V F S n (sor q)) x)) = true := by
    intro hq
    simp only [Bool.and_eq_true, Bool.not_eq_true'] at hq
    exact hc hq
  rw [if_neg hq, if_pos hh] at e
  refine ⟨by have := h.1; omega, by omega, hi, Nm_K h.2.2.2.1, rfl, hE.2, ?_, by have := h.2.2.2.2.2.2.2; omega⟩
  rw [hs, svK_S hsv]; exact e
theorem EH_no (hb : BeOk best) (h : RowF K V F S n R sor aC eC q) (he : eC q = -1) : EH K V F S len u n how p sor q sv best false best := by
  rcases tb_end (len := len) (u := u) (how := how) (p := p) (sv := sv) (best := best) h with ⟨_, e⟩ | ⟨s, a, e, h1, h2, _⟩
  · exact ⟨e, hb⟩
  · rw [he] at e; exact absurd e.symm (nI_nm1 (by have := cd_lt h1.1 h2; omega))
theorem EH_some (h : RowF K V F S n R sor aC eC q) (he : eC q ≠ -1) : ∃ s a, eC q = nI (cdN s a) ∧ SvN s ∧ a < 2 ^ 6 ∧ cdN s a < 2 ^ 24 ∧ tbE len u how p (rcN K V F S n (sor q)) sv best = (if (hoB len u p a && mayB len how p) = true then (true, some (p, svS p s sv)) else (false, best)) := by
  rcases tb_end (len := len) (u := u) (how := how) (p := p) (sv := sv) (best := best) h with ⟨e, _⟩ | ⟨s, a, e, h1, h2, h3⟩
  · exact absurd e he
  · exact ⟨s, a, e, h1, h2, cd_lt h1.1 h2, h3⟩
end TB8
