/-! The table's run answers as the rows of threads. -/
section TB5
variable {K V F S : Nat → Nat} {len : Nat} {u : Nat → Nat} {p n b how fr : Nat} {lo : Bool} {sv : Sv}
theorem tw_all {R : List (Nat × Sv)} (h : ∀ x ∈ R, x.1 ≠ 0) : R.takeWhile notE = R := by
  induction R with
  | nil => rfl
  | cons x r ih =>
    rw [List.takeWhile_cons_of_pos (by simp [notE, h x List.mem_cons_self]), ih (fun y hy => h y (List.mem_cons_of_mem _ hy))]
theorem tw_cut {A B : List (Nat × Sv)} {z : Nat × Sv} (h : ∀ x ∈ A, x.1 ≠ 0) (hz : z.1 = 0) : (A ++ z :: B).takeWhile notE = A := by
  induction A with
  | nil => rw [List.nil_append, List.takeWhile_cons_of_neg (by simp [notE, hz])]
  | cons x r ih =>
    rw [List.cons_append, List.takeWhile_cons_of_pos (by simp [notE, h x List.mem_cons_self]), ih (fun y hy => h y (List.mem_cons_of_mem _ hy))]
theorem tw_rc {as bs : List Rc} {x0 : Rc} (h : ∀ x ∈ as, x.1 ≠ 0) (hz : x0.1 = 0) : (as ++ x0 :: bs).takeWhile (fun y => !zR y) = as := by
  induction as with
  | nil => rw [List.nil_append, List.takeWhile_cons_of_neg (by simp [zR, hz])]
  | cons x r ih =>
    rw [List.cons_append, List.takeWhile_cons_of_pos (by simp [zR, h x List.mem_cons_self]), ih (fun y hy => h y (List.mem_cons_of_mem _ hy))]
theorem tb_step {R : List Rc} {best : Option (Nat × Sv)} (hC : Cmp K V F R) (hnd : ∀ (i j : Nat) (x y : Rc), R[i]? = some x → R[j]? = some y → x.1 = y.1 → i = j) (hpw : (lfR len u p sv (R.filter (leafB K))).Pairwise (fun x y => x.1 ≠ y.1)) :
    (gbN K V F len u how lo false p (lfR len u p sv (R.filter (leafB K))) best).1 = (tbE len u how p R sv best).2 ∧
    (R.find? (fun x => takB K V len u x.1 p) = none → (gbN K V F len u how lo false p (lfR len u p sv (R.filter (leafB K))) best).2 = []) ∧
    ∀ x, R.find? (fun x => takB K V len u x.1 p) = some x →
      (((tbE len u how p R sv best).1 && (!lo && behB R x)) = true → (gbN K V F len u how lo false p (lfR len u p sv (R.filter (leafB K))) best).2 = []) ∧
      (hoB len u p x.2.2 = false → (gbN K V F len u how lo false p (lfR len u p sv (R.filter (leafB K))) best).2 = []) ∧
      (¬ ((tbE len u how p R sv best).1 && (!lo && behB R x)) = true → hoB len u p x.2.2 = true → ∃ c, (gbN K V F len u how lo false p (lfR len u p sv (R.filter (leafB K))) best).2 = List.replicate (c + 1) (F x.1, svS p x.2.1 sv)) := by
  have same : ∀ x y : Rc, x ∈ R → y ∈ R → x.1 = y.1 → x = y := by
    intro x y hx hy he
    obtain ⟨i, hi⟩ := List.getElem?_of_mem hx
    obtain ⟨j, hj⟩ := List.getElem?_of_mem hy
    have := hnd i j x y hi hj he
    subst this
    exact Option.some.inj (hi.symm.trans hj)
  have sub : ∀ z ∈ (if lo = false ∧ mayB len how p = true then (lfR len u p sv (R.filter (leafB K))).takeWhile notE else lfR len u p sv (R.filter (leafB K))), z ∈ lfR len u p sv (R.filter (leafB K)) := by
    intro z hz
    split at hz
    · exact (List.takeWhile_sublist _).subset hz
    · exact hz
  -- the END in the record
  have hE : (R.find? zR = none ∧ ∀ x ∈ R, x.1 ≠ 0) ∨ ∃ x0 as bs, R.find? zR = some x0 ∧ R = as ++ x0 :: bs ∧ x0.1 = 0 ∧ (∀ x ∈ as, x.1 ≠ 0) := by
    cases h : R.find? zR with
    | none => exact Or.inl ⟨rfl, fun x hx => by simpa [zR] using List.find?_eq_none.mp h x hx⟩
    | some x0 =>
      obtain ⟨h1, as, bs, h2, h3⟩ := List.find?_eq_some_iff_append.mp h
      exact Or.inr ⟨x0, as, bs, rfl, h2, by simpa [zR] using h1, fun x hx => by simpa [zR] using h3 x hx⟩
  have noE : ∀ {Q : List Rc}, (∀ x ∈ Q, hoB len u p x.2.2 = true → x.1 ≠ 0) → ∀ z ∈ lfR len u p sv (Q.filter (leafB K)), z.1 ≠ 0 := by
    intro Q h z hz
    obtain ⟨x, h1, -, h3, rfl⟩ := lf_mem.mp hz
    exact h x h1 h3
  have cut : ∀ x0 as bs, R = as ++ x0 :: bs → x0.1 = 0 → hoB len u p x0.2.2 = true → lfR len u p sv (R.filter (leafB K)) = lfR len u p sv (as.filter (leafB K)) ++ (x0.1, svS p x0.2.1 sv) :: lfR len u p sv (bs.filter (leafB K)) := by
    intro x0 as bs hR h0 hh
    rw [hR, lf_app, List.filter_cons_of_pos (by simp [leafB, h0]), lfR_t hh]
  refine ⟨?_, fun hno => ?_, fun x hx => ⟨fun hc => ?_, fun hh => ?_, fun hc hh => ?_⟩⟩
  · rw [gb_best _ _ hpw, tbE]
    rcases hE with ⟨h1, h2⟩ | ⟨x0, as, bs, h1, h2, h3, h4⟩
    · have : (lfR len u p sv (R.filter (leafB K))).find? (fun x => decide (x.1 = 0)) = none := List.find?_eq_none.mpr (fun z hz => by simpa using noE (fun x hx _ => h2 x hx) z hz)
      rw [this, h1]
    · rw [h1]
      cases hh : hoB len u p x0.2.2 with
      | true =>
        have : (lfR len u p sv (R.filter (leafB K))).find? (fun x => decide (x.1 = 0)) = some (x0.1, svS p x0.2.1 sv) := by
          rw [cut x0 as bs h2 h3 hh, List.find?_append, List.find?_eq_none.mpr (fun z hz => by simpa using noE (fun x hx _ => h4 x hx) z hz)]
          simp [h3]
        rw [this]
        by_cases hm : mayB len how p = true <;> simp [hh, hm]
      | false =>
        have : (lfR len u p sv (R.filter (leafB K))).find? (fun x => decide (x.1 = 0)) = none := List.find?_eq_none.mpr (fun z hz => by
          have := noE (Q := R) (fun x hx hx2 h0 => by
            have := same x x0 hx (by rw [h2]; simp) (h0.trans h3.symm)
            rw [this, hh] at hx2; cases hx2) z hz
          simpa using this)
        rw [this]
        simp [hh]
  · rw [gb_tk]
    refine List.filterMap_eq_nil_iff.mpr (fun z hz => if_neg (fun ht => ?_))
    obtain ⟨y, h1, -, -, rfl⟩ := lf_mem.mp (sub z hz)
    exact absurd ht (by simpa using List.find?_eq_none.mp hno y h1)
  · have htx : takB K V len u x.1 p = true := by simpa using List.find?_some hx
    have hxR := List.mem_of_find?_eq_some hx
    simp only [Bool.and_eq_true, Bool.not_eq_true'] at hc
    obtain ⟨hc1, hlo, hbeh⟩ := hc
    rcases hE with ⟨h1, h2⟩ | ⟨x0, as, bs, h1, h2, h3, h4⟩
    · rw [tbE, h1] at hc1; cases hc1
    · rw [tbE, h1] at hc1
      by_cases hq : (hoB len u p x0.2.2 && mayB len how p) = true
      · have hq2 : hoB len u p x0.2.2 = true ∧ mayB len how p = true := by simpa using hq
        rw [gb_tk, if_pos ⟨hlo, hq2.2⟩, cut x0 as bs h2 h3 hq2.1, tw_cut (noE (fun x hx _ => h4 x hx)) h3]
        refine tk_nil (fun y hy ty => ?_)
        have hxa := (cmp_uni hC hnd (show y ∈ R by rw [h2]; simp [hy]) hxR ty htx).2.2 as x0 bs h2 h3 hy
        have hb2 : behB R x = false := by
          rw [behB, h2, tw_rc h4 h3]
          simp only [Bool.not_eq_false', List.any_eq_true, decide_eq_true_eq]
          exact ⟨x, hxa, rfl⟩
        rw [hb2] at hbeh; cases hbeh
      · simp [hq] at hc1
  · have htx : takB K V len u x.1 p = true := by simpa using List.find?_some hx
    have hxR := List.mem_of_find?_eq_some hx
    rw [gb_tk]
    refine List.filterMap_eq_nil_iff.mpr (fun z hz => if_neg (fun ht => ?_))
    obtain ⟨y, h1, -, h3, rfl⟩ := lf_mem.mp (sub z hz)
    have := (cmp_uni hC hnd h1 hxR ht htx).2.1
    rw [this, hh] at h3; cases h3
  · have htx : takB K V len u x.1 p = true := by simpa using List.find?_some hx
    have hxR := List.mem_of_find?_eq_some hx
    obtain ⟨c, hcc⟩ := gb_uni (K := K) (V := V) (F := F) (len := len) (u := u) (p := p) (how := how) (lo := lo) (sk := false) (y := (F x.1, svS p x.2.1 sv)) (lfR len u p sv (R.filter (leafB K))) best (fun z hz _ ht => by
      obtain ⟨y, h1, -, h3, rfl⟩ := lf_mem.mp hz
      obtain ⟨g1, g2, -⟩ := cmp_uni hC hnd h1 hxR ht htx
      show (F y.1, svS p y.2.1 sv) = _
      rw [g1, g2])
    have hmem : (F x.1, svS p x.2.1 sv) ∈ (gbN K V F len u how lo false p (lfR len u p sv (R.filter (leafB K))) best).2 := by
      rw [gb_tk]
      split
      · rename_i hlm
        rcases hE with ⟨h1, h2⟩ | ⟨x0, as, bs, h1, h2, h3, h4⟩
        · rw [tw_all (noE (fun x hx _ => h2 x hx))]
          exact tk_mem hxR htx hh
        · cases hh0 : hoB len u p x0.2.2 with
          | false =>
            rw [tw_all (noE (fun y hy hy2 h0 => by
              have := same y x0 hy (by rw [h2]; simp) (h0.trans h3.symm)
              rw [this, hh0] at hy2; cases hy2))]
            exact tk_mem hxR htx hh
          | true =>
            rw [cut x0 as bs h2 h3 hh0, tw_cut (noE (fun x hx _ => h4 x hx)) h3]
            have hE1 : (tbE len u how p R sv best).1 = true := by rw [tbE, h1]; simp [hh0, hlm.2]
            have hb2 : behB R x = false := by
              cases hq : behB R x with
              | false => rfl
              | true => exact absurd (by rw [hE1, hlm.1, hq]; rfl) hc
            rw [behB, h2, tw_rc h4 h3] at hb2
            simp only [Bool.not_eq_false', List.any_eq_true, decide_eq_true_eq] at hb2
            obtain ⟨y, hy, hye⟩ := hb2
            have := same y x (by rw [h2]; simp [hy]) hxR hye
            rw [this] at hy
            exact tk_mem hy htx hh
      · exact tk_mem hxR htx hh
    cases c with
    | zero => rw [hcc] at hmem; cases hmem
    | succ c => exact ⟨c, hcc⟩
end TB5
