/-! The table's run answers as the reference. -/
section TB6
variable {K V F S : Nat → Nat} {len : Nat} {u : Nat → Nat} {p n b how fr : Nat} {lo : Bool} {sv : Sv} {l : List Nat} {rc : Nat → List Rc}
/-- what a table stands on: a record of one way for each of its rows -/
def TbH (K V F S : Nat → Nat) (n : Nat) (l : List Nat) (rc : Nat → List Rc) : Prop := (∀ i, 0 < i → i < n → 1 ≤ K i ∧ K i < 6) ∧ (∀ i, 0 < i → i < n → K i = 4 → V i < 6) ∧ ∀ r ∈ l, r < n ∧ spN K V F S (2 * n + 2) [(r, 0, 0)] [] = some (rc r) ∧ Cmp K V F (rc r) ∧ ∀ x ∈ rc r, K x.1 = 1 → x.1 ≠ 0 → F x.1 ∈ l
theorem svS_0 : svS p 0 sv = sv := by funext j; simp [svS]
theorem hoB_0 : hoB len u p 0 = true := hoB_iff.mpr (fun v _ h => by simp at h)
theorem tb_row (hF : ∀ i, 0 < i → i < n → (K i = 2 ∨ K i = 3 ∨ K i = 4) → F i < n) (hS : ∀ i, 0 < i → i < n → K i = 2 → S i < n) (T : TbH K V F S n l rc) {r M : Nat} (hr : r ∈ l) (hM : 2 * n + 2 ≤ M) : rwN K V F S len u p M [(r, sv)] (fun _ => false) = lfR len u p sv ((rc r).filter (leafB K)) := by
  obtain ⟨hK, h4, hl⟩ := T
  obtain ⟨h1, h2, -, -⟩ := hl r hr
  obtain ⟨tl, e1, e2⟩ := rwN_spN (len := len) (u := u) (p := p) (sv := sv) hF hS hK h4 _ _ _ _ (fun x hx => by rw [List.mem_singleton.mp hx]; exact h1) h2
  have e3 := e2 M (fun _ => false) hM (fun k h => by cases h)
  have e4 : lfR len u p sv [(r, 0, 0)] = [(r, sv)] := by
    rw [lfR_t (by exact hoB_0)]
    show (r, svS p 0 sv) :: [] = _
    rw [svS_0]
  rw [e4] at e3
  rw [e3, e1, List.nil_append]
theorem tb_one (H : PkH K V F S len n b how fr) (T : TbH K V F S n l rc) (hhow : how ≠ 0) {m r : Nat} {st : List (Nat × Sv)} {best : Option (Nat × Sv)} (hr : r ∈ l) (hp : fr ≤ p)
    (hrow : rwN K V F S len u p (2 * n + st.length + 2) (st ++ (if best = none ∧ (how = 0 ∨ p = fr) then [(b, svB p)] else [])) (fun _ => false) = lfR len u p sv ((rc r).filter (leafB K)))
    (ih : ∀ r2 ∈ l, ∀ sv2 best2, pkN K V F S len u n b how lo false fr m (p + 1) [(r2, sv2)] best2 = tbN K V F len u how lo rc m (p + 1) r2 sv2 best2) : pkN K V F S len u n b how lo false fr (m + 1) p st best = tbN K V F len u how lo rc (m + 1) p r sv best := by
  obtain ⟨hF, hS, hF1, hV, hb, hfr, hl⟩ := id H
  obtain ⟨-, -, hrec⟩ := T
  obtain ⟨h1, h2, h3, h4⟩ := hrec r hr
  have hnd := spN_nodup _ _ _ _ (fun i j x y hi => by simp at hi) h2
  have hpw : (lfR len u p sv ((rc r).filter (leafB K))).Pairwise (fun x y => x.1 ≠ y.1) := by rw [← hrow]; exact (rwN_nd _ _ _).1
  obtain ⟨g1, g2, g3⟩ := tb_step (how := how) (lo := lo) (best := best) h3 hnd hpw
  rw [pkN, hrow, g1, tbN]
  cases hf : (rc r).find? (fun x => takB K V len u x.1 p) with
  | none => rw [g2 hf]; exact pk_empty hhow _ _ _ (by omega)
  | some x =>
    obtain ⟨k1, k2, k3⟩ := g3 x hf
    have htx : takB K V len u x.1 p = true := by simpa using List.find?_some hf
    have hxl : F x.1 ∈ l := h4 x (List.mem_of_find?_eq_some hf) (takB_K htx).2.1 (by have := (takB_K htx).1; omega)
    show _ = (if ((tbE len u how p (rc r) sv best).1 && (!lo && behB (rc r) x)) = true then (tbE len u how p (rc r) sv best).2 else if hoB len u p x.2.2 = true then tbN K V F len u how lo rc m (p + 1) (F x.1) (svS p x.2.1 sv) (tbE len u how p (rc r) sv best).2 else (tbE len u how p (rc r) sv best).2)
    by_cases hc : ((tbE len u how p (rc r) sv best).1 && (!lo && behB (rc r) x)) = true
    · rw [if_pos hc, k1 hc]; exact pk_empty hhow _ _ _ (by omega)
    · rw [if_neg hc]
      cases hh : hoB len u p x.2.2 with
      | false => rw [if_neg (by simp), k2 hh]; exact pk_empty hhow _ _ _ (by omega)
      | true =>
        obtain ⟨c, hcc⟩ := k3 hc hh
        rw [if_pos rfl, hcc, pk_rep hF hS hhow (hrec _ hxl).1 (by omega)]
        exact ih _ hxl _ _
theorem tb_pk (H : PkH K V F S len n b how fr) (T : TbH K V F S n l rc) (hhow : how ≠ 0) : ∀ (m p r : Nat) (sv : Sv) (best : Option (Nat × Sv)), fr < p → r ∈ l → pkN K V F S len u n b how lo false fr m p [(r, sv)] best = tbN K V F len u how lo rc m p r sv best := by
  intro m
  induction m with
  | zero => intro p r sv best _ _; rfl
  | succ m ih =>
    intro p r sv best hp hr
    refine tb_one H T hhow hr (by omega) ?_ (fun r2 h2 sv2 best2 => ih (p + 1) r2 sv2 best2 (by omega) h2)
    rw [if_neg (fun h => by rcases h.2 with h | h <;> omega), List.append_nil]
    exact tb_row H.1 H.2.1 T hr (by simp)
/-- the table answers as the reference, where it may -/
theorem tb_ref (H : PkH K V F S len n b how fr) (T : TbH K V F S n l rc) (hhow : how ≠ 0) (hbl : b ∈ l) {r : Option (Nat × Nat × Sv)} (h : RefR K V F S len u n b how lo fr r) : tbN K V F len u how lo rc (len + 1 - fr) fr b (svB fr) none = r.map (fun x => (x.2.1, upd x.2.2 0 (nI x.1))) := by
  have hfr : fr ≤ len := H.2.2.2.2.2.1
  rw [← pk_ref (sk := false) H (Or.inr (Or.inl hhow)) h]
  obtain ⟨m, hm⟩ : ∃ m, len + 1 - fr = m + 1 := ⟨len - fr, by omega⟩
  rw [hm]
  refine (tb_one H T hhow hbl (Nat.le_refl _) ?_ (fun r2 h2 sv2 best2 => tb_pk H T hhow m (fr + 1) r2 sv2 best2 (by omega) h2)).symm
  rw [if_pos ⟨rfl, Or.inr rfl⟩, List.nil_append]
  exact tb_row H.1 H.2.1 T hbl (by simp)
end TB6
