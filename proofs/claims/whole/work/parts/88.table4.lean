/-! The table's run, by the records of one way. -/
section TB4
variable {K V F S : Nat → Nat} {len : Nat} {u : Nat → Nat} {p n b how fr : Nat} {lo : Bool} {sv : Sv}
def zR (x : Rc) : Bool := decide (x.1 = 0)
def tbE (len : Nat) (u : Nat → Nat) (how p : Nat) (R : List Rc) (sv : Sv) (best : Option (Nat × Sv)) : Bool × Option (Nat × Sv) := match R.find? zR with
  | none => (false, best)
  | some x => if (hoB len u p x.2.2 && mayB len how p) = true then (true, some (p, svS p x.2.1 sv)) else (false, best)
/-- not ahead of the END -/
def behB (R : List Rc) (x : Rc) : Bool := !((R.takeWhile (fun y => !zR y)).any (fun y => decide (y.1 = x.1)))
def tbN (K V F : Nat → Nat) (len : Nat) (u : Nat → Nat) (how : Nat) (lo : Bool) (rc : Nat → List Rc) : Nat → Nat → Nat → Sv → Option (Nat × Sv) → Option (Nat × Sv)
  | 0, _, _, _, best => best
  | m + 1, p, r, sv, best => match (rc r).find? (fun x => takB K V len u x.1 p) with
    | none => (tbE len u how p (rc r) sv best).2
    | some x => if ((tbE len u how p (rc r) sv best).1 && (!lo && behB (rc r) x)) = true then (tbE len u how p (rc r) sv best).2
      else if hoB len u p x.2.2 = true then tbN K V F len u how lo rc m (p + 1) (F x.1) (svS p x.2.1 sv) (tbE len u how p (rc r) sv best).2 else (tbE len u how p (rc r) sv best).2
theorem lf_mem {Q : List Rc} {z : Nat × Sv} : z ∈ lfR len u p sv (Q.filter (leafB K)) ↔ ∃ x ∈ Q, leafB K x = true ∧ hoB len u p x.2.2 = true ∧ z = (x.1, svS p x.2.1 sv) := by
  unfold lfR
  rw [List.mem_map]
  constructor
  · rintro ⟨x, hx, rfl⟩
    obtain ⟨h1, h2⟩ := List.mem_filter.mp hx
    obtain ⟨h3, h4⟩ := List.mem_filter.mp h1
    exact ⟨x, h3, h4, h2, rfl⟩
  · rintro ⟨x, h3, h4, h2, rfl⟩
    exact ⟨x, List.mem_filter.mpr ⟨List.mem_filter.mpr ⟨h3, h4⟩, h2⟩, rfl⟩
theorem lf_app {Q Q2 : List Rc} : lfR len u p sv ((Q ++ Q2).filter (leafB K)) = lfR len u p sv (Q.filter (leafB K)) ++ lfR len u p sv (Q2.filter (leafB K)) := by
  unfold lfR; rw [List.filter_append, List.filter_append, List.map_append]
theorem tk_nil {Q : List Rc} (h : ∀ x ∈ Q, takB K V len u x.1 p = true → hoB len u p x.2.2 = false) : tkL K V F len u p (lfR len u p sv (Q.filter (leafB K))) = [] := by
  refine List.filterMap_eq_nil_iff.mpr (fun z hz => ?_)
  obtain ⟨x, h1, -, h3, rfl⟩ := lf_mem.mp hz
  refine if_neg (fun ht => ?_)
  rw [h x h1 ht] at h3; cases h3
theorem tk_mem {Q : List Rc} {x : Rc} (hx : x ∈ Q) (ht : takB K V len u x.1 p = true) (hh : hoB len u p x.2.2 = true) : (F x.1, svS p x.2.1 sv) ∈ tkL K V F len u p (lfR len u p sv (Q.filter (leafB K))) :=
  List.mem_filterMap.mpr ⟨(x.1, svS p x.2.1 sv), lf_mem.mpr ⟨x, hx, by simp [leafB, (takB_K ht).2.1], hh, rfl⟩, if_pos ht⟩
theorem tk_meet {x y : Nat} (hx : takB K V len u x p = true) (hy : takB K V len u y p = true) : meetB (V x) (V y) = true := by
  have h1 := takB_K hx
  have h2 := takB_K hy
  simp only [meetB, Bool.and_eq_true, decide_eq_true_eq]
  omega
/-- all that take the byte are alike -/
theorem cmp_uni {R : List Rc} (hC : Cmp K V F R) (hnd : ∀ (i j : Nat) (x y : Rc), R[i]? = some x → R[j]? = some y → x.1 = y.1 → i = j) {x y : Rc} (hx : x ∈ R) (hy : y ∈ R) (tx : takB K V len u x.1 p = true) (ty : takB K V len u y.1 p = true) : F x.1 = F y.1 ∧ x.2 = y.2 ∧ ∀ as x0 bs, R = as ++ x0 :: bs → x0.1 = 0 → (x ∈ as → y ∈ as) := by
  obtain ⟨i, hi⟩ := List.getElem?_of_mem hx
  obtain ⟨j, hj⟩ := List.getElem?_of_mem hy
  by_cases he : x.1 = y.1
  · have := hnd i j x y hi hj he
    subst this
    cases hi.symm.trans hj
    exact ⟨rfl, rfl, fun _ _ _ _ _ h => h⟩
  · have kx := takB_K tx
    have ky := takB_K ty
    obtain ⟨g1, g2, g3⟩ := hC i j x y hi hj he kx.2.1 (by omega) ky.2.1 (by omega) (tk_meet tx ty)
    refine ⟨g1, g2, fun as x0 bs hR h0 hxa => ?_⟩
    have hE : (R[as.length]?).map (·.1) = some 0 := by rw [hR, List.getElem?_append_right (Nat.le_refl _)]; simp [h0]
    have hs := g3 as.length hE
    obtain ⟨i2, hi2⟩ := List.getElem?_of_mem hxa
    have hl2 : i2 < as.length := (List.getElem?_eq_some_iff.mp hi2).1
    have hi3 : R[i2]? = some x := by rw [hR, List.getElem?_append_left hl2]; exact hi2
    have e1 := hnd i i2 x x hi hi3 rfl
    have hjl : j < as.length := hs.mp (by omega)
    rw [hR, List.getElem?_append_left hjl] at hj
    exact List.mem_of_getElem? hj
end TB4
