/-! Rows of steps alone, without what is saved: the END's place is the same. -/
section KS
variable {K V F S : Nat → Nat} {len : Nat} {u : Nat → Nat} {p n b how fr : Nat} {lo : Bool}
def pkS (K F S : Nat → Nat) (k : Nat) (r : List Nat) : List Nat := F k :: (if K k = 2 then S k :: r else r)
def rkN (K V F S : Nat → Nat) (len : Nat) (u : Nat → Nat) (p : Nat) : Nat → List Nat → (Nat → Bool) → List Nat
  | 0, _, _ => []
  | _ + 1, [], _ => []
  | m + 1, k :: r, seen =>
    if seen k = true then rkN K V F S len u p m r seen
    else if k = 0 ∨ K k = 1 then k :: rkN K V F S len u p m r (ub seen k true)
    else if pasB K V len u k p = true then rkN K V F S len u p m (pkS K F S k r) (ub seen k true)
    else rkN K V F S len u p m r (ub seen k true)
theorem rkN_rwN : ∀ (m : Nat) (st : List (Nat × Sv)) (s : Nat → Bool), (rwN K V F S len u p m st s).map Prod.fst = rkN K V F S len u p m (st.map Prod.fst) s := by
  intro m
  induction m with
  | zero => intro st s; rfl
  | succ m ih =>
    intro st s
    match st with
    | [] => rfl
    | (k, sv) :: r =>
      have e : (psh K F S k (svk K V p k sv) r).map Prod.fst = pkS K F S k (r.map Prod.fst) := by unfold psh pkS; split <;> rfl
      rw [List.map_cons, rwN, rkN]
      split
      · exact ih _ _
      · split
        · rw [List.map_cons, ih]
        · split
          · rw [ih, e]
          · exact ih _ _
/-- over one byte: whether the END was come to, and who goes on -/
def gkN (K V F : Nat → Nat) (len : Nat) (u : Nat → Nat) (how : Nat) (lo : Bool) (p : Nat) : List Nat → Bool × List Nat
  | [] => (false, [])
  | k :: r =>
    if k = 0 then (if mayB len how p = true then (if lo = true then (true, (gkN K V F len u how lo p r).2) else (true, [])) else gkN K V F len u how lo p r)
    else if takB K V len u k p = true then ((gkN K V F len u how lo p r).1, F k :: (gkN K V F len u how lo p r).2)
    else gkN K V F len u how lo p r
theorem gkN_gbN : ∀ (R : List (Nat × Sv)) (best : Option (Nat × Sv)), (gbN K V F len u how lo false p R best).1.map Prod.fst = (if (gkN K V F len u how lo p (R.map Prod.fst)).1 = true then some p else best.map Prod.fst) ∧ (gbN K V F len u how lo false p R best).2.map Prod.fst = (gkN K V F len u how lo p (R.map Prod.fst)).2 := by
  intro R
  induction R with
  | nil => intro best; exact ⟨rfl, rfl⟩
  | cons x r ih =>
    obtain ⟨k, sv⟩ := x
    intro best
    rw [List.map_cons, gbN, gkN]
    rw [if_neg (by simp : ¬ (false && skB best sv) = true)]
    split
    · split
      · split
        · obtain ⟨h1, h2⟩ := ih (some (p, sv))
          refine ⟨?_, h2⟩
          rw [h1]
          split <;> rfl
        · exact ⟨rfl, rfl⟩
      · exact ih best
    · split
      · obtain ⟨h1, h2⟩ := ih best
        refine ⟨h1, ?_⟩
        rw [List.map_cons, h2]
      · exact ih best
def ksN (K V F S : Nat → Nat) (len : Nat) (u : Nat → Nat) (n b how : Nat) (lo : Bool) (fr : Nat) : Nat → Nat → List Nat → Option Nat → Option Nat
  | 0, _, _, best => best
  | m + 1, p, st, best =>
    ksN K V F S len u n b how lo fr m (p + 1) (gkN K V F len u how lo p (rkN K V F S len u p (2 * n + st.length + 2) (st ++ (if best = none ∧ (how = 0 ∨ p = fr) then [b] else [])) (fun _ => false))).2
      (if (gkN K V F len u how lo p (rkN K V F S len u p (2 * n + st.length + 2) (st ++ (if best = none ∧ (how = 0 ∨ p = fr) then [b] else [])) (fun _ => false))).1 = true then some p else best)
theorem ksN_pkN : ∀ (m p : Nat) (st : List (Nat × Sv)) (best : Option (Nat × Sv)), (pkN K V F S len u n b how lo false fr m p st best).map Prod.fst = ksN K V F S len u n b how lo fr m p (st.map Prod.fst) (best.map Prod.fst) := by
  intro m
  induction m with
  | zero => intro p st best; rfl
  | succ m ih =>
    intro p st best
    have hb : (best.map Prod.fst = none) ↔ best = none := by cases best <;> simp
    have e : (st ++ (if best = none ∧ (how = 0 ∨ p = fr) then [(b, svB p)] else [])).map Prod.fst = st.map Prod.fst ++ (if best.map Prod.fst = none ∧ (how = 0 ∨ p = fr) then [b] else []) := by
      rw [List.map_append]
      by_cases h : best = none ∧ (how = 0 ∨ p = fr)
      · rw [if_pos h, if_pos ⟨hb.mpr h.1, h.2⟩]; rfl
      · rw [if_neg h, if_neg (fun z => h ⟨hb.mp z.1, z.2⟩)]; rfl
    have hl : (st.map Prod.fst).length = st.length := List.length_map _
    obtain ⟨g1, g2⟩ := gkN_gbN (K := K) (V := V) (F := F) (u := u) (lo := lo) (p := p) (len := len) (how := how) (rwN K V F S len u p (2 * n + st.length + 2) (st ++ (if best = none ∧ (how = 0 ∨ p = fr) then [(b, svB p)] else [])) (fun _ => false)) best
    rw [rkN_rwN, e] at g1 g2
    rw [pkN, ksN, ih, g1, g2, hl]
/-- the steps alone come to the reference's END -/
theorem ks_ref (H : PkH K V F S len n b how fr) (hsk : how ≠ 0 ∨ lo = false) {r : Option (Nat × Nat × Sv)} (h : RefR K V F S len u n b how lo fr r) : ksN K V F S len u n b how lo fr (len + 1 - fr) fr [] none = r.map (fun x => x.2.1) := by
  have h1 := ksN_pkN (K := K) (V := V) (F := F) (S := S) (len := len) (u := u) (n := n) (b := b) (how := how) (lo := lo) (fr := fr) (len + 1 - fr) fr [] none
  rw [pk_ref H (Or.inr hsk) h] at h1
  have h2 : ksN K V F S len u n b how lo fr (len + 1 - fr) fr [] none = (r.map (fun x => (x.2.1, upd x.2.2 0 (nI x.1)))).map Prod.fst := h1.symm
  rw [h2]
  cases r <;> rfl
end KS
