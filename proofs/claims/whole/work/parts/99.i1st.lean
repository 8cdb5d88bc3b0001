/-! States of the class: steps alone, each but once. -/
def z0 : Sv := fun _ => -1
def lz (L : List Nat) : List (Nat × Sv) := L.map (fun k => (k, z0))
section ST1
variable {K V F S kC vC fC sC : Nat → Nat} {len : Nat} {u : Nat → Nat} {p n how : Nat} {lo : Bool}
theorem lz_fst (L : List Nat) : (lz L).map Prod.fst = L := by simp [lz, List.map_map, Function.comp_def]
theorem lz_len (L : List Nat) : (lz L).length = L.length := by simp [lz]
theorem lz_lt {L : List Nat} (h : ∀ x ∈ L, x < n) : ∀ x ∈ lz L, x.1 < n := by
  intro x hx
  obtain ⟨k, hk, rfl⟩ := List.mem_map.mp hx
  exact h k hk
theorem mkN_fst : ∀ (m : Nat) (st st2 : List (Nat × Sv)) (s : Nat → Bool), st.map Prod.fst = st2.map Prod.fst → mkN K V F S len u p m st s = mkN K V F S len u p m st2 s := by
  intro m
  induction m with
  | zero => intro st st2 s _; rfl
  | succ m ih =>
    intro st st2 s h
    match st, st2, h with
    | [], [], _ => rfl
    | (k, sv) :: r, (k2, sv2) :: r2, h =>
      simp only [List.map_cons, List.cons.injEq] at h
      obtain ⟨h1, h2⟩ := h
      subst h1
      rw [mkN, mkN]
      have e : (psh K F S k (svk K V p k sv) r).map Prod.fst = (psh K F S k (svk K V p k sv2) r2).map Prod.fst := by
        unfold psh; split <;> simp [h2]
      rw [ih r r2 _ h2, ih r r2 _ h2, ih _ _ _ e]
def rkF (K V F S : Nat → Nat) (len : Nat) (u : Nat → Nat) (p n : Nat) (L : List Nat) (s : Nat → Bool) : List Nat := (rwF K V F S len u p n (lz L) s).map Prod.fst
def mkG (K V F S : Nat → Nat) (len : Nat) (u : Nat → Nat) (p n : Nat) (L : List Nat) (s : Nat → Bool) : Nat → Bool := mkF K V F S len u p n (lz L) s
theorem rw_lz {st : List (Nat × Sv)} {s : Nat → Bool} : (rwF K V F S len u p n st s).map Prod.fst = rkF K V F S len u p n (st.map Prod.fst) s ∧ mkF K V F S len u p n st s = mkG K V F S len u p n (st.map Prod.fst) s := by
  constructor
  · unfold rkF rwF
    rw [rkN_rwN, rkN_rwN, lz_fst, lz_len, List.length_map]
  · unfold mkG mkF
    rw [lz_len, List.length_map]
    exact mkN_fst _ _ _ _ (lz_fst _).symm
theorem rkF_eq (H : FS K F S n) {L : List Nat} (hL : ∀ x ∈ L, x < n) {s : Nat → Bool} {m : Nat} (hm : 2 * cnF n s + L.length < m) : rkN K V F S len u p m L s = rkF K V F S len u p n L s := by
  have h := (rwF_any (V := V) (len := len) (u := u) (p := p) (s := s) H (lz_lt hL) m (by rw [lz_len]; exact hm)).1
  rw [rkF, ← h, rkN_rwN, lz_fst]
theorem rkF_nil {s : Nat → Bool} : rkF K V F S len u p n [] s = [] ∧ mkG K V F S len u p n [] s = s := ⟨rfl, rfl⟩
theorem rkF_seen (H : FS K F S n) {k : Nat} {r : List Nat} {s : Nat → Bool} (hk : k < n) (hr : ∀ x ∈ r, x < n) (hs : s k = true) : rkF K V F S len u p n (k :: r) s = rkF K V F S len u p n r s ∧ mkG K V F S len u p n (k :: r) s = mkG K V F S len u p n r s := by
  have h := rwF_seen (V := V) (len := len) (u := u) (p := p) (sv := z0) H hk (lz_lt hr) hs
  exact ⟨congrArg (List.map Prod.fst) h.1, h.2⟩
theorem rkF_leaf (H : FS K F S n) {k : Nat} {r : List Nat} {s : Nat → Bool} (hk : k < n) (hr : ∀ x ∈ r, x < n) (hs : s k = false) (h1 : k = 0 ∨ K k = 1) : rkF K V F S len u p n (k :: r) s = k :: rkF K V F S len u p n r (ub s k true) ∧ mkG K V F S len u p n (k :: r) s = mkG K V F S len u p n r (ub s k true) := by
  have h := rwF_leaf (V := V) (len := len) (u := u) (p := p) (sv := z0) H hk (lz_lt hr) hs h1
  exact ⟨congrArg (List.map Prod.fst) h.1, h.2⟩
theorem rkF_pass (H : FS K F S n) {k : Nat} {r : List Nat} {s : Nat → Bool} (hk : k < n) (hr : ∀ x ∈ r, x < n) (hs : s k = false) (hp : pasB K V len u k p = true) : rkF K V F S len u p n (k :: r) s = rkF K V F S len u p n (pkS K F S k r) (ub s k true) ∧ mkG K V F S len u p n (k :: r) s = mkG K V F S len u p n (pkS K F S k r) (ub s k true) := by
  have h := rwF_pass (V := V) (len := len) (u := u) (p := p) (sv := z0) H hk (lz_lt hr) hs hp
  have e : (psh K F S k (svk K V p k z0) (lz r)).map Prod.fst = pkS K F S k r := by
    unfold psh pkS; split <;> simp [lz_fst]
  have h2 := rw_lz (K := K) (V := V) (F := F) (S := S) (len := len) (u := u) (p := p) (n := n) (st := psh K F S k (svk K V p k z0) (lz r)) (s := ub s k true)
  rw [e] at h2
  exact ⟨(congrArg (List.map Prod.fst) h.1).trans h2.1, h.2.trans h2.2⟩
theorem rkF_stop (H : FS K F S n) {k : Nat} {r : List Nat} {s : Nat → Bool} (hk : k < n) (hr : ∀ x ∈ r, x < n) (hs : s k = false) (h1 : ¬ (k = 0 ∨ K k = 1)) (hp : ¬ pasB K V len u k p = true) : rkF K V F S len u p n (k :: r) s = rkF K V F S len u p n r (ub s k true) ∧ mkG K V F S len u p n (k :: r) s = mkG K V F S len u p n r (ub s k true) := by
  have h := rwF_stop (V := V) (len := len) (u := u) (p := p) (sv := z0) H hk (lz_lt hr) hs h1 hp
  exact ⟨congrArg (List.map Prod.fst) h.1, h.2⟩
theorem rkF_app (H : FS K F S n) {L q : List Nat} {s : Nat → Bool} (hl : ∀ x ∈ L, x < n) (hq : ∀ x ∈ q, x < n) : rkF K V F S len u p n (L ++ q) s = rkF K V F S len u p n L s ++ rkF K V F S len u p n q (mkG K V F S len u p n L s) ∧ mkG K V F S len u p n (L ++ q) s = mkG K V F S len u p n q (mkG K V F S len u p n L s) := by
  have h := rwF_app (V := V) (len := len) (u := u) (p := p) (s := s) H (lz_lt hl) (lz_lt hq)
  have e : lz (L ++ q) = lz L ++ lz q := by simp [lz]
  refine ⟨?_, ?_⟩
  · rw [rkF, e, h.1, List.map_append]; rfl
  · rw [mkG, e, h.2]; rfl
theorem gk_app : ∀ (R1 R2 : List Nat), gkN K V F len u how lo p (R1 ++ R2) = if ((gkN K V F len u how lo p R1).1 && !lo) = true then gkN K V F len u how lo p R1 else ((gkN K V F len u how lo p R1).1 || (gkN K V F len u how lo p R2).1, (gkN K V F len u how lo p R1).2 ++ (gkN K V F len u how lo p R2).2) := by
  intro R1 R2
  induction R1 with
  | nil => simp [gkN]
  | cons k r ih =>
    rw [List.cons_append, gkN, gkN]
    by_cases h0 : k = 0
    · rw [if_pos h0, if_pos h0]
      by_cases hm : mayB len how p = true
      · rw [if_pos hm, if_pos hm]
        by_cases hl : lo = true
        · rw [if_pos hl, if_pos hl, ih, if_neg (by simp [hl]), if_neg (by simp [hl])]; simp
        · have hl2 : lo = false := by simpa using hl
          rw [if_neg hl, if_neg hl, if_pos (by simp [hl2])]
      · rw [if_neg hm, if_neg hm]; exact ih
    · rw [if_neg h0, if_neg h0]
      by_cases ht : takB K V len u k p = true
      · rw [if_pos ht, if_pos ht, ih]
        by_cases hc : ((gkN K V F len u how lo p r).1 && !lo) = true
        · rw [if_pos hc, if_pos hc]
        · rw [if_neg hc, if_neg hc]; simp
      · rw [if_neg ht, if_neg ht]; exact ih
def addA (O T : List Nat) : List Nat := T.foldl addL O
theorem addA_nil (O : List Nat) : addA O [] = O := rfl
theorem addA_cons (O : List Nat) (k : Nat) (T : List Nat) : addA O (k :: T) = addA (addL O k) T := rfl
theorem addA_app (O T1 T2 : List Nat) : addA O (T1 ++ T2) = addA (addA O T1) T2 := List.foldl_append
/-- the steps that wait, each but once -/
def OnI (n : Nat) (O : List Nat) (ct : Nat) (st me : Nat → Nat) (tu : Nat) : Prop := stl st ct = O ∧ O.Nodup ∧ (∀ x ∈ O, x < n) ∧ (∀ k, k < n → (me k = tu ↔ k ∈ O)) ∧ ∀ k, me k ≤ tu
theorem OnI_0 {st me : Nat → Nat} {tu : Nat} (h : ∀ k, me k ≤ tu) : OnI n [] 0 st me (tu + 1) :=
  ⟨rfl, List.nodup_nil, (fun x hx => by cases hx), fun k _ => ⟨fun e => by have := h k; omega, (fun hx => by cases hx)⟩, fun k => by have := h k; omega⟩
theorem OnI_len {O : List Nat} {ct tu : Nat} {st me : Nat → Nat} (h : OnI n O ct st me tu) : ct = O.length ∧ ct ≤ n := by
  have e : O.length = ct := by rw [← h.1]; exact stl_len
  exact ⟨e.symm, by rw [← e]; exact nodup_lt h.2.1 h.2.2.1⟩
theorem OnI_old {O : List Nat} {ct tu k : Nat} {st me : Nat → Nat} (h : OnI n O ct st me tu) (hk : k < n) (hm : me k = tu) : OnI n (addL O k) ct st me tu := by
  rw [addL_in ((h.2.2.2.1 k hk).mp hm)]; exact h
theorem OnI_new {O : List Nat} {ct tu k : Nat} {st me : Nat → Nat} (h : OnI n O ct st me tu) (hk : k < n) (hm : me k ≠ tu) : OnI n (addL O k) (ct + 1) (un st ct k) (un me k tu) tu ∧ ct < n := by
  obtain ⟨h1, h2, h3, h4, h5⟩ := h
  have hn : k ∉ O := fun hx => hm ((h4 k hk).mpr hx)
  have e : addL O k = O ++ [k] := by rw [addL, if_neg hn]
  have hnd : (addL O k).Nodup := addL_nodup h2
  have hlt : ∀ x ∈ addL O k, x < n := by
    intro x hx
    rcases addL_mem.mp hx with hx | hx
    · exact h3 x hx
    · rw [hx]; exact hk
  refine ⟨⟨?_, hnd, hlt, fun j hj => ?_, fun j => ?_⟩, ?_⟩
  · rw [← h1] at hn ⊢; exact stl_add hn
  · rw [un, addL_mem]
    by_cases hjk : j = k
    · rw [if_pos hjk]; simp [hjk]
    · rw [if_neg hjk, h4 j hj]; simp [hjk]
  · rw [un]; split
    · exact Nat.le_refl _
    · exact h5 j
  · have h6 := nodup_lt hnd hlt
    rw [e, List.length_append, ← h1, stl_len] at h6
    simp at h6; omega
end ST1
