/-! Rows of threads: one after the other on one stack; from place to place. -/
section PK2
variable {K V F S : Nat → Nat} {len : Nat} {u : Nat → Nat} {L : Nat} {al : Bool} {p n : Nat}
/-- what has been seen behind a row -/
def mkN (K V F S : Nat → Nat) (len : Nat) (u : Nat → Nat) (p : Nat) : Nat → List (Nat × Sv) → (Nat → Bool) → Nat → Bool
  | 0, _, seen => seen
  | _ + 1, [], seen => seen
  | m + 1, (k, sv) :: r, seen =>
    if seen k = true then mkN K V F S len u p m r seen
    else if k = 0 ∨ K k = 1 then mkN K V F S len u p m r (ub seen k true)
    else if pasB K V len u k p = true then mkN K V F S len u p m (psh K F S k (svk K V p k sv) r) (ub seen k true)
    else mkN K V F S len u p m r (ub seen k true)
/-- one turn: where the row goes on -/
theorem rwN_one (hF : ∀ i, 0 < i → i < n → (K i = 2 ∨ K i = 3 ∨ K i = 4) → F i < n) (hS : ∀ i, 0 < i → i < n → K i = 2 → S i < n) {k : Nat} {sv : Sv} {r : List (Nat × Sv)} {s : Nat → Bool} (hkn : k < n) (hr : ∀ x ∈ r, x.1 < n) :
    ∃ (o : List (Nat × Sv)) (t : List (Nat × Sv)) (s2 : Nat → Bool), (∀ m q, rwN K V F S len u p (m + 1) ((k, sv) :: (r ++ q)) s = o ++ rwN K V F S len u p m (t ++ r ++ q) s2) ∧ (∀ m q, mkN K V F S len u p (m + 1) ((k, sv) :: (r ++ q)) s = mkN K V F S len u p m (t ++ r ++ q) s2) ∧ 2 * cnF n s2 + (t ++ r).length < 2 * cnF n s + (r.length + 1) ∧ (∀ x ∈ t ++ r, x.1 < n) ∧ (∀ j, s j = true → s2 j = true) ∧ ∀ x ∈ o, x.1 = k ∧ (k = 0 ∨ K k = 1) := by
  by_cases hs : s k = true
  · exact ⟨[], [], s, fun m q => by rw [rwN, if_pos hs]; rfl, fun m q => by rw [mkN, if_pos hs]; rfl, by simp, by simpa using hr, fun _ h => h, fun x hx => by cases hx⟩
  · have hs0 : s k = false := by simpa using hs
    have hc := cnF_ub (n := n) hkn hs0
    have hup : ∀ j, s j = true → ub s k true j = true := fun j hj => by
      by_cases hjk : j = k
      · rw [hjk, ub_s]
      · rw [ub_n hjk]; exact hj
    by_cases h1 : k = 0 ∨ K k = 1
    · exact ⟨[(k, sv)], [], ub s k true, fun m q => by rw [rwN, if_neg hs, if_pos h1]; rfl, fun m q => by rw [mkN, if_neg hs, if_pos h1]; rfl, by simp; omega, by simpa using hr, hup, fun x hx => by rw [List.mem_singleton.mp hx]; exact ⟨rfl, h1⟩⟩
    · by_cases hp : pasB K V len u k p = true
      · have hKp := pasB_K hp
        refine ⟨[], psh K F S k (svk K V p k sv) [], ub s k true, fun m q => ?_, fun m q => ?_, ?_, ?_, hup, fun x hx => by cases hx⟩
        · rw [rwN, if_neg hs, if_neg h1, if_pos hp, List.nil_append]
          have e : psh K F S k (svk K V p k sv) (r ++ q) = psh K F S k (svk K V p k sv) [] ++ r ++ q := by unfold psh; split <;> simp
          rw [e]
        · rw [mkN, if_neg hs, if_neg h1, if_pos hp]
          have e : psh K F S k (svk K V p k sv) (r ++ q) = psh K F S k (svk K V p k sv) [] ++ r ++ q := by unfold psh; split <;> simp
          rw [e]
        · have := psh_len (K := K) (F := F) (S := S) (k := k) (sv := svk K V p k sv) (r := [])
          simp only [List.length_append, List.length_nil] at this ⊢
          omega
        · intro x hx
          rcases List.mem_append.mp hx with h | h
          · exact psh_lt (hF k hKp.1 hkn hKp.2) (fun h2 => hS k hKp.1 hkn h2) (fun y hy => by cases hy) x h
          · exact hr x h
      · exact ⟨[], [], ub s k true, fun m q => by rw [rwN, if_neg hs, if_neg h1, if_neg hp]; rfl, fun m q => by rw [mkN, if_neg hs, if_neg h1, if_neg hp]; rfl, by simp; omega, by simpa using hr, hup, fun x hx => by cases hx⟩
theorem rwN_fuel (hF : ∀ i, 0 < i → i < n → (K i = 2 ∨ K i = 3 ∨ K i = 4) → F i < n) (hS : ∀ i, 0 < i → i < n → K i = 2 → S i < n) : ∀ (m m2 : Nat) (st : List (Nat × Sv)) (s : Nat → Bool), 2 * cnF n s + st.length < m → 2 * cnF n s + st.length < m2 → (∀ x ∈ st, x.1 < n) → rwN K V F S len u p m st s = rwN K V F S len u p m2 st s ∧ mkN K V F S len u p m st s = mkN K V F S len u p m2 st s := by
  intro m
  induction m with
  | zero => intro m2 st s h; omega
  | succ m ih =>
    intro m2 st s h h2 hl
    obtain ⟨m2, rfl⟩ : ∃ q, m2 = q + 1 := ⟨m2 - 1, by omega⟩
    match st with
    | [] => exact ⟨rfl, rfl⟩
    | (k, sv) :: r =>
      obtain ⟨o, t, s2, g1, g2, g3, g4, -, -⟩ := rwN_one (p := p) (V := V) (len := len) (u := u) hF hS (sv := sv) (s := s) (hl _ List.mem_cons_self) (fun x hx => hl x (List.mem_cons_of_mem _ hx))
      have a1 := g1 m []; have a2 := g1 m2 []; have b1 := g2 m []; have b2 := g2 m2 []
      simp only [List.append_nil] at a1 a2 b1 b2
      have hlen : ((k, sv) :: r).length = r.length + 1 := rfl
      obtain ⟨i1, i2⟩ := ih m2 (t ++ r) s2 (by omega) (by omega) g4
      rw [a1, a2, b1, b2, i1, i2]
      exact ⟨rfl, rfl⟩
theorem mkN_le (hF : ∀ i, 0 < i → i < n → (K i = 2 ∨ K i = 3 ∨ K i = 4) → F i < n) (hS : ∀ i, 0 < i → i < n → K i = 2 → S i < n) : ∀ (m : Nat) (st : List (Nat × Sv)) (s : Nat → Bool), (∀ x ∈ st, x.1 < n) → cnF n (mkN K V F S len u p m st s) ≤ cnF n s ∧ ∀ x ∈ rwN K V F S len u p m st s, x.1 < n ∧ (x.1 = 0 ∨ K x.1 = 1) := by
  intro m
  induction m with
  | zero => intro st s _; exact ⟨Nat.le_refl _, fun x hx => by cases hx⟩
  | succ m ih =>
    intro st s hl
    match st with
    | [] => exact ⟨Nat.le_refl _, fun x hx => by cases hx⟩
    | (k, sv) :: r =>
      obtain ⟨o, t, s2, g1, g2, g3, g4, g5, g6⟩ := rwN_one (p := p) (V := V) (len := len) (u := u) hF hS (sv := sv) (s := s) (hl _ List.mem_cons_self) (fun x hx => hl x (List.mem_cons_of_mem _ hx))
      have a1 := g1 m []; have b1 := g2 m []
      simp only [List.append_nil] at a1 b1
      obtain ⟨i1, i2⟩ := ih (t ++ r) s2 g4
      have hle : cnF n s2 ≤ cnF n s := by
        unfold cnF
        refine List.countP_mono_left (fun j _ hj => ?_)
        cases hq : s j with
        | false => rfl
        | true => rw [g5 j hq] at hj; simp at hj
      rw [a1, b1]
      refine ⟨Nat.le_trans i1 hle, fun x hx => ?_⟩
      rcases List.mem_append.mp hx with h | h
      · obtain ⟨q1, q2⟩ := g6 x h
        rw [q1]; exact ⟨hl _ List.mem_cons_self, q2⟩
      · exact i2 x h
/-- one after the other on one stack -/
theorem rwN_app (hF : ∀ i, 0 < i → i < n → (K i = 2 ∨ K i = 3 ∨ K i = 4) → F i < n) (hS : ∀ i, 0 < i → i < n → K i = 2 → S i < n) : ∀ (m2 m1 m3 : Nat) (st q : List (Nat × Sv)) (s : Nat → Bool), 2 * cnF n s + (st.length + q.length) < m1 → 2 * cnF n s + st.length < m2 → 2 * cnF n (mkN K V F S len u p m2 st s) + q.length < m3 → (∀ x ∈ st, x.1 < n) → (∀ x ∈ q, x.1 < n) →
    rwN K V F S len u p m1 (st ++ q) s = rwN K V F S len u p m2 st s ++ rwN K V F S len u p m3 q (mkN K V F S len u p m2 st s) ∧ mkN K V F S len u p m1 (st ++ q) s = mkN K V F S len u p m3 q (mkN K V F S len u p m2 st s) := by
  intro m2
  induction m2 with
  | zero => intro m1 m3 st q s _ h; omega
  | succ m2 ih =>
    intro m1 m3 st q s h1 h2 h3 hl hq
    obtain ⟨m1, rfl⟩ : ∃ z, m1 = z + 1 := ⟨m1 - 1, by omega⟩
    match st with
    | [] =>
      have e : mkN K V F S len u p (m2 + 1) [] s = s := rfl
      have e2 : rwN K V F S len u p (m2 + 1) [] s = [] := rfl
      rw [e] at h3
      rw [e, e2, List.nil_append, List.nil_append]
      exact rwN_fuel hF hS _ _ q s (by simpa using h1) h3 hq
    | (k, sv) :: r =>
      obtain ⟨o, t, s2, g1, g2, g3, g4, -, -⟩ := rwN_one (p := p) (V := V) (len := len) (u := u) hF hS (sv := sv) (s := s) (hl _ List.mem_cons_self) (fun x hx => hl x (List.mem_cons_of_mem _ hx))
      have a1 := g1 m1 q; have a2 := g1 m2 []; have b1 := g2 m1 q; have b2 := g2 m2 []
      simp only [List.append_nil] at a2 b2
      have hlen : ((k, sv) :: r).length = r.length + 1 := rfl
      rw [b2] at h3
      obtain ⟨i1, i2⟩ := ih m1 m3 (t ++ r) q s2 (by omega) (by omega) h3 g4 hq
      rw [List.cons_append, a1, b1, a2, b2, i1, i2, List.append_assoc]
      exact ⟨rfl, rfl⟩
/-- the threads that take the byte go on -/
def tkL (K V F : Nat → Nat) (len : Nat) (u : Nat → Nat) (p : Nat) (R : List (Nat × Sv)) : List (Nat × Sv) := R.filterMap (fun x => if takB K V len u x.1 p = true then some (F x.1, x.2) else none)
noncomputable def rsN (K V F S : Nat → Nat) (len : Nat) (u : Nat → Nat) (L : Nat) (al : Bool) (n p : Nat) (R : List (Nat × Sv)) : Option (Nat × Sv) := match R.find? (fun x => accB K V F S len u L al p x.1) with
  | none => none
  | some (k, sv) => if k = 0 then some (p, sv) else gwN K V F S len u L al n (L - p) (p + 1) (F k) sv
theorem gwN_rsN {a : Nat} {sv : Sv} (hp : p ≤ L) : gwN K V F S len u L al n (L + 1 - p) p a sv = rsN K V F S len u L al n p (rwN K V F S len u p (2 * n + 2) [(a, sv)] (fun _ => false)) := by
  obtain ⟨d, hd⟩ : ∃ d, L + 1 - p = d + 1 := ⟨L - p, by omega⟩
  have hd2 : L - p = d := by omega
  rw [hd, gwN, rsN, hd2, ← plN_rwN]
  cases plN K V F S len u L al p (2 * n + 2) [(a, sv)] (fun _ => false) with
  | none => rfl
  | some x => rfl
theorem rsN_congr {R R2 : List (Nat × Sv)} (h : R.find? (fun x => accB K V F S len u L al p x.1) = R2.find? (fun x => accB K V F S len u L al p x.1)) : rsN K V F S len u L al n p R = rsN K V F S len u L al n p R2 := by rw [rsN, rsN, h]
theorem accB_tak {k : Nat} (h : accB K V F S len u L al p k = true) (h0 : k ≠ 0) : takB K V len u k p = true ∧ p < L ∧ Can K V F S len u L al (p + 1) (F k) := by
  simp only [accB, Bool.or_eq_true, Bool.and_eq_true, decide_eq_true_eq] at h
  rcases h with h | h
  · exact absurd h.1 h0
  · have h2 := h.2
    simp only [goB, Bool.and_eq_true, decide_eq_true_eq] at h2
    exact ⟨h.1, h2.1, canB_iff.mp h2.2⟩
theorem accB_no {k : Nat} (h : accB K V F S len u L al p k = false) (ht : takB K V len u k p = true) (hp : p < L) : ¬ Can K V F S len u L al (p + 1) (F k) := by
  intro hc
  have : goB K V F S len u L al p k = true := by simp [goB, hp, canB_iff.mpr hc]
  simp [accB, ht, this] at h
theorem tkL_lt (hF1 : ∀ i, 0 < i → i < n → K i = 1 → F i < n) {R : List (Nat × Sv)} (hR : ∀ x ∈ R, x.1 < n) : ∀ x ∈ tkL K V F len u p R, x.1 < n := by
  intro x hx
  obtain ⟨y, hy, h⟩ := List.mem_filterMap.mp hx
  split at h
  · rename_i ht
    cases h
    exact hF1 _ (takB_K ht).1 (hR y hy) (takB_K ht).2.1
  · cases h
theorem tkL_len {R : List (Nat × Sv)} : (tkL K V F len u p R).length ≤ R.length := List.length_filterMap_le _ _
/-- from place to place: the found thread stays the found one -/
theorem tkL_first {R : List (Nat × Sv)} {k : Nat} {sv : Sv} {ex : List (Nat × Sv)} (h : R.find? (fun x => accB K V F S len u L al p x.1) = some (k, sv)) (h0 : k ≠ 0) : ∃ r, (tkL K V F len u p R ++ ex).filter (nX (fun j => ¬ Can K V F S len u L al (p + 1) j)) = (F k, sv) :: r := by
  obtain ⟨hacc, as, bs, hR, has⟩ := List.find?_eq_some_iff_append.mp h
  obtain ⟨ht, hpL, hc⟩ := accB_tak hacc h0
  have hd : (tkL K V F len u p as).filter (nX (fun j => ¬ Can K V F S len u L al (p + 1) j)) = [] := by
    refine List.filter_eq_nil_iff.mpr (fun x hx => ?_)
    obtain ⟨y, hy, h1⟩ := List.mem_filterMap.mp hx
    split at h1
    · rename_i hty
      cases h1
      have hn : accB K V F S len u L al p y.1 = false := by simpa using has y hy
      rw [nX_f (X := fun j => ¬ Can K V F S len u L al (p + 1) j) (accB_no hn hty hpL)]
      simp
    · cases h1
  have e1 : tkL K V F len u p R = tkL K V F len u p as ++ (F k, sv) :: tkL K V F len u p bs := by
    rw [hR, tkL, List.filterMap_append, List.filterMap_cons, if_pos ht]
    rfl
  refine ⟨(tkL K V F len u p bs ++ ex).filter (nX (fun j => ¬ Can K V F S len u L al (p + 1) j)), ?_⟩
  rw [e1, List.append_assoc, List.filter_append, hd, List.nil_append, List.cons_append, List.filter_cons_of_pos (nX_t (X := fun j => ¬ Can K V F S len u L al (p + 1) j) (fun z => z hc))]
theorem tkL_none {R : List (Nat × Sv)} (hpL : p < L) (h : R.find? (fun x => accB K V F S len u L al p x.1) = none) : ∀ x ∈ tkL K V F len u p R, ¬ Can K V F S len u L al (p + 1) x.1 := by
  intro x hx
  obtain ⟨y, hy, h1⟩ := List.mem_filterMap.mp hx
  split at h1
  · rename_i hty
    cases h1
    have hn : accB K V F S len u L al p y.1 = false := by simpa using List.find?_eq_none.mp h y hy
    exact accB_no hn hty hpL
  · cases h1
theorem rsN_go (hF : ∀ i, 0 < i → i < n → (K i = 2 ∨ K i = 3 ∨ K i = 4) → F i < n) (hS : ∀ i, 0 < i → i < n → K i = 2 → S i < n) (hF1 : ∀ i, 0 < i → i < n → K i = 1 → F i < n) {R ex : List (Nat × Sv)} {m k : Nat} {sv : Sv} (hR : ∀ x ∈ R, x.1 < n) (hex : ∀ x ∈ ex, x.1 < n) (hm : 2 * n + ((tkL K V F len u p R).length + ex.length) < m)
    (h : R.find? (fun x => accB K V F S len u L al p x.1) = some (k, sv)) (h0 : k ≠ 0) : rsN K V F S len u L al n (p + 1) (rwN K V F S len u (p + 1) m (tkL K V F len u p R ++ ex) (fun _ => false)) = rsN K V F S len u L al n p R := by
  have hacc : accB K V F S len u L al p k = true := by simpa using List.find?_some h
  obtain ⟨ht, hpL, hc⟩ := accB_tak hacc h0
  obtain ⟨r, hr⟩ := tkL_first (ex := ex) h h0
  have hall : cnF n (fun _ => false) = n := cnF_all (fun _ _ => rfl)
  have hl : ∀ x ∈ tkL K V F len u p R ++ ex, x.1 < n := fun x hx => by
    rcases List.mem_append.mp hx with h | h
    · exact tkL_lt hF1 hR x h
    · exact hex x h
  have htl := tkL_len (K := K) (V := V) (F := F) (len := len) (u := u) (p := p) (R := R)
  have e1 := plN_first (p := p + 1) (al := al) (L := L) (V := V) (len := len) (u := u) hF hS (m := m) (s := fun _ => false) (by rw [hall, List.length_append]; omega) hl (fun _ _ => rfl) hr
  have e2 : rsN K V F S len u L al n p R = gwN K V F S len u L al n (L - p) (p + 1) (F k) sv := by rw [rsN, h]; simp [h0]
  have e3 : L - p = L + 1 - (p + 1) := by omega
  rw [e2, e3, gwN_rsN (by omega)]
  refine rsN_congr ?_
  rw [← plN_rwN, ← plN_rwN, e1]
theorem rsN_new (hF : ∀ i, 0 < i → i < n → (K i = 2 ∨ K i = 3 ∨ K i = 4) → F i < n) (hS : ∀ i, 0 < i → i < n → K i = 2 → S i < n) (hF1 : ∀ i, 0 < i → i < n → K i = 1 → F i < n) {R : List (Nat × Sv)} {m a : Nat} {sv : Sv} (hpL : p < L) (hR : ∀ x ∈ R, x.1 < n) (ha : a < n) (hm : 2 * n + (R.length + 1) < m)
    (h : R.find? (fun x => accB K V F S len u L al p x.1) = none) : rsN K V F S len u L al n (p + 1) (rwN K V F S len u (p + 1) m (tkL K V F len u p R ++ [(a, sv)]) (fun _ => false)) = gwN K V F S len u L al n (L + 1 - (p + 1)) (p + 1) a sv := by
  have hd := tkL_none hpL h
  have hall : cnF n (fun _ => false) = n := cnF_all (fun _ _ => rfl)
  have htl := tkL_len (K := K) (V := V) (F := F) (len := len) (u := u) (p := p) (R := R)
  have hl : ∀ x ∈ tkL K V F len u p R ++ [(a, sv)], x.1 < n := fun x hx => by
    rcases List.mem_append.mp hx with h | h
    · exact tkL_lt hF1 hR x h
    · rw [List.mem_singleton.mp h]; exact ha
  have hX := Ded_no (K := K) (V := V) (F := F) (S := S) (len := len) (u := u) (L := L) (al := al) (p := p + 1) (fun _ _ => Or.inr trivial)
  rw [gwN_rsN (by omega)]
  refine rsN_congr ?_
  rw [← plN_rwN, ← plN_rwN]
  refine plN_strip hF hS hX (m + (2 * n + 2)) m (2 * n + 2) _ _ _ _ (Nat.le_refl _) (by rw [hall, List.length_append]; simp; omega) (by rw [hall]; simp) hl (fun x hx => by rw [List.mem_singleton.mp hx]; exact ha) ?_ (fun _ _ => rfl)
  rw [List.filter_append, List.filter_eq_nil_iff.mpr (fun x hx => by rw [nX_f (X := fun k => ¬ Can K V F S len u L al (p + 1) k) (hd x hx)]; simp), List.nil_append]
theorem rsN_no (hF : ∀ i, 0 < i → i < n → (K i = 2 ∨ K i = 3 ∨ K i = 4) → F i < n) (hS : ∀ i, 0 < i → i < n → K i = 2 → S i < n) (hF1 : ∀ i, 0 < i → i < n → K i = 1 → F i < n) {R : List (Nat × Sv)} {m : Nat} (hpL : p < L) (hR : ∀ x ∈ R, x.1 < n) (hm : 2 * n + R.length < m)
    (h : R.find? (fun x => accB K V F S len u L al p x.1) = none) : (rwN K V F S len u (p + 1) m (tkL K V F len u p R) (fun _ => false)).find? (fun x => accB K V F S len u L al (p + 1) x.1) = none := by
  have hd := tkL_none hpL h
  have hall : cnF n (fun _ => false) = n := cnF_all (fun _ _ => rfl)
  have htl := tkL_len (K := K) (V := V) (F := F) (len := len) (u := u) (p := p) (R := R)
  rw [← plN_rwN]
  exact plN_dead (p := p + 1) hF hS (by rw [hall]; omega) (tkL_lt hF1 hR) hd
end PK2
