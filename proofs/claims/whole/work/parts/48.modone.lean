/-! One way: from a root, without bytes, no step twice; which steps, in order, with what was saved and passed -/
abbrev Rc : Type := Nat × Nat × Nat
def nxS (K V : Nat → Nat) (k s : Nat) : Nat := if K k = 3 then s ||| 2 ^ (V k) else s
def nxA (K V : Nat → Nat) (k a : Nat) : Nat := if K k = 4 then a ||| 2 ^ (V k) else a
def pshO (K V F S : Nat → Nat) (k s a : Nat) (st : List Rc) : List Rc := (F k, nxS K V k s, nxA K V k a) :: (if K k = 2 then (S k, nxS K V k s, nxA K V k a) :: st else st)
def inR (r : List Rc) (k : Nat) : Bool := r.any (fun x => x.1 == k)
def spN (K V F S : Nat → Nat) : Nat → List Rc → List Rc → Option (List Rc)
  | 0, _, _ => none
  | _ + 1, [], r => some r
  | m + 1, (k, s, a) :: st, r => if inR r k = true then none else if k = 0 ∨ K k = 1 ∨ K k = 5 then spN K V F S m st (r ++ [(k, s, a)]) else spN K V F S m (pshO K V F S k s a st) (r ++ [(k, s, a)])
def meetB (u v : Nat) : Bool := decide (u / 256 ≤ v % 256) && decide (v / 256 ≤ u % 256)
/-- the two are on one side of the END -/
def sideP (r : List Rc) (i j : Nat) : Prop := ∀ e, (r[e]?).map (·.1) = some 0 → (i < e ↔ j < e)
def Cmp (K V F : Nat → Nat) (r : List Rc) : Prop := ∀ (i j : Nat) (x y : Rc), r[i]? = some x → r[j]? = some y → x.1 ≠ y.1 → K x.1 = 1 → x.1 ≠ 0 → K y.1 = 1 → y.1 ≠ 0 → meetB (V x.1) (V y.1) = true → F x.1 = F y.1 ∧ x.2 = y.2 ∧ sideP r i j
def Gd (K V F S : Nat → Nat) (n r : Nat) (rec : List Rc) : Prop := spN K V F S (2 * n + 2) [(r, 0, 0)] [] = some rec ∧ Cmp K V F rec
def OneW (K V F S : Nat → Nat) (n b : Nat) : Prop := ∃ l : List Nat, l.length ≤ 64 ∧ b ∈ l ∧ ∀ r ∈ l, ∃ rec, Gd K V F S n r rec ∧ ∀ x ∈ rec, K x.1 = 1 → x.1 ≠ 0 → F x.1 ∈ l
theorem inR_iff {r : List Rc} {k : Nat} : inR r k = true ↔ ∃ x ∈ r, x.1 = k := by simp [inR]
theorem inR_app {r : List Rc} {k k1 s a : Nat} : inR (r ++ [(k1, s, a)]) k = (inR r k || (k1 == k)) := by simp [inR]
section SP
variable {K V F S : Nat → Nat} {n : Nat}
/-- a step that waits twice, or waits and was come to: no -/
theorem spN_dup : ∀ (m : Nat) (st r : List Rc), (∃ x ∈ st, inR r x.1 = true) → spN K V F S m st r = none := by
  intro m
  induction m with
  | zero => intro st r _; rfl
  | succ m ih =>
    intro st r ⟨x, hx, hr⟩
    match st, hx with
    | (k, s, a) :: st, hx =>
      rw [spN]
      split
      · rfl
      · rename_i hk
        have hx2 : x ∈ st := by
          rcases List.mem_cons.mp hx with rfl | hx
          · exact absurd hr hk
          · exact hx
        have hr2 : inR (r ++ [(k, s, a)]) x.1 = true := by rw [inR_app, hr]; rfl
        split
        · exact ih _ _ ⟨x, hx2, hr2⟩
        · refine ih _ _ ⟨x, ?_, hr2⟩
          unfold pshO
          split
          · exact List.mem_cons_of_mem _ (List.mem_cons_of_mem _ hx2)
          · exact List.mem_cons_of_mem _ hx2
theorem spN_two : ∀ (m : Nat) (st r : List Rc), (∃ i j : Nat, ∃ x y : Rc, i < j ∧ st[i]? = some x ∧ st[j]? = some y ∧ x.1 = y.1) → spN K V F S m st r = none := by
  intro m
  induction m with
  | zero => intro st r _; rfl
  | succ m ih =>
    intro st r ⟨i, j, x, y, hij, hx, hy, hxy⟩
    match st, hx, hy with
    | (k, s, a) :: st, hx, hy =>
      obtain ⟨j, rfl⟩ : ∃ j1, j = j1 + 1 := ⟨j - 1, by omega⟩
      have hy2 : st[j]? = some y := by simpa using hy
      rw [spN]
      split
      · rfl
      · cases i with
        | zero =>
          have e1 : (k, s, a) = x := by simpa using hx
          subst e1
          have hr2 : inR (r ++ [(k, s, a)]) y.1 = true := by rw [inR_app, ← hxy]; simp
          split
          · exact spN_dup _ _ _ ⟨y, List.mem_of_getElem? hy2, hr2⟩
          · refine spN_dup _ _ _ ⟨y, ?_, hr2⟩
            unfold pshO
            split
            · exact List.mem_cons_of_mem _ (List.mem_cons_of_mem _ (List.mem_of_getElem? hy2))
            · exact List.mem_cons_of_mem _ (List.mem_of_getElem? hy2)
        | succ i =>
          have hx2 : st[i]? = some x := by simpa using hx
          split
          · exact ih _ _ ⟨i, j, x, y, by omega, hx2, hy2, hxy⟩
          · unfold pshO
            split
            · exact ih _ _ ⟨i + 2, j + 2, x, y, by omega, by simpa using hx2, by simpa using hy2, hxy⟩
            · exact ih _ _ ⟨i + 1, j + 1, x, y, by omega, by simpa using hx2, by simpa using hy2, hxy⟩
end SP
/-- the reference's pile, with what it holds for each step -/
def absO (pl : Nat → Nat) (bs ba : Nat → Nat) : Nat → List Rc
  | 0 => []
  | h + 1 => (pl h, bs (pl h), ba (pl h)) :: absO pl bs ba h
theorem absO_get {pl bs ba : Nat → Nat} : ∀ {h j : Nat}, j < h → (pl j, bs (pl j), ba (pl j)) ∈ absO pl bs ba h := by
  intro h
  induction h with
  | zero => intro j hj; omega
  | succ h ih =>
    intro j hj
    rw [absO]
    by_cases h1 : j = h
    · subst h1; exact List.mem_cons_self
    · exact List.mem_cons_of_mem _ (ih (by omega))
theorem absO_congr {pl pl2 bs bs2 ba ba2 : Nat → Nat} : ∀ h : Nat, (∀ j, j < h → pl j = pl2 j ∧ bs (pl j) = bs2 (pl j) ∧ ba (pl j) = ba2 (pl j)) → absO pl bs ba h = absO pl2 bs2 ba2 h := by
  intro h
  induction h with
  | zero => intro _; rfl
  | succ h ih =>
    intro hh
    obtain ⟨h1, h2, h3⟩ := hh h (by omega)
    rw [absO, absO, ih (fun j hj => hh j (by omega)), ← h1, h2, h3]
theorem absO_push {pl bs ba : Nat → Nat} {h k s a : Nat} (hw : ∀ j, j < h → pl j ≠ k) : absO (un pl h k) (un bs k s) (un ba k a) (h + 1) = (k, s, a) :: absO pl bs ba h := by
  rw [absO, un_s, un_s, un_s]
  congr 1
  apply absO_congr
  intro j hj
  rw [un_lt hj, un_n (hw j hj), un_n (hw j hj)]
  exact ⟨rfl, rfl, rfl⟩
theorem nI_or (a b : Nat) : nI a ||| nI b = nI (a ||| b) := by
  apply Int32.toBitVec_inj.mp
  rw [Int32.toBitVec_or]
  show BitVec.ofNat 32 a ||| BitVec.ofNat 32 b = BitVec.ofNat 32 (a ||| b)
  exact (BitVec.ofNat_or).symm
theorem nI_bit {v : Nat} (hv : v < 31) : nI 1 <<< (nI v &&& 31) = nI (2 ^ v) := by
  have h1 : ∀ w, w < 31 → nI 1 <<< (nI w &&& 31) = nI (2 ^ w) := by decide
  exact h1 v hv
/-- what the reference notes of each step: when it was come to, or not -/
def Tm (n : Nat) (r : List Rc) (bt : Nat → Int32) (bs ba : Nat → Nat) : Prop := (∀ k, k < n → inR r k = false → bt k = -1) ∧ ∀ i x, r[i]? = some x → bt x.1 = nI i ∧ bs x.1 = x.2.1 ∧ ba x.1 = x.2.2
/-- the pile while it spreads -/
def Sp (n : Nat) (r : List Rc) (pl bs ba : Nat → Nat) (hi : Nat) (bt : Nat → Int32) : Prop := Tm n r bt bs ba ∧ (∀ j, j < hi → pl j < n ∧ inR r (pl j) = false) ∧ (∀ i j, i < j → j < hi → pl i ≠ pl j) ∧ (∀ x ∈ r, x.1 < n) ∧ hi ≤ r.length + 1 ∧ r.length + cnF n (inR r) = n
def wtB (pl : Nat → Nat) (hi k : Nat) : Bool := (List.range hi).any (fun j => pl j == k)
theorem wtB_s (pl : Nat → Nat) (j k : Nat) : wtB pl (j + 1) k = (wtB pl j k || (pl j == k)) := by simp [wtB, List.range_succ]
theorem wtB_t {pl : Nat → Nat} {hi k : Nat} (h : wtB pl hi k = true) : ∃ j, j < hi ∧ pl j = k := by simpa [wtB] using h
theorem wtB_f {pl : Nat → Nat} {hi k : Nat} (h : wtB pl hi k = false) : ∀ j, j < hi → pl j ≠ k := by simpa [wtB] using h
section SQ
variable {K V F S : Nat → Nat} {n : Nat} {rc : List Rc} {pl bs ba : Nat → Nat} {h2 k : Nat} {bt : Nat → Int32}
theorem inR_ub : (fun j => inR (rc ++ [(k, bs k, ba k)]) j) = ub (fun j => inR rc j) k true := by
  funext j
  by_cases h : j = k
  · subst h; rw [ub_s, inR_app]; simp
  · rw [ub_n h, inR_app]; simp [Ne.symm h]
theorem cn_app (hk : k < n) (h : inR rc k = false) : cnF n (inR (rc ++ [(k, bs k, ba k)])) + 1 = cnF n (inR rc) := by
  have h1 : inR (rc ++ [(k, bs k, ba k)]) = ub (inR rc) k true := inR_ub
  rw [h1]; exact cnF_ub hk h
theorem Sp_leaf (hk : k = pl h2) (h : Sp n rc pl bs ba (h2 + 1) bt) : Sp n (rc ++ [(k, bs k, ba k)]) pl bs ba h2 (upd bt k (nI rc.length)) := by
  obtain ⟨⟨t1, t2⟩, h3, h4, h5, h6, h7⟩ := h
  obtain ⟨g1, g2⟩ := h3 h2 (by omega)
  rw [← hk] at g1 g2
  refine ⟨⟨fun j hj hr => ?_, fun i x hx => ?_⟩, fun j hj => ⟨(h3 j (by omega)).1, ?_⟩, fun i j hij hj => h4 i j hij (by omega), fun x hx => ?_, ?_, ?_⟩
  · rw [inR_app] at hr
    simp only [Bool.or_eq_false_iff, beq_eq_false_iff_ne] at hr
    rw [pk_un (Ne.symm hr.2)]
    exact t1 j hj hr.1
  · by_cases hi : i < rc.length
    · rw [List.getElem?_append_left hi] at hx
      have h8 := t2 i x hx
      have hne : x.1 ≠ k := fun e => by
        have : inR rc k = true := inR_iff.mpr ⟨x, List.mem_of_getElem? hx, e⟩
        rw [g2] at this; cases this
      rw [pk_un hne]; exact h8
    · rw [List.getElem?_append_right (by omega)] at hx
      have hz : i - rc.length < 1 := (List.getElem?_eq_some_iff.mp hx).1
      rw [show i - rc.length = 0 by omega] at hx
      cases hx
      exact ⟨by rw [pk_us, show i = rc.length by omega], rfl, rfl⟩
  · rw [inR_app, (h3 j (by omega)).2]
    have := h4 j h2 hj (by omega)
    simp [hk, Ne.symm this]
  · rcases List.mem_append.mp hx with hx | hx
    · exact h5 x hx
    · rw [List.mem_singleton.mp hx]; exact g1
  · simp; omega
  · have := cn_app (bs := bs) (ba := ba) g1 g2
    simp; omega
theorem Sp_push {r : List Rc} {hh a s t : Nat} (ha : a < n) (hr : inR r a = false) (hw : ∀ j, j < hh → pl j ≠ a) (hb : hh + 1 ≤ r.length + 1) (h : Sp n r pl bs ba hh bt) : Sp n r (un pl hh a) (un bs a s) (un ba a t) (hh + 1) bt := by
  obtain ⟨⟨t1, t2⟩, h3, h4, h5, h6, h7⟩ := h
  refine ⟨⟨t1, fun i x hx => ?_⟩, fun j hj => ?_, fun i j hij hj => ?_, h5, hb, h7⟩
  · have hne : x.1 ≠ a := fun e => by
      have : inR r a = true := inR_iff.mpr ⟨x, List.mem_of_getElem? hx, e⟩
      rw [hr] at this; cases this
    rw [un_n hne, un_n hne]; exact t2 i x hx
  · by_cases hjh : j = hh
    · subst hjh; rw [un_s]; exact ⟨ha, hr⟩
    · rw [un_n hjh]; exact h3 j (by omega)
  · rw [un_n (show i ≠ hh by omega)]
    by_cases hjh : j = hh
    · subst hjh; rw [un_s]; exact hw i hij
    · rw [un_n hjh]; exact h4 i j hij (by omega)
theorem tm_in {a : Nat} (h : Sp n rc pl bs ba (h2 + 1) bt) (ha : a < n) (hb : 0 ≤ upd bt k (nI rc.length) a) : inR (rc ++ [(k, bs k, ba k)]) a = true := by
  rw [inR_app]
  by_cases hak : a = k
  · subst hak; simp
  · rw [pk_un hak] at hb
    cases hr : inR rc a with
    | true => rfl
    | false => rw [h.1.1 a ha hr] at hb; exact absurd hb (by decide)
theorem tm_out {a : Nat} (h : Sp n rc pl bs ba (h2 + 1) bt) (hl : rc.length ≤ 200) (hb : ¬ 0 ≤ upd bt k (nI rc.length) a) : inR (rc ++ [(k, bs k, ba k)]) a = false := by
  rw [inR_app]
  by_cases hak : a = k
  · subst hak; rw [pk_us] at hb; exact absurd (nI_pos' (by omega)) hb
  · rw [pk_un hak] at hb
    cases hr : inR rc a with
    | false => simp [Ne.symm hak]
    | true =>
      obtain ⟨x, hx, rfl⟩ := inR_iff.mp hr
      obtain ⟨i, hi⟩ := List.getElem?_of_mem hx
      rw [(h.1.2 i x hi).1] at hb
      have : i < rc.length := (List.getElem?_eq_some_iff.mp hi).1
      exact absurd (nI_pos' (by omega)) hb
theorem spN_step {m s a : Nat} {st r : List Rc} (hr : inR r k = false) : spN K V F S (m + 1) ((k, s, a) :: st) r = if k = 0 ∨ K k = 1 ∨ K k = 5 then spN K V F S m st (r ++ [(k, s, a)]) else spN K V F S m (pshO K V F S k s a st) (r ++ [(k, s, a)]) := by
  rw [spN, if_neg (by rw [hr]; decide)]
theorem none_dup {m s a x : Nat} {st r : List Rc} (hx : (x = F k) ∨ (K k = 2 ∧ x = S k)) (hr : inR r x = true) : spN K V F S m (pshO K V F S k s a st) r = none := by
  rcases hx with rfl | ⟨h2, rfl⟩
  · exact spN_dup _ _ _ ⟨_, List.mem_cons_self, hr⟩
  · refine spN_dup _ _ _ ⟨(S k, nxS K V k s, nxA K V k a), ?_, hr⟩
    unfold pshO
    rw [if_pos h2]
    exact List.mem_cons_of_mem _ List.mem_cons_self
theorem none_wait {m s a x : Nat} {r : List Rc} (hx : (x = F k) ∨ (K k = 2 ∧ x = S k)) (hw : wtB pl h2 x = true) : spN K V F S m (pshO K V F S k s a (absO pl bs ba h2)) r = none := by
  obtain ⟨j, hj, hjx⟩ := wtB_t hw
  obtain ⟨i, hi⟩ := List.getElem?_of_mem (absO_get (pl := pl) (bs := bs) (ba := ba) hj)
  have hi1 : (absO pl bs ba h2)[i]? = some (pl j, bs (pl j), ba (pl j)) := hi
  unfold pshO
  by_cases h2' : K k = 2
  · rw [if_pos h2']
    rcases hx with rfl | ⟨_, rfl⟩
    · exact spN_two _ _ _ ⟨0, i + 2, _, _, by omega, rfl, by simpa using hi1, hjx.symm⟩
    · exact spN_two _ _ _ ⟨1, i + 2, _, _, by omega, rfl, by simpa using hi1, hjx.symm⟩
  · rw [if_neg h2']
    rcases hx with rfl | ⟨h3, _⟩
    · exact spN_two _ _ _ ⟨0, i + 1, _, _, by omega, rfl, by simpa using hi1, hjx.symm⟩
    · exact absurd h3 h2'
theorem none_same {m s a : Nat} {st r : List Rc} (hk : K k = 2) (hx : F k = S k) : spN K V F S m (pshO K V F S k s a st) r = none := by
  unfold pshO
  rw [if_pos hk]
  exact spN_two _ _ _ ⟨0, 1, _, _, by omega, rfl, rfl, hx⟩
end SQ
