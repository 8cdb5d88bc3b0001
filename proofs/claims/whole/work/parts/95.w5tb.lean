/-! The table: its rows, when they are made. -/
section TB5
variable {K V F S kC vC fC sC : Nat → Nat} {n b r q tu c R : Nat} {js sc me sor : Nat → Nat} {aC ros eC : Nat → Int32} {en : Int32}
def RowF (K V F S : Nat → Nat) (n R : Nat) (sor : Nat → Nat) (aC eC : Nat → Int32) (q : Nat) : Prop :=
  ∃ rec, spN K V F S (2 * n + 2) [(sor q, 0, 0)] [] = some rec ∧ Cmp K V F rec ∧ (∀ x ∈ rec, x.1 < n ∧ SvN x.2.1 ∧ x.2.2 < 2 ^ 6) ∧ (∀ x ∈ rec, K x.1 = 1 → x.1 ≠ 0 → ∃ i, i < R ∧ sor i = F x.1) ∧ RowA K V F R sor aC (eC q) q rec
theorem RowA_mono {rec : List Rc} {R2 : Nat} {sor2 : Nat → Nat} {aC2 : Nat → Int32} (h : RowA K V F R sor aC en q rec) (h1 : R ≤ R2) (h2 : ∀ i, i < R → sor2 i = sor i) (h3 : ∀ b, b < 256 → aC2 (q * 256 + b) = aC (q * 256 + b)) : RowA K V F R2 sor2 aC2 en q rec := by
  refine ⟨h.1, fun b hb => ?_⟩
  rw [h3 b hb]
  refine ⟨fun j x hx ht => ?_, (h.2 b hb).2⟩
  obtain ⟨i, p1, p2, p3⟩ := (h.2 b hb).1 j x hx ht
  exact ⟨i, by omega, by rw [h2 i p1]; exact p2, p3⟩
theorem RowF_mono {R2 : Nat} {sor2 : Nat → Nat} {aC2 eC2 : Nat → Int32} (h : RowF K V F S n R sor aC eC q) (hq : q < R) (h1 : R ≤ R2) (h2 : ∀ i, i < R → sor2 i = sor i) (h3 : ∀ b, b < 256 → aC2 (q * 256 + b) = aC (q * 256 + b)) (h4 : eC2 q = eC q) : RowF K V F S n R2 sor2 aC2 eC2 q := by
  obtain ⟨rec, g1, g2, g3, g4, g5⟩ := h
  refine ⟨rec, by rw [h2 q hq]; exact g1, g2, g3, fun x hx hk h0 => ?_, ?_⟩
  · obtain ⟨i, p1, p2⟩ := g4 x hx hk h0
    exact ⟨i, by omega, by rw [h2 i p1]; exact p2⟩
  · rw [h4]; exact RowA_mono g5 h1 h2 h3
/-- all that take a byte alike: no two minds -/
theorem RowA_cmp {rec : List Rc} (hn : ∀ (i j : Nat) (x y : Rc), rec[i]? = some x → rec[j]? = some y → x.1 = y.1 → i = j) (hR : R ≤ 64) (hV : ∀ x ∈ rec, K x.1 = 1 → x.1 ≠ 0 → V x.1 < 65536 ∧ V x.1 / 256 ≤ V x.1 % 256) (hb : ∀ x ∈ rec, x.1 < n ∧ SvN x.2.1 ∧ x.2.2 < 2 ^ 6) (h : RowA K V F R sor aC en q rec) : Cmp K V F rec := by
  intro i j x y hx hy hne hkx hx0 hky hy0 hm
  simp only [meetB, Bool.and_eq_true, decide_eq_true_eq] at hm
  have hxm := List.mem_of_getElem? hx
  have hym := List.mem_of_getElem? hy
  have hvx := hV x hxm hkx hx0
  have hvy := hV y hym hky hy0
  obtain ⟨b9, hb9, t1, t2⟩ : ∃ b9, b9 < 256 ∧ tkR K V x b9 ∧ tkR K V y b9 := by
    by_cases hle : V x.1 / 256 ≤ V y.1 / 256
    · exact ⟨V y.1 / 256, by omega, ⟨hx0, hkx, hle, by omega⟩, ⟨hy0, hky, Nat.le_refl _, by omega⟩⟩
    · exact ⟨V x.1 / 256, by omega, ⟨hx0, hkx, Nat.le_refl _, by omega⟩, ⟨hy0, hky, by omega, by omega⟩⟩
  obtain ⟨i1, p1, p2, p3⟩ := (h.2 b9 hb9).1 i x hx t1
  obtain ⟨i2, q1, q2, q3⟩ := (h.2 b9 hb9).1 j y hy t2
  have hbx := hb x hxm
  have hby := hb y hym
  rw [p3] at q3
  have e := (nI_eq (ac_lt (cd_lt hbx.2.1.1 hbx.2.2) (ordB_o rec i) (by omega)) (ac_lt (cd_lt hby.2.1.1 hby.2.2) (ordB_o rec j) (by omega))).mp q3
  have a1 := ac_c (c := cdN x.2.1 x.2.2) (ordB_o rec i) (show i1 < 64 by omega)
  have a2 := ac_c (c := cdN y.2.1 y.2.2) (ordB_o rec j) (show i2 < 64 by omega)
  rw [e] at a1
  have ec : cdN x.2.1 x.2.2 = cdN y.2.1 y.2.2 := a1.1.symm.trans a2.1
  have ei : i1 = i2 := a1.2.1.symm.trans a2.2.1
  have eo : decide (ordB rec i = 64) = decide (ordB rec j = 64) := a1.2.2.symm.trans a2.2.2
  have es := cd_inj hbx.2.1 hby.2.1 ec
  refine ⟨by rw [← p2, ← q2, ei], Prod.ext es.1 es.2, fun e9 he9 => ?_⟩
  obtain ⟨z, hz, hz0⟩ := Option.map_eq_some_iff.mp he9
  have hei : e9 ≠ i := fun e2 => by rw [e2, hx] at hz; cases hz; exact hx0 hz0
  have hej : e9 ≠ j := fun e2 => by rw [e2, hy] at hz; cases hz; exact hy0 hz0
  have key : ∀ i j : Nat, decide (ordB rec i = 64) = decide (ordB rec j = 64) → e9 < i → e9 < j := by
    intro i j eo hlt
    have h1 : ordB rec i = 64 := by rw [ordB, if_pos (take_any_iff.mpr ⟨e9, hlt, z, hz, hz0⟩)]
    rw [h1] at eo
    have h2 : ordB rec j = 64 := by simpa using eo.symm
    by_cases ha : (rec.take j).any zR = true
    · obtain ⟨e3, he3, z3, hz3, hz30⟩ := take_any_iff.mp ha
      have := hn e9 e3 z z3 hz hz3 (by rw [hz0, hz30])
      omega
    · rw [ordB, if_neg ha] at h2; cases h2
  constructor
  · intro hlt
    apply Classical.byContradiction
    intro hge
    have := key j i eo.symm (by omega)
    omega
  · intro hlt
    apply Classical.byContradiction
    intro hge
    have := key i j eo (by omega)
    omega
theorem TW_0 (hn : 0 < n) (hn2 : n ≤ 200) (hR : RwS n R sor ros) (hM : Mst K V F S n b (stl sor R)) (hr : r ∈ stl sor R) (hrn : r < n) (hme : ∀ k, me k ≤ tu) (ha : ∀ b, b < 256 → aC (q * 256 + b) = -1) : TW K V F S n b r q (tu + 1) (0 + 1) (un js 0 r) (un sc r 0) me aC (-1) R sor ros := by
  have e : seenB me (tu + 1) = fun _ => false := by
    funext k; have := hme k; simp [seenB]; omega
  have e1 : absK (un js 0 r) (0 + 1) = [r] := absK_push
  refine ⟨⟨hR, fun i hi => ?_, ?_, fun k => by have := hme k; omega⟩, Or.inl ⟨[(r, 0, 0)], [], rfl, ?_, ?_, ?_, ?_, ?_, ?_, fun k hk => ?_, ⟨Or.inl ⟨rfl, fun x hx => by cases hx⟩, fun b hb => ⟨(fun j x hx => by cases hx), Or.inl (ha b hb)⟩⟩, hM, hr⟩⟩
  · rw [show i = 0 by omega, un_s, un_s]; exact ⟨hrn, by omega⟩
  · rw [e, cnF_all (fun _ _ => rfl)]; omega
  · show 0 + cnF n (inR []) = n
    rw [cnF_all (f := inR []) (fun _ _ => rfl)]; omega
  · rw [e1]; rfl
  · rw [e1]; simp
  · intro k _; rfl
  · intro x hx
    rw [List.mem_singleton.mp hx]
    refine ⟨?_, SvN_0, by show 0 < 2 ^ 6; omega⟩
    show un sc r 0 r = cdN 0 0
    rw [un_s, cd_0]
  · intro x hx; cases hx
  · constructor
    · intro h; have := hme k; omega
    · intro h; cases h
theorem TW_fin (H : Pg n kC vC fC sC K V F S) (h : TW K V F S n b r q tu 0 js sc me aC en R sor ros) (hsq : sor q = r) (hen : eC q = en) : RowF K V F S n R sor aC eC q ∧ Mst K V F S n b (stl sor R) ∧ RwS n R sor ros := by
  obtain ⟨hS, h⟩ := h
  rcases h with ⟨st, rec, h⟩ | ⟨h, hd⟩
  · obtain ⟨h1, h2, h3, h4, h5, h6, h7, h8, h9, h10, h11⟩ := h
    have hst : st = [] := by
      cases st with
      | nil => rfl
      | cons x t => cases h3
    subst hst
    rw [show 2 * n + 2 - rec.length = (2 * n + 1 - rec.length) + 1 by omega, spN] at h1
    have hnd := spN_nodup (K := K) (V := V) (F := F) (S := S) (2 * n + 2) [(r, 0, 0)] [] rec (fun i j x y hx => by cases hx) h1.symm
    have hV : ∀ x ∈ rec, K x.1 = 1 → x.1 ≠ 0 → V x.1 < 65536 ∧ V x.1 / 256 ≤ V x.1 % 256 := fun x hx hk h0 => Pg_1v H (h7 x hx).1 (by omega) hk
    have hcmp := RowA_cmp hnd hS.1.1 hV h7 h9
    refine ⟨⟨rec, by rw [hsq]; exact h1.symm, hcmp, h7, fun x hx hk h0 => ?_, by rw [hen]; exact h9⟩, h10, hS.1⟩
    have hv := hV x hx hk h0
    obtain ⟨j, hj⟩ := List.mem_iff_getElem?.mp hx
    obtain ⟨i, p1, p2, p3⟩ := (h9.2 (V x.1 / 256) (by omega)).1 j x hj ⟨h0, hk, Nat.le_refl _, hv.2⟩
    exact ⟨i, p1, p2⟩
  · exact absurd hd Doom_nil
theorem TW_seen (h : TW K V F S n b r q tu c js sc me aC en R sor ros) (hc : 0 < c) (hm : me (js (c - 1)) = tu) : ¬ OneW K V F S n b := by
  obtain ⟨hS, h⟩ := h
  rcases h with ⟨st, rec, h⟩ | ⟨h, hd⟩
  · have hkn := (hS.2.1 (c - 1) (by omega)).1
    have h1 := (h.2.2.2.2.2.2.2.1 _ hkn).mp hm
    have h2 := h.2.2.2.2.1 (js (c - 1)) (by rw [absK_c hc]; exact List.mem_cons_self)
    rw [h2] at h1; cases h1
  · exact h
/-- the table, made -/
def TbOk (K V F S : Nat → Nat) (n b R : Nat) (sor : Nat → Nat) (aC eC : Nat → Int32) : Prop := 0 < R ∧ R ≤ 64 ∧ sor 0 = b ∧ (∀ i, i < R → sor i < n) ∧ ∀ q, q < R → RowF K V F S n R sor aC eC q
theorem TbOk_one (hM : Mst K V F S n b (stl sor R)) (h : TbOk K V F S n b R sor aC eC) : OneW K V F S n b := by
  refine ⟨stl sor R, by rw [stl_len]; exact h.2.1, hM.2.2.1, fun r hr => ?_⟩
  obtain ⟨q, hq, e⟩ := stl_mem.mp hr
  obtain ⟨rec, g1, g2, g3, g4, g5⟩ := h.2.2.2.2 q hq
  rw [e] at g1
  refine ⟨rec, ⟨g1, g2⟩, fun x hx hk h0 => ?_⟩
  obtain ⟨i, p1, p2⟩ := g4 x hx hk h0
  exact stl_mem.mpr ⟨i, p1, p2⟩
/-- what the making of the rows keeps -/
def MkI (K V F S : Nat → Nat) (n b : Nat) (sg : Bool) (q R : Nat) (sor : Nat → Nat) (aC eC ros : Nat → Int32) : Prop :=
  RwS n R sor ros ∧ q ≤ 64 ∧ (sg = false → ¬ OneW K V F S n b) ∧ (sg = true → q ≤ R ∧ 0 < R ∧ sor 0 = b ∧ Mst K V F S n b (stl sor R) ∧ ∀ i, i < q → RowF K V F S n R sor aC eC i)
theorem MkI_end {sg : Bool} (h : MkI K V F S n b sg q R sor aC eC ros) (hq : sg = true → R ≤ q) : (sg = true ↔ OneW K V F S n b) ∧ (sg = true → TbOk K V F S n b R sor aC eC) := by
  obtain ⟨h1, h2, h3, h4⟩ := h
  have key : sg = true → TbOk K V F S n b R sor aC eC ∧ Mst K V F S n b (stl sor R) := by
    intro hs
    obtain ⟨g1, g2, g3, g4, g5⟩ := h4 hs
    exact ⟨⟨g2, h1.1, g3, h1.2.1, fun i hi => g5 i (by have := hq hs; omega)⟩, g4⟩
  refine ⟨⟨fun hs => TbOk_one (key hs).2 (key hs).1, fun ho => ?_⟩, fun hs => (key hs).1⟩
  cases hsg : sg with
  | true => rfl
  | false => exact absurd ho (h3 hsg)
end TB5
