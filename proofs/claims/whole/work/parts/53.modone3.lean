section PC
variable {K V F S : Nat → Nat} {n b : Nat} {rec : List Rc} {bt fI : Nat → Int32} {bs ba : Nat → Nat}
def PA (K V F : Nat → Nat) (fI bt : Nat → Int32) (bs ba : Nat → Nat) (a : Nat) (l : List Nat) : Prop := ∀ x, 1 ≤ x → x < a → ¬ bt x < 0 → K x = 1 → F x ∈ l ∧ ∀ y, 1 ≤ y → y < x → ¬ bt y < 0 → K y = 1 → meetB (V x) (V y) = true → alB fI bs ba bt x y = true
theorem PA_skip {a : Nat} {l : List Nat} (h : PA K V F fI bt bs ba a l) (hn : bt a < 0 ∨ K a ≠ 1) : PA K V F fI bt bs ba (a + 1) l := by
  intro x h1 h2 h3 h4
  rcases Nat.lt_succ_iff_lt_or_eq.mp h2 with h5 | h5
  · exact h x h1 h5 h3 h4
  · subst h5
    rcases hn with hn | hn
    · exact absurd hn h3
    · exact absurd h4 hn
theorem PA_add {a : Nat} {l l2 : List Nat} (h : PA K V F fI bt bs ba a l) (hl : l2 = addL l (F a)) (hp : ∀ y, 1 ≤ y → y < a → ¬ bt y < 0 → K y = 1 → meetB (V a) (V y) = true → alB fI bs ba bt a y = true) : PA K V F fI bt bs ba (a + 1) l2 := by
  intro x h1 h2 h3 h4
  rcases Nat.lt_succ_iff_lt_or_eq.mp h2 with h5 | h5
  · have h6 := h x h1 h5 h3 h4
    exact ⟨by rw [hl]; exact addL_mem.mpr (Or.inl h6.1), h6.2⟩
  · subst h5
    exact ⟨by rw [hl]; exact addL_mem.mpr (Or.inr rfl), hp⟩
theorem meetB_comm (x y : Nat) : meetB x y = meetB y x := by unfold meetB; rw [Bool.and_comm]
theorem PA_cmp {l : List Nat} (hn : 0 < n) (hT : Tm n rec bt bs ba) (hl : rec.length ≤ 200) (hd : ∀ (i j : Nat) (x y : Rc), rec[i]? = some x → rec[j]? = some y → x.1 = y.1 → i = j) (hr : ∀ x ∈ rec, x.1 < n) (hf : ∀ i, 0 < i → i < n → K i = 1 → fI i = nI (F i) ∧ F i < 200) (h : PA K V F fI bt bs ba n l) : Cmp K V F rec := by
  intro i j x y hx hy hne hkx hx0 hky hy0 hm
  have hxn := hr x (List.mem_of_getElem? hx)
  have hyn := hr y (List.mem_of_getElem? hy)
  have hfx := hf x.1 (by omega) hxn hkx
  have hfy := hf y.1 (by omega) hyn hky
  have hbx : ¬ bt x.1 < 0 := (Tm_in hT hl hxn).mpr ⟨i, x, hx, rfl⟩
  have hby : ¬ bt y.1 < 0 := (Tm_in hT hl hyn).mpr ⟨j, y, hy, rfl⟩
  rcases Nat.lt_or_gt_of_ne hne with h1 | h1
  · have h2 := (h y.1 (by omega) hyn hby hky).2 x.1 (by omega) h1 hbx hkx (by rw [meetB_comm]; exact hm)
    obtain ⟨g1, g2, g3⟩ := (alB_iff hn hT hl hd hy hx hfy.1 hfx.1 hfy.2 hfx.2).mp h2
    exact ⟨g1.symm, g2.symm, fun e he => (g3 e he).symm⟩
  · have h2 := (h x.1 (by omega) hxn hbx hkx).2 y.1 (by omega) h1 hby hky hm
    exact (alB_iff hn hT hl hd hx hy hfx.1 hfy.1 hfx.2 hfy.2).mp h2
theorem not_pair {x y : Nat} (hn : 0 < n) (hT : Tm n rec bt bs ba) (hl : rec.length ≤ 200) (hd : ∀ (i j : Nat) (x y : Rc), rec[i]? = some x → rec[j]? = some y → x.1 = y.1 → i = j) (hf : ∀ i, 0 < i → i < n → K i = 1 → fI i = nI (F i) ∧ F i < 200) (hx : x < n) (hy : y < n) (hx0 : 1 ≤ x) (hy0 : 1 ≤ y) (hne : x ≠ y) (hbx : ¬ bt x < 0) (hby : ¬ bt y < 0) (hkx : K x = 1) (hky : K y = 1) (hm : meetB (V x) (V y) = true) (ha : alB fI bs ba bt x y = false) : ¬ Cmp K V F rec := by
  intro hc
  obtain ⟨i, z, hz, rfl⟩ := (Tm_in hT hl hx).mp hbx
  obtain ⟨j, w, hw, rfl⟩ := (Tm_in hT hl hy).mp hby
  have h1 := hc i j z w hz hw hne hkx (by omega) hky (by omega) hm
  have hfx := hf z.1 (by omega) hx hkx
  have hfy := hf w.1 (by omega) hy hky
  rw [(alB_iff hn hT hl hd hz hw hfx.1 hfy.1 hfx.2 hfy.2).mpr h1] at ha
  cases ha
def Ok1 (K V F S : Nat → Nat) (n : Nat) (l : List Nat) (r : Nat) : Prop := ∃ rec, Gd K V F S n r rec ∧ ∀ x ∈ rec, K x.1 = 1 → x.1 ≠ 0 → F x.1 ∈ l
theorem stl_len {st : Nat → Nat} {ma : Nat} : (stl st ma).length = ma := by simp [stl]
theorem stl_get {st st1 : Nat → Nat} {ma ma1 : Nat} {t : List Nat} (h : stl st1 ma1 = stl st ma ++ t) : ma ≤ ma1 ∧ ∀ i, i < ma → st1 i = st i := by
  have h1 := congrArg List.length h
  rw [List.length_append, stl_len, stl_len] at h1
  refine ⟨by omega, fun i hi => ?_⟩
  have h2 : (stl st1 ma1)[i]? = (stl st ma ++ t)[i]? := by rw [h]
  rw [List.getElem?_append_left (by rw [stl_len]; exact hi)] at h2
  unfold stl at h2
  rw [List.getElem?_map, List.getElem?_map, List.getElem?_range hi, List.getElem?_range (by omega)] at h2
  simpa using h2
theorem addL_pre {l k : List Nat} {x : Nat} (h : ∃ t, k = l ++ t) : ∃ t, addL k x = l ++ t := by
  obtain ⟨t, rfl⟩ := h
  unfold addL
  split
  · exact ⟨t, rfl⟩
  · exact ⟨t ++ [x], by simp⟩
theorem Mst_ini (hb : b < n) : Mst K V F S n b (addL [] b) := by
  refine ⟨addL_nodup List.nodup_nil, fun x hx => ?_, addL_mem.mpr (Or.inr rfl), fun X hX x hx => ?_⟩
  · rcases addL_mem.mp hx with hx | rfl
    · cases hx
    · exact hb
  · rcases addL_mem.mp hx with hx | rfl
    · cases hx
    · exact hX.2.1
theorem Mst_ma {st : Nat → Nat} {ma : Nat} (h : Mst K V F S n b (stl st ma)) : ma ≤ n ∧ ∀ i, i < ma → st i < n := by
  have h1 := nodup_lt h.1 h.2.1
  rw [stl_len] at h1
  exact ⟨h1, fun i hi => h.2.1 _ (stl_mem.mpr ⟨i, hi, rfl⟩)⟩
theorem Mst_more {st : Nat → Nat} {ma k : Nat} (h : Mst K V F S n b (stl st ma)) (hk : k < n) (hn : k ∉ stl st ma) : ma < n := by
  have h1 : (stl st ma ++ [k]).Nodup := by
    rw [List.nodup_append]
    refine ⟨h.1, by simp, fun a ha c hc => ?_⟩
    rw [List.mem_singleton.mp hc]
    exact fun e => hn (e ▸ ha)
  have h2 := nodup_lt (n := n) h1 (fun x hx => by
    rcases List.mem_append.mp hx with hx | hx
    · exact h.2.1 x hx
    · rw [List.mem_singleton.mp hx]; exact hk)
  rw [List.length_append, stl_len] at h2
  simp at h2
  omega
theorem one_done {st : Nat → Nat} {ma j : Nat} (h : Mst K V F S n b (stl st ma)) (hj : ma ≤ j) (hm : ma ≤ 64) (hd : ∀ i, i < j → i < ma → Ok1 K V F S n (stl st ma) (st i)) : OneW K V F S n b := by
  refine ⟨stl st ma, by rw [stl_len]; exact hm, h.2.2.1, fun r hr => ?_⟩
  obtain ⟨i, hi, rfl⟩ := stl_mem.mp hr
  exact hd i (by omega) hi
theorem Ok1_mono {l l2 : List Nat} {r : Nat} (h : Ok1 K V F S n l r) (hl : ∀ x ∈ l, x ∈ l2) : Ok1 K V F S n l2 r := by
  obtain ⟨rec, h1, h2⟩ := h
  exact ⟨rec, h1, fun x hx hk h0 => hl _ (h2 x hx hk h0)⟩
end PC
