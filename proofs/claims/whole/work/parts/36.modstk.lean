/-! The reference's pile and trail, as a list of steps with what is saved -/
def unT (tp : Nat → Nat) (ol : Sv) (t : Nat) : Nat → Sv → Sv
  | 0, sv => sv
  | tr + 1, sv => if t < tr + 1 then unT tp ol t tr (upd sv (tp tr) (ol tr)) else sv
theorem unT_le {tp : Nat → Nat} {ol : Sv} {t tr : Nat} {sv : Sv} (h : tr ≤ t) : unT tp ol t tr sv = sv := by
  cases tr with
  | zero => rfl
  | succ tr => rw [unT, if_neg (by omega)]
theorem unT_step {tp : Nat → Nat} {ol : Sv} {t tr : Nat} {sv : Sv} (h : t ≤ tr) : unT tp ol t (tr + 1) sv = unT tp ol t tr (upd sv (tp tr) (ol tr)) := by rw [unT, if_pos (by omega)]
theorem unT_comp {tp : Nat → Nat} {ol : Sv} {t1 t2 : Nat} (h : t1 ≤ t2) : ∀ (tr : Nat) (sv : Sv), t2 ≤ tr → unT tp ol t1 t2 (unT tp ol t2 tr sv) = unT tp ol t1 tr sv := by
  intro tr
  induction tr with
  | zero => intro sv h2; have e1 : t2 = 0 := by omega
            subst e1; rfl
  | succ tr ih =>
    intro sv h2
    rcases Nat.eq_or_lt_of_le h2 with h3 | h3
    · subst h3; rw [unT_le (t := tr + 1) (Nat.le_refl _)]
    · rw [unT_step (t := t2) (by omega), ih _ (by omega), unT_step (t := t1) (by omega)]
theorem unT_congr {tp tp2 : Nat → Nat} {ol ol2 : Sv} {t : Nat} : ∀ (tr : Nat) (sv : Sv), (∀ i, i < tr → tp i = tp2 i ∧ ol i = ol2 i) → unT tp ol t tr sv = unT tp2 ol2 t tr sv := by
  intro tr
  induction tr with
  | zero => intro sv _; rfl
  | succ tr ih =>
    intro sv h
    rw [unT, unT, (h tr (by omega)).1, (h tr (by omega)).2]
    split
    · exact ih _ (fun i hi => h i (by omega))
    · rfl
def absS (pl pt tp : Nat → Nat) (ol : Sv) (tr : Nat) (sv : Sv) : Nat → List (Nat × Sv)
  | 0 => []
  | h + 1 => (pl h, unT tp ol (pt h) tr sv) :: absS pl pt tp ol tr sv h
theorem absS_congr {pl pl2 pt pt2 tp tp2 : Nat → Nat} {ol ol2 : Sv} {tr tr2 : Nat} {sv sv2 : Sv} : ∀ h : Nat, (∀ i, i < h → pl i = pl2 i ∧ unT tp ol (pt i) tr sv = unT tp2 ol2 (pt2 i) tr2 sv2) → absS pl pt tp ol tr sv h = absS pl2 pt2 tp2 ol2 tr2 sv2 h := by
  intro h
  induction h with
  | zero => intro _; rfl
  | succ h ih =>
    intro hh
    rw [absS, absS, (hh h (by omega)).1, (hh h (by omega)).2, ih (fun i hi => hh i (by omega))]
/-- the pile keeps its bounds -/
def Stk (n : Nat) (pl pt tp : Nat → Nat) (tr hi : Nat) (se : Nat → Bool) : Prop := hi + cnF n se ≤ n + 1 ∧ tr + cnF n se ≤ n ∧ (∀ i, i < hi → pl i < n ∧ pt i ≤ tr) ∧ (∀ i j, i < j → j < hi → pt i ≤ pt j) ∧ ∀ i, i < tr → tp i < 20
theorem absS_pop {n : Nat} {pl pt tp : Nat → Nat} {ol : Sv} {tr h : Nat} {sv : Sv} {se : Nat → Bool} (hk : Stk n pl pt tp tr (h + 1) se) : absS pl pt tp ol tr sv h = absS pl pt tp ol (pt h) (unT tp ol (pt h) tr sv) h := by
  apply absS_congr
  intro i hi
  exact ⟨rfl, (unT_comp (hk.2.2.2.1 i h hi (by omega)) tr sv ((hk.2.2.1 h (by omega)).2)).symm⟩
theorem Stk_pop {n : Nat} {pl pt tp : Nat → Nat} {tr h : Nat} {se : Nat → Bool} (hk : Stk n pl pt tp tr (h + 1) se) : Stk n pl pt tp (pt h) h se := by
  obtain ⟨h1, h2, h3, h4, h5⟩ := hk
  have h6 := (h3 h (by omega)).2
  exact ⟨by omega, by omega, fun i hi => ⟨(h3 i (by omega)).1, h4 i h hi (by omega)⟩, fun i j hij hj => h4 i j hij (by omega), fun i hi => h5 i (by omega)⟩
theorem Stk_see {n k : Nat} {pl pt tp : Nat → Nat} {tr h : Nat} {se : Nat → Bool} (hk : Stk n pl pt tp tr h se) (hkn : k < n) (hs : se k = false) : Stk n pl pt tp tr h (ub se k true) := by
  obtain ⟨h1, h2, h3, h4, h5⟩ := hk
  have h6 := cnF_ub (n := n) hkn hs
  exact ⟨by omega, by omega, h3, h4, h5⟩
theorem un_lt {f : Nat → Nat} {h v i : Nat} (hi : i < h) : un f h v i = f i := un_n (by omega)
/-- the three ways on, behind a pop at h (trail t, saves sv) -/
theorem abs_one {pl pt tp : Nat → Nat} {ol : Sv} {t h a : Nat} {sv : Sv} (hpt : ∀ i, i < h → pt i ≤ t) : absS (un pl h a) (un pt h t) tp ol t sv (h + 1) = (a, sv) :: absS pl pt tp ol t sv h := by
  rw [absS, un_s, un_s, unT_le (Nat.le_refl _)]
  congr 1
  apply absS_congr
  intro i hi
  rw [un_lt hi, un_lt hi]
  exact ⟨rfl, rfl⟩
theorem abs_two {pl pt tp : Nat → Nat} {ol : Sv} {t h a b : Nat} {sv : Sv} (hpt : ∀ i, i < h → pt i ≤ t) : absS (un (un pl h b) (h + 1) a) (un (un pt h t) (h + 1) t) tp ol t sv (h + 1 + 1) = (a, sv) :: (b, sv) :: absS pl pt tp ol t sv h := by
  rw [abs_one (fun i hi => ?_), abs_one hpt]
  by_cases h1 : i = h
  · subst h1; rw [un_s]; exact Nat.le_refl _
  · rw [un_n h1]; exact hpt i (by omega)
theorem abs_sav {pl pt tp : Nat → Nat} {ol : Sv} {t h a v p : Nat} {sv : Sv} (hpt : ∀ i, i < h → pt i ≤ t) : absS (un pl h a) (un pt h (t + 1)) (un tp t v) (upd ol t (sv v)) (t + 1) (upd sv v (nI p)) (h + 1) = (a, upd sv v (nI p)) :: absS pl pt tp ol t sv h := by
  rw [absS, un_s, un_s, unT_le (Nat.le_refl _)]
  congr 1
  apply absS_congr
  intro i hi
  have h1 := hpt i hi
  rw [un_lt hi, un_lt hi]
  refine ⟨rfl, ?_⟩
  rw [unT_step h1, un_s, show upd ol t (sv v) t = sv v from pk_us, show upd (upd sv v (nI p)) v (sv v) = sv by funext j; by_cases hj : j = v; (subst hj; rw [pk_us]); (rw [pk_un hj, pk_un hj])]
  exact unT_congr t sv (fun j hj => ⟨un_n (by omega), pk_un (by omega)⟩)
theorem Stk_one {n a : Nat} {pl pt tp : Nat → Nat} {t h : Nat} {se se2 : Nat → Bool} (hk : Stk n pl pt tp t h se) (ha : a < n) (hc : cnF n se2 + 1 = cnF n se) : Stk n (un pl h a) (un pt h t) tp t (h + 1) se2 := by
  obtain ⟨h1, h2, h3, h4, h5⟩ := hk
  refine ⟨by omega, by omega, fun i hi => ?_, fun i j hij hj => ?_, h5⟩
  · by_cases hih : i = h
    · subst hih; rw [un_s, un_s]; exact ⟨ha, Nat.le_refl _⟩
    · rw [un_n hih, un_n hih]; exact h3 i (by omega)
  · rw [un_n (show i ≠ h by omega)]
    by_cases hjh : j = h
    · subst hjh; rw [un_s]; exact (h3 i (by omega)).2
    · rw [un_n hjh]; exact h4 i j hij (by omega)
theorem Stk_two {n a b : Nat} {pl pt tp : Nat → Nat} {t h : Nat} {se se2 : Nat → Bool} (hk : Stk n pl pt tp t h se) (hh : h + cnF n se ≤ n) (ha : a < n) (hb : b < n) (hc : cnF n se2 + 1 = cnF n se) : Stk n (un (un pl h b) (h + 1) a) (un (un pt h t) (h + 1) t) tp t (h + 1 + 1) se2 := by
  obtain ⟨h1, h2, h3, h4, h5⟩ := hk
  have g3 : ∀ i, i < h + 1 + 1 → un (un pl h b) (h + 1) a i < n ∧ un (un pt h t) (h + 1) t i ≤ t := by
    intro i hi
    by_cases h6 : i = h + 1
    · subst h6; rw [un_s, un_s]; exact ⟨ha, Nat.le_refl _⟩
    · rw [un_n h6, un_n h6]
      by_cases h7 : i = h
      · subst h7; rw [un_s, un_s]; exact ⟨hb, Nat.le_refl _⟩
      · rw [un_n h7, un_n h7]; exact h3 i (by omega)
  refine ⟨by omega, by omega, g3, fun i j hij hj => ?_, h5⟩
  by_cases h6 : j = h + 1
  · have := (g3 i (by omega)).2
    subst h6; rw [un_s]; exact this
  · by_cases h7 : j = h
    · have := (g3 i (by omega)).2
      rw [un_n h6]
      subst h7; rw [un_s]; exact this
    · rw [un_n h6, un_n h7, un_n (show i ≠ h + 1 by omega), un_n (show i ≠ h by omega)]
      exact h4 i j hij (by omega)
theorem Stk_sav {n a v : Nat} {pl pt tp : Nat → Nat} {t h : Nat} {se se2 : Nat → Bool} (hk : Stk n pl pt tp t h se) (ha : a < n) (hv : v < 20) (hc : cnF n se2 + 1 = cnF n se) : Stk n (un pl h a) (un pt h (t + 1)) (un tp t v) (t + 1) (h + 1) se2 := by
  obtain ⟨h1, h2, h3, h4, h5⟩ := hk
  refine ⟨by omega, by omega, fun i hi => ?_, fun i j hij hj => ?_, fun i hi => ?_⟩
  · by_cases hih : i = h
    · subst hih; rw [un_s, un_s]; exact ⟨ha, Nat.le_refl _⟩
    · rw [un_n hih, un_n hih]; have := h3 i (by omega); exact ⟨this.1, by omega⟩
  · rw [un_n (show i ≠ h by omega)]
    by_cases hjh : j = h
    · subst hjh; rw [un_s]; have := (h3 i (by omega)).2; omega
    · rw [un_n hjh]; exact h4 i j hij (by omega)
  · by_cases hit : i = t
    · subst hit; rw [un_s]; exact hv
    · rw [un_n hit]; exact h5 i (by omega)
section GW
variable {K V F S : Nat → Nat} {len : Nat} {u : Nat → Nat} {L : Nat} {al : Bool} {p n a : Nat} {sv sv1 : Sv}
theorem gw_end (hp : p ≤ L) (h : plN K V F S len u L al p (2 * n + 2) [(a, sv)] (fun _ => false) = some (0, sv1)) : gwN K V F S len u L al n (L + 1 - p) p a sv = some (p, sv1) := by
  rw [show L + 1 - p = (L - p) + 1 by omega, gwN, h]
  simp
theorem gw_go {k : Nat} (hp : p < L) (hk : k ≠ 0) (h : plN K V F S len u L al p (2 * n + 2) [(a, sv)] (fun _ => false) = some (k, sv1)) : gwN K V F S len u L al n (L + 1 - (p + 1)) (p + 1) (F k) sv1 = gwN K V F S len u L al n (L + 1 - p) p a sv := by
  rw [show L + 1 - p = (L + 1 - (p + 1)) + 1 by omega, gwN, h]
  simp [hk]
end GW
/-- the bound that the walk is given: none, or the place where it must end -/
def Bnd (len L : Nat) (al : Bool) (x : Int32) : Prop := (al = false ∧ x = -1 ∧ L = len) ∨ (al = true ∧ x = nI L ∧ L ≤ len)
section BN
variable {len L p : Nat} {al : Bool} {x : Int32}
theorem Bnd_neg (hl : len ≤ 200) (h : Bnd len L al x) (hx : x < 0) : al = false ∧ L = len := by
  rcases h with ⟨h1, _, h3⟩ | ⟨_, h2, h3⟩
  · exact ⟨h1, h3⟩
  · rw [h2] at hx; exact absurd hx (nI_pos (by omega))
theorem Bnd_pos (h : Bnd len L al x) (hx : ¬ x < 0) : al = true ∧ x = nI L ∧ L ≤ len := by
  rcases h with ⟨_, h2, _⟩ | h
  · rw [h2] at hx; exact absurd (by decide) hx
  · exact h
theorem Bnd_len (h : Bnd len L al x) : L ≤ len := by
  rcases h with ⟨_, _, h3⟩ | ⟨_, _, h3⟩ <;> omega
end BN
/-- an array's picture beyond its length doesn't matter -/
theorem arrV_fn {c : ClassId} {n : Nat} {f g : Nat → Value} (h : ∀ j, j < n → f j = g j) : arrV c n f = arrV c n g := by
  unfold arrV
  congr 1
  apply Array.ext
  · simp
  · intro i h1 h2
    simp at h1 h2 ⊢
    exact h i (by omega)
theorem xP_fn {D : va_G} {cl : List vw_C} {ws : va_W} {H : Heap} {q a n : Nat} {c : ClassId} {f g : Nat → Int32} (hP : va_P D cl ws H) (hq : ws[q]? = some (a, .inl (c, n, .inl f))) (h : ∀ j, j < n → f j = g j) : va_P D cl (ws.set q (a, .inl (c, n, .inl g))) H := by
  intro k x hx
  by_cases hk : k = q
  · subst hk
    have hlt : k < ws.length := (List.getElem?_eq_some_iff.mp hq).1
    rw [List.getElem?_set_self hlt] at hx
    cases hx
    have h1 := hP k _ hq
    show H[a]? = some (vp_cell c (n, .inl g))
    have h2 : H[a]? = some (vp_cell c (n, .inl f)) := h1
    rw [h2]
    congr 1
    show arrV c n (fun j => .int (f j)) = arrV c n (fun j => .int (g j))
    exact arrV_fn (fun j hj => by rw [h j hj])
  · rw [List.getElem?_set_ne (by omega)] at hx
    exact hP k x hx
theorem xD_fn {A : Nat → Prop} {ws : va_W} {q a : Nat} {e e2 : va_E} (hD : va_D A ws) (hq : ws[q]? = some (a, e)) : va_D A (ws.set q (a, e2)) := by
  have hlt : q < ws.length := (List.getElem?_eq_some_iff.mp hq).1
  have back : ∀ (k : Nat) (x : Nat × va_E), (ws.set q (a, e2))[k]? = some x → ∃ y, ws[k]? = some y ∧ y.1 = x.1 := by
    intro k x hx
    by_cases hk : k = q
    · subst hk
      rw [List.getElem?_set_self hlt] at hx
      cases hx
      exact ⟨_, hq, rfl⟩
    · rw [List.getElem?_set_ne (by omega)] at hx
      exact ⟨x, hx, rfl⟩
  refine ⟨fun i j x y hx hy hxy => ?_, fun k x hx => ?_⟩
  · obtain ⟨x1, g1, g2⟩ := back i x hx
    obtain ⟨y1, g3, g4⟩ := back j y hy
    exact hD.1 i j x1 y1 g1 g3 (by rw [g2, g4]; exact hxy)
  · obtain ⟨x1, g1, g2⟩ := back k x hx
    rw [← g2]; exact hD.2 k x1 g1
theorem neg_step {f : Sv} {k : Nat} (h : ∀ i, i < k → f i = -1) : ∀ i, i < k + 1 → upd f k (-1) i = -1 := by
  intro i hi
  by_cases hik : i = k
  · subst hik; exact pk_us
  · rw [pk_un hik]; exact h i (by omega)
theorem fal_step {f : Nat → Bool} {k : Nat} (h : ∀ i, i < k → f i = false) : ∀ i, i < k + 1 → ub f k false i = false := by
  intro i hi
  by_cases hik : i = k
  · subst hik; exact ub_s
  · rw [ub_n hik]; exact h i (by omega)
theorem Stk_ini {n ka : Nat} {pl pt tp : Nat → Nat} {se : Nat → Bool} (hk : ka < n) (h : ∀ i, i < n → se i = false) : Stk n (un pl 0 ka) (un pt 0 0) tp 0 (0 + 1) se := by
  have h1 := cnF_all h
  refine ⟨by omega, by omega, fun i hi => ?_, fun i j h2 h3 => by omega, fun i hi => by omega⟩
  have e1 : i = 0 := by omega
  subst e1; rw [un_s, un_s]; exact ⟨hk, Nat.le_refl _⟩
theorem plN_lt {K V F S : Nat → Nat} {len : Nat} {u : Nat → Nat} {L : Nat} {al : Bool} {p n : Nat} (hF : ∀ i, 0 < i → i < n → (K i = 2 ∨ K i = 3 ∨ K i = 4) → F i < n) (hS : ∀ i, 0 < i → i < n → K i = 2 → S i < n) : ∀ (m : Nat) (st : List (Nat × Sv)) (seen : Nat → Bool) (k : Nat) (sv : Sv), (∀ x ∈ st, x.1 < n) → plN K V F S len u L al p m st seen = some (k, sv) → k < n := by
  intro m
  induction m with
  | zero => intro st seen k sv _ h; simp [plN] at h
  | succ m ih =>
    intro st seen k sv hlt h
    match st, hlt with
    | [], _ => simp [plN] at h
    | (k1, sv1) :: r, hlt =>
      have hkn : k1 < n := hlt (k1, sv1) List.mem_cons_self
      have hrn : ∀ x ∈ r, x.1 < n := fun x hx => hlt x (List.mem_cons_of_mem _ hx)
      rw [plN] at h
      split at h
      · exact ih _ _ _ _ hrn h
      · split at h
        · split at h
          · cases h; omega
          · exact ih _ _ _ _ hrn h
        · split at h
          · split at h
            · cases h; exact hkn
            · exact ih _ _ _ _ hrn h
          · split at h
            · rename_i hp
              have hKp := pasB_K hp
              exact ih _ _ _ _ (psh_lt (hF k1 hKp.1 hkn hKp.2) (fun h2 => hS k1 hKp.1 hkn h2) hrn) h
            · exact ih _ _ _ _ hrn h
