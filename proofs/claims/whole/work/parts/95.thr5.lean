/-! Over a byte: what the loop over the threads keeps. -/
section T5
variable {K V F S kC vC fC sC : Nat → Nat} {len : Nat} {u : Nat → Nat} {p n how tun cth tuh : Nat} {lo : Bool} {sth meh : Nat → Nat} {sdh : Nat → Int32} {T0 : List (Nat × Sv)}
def GI (K V F S : Nat → Nat) (len : Nat) (u : Nat → Nat) (n how : Nat) (lo : Bool) (p tun cth : Nat) (sth : Nat → Nat) (sdh : Nat → Int32) (B : Option (Nat × Sv)) (T : List (Nat × Sv)) (tk : Nat) (i : Nat) (be : Sv) (best : Option (Nat × Sv)) (T9 : List (Nat × Sv)) (ct : Nat) (st me : Nat → Nat) (sd : Nat → Int32) (tk9 : Nat) : Prop :=
  be = beS best ∧ BeOk best ∧ gbP K V F len u how lo p (rwL cth sth sdh) i best T9 B T ∧ RowIs K V F S len u (p + 1) n T9 ct tun st me sd ∧ tk9 + 2 * cnF n (seenB me tun) ≤ tk + 2 * n + i ∧ i ≤ cth
variable {B best : Option (Nat × Sv)} {T T9 : List (Nat × Sv)} {tk i ct tk9 : Nat} {be : Sv} {st me : Nat → Nat} {sd : Nat → Int32}
theorem RowIs_leaf (H : Pg n kC vC fC sC K V F S) (hR : RowIs K V F S len u p n T0 cth tuh sth meh sdh) (hi : i < cth) : sth i < n ∧ (sth i = 0 ∨ kC (sth i) = 1) ∧ SvOk (slc sdh (sth i)) := by
  have h1 := hR.2.2.2.2.1 i hi
  refine ⟨h1.1, ?_, h1.2.2⟩
  have h2 := (mkF_le (V := V) (len := len) (u := u) (p := p) (s := fun _ => false) H.FS hR.1).2 (sth i, slc sdh (sth i)) (by rw [← hR.2.1]; exact List.mem_of_getElem? (rwL_at hi))
  rcases h2.2 with h3 | h3
  · exact Or.inl h3
  · rcases Nat.eq_zero_or_pos (sth i) with h0 | h0
    · exact Or.inl h0
    · exact Or.inr (by rw [← Pg_K H h0 h1.1]; exact h3)
theorem RowIs_ct (hR : RowIs K V F S len u p n T0 cth tuh sth meh sdh) : cth ≤ n := by have := hR.2.2.2.1; omega
theorem GI_0 (hb : BeOk best) (hR : RowIs K V F S len u (p + 1) n [] ct tun st me sd) : GI K V F S len u n how lo p tun cth sth sdh (gbN K V F len u how lo true p (rwL cth sth sdh) best).1 (gbN K V F len u how lo true p (rwL cth sth sdh) best).2 tk 0 (beS best) best [] ct st me sd tk := by
  have := cnF_le n (seenB me tun)
  exact ⟨rfl, hb, gbP_0, hR, by omega, by omega⟩
theorem GI_nsk (h : GI K V F S len u n how lo p tun cth sth sdh B T tk i be best T9 ct st me sd tk9) {k : Nat} (hc : be 1 = -1 ∨ sdh (k * 20) ≤ be 0) : ¬ skB best (slc sdh k) = true := by
  intro hs
  have h2 := (beS_sk (sv := slc sdh k) h.2.1).mpr hs
  rw [h.1] at hc
  rcases hc with hc | hc
  · exact h2.1 hc
  · exact h2.2 hc
theorem GI_sk (h : GI K V F S len u n how lo p tun cth sth sdh B T tk i be best T9 ct st me sd tk9) {k : Nat} (hc : be 1 ≠ -1) (hc2 : ¬ sdh (k * 20) ≤ be 0) : skB best (slc sdh k) = true := by
  rw [h.1] at hc hc2
  exact (beS_sk (sv := slc sdh k) h.2.1).mp ⟨hc, hc2⟩
theorem GI_skip (h : GI K V F S len u n how lo p tun cth sth sdh B T tk i be best T9 ct st me sd tk9) (hi : i < cth) (hs : skB best (slc sdh (sth i)) = true) : GI K V F S len u n how lo p tun cth sth sdh B T tk (i + 1) be best T9 ct st me sd tk9 := by
  obtain ⟨h1, h2, h3, h4, h5, h6⟩ := h
  exact ⟨h1, h2, gbP_skip h3 (rwL_at hi) hs, h4, by omega, by omega⟩
theorem GI_no (h : GI K V F S len u n how lo p tun cth sth sdh B T tk i be best T9 ct st me sd tk9) (hi : i < cth) (hs : ¬ skB best (slc sdh (sth i)) = true) (hk : sth i = 0) (hm : mayB len how p = false) : GI K V F S len u n how lo p tun cth sth sdh B T tk (i + 1) be best T9 ct st me sd tk9 := by
  obtain ⟨h1, h2, h3, h4, h5, h6⟩ := h
  exact ⟨h1, h2, gbP_no h3 (rwL_at hi) hs hk hm, h4, by omega, by omega⟩
theorem GI_yes (hp : p ≤ 200) (h : GI K V F S len u n how lo p tun cth sth sdh B T tk i be best T9 ct st me sd tk9) (hi : i < cth) (hs : ¬ skB best (slc sdh (sth i)) = true) (hk : sth i = 0) (hm : mayB len how p = true) (hlo : lo = true) : GI K V F S len u n how lo p tun cth sth sdh B T tk (i + 1) (upd (slc sdh (sth i)) 1 (nI p)) (some (p, slc sdh (sth i))) T9 ct st me sd tk9 := by
  obtain ⟨h1, h2, h3, h4, h5, h6⟩ := h
  exact ⟨rfl, fun x hx => by cases hx; exact hp, gbP_yes h3 (rwL_at hi) hs hk hm hlo, h4, by omega, by omega⟩
theorem GI_not (h : GI K V F S len u n how lo p tun cth sth sdh B T tk i be best T9 ct st me sd tk9) (hi : i < cth) (hs : ¬ skB best (slc sdh (sth i)) = true) (hk : sth i ≠ 0) (ht : takB K V len u (sth i) p = false) : GI K V F S len u n how lo p tun cth sth sdh B T tk (i + 1) be best T9 ct st me sd tk9 := by
  obtain ⟨h1, h2, h3, h4, h5, h6⟩ := h
  exact ⟨h1, h2, gbP_not h3 (rwL_at hi) hs hk ht, h4, by omega, by omega⟩
theorem GI_take (H : FS K F S n) (h : GI K V F S len u n how lo p tun cth sth sdh B T tk i be best T9 ct st me sd tk9) (hi : i < cth) (hs : ¬ skB best (slc sdh (sth i)) = true) (hk : sth i ≠ 0) (ht : takB K V len u (sth i) p = true) {a ct2 tk2 : Nat} {js2 st2 me2 : Nat → Nat} {sd2 : Nat → Int32} {sv2 : Sv} (ha : a < n) (haF : a = F (sth i)) (hI : TI n tun 0 js2 sv2 ct2 st2 me2 sd2)
    (g1 : rwL ct2 st2 sd2 = rwL ct st sd ++ rwF K V F S len u (p + 1) n [(a, slc sdh (sth i))] (seenB me tun)) (g2 : seenB me2 tun = mkF K V F S len u (p + 1) n [(a, slc sdh (sth i))] (seenB me tun)) (g3 : tk2 + 2 * cnF n (seenB me2 tun) ≤ tk9 + 2 * cnF n (seenB me tun) + 1) :
    GI K V F S len u n how lo p tun cth sth sdh B T tk (i + 1) be best (T9 ++ [(a, slc sdh (sth i))]) ct2 st2 me2 sd2 tk2 := by
  obtain ⟨h1, h2, h3, h4, h5, h6⟩ := h
  exact ⟨h1, h2, by rw [haF]; exact gbP_take h3 (rwL_at hi) hs hk ht, RowIs_add H h4 ha hI g1 g2, by omega, by omega⟩
theorem GI_end (h : GI K V F S len u n how lo p tun cth sth sdh B T tk i be best T9 ct st me sd tk9) (hi : cth ≤ i) (hcn : cth ≤ n) : be = beS B ∧ BeOk B ∧ RowIs K V F S len u (p + 1) n T ct tun st me sd ∧ tk9 ≤ tk + 3 * n := by
  obtain ⟨h1, h2, h3, h4, h5, h6⟩ := h
  obtain ⟨g1, g2⟩ := gbP_end h3 (by rw [rwL_len]; exact hi)
  subst g1; subst g2
  exact ⟨h1, h2, h4, by omega⟩
theorem GI_ret (hp : p ≤ 200) (h : GI K V F S len u n how lo p tun cth sth sdh B T tk i be best T9 ct st me sd tk9) (hi : i < cth) (hcn : cth ≤ n) (hs : ¬ skB best (slc sdh (sth i)) = true) (hk : sth i = 0) (hm : mayB len how p = true) (hlo : lo = false) : upd (slc sdh (sth i)) 1 (nI p) = beS B ∧ BeOk B ∧ RowIs K V F S len u (p + 1) n T ct tun st me sd ∧ tk9 ≤ tk + 3 * n := by
  obtain ⟨h1, h2, h3, h4, h5, h6⟩ := h
  obtain ⟨g1, g2⟩ := gbP_ret h3 (rwL_at hi) hs hk hm hlo
  subst g1; subst g2
  exact ⟨rfl, fun x hx => by cases hx; exact hp, h4, by omega⟩
/-- what a byte does to a thread -/
theorem tk_of (H : Pg n kC vC fC sC K V F S) (hu : ∀ i, u i < 256) {k : Nat} (hk : k < n) (h1 : kC k = 1) : tkI vC k (bvI len u (p + 1)) = takB K V len u k p :=
  tkI_tak (Pg_0 H (by omega)) (Pg_1 H hk h1).2.2 (Pg_1 H hk h1).2.1 (by have := Pg_1 H hk h1; omega) hu
/-- the run, place by place -/
def RI (K V F S : Nat → Nat) (len : Nat) (u : Nat → Nat) (n b how : Nat) (lo : Bool) (fr : Nat) (X : Option (Nat × Sv)) (tk tb : Nat) (p : Nat) (T : List (Nat × Sv)) (best : Option (Nat × Sv)) (be : Sv) (tk9 cth tuh tun : Nat) (sth meh men : Nat → Nat) (sdh : Nat → Int32) : Prop :=
  fr ≤ p ∧ p ≤ len + 1 ∧ RowIs K V F S len u p n T cth tuh sth meh sdh ∧ (∀ k, men k ≤ tun) ∧ be = beS best ∧ BeOk best ∧ pkN K V F S len u n b how lo true fr (len + 1 - p) p T best = X ∧ tk9 ≤ tk + 6 * n * (p - fr) ∧ tuh ≤ tb + 1 + (p - fr) ∧ tun ≤ tb + 1 + (p - fr)
variable {b fr tb tun9 tun2 tk2 ctn : Nat} {X : Option (Nat × Sv)} {men stn : Nat → Nat} {sdn : Nat → Int32}
theorem RI_0 (hfr : fr ≤ len) (hm1 : ∀ k, meh k ≤ tuh) (hm2 : ∀ k, men k ≤ tun) (h1 : tuh ≤ tb) (h2 : tun ≤ tb) : RI K V F S len u n b how lo fr (pkN K V F S len u n b how lo true fr (len + 1 - fr) fr [] none) tk tb fr [] none (fun _ => -1) tk 0 (tuh + 1) tun sth meh men sdh :=
  ⟨Nat.le_refl _, by omega, RowIs_0 hm1, hm2, rfl, (fun x hx => by cases hx), rfl, by omega, by omega, by omega⟩
/-- a byte on: with a new thread or without -/
theorem RI_step (H : FS K F S n) (hb : b < n) (h : RI K V F S len u n b how lo fr X tk tb p T best be tk9 cth tuh tun sth meh men sdh) (hp : p ≤ len) {T2 : List (Nat × Sv)} {cth2 : Nat} {sth2 meh2 men2 : Nat → Nat} {sdh2 : Nat → Int32} {be2 : Sv}
    (hT2 : T2 = T ++ (if best = none ∧ (how = 0 ∨ p = fr) then [(b, svB p)] else [])) (hR2 : RowIs K V F S len u p n T2 cth2 tuh sth2 meh2 sdh2)
    (g1 : be2 = beS (gbN K V F len u how lo true p (rwL cth2 sth2 sdh2) best).1) (g2 : BeOk (gbN K V F len u how lo true p (rwL cth2 sth2 sdh2) best).1) (g3 : RowIs K V F S len u (p + 1) n (gbN K V F len u how lo true p (rwL cth2 sth2 sdh2) best).2 ctn (tun + 1) stn men2 sdn) (g4 : tk2 ≤ tk9 + 6 * n) :
    RI K V F S len u n b how lo fr X tk tb (p + 1) (gbN K V F len u how lo true p (rwL cth2 sth2 sdh2) best).2 (gbN K V F len u how lo true p (rwL cth2 sth2 sdh2) best).1 be2 tk2 ctn (tun + 1) tuh stn men2 meh2 sdn := by
  obtain ⟨h1, h2, h3, h4, h5, h6, h7, h8, h9, h10⟩ := h
  refine ⟨by omega, by omega, g3, hR2.2.2.2.2.2, g1, g2, ?_, ?_, by omega, by omega⟩
  · rw [show len + 1 - p = (len + 1 - (p + 1)) + 1 by omega, pk_step H h3.1 hb hT2, ← hR2.2.1] at h7
    exact h7
  · have : 6 * n * (p + 1 - fr) = 6 * n * (p - fr) + 6 * n := by rw [show p + 1 - fr = (p - fr) + 1 by omega, Nat.mul_add, Nat.mul_one]
    omega
theorem RI_end (h : RI K V F S len u n b how lo fr X tk tb p T best be tk9 cth tuh tun sth meh men sdh) (hp : len < p) : be = beS X ∧ BeOk X ∧ (∀ k, meh k ≤ tuh) ∧ (∀ k, men k ≤ tun) ∧ tuh ≤ tb + 202 + len ∧ tun ≤ tb + 202 + len ∧ tk9 ≤ tk + 6 * n * (len + 1) := by
  obtain ⟨h1, h2, h3, h4, h5, h6, h7, h8, h9, h10⟩ := h
  have e : p = len + 1 := by omega
  subst e
  rw [Nat.sub_self, pkN] at h7
  subst h7
  refine ⟨h5, h6, h3.2.2.2.2.2, h4, by omega, by omega, ?_⟩
  have : 6 * n * (len + 1 - fr) ≤ 6 * n * (len + 1) := Nat.mul_le_mul_left _ (by omega)
  omega
theorem SvOk_B (hp : p ≤ 200) : SvOk (svB p) ∧ Nm (svB p) := ⟨SvOk_upd (fun _ => plI_m1) (plI_n hp), Nm_upd (fun _ _ => rfl) (by decide)⟩
end T5
