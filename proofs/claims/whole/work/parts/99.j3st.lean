/-! The run of the states. -/
section ST6
variable {K V F S kC vC fC sC : Nat → Nat} {len : Nat} {u : Nat → Nat} {p n b how fr : Nat} {lo : Bool}
theorem mk_mono : ∀ (m : Nat) (st : List (Nat × Sv)) (s : Nat → Bool) (j : Nat), s j = true → mkN K V F S len u p m st s j = true := by
  intro m
  induction m with
  | zero => intro st s j h; exact h
  | succ m ih =>
    intro st s j h
    match st with
    | [] => exact h
    | (k, sv) :: r =>
      have hu : ub s k true j = true := by rw [ub]; split; (rfl); (exact h)
      rw [mkN]
      split
      · exact ih _ _ _ h
      · split
        · exact ih _ _ _ hu
        · split
          · exact ih _ _ _ hu
          · exact ih _ _ _ hu
theorem mk_mem (H : FS K F S n) : ∀ (m : Nat) (st : List (Nat × Sv)) (s : Nat → Bool), 2 * cnF n s + st.length < m → (∀ x ∈ st, x.1 < n) → ∀ x ∈ st, mkN K V F S len u p m st s x.1 = true := by
  intro m
  induction m with
  | zero => intro st s h; omega
  | succ m ih =>
    intro st s hm hl x hx
    match st, hl, hx, hm with
    | (k, sv) :: r, hl, hx, hm =>
      have hlen : ((k, sv) :: r).length = r.length + 1 := rfl
      have hkn : k < n := hl (k, sv) List.mem_cons_self
      have hr : ∀ x ∈ r, x.1 < n := fun x hx => hl x (List.mem_cons_of_mem _ hx)
      rw [mkN]
      by_cases hs : s k = true
      · rw [if_pos hs]
        rcases List.mem_cons.mp hx with e | hx
        · rw [e]; exact mk_mono _ _ _ _ hs
        · exact ih r s (by omega) hr x hx
      · have hs0 : s k = false := by simpa using hs
        have hc := cnF_ub hkn hs0
        rw [if_neg hs]
        split
        · rcases List.mem_cons.mp hx with e | hx
          · rw [e]; exact mk_mono _ _ _ _ ub_s
          · exact ih r _ (by omega) hr x hx
        · split
          · rename_i hp
            have hKp := pasB_K hp
            have hl2 := psh_len (K := K) (F := F) (S := S) (k := k) (sv := svk K V p k sv) (r := r)
            rcases List.mem_cons.mp hx with e | hx
            · rw [e]; exact mk_mono _ _ _ _ ub_s
            · refine ih _ _ (by omega) (psh_lt (H.1 k hKp.1 hkn hKp.2) (fun h2 => H.2 k hKp.1 hkn h2) hr) x ?_
              unfold psh; split
              · exact List.mem_cons_of_mem _ (List.mem_cons_of_mem _ hx)
              · exact List.mem_cons_of_mem _ hx
          · rcases List.mem_cons.mp hx with e | hx
            · rw [e]; exact mk_mono _ _ _ _ ub_s
            · exact ih r _ (by omega) hr x hx
theorem mkG_mem (H : FS K F S n) {L : List Nat} {s : Nat → Bool} (hl : ∀ x ∈ L, x < n) {k : Nat} (hk : k ∈ L) : mkG K V F S len u p n L s k = true :=
  mk_mem H _ (lz L) s (by omega) (lz_lt hl) (k, z0) (List.mem_map.mpr ⟨k, hk, rfl⟩)
theorem rk_dd (H : FS K F S n) : ∀ (T A B : List Nat) (s : Nat → Bool), (∀ x ∈ A, x < n) → (∀ x ∈ T, x < n) → (∀ x ∈ B, x < n) → rkF K V F S len u p n (addA A T ++ B) s = rkF K V F S len u p n (A ++ (T ++ B)) s := by
  intro T
  induction T with
  | nil => intro A B s _ _ _; rfl
  | cons k T ih =>
    intro A B s hA hT hB
    have hk := hT k List.mem_cons_self
    have hT2 : ∀ x ∈ T, x < n := fun x hx => hT x (List.mem_cons_of_mem _ hx)
    have hTB : ∀ x ∈ T ++ B, x < n := fun x hx => by
      rcases List.mem_append.mp hx with hx | hx
      · exact hT2 x hx
      · exact hB x hx
    have hAk : ∀ x ∈ addL A k, x < n := fun x hx => by
      rcases addL_mem.mp hx with hx | hx
      · exact hA x hx
      · rw [hx]; exact hk
    rw [addA_cons, ih _ _ _ hAk hT2 hB]
    by_cases hin : k ∈ A
    · rw [addL_in hin]
      have hkT : ∀ x ∈ k :: (T ++ B), x < n := fun x hx => by
        rcases List.mem_cons.mp hx with hx | hx
        · rw [hx]; exact hk
        · exact hTB x hx
      rw [(rkF_app H hA hTB).1, show A ++ (k :: T ++ B) = A ++ (k :: (T ++ B)) from rfl, (rkF_app H hA hkT).1, (rkF_seen H hk hTB (mkG_mem H hA hin)).1]
    · rw [addL, if_neg hin, List.append_assoc]; rfl
def kbG (b how fr p : Nat) (best : Option Nat) : List Nat := if best = none ∧ (how = 0 ∨ p = fr) then [b] else []
def KsI (K V F S : Nat → Nat) (len : Nat) (u : Nat → Nat) (n b how : Nat) (lo : Bool) (fr : Nat) (X : Option Nat) (p : Nat) (st : List Nat) (best : Option Nat) (L : List Nat) (g : Nat) : Prop :=
  (∀ x ∈ st, x < n) ∧ rkF K V F S len u p n (L ++ begG b g) (fun _ => false) = rkF K V F S len u p n (st ++ kbG b how fr p best) (fun _ => false) ∧ ksN K V F S len u n b how lo fr (len + 1 - p) p st best = X ∧ (how = 0 → g = if best = none then 0 else 1) ∧ (how ≠ 0 → g = goN how lo)
theorem gk_2 (hp : p ≤ len) : ∀ R : List Nat, gkN K V F len u 2 lo p R = gkN K V F len u 2 false p R := by
  intro R
  induction R with
  | nil => rfl
  | cons k r ih =>
    rw [gkN, gkN, ih]
    by_cases h0 : k = 0
    · rw [if_pos h0, if_pos h0]
      by_cases hm : mayB len 2 p = true
      · have hpl : p = len := by simpa [mayB] using hm
        have hno : ∀ R : List Nat, (gkN K V F len u 2 false p R).2 = [] := by
          intro R
          induction R with
          | nil => rfl
          | cons a t iht =>
            have ht : ¬ takB K V len u a p = true := fun h => by have := (takB_K h).2.2.1; omega
            rw [gkN]
            by_cases ha : a = 0
            · rw [if_pos ha, if_pos hm]; rfl
            · rw [if_neg ha, if_neg ht]; exact iht
        rw [if_pos hm, if_pos hm, hno]
        cases lo <;> rfl
      · rw [if_neg hm, if_neg hm]
    · rw [if_neg h0, if_neg h0]
theorem gk_g {g : Nat} (hp : p ≤ len) (hh : how < 3) (hlo : how = 0 → lo = false) (h0 : how = 0 → g = 0 ∨ g = 1) (h1 : how ≠ 0 → g = goN how lo) (R : List Nat) : gkN K V F len u (howG g) (decide (g = 2)) p R = gkN K V F len u how lo p R := by
  match how, hh with
  | 0, _ =>
    rw [hlo rfl]
    rcases h0 rfl with h | h
    · subst h; exact gkN_congr (lo := false) (how := howG 0) (how2 := 0) (fun _ => rfl) rfl R
    · subst h; exact gkN_congr (lo := false) (how := howG 1) (how2 := 0) (fun _ => rfl) rfl R
  | 1, _ =>
    have hg := h1 (by decide)
    cases lo with
    | true => rw [hg]; exact gkN_congr (fun _ => rfl) rfl R
    | false => rw [hg]; exact gkN_congr (fun _ => rfl) rfl R
  | 2, _ =>
    have hg : g = 3 := h1 (by decide)
    rw [hg, gk_2 hp]; rfl
variable {X best : Option Nat} {st L : List Nat} {g lb : Nat}
theorem ks_q (hu : ∀ i, u i < 256) (hp : p ≤ len) (hh : how < 3) (hlo : how = 0 → lo = false) (h : KsI K V F S len u n b how lo fr X p st best L g) (hl : lb / 4 = g) (hl2 : lb % 4 = sortB (bvI len u p)) : SPv K V F S n b lb L (syB len u p) = gkN K V F len u how lo p (rkF K V F S len u p n (st ++ kbG b how fr p best) (fun _ => false)) := by
  obtain ⟨h1, h2, h3, h4, h5⟩ := h
  have hv := v_view (K := K) (V := V) hu hp
  unfold SPv
  rw [hl, hl2, ← rkF_congr hv.1, ← gkN_congr (how := howG g) (how2 := howG g) (lo := decide (g = 2)) hv.2 ?_, gk_g hp hh hlo ?_ h5, h2]
  · intro h0; rw [h4 h0]; split
    · exact Or.inl rfl
    · exact Or.inr rfl
  · rw [v_may (syI_B hu).2]
    unfold mayB howG syB
    have := hu p
    by_cases h3 : g = 3
    · by_cases hpl : p < len
      · have e1 : ¬ p = len := by omega
        have e2 : ¬ u p = 256 := by omega
        simp [h3, hpl, e1, e2]
      · have e1 : p = len := by omega
        simp [h3, e1]
    · simp [h3]
theorem gk_lt (hF : ∀ i, 0 < i → i < n → K i = 1 → F i < n) : ∀ R : List Nat, (∀ x ∈ R, x < n) → ∀ x ∈ (gkN K V F len u how lo p R).2, x < n := by
  intro R
  induction R with
  | nil => intro _ x hx; cases hx
  | cons k r ih =>
    intro hR x hx
    have ih2 := ih (fun x hx => hR x (List.mem_cons_of_mem _ hx))
    rw [gkN] at hx
    split at hx
    · split at hx
      · split at hx
        · exact ih2 x hx
        · cases hx
      · exact ih2 x hx
    · split at hx
      · rename_i ht
        rcases List.mem_cons.mp hx with e | hx
        · rw [e]; have := takB_K ht; exact hF k this.1 (hR k List.mem_cons_self) this.2.1
        · exact ih2 x hx
      · exact ih2 x hx
theorem rkF_lt (H : FS K F S n) {L : List Nat} {s : Nat → Bool} (hl : ∀ x ∈ L, x < n) : ∀ x ∈ rkF K V F S len u p n L s, x < n := by
  intro x hx
  obtain ⟨y, hy, rfl⟩ := List.mem_map.mp hx
  exact ((mkF_le H (lz_lt hl)).2 y hy).1
theorem ks_nil (H : FS K F S n) : ∀ (m p : Nat) (best : Option Nat), (how ≠ 0 ∨ best ≠ none) → fr < p → ksN K V F S len u n b how lo fr m p [] best = best := by
  intro m
  induction m with
  | zero => intro p best _ _; rfl
  | succ m ih =>
    intro p best h hp
    have e : (if best = none ∧ (how = 0 ∨ p = fr) then [b] else []) = ([] : List Nat) := by
      rw [if_neg]; rintro ⟨h1, h2⟩
      rcases h with h | h
      · rcases h2 with h2 | h2
        · exact h h2
        · omega
      · exact h h1
    rw [ksN, e]
    show ksN K V F S len u n b how lo fr m (p + 1) [] best = best
    exact ih _ _ h (by omega)
theorem ks_un (H : FS K F S n) (hb : b < n) (hp : p ≤ len) (h : KsI K V F S len u n b how lo fr X p st best L g) : ksN K V F S len u n b how lo fr (len + 1 - (p + 1)) (p + 1) (gkN K V F len u how lo p (rkF K V F S len u p n (st ++ kbG b how fr p best) (fun _ => false))).2 (if (gkN K V F len u how lo p (rkF K V F S len u p n (st ++ kbG b how fr p best) (fun _ => false))).1 = true then some p else best) = X := by
  obtain ⟨h1, -, h3, -, -⟩ := h
  have hl : ∀ x ∈ st ++ kbG b how fr p best, x < n := by
    intro x hx
    rcases List.mem_append.mp hx with hx | hx
    · exact h1 x hx
    · unfold kbG at hx; split at hx
      · rw [List.mem_singleton.mp hx]; exact hb
      · cases hx
  have hlen : (st ++ kbG b how fr p best).length ≤ st.length + 1 := by
    rw [List.length_append]; unfold kbG; split <;> simp
  rw [show len + 1 - p = (len + 1 - (p + 1)) + 1 by omega, ksN] at h3
  have e := rkF_eq (V := V) (len := len) (u := u) (p := p) (s := fun _ => false) H hl (m := 2 * n + st.length + 2) (by rw [cnF_all (fun _ _ => rfl)]; omega)
  unfold kbG at e ⊢
  rw [e] at h3
  exact h3
def optI : Option Nat → Int32
  | none => -1
  | some e => nI e
/-- what the run of the states keeps -/
def SRI (K V F S : Nat → Nat) (len : Nat) (u : Nat → Nat) (n b how : Nat) (lo : Bool) (fr : Nat) (X : Option Nat) (kn : Nat) (stp cnt lbl : Nat → Nat) (p : Nat) (sI en : Int32) (best : Option Nat) : Prop :=
  fr ≤ p ∧ p ≤ len + 1 ∧ en = optI best ∧ ((sI = -1 ∧ best = X) ∨ ∃ i g st, i < kn ∧ sI = nI i ∧ lbl i = g * 4 + sortB (bvI len u p) ∧ KsI K V F S len u n b how lo fr X p st best (KpL stp cnt i) g)
variable {kn kn2 v i : Nat} {stp cnt lbl stp2 cnt2 lbl2 : Nat → Nat} {sI en : Int32}
theorem SRI_step (H : Pg n kC vC fC sC K V F S) (hu : ∀ i, u i < 256) (hb : b < n) (hh : how < 3) (hlo : how = 0 → lo = false) (hfr : fr ≤ p) (hp : p ≤ len) (hen : en = optI best) {st : List Nat} (hlb : lbl i = g * 4 + sortB (bvI len u p)) (hks : KsI K V F S len u n b how lo fr X p st best (KpL stp cnt i) g) (hg : g < 4) (hv : v < 256) (hM : MoveTo K V F S n b kn2 stp2 cnt2 lbl2 (lbl i) (KpL stp cnt i) (syB len u p) v) :
    SRI K V F S len u n b how lo fr X kn2 stp2 cnt2 lbl2 (p + 1) (nI (v / 2) - nI 2) (if v % 2 = 1 then nI p else en) (if v % 2 = 1 then some p else best) := by
  have hs4 := sort_lt (bvI len u p)
  have hl1 : lbl i / 4 = g := by omega
  have hl2 : lbl i % 4 = sortB (bvI len u p) := by omega
  have hq := ks_q hu hp hh hlo hks hl1 hl2
  have hun := ks_un H.FS hb hp hks
  have hF1 : ∀ i, 0 < i → i < n → K i = 1 → F i < n := fun i h0 hi hk => ((H.2.2.2 i h0 hi).2.2.2.2.2.2.2.1 (by omega)).2
  rw [← hq] at hun
  have hlt : ∀ x ∈ (SPv K V F S n b (lbl i) (KpL stp cnt i) (syB len u p)).2, x < n := by
    rw [hq]
    refine gk_lt hF1 _ (rkF_lt H.FS (fun x hx => ?_))
    rcases List.mem_append.mp hx with hx | hx
    · exact hks.1 x hx
    · unfold kbG at hx; split at hx
      · rw [List.mem_singleton.mp hx]; exact hb
      · cases hx
  generalize hqe : SPv K V F S n b (lbl i) (KpL stp cnt i) (syB len u p) = q at hM hun hlt
  obtain ⟨qe, qt⟩ := q
  have hodd : (v % 2 = 1) ↔ qe = true := by
    rcases hM with ⟨-, -, nx, -, -, -, e⟩ | ⟨-, e⟩ <;> (rw [hqe] at e; rw [e]; cases qe <;> simp <;> omega)
  have hb2 : (if v % 2 = 1 then some p else best) = (if qe = true then some p else best) := by
    by_cases h : qe = true
    · rw [if_pos h, if_pos (hodd.mpr h)]
    · rw [if_neg h, if_neg (fun z => h (hodd.mp z))]
  have hen2 : (if v % 2 = 1 then nI p else en) = optI (if v % 2 = 1 then some p else best) := by
    by_cases h : v % 2 = 1
    · rw [if_pos h, if_pos h]; rfl
    · rw [if_neg h, if_neg h]; exact hen
  refine ⟨by omega, by omega, hen2, ?_⟩
  rw [hb2]
  have hg0 : how = 0 → gtN (lbl i) qe = if (if qe = true then some p else best) = none then 0 else 1 := by
    intro h0
    have := hks.2.2.2.1 h0
    unfold gtN
    rw [hl1]
    cases qe with
    | true => cases hbq : best <;> simp [hbq] at this <;> simp [this]
    | false => simp [this]
  have hg1 : how ≠ 0 → gtN (lbl i) qe = goN how lo := by
    intro h0
    have := hks.2.2.2.2 h0
    unfold gtN
    rw [hl1, if_neg]
    · exact this
    · rintro ⟨-, e⟩
      rw [this] at e
      unfold goN at e
      split at e
      · split at e <;> omega
      · split at e <;> omega
  rcases hM with ⟨hy, hO, nx, hnx, hL, hlx, e⟩ | ⟨hno, e⟩
  · right
    rw [hqe] at hO hL hlx e
    have hpl : p < len := by
      apply Classical.byContradiction
      intro hge
      exact hy (by rw [syB, if_neg hge])
    have hyu : syB len u p = u p := by rw [syB, if_pos hpl]
    have hbv : bvI len u (p + 1) = nI (u p) := by rw [bvI, if_pos ⟨by omega, by omega⟩, show p + 1 - 1 = p by omega]
    have hte : qe.toNat ≤ 1 := by cases qe <;> decide
    have e : v = (nx + 2) * 2 + qe.toNat := e
    refine ⟨nx, gtN (lbl i) qe, qt, hnx, ?_, by rw [hlx, hyu, hbv], hlt, ?_, hun, hg0, hg1⟩
    · rw [show v / 2 = nx + 2 by omega, pk_sub (by omega)]; rfl
    · have hbe : begG b (gtN (lbl i) qe) = kbG b how fr (p + 1) (if qe = true then some p else best) := by
        unfold begG kbG
        by_cases h0 : how = 0
        · rw [hg0 h0]
          by_cases hbn : (if qe = true then some p else best) = none
          · rw [if_pos hbn, if_pos rfl, if_pos ⟨hbn, Or.inl h0⟩]
          · rw [if_neg hbn, if_neg (by decide), if_neg (fun z => hbn z.1)]
        · have hgn : goN how lo ≠ 0 := by
            unfold goN; split
            · split <;> omega
            · split
              · omega
              · omega
          rw [hg1 h0, if_neg hgn, if_neg (fun z => by rcases z.2 with z | z; (exact h0 z); (omega))]
      have hkb : ∀ x ∈ kbG b how fr (p + 1) (if qe = true then some p else best), x < n := by
        intro x hx
        unfold kbG at hx
        by_cases hc : (if qe = true then some p else best) = none ∧ (how = 0 ∨ p + 1 = fr)
        · rw [if_pos hc] at hx; rw [List.mem_singleton.mp hx]; exact hb
        · rw [if_neg hc] at hx; cases hx
      rw [hL, hbe, rk_dd H.FS qt [] _ _ (fun x hx => by cases hx) hlt hkb]
      rfl
  · left
    rw [hqe] at hno e
    have hte : qe.toNat ≤ 1 := by cases qe <;> decide
    have e : v = 2 + qe.toNat := e
    refine ⟨by rw [show v / 2 = 1 by omega]; rfl, ?_⟩
    by_cases hpl : p < len
    · have hy : syB len u p ≠ 256 := by rw [syB, if_pos hpl]; have := hu p; omega
      have hO : addA [] qt = [] := Classical.byContradiction (fun hx => hno ⟨hy, Or.inl hx⟩)
      have hgt : gtN (lbl i) qe ≠ 0 := fun hx => hno ⟨hy, Or.inr hx⟩
      have hqt : qt = [] := by
        cases hqt : qt with
        | nil => rfl
        | cons a t =>
          rw [hqt, addA_cons] at hO
          have hmem : ∀ (T A : List Nat) (x : Nat), x ∈ A → x ∈ addA A T := by
            intro T
            induction T with
            | nil => intro A x hx; exact hx
            | cons c T ih => intro A x hx; rw [addA_cons]; exact ih _ _ (addL_mem.mpr (Or.inl hx))
          have := hmem t (addL [] a) a (addL_mem.mpr (Or.inr rfl))
          rw [hO] at this; cases this
      have hcond : how ≠ 0 ∨ (if qe = true then some p else best) ≠ none := by
        by_cases h0 : how = 0
        · right; intro hx; rw [hg0 h0, if_pos hx] at hgt; exact hgt rfl
        · exact Or.inl h0
      have hun : ksN K V F S len u n b how lo fr (len + 1 - (p + 1)) (p + 1) qt (if qe = true then some p else best) = X := hun
      rw [hqt, ks_nil H.FS _ _ _ hcond (by omega)] at hun
      exact hun
    · have hun : ksN K V F S len u n b how lo fr (len + 1 - (p + 1)) (p + 1) qt (if qe = true then some p else best) = X := hun
      rw [show len + 1 - (p + 1) = 0 by omega, ksN] at hun
      exact hun
theorem SRI_end (h : SRI K V F S len u n b how lo fr X kn stp cnt lbl p sI en best) (hk : kn ≤ 64) (hp : len < p ∨ sI = -1) : en = optI X := by
  obtain ⟨h1, h2, h3, h4⟩ := h
  rcases h4 with ⟨_, e⟩ | ⟨i, g, st, h5, h6, h7, h8⟩
  · rw [h3, e]
  · rcases hp with hp | hp
    · have := h8.2.2.1
      rw [show len + 1 - p = 0 by omega, ksN] at this
      rw [h3, this]
    · rw [hp] at h6; exact absurd h6.symm (nI_nm1 (by omega))
theorem SRI_0 (hfr : fr ≤ len) (hh : how < 3) {i : Nat} (hi : i < kn) (hL : KpL stp cnt i = if goN how lo ≠ 0 then [b] else []) (hl : lbl i = goN how lo * 4 + sortB (bvI len u fr)) : SRI K V F S len u n b how lo fr (ksN K V F S len u n b how lo fr (len + 1 - fr) fr [] none) kn stp cnt lbl fr (nI i) (-1) none := by
  refine ⟨Nat.le_refl _, by omega, rfl, Or.inr ⟨i, goN how lo, [], hi, rfl, hl, (fun x hx => by cases hx), ?_, rfl, fun h0 => by rw [h0]; rfl, fun _ => rfl⟩⟩
  have e : kbG b how fr fr none = [b] := by unfold kbG; rw [if_pos ⟨rfl, Or.inr rfl⟩]
  rw [hL, e]
  unfold begG
  by_cases h : goN how lo = 0
  · rw [if_neg (by omega), if_pos h]
  · rw [if_pos h, if_neg h]; rfl
end ST6
