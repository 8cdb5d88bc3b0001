/-! The run with marks answers as the reference: the whole. -/
section MR2
variable {K V F S : Nat → Nat} {len : Nat} {u : Nat → Nat} {L : Nat} {al : Bool} {p n b how fr : Nat} {lo : Bool}
theorem gd_ac {ch : Nd2 → Sv → List (Nd2 × Sv)} {ac : Nd2 → Bool} : ∀ (m : Nat) (st : List (Nd2 × Sv)) (T : Nd2 → Bool) (x : Nd2) (sv : Sv), gdN ch ac m st T = some (x, sv) → ac x = true := by
  intro m
  induction m with
  | zero => intro st T x sv h; simp [gdN] at h
  | succ m ih =>
    intro st T x sv h
    match st with
    | [] => simp [gdN] at h
    | (y, sy) :: r =>
      rw [gdN] at h
      split at h
      · exact ih _ _ _ _ h
      · split at h
        · rename_i ha; cases h; exact ha
        · exact ih _ _ _ _ h
theorem Fw_ch {p0 : Nat} : ∀ x : Nd2, Fw K V F S len u p0 b x.1 x.2 → ∀ sv, ∀ y ∈ chG K V F S len u x sv, Fw K V F S len u p0 b y.1.1 y.1.2 := by
  intro x hx sv y h
  unfold chG at h
  split at h
  · rename_i ht
    rw [List.mem_singleton.mp h]
    exact Fw_t hx ht
  · split at h
    · rename_i hp
      obtain ⟨z, hz, rfl⟩ := List.mem_map.mp h
      unfold psh at hz
      split at hz
      · rename_i h2
        rcases List.mem_cons.mp hz with rfl | hz
        · exact Fw_f hx hp
        · rw [List.mem_singleton.mp hz]
          exact Fw_s hx hp h2
      · rw [List.mem_singleton.mp hz]
        exact Fw_f hx hp
    · cases h
theorem mr_none {M : Nat} (hno : ∀ p, Start len how fr p → ¬ Can K V F S len u len (decide (how = 2)) p b) (hfr : fr ≤ len) : ∀ (m p : Nat) (T : Nd2 → Bool), p + m = (if how = 0 then len + 1 else fr + 1) → fr ≤ p → mrN (chG K V F S len u) len how b M lo m p T = none := by
  intro m
  induction m with
  | zero => intro p T _ _; rfl
  | succ m ih =>
    intro p T hm hp
    have hs : Start len how fr p := by
      refine ⟨hp, ?_, fun h0 => ?_⟩
      · split at hm <;> omega
      · rw [if_neg h0] at hm; omega
    obtain ⟨g1, -⟩ := df_dead (K := K) (V := V) (F := F) (S := S) (len := len) (u := u) (how := how) (lo := lo) M [((p, b), svB p)] T none (fun x hx => by rw [List.mem_singleton.mp hx]; exact hno p hs)
    rw [mrN, g1]
    exact ih (p + 1) _ (by omega) (by omega)
theorem mr_some (H : PkH K V F S len n b how fr) {M p0 e : Nat} {sv : Sv} (hM : 2 * ((len + 1) * n) + 1 < M) (hst0 : Start len how fr p0) (hmin : ∀ p1, p1 < p0 → Start len how fr p1 → ¬ Can K V F S len u len (decide (how = 2)) p1 b) (hLB : LB K V F S len u b how lo p0 L al) (hpL : p0 ≤ L) (hg : gwN K V F S len u L al n (L + 1 - p0) p0 b (fun _ => -1) = some (e, sv)) : ∀ (m p : Nat) (T : Nd2 → Bool), p + m = (if how = 0 then len + 1 else fr + 1) → fr ≤ p → p ≤ p0 → (∀ x, T x = true → ¬ Can K V F S len u len (decide (how = 2)) x.1 x.2) → mrN (chG K V F S len u) len how b M lo m p T = some (e, upd sv 0 (nI p0)) := by
  obtain ⟨hF, hS, hF1, hV, hb, hfr, hl⟩ := id H
  obtain ⟨N, hN, hNl, hNm⟩ := Nd_all n (len + 1)
  intro m
  induction m with
  | zero =>
    intro p T h1 h2 h3
    have := hst0.2.1
    by_cases h0 : how = 0
    · rw [if_pos h0] at h1; omega
    · rw [if_neg h0] at h1
      have := hst0.2.2 h0
      omega
  | succ m ih =>
    intro p T hm hp hp0 hT
    rcases Nat.lt_or_ge p p0 with hlt | hge
    · have hs : Start len how fr p := ⟨hp, by have := hst0.2.1; omega, fun h0 => by have := hst0.2.2 h0; omega⟩
      obtain ⟨g1, g2⟩ := df_dead (K := K) (V := V) (F := F) (S := S) (len := len) (u := u) (how := how) (lo := lo) M [((p, b), svB p)] T none (fun x hx => by rw [List.mem_singleton.mp hx]; exact hmin p hlt hs)
      rw [mrN, g1]
      refine ih (p + 1) _ (by omega) (by omega) (by omega) (fun x hx => ?_)
      rcases g2 x hx with h | h
      · exact hT x h
      · exact h
    · obtain rfl : p = p0 := by omega
      have hpl : p ≤ len := hst0.2.1
      have hMk : MkH K V F S len u L al n N := ⟨hF, hS, hF1, hN, fun q k h1 h2 => (hNm q k).mpr ⟨by omega, h2⟩, fun q k ht hc => by
        rcases hLB with ⟨_, rfl, _⟩ | ⟨_, _, rfl, _⟩
        · exact (takB_K ht).2.2.1
        · obtain ⟨mm, hmm⟩ := hc
          have := Can_leT mm _ _ hmm
          omega⟩
      have hcn : cnV N T ≤ (len + 1) * n := by
        rw [← hNl]
        exact List.countP_le_length
      have hgd := gd_gw hMk _ p b (svB p) M T e _ (gwN_B hV hg p) hpl hb (by omega) (fun q j _ hc => by
        cases hq : T (q, j) with
        | false => rfl
        | true =>
          refine absurd ?_ (hT (q, j) hq)
          rcases hLB with ⟨_, rfl, rfl⟩ | ⟨h1, _, rfl, h2, _⟩
          · exact hc
          · obtain ⟨mm, hmm⟩ := hc
            rw [decide_eq_false h1]
            exact ⟨mm, Can_wk h2 _ _ _ hmm⟩)
      have key : (dfN (chG K V F S len u) len how lo M [((p, b), svB p)] T none).1 = some (e, upd sv 0 (nI p)) := by
        cases hlo : lo with
        | false =>
          rcases hLB with ⟨_, rfl, rfl⟩ | ⟨_, h, _⟩
          · exact df_first _ _ _ _ _ hgd
          · rw [hlo] at h; cases h
        | true =>
          have hal : al = true := by
            rcases hLB with ⟨h, _, h3⟩ | ⟨_, _, h, _⟩
            · rcases h with h | h
              · rw [h3, h]; rfl
              · rw [hlo] at h; cases h
            · exact h
          subst hal
          have hac := gd_ac _ _ _ _ _ hgd
          have heL : e = L := by simpa [tgB, endB] using hac
          rw [heL]
          refine df_longest (Q := fun x => Fw K V F S len u p b x.1 x.2) (fun x hx => ⟨Fw_ch x hx, fun h0 hmay => ?_⟩) ?_ _ _ _ _ _ _ (fun x hx => by rw [List.mem_singleton.mp hx]; exact Fw_0) (fun q hq => by cases hq) hgd
          · rcases hLB with ⟨_, rfl, h3⟩ | ⟨_, _, _, _, _, hmax⟩
            · exact Fw_len hpl hx
            · rw [h0] at hx; exact hmax _ hx
          · rcases hLB with ⟨_, rfl, h3⟩ | ⟨h, _⟩
            · simp [mayB]
            · simp [mayB, h]
      rw [mrN, key]
/-- the run with marks answers as the reference -/
theorem mr_ref (H : PkH K V F S len n b how fr) {M : Nat} (hM : 2 * ((len + 1) * n) + 1 < M) {r : Option (Nat × Nat × Sv)} (h : RefR K V F S len u n b how lo fr r) : mrN (chG K V F S len u) len how b M lo (if how = 0 then len + 1 - fr else 1) fr (fun _ => false) = r.map (fun x => (x.2.1, upd x.2.2 0 (nI x.1))) := by
  have hfr : fr ≤ len := H.2.2.2.2.2.1
  have hm : fr + (if how = 0 then len + 1 - fr else 1) = (if how = 0 then len + 1 else fr + 1) := by split <;> omega
  rcases h with ⟨rfl, hno⟩ | ⟨p0, e, sv, rfl, h1, h2, h3, L, al, h4, h5, h6⟩
  · exact mr_none hno hfr _ _ _ hm (Nat.le_refl _)
  · exact mr_some H hM h1 h3 h4 h5 h6 _ _ _ hm (Nat.le_refl _) h1.1 (fun x hx => by cases hx)
end MR2
