section MK2
variable {K V F S kC vC fC sC : Nat → Nat} {len : Nat} {u : Nat → Nat} {p n how k c : Nat} {lo : Bool} {js : Nat → Nat} {sv : Sv} {g : Nat → Bool} {best : Option (Nat × Sv)} {N : List Nd2}
/-- all pairs -/
def AllN (n len : Nat) (N : List Nd2) : Prop := N.Nodup ∧ N.length = (len + 1) * n ∧ ∀ q k, (q, k) ∈ N ↔ (q < len + 1 ∧ k < n)
def MI (n len c : Nat) (js : Nat → Nat) (sv : Sv) : Prop := (∀ i, i < c → MobOk n len (js i)) ∧ SvOk sv ∧ Nm sv
/-- what a visit leaves of the marks -/
def MV (K V F S : Nat → Nat) (len : Nat) (u : Nat → Nat) (n how : Nat) (lo : Bool) (N : List Nd2) (p k c : Nat) (js : Nat → Nat) (sv : Sv) (g : Nat → Bool) (best : Option (Nat × Sv)) (c2 : Nat) (js2 : Nat → Nat) (sv2 : Sv) (g2 : Nat → Bool) (best2 : Option (Nat × Sv)) : Prop :=
  MI n len c2 js2 sv2 ∧ BeOk best2 ∧ c2 + cnV N (tdB n len g2) ≤ c + 1 + cnV N (tdB n len g) ∧ 2 * cnV N (tdB n len g2) + c2 ≤ 2 * cnV N (tdB n len g) + c ∧ (best2 ≠ none ∧ lo = false → ∀ m, dfN (chG K V F S len u) len how lo (m + 1) (((p, k), sv) :: absM js c sv) (tdB n len g) best = (best2, tdB n len g2)) ∧
  (¬ (best2 ≠ none ∧ lo = false) → ∀ m, dfN (chG K V F S len u) len how lo (m + 1) (((p, k), sv) :: absM js c sv) (tdB n len g) best = dfN (chG K V F S len u) len how lo m (absM js2 c2 sv2) (tdB n len g2) best2)
theorem cnV_td (hN : AllN n len N) (hk : k < n) (hp : p ≤ len) (h : g (p * n + k) = false) : cnV N (tdB n len (ub g (p * n + k) true)) + 1 = cnV N (tdB n len g) := by
  rw [tdB_ub hk hp]
  exact cnV_uv hN.1 ((hN.2.2 p k).mpr ⟨by omega, hk⟩) (by simp [tdB, h])
theorem td_f (h : g (p * n + k) = false) : ¬ tdB n len g (p, k) = true := by simp [tdB, h]
theorem MV_seen (hI : MI n len c js sv) (hk : k < n) (hp : p ≤ len) (hb : BeOk best) (hl : lo = false → best = none) (h : g (p * n + k) = true) : MV K V F S len u n how lo N p k c js sv g best c js sv g best := by
  refine ⟨hI, hb, by omega, by omega, fun hx => absurd (hl hx.2) hx.1, fun _ m => ?_⟩
  rw [dfN, if_pos (by simp [tdB, hk, hp, h])]
/-- the step has been marked: what comes of it -/
theorem MV_go (hN : AllN n len N) (hI : MI n len c js sv) (hk : k < n) (hp : p ≤ len) (hb : BeOk best) (hl : lo = false → best = none) (h : g (p * n + k) = false) (h0 : k ≠ 0) {c2 : Nat} {js2 : Nat → Nat} {sv2 : Sv} (hI2 : MI n len c2 js2 sv2) (hc : c2 ≤ c + 2) (e : chG K V F S len u (p, k) sv ++ absM js c sv = absM js2 c2 sv2) : MV K V F S len u n how lo N p k c js sv g best c2 js2 sv2 (ub g (p * n + k) true) best := by
  have q := cnV_td hN hk hp h
  refine ⟨hI2, hb, by omega, by omega, fun hx => absurd (hl hx.2) hx.1, fun _ m => ?_⟩
  rw [dfN, if_neg (td_f h), if_neg h0, e, tdB_ub hk hp]
theorem MV_end1 (hN : AllN n len N) (hI : MI n len c js sv) (hn : 0 < n) (hp : p ≤ len) (hle : len ≤ 200) (h : g (p * n + 0) = false) (hm : mayB len how p = true) (hg : gtB best p = true) : MV K V F S len u n how lo N p 0 c js sv g best c js sv (ub g (p * n + 0) true) (some (p, sv)) := by
  have q := cnV_td hN hn hp h
  have e : (mayB len how p && gtB best p) = true := by rw [hm, hg]; rfl
  refine ⟨hI, fun x hx => by cases hx; show p ≤ 200; omega, by omega, by omega, fun hx m => ?_, fun hx m => ?_⟩
  · rw [dfN, if_neg (td_f h), if_pos rfl, if_pos e, if_pos hx, tdB_ub hn hp]
  · rw [dfN, if_neg (td_f h), if_pos rfl, if_pos e, if_neg hx, tdB_ub hn hp]
theorem MV_end0 (hN : AllN n len N) (hI : MI n len c js sv) (hn : 0 < n) (hp : p ≤ len) (hb : BeOk best) (hl : lo = false → best = none) (h : g (p * n + 0) = false) (hm : (mayB len how p && gtB best p) = false) : MV K V F S len u n how lo N p 0 c js sv g best c js sv (ub g (p * n + 0) true) best := by
  have q := cnV_td hN hn hp h
  have e : ¬ (mayB len how p && gtB best p) = true := by rw [hm]; decide
  refine ⟨hI, hb, by omega, by omega, fun hx => absurd (hl hx.2) hx.1, fun hx m => ?_⟩
  rw [dfN, if_neg (td_f h), if_pos rfl, if_neg e, if_neg hx, tdB_ub hn hp]
theorem MobOk_un {v : Nat} (h : ∀ i, i < c → MobOk n len (js i)) (hv : MobOk n len v) : ∀ i, i < c + 1 → MobOk n len (un js c v i) := by
  intro i hi
  by_cases hc : i = c
  · subst hc; rw [un_s]; exact hv
  · rw [un_n hc]; exact h i (by omega)
theorem Mob_st (hn : n ≤ 200) (hle : len ≤ 200) {q a : Nat} (hq : q ≤ len) (ha : a < n) : MobOk n len (q * 256 + a) := Or.inl ⟨by omega, by omega, by omega⟩
theorem MV_take (H : Pg n kC vC fC sC K V F S) (hN : AllN n len N) (hI : MI n len c js sv) (hk : k < n) (hle : len ≤ 200) (hb : BeOk best) (hl : lo = false → best = none) (h : g (p * n + k) = false) (h1 : kC k = 1) (ht : takB K V len u k p = true) : MV K V F S len u n how lo N p k c js sv g best (c + 1) (un js c ((p + 1) * 256 + fC k)) sv (ub g (p * n + k) true) best := by
  have h0 := Pg_0 H (k := k) (by omega)
  have hF := Pg_at H hk (by omega) (by omega)
  have hp : p < len := (takB_K ht).2.2.1
  have hn := H.2.1
  refine MV_go hN hI hk (by omega) hb hl h (by omega) ⟨MobOk_un hI.1 (Mob_st hn hle (by omega) hF.1), hI.2⟩ (by omega) ?_
  rw [absM_push (by omega) (by omega), chG, if_pos ht, hF.2]; rfl
theorem MV_nil (H : Pg n kC vC fC sC K V F S) (hN : AllN n len N) (hI : MI n len c js sv) (hk : k < n) (hp : p ≤ len) (hb : BeOk best) (hl : lo = false → best = none) (h : g (p * n + k) = false) (h0 : k ≠ 0) (ht : ¬ takB K V len u k p = true) (hpas : ¬ pasB K V len u k p = true) : MV K V F S len u n how lo N p k c js sv g best c js sv (ub g (p * n + k) true) best := by
  refine MV_go hN hI hk hp hb hl h h0 hI (by omega) ?_
  rw [chG, if_neg ht, if_neg hpas]; rfl
theorem tak_no (H : Pg n kC vC fC sC K V F S) (hk : k < n) (h1 : kC k ≠ 1) : ¬ takB K V len u k p = true := by
  intro h
  have h2 := takB_K h
  have h3 := Pg_K H h2.1 hk
  omega
theorem MV_one (H : Pg n kC vC fC sC K V F S) (hN : AllN n len N) (hI : MI n len c js sv) (hk : k < n) (hp : p ≤ len) (hle : len ≤ 200) (hb : BeOk best) (hl : lo = false → best = none) (h : g (p * n + k) = false) (h4 : kC k = 4) (hs : soB len u (vC k) p = true) : MV K V F S len u n how lo N p k c js sv g best (c + 1) (un js c (p * 256 + fC k)) sv (ub g (p * n + k) true) best := by
  have h0 := Pg_0 H (k := k) (by omega)
  have hF := Pg_at H hk (by omega) (by omega)
  have hK := Pg_K H h0 hk
  have hn := H.2.1
  have hpas : pasB K V len u k p = true := by rw [(Pg_4 H hk h4).2] at hs; simp [pasB, h0, hK, h4, hs]
  refine MV_go hN hI hk hp hb hl h (by omega) ⟨MobOk_un hI.1 (Mob_st hn hle hp hF.1), hI.2⟩ (by omega) ?_
  rw [absM_push (by omega) (by omega), chG, if_neg (tak_no H hk (by omega)), if_pos hpas, psh, svk, if_neg (by rw [hK]; omega), if_neg (by rw [hK]; omega), hF.2]; rfl
theorem MV_two (H : Pg n kC vC fC sC K V F S) (hN : AllN n len N) (hI : MI n len c js sv) (hk : k < n) (hp : p ≤ len) (hle : len ≤ 200) (hb : BeOk best) (hl : lo = false → best = none) (h : g (p * n + k) = false) (h4 : kC k = 2) : MV K V F S len u n how lo N p k c js sv g best (c + 1 + 1) (un (un js c (p * 256 + sC k)) (c + 1) (p * 256 + fC k)) sv (ub g (p * n + k) true) best := by
  have h0 := Pg_0 H (k := k) (by omega)
  have hF := Pg_at H hk (by omega) (by omega)
  have hS := Pg_2 H hk h4
  have hK := Pg_K H h0 hk
  have hn := H.2.1
  have hpas : pasB K V len u k p = true := by simp [pasB, h0, hK, h4]
  refine MV_go hN hI hk hp hb hl h (by omega) ⟨MobOk_un (MobOk_un hI.1 (Mob_st hn hle hp hS.1)) (Mob_st hn hle hp hF.1), hI.2⟩ (by omega) ?_
  rw [absM_push (by omega) (by omega), absM_push (by omega) (by omega), chG, if_neg (tak_no H hk (by omega)), if_pos hpas, psh, svk, if_neg (by rw [hK]; omega), if_pos (by rw [hK]; omega), hF.2, hS.2]; rfl
theorem MV_save (H : Pg n kC vC fC sC K V F S) (hN : AllN n len N) (hI : MI n len c js sv) (hk : k < n) (hp : p ≤ len) (hle : len ≤ 200) (hb : BeOk best) (hl : lo = false → best = none) (h : g (p * n + k) = false) (h4 : kC k = 3) {hv : Nat} (hh : hv ≤ 201) (he : sv (vC k) = nI hv - nI 1) : MV K V F S len u n how lo N p k c js sv g best (c + 1 + 1) (un (un js c (51456 + vC k * 256 + hv)) (c + 1) (p * 256 + fC k)) (upd sv (vC k) (nI p)) (ub g (p * n + k) true) best := by
  have h0 := Pg_0 H (k := k) (by omega)
  have hF := Pg_at H hk (by omega) (by omega)
  have hV := Pg_3 H hk h4
  have hK := Pg_K H h0 hk
  have hn := H.2.1
  have hpas : pasB K V len u k p = true := by simp [pasB, h0, hK, h4]
  refine MV_go hN hI hk hp hb hl h (by omega) ⟨MobOk_un (MobOk_un hI.1 (Or.inr ⟨by omega, by omega, by omega⟩)) (Mob_st hn hle hp hF.1), SvOk_upd hI.2.1 (plI_n (by omega)), Nm_upd hI.2.2 (by omega)⟩ (by omega) ?_
  rw [absM_push (by omega) (by omega), absM_pb (by omega) hh he, chG, if_neg (tak_no H hk (by omega)), if_pos hpas, psh, svk, if_pos (by rw [hK]; omega), if_neg (by rw [hK]; omega), hF.2, hV.2.2]; rfl
theorem gt_be (hb : BeOk best) (hp : p < 2 ^ 31) : beS best 1 < nI p ↔ gtB best p = true := by
  cases best with
  | none =>
    constructor
    · intro _; rfl
    · intro _; exact Int32.lt_of_lt_of_le (by decide) (nI_pos' hp)
  | some x =>
    have h1 := hb x rfl
    have h2 : beS (some x) 1 = nI x.1 := pk_us
    rw [h2, nI_ltI (by omega) hp]
    simp [gtB]
/-- what the walk from one beginning keeps -/
def DI (K V F S : Nat → Nat) (len : Nat) (u : Nat → Nat) (n how : Nat) (lo : Bool) (N : List Nd2) (X : Option (Nat × Sv) × (Nd2 → Bool)) (B : Nat) (m c : Nat) (js : Nat → Nat) (sv : Sv) (g : Nat → Bool) (be : Sv) (best : Option (Nat × Sv)) (tk turn : Nat) : Prop :=
  MI n len c js sv ∧ be = beS best ∧ BeOk best ∧ (lo = false → best = none) ∧ c + cnV N (tdB n len g) ≤ 40201 ∧ turn + (2 * cnV N (tdB n len g) + c) ≤ 80401 ∧ 2 * cnV N (tdB n len g) + c < m ∧ tk + 2 * cnV N (tdB n len g) + c ≤ B ∧ dfN (chG K V F S len u) len how lo m (absM js c sv) (tdB n len g) best = X
variable {X : Option (Nat × Sv) × (Nd2 → Bool)} {B m tk turn : Nat} {be : Sv}
theorem cnV_le (hN : AllN n len N) (hn : n ≤ 200) (hle : len ≤ 200) (T : Nd2 → Bool) : cnV N T ≤ (len + 1) * n ∧ (len + 1) * n ≤ 40200 := by
  have h1 : cnV N T ≤ N.length := List.countP_le_length
  rw [hN.2.1] at h1
  exact ⟨h1, by have := Nat.mul_le_mul (show len + 1 ≤ 201 by omega) hn; omega⟩
theorem DI_0 (H : Pg n kC vC fC sC K V F S) (hN : AllN n len N) (hle : len ≤ 200) {b M : Nat} (hM : 2 * ((len + 1) * n) + 1 < M) (hp : p ≤ len) (hb : b < n) : DI K V F S len u n how lo N (dfN (chG K V F S len u) len how lo M [((p, b), svB p)] (tdB n len g) none) (tk + 2 * cnV N (tdB n len g) + 1) M (0 + 1) (un js 0 (p * 256 + b)) (svB p) g (fun _ => -1) none tk 0 := by
  have hn := H.2.1
  have q := cnV_le hN hn hle (tdB n len g)
  have s := SvOk_B (p := p) (by omega)
  refine ⟨⟨fun i hi => ?_, s.1, s.2⟩, rfl, (fun x hx => by cases hx), fun _ => rfl, by omega, by omega, by omega, by omega, ?_⟩
  · rw [show i = 0 by omega, un_s]; exact Mob_st hn hle hp hb
  · rw [absM_push (by omega) (by omega)]; rfl
theorem DI_pb (h : DI K V F S len u n how lo N X B m c js sv g be best tk turn) (hc : 0 < c) (hj : 51456 ≤ js (c - 1)) : DI K V F S len u n how lo N X B m (c - 1) js (pbS sv (js (c - 1))) g be best tk (turn + 1) ∧ (js (c - 1) - 51456) / 256 < 20 := by
  obtain ⟨h1, h2, h3, h4, h5, h6, h7, h8, h9⟩ := h
  obtain ⟨d, rfl⟩ : ∃ d, c = d + 1 := ⟨c - 1, by omega⟩
  rw [Nat.add_sub_cancel] at hj ⊢
  have hj2 : (js d - 51456) / 256 < 20 ∧ (js d - 51456) % 256 ≤ 201 := by
    rcases h1.1 d (by omega) with hq | hq
    · omega
    · exact hq.2
  rw [absM, if_pos hj] at h9
  exact ⟨⟨⟨fun i hi => h1.1 i (by omega), SvOk_upd h1.2.1 ⟨_, hj2.2, rfl⟩, Nm_upd h1.2.2 hj2.1⟩, h2, h3, h4, by omega, by omega, by omega, by omega, h9⟩, hj2.1⟩
theorem DI_pop (h : DI K V F S len u n how lo N X B m c js sv g be best tk turn) (hc : 0 < c) (hj : ¬ 51456 ≤ js (c - 1)) : MI n len (c - 1) js sv ∧ js (c - 1) % 256 < n ∧ js (c - 1) / 256 ≤ len ∧ absM js c sv = ((js (c - 1) / 256, js (c - 1) % 256), sv) :: absM js (c - 1) sv := by
  obtain ⟨h1, -⟩ := h
  obtain ⟨d, rfl⟩ : ∃ d, c = d + 1 := ⟨c - 1, by omega⟩
  rw [Nat.add_sub_cancel] at hj ⊢
  have hq : js d % 256 < n ∧ js d / 256 ≤ len := by
    rcases h1.1 d (by omega) with hq | hq
    · exact hq.2
    · exact absurd hq.1 hj
  exact ⟨⟨fun i hi => h1.1 i (by omega), h1.2⟩, hq.1, hq.2, by rw [absM, if_neg hj]⟩
theorem DI_visit (h : DI K V F S len u n how lo N X B m c js sv g be best tk turn) (hc : 0 < c) (hj : ¬ 51456 ≤ js (c - 1)) {c2 : Nat} {js2 : Nat → Nat} {sv2 be2 : Sv} {g2 : Nat → Bool} {best2 : Option (Nat × Sv)} (hV : MV K V F S len u n how lo N (js (c - 1) / 256) (js (c - 1) % 256) (c - 1) js sv g best c2 js2 sv2 g2 best2) (hb2 : be2 = beS best2) :
    (best2 ≠ none ∧ lo = false → X = (best2, tdB n len g2) ∧ tk + 1 + 2 * cnV N (tdB n len g2) ≤ B) ∧ (¬ (best2 ≠ none ∧ lo = false) → DI K V F S len u n how lo N X B (m - 1) c2 js2 sv2 g2 be2 best2 (tk + 1) (turn + 1)) := by
  have hp := DI_pop h hc hj
  obtain ⟨h1, h2, h3, h4, h5, h6, h7, h8, h9⟩ := h
  obtain ⟨g1, g3, g4, g5, g6, g7⟩ := hV
  obtain ⟨m, rfl⟩ : ∃ d, m = d + 1 := ⟨m - 1, by omega⟩
  rw [hp.2.2.2] at h9
  refine ⟨fun hx => ⟨?_, by omega⟩, fun hx => ⟨g1, hb2, g3, fun hl => ?_, by omega, by omega, by omega, by omega, ?_⟩⟩
  · rw [← h9]; exact g6 hx m
  · cases hq : best2 with
    | none => rfl
    | some x => exact absurd ⟨by rw [hq]; simp, hl⟩ hx
  · rw [← h9, Nat.add_sub_cancel]; exact (g7 hx m).symm
theorem DI_end (h : DI K V F S len u n how lo N X B m 0 js sv g be best tk turn) : X = (best, tdB n len g) ∧ be = beS best ∧ BeOk best ∧ tk + 2 * cnV N (tdB n len g) ≤ B := by
  obtain ⟨h1, h2, h3, h4, h5, h6, h7, h8, h9⟩ := h
  obtain ⟨m, rfl⟩ : ∃ d, m = d + 1 := ⟨m - 1, by omega⟩
  refine ⟨?_, h2, h3, by omega⟩
  rw [← h9, absM, dfN]
end MK2
