/-! The table's walk, as its methods leave it. -/
theorem acI {c o x : Nat} (hc : c < 2 ^ 24) (ho : o = 0 ∨ o = 64) (hx : x < 64) : nI (c * 128) ||| nI o ||| nI x = nI (acN c o x) := by
  have h1 : c * 128 ||| o < 2 ^ 31 := Nat.or_lt_two_pow (by omega) (by rcases ho with h | h <;> omega)
  rw [orI (by omega) (by rcases ho with h | h <;> omega), orI h1 (by omega)]; rfl
theorem tkI_n {vC : Nat → Nat} {k b : Nat} (hv : vC k < 65536) (hb : b < 256) : tkI vC k (nI b) = decide (vC k / 256 ≤ b ∧ b ≤ vC k % 256) := by
  rw [tkI]
  have e1 : decide (nI b < nI (vC k / 256)) = decide (b < vC k / 256) := decide_eq_decide.mpr (nI_ltI (by omega) (by omega))
  have e2 : decide (nI b ≤ nI (vC k % 256)) = decide (b ≤ vC k % 256) := decide_eq_decide.mpr (nI_leI (by omega) (by omega))
  rw [e1, e2]
  by_cases h1 : b < vC k / 256
  · have : ¬ vC k / 256 ≤ b := by omega
    simp [h1, this]
  · have : vC k / 256 ≤ b := by omega
    simp [h1, this]
section TB6b
variable {K V F S kC vC fC sC : Nat → Nat} {n b r q tu c R : Nat} {js sc me sor : Nat → Nat} {aC ros eC : Nat → Int32}
theorem RfR_some {k R2 : Nat} {sor2 : Nat → Nat} {ros2 : Nat → Int32} {x : Int32} (h : RfR n R sor ros k x R2 sor2 ros2) (hx : x ≠ -1) : ∃ i, i < 64 ∧ x = nI i := by
  rcases h.2.2.2 with ⟨e, _⟩ | ⟨i, h1, h2, h3, _⟩
  · exact absurd e hx
  · exact ⟨i, by have := h.1.1; omega, h3⟩
/-- what a walk of one step leaves -/
def WK (K V F S : Nat → Nat) (n b r q tu c : Nat) (js me : Nat → Nat) (aC eC : Nat → Int32) (R : Nat) (sor : Nat → Nat) (g : Bool) (c2 : Nat) (js2 sc2 : Nat → Nat) (aC2 eC2 : Nat → Int32) (R2 : Nat) (sor2 : Nat → Nat) (ros2 : Nat → Int32) : Prop :=
  RwS n R2 sor2 ros2 ∧ R ≤ R2 ∧ (∀ i, i < R → sor2 i = sor i) ∧ (∀ q2 b, q2 ≠ q → b < 256 → aC2 (q2 * 256 + b) = aC (q2 * 256 + b)) ∧ (∀ q2, q2 ≠ q → eC2 q2 = eC q2) ∧ c2 ≤ c + 1 ∧ (g = true → TW K V F S n b r q tu c2 js2 sc2 (un me (js (c - 1)) tu) aC2 (eC2 q) R2 sor2 ros2) ∧ (g = false → ¬ OneW K V F S n b)
theorem WK_never (H : Pg n kC vC fC sC K V F S) (h : TW K V F S n b r q tu c js sc me aC (eC q) R sor ros) (hc : 0 < c) (hm : me (js (c - 1)) ≠ tu) (h5 : kC (js (c - 1)) = 5) : WK K V F S n b r q tu c js me aC eC R sor true (c - 1) js sc aC eC R sor ros :=
  ⟨h.1.1, Nat.le_refl _, fun _ _ => rfl, fun _ _ _ _ => rfl, fun _ _ => rfl, by omega, fun _ => TW_never H h hc hm h5, fun h => by cases h⟩
theorem WK_end (H : Pg n kC vC fC sC K V F S) (h : TW K V F S n b r q tu c js sc me aC (eC q) R sor ros) (hc : 0 < c) (hm : me (js (c - 1)) ≠ tu) (h5 : kC (js (c - 1)) = 0) : WK K V F S n b r q tu c js me aC eC R sor true (c - 1) js sc aC (upd eC q (nI (sc (js (c - 1))))) R sor ros :=
  ⟨h.1.1, Nat.le_refl _, fun _ _ => rfl, fun _ _ _ _ => rfl, fun _ hq => pk_un hq, by omega, fun _ => by rw [pk_us]; exact TW_end H h hc hm h5, fun h => by cases h⟩
theorem WK_one (H : Pg n kC vC fC sC K V F S) (h : TW K V F S n b r q tu c js sc me aC (eC q) R sor ros) (hc : 0 < c) (hm : me (js (c - 1)) ≠ tu) {cd : Nat} (h5 : (kC (js (c - 1)) = 3 ∧ cd = sc (js (c - 1)) ||| 2 ^ (vC (js (c - 1)) - 2)) ∨ (kC (js (c - 1)) = 4 ∧ cd = sc (js (c - 1)) ||| 2 ^ (18 + vC (js (c - 1))))) :
    WK K V F S n b r q tu c js me aC eC R sor true (c - 1 + 1) (un js (c - 1) (fC (js (c - 1)))) (un sc (fC (js (c - 1))) cd) aC eC R sor ros ∧ cd < 2 ^ 24 := by
  obtain ⟨g1, g2, -, -⟩ := Sf_cn h.1 hc hm
  have hcd : cd < 2 ^ 24 := by
    rcases h5 with ⟨h3, e⟩ | ⟨h3, e⟩
    · have := Pg_3 H g1 h3
      rw [e]; exact Nat.or_lt_two_pow g2 (Nat.pow_lt_pow_right (by omega) (by omega))
    · have := Pg_4 H g1 h3
      rw [e]; exact Nat.or_lt_two_pow g2 (Nat.pow_lt_pow_right (by omega) (by omega))
  refine ⟨⟨h.1.1, Nat.le_refl _, fun _ _ => rfl, fun _ _ _ _ => rfl, fun _ _ => rfl, by omega, fun _ => ?_, fun h => by cases h⟩, hcd⟩
  rw [show c - 1 + 1 = c by omega]
  refine TW_one H h hc hm (by rcases h5 with h | h <;> omega) hcd (fun s a e hs ha => ?_)
  rcases h5 with ⟨h3, e2⟩ | ⟨h3, e2⟩
  · rw [e2, e]; exact nx_save H g1 h3 s a hs ha
  · rw [e2, e]; exact nx_ass H g1 h3 s a hs ha
theorem WK_two (H : Pg n kC vC fC sC K V F S) (h : TW K V F S n b r q tu c js sc me aC (eC q) R sor ros) (hc : 0 < c) (hm : me (js (c - 1)) ≠ tu) (h5 : kC (js (c - 1)) = 2) :
    WK K V F S n b r q tu c js me aC eC R sor true (c - 1 + 1 + 1) (un (un js (c - 1) (sC (js (c - 1)))) (c - 1 + 1) (fC (js (c - 1)))) (un (un sc (sC (js (c - 1))) (sc (js (c - 1)))) (fC (js (c - 1))) (sc (js (c - 1)))) aC eC R sor ros :=
  ⟨h.1.1, Nat.le_refl _, fun _ _ => rfl, fun _ _ _ _ => rfl, fun _ _ => rfl, by omega, fun _ => TW_two H h hc hm h5, fun h => by cases h⟩
theorem WK_full (H : Pg n kC vC fC sC K V F S) (h : TW K V F S n b r q tu c js sc me aC (eC q) R sor ros) (hc : 0 < c) (h1 : kC (js (c - 1)) = 1) {R2 : Nat} {sor2 : Nat → Nat} {ros2 : Nat → Int32} (hR : RfR n R sor ros (fC (js (c - 1))) (-1) R2 sor2 ros2) : WK K V F S n b r q tu c js me aC eC R sor false (c - 1) js sc aC eC R2 sor2 ros2 := by
  refine ⟨hR.1, hR.2.1, hR.2.2.1, fun _ _ _ _ => rfl, fun _ _ => rfl, by omega, fun h => (by cases h), fun _ => ?_⟩
  rcases hR.2.2.2 with ⟨_, e1, _, e2⟩ | ⟨i, p1, p2, p3, _⟩
  · exact TW_full H h hc h1 e1 e2
  · exact absurd p3.symm (nI_nm1 (by have := hR.1.1; omega))
theorem WK_conf (H : Pg n kC vC fC sC K V F S) (h : TW K V F S n b r q tu c js sc me aC (eC q) R sor ros) (hc : 0 < c) (h1 : kC (js (c - 1)) = 1) {i R2 b9 : Nat} {sor2 : Nat → Nat} {ros2 : Nat → Int32} (hR : RfR n R sor ros (fC (js (c - 1))) (nI i) R2 sor2 ros2) (hi : i < 64)
    (hb : b9 < 256) (hb1 : V (js (c - 1)) / 256 ≤ b9 ∧ b9 ≤ V (js (c - 1)) % 256) {x : Int32} (hx : x = nI (acN (sc (js (c - 1))) (if eC q = -1 then 0 else 64) i)) (hc1 : tbA aC q (V (js (c - 1)) / 256) (V (js (c - 1)) % 256) x b9 (q * 256 + b9) ≠ -1) (hc2 : tbA aC q (V (js (c - 1)) / 256) (V (js (c - 1)) % 256) x b9 (q * 256 + b9) ≠ x) :
    WK K V F S n b r q tu c js me aC eC R sor false (c - 1) js sc (tbA aC q (V (js (c - 1)) / 256) (V (js (c - 1)) % 256) x b9) eC R2 sor2 ros2 := by
  rw [tbA_un _ _ _ _ _ _ _ (Nat.le_refl _)] at hc1 hc2
  refine ⟨hR.1, hR.2.1, hR.2.2.1, fun q2 b h1 h2 => tbA_q _ _ _ _ _ _ _ _ (by omega) h2 h1, fun _ _ => rfl, by omega, fun h => (by cases h), fun _ => ?_⟩
  exact TW_conf H h hc h1 hR rfl hi hb hb1.1 hb1.2 hc1 (by rw [← hx]; exact hc2)
theorem WK_take (H : Pg n kC vC fC sC K V F S) (h : TW K V F S n b r q tu c js sc me aC (eC q) R sor ros) (hc : 0 < c) (hm : me (js (c - 1)) ≠ tu) (h1 : kC (js (c - 1)) = 1) {i R2 : Nat} {sor2 : Nat → Nat} {ros2 : Nat → Int32} (hR : RfR n R sor ros (fC (js (c - 1))) (nI i) R2 sor2 ros2) (hi : i < 64) {x : Int32} (hx : x = nI (acN (sc (js (c - 1))) (if eC q = -1 then 0 else 64) i))
    (hcf : ∀ b, b < 256 → V (js (c - 1)) / 256 ≤ b ∧ b ≤ V (js (c - 1)) % 256 → aC (q * 256 + b) = -1 ∨ aC (q * 256 + b) = x) : WK K V F S n b r q tu c js me aC eC R sor true (c - 1) js sc (tbA aC q (V (js (c - 1)) / 256) (V (js (c - 1)) % 256) x 256) eC R2 sor2 ros2 := by
  refine ⟨hR.1, hR.2.1, hR.2.2.1, fun q2 b h1 h2 => tbA_q _ _ _ _ _ _ _ _ (by omega) h2 h1, fun _ _ => rfl, by omega, fun _ => ?_, fun h => (by cases h)⟩
  rw [hx]
  exact TW_take H h hc hm h1 hR rfl hi (fun b h1 h2 h3 => by rw [← hx]; exact hcf b h1 ⟨h2, h3⟩)
/-- the loop over the jobs of a row -/
def RwI (K V F S : Nat → Nat) (n b r q tu : Nat) (aC0 eC0 : Nat → Int32) (R0 : Nat) (sor0 : Nat → Nat) (B : Nat) (g : Bool) (c : Nat) (js sc me : Nat → Nat) (aC eC : Nat → Int32) (R : Nat) (sor : Nat → Nat) (ros : Nat → Int32) (tk turn : Nat) : Prop :=
  RwS n R sor ros ∧ R0 ≤ R ∧ (∀ i, i < R0 → sor i = sor0 i) ∧ (∀ q2 b, q2 ≠ q → b < 256 → aC (q2 * 256 + b) = aC0 (q2 * 256 + b)) ∧ (∀ q2, q2 ≠ q → eC q2 = eC0 q2) ∧ (∀ k, me k ≤ tu) ∧ turn + 2 * cnF n (seenB me tu) + c ≤ 402 ∧ tk + 2 * cnF n (seenB me tu) + c ≤ B ∧ c ≤ 402 ∧ (g = true → TW K V F S n b r q tu c js sc me aC (eC q) R sor ros) ∧ (g = false → ¬ OneW K V F S n b)
variable {aC0 eC0 : Nat → Int32} {R0 B tk turn : Nat} {sor0 : Nat → Nat}
theorem RwI_seen (h : RwI K V F S n b r q tu aC0 eC0 R0 sor0 B true c js sc me aC eC R sor ros tk turn) (hc : 0 < c) (hm : me (js (c - 1)) = tu) : RwI K V F S n b r q tu aC0 eC0 R0 sor0 B false (c - 1) js sc me aC eC R sor ros (tk + 1) (turn + 1) := by
  obtain ⟨h1, h2, h3, h4, h5, h6, h7, h8, h9, h10, h11⟩ := h
  exact ⟨h1, h2, h3, h4, h5, h6, by omega, by omega, by omega, fun h => (by cases h), fun _ => TW_seen (h10 rfl) hc hm⟩
theorem RwI_walk (h : RwI K V F S n b r q tu aC0 eC0 R0 sor0 B true c js sc me aC eC R sor ros tk turn) (hc : 0 < c) (hm : me (js (c - 1)) ≠ tu) {g : Bool} {c2 R2 : Nat} {js2 sc2 sor2 : Nat → Nat} {aC2 eC2 ros2 : Nat → Int32} (hW : WK K V F S n b r q tu c js me aC eC R sor g c2 js2 sc2 aC2 eC2 R2 sor2 ros2) :
    RwI K V F S n b r q tu aC0 eC0 R0 sor0 B g c2 js2 sc2 (un me (js (c - 1)) tu) aC2 eC2 R2 sor2 ros2 (tk + 1) (turn + 1) ∧ 2 * cnF n (seenB (un me (js (c - 1)) tu) tu) + c2 < 2 * cnF n (seenB me tu) + c := by
  obtain ⟨h1, h2, h3, h4, h5, h6, h7, h8, h9, h10, h11⟩ := h
  obtain ⟨g1, g2, g3, g4, g5, g6, g7, g8⟩ := hW
  obtain ⟨s1, s2, s3, s4⟩ := Sf_cn (h10 rfl).1 hc hm
  exact ⟨⟨g1, by omega, fun i hi => by rw [g3 i (by omega)]; exact h3 i hi, fun q2 b hq hb => by rw [g4 q2 b hq hb]; exact h4 q2 b hq hb, fun q2 hq => by rw [g5 q2 hq]; exact h5 q2 hq, s4, by omega, by omega, by omega, g7, g8⟩, by omega⟩
theorem RwI_0 (hn : 0 < n) (hn2 : n ≤ 200) (hM : MkI K V F S n b true q R sor aC0 eC0 ros) (hq : q < R) (hme : ∀ k, me k ≤ tu) : RwI K V F S n b (sor q) q (tu + 1) aC0 eC0 R sor (tk + 2 * n + 1) true (0 + 1) (un js 0 (sor q)) (un sc (sor q) 0) me (tbA aC0 q 0 255 (-1) 256) (upd eC0 q (-1)) R sor ros tk 0 := by
  obtain ⟨h1, h2, h3, h4⟩ := hM
  obtain ⟨g1, g2, g3, g4, g5⟩ := h4 rfl
  have hc := cnF_le n (seenB me (tu + 1))
  refine ⟨h1, Nat.le_refl _, fun _ _ => rfl, fun q2 b hq hb => tbA_q _ _ _ _ _ _ _ _ (Nat.le_refl _) hb hq, fun q2 hq => pk_un hq, fun k => by have := hme k; omega, by omega, by omega, by omega, fun _ => ?_, fun h => (by cases h)⟩
  rw [pk_us]
  exact TW_0 hn hn2 h1 g4 (stl_mem.mpr ⟨q, hq, rfl⟩) (h1.2.1 q hq) hme (fun b hb => by rw [tbA_at _ _ _ _ _ _ _ hb, if_pos ⟨by omega, by omega⟩])
theorem RwI_end (H : Pg n kC vC fC sC K V F S) {g : Bool} {ros0 : Nat → Int32} (hM : MkI K V F S n b true q R0 sor0 aC0 eC0 ros0) (hq : q < R0) (h : RwI K V F S n b (sor0 q) q tu aC0 eC0 R0 sor0 B g c js sc me aC eC R sor ros tk turn) (hc : g = true → c = 0) : MkI K V F S n b g (q + 1) R sor aC eC ros ∧ tk ≤ B ∧ ∀ k, me k ≤ tu := by
  obtain ⟨h1, h2, h3, h4, h5, h6, h7, h8, h9, h10, h11⟩ := h
  refine ⟨⟨h1, by have := hM.1.1; omega, h11, fun hg => ?_⟩, by omega, h6⟩
  obtain ⟨g1, g2, g3, g4, g5⟩ := hM.2.2.2 rfl
  have hT := h10 hg
  rw [hc hg] at hT
  obtain ⟨f1, f2, f3⟩ := TW_fin H hT (h3 q hq) rfl
  refine ⟨by omega, by omega, by rw [h3 0 (by omega)]; exact g3, f2, fun i hi => ?_⟩
  by_cases e : i = q
  · rw [e]; exact f1
  · exact RowF_mono (g5 i (by omega)) (by omega) h2 h3 (fun b hb => h4 i b e hb) (h5 i e)
end TB6b
