/-! States: what a state does at a byte, whatever the subject. -/
def vU (sr y : Nat) : Nat → Nat := fun i => if i = 0 ∧ sr ≠ 0 then (if sr = 1 then 10 else if sr = 2 then 97 else 0) else (if y < 256 then y else 0)
def vP (sr : Nat) : Nat := if sr = 0 then 0 else 1
def vL (sr y : Nat) : Nat := if y = 256 then vP sr else vP sr + 1
def syI (y : Nat) : Int32 := if y = 256 then -1 else nI y
def sortB (x : Int32) : Nat := if x = -1 then 0 else if x = nI 10 then 1 else if isWI x = true then 2 else 3
def syB (len : Nat) (u : Nat → Nat) (p : Nat) : Nat := if p < len then u p else 256
theorem vU_lt (sr y i : Nat) : vU sr y i < 256 := by
  unfold vU; split
  · split
    · omega
    · split <;> omega
  · split <;> omega
theorem vP_le (sr y : Nat) : vP sr ≤ vL sr y := by unfold vL; split <;> omega
theorem v_so {sr y : Nat} (hy : y ≤ 256) : soP (vL sr y) (vU sr y) (vP sr) = soW (repI sr) (syI y) := by
  unfold soP
  have e1 : bvI (vL sr y) (vU sr y) (vP sr) = repI sr := by
    unfold bvI vL vP repI vU
    by_cases h0 : sr = 0
    · simp [h0]
    · by_cases hy2 : y = 256
      · simp only [h0, hy2, if_true, if_false]
        by_cases h1 : sr = 1
        · simp [h1]
        · by_cases h2 : sr = 2
          · simp [h2]
          · simp [h0, h1, h2]
      · simp only [h0, hy2, if_false]
        by_cases h1 : sr = 1
        · simp [h1]
        · by_cases h2 : sr = 2
          · simp [h2]
          · simp [h0, h1, h2]
  have e2 : bvI (vL sr y) (vU sr y) (vP sr + 1) = syI y := by
    unfold bvI syI
    by_cases hy2 : y = 256
    · rw [if_pos hy2, if_neg]; unfold vL; rw [if_pos hy2]; omega
    · rw [if_neg hy2, if_pos (by unfold vL; rw [if_neg hy2]; omega), show vP sr + 1 - 1 = vP sr by omega]
      congr 1
      unfold vU vP
      by_cases h0 : sr = 0
      · simp [h0]; omega
      · simp [h0]; omega
  rw [e1, e2]
theorem rep_so (x z : Int32) : soW (repI (sortB x)) z = soW x z := by
  unfold soW
  have h : isWI (repI (sortB x)) = isWI x ∧ (decide (repI (sortB x) = -1) = decide (x = -1)) ∧ (decide (repI (sortB x) = nI 10) = decide (x = nI 10)) := by
    unfold sortB
    by_cases h1 : x = -1
    · subst h1; decide
    · by_cases h2 : x = nI 10
      · subst h2; decide
      · by_cases h3 : isWI x = true
        · simp only [h1, h2, h3, if_true, if_false, decide_false]; decide
        · have h3' : isWI x = false := by simpa using h3
          simp only [h1, h2, h3', if_false, decide_false]; decide
  rw [h.1, h.2.1, h.2.2]
theorem syI_B {len : Nat} {u : Nat → Nat} {p : Nat} (hu : ∀ i, u i < 256) : syI (syB len u p) = bvI len u (p + 1) ∧ syB len u p ≤ 256 := by
  unfold syI syB bvI
  have := hu p
  by_cases h : p < len
  · rw [if_pos h, if_neg (by omega), if_pos (by omega), show p + 1 - 1 = p by omega]; exact ⟨rfl, by omega⟩
  · rw [if_neg h, if_pos rfl, if_neg (by omega)]; exact ⟨rfl, by omega⟩
section ST3
variable {K V F S kC vC fC sC : Nat → Nat} {len len2 : Nat} {u u2 : Nat → Nat} {p p2 n how how2 : Nat} {lo : Bool}
theorem soB_all (h : ∀ v, v < 6 → soB len u v p = soB len2 u2 v p2) (v : Nat) : soB len u v p = soB len2 u2 v p2 := by
  by_cases hv : v < 6
  · exact h v hv
  · have h5 := h 5 (by omega)
    rw [soB_5 (by omega) (by omega) (by omega) (by omega) (by omega)] at h5 ⊢
    rw [soB_5 (by omega) (by omega) (by omega) (by omega) (by omega)] at h5 ⊢
    exact h5
theorem rkN_congr (h : ∀ k, pasB K V len u k p = pasB K V len2 u2 k p2) : ∀ (m : Nat) (L : List Nat) (s : Nat → Bool), rkN K V F S len u p m L s = rkN K V F S len2 u2 p2 m L s := by
  intro m
  induction m with
  | zero => intro L s; rfl
  | succ m ih =>
    intro L s
    match L with
    | [] => rfl
    | k :: r => rw [rkN, rkN, h k, ih, ih, ih]
theorem rkF_congr (h : ∀ k, pasB K V len u k p = pasB K V len2 u2 k p2) (L : List Nat) (s : Nat → Bool) : rkF K V F S len u p n L s = rkF K V F S len2 u2 p2 n L s := by
  unfold rkF rwF
  rw [rkN_rwN, rkN_rwN, rkN_congr h]
theorem gkN_congr (h : ∀ k, takB K V len u k p = takB K V len2 u2 k p2) (hm : mayB len how p = mayB len2 how2 p2) : ∀ R : List Nat, gkN K V F len u how lo p R = gkN K V F len2 u2 how2 lo p2 R := by
  intro R
  induction R with
  | nil => rfl
  | cons k r ih => rw [gkN, gkN, h k, hm, ih]
/-- the subject here and the subject that shows what a state can see of it -/
theorem v_view (hu : ∀ i, u i < 256) (hp : p ≤ len) : (∀ k, pasB K V len u k p = pasB K V (vL (sortB (bvI len u p)) (syB len u p)) (vU (sortB (bvI len u p)) (syB len u p)) k (vP (sortB (bvI len u p)))) ∧ ∀ k, takB K V len u k p = takB K V (vL (sortB (bvI len u p)) (syB len u p)) (vU (sortB (bvI len u p)) (syB len u p)) k (vP (sortB (bvI len u p))) := by
  have hy := syI_B (len := len) (u := u) (p := p) hu
  have hso : soP len u p = soP (vL (sortB (bvI len u p)) (syB len u p)) (vU (sortB (bvI len u p)) (syB len u p)) (vP (sortB (bvI len u p))) := by
    rw [v_so hy.2, rep_so, hy.1]; rfl
  refine ⟨fun k => ?_, fun k => ?_⟩
  · have hb : ∀ v, soB len u v p = soB (vL (sortB (bvI len u p)) (syB len u p)) (vU (sortB (bvI len u p)) (syB len u p)) v (vP (sortB (bvI len u p))) := soB_all (fun v hv => by rw [← soP_bit hu hp hv, ← soP_bit (vU_lt _ _) (vP_le _ _) hv, hso])
    unfold pasB; rw [hb]
  · unfold takB
    have hup := hu p
    by_cases h : p < len
    · have e : syB len u p = u p := by rw [syB, if_pos h]
      have e1 : vP (sortB (bvI len u p)) < vL (sortB (bvI len u p)) (syB len u p) := by rw [e]; unfold vL; rw [if_neg (by omega)]; omega
      have e2 : vU (sortB (bvI len u p)) (syB len u p) (vP (sortB (bvI len u p))) = u p := by
        rw [e]; unfold vU vP
        by_cases h0 : sortB (bvI len u p) = 0
        · simp [h0]; omega
        · simp [h0]; omega
      rw [e2]; simp [h, e1]
    · have e : syB len u p = 256 := by rw [syB, if_neg h]
      have e1 : ¬ vP (sortB (bvI len u p)) < vL (sortB (bvI len u p)) (syB len u p) := by rw [e]; unfold vL; rw [if_pos rfl]; omega
      simp [h, e1]
def howG (g : Nat) : Nat := if g = 3 then 2 else 1
def begG (b g : Nat) : List Nat := if g = 0 then [b] else []
/-- what a state does at a byte -/
def SPv (K V F S : Nat → Nat) (n b lb : Nat) (L : List Nat) (y : Nat) : Bool × List Nat := gkN K V F (vL (lb % 4) y) (vU (lb % 4) y) (howG (lb / 4)) (decide (lb / 4 = 2)) (vP (lb % 4)) (rkF K V F S (vL (lb % 4) y) (vU (lb % 4) y) (vP (lb % 4)) n (L ++ begG b (lb / 4)) (fun _ => false))
theorem v_may {g sr y : Nat} (hy : y ≤ 256) : mayB (vL sr y) (howG g) (vP sr) = (decide (g ≠ 3) || decide (y = 256)) := by
  unfold mayB howG vL
  by_cases h3 : g = 3
  · by_cases h : y = 256
    · simp [h3, h]
    · simp [h3, h]
  · simp [h3]
theorem v_tak {sr y k : Nat} (hk : 0 < k) (hK : K k = 1) (hv : vC k = V k) (hV : V k < 65536) (hy : y ≤ 256) : tkI vC k (nI y) = takB K V (vL sr y) (vU sr y) k (vP sr) := by
  unfold takB
  by_cases h : y = 256
  · have e1 : ¬ vP sr < vL sr y := by unfold vL; rw [if_pos h]; omega
    have e2 : ¬ nI y ≤ nI (vC k % 256) := by rw [nI_leI (by omega) (by omega)]; omega
    simp [tkI, e1, e2]
  · have hy2 : y < 256 := by omega
    have e1 : vP sr < vL sr y := by unfold vL; rw [if_neg h]; omega
    have e2 : vU sr y (vP sr) = y := by
      unfold vU vP
      by_cases h0 : sr = 0
      · simp [h0]; omega
      · simp [h0]; omega
    rw [tkI_n (by omega) hy2, hv, e2]
    by_cases q1 : V k / 256 ≤ y <;> by_cases q2 : y ≤ V k % 256 <;> simp [hk, hK, e1, q1, q2]
theorem go_one (H : FS K F S n) {a : Nat} {rest : List Nat} {s : Nat → Bool} (ha : a < n) (hr : ∀ x ∈ rest, x < n) : gkN K V F len u how lo p (rkF K V F S len u p n (a :: rest) s) = if ((gkN K V F len u how lo p (rkF K V F S len u p n [a] s)).1 && !lo) = true then gkN K V F len u how lo p (rkF K V F S len u p n [a] s) else ((gkN K V F len u how lo p (rkF K V F S len u p n [a] s)).1 || (gkN K V F len u how lo p (rkF K V F S len u p n rest (mkG K V F S len u p n [a] s))).1, (gkN K V F len u how lo p (rkF K V F S len u p n [a] s)).2 ++ (gkN K V F len u how lo p (rkF K V F S len u p n rest (mkG K V F S len u p n [a] s))).2) := by
  have h := (rkF_app (V := V) (len := len) (u := u) (p := p) (s := s) H (L := [a]) (q := rest) (fun x hx => by rw [List.mem_singleton.mp hx]; exact ha) hr).1
  rw [show a :: rest = [a] ++ rest from rfl, h, gk_app]
/-- the loop over a state's steps -/
def GOI (K V F S : Nat → Nat) (len : Nat) (u : Nat → Nat) (p n how : Nat) (lo : Bool) (G : Bool × List Nat) (B tu tu2 : Nat) (Lr : List Nat) (me : Nat → Nat) (O : List Nat) (ct : Nat) (st me2 : Nat → Nat) (e : Bool) (tk : Nat) : Prop :=
  (∀ k, me k ≤ tu) ∧ OnI n O ct st me2 tu2 ∧ (∀ x ∈ Lr, x < n) ∧ (e = true → lo = true) ∧ (e || (gkN K V F len u how lo p (rkF K V F S len u p n Lr (seenB me tu))).1) = G.1 ∧ addA O (gkN K V F len u how lo p (rkF K V F S len u p n Lr (seenB me tu))).2 = addA [] G.2 ∧ tk + 2 * cnF n (seenB me tu) + Lr.length ≤ B
variable {G : Bool × List Nat} {B tu tu2 ct tk tk2 ct2 a : Nat} {Lr O : List Nat} {me st me2 me4 st2 me3 : Nat → Nat} {e : Bool}
theorem GOI_step (H : FS K F S n) (h : GOI K V F S len u p n how lo G B tu tu2 (a :: Lr) me O ct st me2 e tk)
    (g1 : OnI n (addA O (gkN K V F len u how lo p (rkF K V F S len u p n [a] (seenB me tu))).2) ct2 st2 me3 tu2) (g2 : ∀ k, me4 k ≤ tu) (g3 : ((gkN K V F len u how lo p (rkF K V F S len u p n [a] (seenB me tu))).1 && !lo) = true ∨ seenB me4 tu = mkG K V F S len u p n [a] (seenB me tu)) (g4 : tk2 + 2 * cnF n (seenB me4 tu) ≤ tk + 2 * cnF n (seenB me tu) + 1) :
    (((gkN K V F len u how lo p (rkF K V F S len u p n [a] (seenB me tu))).1 && !lo) = true → G.1 = true ∧ addA O (gkN K V F len u how lo p (rkF K V F S len u p n [a] (seenB me tu))).2 = addA [] G.2 ∧ tk2 ≤ B) ∧ (¬ ((gkN K V F len u how lo p (rkF K V F S len u p n [a] (seenB me tu))).1 && !lo) = true → GOI K V F S len u p n how lo G B tu tu2 Lr me4 (addA O (gkN K V F len u how lo p (rkF K V F S len u p n [a] (seenB me tu))).2) ct2 st2 me3 (e || (gkN K V F len u how lo p (rkF K V F S len u p n [a] (seenB me tu))).1) tk2) := by
  obtain ⟨h1, h2, h3, h4, h5, h6, h7⟩ := h
  have ha := h3 a List.mem_cons_self
  have hr : ∀ x ∈ Lr, x < n := fun x hx => h3 x (List.mem_cons_of_mem _ hx)
  rw [go_one H ha hr] at h5 h6
  have hlen : (a :: Lr).length = Lr.length + 1 := rfl
  refine ⟨fun hc => ?_, fun hc => ?_⟩
  · rw [if_pos hc] at h5 h6
    have h8 : (gkN K V F len u how lo p (rkF K V F S len u p n [a] (seenB me tu))).1 = true := (Bool.and_eq_true_iff.mp hc).1
    refine ⟨?_, h6, by omega⟩
    rw [← h5, h8]; simp
  · rw [if_neg hc] at h5 h6
    have g5 : seenB me4 tu = mkG K V F S len u p n [a] (seenB me tu) := by
      rcases g3 with g3 | g3
      · exact absurd g3 hc
      · exact g3
    rw [← g5] at h5 h6
    refine ⟨g2, g1, hr, fun he => ?_, ?_, ?_, by omega⟩
    · rcases Bool.or_eq_true_iff.mp he with he | he
      · exact h4 he
      · cases hl : lo with
        | true => rfl
        | false => exact absurd (by rw [he, hl]; rfl) hc
    · rw [← h5]; simp [Bool.or_assoc]
    · rw [← h6, addA_app]
theorem GOI_end (h : GOI K V F S len u p n how lo G B tu tu2 [] me O ct st me2 e tk) : e = G.1 ∧ OnI n (addA [] G.2) ct st me2 tu2 ∧ (∀ k, me k ≤ tu) ∧ tk ≤ B := by
  obtain ⟨h1, h2, h3, h4, h5, h6, h7⟩ := h
  rw [rkF_nil.1, gkN] at h5 h6
  have e1 : O = addA [] G.2 := h6
  exact ⟨by simpa using h5, by rw [← e1]; exact h2, h1, by omega⟩
theorem GOI_0 {tu0 tu20 : Nat} {me0 me20 : Nat → Nat} {L : List Nat} (hme : ∀ k, me0 k ≤ tu0) (hme2 : ∀ k, me20 k ≤ tu20) (hL : ∀ x ∈ L, x < n) (hl : L.length ≤ n + 1) : GOI K V F S len u p n how lo (gkN K V F len u how lo p (rkF K V F S len u p n L (fun _ => false))) (tk + 2 * n + (n + 1)) (tu0 + 1) (tu20 + 1) L me0 [] 0 st me20 false tk := by
  have e : seenB me0 (tu0 + 1) = fun _ => false := by
    funext k; have := hme k; simp [seenB]; omega
  refine ⟨fun k => by have := hme k; omega, OnI_0 hme2, hL, (fun h => by cases h), by rw [e]; rfl, by rw [e], ?_⟩
  rw [e, cnF_all (fun _ _ => rfl)]; omega
end ST3
