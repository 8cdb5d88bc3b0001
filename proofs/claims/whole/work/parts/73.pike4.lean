/-! Rows of threads, the whole run: what it finds is what the reference answers. -/
section PK4
variable {K V F S : Nat → Nat} {len : Nat} {u : Nat → Nat} {L : Nat} {al : Bool} {p n b how fr : Nat} {lo : Bool}
def svB (p : Nat) : Sv := upd (fun _ => -1) 0 (nI p)
def pkN (K V F S : Nat → Nat) (len : Nat) (u : Nat → Nat) (n b how : Nat) (lo sk : Bool) (fr : Nat) : Nat → Nat → List (Nat × Sv) → Option (Nat × Sv) → Option (Nat × Sv)
  | 0, _, _, best => best
  | m + 1, p, st, best =>
    pkN K V F S len u n b how lo sk fr m (p + 1) (gbN K V F len u how lo sk p (rwN K V F S len u p (2 * n + st.length + 2) (st ++ (if best = none ∧ (how = 0 ∨ p = fr) then [(b, svB p)] else [])) (fun _ => false)) best).2
      (gbN K V F len u how lo sk p (rwN K V F S len u p (2 * n + st.length + 2) (st ++ (if best = none ∧ (how = 0 ∨ p = fr) then [(b, svB p)] else [])) (fun _ => false)) best).1
/-- a change of the saves that steps don't see -/
theorem plN_map {f : Sv → Sv} (hf : ∀ k sv, K k = 3 → ∀ q, f (upd sv (V k) (nI q)) = upd (f sv) (V k) (nI q)) : ∀ (m : Nat) (st : List (Nat × Sv)) (s : Nat → Bool), plN K V F S len u L al p m (st.map (fun x => (x.1, f x.2))) s = (plN K V F S len u L al p m st s).map (fun x => (x.1, f x.2)) := by
  intro m
  induction m with
  | zero => intro st s; rfl
  | succ m ih =>
    intro st s
    match st with
    | [] => rfl
    | (k, sv) :: r =>
      have e1 : f (svk K V p k sv) = svk K V p k (f sv) := by
        unfold svk
        split
        · rename_i h; exact hf k sv h p
        · rfl
      have e2 : psh K F S k (svk K V p k (f sv)) (r.map (fun x => (x.1, f x.2))) = (psh K F S k (svk K V p k sv) r).map (fun x => (x.1, f x.2)) := by
        rw [← e1]; unfold psh; split <;> rfl
      rw [List.map_cons, plN, plN]
      simp only [ih, e2]
      split
      · rfl
      · split
        · split <;> rfl
        · split
          · split <;> rfl
          · split <;> rfl
theorem gwN_map {f : Sv → Sv} (hf : ∀ k sv, K k = 3 → ∀ q, f (upd sv (V k) (nI q)) = upd (f sv) (V k) (nI q)) : ∀ (m p a : Nat) (sv : Sv), gwN K V F S len u L al n m p a (f sv) = (gwN K V F S len u L al n m p a sv).map (fun x => (x.1, f x.2)) := by
  intro m
  induction m with
  | zero => intro p a sv; rfl
  | succ m ih =>
    intro p a sv
    have h := plN_map (F := F) (S := S) (len := len) (u := u) (L := L) (al := al) (p := p) hf (2 * n + 2) [(a, sv)] (fun _ => false)
    rw [List.map_cons, List.map_nil] at h
    rw [gwN, gwN, h]
    cases plN K V F S len u L al p (2 * n + 2) [(a, sv)] (fun _ => false) with
    | none => rfl
    | some x =>
      obtain ⟨k, sv1⟩ := x
      show (if k = 0 then some (p, f sv1) else gwN K V F S len u L al n m (p + 1) (F k) (f sv1)) = Option.map _ (if k = 0 then some (p, sv1) else gwN K V F S len u L al n m (p + 1) (F k) sv1)
      split
      · rfl
      · exact ih _ _ _
theorem upd_com {sv : Sv} {i j : Nat} {x y : Int32} (h : i ≠ j) : upd (upd sv i x) j y = upd (upd sv j y) i x := by
  funext t
  unfold upd
  by_cases h1 : t = j
  · subst h1; simp [Ne.symm h]
  · by_cases h2 : t = i
    · subst h2; simp [h]
    · simp [h1, h2]
/-- the saves' first slot stays -/
theorem gwN_0 (hV : ∀ k, K k = 3 → V k ≠ 0) {m a e : Nat} {sv sv1 : Sv} (h : gwN K V F S len u L al n m p a sv = some (e, sv1)) : sv1 0 = sv 0 := by
  have hid : upd sv 0 (sv 0) = sv := by
    funext t
    show (if t = 0 then sv 0 else sv t) = sv t
    split
    · rename_i h; rw [h]
    · rfl
  have h2 := gwN_map (n := n) (F := F) (S := S) (len := len) (u := u) (L := L) (al := al) (f := fun t : Sv => upd t 0 (sv 0)) (fun k t hk q => upd_com (fun e => hV k hk e)) m p a sv
  rw [hid, h] at h2
  have h3 := congrArg Prod.snd (Option.some.inj h2)
  have h4 := congrFun h3 0
  simpa [upd] using h4
theorem gwN_B (hV : ∀ k, K k = 3 → V k ≠ 0) {m a e : Nat} {sv : Sv} (h : gwN K V F S len u L al n m p a (fun _ => -1) = some (e, sv)) (q : Nat) : gwN K V F S len u L al n m p a (svB q) = some (e, upd sv 0 (nI q)) := by
  have h2 := gwN_map (n := n) (F := F) (S := S) (len := len) (u := u) (L := L) (al := al) (f := fun t : Sv => upd t 0 (nI q)) (fun k t hk q => upd_com (fun e => hV k hk e)) m p a (fun _ => -1)
  rw [h] at h2
  exact h2
/-- the ways forward and what can be come to -/
theorem Fw_Can2 {s : Nat} (hx : ∀ p k, takB K V len u k p = true → Can K V F S len u L al (p + 1) (F k) → p < L) {k : Nat} (h : Fw K V F S len u s b p k) (hc : Can K V F S len u L al p k) : Can K V F S len u L al s b := by
  obtain ⟨m, hm⟩ := h
  induction m generalizing p k with
  | zero => rw [← hm.1, ← hm.2]; exact hc
  | succ m ih =>
    rcases hm with hm | ⟨p1, k1, h1, h2, rfl, rfl⟩ | ⟨k1, h1, h2, h3⟩
    · exact ih hc hm
    · exact ih ((Can_t h2).mpr ⟨hx _ _ h2 hc, hc⟩) h1
    · refine ih ((Can_p h2).mpr ?_) h1
      rcases h3 with rfl | ⟨h3, rfl⟩
      · exact Or.inl hc
      · exact Or.inr ⟨h3, hc⟩
theorem Can_wk {L2 : Nat} (hL : L ≤ L2) : ∀ (m p k : Nat), canN K V F S len u L true m p k = true → canN K V F S len u L2 false m p k = true := by
  intro m
  induction m with
  | zero => intro p k h; simp [canN] at h
  | succ m ih =>
    intro p k h
    rw [canN] at h ⊢
    split at h
    · rename_i h0; rw [if_pos h0]; simp
    · rename_i h0
      rw [if_neg h0]
      split at h
      · rename_i h1
        rw [if_pos h1]
        simp only [Bool.and_eq_true, decide_eq_true_eq] at h ⊢
        exact ⟨by omega, ih _ _ h.2⟩
      · rename_i h1
        rw [if_neg h1]
        split at h
        · rename_i h2
          rw [if_pos h2]
          simp only [Bool.and_eq_true, Bool.or_eq_true] at h ⊢
          rcases h with h | h
          · exact Or.inl (ih _ _ h)
          · exact Or.inr ⟨h.1, ih _ _ h.2⟩
        · cases h
/-- a thread: where it began, and that it came here -/
def Thr (K V F S : Nat → Nat) (len : Nat) (u : Nat → Nat) (n b how fr p : Nat) (x : Nat × Sv) : Prop := x.1 < n ∧ ∃ s, x.2 0 = nI s ∧ Start len how fr s ∧ Fw K V F S len u s b p x.1
theorem Thr_pass (hV : ∀ k, K k = 3 → V k ≠ 0) (hF : ∀ i, 0 < i → i < n → (K i = 2 ∨ K i = 3 ∨ K i = 4) → F i < n) (hS : ∀ i, 0 < i → i < n → K i = 2 → S i < n) : ∀ k sv, Thr K V F S len u n b how fr p (k, sv) → pasB K V len u k p = true → Thr K V F S len u n b how fr p (F k, svk K V p k sv) ∧ (K k = 2 → Thr K V F S len u n b how fr p (S k, svk K V p k sv)) := by
  intro k sv ⟨h1, s, h2, h3, h4⟩ hp
  have hKp := pasB_K hp
  have e : svk K V p k sv 0 = nI s := by
    unfold svk
    split
    · rename_i hk
      have := hV k hk
      simp only [upd]
      rw [if_neg (by omega)]; exact h2
    · exact h2
  exact ⟨⟨hF k hKp.1 h1 hKp.2, s, e, h3, Fw_f h4 hp⟩, fun hk => ⟨hS k hKp.1 h1 hk, s, e, h3, Fw_s h4 hp hk⟩⟩
theorem Thr_take (hF1 : ∀ i, 0 < i → i < n → K i = 1 → F i < n) {R : List (Nat × Sv)} (h : ∀ x ∈ R, Thr K V F S len u n b how fr p x) : ∀ x ∈ tkL K V F len u p R, Thr K V F S len u n b how fr (p + 1) x := by
  intro x hx
  obtain ⟨y, hy, h1⟩ := List.mem_filterMap.mp hx
  split at h1
  · rename_i ht
    cases h1
    obtain ⟨g1, s, g2, g3, g4⟩ := h y hy
    exact ⟨hF1 _ (takB_K ht).1 g1 (takB_K ht).2.1, s, g2, g3, Fw_t g4 ht⟩
  · cases h1
theorem Thr_new (hb : b < n) (hp : Start len how fr p) : Thr K V F S len u n b how fr p (b, svB p) := ⟨hb, p, by simp [svB, upd], hp, Fw_0⟩
/-- a stack of dead threads and a new one -/
theorem rsN_beg (hF : ∀ i, 0 < i → i < n → (K i = 2 ∨ K i = 3 ∨ K i = 4) → F i < n) (hS : ∀ i, 0 < i → i < n → K i = 2 → S i < n) {st : List (Nat × Sv)} {m a : Nat} {sv : Sv} (hpL : p ≤ L) (hst : ∀ x ∈ st, x.1 < n) (ha : a < n) (hm : 2 * n + (st.length + 1) < m) (hd : ∀ x ∈ st, ¬ Can K V F S len u L al p x.1) :
    rsN K V F S len u L al n p (rwN K V F S len u p m (st ++ [(a, sv)]) (fun _ => false)) = gwN K V F S len u L al n (L + 1 - p) p a sv := by
  have hall : cnF n (fun _ => false) = n := cnF_all (fun _ _ => rfl)
  have hl : ∀ x ∈ st ++ [(a, sv)], x.1 < n := fun x hx => by
    rcases List.mem_append.mp hx with h | h
    · exact hst x h
    · rw [List.mem_singleton.mp h]; exact ha
  have hX := Ded_no (K := K) (V := V) (F := F) (S := S) (len := len) (u := u) (L := L) (al := al) (p := p) (fun _ _ => Or.inr trivial)
  rw [gwN_rsN hpL]
  refine rsN_congr ?_
  rw [← plN_rwN, ← plN_rwN]
  refine plN_strip hF hS hX (m + (2 * n + 2)) m (2 * n + 2) _ _ _ _ (Nat.le_refl _) (by rw [hall, List.length_append]; simp; omega) (by rw [hall]; simp) hl (fun x hx => by rw [List.mem_singleton.mp hx]; exact ha) ?_ (fun _ _ => rfl)
  rw [List.filter_append, List.filter_eq_nil_iff.mpr (fun x hx => by rw [nX_f (X := fun k => ¬ Can K V F S len u L al p k) (hd x hx)]; simp), List.nil_append]
theorem mayB_Can (h : mayB len how p = true) : Can K V F S len u len (decide (how = 2)) p 0 := by
  refine (Can_0 p).mpr ?_
  simp only [mayB, Bool.or_eq_true, decide_eq_true_eq] at h
  rcases h with h | h
  · exact Or.inr (by simpa using h)
  · exact Or.inl h
theorem Thr_Can {x : Nat × Sv} (h : Thr K V F S len u n b how fr p x) (hc : Can K V F S len u len (decide (how = 2)) p x.1) : ∃ s, x.2 0 = nI s ∧ Start len how fr s ∧ Can K V F S len u len (decide (how = 2)) s b := by
  obtain ⟨_, s, h2, h3, h4⟩ := h
  exact ⟨s, h2, h3, Fw_Can2 (fun p k ht _ => (takB_K ht).2.2.1) h4 hc⟩
end PK4
