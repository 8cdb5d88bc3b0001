/-! The class's rows of threads: its jobs stand for a stack, its row for a list. -/
/-- what the class holds of a program, and what it stands for -/
def Pg (n : Nat) (kC vC fC sC K V F S : Nat → Nat) : Prop :=
  0 < n ∧ n ≤ 200 ∧ kC 0 = 0 ∧ ∀ i, 0 < i → i < n → kC i = K i ∧ 1 ≤ K i ∧ K i < 6 ∧ ((K i = 1 ∨ K i = 3 ∨ K i = 4) → vC i = V i) ∧ (K i = 1 → V i < 65536 ∧ V i / 256 ≤ V i % 256) ∧ (K i = 3 → 2 ≤ V i ∧ V i < 20) ∧ (K i = 4 → V i < 6) ∧ (K i ≠ 5 → fC i = F i ∧ F i < n) ∧ (K i = 2 → sC i = S i ∧ S i < n)
/-- -1 or a place -/
def plI (x : Int32) : Prop := ∃ h : Nat, h ≤ 201 ∧ x = nI h - nI 1
def SvOk (sv : Sv) : Prop := ∀ j, plI (sv j)
def pbS (sv : Sv) (j : Nat) : Sv := upd sv ((j - 51456) / 256) (nI ((j - 51456) % 256) - nI 1)
/-- the stack that the jobs stand for, the latest first -/
def absJ (js : Nat → Nat) : Nat → Sv → List (Nat × Sv)
  | 0, _ => []
  | c + 1, sv => if 51456 ≤ js c then absJ js c (pbS sv (js c)) else (js c, sv) :: absJ js c sv
def JobOk (n j : Nat) : Prop := j < n ∨ (51456 ≤ j ∧ (j - 51456) / 256 < 20 ∧ (j - 51456) % 256 ≤ 201)
theorem JobOk.lt {n j : Nat} (h : JobOk n j) (hn : n ≤ 200) : j < 65536 := by
  rcases h with h | ⟨h1, h2, h3⟩
  · omega
  · have := Nat.div_add_mod (j - 51456) 256; omega
theorem absJ_congr {js js2 : Nat → Nat} : ∀ (c : Nat) (sv : Sv), (∀ i, i < c → js i = js2 i) → absJ js c sv = absJ js2 c sv := by
  intro c
  induction c with
  | zero => intro sv _; rfl
  | succ c ih =>
    intro sv h
    rw [absJ, absJ, h c (by omega)]
    split
    · exact ih _ (fun i hi => h i (by omega))
    · rw [ih _ (fun i hi => h i (by omega))]
theorem absJ_un {js : Nat → Nat} {c v : Nat} {sv : Sv} (c0 : Nat) (h : c0 ≤ c) : absJ (un js c v) c0 sv = absJ js c0 sv :=
  absJ_congr c0 sv (fun i hi => un_n (by omega))
theorem absJ_lt {js : Nat → Nat} {n : Nat} (hn : n ≤ 200) : ∀ (c : Nat) (sv : Sv), (∀ i, i < c → JobOk n (js i)) → ∀ x ∈ absJ js c sv, x.1 < n := by
  intro c
  induction c with
  | zero => intro sv _ x hx; cases hx
  | succ c ih =>
    intro sv h x hx
    rw [absJ] at hx
    split at hx
    · exact ih _ (fun i hi => h i (by omega)) x hx
    · rename_i hlt
      rcases List.mem_cons.mp hx with rfl | hx
      · rcases h c (by omega) with h1 | ⟨h1, _⟩
        · exact h1
        · exact absurd h1 hlt
      · exact ih _ (fun i hi => h i (by omega)) x hx
theorem absJ_len {js : Nat → Nat} : ∀ (c : Nat) (sv : Sv), (absJ js c sv).length ≤ c := by
  intro c
  induction c with
  | zero => intro sv; exact Nat.le_refl _
  | succ c ih =>
    intro sv
    rw [absJ]
    split
    · have := ih (pbS sv (js c)); omega
    · have := ih sv; simp; omega
/-- pushed: a step -/
theorem absJ_push {js : Nat → Nat} {c k : Nat} {sv : Sv} (hk : k < 51456) : absJ (un js c k) (c + 1) sv = (k, sv) :: absJ js c sv := by
  rw [absJ, un_s, if_neg (by omega), absJ_un c (Nat.le_refl _)]
theorem plI_m1 : plI (-1) := ⟨0, by omega, by decide⟩
theorem plI_n {p : Nat} (h : p ≤ 200) : plI (nI p) := ⟨p + 1, by omega, by rw [pk_sub (by omega)]; rfl⟩
theorem SvOk_upd {sv : Sv} {v : Nat} {x : Int32} (h : SvOk sv) (hx : plI x) : SvOk (upd sv v x) := by
  intro j
  rw [upd]; split
  · exact hx
  · exact h j
theorem upd_self {sv : Sv} {v : Nat} {x y : Int32} (h : sv v = y) : upd (upd sv v x) v y = sv := by
  funext j
  rw [upd, upd]; split
  · rename_i hj; rw [hj, h]
  · rfl
/-- pushed: what a place held, then it is written -/
theorem absJ_pb {js : Nat → Nat} {c v h : Nat} {x : Int32} {sv : Sv} (hv : v < 20) (hh : h ≤ 201) (he : sv v = nI h - nI 1) : absJ (un js c (51456 + v * 256 + h)) (c + 1) (upd sv v x) = absJ js c sv := by
  rw [absJ, un_s, if_pos (by omega), absJ_un c (Nat.le_refl _), pbS]
  have e1 : (51456 + v * 256 + h - 51456) / 256 = v := by omega
  have e2 : (51456 + v * 256 + h - 51456) % 256 = h := by omega
  rw [e1, e2, upd_self he]
section TH
variable {K V F S : Nat → Nat} {len : Nat} {u : Nat → Nat} {p n : Nat}
/-- the row of a stack, with as much fuel as it needs -/
def rwF (K V F S : Nat → Nat) (len : Nat) (u : Nat → Nat) (p n : Nat) (st : List (Nat × Sv)) (s : Nat → Bool) : List (Nat × Sv) := rwN K V F S len u p (2 * cnF n s + st.length + 1) st s
def mkF (K V F S : Nat → Nat) (len : Nat) (u : Nat → Nat) (p n : Nat) (st : List (Nat × Sv)) (s : Nat → Bool) : Nat → Bool := mkN K V F S len u p (2 * cnF n s + st.length + 1) st s
def FS (K F S : Nat → Nat) (n : Nat) : Prop := (∀ i, 0 < i → i < n → (K i = 2 ∨ K i = 3 ∨ K i = 4) → F i < n) ∧ ∀ i, 0 < i → i < n → K i = 2 → S i < n
theorem rwF_nil {s : Nat → Bool} : rwF K V F S len u p n [] s = [] ∧ mkF K V F S len u p n [] s = s := by
  constructor <;> rfl
theorem rwF_any (H : FS K F S n) {st : List (Nat × Sv)} {s : Nat → Bool} (hl : ∀ x ∈ st, x.1 < n) (m : Nat) (hm : 2 * cnF n s + st.length < m) : rwN K V F S len u p m st s = rwF K V F S len u p n st s ∧ mkN K V F S len u p m st s = mkF K V F S len u p n st s :=
  rwN_fuel H.1 H.2 m _ st s hm (by omega) hl
theorem rwF_seen (H : FS K F S n) {k : Nat} {sv : Sv} {r : List (Nat × Sv)} {s : Nat → Bool} (hk : k < n) (hr : ∀ x ∈ r, x.1 < n) (hs : s k = true) : rwF K V F S len u p n ((k, sv) :: r) s = rwF K V F S len u p n r s ∧ mkF K V F S len u p n ((k, sv) :: r) s = mkF K V F S len u p n r s := by
  have a := rwF_any (K := K) (V := V) (F := F) (S := S) (len := len) (u := u) (p := p) (s := s) H hr (2 * cnF n s + ((k, sv) :: r).length) (by simp)
  rw [rwF, mkF, rwN, mkN, if_pos hs, if_pos hs]
  exact a
theorem rwF_leaf (H : FS K F S n) {k : Nat} {sv : Sv} {r : List (Nat × Sv)} {s : Nat → Bool} (hk : k < n) (hr : ∀ x ∈ r, x.1 < n) (hs : s k = false) (h1 : k = 0 ∨ K k = 1) : rwF K V F S len u p n ((k, sv) :: r) s = (k, sv) :: rwF K V F S len u p n r (ub s k true) ∧ mkF K V F S len u p n ((k, sv) :: r) s = mkF K V F S len u p n r (ub s k true) := by
  have hc := cnF_ub hk hs
  have hs' : ¬ s k = true := by simp [hs]
  have a := rwF_any (K := K) (V := V) (F := F) (S := S) (len := len) (u := u) (p := p) (s := ub s k true) H hr (2 * cnF n s + ((k, sv) :: r).length) (by simp; omega)
  rw [rwF, mkF, rwN, mkN, if_neg hs', if_neg hs', if_pos h1, if_pos h1]
  exact ⟨by rw [a.1], a.2⟩
theorem rwF_pass (H : FS K F S n) {k : Nat} {sv : Sv} {r : List (Nat × Sv)} {s : Nat → Bool} (hk : k < n) (hr : ∀ x ∈ r, x.1 < n) (hs : s k = false) (hp : pasB K V len u k p = true) : rwF K V F S len u p n ((k, sv) :: r) s = rwF K V F S len u p n (psh K F S k (svk K V p k sv) r) (ub s k true) ∧ mkF K V F S len u p n ((k, sv) :: r) s = mkF K V F S len u p n (psh K F S k (svk K V p k sv) r) (ub s k true) := by
  have hc := cnF_ub hk hs
  have hs' : ¬ s k = true := by simp [hs]
  have hKp := pasB_K hp
  have h1 : ¬ (k = 0 ∨ K k = 1) := by omega
  have hl := psh_len (K := K) (F := F) (S := S) (k := k) (sv := svk K V p k sv) (r := r)
  have hr2 : ∀ x ∈ psh K F S k (svk K V p k sv) r, x.1 < n := psh_lt (H.1 k hKp.1 hk hKp.2) (fun h2 => H.2 k hKp.1 hk h2) hr
  have a := rwF_any (K := K) (V := V) (F := F) (S := S) (len := len) (u := u) (p := p) (s := ub s k true) H hr2 (2 * cnF n s + ((k, sv) :: r).length) (by simp; omega)
  rw [rwF, mkF, rwN, mkN, if_neg hs', if_neg hs', if_neg h1, if_neg h1, if_pos hp, if_pos hp]
  exact a
theorem rwF_stop (H : FS K F S n) {k : Nat} {sv : Sv} {r : List (Nat × Sv)} {s : Nat → Bool} (hk : k < n) (hr : ∀ x ∈ r, x.1 < n) (hs : s k = false) (h1 : ¬ (k = 0 ∨ K k = 1)) (hp : ¬ pasB K V len u k p = true) : rwF K V F S len u p n ((k, sv) :: r) s = rwF K V F S len u p n r (ub s k true) ∧ mkF K V F S len u p n ((k, sv) :: r) s = mkF K V F S len u p n r (ub s k true) := by
  have hc := cnF_ub hk hs
  have hs' : ¬ s k = true := by simp [hs]
  have a := rwF_any (K := K) (V := V) (F := F) (S := S) (len := len) (u := u) (p := p) (s := ub s k true) H hr (2 * cnF n s + ((k, sv) :: r).length) (by simp; omega)
  rw [rwF, mkF, rwN, mkN, if_neg hs', if_neg hs', if_neg h1, if_neg h1, if_neg hp, if_neg hp]
  exact a
end TH
/-- which steps were met in this turn -/
def seenB (me : Nat → Nat) (tu : Nat) : Nat → Bool := fun k => decide (me k = tu)
theorem seenB_un {me : Nat → Nat} {tu k : Nat} : seenB (un me k tu) tu = ub (seenB me tu) k true := by
  funext j
  unfold seenB un ub
  split <;> simp
theorem un_same {f : Nat → Nat} {k v : Nat} (h : f k = v) : un f k v = f := by
  funext j; rw [un]; split
  · rename_i hj; rw [hj, h]
  · rfl
/-- a thread's saves -/
def slc (sd : Nat → Int32) (k : Nat) : Sv := fun j => if j < 20 then sd (k * 20 + j) else -1
def rwL (ct : Nat) (st : Nat → Nat) (sd : Nat → Int32) : List (Nat × Sv) := (List.range ct).map (fun i => (st i, slc sd (st i)))
def Nm (sv : Sv) : Prop := ∀ j, 20 ≤ j → sv j = -1
theorem Nm_slc (sd : Nat → Int32) (k : Nat) : Nm (slc sd k) := fun j hj => by rw [slc, if_neg (by omega)]
theorem Nm_upd {sv : Sv} {v : Nat} {x : Int32} (h : Nm sv) (hv : v < 20) : Nm (upd sv v x) := fun j hj => by rw [upd, if_neg (by omega)]; exact h j hj
theorem rwL_len {ct : Nat} {st : Nat → Nat} {sd : Nat → Int32} : (rwL ct st sd).length = ct := by simp [rwL]
theorem slc_cpy {nw : Sv} {sd : Nat → Int32} {k : Nat} (hN : Nm nw) : slc (va_cpy nw sd 0 (k * 20) 20) k = nw := by
  funext j
  rw [slc]; split
  · rw [va_cpy, if_pos (by omega), show 0 + (k * 20 + j - k * 20) = j by omega]
  · rw [hN j (by omega)]
theorem slc_cpy_n {nw : Sv} {sd : Nat → Int32} {k k2 : Nat} (h : k2 ≠ k) : slc (va_cpy nw sd 0 (k * 20) 20) k2 = slc sd k2 := by
  funext j
  rw [slc, slc]; split
  · rw [va_cpy, if_neg (by omega)]
  · rfl
theorem rwL_add {ct k : Nat} {st : Nat → Nat} {sd : Nat → Int32} {nw : Sv} (hN : Nm nw) (hk : ∀ i, i < ct → st i ≠ k) : rwL (ct + 1) (un st ct k) (va_cpy nw sd 0 (k * 20) 20) = rwL ct st sd ++ [(k, nw)] := by
  rw [rwL, List.range_succ, List.map_append, List.map_singleton, un_s, slc_cpy hN]
  congr 1
  apply List.map_congr_left
  intro i hi
  have hi := List.mem_range.mp hi
  rw [un_n (by omega), slc_cpy_n (hk i hi)]
/-- what a walk of the class keeps while it makes a row -/
def TI (n tu c : Nat) (js : Nat → Nat) (nw : Sv) (ct : Nat) (st me : Nat → Nat) (sd : Nat → Int32) : Prop :=
  (∀ i, i < c → JobOk n (js i)) ∧ SvOk nw ∧ Nm nw ∧ ct + cnF n (seenB me tu) ≤ n ∧ (∀ i, i < ct → st i < n ∧ me (st i) = tu ∧ SvOk (slc sd (st i))) ∧ ∀ k, me k ≤ tu
/-- what a visit leaves: the rest of the row is as it would have been -/
def VP (K V F S : Nat → Nat) (len : Nat) (u : Nat → Nat) (p n tu : Nat) (k c : Nat) (js : Nat → Nat) (nw : Sv) (ct : Nat) (st me : Nat → Nat) (sd : Nat → Int32) (c2 : Nat) (js2 : Nat → Nat) (nw2 : Sv) (ct2 : Nat) (st2 me2 : Nat → Nat) (sd2 : Nat → Int32) : Prop :=
  TI n tu c2 js2 nw2 ct2 st2 me2 sd2 ∧ c2 + cnF n (seenB me2 tu) ≤ c + 1 + cnF n (seenB me tu) ∧ 2 * cnF n (seenB me2 tu) + c2 ≤ 2 * cnF n (seenB me tu) + c ∧ c ≤ c2 ∧ c2 ≤ c + 2 ∧
  rwL ct2 st2 sd2 ++ rwF K V F S len u p n (absJ js2 c2 nw2) (seenB me2 tu) = rwL ct st sd ++ rwF K V F S len u p n ((k, nw) :: absJ js c nw) (seenB me tu) ∧
  mkF K V F S len u p n (absJ js2 c2 nw2) (seenB me2 tu) = mkF K V F S len u p n ((k, nw) :: absJ js c nw) (seenB me tu)
section TV
variable {K V F S kC vC fC sC : Nat → Nat} {len : Nat} {u : Nat → Nat} {p n tu k c ct : Nat} {js st me : Nat → Nat} {nw : Sv} {sd : Nat → Int32}
theorem Pg.FS (H : Pg n kC vC fC sC K V F S) : FS K F S n := ⟨fun i h0 hi hk => ((H.2.2.2 i h0 hi).2.2.2.2.2.2.2.1 (by omega)).2, fun i h0 hi hk => ((H.2.2.2 i h0 hi).2.2.2.2.2.2.2.2 hk).2⟩
theorem seen_f (h : me k ≠ tu) : seenB me tu k = false := by simp [seenB, h]
theorem VP_seen (H : Pg n kC vC fC sC K V F S) (hI : TI n tu c js nw ct st me sd) (hk : k < n) (h : me k = tu) : VP K V F S len u p n tu k c js nw ct st me sd c js nw ct st me sd := by
  have a := rwF_seen (K := K) (V := V) (F := F) (S := S) (len := len) (u := u) (p := p) (sv := nw) (s := seenB me tu) H.FS hk (absJ_lt H.2.1 c nw hI.1) (by simp [seenB, h])
  exact ⟨hI, by omega, by omega, by omega, by omega, by rw [a.1], by rw [a.2]⟩
theorem TI_met (hI : TI n tu c js nw ct st me sd) (hk : k < n) (h : me k ≠ tu) : TI n tu c js nw ct st (un me k tu) sd ∧ cnF n (seenB (un me k tu) tu) + 1 = cnF n (seenB me tu) ∧ ∀ i, i < ct → st i ≠ k := by
  obtain ⟨h1, h2, h3, h4, h5, h6⟩ := hI
  have hc := cnF_ub hk (seen_f h)
  rw [← seenB_un] at hc
  refine ⟨⟨h1, h2, h3, by omega, fun i hi => ⟨(h5 i hi).1, ?_, (h5 i hi).2.2⟩, fun j => ?_⟩, hc, fun i hi he => h (by rw [← he]; exact (h5 i hi).2.1)⟩
  · rw [un]; split
    · rfl
    · exact (h5 i hi).2.1
  · rw [un]; split
    · exact Nat.le_refl _
    · exact h6 j
theorem VP_leaf (H : Pg n kC vC fC sC K V F S) (hI : TI n tu c js nw ct st me sd) (hk : k < n) (h : me k ≠ tu) (h1 : kC k = 0 ∨ kC k = 1) : VP K V F S len u p n tu k c js nw ct st me sd c js nw (ct + 1) (un st ct k) (un me k tu) (va_cpy nw sd 0 (k * 20) 20) := by
  obtain ⟨⟨g1, g2, g3, g4, g5, g6⟩, hc, hd⟩ := TI_met hI hk h
  have h1' : k = 0 ∨ K k = 1 := by
    rcases Nat.eq_zero_or_pos k with h0 | h0
    · exact Or.inl h0
    · have := H.2.2.2 k h0 hk; omega
  have a := rwF_leaf (K := K) (V := V) (F := F) (S := S) (len := len) (u := u) (p := p) (sv := nw) H.FS hk (absJ_lt H.2.1 c nw g1) (seen_f h) h1'
  refine ⟨⟨g1, g2, g3, by have := hI.2.2.2.1; omega, fun i hi => ?_, g6⟩, by omega, by omega, by omega, by omega, ?_, ?_⟩
  · by_cases hi2 : i = ct
    · subst hi2; rw [un_s, un_s, slc_cpy g3]; exact ⟨hk, rfl, g2⟩
    · have := g5 i (by omega)
      rw [un_n hi2, slc_cpy_n (hd i (by omega))]; exact this
  · rw [rwL_add g3 hd, a.1, seenB_un, List.append_assoc]; rfl
  · rw [a.2, seenB_un]
theorem VP_stop (H : Pg n kC vC fC sC K V F S) (hI : TI n tu c js nw ct st me sd) (hk : k < n) (h : me k ≠ tu) (h0 : 0 < k) (h1 : K k ≠ 1) (hp : ¬ pasB K V len u k p = true) : VP K V F S len u p n tu k c js nw ct st me sd c js nw ct st (un me k tu) sd := by
  obtain ⟨g, hc, hd⟩ := TI_met hI hk h
  have a := rwF_stop (K := K) (V := V) (F := F) (S := S) (len := len) (u := u) (p := p) (sv := nw) H.FS hk (absJ_lt H.2.1 c nw g.1) (seen_f h) (by omega) hp
  exact ⟨g, by omega, by omega, by omega, by omega, by rw [a.1, seenB_un], by rw [a.2, seenB_un]⟩
theorem JobOk_un {v : Nat} (h : ∀ i, i < c → JobOk n (js i)) (hv : JobOk n v) : ∀ i, i < c + 1 → JobOk n (un js c v i) := by
  intro i hi
  by_cases hc : i = c
  · subst hc; rw [un_s]; exact hv
  · rw [un_n hc]; exact h i (by omega)
theorem VP_one (H : Pg n kC vC fC sC K V F S) (hI : TI n tu c js nw ct st me sd) (hk : k < n) (h : me k ≠ tu) (h0 : 0 < k) (h1 : kC k = 4) (hp : soB len u (vC k) p = true) : VP K V F S len u p n tu k c js nw ct st me sd (c + 1) (un js c (fC k)) nw ct st (un me k tu) sd := by
  obtain ⟨g, hc, hd⟩ := TI_met hI hk h
  have q := H.2.2.2 k h0 hk
  have h4 : K k = 4 := by omega
  have hF := q.2.2.2.2.2.2.2.1 (by omega)
  have hv := q.2.2.2.1 (by omega)
  have hpas : pasB K V len u k p = true := by simp [pasB, h0, h4, ← hv, hp]
  have a := rwF_pass (K := K) (V := V) (F := F) (S := S) (len := len) (u := u) (p := p) (sv := nw) H.FS hk (absJ_lt H.2.1 c nw g.1) (seen_f h) hpas
  have e : psh K F S k (svk K V p k nw) (absJ js c nw) = absJ (un js c (fC k)) (c + 1) nw := by
    rw [absJ_push (by have := H.2.1; omega), psh, svk, if_neg (by omega), if_neg (by omega), hF.1]
  refine ⟨⟨JobOk_un g.1 (Or.inl (by omega)), g.2⟩, by omega, by omega, by omega, by omega, ?_, ?_⟩
  · rw [a.1, seenB_un, e]
  · rw [a.2, seenB_un, e]
theorem VP_two (H : Pg n kC vC fC sC K V F S) (hI : TI n tu c js nw ct st me sd) (hk : k < n) (h : me k ≠ tu) (h0 : 0 < k) (h1 : kC k = 2) : VP K V F S len u p n tu k c js nw ct st me sd (c + 1 + 1) (un (un js c (sC k)) (c + 1) (fC k)) nw ct st (un me k tu) sd := by
  obtain ⟨g, hc, hd⟩ := TI_met hI hk h
  have q := H.2.2.2 k h0 hk
  have h4 : K k = 2 := by omega
  have hF := q.2.2.2.2.2.2.2.1 (by omega)
  have hS := q.2.2.2.2.2.2.2.2 h4
  have hpas : pasB K V len u k p = true := by simp [pasB, h0, h4]
  have a := rwF_pass (K := K) (V := V) (F := F) (S := S) (len := len) (u := u) (p := p) (sv := nw) H.FS hk (absJ_lt H.2.1 c nw g.1) (seen_f h) hpas
  have e : psh K F S k (svk K V p k nw) (absJ js c nw) = absJ (un (un js c (sC k)) (c + 1) (fC k)) (c + 1 + 1) nw := by
    rw [absJ_push (by have := H.2.1; omega), absJ_push (by have := H.2.1; omega), psh, svk, if_neg (by omega), if_pos h4, hF.1, hS.1]
  refine ⟨⟨JobOk_un (JobOk_un g.1 (Or.inl (by omega))) (Or.inl (by omega)), g.2⟩, by omega, by omega, by omega, by omega, ?_, ?_⟩
  · rw [a.1, seenB_un, e]
  · rw [a.2, seenB_un, e]
theorem VP_save (H : Pg n kC vC fC sC K V F S) (hI : TI n tu c js nw ct st me sd) (hk : k < n) (h : me k ≠ tu) (h0 : 0 < k) (h1 : kC k = 3) (hp : p ≤ 200) {hv : Nat} (hh : hv ≤ 201) (he : nw (vC k) = nI hv - nI 1) : VP K V F S len u p n tu k c js nw ct st me sd (c + 1 + 1) (un (un js c (51456 + vC k * 256 + hv)) (c + 1) (fC k)) (upd nw (vC k) (nI p)) ct st (un me k tu) sd := by
  obtain ⟨⟨g1, g2, g3, g4, g5, g6⟩, hc, hd⟩ := TI_met hI hk h
  have q := H.2.2.2 k h0 hk
  have h4 : K k = 3 := by omega
  have hF := q.2.2.2.2.2.2.2.1 (by omega)
  have hV := q.2.2.2.1 (by omega)
  have hV2 := q.2.2.2.2.2.1 h4
  have hpas : pasB K V len u k p = true := by simp [pasB, h0, h4]
  have a := rwF_pass (K := K) (V := V) (F := F) (S := S) (len := len) (u := u) (p := p) (sv := nw) H.FS hk (absJ_lt H.2.1 c nw g1) (seen_f h) hpas
  have e : psh K F S k (svk K V p k nw) (absJ js c nw) = absJ (un (un js c (51456 + vC k * 256 + hv)) (c + 1) (fC k)) (c + 1 + 1) (upd nw (vC k) (nI p)) := by
    rw [absJ_push (by have := H.2.1; omega), absJ_pb (by omega) hh he, psh, svk, if_pos h4, if_neg (by omega), hF.1, hV]
  refine ⟨⟨JobOk_un (JobOk_un g1 (Or.inr ⟨by omega, by omega, by omega⟩)) (Or.inl (by omega)), SvOk_upd g2 (plI_n hp), Nm_upd g3 (by omega), g4, g5, g6⟩, by omega, by omega, by omega, by omega, ?_, ?_⟩
  · rw [a.1, seenB_un, e]
  · rw [a.2, seenB_un, e]
/-- a put-back: the stack stays -/
theorem TI_pb (hI : TI n tu (c + 1) js nw ct st me sd) (hn : n ≤ 200) (h : 51456 ≤ js c) : TI n tu c js (pbS nw (js c)) ct st me sd ∧ absJ js (c + 1) nw = absJ js c (pbS nw (js c)) := by
  obtain ⟨h1, h2, h3, h4, h5, h6⟩ := hI
  have hj := h1 c (by omega)
  rcases hj with hj | ⟨_, hj1, hj2⟩
  · omega
  · refine ⟨⟨fun i hi => h1 i (by omega), SvOk_upd h2 ⟨_, hj2, rfl⟩, Nm_upd h3 hj1, h4, h5, h6⟩, ?_⟩
    rw [absJ, if_pos h]
end TV
