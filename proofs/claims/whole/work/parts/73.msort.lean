/-! sorting, as the reference does it -/
theorem f4_f4 (f : Nat → Nat → Int32) (a b c d a2 b2 c2 d2 : Nat → Int32) : f4 (f4 f a b c d) a2 b2 c2 d2 = f4 f a2 b2 c2 d2 := by
  funext j; unfold f4
  by_cases h2 : j = 6 <;> by_cases h3 : j = 7 <;> by_cases h4 : j = 8 <;> by_cases h1 : j = 11 <;> simp_all
/-- lines found and keys held -/
abbrev MH (s : SS) (x : Nat → Int32) (f : Nat → Nat → Int32) : Prop := SG s ∧ mtx x f s.len (lnc s.B s.len) (lst s.B s.len) s.B ∧ x 1 = nI (lnc s.B s.len) ∧ x 2 = bI true ∧ x 3 = s.all ∧ x 4 = bI s.bs ∧ x 5 = bI s.bo ∧ x 6 = s.sep ∧ mky x f s.kc s.kd s.kg ∧ x 8 = nI s.mem ∧ x 9 = nI s.wy ∧ x 10 = bI true ∧ (true = true → lnc s.B s.len ≤ 1000 ∧ ∀ l k, l < lnc s.B s.len → k < max 1 s.kc → f 3 (6 * l + k) = nI (sp_begin s l k) ∧ f 4 (6 * l + k) = nI (sp_end s l k)) ∧ (∀ i, i < 1000 → f 11 i = nI 0) ∧ x 19 = nI 0
theorem MH.g {s : SS} {x : Nat → Int32} {f : Nat → Nat → Int32} (h : MH s x f) : SG s := h.1
theorem MH.t {s : SS} {x : Nat → Int32} {f : Nat → Nat → Int32} (h : MH s x f) : mtx x f s.len (lnc s.B s.len) (lst s.B s.len) s.B := h.2.1
theorem MH.x1 {s : SS} {x : Nat → Int32} {f : Nat → Nat → Int32} (h : MH s x f) : x 1 = nI (lnc s.B s.len) := h.2.2.1
theorem MH.x2 {s : SS} {x : Nat → Int32} {f : Nat → Nat → Int32} (h : MH s x f) : x 2 = bI true := h.2.2.2.1
theorem MH.x3 {s : SS} {x : Nat → Int32} {f : Nat → Nat → Int32} (h : MH s x f) : x 3 = s.all := h.2.2.2.2.1
theorem MH.x4 {s : SS} {x : Nat → Int32} {f : Nat → Nat → Int32} (h : MH s x f) : x 4 = bI s.bs := h.2.2.2.2.2.1
theorem MH.x5 {s : SS} {x : Nat → Int32} {f : Nat → Nat → Int32} (h : MH s x f) : x 5 = bI s.bo := h.2.2.2.2.2.2.1
theorem MH.x6 {s : SS} {x : Nat → Int32} {f : Nat → Nat → Int32} (h : MH s x f) : x 6 = s.sep := h.2.2.2.2.2.2.2.1
theorem MH.k {s : SS} {x : Nat → Int32} {f : Nat → Nat → Int32} (h : MH s x f) : mky x f s.kc s.kd s.kg := h.2.2.2.2.2.2.2.2.1
theorem MH.x8 {s : SS} {x : Nat → Int32} {f : Nat → Nat → Int32} (h : MH s x f) : x 8 = nI s.mem := h.2.2.2.2.2.2.2.2.2.1
theorem MH.x9 {s : SS} {x : Nat → Int32} {f : Nat → Nat → Int32} (h : MH s x f) : x 9 = nI s.wy := h.2.2.2.2.2.2.2.2.2.2.1
theorem MH.x10 {s : SS} {x : Nat → Int32} {f : Nat → Nat → Int32} (h : MH s x f) : x 10 = bI true := h.2.2.2.2.2.2.2.2.2.2.2.1
theorem MH.hd {s : SS} {x : Nat → Int32} {f : Nat → Nat → Int32} (h : MH s x f) : true = true → lnc s.B s.len ≤ 1000 ∧ ∀ l k, l < lnc s.B s.len → k < max 1 s.kc → f 3 (6 * l + k) = nI (sp_begin s l k) ∧ f 4 (6 * l + k) = nI (sp_end s l k) := h.2.2.2.2.2.2.2.2.2.2.2.2.1
theorem MH.tk {s : SS} {x : Nat → Int32} {f : Nat → Nat → Int32} (h : MH s x f) : ∀ i, i < 1000 → f 11 i = nI 0 := h.2.2.2.2.2.2.2.2.2.2.2.2.2.1
theorem MH.x19 {s : SS} {x : Nat → Int32} {f : Nat → Nat → Int32} (h : MH s x f) : x 19 = nI 0 := h.2.2.2.2.2.2.2.2.2.2.2.2.2.2
theorem MH.mv {s : SS} {x : Nat → Int32} {f : Nat → Nat → Int32} (h : MH s x f) {x2 : Nat → Int32} {f2 : Nat → Nat → Int32} (hx : ∀ i, i < 11 ∨ i = 19 → x2 i = x i) (e0 : f2 0 = f 0) (e1 : f2 1 = f 1) (e2 : f2 2 = f 2) (e3 : f2 3 = f 3) (e4 : f2 4 = f 4) (ht : ∀ i, i < 1000 → f2 11 i = nI 0) : MH s x2 f2 := by
  have e : ∀ i, i < 11 ∨ i = 19 → x2 i = x i := hx
  refine ⟨h.g, ?_, (e 1 (by omega)).trans h.x1, (e 2 (by omega)).trans h.x2, (e 3 (by omega)).trans h.x3, (e 4 (by omega)).trans h.x4, (e 5 (by omega)).trans h.x5, (e 6 (by omega)).trans h.x6, ?_, (e 8 (by omega)).trans h.x8, (e 9 (by omega)).trans h.x9, (e 10 (by omega)).trans h.x10, ?_, ht, (e 19 (by omega)).trans h.x19⟩
  · obtain ⟨a, b, c, d, e5, g⟩ := h.t
    exact ⟨(e 0 (by omega)).trans a, b, c, by rw [e1]; exact d, e5, by rw [e0]; exact g⟩
  · obtain ⟨a, b, c⟩ := h.k
    exact ⟨(e 7 (by omega)).trans a, b, by rw [e2]; exact c⟩
  · rw [e3, e4]; exact h.hd
theorem MH.of {s : SS} {x x2 g3 g4 : Nat → Int32} {f : Nat → Nat → Int32} (h : ML s x f) (h19 : x 19 = nI 0) (hl : lnc s.B s.len ≤ 1000) (ha : ∀ i, i ≠ 10 → i ≠ 17 → i ≠ 18 → x2 i = x i) (h10 : x2 10 = bI true) (hh : ∀ l k, l < lnc s.B s.len → k < max 1 s.kc → g3 (6 * l + k) = nI (sp_begin s l k) ∧ g4 (6 * l + k) = nI (sp_end s l k)) : MH s x2 (fup (fup f 3 g3) 4 g4) := by
  have e : ∀ i, i < 10 ∨ i = 19 → x2 i = x i := fun i hi => ha i (by omega) (by omega) (by omega)
  refine ⟨h.i.g, ?_, (e 1 (by omega)).trans h.x1, (e 2 (by omega)).trans h.x2, (e 3 (by omega)).trans h.i.x3, (e 4 (by omega)).trans h.i.x4, (e 5 (by omega)).trans h.i.x5, (e 6 (by omega)).trans h.i.x6, ?_, (e 8 (by omega)).trans h.i.x8, (e 9 (by omega)).trans h.i.x9, h10, fun _ => ⟨hl, hh⟩, h.i.tk, (e 19 (by omega)).trans h19⟩
  · exact mtx_mv (f := fup (fup f 3 g3) 4 g4) h.mtx (e 0 (by omega))
  · exact mky_mv (f := fup (fup f 3 g3) 4 g4) h.i.k (e 7 (by omega))
/-- keeping a line where it is not as the row before it -/
def of_ (c : Nat → Nat → Bool) (ro : Nat → Nat) : Nat → Nat × (Nat → Nat)
  | 0 => (0, fun _ => 0)
  | k + 1 => if (decide (0 < k) && c (ro (k - 1)) (ro k)) = true then of_ c ro k else ((of_ c ro k).1 + 1, updN (of_ c ro k).2 (of_ c ro k).1 (ro k))
theorem of_le (c : Nat → Nat → Bool) (ro : Nat → Nat) : ∀ k, (of_ c ro k).1 ≤ k := by
  intro k
  induction k with
  | zero => exact Nat.le_refl _
  | succ k ih =>
    rw [of_]
    split
    · omega
    · show (of_ c ro k).1 + 1 ≤ k + 1; omega
theorem of_lt {c : Nat → Nat → Bool} {ro : Nat → Nat} {n : Nat} : ∀ k, (∀ i, i < k → ro i < n) → ∀ i, i < (of_ c ro k).1 → (of_ c ro k).2 i < n := by
  intro k
  induction k with
  | zero => intro _ i hi; exact absurd hi (Nat.not_lt_zero _)
  | succ k ih =>
    intro h i
    rw [of_]
    split
    · exact ih (fun i hi => h i (by omega)) i
    · intro hi
      have hi2 : i < (of_ c ro k).1 + 1 := hi
      show updN _ _ _ i < n
      by_cases e : i = (of_ c ro k).1
      · rw [e, updN_s]; exact h k (by omega)
      · rw [updN_n e]; exact ih (fun i hi => h i (by omega)) i (by omega)
theorem of_t {c : Nat → Nat → Bool} {ro : Nat → Nat} {k : Nat} (h1 : 0 < k) (h2 : c (ro (k - 1)) (ro k) = true) : of_ c ro (k + 1) = of_ c ro k := by rw [of_, if_pos (by simp [h1, h2])]
theorem of_f {c : Nat → Nat → Bool} {ro : Nat → Nat} {k : Nat} (h : 0 < k → c (ro (k - 1)) (ro k) = false) : of_ c ro (k + 1) = ((of_ c ro k).1 + 1, updN (of_ c ro k).2 (of_ c ro k).1 (ro k)) := by
  rw [of_, if_neg]
  intro z
  rw [Bool.and_eq_true] at z
  rw [h (of_decide_eq_true z.1)] at z
  exact absurd z.2 (by decide)
def s_c (s : SS) (a b : Nat) : Bool := s.bo && decide (oI (sk_o s a b) = 0)
/-- merging the first runs again and again: rows, lengths, runs, merges, lines moved -/
abbrev MS : Type := (Nat → Nat) × (Nat → Nat) × Nat × Nat × Nat
def ms_st (o : Nat → Nat → Ordering) (ln wy : Nat) (S : MS) : MS := match S with
  | (ro, sz, rn, mg, mv) => (mm_ro o ln wy rn ro sz, mm_sz wy rn sz, rn - mm_n wy rn + 1, mg + 1, mv + pf sz (mm_n wy rn))
def ms_run (o : Nat → Nat → Ordering) (ln wy : Nat) : Nat → MS → MS
  | 0, S => S
  | k + 1, S => if S.2.2.1 ≤ 1 then S else ms_run o ln wy k (ms_st o ln wy S)
theorem ms_run0 {o : Nat → Nat → Ordering} {ln wy k : Nat} {S : MS} (h : S.2.2.1 ≤ 1) : ms_run o ln wy k S = S := by
  cases k with
  | zero => rfl
  | succ k => rw [ms_run, if_pos h]
def s_R (s : SS) : RS := rs_run (sa_o s) (lnc s.B s.len) (2 * lnc s.B s.len + 1) (rs_0 (lnc s.B s.len) s.mem)
def s_M (s : SS) : MS := ms_run (sa_o s) (lnc s.B s.len) s.wy (lnc s.B s.len) ((s_R s).2.2.2.2.2.1, (s_R s).2.2.2.2.2.2.1, (s_R s).2.2.2.2.2.2.2, 0, 0)
def qs_mk (s : SS) (ro : Nat → Nat) (rn : Nat) (sz : Nat → Nat) (mg mv : Nat) : SS := SS.mk s.len s.B s.sep s.all s.bs s.bo s.kc s.kd s.kg s.mem s.wy (of_ (s_c s) ro (lnc s.B s.len)).1 (of_ (s_c s) ro (lnc s.B s.len)).2 rn sz mg mv (lnc s.B s.len - (of_ (s_c s) ro (lnc s.B s.len)).1)
def q_sort (s : SS) : SS := qs_mk s (s_M s).1 (s_R s).2.2.2.2.2.2.2 (s_R s).2.2.2.2.2.2.1 (s_M s).2.2.2.1 (s_M s).2.2.2.2
def t_sort (s : SS) : Nat := tb (decide (1000 < lnc s.B s.len)) 1 0
/-- the lengths sum up to what is out -/
theorem pf_ext {a b : Nat → Nat} : ∀ n, (∀ i, i < n → a i = b i) → pf a n = pf b n := by
  intro n
  induction n with
  | zero => intro _; rfl
  | succ n ih => intro h; rw [pf_s, pf_s, ih (fun i hi => h i (by omega)), h n (by omega)]
theorem rs_sum {o : Nat → Nat → Ordering} {ln : Nat} : ∀ (k : Nat) (S : RS), (S.2.2.2.1 = none ∨ 1 ≤ S.2.2.2.2.2.2.2) → pf S.2.2.2.2.2.2.1 S.2.2.2.2.2.2.2 = S.2.2.2.2.1 → pf (rs_run o ln k S).2.2.2.2.2.2.1 (rs_run o ln k S).2.2.2.2.2.2.2 = (rs_run o ln k S).2.2.2.2.1 := by
  intro k
  induction k with
  | zero => intro S _ h; exact h
  | succ k ih =>
    intro S h1 h2
    rw [rs_run]
    split
    · exact h2
    · obtain ⟨im, th, nx, lt, ou, ro, sz, rn⟩ := S
      have key : pf (rs_sz lt sz rn) (rs_rn lt rn) = ou + 1 ∧ 1 ≤ rs_rn lt rn := by
        have h2' : pf sz rn = ou := h2
        unfold rs_sz rs_s0 rs_rn
        by_cases e : lt = none
        · rw [if_pos e, if_pos e]
          refine ⟨?_, by omega⟩
          rw [Nat.add_sub_cancel, pf_s, updN_s, updN_s, pf_ext rn (b := sz) (fun i hi => by rw [updN_n (by omega), updN_n (by omega)]), h2']
        · rw [if_neg e, if_neg e]
          have h1' : 1 ≤ rn := by
            rcases h1 with z | z
            · exact absurd z e
            · exact z
          refine ⟨?_, h1'⟩
          obtain ⟨m, rfl⟩ : ∃ m, rn = m + 1 := ⟨rn - 1, by omega⟩
          rw [Nat.add_sub_cancel, pf_s, updN_s, pf_ext m (b := sz) (fun i hi => by rw [updN_n (by omega)])]
          rw [pf_s] at h2'
          omega
      refine ih _ ?_ ?_
      · unfold rs_st
        simp only
        split
        · exact Or.inl rfl
        · split
          · exact Or.inr key.2
          · exact Or.inr key.2
      · unfold rs_st
        simp only
        split
        · exact h2
        · split
          · exact key.1
          · exact key.1
theorem pf_zero : ∀ n, pf (fun _ => 0) n = 0 := by
  intro n
  induction n with
  | zero => rfl
  | succ n ih => rw [pf_s, ih]
/-- what merging keeps -/
theorem mf_inv {o : Nat → Nat → Ordering} {ro sz : Nat → Nat} {n ln : Nat} (hro : ∀ i, i < ln → ro i < ln) (hT : pf sz n ≤ ln) : ∀ d, d ≤ pf sz n → pf (mf o ro sz n d).1 n = d ∧ ∀ k, k < d → (mf o ro sz n d).2 k < ln := by
  intro d
  induction d with
  | zero =>
    intro _
    refine ⟨?_, fun k hk => absurd hk (Nat.not_lt_zero _)⟩
    exact pf_zero n
  | succ d ih =>
    intro hd
    obtain ⟨h1, h2⟩ := ih (by omega)
    show pf (mf_st o ro sz n d (mf o ro sz n d)).1 n = _ ∧ _
    generalize hS : mf o ro sz n d = S at h1 h2
    have e : mf o ro sz n (d + 1) = mf_st o ro sz n d S := by rw [← hS]; rfl
    rw [e]
    unfold mf_st
    cases hsel : mf_sel o ro sz S.1 n with
    | none => have := mf_sel_no hsel; omega
    | some b =>
      obtain ⟨hb1, hb2⟩ := mf_sel_lt hsel
      have := pf_in sz hb1 hb2
      refine ⟨?_, fun k hk => ?_⟩
      · show pf (updN S.1 b (S.1 b + 1)) n = _
        rw [pf_upd hb1, h1]
      · show updN S.2 d _ k < ln
        by_cases ek : k = d
        · rw [ek, updN_s]; exact hro _ (by omega)
        · rw [updN_n ek]; exact h2 k (by omega)
theorem mm_ro_lt {o : Nat → Nat → Ordering} {ro sz : Nat → Nat} {wy rn ln : Nat} (hro : ∀ i, i < ln → ro i < ln) (hs : pf sz rn = ln) : ∀ i, i < ln → mm_ro o ln wy rn ro sz i < ln := by
  intro i hi
  have hn1 : mm_n wy rn ≤ rn := by unfold mm_n; split <;> omega
  have hT := pf_mono sz hn1
  unfold mm_ro
  split
  · exact hro _ (by omega)
  · exact (mf_inv hro (by omega) _ (Nat.le_refl _)).2 _ (by omega)
theorem pf_sh (sz : Nat → Nat) (n : Nat) : ∀ m, pf (fun i => sz (i + n)) m + pf sz n = pf sz (m + n) := by
  intro m
  induction m with
  | zero => rw [pf_0, Nat.zero_add, Nat.zero_add]
  | succ m ih => rw [pf_s, show m + 1 + n = (m + n) + 1 by omega, pf_s, ← ih]; omega
theorem mm_sum {sz : Nat → Nat} {wy rn : Nat} : pf (mm_sz wy rn sz) (rn - mm_n wy rn + 1) = pf sz rn := by
  have hn1 : mm_n wy rn ≤ rn := by unfold mm_n; split <;> omega
  unfold mm_sz
  rw [pf_s, updN_s, pf_ext (rn - mm_n wy rn) (b := fun i => sz (i + mm_n wy rn)) (fun i hi => by rw [updN_n (by omega)]), pf_sh, show rn - mm_n wy rn + mm_n wy rn = rn by omega]
