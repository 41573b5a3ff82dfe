/-! the rows that merging leaves are the lines by rank -/
theorem hc_add (h : Nat → Nat) (m a : Nat) : ∀ n, hc h (m + n) a = hc h m a + hc (fun i => h (m + i)) n a := by
  intro n
  induction n with
  | zero => rfl
  | succ n ih => rw [← Nat.add_assoc, hc_s, ih, hc_s]; omega
theorem hc_inj {h : Nat → Nat} {n : Nat} (h1 : ∀ a, hc h n a ≤ 1) {i j : Nat} (hi : i < n) (hj : j < n) (e : h i = h j) : i = j := by
  have key : ∀ i j, i < j → j < n → h i = h j → False := by
    intro i j hij hj e
    have z := hc_add h j (h j) (n - j)
    rw [show j + (n - j) = n by omega] at z
    have z1 := hc_in (h := h) (a := h j) (i := i) (n := j) hij e
    have z2 := hc_in (h := fun i => h (j + i)) (a := h j) (i := 0) (n := n - j) (by omega) rfl
    have := h1 (h j)
    omega
  rcases Nat.lt_trichotomy i j with c | c | c
  · exact (key i j c hj e).elim
  · exact c
  · exact (key j i c hi e.symm).elim
def SRT (o : Nat → Nat → Ordering) (ro sz : Nat → Nat) (rn : Nat) : Prop := ∀ r, r < rn → ∀ i, pf sz r ≤ i → i + 1 < pf sz (r + 1) → bf o (ro i) (ro (i + 1)) = true
theorem rs_pf {lt : Option Nat} {sz : Nat → Nat} {rn r : Nat} (h : r ≤ rs_rn lt rn - 1) : pf (rs_sz lt sz rn) r = pf sz r := by
  refine pf_ext r (fun i hi => ?_)
  unfold rs_sz
  rw [updN_n (by omega)]
  unfold rs_s0
  by_cases e : lt = none
  · rw [if_pos e, updN_n]
    unfold rs_rn at h
    rw [if_pos e] at h; omega
  · rw [if_neg e]
theorem rs_pl {lt : Option Nat} {sz : Nat → Nat} {rn : Nat} (h8 : lt = none ∨ 1 ≤ rn) : pf (rs_sz lt sz rn) (rs_rn lt rn) = pf sz rn + 1 ∧ 1 ≤ rs_rn lt rn := by
  have h1 : 1 ≤ rs_rn lt rn := by unfold rs_rn; split; omega; rcases h8 with z | z; contradiction; exact z
  refine ⟨?_, h1⟩
  have e : pf (rs_sz lt sz rn) (rs_rn lt rn) = pf (rs_sz lt sz rn) (rs_rn lt rn - 1) + rs_sz lt sz rn (rs_rn lt rn - 1) := by
    rw [← pf_s, show rs_rn lt rn - 1 + 1 = rs_rn lt rn by omega]
  rw [e, rs_pf (Nat.le_refl _)]
  unfold rs_sz
  rw [updN_s]
  unfold rs_s0 rs_rn
  by_cases e2 : lt = none
  · rw [if_pos e2, if_pos e2, Nat.add_sub_cancel, updN_s]
  · rw [if_neg e2, if_neg e2]
    have h1' : 1 ≤ rn := by
      rcases h8 with z | z
      · exact absurd z e2
      · exact z
    have : pf sz rn = pf sz (rn - 1) + sz (rn - 1) := by rw [← pf_s, show rn - 1 + 1 = rn by omega]
    omega
/-- the runs are in order, and every line is somewhere -/
def RQ (o : Nat → Nat → Ordering) (ln : Nat) (S : RS) : Prop := match S with
  | (im, th, nx, lt, ou, ro, sz, rn) => pf sz rn = ou ∧ (lt = none ∨ 1 ≤ rn) ∧ SRT o ro sz rn ∧ (∀ t, lt = some t → 1 ≤ ou ∧ ro (ou - 1) = t) ∧ (∀ a, hc ro ou a + hc im th a + (if nx ≤ a ∧ a < ln then 1 else 0) = if a < ln then 1 else 0) ∧ nx ≤ ln
theorem RQ.step {o : Nat → Nat → Ordering} (hg : gc o) {ln : Nat} {S : RS} (h : RQ o ln S) (hth : 0 < S.2.1) : RQ o ln (rs_st o ln S) := by
  obtain ⟨im, th, nx, lt, ou, ro, sz, rn⟩ := S
  obtain ⟨h1, h2, h3, h4, h5, h6⟩ := h
  have hth : 0 < th := hth
  unfold rs_st
  simp only
  cases hsel : rs_sel o im lt th with
  | none => exact ⟨h1, Or.inl rfl, h3, fun t z => (by cases z), h5, h6⟩
  | some b =>
    have hb := rs_sel_lt hsel
    obtain ⟨m1, m2⟩ := rs_sel_min hg hsel
    obtain ⟨p1, p2⟩ := rs_pl (sz := sz) h2
    have hso : SRT o (updN ro ou (im b)) (rs_sz lt sz rn) (rs_rn lt rn) := by
      intro r hr i hi1 hi2
      by_cases e : r = rs_rn lt rn - 1
      · rw [e, rs_pf (Nat.le_refl _)] at hi1
        rw [e, show rs_rn lt rn - 1 + 1 = rs_rn lt rn by omega, p1, h1] at hi2
        cases lt with
        | none =>
          have : pf sz (rn + 1 - 1) ≤ i := hi1
          rw [Nat.add_sub_cancel, h1] at this; omega
        | some t =>
          have hi1 : pf sz (rn - 1) ≤ i := hi1
          have hr1 : 1 ≤ rn := by
            rcases h2 with z | z
            · cases z
            · exact z
          by_cases e2 : i + 1 = ou
          · obtain ⟨q1, q2⟩ := h4 t rfl
            rw [updN_n (by omega), e2, updN_s, show i = ou - 1 by omega, q2]
            have mb : bf o (im b) t = false := m1
            refine bf_tot hg (fun z => ?_) mb
            have w := h5 t
            have w1 := hc_in (h := ro) (a := t) (i := ou - 1) (n := ou) (by omega) q2
            have w2 := hc_in (h := im) (a := t) (i := b) (n := th) hb z
            have w3 : (if t < ln then 1 else 0) ≤ 1 := by split <;> omega
            omega
          · rw [updN_n (by omega), updN_n (by omega)]
            exact h3 (rn - 1) (by omega) i hi1 (by rw [show rn - 1 + 1 = rn by omega, h1]; omega)
      · have hr2 : r + 1 ≤ rs_rn lt rn - 1 := by omega
        have hrn : rs_rn lt rn - 1 ≤ rn := by unfold rs_rn; split <;> omega
        rw [rs_pf (by omega)] at hi1
        rw [rs_pf hr2] at hi2
        have hm := pf_mono sz (show r + 1 ≤ rn by omega)
        rw [updN_n (by omega), updN_n (by omega)]
        exact h3 r (by omega) i hi1 hi2
    have hl : ∀ t, some (im b) = some t → 1 ≤ ou + 1 ∧ updN ro ou (im b) (ou + 1 - 1) = t := by
      intro t z
      cases z
      exact ⟨by omega, by rw [Nat.add_sub_cancel, updN_s]⟩
    have hcr : ∀ a, hc (updN ro ou (im b)) (ou + 1) a = hc ro ou a + (if im b = a then 1 else 0) := by
      intro a
      rw [hc_s, updN_s, hc_ext (g := ro) (fun j hj => updN_n (by omega))]
    by_cases hnx : nx < ln
    · dsimp only
      rw [if_pos hnx]
      refine ⟨by rw [p1, h1], Or.inr p2, hso, hl, fun a => ?_, by omega⟩
      have z := hc_upd (h := im) (i := b) (v := nx) (a := a) hb
      have z5 := h5 a
      rw [hcr a]
      have e : (if nx + 1 ≤ a ∧ a < ln then 1 else 0) + (if nx = a then 1 else 0) = (if nx ≤ a ∧ a < ln then 1 else 0) := by
        by_cases e1 : nx = a
        · rw [if_neg (by omega), if_pos e1, if_pos (by omega)]
        · rw [if_neg e1]
          by_cases e2 : nx ≤ a ∧ a < ln
          · rw [if_pos e2, if_pos (by omega)]
          · rw [if_neg e2, if_neg (by omega)]
      omega
    · dsimp only
      rw [if_neg hnx]
      refine ⟨by rw [p1, h1], Or.inr p2, hso, hl, fun a => ?_, h6⟩
      have z5 := h5 a
      rw [hcr a]
      obtain ⟨c, rfl⟩ : ∃ c, th = c + 1 := ⟨th - 1, by omega⟩
      rw [hc_s] at z5
      show _ + hc (updN im b (im (c + 1 - 1))) (c + 1 - 1) a + _ = _
      rw [Nat.add_sub_cancel]
      by_cases e : b = c
      · rw [hc_ext (g := im) (fun j hj => updN_n (by omega)), e]; omega
      · have z := hc_upd (h := im) (i := b) (v := im c) (a := a) (n := c) (by omega)
        omega
theorem RQ.run {o : Nat → Nat → Ordering} (hg : gc o) {ln : Nat} : ∀ (k : Nat) (S : RS), RQ o ln S → RQ o ln (rs_run o ln k S) := by
  intro k
  induction k with
  | zero => intro S h; exact h
  | succ k ih =>
    intro S h
    rw [rs_run]
    by_cases e : S.2.1 = 0
    · rw [if_pos e]; exact h
    · rw [if_neg e]; exact ih _ (RQ.step hg h (by omega))
theorem hc_id (a : Nat) : ∀ n, hc (fun i => i) n a = if a < n then 1 else 0 := by
  intro n
  induction n with
  | zero => rw [if_neg (by omega)]; rfl
  | succ n ih =>
    rw [hc_s, ih]
    by_cases e : n = a
    · rw [if_neg (by omega), if_pos e, if_pos (by omega)]
    · rw [if_neg e]
      by_cases e2 : a < n
      · rw [if_pos e2, if_pos (by omega)]
      · rw [if_neg e2, if_neg (by omega)]
theorem RQ.start {o : Nat → Nat → Ordering} {ln mem : Nat} : RQ o ln (rs_0 ln mem) := by
  refine ⟨rfl, Or.inl rfl, fun r hr => absurd hr (Nat.not_lt_zero _), fun t z => (by cases z), fun a => ?_, Nat.min_le_left _ _⟩
  show hc _ 0 a + hc (fun i => i) (min ln mem) a + _ = _
  rw [hc_id]
  show 0 + _ + _ = _
  by_cases e1 : a < ln
  · rw [if_pos e1]
    by_cases e2 : a < min ln mem
    · rw [if_pos e2, if_neg (by omega)]
    · rw [if_neg e2, if_pos (by omega)]
  · rw [if_neg e1, if_neg (by omega), if_neg (by omega)]
/-- rows in runs: each line once, each run in order -/
def MV (o : Nat → Nat → Ordering) (ln : Nat) (ro sz : Nat → Nat) (rn : Nat) : Prop := pf sz rn = ln ∧ (∀ a, hc ro ln a = if a < ln then 1 else 0) ∧ SRT o ro sz rn
theorem MV.lt {o : Nat → Nat → Ordering} {ln : Nat} {ro sz : Nat → Nat} {rn : Nat} (h : MV o ln ro sz rn) : ∀ i, i < ln → ro i < ln := by
  intro i hi
  have z := hc_in (h := ro) (a := ro i) hi rfl
  rw [h.2.1] at z
  by_cases e : ro i < ln
  · exact e
  · rw [if_neg e] at z; omega
theorem MV.inj {o : Nat → Nat → Ordering} {ln : Nat} {ro sz : Nat → Nat} {rn : Nat} (h : MV o ln ro sz rn) {i j : Nat} (hi : i < ln) (hj : j < ln) (e : ro i = ro j) : i = j :=
  hc_inj (fun a => by rw [h.2.1]; split <;> omega) hi hj e
theorem pf_one {g g2 : Nat → Nat} {b e : Nat} : ∀ {n : Nat}, b < n → g2 b = g b + e → (∀ j, j ≠ b → g2 j = g j) → pf g2 n = pf g n + e := by
  intro n
  induction n with
  | zero => intro h; omega
  | succ n ih =>
    intro hb h1 h2
    rw [pf_s, pf_s]
    by_cases c : b = n
    · rw [← c, h1, pf_ext b (b := g) (fun i hi => h2 i (by omega))]; omega
    · rw [ih (by omega) h1 h2, h2 n (fun z => c z.symm)]; omega
theorem pf_full {tk sz : Nat → Nat} : ∀ {n : Nat}, (∀ j, tk j ≤ sz j) → pf tk n = pf sz n → ∀ j, j < n → tk j = sz j := by
  intro n
  induction n with
  | zero => intro _ _ j hj; omega
  | succ n ih =>
    intro h1 h2 j hj
    rw [pf_s, pf_s] at h2
    have h3 : pf tk n ≤ pf sz n := by
      clear ih h2 hj
      induction n with
      | zero => exact Nat.le_refl _
      | succ n ih => rw [pf_s, pf_s]; have := h1 n; omega
    have h4 := h1 n
    by_cases e : j = n
    · rw [e]; omega
    · exact ih h1 (by omega) j (by omega)
theorem hc_blk (ro sz : Nat → Nat) (a : Nat) : ∀ n, pf (fun j => hc (fun i => ro (pf sz j + i)) (sz j) a) n = hc ro (pf sz n) a := by
  intro n
  induction n with
  | zero => rfl
  | succ n ih => rw [pf_s, ih, pf_s, hc_add]
theorem mf_so {o : Nat → Nat → Ordering} (hg : gc o) {ln : Nat} {ro sz : Nat → Nat} {rn n : Nat} (h : MV o ln ro sz rn) (hn : n ≤ rn) : ∀ d, d ≤ pf sz n → (∀ i, i + 1 < d → bf o ((mf o ro sz n d).2 i) ((mf o ro sz n d).2 (i + 1)) = true) ∧ (0 < d → ∀ j, j < n → (mf o ro sz n d).1 j < sz j → bf o ((mf o ro sz n d).2 (d - 1)) (ro (pf sz j + (mf o ro sz n d).1 j)) = true) ∧ ∀ a, hc (mf o ro sz n d).2 d a = pf (fun j => hc (fun i => ro (pf sz j + i)) ((mf o ro sz n d).1 j) a) n := by
  have hT := pf_mono sz hn
  rw [h.1] at hT
  intro d
  induction d with
  | zero =>
    intro _
    refine ⟨fun i hi => by omega, fun z => by omega, fun a => ?_⟩
    show 0 = pf (fun j => hc _ 0 a) n
    exact (pf_zero n).symm
  | succ d ih =>
    intro hd
    obtain ⟨h1, h2, h3⟩ := ih (by omega)
    have hsd := (mf_inv (o := o) (n := n) h.lt hT d (by omega)).1
    show (∀ i, i + 1 < d + 1 → bf o ((mf_st o ro sz n d (mf o ro sz n d)).2 i) _ = true) ∧ _
    have e : mf o ro sz n (d + 1) = mf_st o ro sz n d (mf o ro sz n d) := rfl
    rw [e]
    generalize mf o ro sz n d = S at h1 h2 h3 hsd
    obtain ⟨tk, ot⟩ := S
    have hsd : pf tk n = d := hsd
    unfold mf_st
    cases hsel : mf_sel o ro sz tk n with
    | none => have := mf_sel_no hsel; omega
    | some b =>
      obtain ⟨hb1, hb2⟩ := mf_sel_lt hsel
      have hin := pf_in sz hb1 hb2
      have hmin := mf_sel_min hg hsel
      dsimp only
      have h1 : ∀ i, i + 1 < d → bf o (ot i) (ot (i + 1)) = true := h1
      have h2 : 0 < d → ∀ j, j < n → tk j < sz j → bf o (ot (d - 1)) (ro (pf sz j + tk j)) = true := h2
      have h3 : ∀ a, hc ot d a = pf (fun j => hc (fun i => ro (pf sz j + i)) (tk j) a) n := h3
      refine ⟨fun i hi => ?_, fun _ j hj ht => ?_, fun a => ?_⟩
      · by_cases e2 : i + 1 = d
        · rw [updN_n (by omega), e2, updN_s, show i = d - 1 by omega]; exact h2 (by omega) b hb1 hb2
        · rw [updN_n (by omega), updN_n (by omega)]; exact h1 i (by omega)
      · rw [Nat.add_sub_cancel, updN_s]
        by_cases e2 : j = b
        · rw [e2, updN_s] at ht ⊢
          rw [← Nat.add_assoc]
          exact h.2.2 b (by omega) _ (by omega) (by rw [pf_s]; omega)
        · rw [updN_n e2] at ht ⊢
          have hinj := pf_in sz hj ht
          refine bf_tot hg (fun z => ?_) (hmin j hj ht)
          have z2 := h.inj (by omega) (by omega) z
          rcases Nat.lt_trichotomy j b with c | c | c
          · have := pf_in sz c ht; omega
          · exact e2 c
          · have := pf_in sz c hb2; omega
      · rw [hc_s, updN_s, hc_ext (g := ot) (fun j hj => updN_n (by omega)), h3 a]
        symm
        refine pf_one hb1 ?_ (fun j hj => by rw [updN_n hj])
        rw [updN_s, hc_s]
theorem mm_mv {o : Nat → Nat → Ordering} (hg : gc o) {ln : Nat} {ro sz : Nat → Nat} {rn w : Nat} (h : MV o ln ro sz rn) : MV o ln (mm_ro o ln w rn ro sz) (mm_sz w rn sz) (rn - mm_n w rn + 1) := by
  have hn : mm_n w rn ≤ rn := by unfold mm_n; split <;> omega
  have hT := pf_mono sz hn
  rw [h.1] at hT
  obtain ⟨s1, s2, s3⟩ := mf_so hg h hn _ (Nat.le_refl _)
  have htk := mf_tk (o := o) (ro := ro) (sz := sz) (n := mm_n w rn) (pf sz (mm_n w rn))
  have hsd := (mf_inv (o := o) (n := mm_n w rn) h.lt hT (pf sz (mm_n w rn)) (Nat.le_refl _)).1
  have hfull := pf_full htk hsd
  refine ⟨by rw [mm_sum]; exact h.1, fun a => ?_, ?_⟩
  · have e1 := hc_add (mm_ro o ln w rn ro sz) (ln - pf sz (mm_n w rn)) a (pf sz (mm_n w rn))
    rw [show ln - pf sz (mm_n w rn) + pf sz (mm_n w rn) = ln by omega] at e1
    have e2 := hc_add ro (pf sz (mm_n w rn)) a (ln - pf sz (mm_n w rn))
    rw [show pf sz (mm_n w rn) + (ln - pf sz (mm_n w rn)) = ln by omega, h.2.1] at e2
    have e3 : hc (mm_ro o ln w rn ro sz) (ln - pf sz (mm_n w rn)) a = hc (fun i => ro (pf sz (mm_n w rn) + i)) (ln - pf sz (mm_n w rn)) a := hc_ext (fun i hi => by unfold mm_ro; rw [if_pos hi])
    have e4 : hc (fun i => mm_ro o ln w rn ro sz (ln - pf sz (mm_n w rn) + i)) (pf sz (mm_n w rn)) a = hc (mf o ro sz (mm_n w rn) (pf sz (mm_n w rn))).2 (pf sz (mm_n w rn)) a := hc_ext (fun i hi => by
      show mm_ro o ln w rn ro sz _ = _
      unfold mm_ro; rw [if_neg (by omega), show ln - pf sz (mm_n w rn) + i - (ln - pf sz (mm_n w rn)) = i by omega])
    have e5 : hc (mf o ro sz (mm_n w rn) (pf sz (mm_n w rn))).2 (pf sz (mm_n w rn)) a = hc ro (pf sz (mm_n w rn)) a := by
      rw [s3 a, ← hc_blk]
      exact pf_ext _ (fun j hj => by rw [hfull j hj])
    omega
  · intro r hr i hi1 hi2
    have hsh : ∀ r, r ≤ rn - mm_n w rn → pf (mm_sz w rn sz) r + pf sz (mm_n w rn) = pf sz (r + mm_n w rn) := by
      intro r hr
      rw [← pf_sh]
      congr 1
      refine pf_ext r (fun i hi => ?_)
      unfold mm_sz
      rw [updN_n (by omega)]
    by_cases e : r = rn - mm_n w rn
    · have z1 := hsh r (by omega)
      rw [e, show rn - mm_n w rn + mm_n w rn = rn by omega, h.1] at z1
      rw [e] at hi1 hi2
      rw [mm_sum, h.1] at hi2
      unfold mm_ro
      rw [if_neg (by omega), if_neg (by omega), show i + 1 - (ln - pf sz (mm_n w rn)) = i - (ln - pf sz (mm_n w rn)) + 1 by omega]
      exact s1 _ (by omega)
    · have z1 := hsh r (by omega)
      have z2 := hsh (r + 1) (by omega)
      have z3 := pf_mono sz (show r + 1 + mm_n w rn ≤ rn by omega)
      rw [h.1] at z3
      unfold mm_ro
      rw [if_pos (by omega), if_pos (by omega), ← Nat.add_assoc]
      refine h.2.2 (r + mm_n w rn) (by omega) _ (by omega) ?_
      rw [show r + mm_n w rn + 1 = r + 1 + mm_n w rn by omega]
      omega
theorem ms_mv {o : Nat → Nat → Ordering} (hg : gc o) {ln w : Nat} (hw : 2 ≤ w) : ∀ (k : Nat) (S : MS), S.2.2.1 ≤ k + 1 → MV o ln S.1 S.2.1 S.2.2.1 → MV o ln (ms_run o ln w k S).1 (ms_run o ln w k S).2.1 (ms_run o ln w k S).2.2.1 ∧ (ms_run o ln w k S).2.2.1 ≤ 1 := by
  intro k
  induction k with
  | zero => intro S hk h; exact ⟨h, hk⟩
  | succ k ih =>
    intro S hk h
    rw [ms_run]
    by_cases e : S.2.2.1 ≤ 1
    · rw [if_pos e]; exact ⟨h, e⟩
    · rw [if_neg e]
      obtain ⟨ro, sz, rn, mg, mv⟩ := S
      have e : ¬ rn ≤ 1 := e
      have hk : rn ≤ k + 1 + 1 := hk
      have hmn : 2 ≤ mm_n w rn := by unfold mm_n; split <;> omega
      have hmn2 : mm_n w rn ≤ rn := by unfold mm_n; split <;> omega
      exact ih _ (by show rn - mm_n w rn + 1 ≤ k + 1; omega) (mm_mv hg h)
theorem inc_id {f : Nat → Nat} {n : Nat} (h1 : ∀ i, i + 1 < n → f i < f (i + 1)) (h2 : ∀ i, i < n → f i < n) : ∀ i, i < n → f i = i := by
  have a1 : ∀ i, i < n → i ≤ f i := by
    intro i
    induction i with
    | zero => intro _; exact Nat.zero_le _
    | succ i ih => intro hi; have := ih (by omega); have := h1 i hi; omega
  have a2 : ∀ k i, i + k + 1 = n → f i + k + 1 ≤ n := by
    intro k
    induction k with
    | zero => intro i hi; have := h2 i (by omega); omega
    | succ k ih => intro i hi; have := ih (i + 1) (by omega); have := h1 i (by omega); omega
  intro i hi
  have := a1 i hi
  have := a2 (n - i - 1) i (by omega)
  omega
theorem so_rk {o : Nat → Nat → Ordering} (hg : gc o) {ln : Nat} {ro : Nat → Nat} (h1 : ∀ i, i + 1 < ln → bf o (ro i) (ro (i + 1)) = true) (h2 : ∀ i, i < ln → ro i < ln) : ∀ i, i < ln → ro i = rk o ln i := by
  have z := inc_id (f := fun i => rx (rk o ln) ln (ro i)) (n := ln) (fun i hi => (rx_lt hg (h2 _ (by omega)) (h2 _ hi)).mp (h1 i hi)) (fun i hi => (rx_ok o (fun _ => 0) (h2 i hi)).2.1)
  intro i hi
  have e := (rx_ok o (fun _ => 0) (h2 i hi)).2.2
  have z1 : rx (rk o ln) ln (ro i) = i := z i hi
  rw [z1] at e; exact e.symm
/-- how often, and how much, is merged -/
theorem sr_pf (qu : Nat → Nat) : ∀ n a, sr qu n a = pf (fun i => qu (a + i)) n := by
  intro n
  induction n with
  | zero => intro a; rfl
  | succ n ih => intro a; rw [sr_snoc, ih, pf_s]
theorem ms_cm {o : Nat → Nat → Ordering} {ln w : Nat} (hw : 2 ≤ w) : ∀ (k a b mg mv rn : Nat) (qu sz ro : Nat → Nat), rn ≤ k + 1 → b = a + rn → mg + rn ≤ 1000 → (∀ i, i < rn → qu (a + i) = sz i) → cm w a b qu mg mv = ((ms_run o ln w k (ro, sz, rn, mg, mv)).2.2.2.1, (ms_run o ln w k (ro, sz, rn, mg, mv)).2.2.2.2) := by
  intro k
  induction k with
  | zero =>
    intro a b mg mv rn qu sz ro hk hb hm hq
    rw [cm_f (by omega)]; rfl
  | succ k ih =>
    intro a b mg mv rn qu sz ro hk hb hm hq
    rw [ms_run]
    by_cases e : rn ≤ 1
    · rw [if_pos e, cm_f (by omega)]
    · rw [if_neg e, cm_t (by omega) (by omega) hw]
      have hmn : 2 ≤ mm_n w rn := by unfold mm_n; split <;> omega
      have hmn2 : mm_n w rn ≤ rn := by unfold mm_n; split <;> omega
      have e1 : min b (a + w) = a + mm_n w rn := by unfold mm_n; split <;> omega
      have e2 : sr qu (min b (a + w) - a) a = pf sz (mm_n w rn) := by
        rw [e1, show a + mm_n w rn - a = mm_n w rn by omega, sr_pf]
        exact pf_ext _ (fun i hi => hq i (by omega))
      rw [e2, e1]
      refine ih (a + mm_n w rn) (b + 1) (mg + 1) (mv + pf sz (mm_n w rn)) (rn - mm_n w rn + 1) _ (mm_sz w rn sz) _ (by omega) (by omega) (by omega) (fun i hi => ?_)
      unfold mm_sz
      by_cases e3 : i = rn - mm_n w rn
      · rw [e3, updN_s, show a + mm_n w rn + (rn - mm_n w rn) = b by omega, updN_s]
      · rw [updN_n e3, updN_n (by omega), show a + mm_n w rn + i = a + (i + mm_n w rn) by omega]
        exact hq _ (by omega)
/-- keeping each once: by the row before, or by the one kept before -/
theorem of_og {c : Nat → Nat → Bool} {ro : Nat → Nat} {n : Nat} (hc : ∀ k, k + 1 < n → ∀ t, c t (ro k) = true ∨ t = ro k → c t (ro (k + 1)) = c (ro k) (ro (k + 1))) : ∀ k, k ≤ n → of_ c ro k = og_ c ro k ∧ (0 < k → 0 < (og_ c ro k).1 ∧ (c ((og_ c ro k).2 ((og_ c ro k).1 - 1)) (ro (k - 1)) = true ∨ (og_ c ro k).2 ((og_ c ro k).1 - 1) = ro (k - 1))) := by
  intro k
  induction k with
  | zero => intro _; exact ⟨rfl, fun z => by omega⟩
  | succ k ih =>
    intro hk
    obtain ⟨h1, h2⟩ := ih (by omega)
    rcases Nat.eq_zero_or_pos k with e | e
    · subst e
      refine ⟨rfl, fun _ => ⟨by show 0 < (og_ c ro 1).1; rw [og_, if_neg (by simp [og_])]; simp [og_], Or.inr ?_⟩⟩
      rw [og_, if_neg (by simp [og_])]
      simp [og_, updN]
    · obtain ⟨g1, g2⟩ := h2 e
      obtain ⟨k, rfl⟩ : ∃ j, k = j + 1 := ⟨k - 1, by omega⟩
      rw [Nat.add_sub_cancel] at g2
      have he := hc k (by omega) _ g2
      rw [Nat.add_sub_cancel]
      cases ec : c (ro k) (ro (k + 1)) with
      | true =>
        rw [ec] at he
        have e2 : og_ c ro (k + 1 + 1) = og_ c ro (k + 1) := by rw [og_, if_pos (by rw [he, decide_eq_true g1]; rfl)]
        rw [of_t (by omega) (by rw [Nat.add_sub_cancel]; exact ec), e2]
        exact ⟨h1, fun _ => ⟨g1, Or.inl he⟩⟩
      | false =>
        rw [ec] at he
        have e2 : og_ c ro (k + 1 + 1) = ((og_ c ro (k + 1)).1 + 1, updN (og_ c ro (k + 1)).2 (og_ c ro (k + 1)).1 (ro (k + 1))) := by rw [og_, if_neg (by rw [he, Bool.and_false]; decide)]
        rw [of_f (fun _ => by rw [Nat.add_sub_cancel]; exact ec), e2, h1]
        refine ⟨rfl, fun _ => ⟨by show 0 < _ + 1; omega, Or.inr ?_⟩⟩
        show updN _ _ _ (_ + 1 - 1) = _
        rw [Nat.add_sub_cancel, updN_s]
theorem of_ext {c : Nat → Nat → Bool} {a b : Nat → Nat} : ∀ k, (∀ i, i < k → a i = b i) → of_ c a k = of_ c b k := by
  intro k
  induction k with
  | zero => intro _; rfl
  | succ k ih =>
    intro h
    rw [of_, of_, ih (fun i hi => h i (by omega)), h k (by omega)]
    rcases Nat.eq_zero_or_pos k with e | e
    · subst e; rfl
    · rw [h (k - 1) (by omega)]
/-- the class's state behind sort -/
def s_mr (s : SS) : (Nat → Nat) × Nat × (Nat → Nat) × Nat := mr (rr_ (sa_o s) (lnc s.B s.len)) (lnc s.B s.len) (min (lnc s.B s.len) s.mem) (lnc s.B s.len)
def s_og (s : SS) (k : Nat) : Nat × (Nat → Nat) := og_ (s_c s) (rk (sa_o s) (lnc s.B s.len)) k
def o_sort (s : SS) : SS := SS.mk s.len s.B s.sep s.all s.bs s.bo s.kc s.kd s.kg s.mem s.wy (s_og s (lnc s.B s.len)).1 (s_og s (lnc s.B s.len)).2 (s_mr s).2.2.2 (s_mr s).2.2.1 (cm s.wy 0 (s_mr s).2.2.2 (s_mr s).2.2.1 0 0).1 (cm s.wy 0 (s_mr s).2.2.2 (s_mr s).2.2.1 0 0).2 (lnc s.B s.len - (s_og s (lnc s.B s.len)).1)
theorem s_c_eqv (s : SS) {a b t : Nat} (h : s_c s t a = true ∨ t = a) : s_c s t b = s_c s a b := by
  rcases h with h | h
  · unfold s_c at *
    rw [Bool.and_eq_true] at h
    rw [h.1, Bool.true_and, Bool.true_and]
    have e := (oI_0 _).mp (of_decide_eq_true h.2)
    have hg := gc_sk s
    congr 1
    apply propext
    rw [oI_0, oI_0]
    exact ⟨fun z => hg.eqt (hg.eqs e) z, fun z => hg.eqt e z⟩
  · rw [h]
theorem mr_rc {rr : Nat → Nat} {cnt n0 : Nat} : ∀ k, (mr rr cnt n0 k).2.2.2 ≤ k := by
  intro k
  induction k with
  | zero => exact Nat.le_refl _
  | succ k ih =>
    show (mr_s rr cnt k (mr rr cnt n0 k)).2.2.2 ≤ _
    unfold mr_s
    simp only
    split
    · show al_rc _ _ ≤ _; unfold al_rc; split <;> omega
    · show al_rc _ _ ≤ _; unfold al_rc; split <;> omega
theorem sort_eq {s : SS} (hG : SG s) (hl : lnc s.B s.len ≤ 1000) : q_sort s = o_sort s := by
  obtain ⟨im, lt, ro, hR⟩ := runs_eq (gc_sa s) hl (mem := s.mem) (by have := hG.m1; omega)
  have hR : s_R s = (im, 0, lnc s.B s.len, lt, lnc s.B s.len, ro, (s_mr s).2.2.1, (s_mr s).2.2.2) := hR
  have hQ : RQ (sa_o s) (lnc s.B s.len) (s_R s) := RQ.run (gc_sa s) _ _ RQ.start
  rw [hR] at hQ
  obtain ⟨q1, q2, q3, q4, q5, q6⟩ := hQ
  have hmv : MV (sa_o s) (lnc s.B s.len) ro (s_mr s).2.2.1 (s_mr s).2.2.2 := ⟨q1, fun a => by
    have z := q5 a
    rw [if_neg (by omega)] at z
    have z2 : hc im 0 a = 0 := rfl
    omega, q3⟩
  have hrn : (s_mr s).2.2.2 ≤ lnc s.B s.len := mr_rc _
  obtain ⟨m1, m2⟩ := ms_mv (gc_sa s) hG.w1 (lnc s.B s.len) (ro, (s_mr s).2.2.1, (s_mr s).2.2.2, 0, 0) (by show (s_mr s).2.2.2 ≤ _; omega) hmv
  have hM : s_M s = ms_run (sa_o s) (lnc s.B s.len) s.wy (lnc s.B s.len) (ro, (s_mr s).2.2.1, (s_mr s).2.2.2, 0, 0) := by unfold s_M; rw [hR]
  have hcm := ms_cm (o := sa_o s) (ln := lnc s.B s.len) hG.w1 (lnc s.B s.len) 0 (s_mr s).2.2.2 0 0 (s_mr s).2.2.2 (s_mr s).2.2.1 (s_mr s).2.2.1 ro (by omega) (by omega) (by omega) (fun i hi => by rw [Nat.zero_add])
  rw [← hM] at m1 m2 hcm
  have hso : ∀ i, i + 1 < lnc s.B s.len → bf (sa_o s) ((s_M s).1 i) ((s_M s).1 (i + 1)) = true := by
    intro i hi
    have z := m1.1
    have e1 : (s_M s).2.2.1 = 1 := by
      rcases Nat.eq_zero_or_pos (s_M s).2.2.1 with e | e
      · rw [e] at z; have z : (0 : Nat) = _ := z; omega
      · omega
    rw [e1] at z
    exact m1.2.2 0 (by omega) i (Nat.zero_le _) (by rw [show (0 + 1 : Nat) = 1 from rfl, z]; exact hi)
  have hrk := so_rk (gc_sa s) hso m1.lt
  have e2 : of_ (s_c s) (s_M s).1 (lnc s.B s.len) = s_og s (lnc s.B s.len) := by
    rw [of_ext _ hrk]
    exact (of_og (c := s_c s) (ro := rk (sa_o s) (lnc s.B s.len)) (n := lnc s.B s.len) (fun k hk t ht => s_c_eqv s ht) _ (Nat.le_refl _)).1
  unfold q_sort qs_mk o_sort
  rw [e2, hR, hcm]
