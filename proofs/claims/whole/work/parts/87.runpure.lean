/-! runs made by the heap are the runs made by looking through the memory -/
theorem rs_sel_non {o : Nat → Nat → Ordering} {im : Nat → Nat} {lt : Option Nat} : ∀ {n : Nat}, rs_sel o im lt n = none → ∀ i, i < n → rs_out o lt (im i) = true := by
  intro n
  induction n with
  | zero => intro _ i hi; omega
  | succ n ih =>
    intro h i hi
    rw [rs_sel] at h
    split at h
    · rename_i z
      by_cases e : i = n
      · rw [e]; exact z
      · exact ih h i (by omega)
    · split at h
      · cases h
      · split at h <;> cases h
theorem rs_sel_min {o : Nat → Nat → Ordering} (hg : gc o) {im : Nat → Nat} {lt : Option Nat} : ∀ {n b : Nat}, rs_sel o im lt n = some b → rs_out o lt (im b) = false ∧ ∀ i, i < n → rs_out o lt (im i) = false → bf o (im i) (im b) = false := by
  intro n
  induction n with
  | zero => intro b h; cases h
  | succ n ih =>
    intro b h
    rw [rs_sel] at h
    split at h
    · rename_i z
      obtain ⟨h1, h2⟩ := ih h
      refine ⟨h1, fun i hi ho => ?_⟩
      by_cases e : i = n
      · rw [e, z] at ho; cases ho
      · exact h2 i (by omega) ho
    · rename_i z
      have z' : rs_out o lt (im n) = false := by cases e : rs_out o lt (im n) <;> simp_all
      split at h
      · rename_i e
        cases h
        refine ⟨z', fun i hi ho => ?_⟩
        by_cases e2 : i = n
        · rw [e2]; exact bf_irr hg _
        · have := rs_sel_non e i (by omega); rw [this] at ho; cases ho
      · rename_i b2 e
        obtain ⟨h1, h2⟩ := ih e
        split at h
        · rename_i hb
          cases h
          refine ⟨z', fun i hi ho => ?_⟩
          by_cases e2 : i = n
          · rw [e2]; exact bf_irr hg _
          · have h3 := h2 i (by omega) ho
            cases e3 : bf o (im i) (im n) with
            | false => rfl
            | true => rw [bf_tr hg e3 hb] at h3; cases h3
        · rename_i hb
          cases h
          refine ⟨h1, fun i hi ho => ?_⟩
          by_cases e2 : i = n
          · rw [e2]; cases e3 : bf o (im n) (im b) with
            | false => rfl
            | true => exact absurd e3 hb
          · exact h2 i (by omega) ho
/-- the run a line in memory goes to -/
def rt (o : Nat → Nat → Ordering) (lt : Option Nat) (rn l : Nat) : Nat := match lt with
  | none => rn
  | some t => if bf o l t = true then rn else rn - 1
def rr_ (o : Nat → Nat → Ordering) (ln l : Nat) : Nat := rx (rk o ln) ln l
/-- what holds of both at the same time -/
def RL (o : Nat → Nat → Ordering) (ln n0 : Nat) (S : RS) : Prop := match S with
  | (im, th, nx, lt, ou, _, sz, rn) => (mr (rr_ o ln) ln n0 ou).2.1 = nx ∧ (mr (rr_ o ln) ln n0 ou).2.2.1 = sz ∧ (mr (rr_ o ln) ln n0 ou).2.2.2 = rn ∧ HS (mr (rr_ o ln) ln n0 ou).1 th (fun a => ∃ i, i < th ∧ a = rt o lt rn (im i) * 1000 + rr_ o ln (im i)) ∧ th + ou = nx ∧ nx ≤ ln ∧ (nx < ln → 0 < th) ∧ (lt = none ∨ 1 ≤ rn) ∧ (∀ i, i < th → im i < nx) ∧ ∀ i j, i < th → j < th → im i = im j → i = j
theorem rr_lt {o : Nat → Nat → Ordering} {ln l : Nat} (hl : l < ln) : rr_ o ln l < ln := (rx_ok o (fun _ => 0) hl).2.1
theorem RL.step {o : Nat → Nat → Ordering} (hg : gc o) {ln n0 : Nat} (hln : ln ≤ 1000) {S : RS} (h : RL o ln n0 S) (hth : 0 < S.2.1) : RL o ln n0 (rs_st o ln S) ∧ ((rs_st o ln S).2.2.2.2.1 = S.2.2.2.2.1 + 1 ∨ ((rs_st o ln S).2.2.2.2.1 = S.2.2.2.2.1 ∧ S.2.2.2.1 ≠ none ∧ (rs_st o ln S).2.2.2.1 = none)) := by
  obtain ⟨im, th, nx, lt, ou, ro, sz, rn⟩ := S
  obtain ⟨h1, h2, h3, h4, h5, h6, h7, h8, h9, h10⟩ := h
  have hth : 0 < th := hth
  unfold rs_st
  simp only
  cases hsel : rs_sel o im lt th with
  | none =>
    have hns := rs_sel_non hsel
    refine ⟨⟨h1, h2, h3, ?_, h5, h6, h7, Or.inl rfl, h9, h10⟩, Or.inr ⟨rfl, ?_, rfl⟩⟩
    · refine h4.iff (fun a => ?_)
      have e : ∀ i, i < th → rt o lt rn (im i) = rt o none rn (im i) := by
        intro i hi
        have z := hns i hi
        cases lt with
        | none => rfl
        | some t =>
          have z2 : bf o (im i) t = true := z
          show (if bf o (im i) t = true then rn else rn - 1) = rn
          rw [if_pos z2]
      constructor
      · rintro ⟨i, i1, i2⟩; exact ⟨i, i1, by rw [← e i i1]; exact i2⟩
      · rintro ⟨i, i1, i2⟩; exact ⟨i, i1, by rw [e i i1]; exact i2⟩
    · intro z
      have z : lt = none := z
      rw [z] at hsel
      exact rs_sel_no hth hsel
  | some b =>
    have hb := rs_sel_lt hsel
    obtain ⟨m1, m2⟩ := rs_sel_min hg hsel
    -- the least of the heap
    have hcur : rt o lt rn (im b) = rs_rn lt rn - 1 := by
      cases lt with
      | none => show rn = rn + 1 - 1; omega
      | some t =>
        have z2 : bf o (im b) t = false := m1
        show (if bf o (im b) t = true then rn else rn - 1) = (if (some t) = none then rn + 1 else rn) - 1
        rw [z2]; simp
    have hge : ∀ i, i < th → rs_rn lt rn - 1 ≤ rt o lt rn (im i) := by
      intro i hi
      cases lt with
      | none => show rn + 1 - 1 ≤ rn; omega
      | some t =>
        show (if (some t) = none then rn + 1 else rn) - 1 ≤ (if bf o (im i) t = true then rn else rn - 1)
        simp; split <;> omega
    have hcand : ∀ i, i < th → rt o lt rn (im i) = rs_rn lt rn - 1 → rs_out o lt (im i) = false := by
      intro i hi e
      cases lt with
      | none => rfl
      | some t =>
        cases e2 : bf o (im i) t with
        | false => exact e2
        | true =>
          have hr1 : 1 ≤ rn := by
            rcases h8 with z | z
            · cases z
            · exact z
          have e' : (if bf o (im i) t = true then rn else rn - 1) = (if (some t) = none then rn + 1 else rn) - 1 := e
          rw [e2] at e'
          simp at e'
          omega
    have hbn := h9 b hb
    obtain ⟨⟨i0, i1, i2⟩, hl2⟩ := h4.least hth
    have hi0n := h9 i0 i1
    have hlb := hl2 _ ⟨b, hb, rfl⟩
    have r1 := rr_lt (o := o) (ln := ln) (l := im b) (by omega)
    have r2 := rr_lt (o := o) (ln := ln) (l := im i0) (by omega)
    have hle : (mr (rr_ o ln) ln n0 ou).1 0 = (rs_rn lt rn - 1) * 1000 + rr_ o ln (im b) := by
      rw [hcur] at hlb
      have hg0 := hge i0 i1
      have e1 : rt o lt rn (im i0) = rs_rn lt rn - 1 := by omega
      have hc := m2 i0 i1 (hcand i0 i1 e1)
      have h3b : ¬ rr_ o ln (im i0) < rr_ o ln (im b) := fun z => by
        rw [(rx_lt hg (by omega) (by omega)).mpr z] at hc; cases hc
      rw [e1] at i2
      omega
    generalize hcu : rs_rn lt rn - 1 = cur at hcur hge hcand hle
    have hdiv : (mr (rr_ o ln) ln n0 ou).1 0 / 1000 = cur := by rw [hle]; omega
    have hmod : (mr (rr_ o ln) ln n0 ou).1 0 % 1000 = rr_ o ln (im b) := by rw [hle]; omega
    have hrc : al_rc cur rn = rs_rn lt rn ∧ al_ln sz cur rn = rs_sz lt sz rn ∧ rs_rn lt rn = cur + 1 := by
      unfold al_rc al_ln al_l0 rs_sz rs_s0
      rw [hcu]
      unfold rs_rn at *
      by_cases e : lt = none
      · rw [if_pos e] at hcu ⊢
        have : cur = rn := by omega
        rw [this, if_pos rfl, if_pos rfl, if_pos e]; exact ⟨rfl, rfl, rfl⟩
      · rw [if_neg e] at hcu ⊢
        have hr1 : 1 ≤ rn := by
          rcases h8 with z | z
          · exact absurd z e
          · exact z
        rw [if_neg (by omega), if_neg (by omega), if_neg e]; exact ⟨rfl, rfl, by omega⟩
    -- the tags behind the step
    have htag : ∀ i, i < th → i ≠ b → rt o (some (im b)) (rs_rn lt rn) (im i) = rt o lt rn (im i) := by
      intro i hi hib
      have hne : im i ≠ im b := fun z => hib (h10 i b hi hb z)
      show (if bf o (im i) (im b) = true then rs_rn lt rn else rs_rn lt rn - 1) = _
      cases lt with
      | none =>
        have z := m2 i hi rfl
        rw [z]
        show (if (false = true) then _ else (rn + 1) - 1) = rn
        simp
      | some t =>
        show (if bf o (im i) (im b) = true then rn else rn - 1) = (if bf o (im i) t = true then rn else rn - 1)
        have mb : bf o (im b) t = false := m1
        have hiff : bf o (im i) (im b) = bf o (im i) t := by
          cases e1 : bf o (im i) t with
          | false => exact m2 i hi e1
          | true =>
            by_cases e2 : t = im b
            · rw [← e2]; exact e1
            · exact bf_tr hg e1 (bf_tot hg (fun z => e2 z.symm) mb)
        rw [hiff]
    have hbv : ∀ i, i < th → rt o lt rn (im i) * 1000 + rr_ o ln (im i) = (mr (rr_ o ln) ln n0 ou).1 0 → i = b := by
      intro i hi e
      have r3 := rr_lt (o := o) (ln := ln) (l := im i) (by have := h9 i hi; omega)
      rw [hle] at e
      have e2 : rr_ o ln (im i) = rr_ o ln (im b) := by omega
      exact h10 i b hi hb (rx_inj (by have := h9 i hi; omega) (by omega) e2)
    have hmr : mr (rr_ o ln) ln n0 (ou + 1) = mr_s (rr_ o ln) ln ou (mr (rr_ o ln) ln n0 ou) := rfl
    generalize hM : mr (rr_ o ln) ln n0 ou = M at h1 h2 h3 h4 hle hdiv hmod hmr hbv
    obtain ⟨hh, nx2, sz2, rn2⟩ := M
    have h1 : nx2 = nx := h1
    have h2 : sz2 = sz := h2
    have h3 : rn2 = rn := h3
    subst h1 h2 h3
    have hle : hh 0 = cur * 1000 + rr_ o ln (im b) := hle
    have hdiv : hh 0 / 1000 = cur := hdiv
    have hmod : hh 0 % 1000 = rr_ o ln (im b) := hmod
    obtain ⟨c, rfl⟩ : ∃ c, th = c + 1 := ⟨th - 1, by omega⟩
    have hcn : nx2 - ou - 1 = c := by omega
    have htk := HS.take (h := hh) (n := c) h4
    by_cases hnx : nx2 < ln
    · dsimp only
      rw [if_pos hnx]
      refine ⟨⟨?_, ?_, ?_, ?_, by omega, by omega, fun _ => by omega, Or.inr ?_, ?_, ?_⟩, Or.inl rfl⟩
      · rw [hmr]; unfold mr_s; simp only; rw [if_pos hnx]
      · rw [hmr]; unfold mr_s; simp only; rw [if_pos hnx]; show al_ln sz2 (hh 0 / 1000) rn2 = _; rw [hdiv]; exact hrc.2.1
      · rw [hmr]; unfold mr_s; simp only; rw [if_pos hnx]; show al_rc (hh 0 / 1000) rn2 = _; rw [hdiv]; exact hrc.1
      · rw [hmr]; unfold mr_s; simp only; rw [if_pos hnx]
        show HS (hp_up (mr_run (rr_ o ln) (hh 0) nx2 * 1000 + rr_ o ln nx2) (nx2 - ou - 1) (hp_dn (hh (nx2 - ou - 1)) (nx2 - ou - 1) 0 1 hh)) (c + 1) _
        rw [hcn]
        have hnt : mr_run (rr_ o ln) (hh 0) nx2 = rt o (some (im b)) (rs_rn lt rn2) nx2 := by
          unfold mr_run
          rw [hmod, hdiv]
          show _ = (if bf o nx2 (im b) = true then rs_rn lt rn2 else rs_rn lt rn2 - 1)
          rw [hrc.2.2]
          by_cases e : rr_ o ln (im b) < rr_ o ln nx2
          · rw [if_pos e, bf_as hg ((rx_lt hg (by omega) (by omega)).mpr e)]; simp
          · rw [if_neg e]
            have hne : rr_ o ln (im b) ≠ rr_ o ln nx2 := fun z => by have := rx_inj (by omega) (by omega) z; omega
            rw [(rx_lt (o := o) hg (a := nx2) (b := im b) (by omega) (by omega)).mpr (by show rr_ o ln nx2 < rr_ o ln (im b); omega)]; simp
        rw [hnt]
        have r4 := rr_lt (o := o) (ln := ln) (l := nx2) hnx
        have hnv : ¬ ((∃ i, i < c + 1 ∧ rt o (some (im b)) (rs_rn lt rn2) nx2 * 1000 + rr_ o ln nx2 = rt o lt rn2 (im i) * 1000 + rr_ o ln (im i)) ∧ rt o (some (im b)) (rs_rn lt rn2) nx2 * 1000 + rr_ o ln nx2 ≠ hh 0) := by
          rintro ⟨⟨i, j1, j2⟩, _⟩
          have r3 := rr_lt (o := o) (ln := ln) (l := im i) (by have := h9 i j1; omega)
          have e2 : rr_ o ln (im i) = rr_ o ln nx2 := by omega
          have := rx_inj (by have := h9 i j1; omega) (by omega) e2
          have := h9 i j1; omega
        refine (htk.put hnv).iff (fun a => ?_)
        constructor
        · rintro (⟨⟨i, j1, j2⟩, hne⟩ | e3)
          · have hib : i ≠ b := fun z => hne (by rw [j2, z, hcur, hle])
            exact ⟨i, j1, by rw [updN_n hib, htag i j1 hib]; exact j2⟩
          · exact ⟨b, hb, by rw [updN_s]; exact e3⟩
        · rintro ⟨i, j1, j2⟩
          by_cases hib : i = b
          · rw [hib, updN_s] at j2; exact Or.inr j2
          · rw [updN_n hib, htag i j1 hib] at j2
            exact Or.inl ⟨⟨i, j1, j2⟩, fun z => hib (hbv i j1 (by rw [← j2]; exact z))⟩
      · rw [hrc.2.2]; omega
      · intro i hi
        show updN im b nx2 i < nx2 + 1
        by_cases e : i = b
        · rw [e, updN_s]; omega
        · rw [updN_n e]; have := h9 i hi; omega
      · intro i j hi hj
        show updN im b nx2 i = updN im b nx2 j → i = j
        intro e
        by_cases e1 : i = b
        · by_cases e2 : j = b
          · omega
          · rw [e1, updN_s, updN_n e2] at e; have := h9 j hj; omega
        · by_cases e2 : j = b
          · rw [e2, updN_s, updN_n e1] at e; have := h9 i hi; omega
          · rw [updN_n e1, updN_n e2] at e; exact h10 i j hi hj e
    · dsimp only
      rw [if_neg hnx]
      refine ⟨⟨?_, ?_, ?_, ?_, by omega, by omega, fun z => absurd z hnx, Or.inr ?_, ?_, ?_⟩, Or.inl rfl⟩
      · rw [hmr]; unfold mr_s; simp only; rw [if_neg hnx]
      · rw [hmr]; unfold mr_s; simp only; rw [if_neg hnx]; show al_ln sz2 (hh 0 / 1000) rn2 = _; rw [hdiv]; exact hrc.2.1
      · rw [hmr]; unfold mr_s; simp only; rw [if_neg hnx]; show al_rc (hh 0 / 1000) rn2 = _; rw [hdiv]; exact hrc.1
      · rw [hmr]; unfold mr_s; simp only; rw [if_neg hnx]
        show HS (hp_dn (hh (nx2 - ou - 1)) (nx2 - ou - 1) 0 1 hh) (c + 1 - 1) _
        rw [hcn, Nat.add_sub_cancel]
        refine htk.iff (fun a => ?_)
        constructor
        · rintro ⟨⟨i, j1, j2⟩, hne⟩
          have hib : i ≠ b := fun z => hne (by rw [j2, z, hcur, hle])
          by_cases e : i = c
          · exact ⟨b, by omega, by rw [updN_s, ← e, htag i j1 hib]; exact j2⟩
          · exact ⟨i, by omega, by rw [updN_n hib, htag i j1 hib]; exact j2⟩
        · rintro ⟨i, j1, j2⟩
          by_cases hib : i = b
          · rw [hib, updN_s] at j2
            have hcb : c ≠ b := by omega
            rw [htag c (by omega) hcb] at j2
            exact ⟨⟨c, by omega, j2⟩, fun z => hcb (hbv c (by omega) (by rw [← j2]; exact z))⟩
          · rw [updN_n hib, htag i (by omega) hib] at j2
            exact ⟨⟨i, by omega, j2⟩, fun z => hib (hbv i (by omega) (by rw [← j2]; exact z))⟩
      · rw [hrc.2.2]; omega
      · intro i hi
        have hi : i < c + 1 - 1 := hi
        show updN im b (im (c + 1 - 1)) i < nx2
        by_cases e : i = b
        · rw [e, updN_s]; exact h9 _ (by omega)
        · rw [updN_n e]; exact h9 i (by omega)
      · intro i j hi hj
        have hi : i < c + 1 - 1 := hi
        have hj : j < c + 1 - 1 := hj
        show updN im b (im (c + 1 - 1)) i = updN im b (im (c + 1 - 1)) j → i = j
        intro e
        by_cases e1 : i = b
        · by_cases e2 : j = b
          · omega
          · rw [e1, updN_s, updN_n e2] at e; have := h10 _ _ (by omega) (by omega) e; omega
        · by_cases e2 : j = b
          · rw [e2, updN_s, updN_n e1] at e; have := h10 _ _ (by omega) (by omega) e; omega
          · rw [updN_n e1, updN_n e2] at e; exact h10 i j (by omega) (by omega) e
theorem RL.run {o : Nat → Nat → Ordering} (hg : gc o) {ln n0 : Nat} (hln : ln ≤ 1000) : ∀ (k : Nat) (S : RS), RL o ln n0 S → 2 * (ln - S.2.2.2.2.1) + (if S.2.2.2.1 = none then 0 else 1) ≤ k → RL o ln n0 (rs_run o ln k S) ∧ (rs_run o ln k S).2.1 = 0 := by
  intro k
  induction k with
  | zero =>
    intro S h hk
    refine ⟨h, ?_⟩
    obtain ⟨im, th, nx, lt, ou, ro, sz, rn⟩ := S
    obtain ⟨h1, h2, h3, h4, h5, h6, h7, h8, h9, h10⟩ := h
    have hk : 2 * (ln - ou) + (if lt = none then 0 else 1) ≤ 0 := hk
    show th = 0
    omega
  | succ k ih =>
    intro S h hk
    rw [rs_run]
    by_cases e : S.2.1 = 0
    · rw [if_pos e]; exact ⟨h, e⟩
    · rw [if_neg e]
      obtain ⟨s1, s2⟩ := RL.step hg hln h (by omega)
      refine ih _ s1 ?_
      have hou : S.2.2.2.2.1 < ln := by
        obtain ⟨im, th, nx, lt, ou, ro, sz, rn⟩ := S
        obtain ⟨_, _, _, _, h5, h6, _⟩ := h
        have e : ¬ th = 0 := e
        show ou < ln
        omega
      rcases s2 with z | ⟨z1, z2, z3⟩
      · rw [z]; split <;> split at hk <;> omega
      · rw [z1, z3, if_pos rfl]; rw [if_neg z2] at hk; omega
theorem mr_f_hs {o : Nat → Nat → Ordering} {ln : Nat} : ∀ k, k ≤ ln → HS (mr_f (rr_ o ln) k) k (fun a => ∃ i, i < k ∧ a = rr_ o ln i) := by
  intro k
  induction k with
  | zero => intro _; exact HS.emp.iff (fun a => ⟨fun z => z.elim, fun ⟨i, h, _⟩ => by omega⟩)
  | succ k ih =>
    intro hk
    refine ((ih (by omega)).put (v := rr_ o ln k) (fun ⟨i, h1, h2⟩ => ?_)).iff (fun a => ?_)
    · have := rx_inj (by omega) (by omega) h2; omega
    · constructor
      · rintro (⟨i, h1, h2⟩ | h2)
        · exact ⟨i, by omega, h2⟩
        · exact ⟨k, by omega, h2⟩
      · rintro ⟨i, h1, h2⟩
        by_cases e : i = k
        · rw [e] at h2; exact Or.inr h2
        · exact Or.inl ⟨i, by omega, h2⟩
theorem RL.start {o : Nat → Nat → Ordering} {ln mem : Nat} (hm : 1 ≤ mem) : RL o ln (min ln mem) (rs_0 ln mem) := by
  refine ⟨rfl, rfl, rfl, ?_, rfl, Nat.min_le_left _ _, fun h => ?_, Or.inl rfl, fun i hi => hi, fun i j _ _ h => h⟩
  · refine (mr_f_hs (o := o) (ln := ln) (min ln mem) (Nat.min_le_left _ _)).iff (fun a => ?_)
    show _ ↔ ∃ i, i < min ln mem ∧ a = 0 * 1000 + rr_ o ln i
    simp
  · show 0 < min ln mem; omega
/-- both make the same runs -/
theorem runs_eq {o : Nat → Nat → Ordering} (hg : gc o) {ln mem : Nat} (hln : ln ≤ 1000) (hm : 1 ≤ mem) : ∃ (im : Nat → Nat) (lt : Option Nat) (ro : Nat → Nat), rs_run o ln (2 * ln + 1) (rs_0 ln mem) = (im, 0, ln, lt, ln, ro, (mr (rr_ o ln) ln (min ln mem) ln).2.2.1, (mr (rr_ o ln) ln (min ln mem) ln).2.2.2) := by
  obtain ⟨r1, r2⟩ := RL.run hg hln (n0 := min ln mem) (2 * ln + 1) (rs_0 ln mem) (RL.start hm) (by show 2 * (ln - 0) + 0 ≤ _; omega)
  generalize rs_run o ln (2 * ln + 1) (rs_0 ln mem) = S at r1 r2
  obtain ⟨im, th, nx, lt, ou, ro, sz, rn⟩ := S
  obtain ⟨h1, h2, h3, h4, h5, h6, h7, h8, h9, h10⟩ := r1
  have r2 : th = 0 := r2
  subst r2
  have e1 : nx = ln := by
    rcases Nat.lt_or_ge nx ln with z | z
    · have := h7 z; omega
    · omega
  have e2 : ou = ln := by omega
  subst e1
  subst e2
  exact ⟨im, lt, ro, by rw [h2, h3]⟩
