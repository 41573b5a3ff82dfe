/-! merging by a heap of ranks is merging by the heads -/
theorem mf_sel_non {o : Nat → Nat → Ordering} {ro sz tk : Nat → Nat} : ∀ {n : Nat}, mf_sel o ro sz tk n = none → ∀ i, i < n → sz i ≤ tk i := by
  intro n
  induction n with
  | zero => intro _ i hi; omega
  | succ n ih =>
    intro h i hi
    rw [mf_sel] at h
    split at h
    · split at h
      · cases h
      · split at h <;> cases h
    · rename_i z
      by_cases e : i = n
      · rw [e]; omega
      · exact ih h i (by omega)
theorem mf_sel_min {o : Nat → Nat → Ordering} (hg : gc o) {ro sz tk : Nat → Nat} : ∀ {n b : Nat}, mf_sel o ro sz tk n = some b → ∀ i, i < n → tk i < sz i → bf o (ro (pf sz i + tk i)) (ro (pf sz b + tk b)) = false := by
  intro n
  induction n with
  | zero => intro b h; cases h
  | succ n ih =>
    intro b h i hi ht
    rw [mf_sel] at h
    split at h
    · rename_i z
      split at h
      · rename_i e
        cases h
        by_cases e2 : i = n
        · rw [e2]; exact bf_irr hg _
        · have := mf_sel_non e i (by omega); omega
      · rename_i b2 e
        split at h
        · rename_i hb
          cases h
          by_cases e2 : i = n
          · rw [e2]; exact bf_irr hg _
          · have h1 := ih e i (by omega) ht
            cases e3 : bf o (ro (pf sz i + tk i)) (ro (pf sz n + tk n)) with
            | false => rfl
            | true => rw [bf_tr hg e3 hb] at h1; cases h1
        · rename_i hb
          cases h
          by_cases e2 : i = n
          · rw [e2]; cases e3 : bf o (ro (pf sz n + tk n)) (ro (pf sz b + tk b)) with
            | false => rfl
            | true => exact absurd e3 hb
          · exact ih e i (by omega) ht
    · rename_i z
      by_cases e2 : i = n
      · rw [e2] at ht; exact absurd ht z
      · exact ih h i (by omega) ht
/-- the heap of the first lines' ranks -/
def hm_f (rr : Nat → Nat) (m : Nat) : Nat → (Nat → Nat) × Nat
  | 0 => (fun _ => 0, 0)
  | k + 1 => if k % m = 0 then (hp_up (rr k) (hm_f rr m k).2 (hm_f rr m k).1, (hm_f rr m k).2 + 1) else hm_f rr m k
theorem hm_f_t {rr : Nat → Nat} {m k : Nat} (h : k % m = 0) : hm_f rr m (k + 1) = (hp_up (rr k) (hm_f rr m k).2 (hm_f rr m k).1, (hm_f rr m k).2 + 1) := by rw [hm_f, if_pos h]
theorem hm_f_f {rr : Nat → Nat} {m k : Nat} (h : ¬ k % m = 0) : hm_f rr m (k + 1) = hm_f rr m k := by rw [hm_f, if_neg h]
theorem hm_f_le (rr : Nat → Nat) (m : Nat) : ∀ k, (hm_f rr m k).2 ≤ k := by
  intro k
  induction k with
  | zero => exact Nat.le_refl _
  | succ k ih =>
    by_cases h : k % m = 0
    · rw [hm_f_t h]; show _ + 1 ≤ _; omega
    · rw [hm_f_f h]; omega
theorem hm_f_hs {o : Nat → Nat → Ordering} {ln m : Nat} : ∀ k, k ≤ ln → HS (hm_f (rx (rk o ln) ln) m k).1 (hm_f (rx (rk o ln) ln) m k).2 (fun a => ∃ j, j < k ∧ j % m = 0 ∧ rx (rk o ln) ln j = a) := by
  intro k
  induction k with
  | zero => intro _; exact (HS.emp).iff (fun a => ⟨fun z => z.elim, fun ⟨j, h, _⟩ => by omega⟩)
  | succ k ih =>
    intro hk
    have h0 := ih (by omega)
    by_cases h : k % m = 0
    · rw [hm_f_t h]
      refine (h0.put (v := rx (rk o ln) ln k) (fun ⟨j, h1, h2, h3⟩ => ?_)).iff (fun a => ?_)
      · have := rx_inj (by omega) (by omega) h3; omega
      · constructor
        · rintro (⟨j, h1, h2, h3⟩ | h3)
          · exact ⟨j, by omega, h2, h3⟩
          · exact ⟨k, by omega, h, h3.symm⟩
        · rintro ⟨j, h1, h2, h3⟩
          by_cases e : j = k
          · rw [e] at h3; exact Or.inr h3.symm
          · exact Or.inl ⟨j, by omega, h2, h3⟩
    · rw [hm_f_f h]
      refine h0.iff (fun a => ⟨fun ⟨j, h1, h2, h3⟩ => ⟨j, by omega, h2, h3⟩, fun ⟨j, h1, h2, h3⟩ => ?_⟩)
      by_cases e : j = k
      · rw [e] at h2; exact absurd h2 h
      · exact ⟨j, by omega, h2, h3⟩
/-- one line goes out of the heap, the one behind it comes in -/
def hg_st (rr rf : Nat → Nat) (m ln : Nat) (S : (Nat → Nat) × Nat) : (Nat → Nat) × Nat :=
  if rf (S.1 0) + 1 < ln ∧ ¬ (rf (S.1 0) + 1) % m = 0 then (hp_up (rr (rf (S.1 0) + 1)) (S.2 - 1) (hp_dn (S.1 (S.2 - 1)) (S.2 - 1) 0 1 S.1), S.2 - 1 + 1) else (hp_dn (S.1 (S.2 - 1)) (S.2 - 1) 0 1 S.1, S.2 - 1)
def hg_ (rr rf : Nat → Nat) (m ln : Nat) : Nat → (Nat → Nat) × Nat
  | 0 => hm_f rr m ln
  | k + 1 => hg_st rr rf m ln (hg_ rr rf m ln k)
theorem pcz_in {ln m i : Nat} (hm : 1 ≤ m) (h : i * m < ln) : i < pcz_n ln m := by
  unfold pcz_n
  show i + 1 ≤ _
  rw [Nat.le_div_iff_mul_le (by omega), Nat.succ_mul]
  omega
theorem hg_sim {o : Nat → Nat → Ordering} (hg : gc o) {ln m : Nat} (hm : 1 ≤ m) : ∀ k, k ≤ ln → HS (hg_ (rx (rk o ln) ln) (rk o ln) m ln k).1 (hg_ (rx (rk o ln) ln) (rk o ln) m ln k).2 (fun a => ∃ i, i < pcz_n ln m ∧ (mf o (fun i => i) (pcz ln m) (pcz_n ln m) k).1 i < pcz ln m i ∧ rx (rk o ln) ln (pf (pcz ln m) i + (mf o (fun i => i) (pcz ln m) (pcz_n ln m) k).1 i) = a) ∧ (k < ln → 0 < (hg_ (rx (rk o ln) ln) (rk o ln) m ln k).2 ∧ rk o ln ((hg_ (rx (rk o ln) ln) (rk o ln) m ln k).1 0) = (mf o (fun i => i) (pcz ln m) (pcz_n ln m) (k + 1)).2 k) := by
  have hpa := pcz_all (ln := ln) hm
  have key : ∀ k, k < ln → HS (hg_ (rx (rk o ln) ln) (rk o ln) m ln k).1 (hg_ (rx (rk o ln) ln) (rk o ln) m ln k).2 (fun a => ∃ i, i < pcz_n ln m ∧ (mf o (fun i => i) (pcz ln m) (pcz_n ln m) k).1 i < pcz ln m i ∧ rx (rk o ln) ln (pf (pcz ln m) i + (mf o (fun i => i) (pcz ln m) (pcz_n ln m) k).1 i) = a) → ∃ b, mf_sel o (fun i => i) (pcz ln m) (mf o (fun i => i) (pcz ln m) (pcz_n ln m) k).1 (pcz_n ln m) = some b ∧ 0 < (hg_ (rx (rk o ln) ln) (rk o ln) m ln k).2 ∧ (hg_ (rx (rk o ln) ln) (rk o ln) m ln k).1 0 = rx (rk o ln) ln (pf (pcz ln m) b + (mf o (fun i => i) (pcz ln m) (pcz_n ln m) k).1 b) ∧ rk o ln ((hg_ (rx (rk o ln) ln) (rk o ln) m ln k).1 0) = pf (pcz ln m) b + (mf o (fun i => i) (pcz ln m) (pcz_n ln m) k).1 b := by
    intro k hk hs
    have hsd := (mf_inv (o := o) (ro := fun i => i) (sz := pcz ln m) (n := pcz_n ln m) (ln := ln) (fun i hi => hi) (by omega) k (by omega)).1
    generalize hS : hg_ (rx (rk o ln) ln) (rk o ln) m ln k = S at hs
    generalize hT : (mf o (fun i => i) (pcz ln m) (pcz_n ln m) k).1 = tk at hs hsd
    cases hsel : mf_sel o (fun i => i) (pcz ln m) tk (pcz_n ln m) with
    | none => have := mf_sel_no hsel; omega
    | some b =>
      obtain ⟨hb1, hb2⟩ := mf_sel_lt hsel
      have hin := pf_in (pcz ln m) hb1 hb2
      have hP := hs.ne ⟨b, hb1, hb2, rfl⟩
      obtain ⟨⟨i, hi1, hi2, hi3⟩, hl2⟩ := hs.least hP
      have hini := pf_in (pcz ln m) hi1 hi2
      have h1 := hl2 _ ⟨b, hb1, hb2, rfl⟩
      have h2 := mf_sel_min hg hsel i hi1 hi2
      have h3 : ¬ rx (rk o ln) ln (pf (pcz ln m) i + tk i) < rx (rk o ln) ln (pf (pcz ln m) b + tk b) := fun z => by
        have z2 := (rx_lt hg (by omega) (by omega)).mpr z
        have z3 : bf o (pf (pcz ln m) i + tk i) (pf (pcz ln m) b + tk b) = false := h2
        rw [z2] at z3; cases z3
      have h4 : S.1 0 = rx (rk o ln) ln (pf (pcz ln m) b + tk b) := by omega
      refine ⟨b, rfl, hP, h4, ?_⟩
      rw [h4]; exact (rx_ok o (fun _ => 0) (by omega)).2.2
  have main : ∀ k, k ≤ ln → HS (hg_ (rx (rk o ln) ln) (rk o ln) m ln k).1 (hg_ (rx (rk o ln) ln) (rk o ln) m ln k).2 (fun a => ∃ i, i < pcz_n ln m ∧ (mf o (fun i => i) (pcz ln m) (pcz_n ln m) k).1 i < pcz ln m i ∧ rx (rk o ln) ln (pf (pcz ln m) i + (mf o (fun i => i) (pcz ln m) (pcz_n ln m) k).1 i) = a) := by
    intro k
    induction k with
    | zero =>
      intro _
      refine (hm_f_hs (o := o) (m := m) ln (Nat.le_refl _)).iff (fun a => ?_)
      constructor
      · rintro ⟨j, h1, h2, h3⟩
        have e : j / m * m = j := by have := Nat.div_add_mod j m; rw [Nat.mul_comm] at this; omega
        refine ⟨j / m, pcz_in hm (by omega), ?_, ?_⟩
        · show 0 < min m (ln - j / m * m); omega
        · show rx _ _ (pf (pcz ln m) (j / m) + 0) = a
          rw [pcz_i hm (pcz_in hm (by omega)), e]; exact h3
      · rintro ⟨i, h1, h2, h3⟩
        have e := pcz_i hm h1
        have e2 := pcz_lt hm h1
        have h4 : rx (rk o ln) ln (pf (pcz ln m) i + 0) = a := h3
        rw [e] at h4
        exact ⟨i * m, e2, Nat.mul_mod_left i m, h4⟩
    | succ k ih =>
      intro hk
      have hs := ih (by omega)
      obtain ⟨b, hsel, hP, h4, h5⟩ := key k (by omega) hs
      have hmf : (mf o (fun i => i) (pcz ln m) (pcz_n ln m) (k + 1)).1 = updN (mf o (fun i => i) (pcz ln m) (pcz_n ln m) k).1 b ((mf o (fun i => i) (pcz ln m) (pcz_n ln m) k).1 b + 1) := by
        show (mf_st _ _ _ _ _ _).1 = _
        simp only [mf_st]; rw [hsel]
      have htz := mf_tk (o := o) (ro := fun i => i) (sz := pcz ln m) (n := pcz_n ln m) k
      rw [hmf]
      show HS (hg_st _ _ _ _ (hg_ (rx (rk o ln) ln) (rk o ln) m ln k)).1 (hg_st _ _ _ _ (hg_ (rx (rk o ln) ln) (rk o ln) m ln k)).2 _
      generalize hg_ (rx (rk o ln) ln) (rk o ln) m ln k = S at hs hP h4 h5
      generalize (mf o (fun i => i) (pcz ln m) (pcz_n ln m) k).1 = tk at hs hsel h4 h5 htz
      obtain ⟨hb1, hb2⟩ := mf_sel_lt hsel
      have hin := pf_in (pcz ln m) hb1 hb2
      have hbm := pcz_i hm hb1
      have hbl := pcz_lt hm hb1
      obtain ⟨h, c⟩ := S
      obtain ⟨c, rfl⟩ : ∃ c2, c = c2 + 1 := ⟨c - 1, by have : 0 < c := hP; omega⟩
      have ht := HS.take (h := h) (n := c) hs
      have h4' : h 0 = rx (rk o ln) ln (pf (pcz ln m) b + tk b) := h4
      have h5' : rk o ln (h 0) = pf (pcz ln m) b + tk b := h5
      have inj : ∀ i, i < pcz_n ln m → tk i < pcz ln m i → rx (rk o ln) ln (pf (pcz ln m) i + tk i) = h 0 → i = b := fun i hi1 hi2 e => by
        rw [h4'] at e
        have hini := pf_in (pcz ln m) hi1 hi2
        have e2 := rx_inj (by omega) (by omega) e
        rcases Nat.lt_trichotomy i b with z | z | z
        · have := pf_in (pcz ln m) z hi2; omega
        · exact z
        · have := pf_in (pcz ln m) z hb2; omega
      have hcond : (rk o ln (h 0) + 1 < ln ∧ ¬ (rk o ln (h 0) + 1) % m = 0) ↔ tk b + 1 < pcz ln m b := by
        rw [h5', hbm]
        have hz : tk b < min m (ln - b * m) := hb2
        show _ ↔ tk b + 1 < min m (ln - b * m)
        have e1 : (b * m + tk b + 1) % m = (tk b + 1) % m := by rw [Nat.add_assoc, Nat.mul_comm, Nat.mul_add_mod]
        rw [e1]
        by_cases e2 : tk b + 1 = m
        · rw [e2, Nat.mod_self]; constructor
          · intro z; exact absurd rfl z.2
          · intro z; omega
        · rw [Nat.mod_eq_of_lt (by omega)]; omega
      by_cases cc : tk b + 1 < pcz ln m b
      · have hc2 := hcond.mpr cc
        have e : hg_st (rx (rk o ln) ln) (rk o ln) m ln (h, c + 1) = (hp_up (rx (rk o ln) ln (rk o ln (h 0) + 1)) c (hp_dn (h c) c 0 1 h), c + 1) := by
          unfold hg_st; rw [if_pos hc2]; rfl
        rw [e, h5']
        have hin3 : pf (pcz ln m) b + (tk b + 1) < ln := by have := pf_in (pcz ln m) hb1 cc; omega
        refine (ht.put (v := rx (rk o ln) ln (pf (pcz ln m) b + tk b + 1)) (fun ⟨⟨i, hi1, hi2, hi3⟩, _⟩ => ?_)).iff (fun a => ?_)
        · have hini := pf_in (pcz ln m) hi1 hi2
          have e2 := rx_inj (by omega) (by omega) hi3
          rcases Nat.lt_trichotomy i b with z | z | z
          · have := pf_in (pcz ln m) z hi2; omega
          · rw [z] at e2; omega
          · have := pf_in (pcz ln m) z cc; omega
        · constructor
          · rintro (⟨⟨i, hi1, hi2, hi3⟩, hne⟩ | e3)
            · have hib : i ≠ b := fun z => hne (by rw [← hi3, z, h4'])
              exact ⟨i, hi1, by rw [updN_n hib]; exact hi2, by rw [updN_n hib]; exact hi3⟩
            · exact ⟨b, hb1, by rw [updN_s]; exact cc, by rw [updN_s, e3, Nat.add_assoc]⟩
          · rintro ⟨i, hi1, hi2, hi3⟩
            by_cases hib : i = b
            · rw [hib, updN_s] at hi3; exact Or.inr (by rw [← hi3, Nat.add_assoc])
            · rw [updN_n hib] at hi2 hi3
              exact Or.inl ⟨⟨i, hi1, hi2, hi3⟩, fun z => hib (inj i hi1 hi2 (by rw [hi3]; exact z))⟩
      · have hc2 : ¬ (rk o ln (h 0) + 1 < ln ∧ ¬ (rk o ln (h 0) + 1) % m = 0) := fun z => cc (hcond.mp z)
        have e : hg_st (rx (rk o ln) ln) (rk o ln) m ln (h, c + 1) = (hp_dn (h c) c 0 1 h, c) := by
          unfold hg_st; rw [if_neg hc2]; rfl
        rw [e]
        refine ht.iff (fun a => ?_)
        constructor
        · rintro ⟨⟨i, hi1, hi2, hi3⟩, hne⟩
          have hib : i ≠ b := fun z => hne (by rw [← hi3, z, h4'])
          exact ⟨i, hi1, by rw [updN_n hib]; exact hi2, by rw [updN_n hib]; exact hi3⟩
        · rintro ⟨i, hi1, hi2, hi3⟩
          by_cases hib : i = b
          · rw [hib, updN_s] at hi2; exact absurd hi2 cc
          · rw [updN_n hib] at hi2 hi3
            exact ⟨⟨i, hi1, hi2, hi3⟩, fun z => hib (inj i hi1 hi2 (by rw [hi3]; exact z))⟩
  intro k hk
  refine ⟨main k hk, fun hk2 => ?_⟩
  obtain ⟨b, hsel, hP, h4, h5⟩ := key k hk2 (main k hk)
  refine ⟨hP, ?_⟩
  rw [h5]
  show _ = (mf_st _ _ _ _ _ _).2 k
  simp only [mf_st]; rw [hsel]
  exact updN_s.symm
