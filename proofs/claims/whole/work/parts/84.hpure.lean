/-! the heap holds what was put, and its least is on top -/
def hc (h : Nat → Nat) (n a : Nat) : Nat := pf (fun i => if h i = a then 1 else 0) n
theorem hc_s (h : Nat → Nat) (n a : Nat) : hc h (n + 1) a = hc h n a + (if h n = a then 1 else 0) := pf_s _ _
theorem hc_ext {h g : Nat → Nat} {n a : Nat} (e : ∀ i, i < n → h i = g i) : hc h n a = hc g n a := pf_ext n (fun i hi => by rw [e i hi])
theorem hc_upd {h : Nat → Nat} {i v a : Nat} : ∀ {n : Nat}, i < n → hc (updN h i v) n a + (if h i = a then 1 else 0) = hc h n a + (if v = a then 1 else 0) := by
  intro n
  induction n with
  | zero => intro hi; omega
  | succ n ih =>
    intro hi
    rw [hc_s, hc_s]
    by_cases e : i = n
    · subst e
      rw [updN_s, hc_ext (g := h) (fun j hj => updN_n (by omega))]; omega
    · have := ih (by omega)
      rw [updN_n (fun z => e z.symm)]; omega
/-- in order but for the place i, which v may take if it is not below -/
def HPx (h : Nat → Nat) (n i v : Nat) : Prop := (∀ j, 0 < j → j < n → j ≠ i → (j - 1) / 2 ≠ i → h ((j - 1) / 2) ≤ h j) ∧ ∀ j, 0 < j → j < n → (j - 1) / 2 = i → v ≤ h j ∧ (0 < i → h ((i - 1) / 2) ≤ h j)
def HP (h : Nat → Nat) (n : Nat) : Prop := ∀ j, 0 < j → j < n → h ((j - 1) / 2) ≤ h j
theorem hp_up_ok {v n : Nat} : ∀ (i : Nat) (h : Nat → Nat), i < n → HPx h n i v → HP (hp_up v i h) n ∧ ∀ a, hc (hp_up v i h) n a = hc (updN h i v) n a := by
  intro i
  induction i using Nat.strongRecOn with
  | _ i ih =>
    intro h hi hx
    by_cases c : 0 < i ∧ v < h ((i - 1) / 2)
    · rw [hp_up_t c.1 c.2]
      have hp : (i - 1) / 2 < i := by omega
      obtain ⟨r1, r2⟩ := ih ((i - 1) / 2) hp (updN h i (h ((i - 1) / 2))) (by omega) (by
        refine ⟨fun j h1 h2 h3 h4 => ?_, fun j h1 h2 h3 => ?_⟩
        · by_cases e : j = i
          · rw [e] at h4; exact absurd rfl h4
          · rw [updN_n e]
            by_cases e2 : (j - 1) / 2 = i
            · rw [e2, updN_s]; exact (hx.2 j h1 h2 e2).2 c.1
            · rw [updN_n e2]; exact hx.1 j h1 h2 e e2
        · by_cases e : j = i
          · rw [e, updN_s]
            refine ⟨by omega, fun h5 => ?_⟩
            rw [updN_n (by omega)]
            exact hx.1 ((i - 1) / 2) h5 (by omega) (by omega) (by omega)
          · rw [updN_n e]
            have h6 := hx.1 j h1 h2 e (by omega)
            rw [h3] at h6
            refine ⟨by omega, fun h5 => ?_⟩
            rw [updN_n (by omega)]
            have h7 := hx.1 ((i - 1) / 2) h5 (by omega) (by omega) (by omega)
            omega)
      refine ⟨r1, fun a => ?_⟩
      rw [r2 a]
      have e1 := hc_upd (h := updN h i (h ((i - 1) / 2))) (i := (i - 1) / 2) (v := v) (a := a) (n := n) (by omega)
      have e2 := hc_upd (h := h) (i := i) (v := h ((i - 1) / 2)) (a := a) hi
      have e3 := hc_upd (h := h) (i := i) (v := v) (a := a) hi
      rw [updN_n (by omega : (i - 1) / 2 ≠ i)] at e1
      omega
    · rw [hp_up_f (fun h1 => by omega)]
      refine ⟨fun j h1 h2 => ?_, fun a => rfl⟩
      by_cases e : j = i
      · rw [e, updN_s, updN_n (by omega)]; omega
      · rw [updN_n e]
        by_cases e2 : (j - 1) / 2 = i
        · rw [e2, updN_s]; exact (hx.2 j h1 h2 e2).1
        · rw [updN_n e2]; exact hx.1 j h1 h2 e e2
theorem hp_put {v n : Nat} {h : Nat → Nat} (hp : HP h n) : HP (hp_up v n h) (n + 1) ∧ ∀ a, hc (hp_up v n h) (n + 1) a = hc h n a + (if v = a then 1 else 0) := by
  obtain ⟨r1, r2⟩ := hp_up_ok (v := v) (n := n + 1) n h (by omega) ⟨fun j h1 h2 h3 h4 => hp j h1 (by omega), fun j h1 h2 h3 => by omega⟩
  refine ⟨r1, fun a => ?_⟩
  rw [r2 a, hc_s, updN_s, hc_ext (g := h) (fun j hj => updN_n (by omega))]
/-- the same for sinking: a hole at i, whose first child is b -/
def HPy (h : Nat → Nat) (n i v : Nat) : Prop := (∀ j, 0 < j → j < n → j ≠ i → (j - 1) / 2 ≠ i → h ((j - 1) / 2) ≤ h j) ∧ (0 < i → h ((i - 1) / 2) ≤ v ∧ ∀ j, 0 < j → j < n → (j - 1) / 2 = i → h ((i - 1) / 2) ≤ h j)
theorem hp_dn_ok {v n : Nat} : ∀ (k i : Nat) (h : Nat → Nat), n - i = k → i < n → HPy h n i v → HP (hp_dn v n i (2 * i + 1) h) n ∧ ∀ a, hc (hp_dn v n i (2 * i + 1) h) n a = hc (updN h i v) n a := by
  intro k
  induction k using Nat.strongRecOn with
  | _ k ih =>
    intro i h hk hi hx
    have hch : ∀ j, 0 < j → j < n → (j - 1) / 2 = i → h (hp_ch h n (2 * i + 1)) ≤ h j := by
      intro j h1 h2 h3
      unfold hp_ch
      split
      · rename_i z
        rcases (by omega : j = 2 * i + 1 ∨ j = 2 * i + 1 + 1) with e | e
        · rw [e]; omega
        · rw [e]; exact Nat.le_refl _
      · rename_i z
        rcases (by omega : j = 2 * i + 1 ∨ j = 2 * i + 1 + 1) with e | e
        · rw [e]; exact Nat.le_refl _
        · rw [e]
          have : ¬ (h (2 * i + 1 + 1) < h (2 * i + 1)) := fun q => z ⟨by omega, q⟩
          omega
    by_cases c : 2 * i + 1 < n ∧ h (hp_ch h n (2 * i + 1)) < v
    · rw [hp_dn_t c.1 c.2]
      have hc1 := hp_ch_lt (h := h) c.1
      have hc2 := hp_ch_ge h n (2 * i + 1)
      have hc3 : (hp_ch h n (2 * i + 1) - 1) / 2 = i := by
        have : hp_ch h n (2 * i + 1) = 2 * i + 1 ∨ hp_ch h n (2 * i + 1) = 2 * i + 1 + 1 := by unfold hp_ch; split <;> omega
        omega
      generalize hp_ch h n (2 * i + 1) = d at c hch hc1 hc2 hc3
      obtain ⟨r1, r2⟩ := ih (n - d) (by omega) d (updN h i (h d)) rfl hc1 (by
        refine ⟨fun j h1 h2 h3 h4 => ?_, fun _ => ⟨?_, fun j h1 h2 h3 => ?_⟩⟩
        · by_cases e : j = i
          · rw [e, updN_s, updN_n (by omega)]
            exact (hx.2 (by omega)).2 d (by omega) hc1 hc3
          · rw [updN_n e]
            by_cases e2 : (j - 1) / 2 = i
            · rw [e2, updN_s]; exact hch j h1 h2 e2
            · rw [updN_n e2]; exact hx.1 j h1 h2 e e2
        · rw [hc3, updN_s]; omega
        · rw [hc3, updN_s, updN_n (by omega)]
          have := hx.1 j h1 h2 (by omega) (by omega)
          rw [h3] at this; exact this)
      refine ⟨r1, fun a => ?_⟩
      rw [r2 a]
      have e1 := hc_upd (h := updN h i (h d)) (i := d) (v := v) (a := a) (n := n) hc1
      have e2 := hc_upd (h := h) (i := i) (v := h d) (a := a) hi
      have e3 := hc_upd (h := h) (i := i) (v := v) (a := a) hi
      rw [updN_n (by omega : d ≠ i)] at e1
      omega
    · rw [hp_dn_f (fun h1 => by omega)]
      refine ⟨fun j h1 h2 => ?_, fun a => rfl⟩
      by_cases e : j = i
      · rw [e, updN_s, updN_n (by omega)]; exact (hx.2 (by omega)).1
      · rw [updN_n e]
        by_cases e2 : (j - 1) / 2 = i
        · rw [e2, updN_s]
          have := hch j h1 h2 e2
          have : ¬ h (hp_ch h n (2 * i + 1)) < v := fun q => c ⟨by omega, q⟩
          omega
        · rw [updN_n e2]; exact hx.1 j h1 h2 e e2
theorem hp_take {n : Nat} {h : Nat → Nat} (hp : HP h (n + 1)) (hn : 0 < n) : HP (hp_dn (h n) n 0 1 h) n ∧ ∀ a, hc h (n + 1) a = hc (hp_dn (h n) n 0 1 h) n a + (if h 0 = a then 1 else 0) := by
  obtain ⟨r1, r2⟩ := hp_dn_ok (v := h n) (n := n) _ 0 h rfl hn ⟨fun j h1 h2 h3 h4 => hp j h1 (by omega), fun z => by omega⟩
  refine ⟨r1, fun a => ?_⟩
  have e := hc_upd (h := h) (i := 0) (v := h n) (a := a) hn
  rw [hc_s]
  have e2 := r2 a
  have e3 : hc (hp_dn (h n) n 0 1 h) n a = hc (updN h 0 (h n)) n a := e2
  omega
theorem hp_min {n : Nat} {h : Nat → Nat} (hp : HP h n) : ∀ i, i < n → h 0 ≤ h i := by
  intro i
  induction i using Nat.strongRecOn with
  | _ i ih =>
    intro hi
    rcases Nat.eq_zero_or_pos i with e | e
    · rw [e]; exact Nat.le_refl _
    · have := ih ((i - 1) / 2) (by omega) (by omega); have := hp i e hi; omega
theorem hc_pos {h : Nat → Nat} {a : Nat} : ∀ {n : Nat}, 0 < hc h n a → ∃ i, i < n ∧ h i = a := by
  intro n
  induction n with
  | zero => intro z; exact absurd z (Nat.lt_irrefl _)
  | succ n ih =>
    intro z
    rw [hc_s] at z
    by_cases e : h n = a
    · exact ⟨n, by omega, e⟩
    · rw [if_neg e] at z
      obtain ⟨i, h1, h2⟩ := ih (by omega)
      exact ⟨i, by omega, h2⟩
theorem hc_in {h : Nat → Nat} {a i : Nat} : ∀ {n : Nat}, i < n → h i = a → 0 < hc h n a := by
  intro n
  induction n with
  | zero => intro z; omega
  | succ n ih =>
    intro z e
    rw [hc_s]
    by_cases e2 : i = n
    · rw [← e2, if_pos e]; omega
    · have := ih (by omega) e; omega
/-- the heap holds just the numbers P, each once -/
def HS (h : Nat → Nat) (n : Nat) (P : Nat → Prop) : Prop := HP h n ∧ ∀ a, (P a ∧ hc h n a = 1) ∨ (¬ P a ∧ hc h n a = 0)
theorem HS.least {h : Nat → Nat} {n : Nat} {P : Nat → Prop} (hs : HS h n P) (hn : 0 < n) : P (h 0) ∧ ∀ a, P a → h 0 ≤ a := by
  refine ⟨?_, fun a ha => ?_⟩
  · rcases hs.2 (h 0) with z | z
    · exact z.1
    · have := hc_in (h := h) (a := h 0) hn rfl; omega
  · rcases hs.2 a with z | z
    · obtain ⟨i, h1, h2⟩ := hc_pos (h := h) (n := n) (a := a) (by omega)
      rw [← h2]; exact hp_min hs.1 i h1
    · exact absurd ha z.1
theorem HS.ne {h : Nat → Nat} {n a : Nat} {P : Nat → Prop} (hs : HS h n P) (ha : P a) : 0 < n := by
  rcases hs.2 a with z | z
  · obtain ⟨i, h1, _⟩ := hc_pos (h := h) (n := n) (a := a) (by omega)
    omega
  · exact absurd ha z.1
theorem HS.all {h : Nat → Nat} {n i : Nat} {P : Nat → Prop} (hs : HS h n P) (hi : i < n) : P (h i) := by
  rcases hs.2 (h i) with z | z
  · exact z.1
  · have := hc_in (h := h) (a := h i) hi rfl; omega
theorem HS.put {h : Nat → Nat} {n v : Nat} {P : Nat → Prop} (hs : HS h n P) (hv : ¬ P v) : HS (hp_up v n h) (n + 1) (fun a => P a ∨ a = v) := by
  obtain ⟨r1, r2⟩ := hp_put (v := v) hs.1
  refine ⟨r1, fun a => ?_⟩
  rw [r2 a]
  by_cases e : v = a
  · rw [if_pos e]
    rcases hs.2 a with z | z
    · rw [← e] at z; exact absurd z.1 hv
    · exact Or.inl ⟨Or.inr e.symm, by omega⟩
  · rw [if_neg e]
    rcases hs.2 a with z | z
    · exact Or.inl ⟨Or.inl z.1, by omega⟩
    · exact Or.inr ⟨fun q => q.elim z.1 (fun q => e q.symm), by omega⟩
theorem HS.take {h : Nat → Nat} {n : Nat} {P : Nat → Prop} (hs : HS h (n + 1) P) : HS (hp_dn (h n) n 0 1 h) n (fun a => P a ∧ a ≠ h 0) := by
  rcases Nat.eq_zero_or_pos n with e | e
  · subst e
    refine ⟨fun j h1 h2 => by omega, fun a => Or.inr ⟨fun q => ?_, rfl⟩⟩
    rcases hs.2 a with z | z
    · obtain ⟨i, h1, h2⟩ := hc_pos (h := h) (n := 0 + 1) (a := a) (by omega)
      obtain rfl : i = 0 := by omega
      exact q.2 h2.symm
    · exact z.1 q.1
  · obtain ⟨r1, r2⟩ := hp_take hs.1 e
    refine ⟨r1, fun a => ?_⟩
    have r := r2 a
    by_cases e2 : h 0 = a
    · rw [if_pos e2] at r
      rcases hs.2 a with z | z
      · exact Or.inr ⟨fun q => q.2 e2.symm, by omega⟩
      · omega
    · rw [if_neg e2] at r
      rcases hs.2 a with z | z
      · exact Or.inl ⟨⟨z.1, fun q => e2 q.symm⟩, by omega⟩
      · exact Or.inr ⟨fun q => z.1 q.1, by omega⟩
theorem HS.emp : HS (fun _ => 0) 0 (fun _ => False) := ⟨fun j _ h => by omega, fun a => Or.inr ⟨id, rfl⟩⟩
theorem HS.emp2 (h : Nat → Nat) : HS h 0 (fun _ => False) := ⟨fun j _ h => by omega, fun a => Or.inr ⟨id, rfl⟩⟩
theorem HS.iff {h : Nat → Nat} {n : Nat} {P Q : Nat → Prop} (hs : HS h n P) (e : ∀ a, P a ↔ Q a) : HS h n Q := ⟨hs.1, fun a => by
  rcases hs.2 a with z | z
  · exact Or.inl ⟨(e a).mp z.1, z.2⟩
  · exact Or.inr ⟨fun q => z.1 ((e a).mpr q), z.2⟩⟩
