/-! Lines in order: by a comparison, and by their numbers where that tells them the same -/
def bf (o : Nat → Nat → Ordering) (a b : Nat) : Bool := match o a b with
  | .lt => true
  | .eq => decide (a < b)
  | .gt => false
theorem bf_irr {o : Nat → Nat → Ordering} (h : gc o) (a : Nat) : bf o a a = false := by
  unfold bf; rw [h.rf a]; simp
theorem bf_lt {o : Nat → Nat → Ordering} {a b : Nat} : bf o a b = true ↔ (o a b).then (on a b) = .lt := by
  unfold bf on
  cases o a b with
  | lt => simp [Ordering.then]
  | gt => simp [Ordering.then]
  | eq =>
    by_cases h : a = b
    · subst h; simp [Ordering.then]
    · by_cases h2 : a < b
      · simp [Ordering.then, h, h2]
      · simp [Ordering.then, h, h2]
theorem bf_tr {o : Nat → Nat → Ordering} (h : gc o) {a b c : Nat} (h1 : bf o a b = true) (h2 : bf o b c = true) : bf o a c = true := by
  rw [bf_lt] at *
  have g := h.thn gc_on
  exact g.ltle (a := a) (b := b) (d := c) h1 (by rw [h2]; decide)
theorem bf_as {o : Nat → Nat → Ordering} (h : gc o) {a b : Nat} (h1 : bf o a b = true) : bf o b a = false := by
  cases h2 : bf o b a with
  | false => rfl
  | true => have := bf_tr h h1 h2; rw [bf_irr h a] at this; cases this
theorem bf_tot {o : Nat → Nat → Ordering} (h : gc o) {a b : Nat} (hne : a ≠ b) (h1 : bf o a b = false) : bf o b a = true := by
  unfold bf at *
  have h2 := h.1 a b
  cases e : o a b with
  | lt => rw [e] at h1; cases h1
  | gt => rw [e] at h2; rw [h2]; rfl
  | eq =>
    rw [e] at h1 h2
    rw [h2]
    simp only [Ordering.swap, decide_eq_true_eq]
    simp only [decide_eq_false_iff_not] at h1
    omega
/-- a row in order is the only one of its things -/
theorem so_uniq {r : Nat → Nat → Prop} (has : ∀ a b, r a b → r b a → False) : ∀ {l1 l2 : List Nat}, l1.Pairwise r → l2.Pairwise r → l1.Perm l2 → l1 = l2 := by
  intro l1
  induction l1 with
  | nil => intro l2 _ _ hp; exact (List.nil_perm.mp hp).symm
  | cons x xs ih =>
    intro l2 h1 h2 hp
    cases l2 with
    | nil => exact absurd hp.length_eq (by simp)
    | cons y ys =>
      have hxy : x = y := by
        by_cases e : x = y
        · exact e
        · exfalso
          have m1 : x ∈ y :: ys := hp.mem_iff.mp List.mem_cons_self
          have m2 : y ∈ x :: xs := hp.mem_iff.mpr List.mem_cons_self
          rcases List.mem_cons.mp m1 with h | h
          · exact e h
          · rcases List.mem_cons.mp m2 with h3 | h3
            · exact e h3.symm
            · exact has x y ((List.pairwise_cons.mp h1).1 y h3) ((List.pairwise_cons.mp h2).1 x h)
      subst hxy
      rw [ih (List.pairwise_cons.mp h1).2 (List.pairwise_cons.mp h2).2 (hp.cons_inv)]
