/-! Comparisons that are orders -/
def gc {α : Type} (c : α → α → Ordering) : Prop := (∀ a b, c b a = (c a b).swap) ∧ ∀ a b d, c a b ≠ .gt → c b d ≠ .gt → c a d ≠ .gt
theorem gc.rf {α : Type} {c : α → α → Ordering} (h : gc c) (a : α) : c a a = .eq := by
  have h1 := h.1 a a
  cases h2 : c a a with
  | eq => rfl
  | lt => rw [h2] at h1; cases h1
  | gt => rw [h2] at h1; cases h1
theorem gc.eqs {α : Type} {c : α → α → Ordering} (h : gc c) {a b : α} (h1 : c a b = .eq) : c b a = .eq := by rw [h.1 a b, h1]; rfl
theorem gc.eqt {α : Type} {c : α → α → Ordering} (h : gc c) {a b d : α} (h1 : c a b = .eq) (h2 : c b d = .eq) : c a d = .eq := by
  have h3 := h.2 a b d (by rw [h1]; decide) (by rw [h2]; decide)
  have h4 := h.2 d b a (by rw [h.eqs h2]; decide) (by rw [h.eqs h1]; decide)
  have h5 := h.1 a d
  cases h6 : c a d with
  | eq => exact Eq.refl _
  | lt => rw [h6] at h5; exact absurd h5 h4
  | gt => exact absurd h6 h3
theorem gc.ltle {α : Type} {c : α → α → Ordering} (h : gc c) {a b d : α} (h1 : c a b = .lt) (h2 : c b d ≠ .gt) : c a d = .lt := by
  have h3 := h.2 a b d (by rw [h1]; decide) h2
  cases h6 : c a d with
  | lt => exact Eq.refl _
  | gt => exact absurd h6 h3
  | eq =>
    have h7 := h.2 b d a h2 (by rw [h.eqs h6]; decide)
    rw [h.1 a b, h1] at h7
    exact absurd (Eq.refl _) h7
theorem gc.lelt {α : Type} {c : α → α → Ordering} (h : gc c) {a b d : α} (h1 : c a b ≠ .gt) (h2 : c b d = .lt) : c a d = .lt := by
  have h3 := h.2 a b d h1 (by rw [h2]; decide)
  cases h6 : c a d with
  | lt => exact Eq.refl _
  | gt => exact absurd h6 h3
  | eq =>
    have h7 := h.2 d a b (by rw [h.eqs h6]; decide) h1
    rw [h.1 b d, h2] at h7
    exact absurd (Eq.refl _) h7
theorem gc.sw {α : Type} {c : α → α → Ordering} (h : gc c) : gc (fun a b => (c a b).swap) := by
  refine ⟨fun a b => by show (c b a).swap = (c a b).swap.swap; rw [h.1 a b], fun a b d h1 h2 => ?_⟩
  show (c a d).swap ≠ .gt
  have h1 : (c a b).swap ≠ .gt := h1
  have h2 : (c b d).swap ≠ .gt := h2
  rw [← h.1] at h1 h2 ⊢
  exact h.2 d b a h2 h1
theorem gc.map {α β : Type} {c : β → β → Ordering} (h : gc c) (f : α → β) : gc (fun a b => c (f a) (f b)) := ⟨fun a b => h.1 _ _, fun a b d h1 h2 => h.2 _ _ _ h1 h2⟩
/-- one after the other; what comes second may go by what the first has the same -/
theorem gc.dep {α : Type} {c1 c2 c3 : α → α → Ordering} {p : α → Bool} (h1 : gc c1) (h2 : gc c2) (h3 : gc c3) (hp : ∀ a b, c1 a b = .eq → p a = p b) : gc (fun a b => (c1 a b).then (if p a = true then c2 a b else c3 a b)) := by
  have sw : ∀ a b, c1 a b = .eq → (if p b = true then c2 b a else c3 b a) = (if p a = true then c2 a b else c3 a b).swap := by
    intro a b h
    rw [hp a b h]
    split
    · exact h2.1 a b
    · exact h3.1 a b
  have tr : ∀ a b d, c1 a b = .eq → c1 b d = .eq → (if p a = true then c2 a b else c3 a b) ≠ .gt → (if p b = true then c2 b d else c3 b d) ≠ .gt → (if p a = true then c2 a d else c3 a d) ≠ .gt := by
    intro a b d e1 e2
    rw [← hp a b e1]
    split
    · exact h2.2 a b d
    · exact h3.2 a b d
  refine ⟨fun a b => ?_, fun a b d k1 k2 => ?_⟩
  · show (c1 b a).then _ = ((c1 a b).then _).swap
    cases h : c1 a b with
    | lt => rw [h1.1 a b, h]; rfl
    | gt => rw [h1.1 a b, h]; rfl
    | eq => rw [h1.eqs h]; exact sw a b h
  · show (c1 a d).then _ ≠ .gt
    have k1 : (c1 a b).then _ ≠ .gt := k1
    have k2 : (c1 b d).then _ ≠ .gt := k2
    cases e1 : c1 a b with
    | gt => rw [e1] at k1; exact absurd (Eq.refl _) k1
    | lt =>
      have : c1 b d ≠ .gt := fun z => by rw [z] at k2; exact k2 (Eq.refl _)
      rw [h1.ltle e1 this]; intro z; cases z
    | eq =>
      cases e2 : c1 b d with
      | gt => rw [e2] at k2; exact absurd (Eq.refl _) k2
      | lt => rw [h1.lelt (by rw [e1]; decide) e2]; intro z; cases z
      | eq =>
        rw [e1] at k1
        rw [e2] at k2
        rw [h1.eqt e1 e2]
        exact tr a b d e1 e2 k1 k2
theorem gc.thn {α : Type} {c1 c2 : α → α → Ordering} (h1 : gc c1) (h2 : gc c2) : gc (fun a b => (c1 a b).then (c2 a b)) := by
  have h := gc.dep (p := fun _ => true) h1 h2 h2 (fun _ _ _ => rfl)
  simpa using h
theorem gc.const {α : Type} : gc (fun _ _ : α => Ordering.eq) := ⟨fun _ _ => rfl, fun _ _ _ _ _ h => by cases h⟩
/-- numbers -/
def oi (x y : Int32) : Ordering := if x = y then .eq else if x < y then .lt else .gt
theorem gc_oi : gc oi := by
  have tri : ∀ x y : Int32, ¬ x = y → ¬ x < y → y < x := by
    intro x y h1 h2
    rw [Int32.lt_iff_toInt_lt] at h2 ⊢
    have : x.toInt ≠ y.toInt := fun z => h1 (Int32.toInt_inj.mp z)
    omega
  refine ⟨fun x y => ?_, fun x y z h1 h2 => ?_⟩
  · unfold oi
    by_cases h : x = y
    · subst h; simp
    · rw [if_neg h, if_neg (fun z => h z.symm)]
      by_cases h2 : x < y
      · have : ¬ y < x := by rw [Int32.lt_iff_toInt_lt] at h2 ⊢; omega
        rw [if_pos h2, if_neg this]; rfl
      · rw [if_neg h2, if_pos (tri x y h h2)]; rfl
  · unfold oi at *
    by_cases e1 : x = y
    · subst e1; exact h2
    · by_cases e2 : y = z
      · subst e2; exact h1
      · rw [if_neg e1] at h1
        rw [if_neg e2] at h2
        have a1 : x < y := by
          by_cases h : x < y
          · exact h
          · rw [if_neg h] at h1; exact absurd rfl h1
        have a2 : y < z := by
          by_cases h : y < z
          · exact h
          · rw [if_neg h] at h2; exact absurd rfl h2
        have a3 : x < z := by rw [Int32.lt_iff_toInt_lt] at *; omega
        have a4 : ¬ x = z := fun q => by rw [q, Int32.lt_iff_toInt_lt] at a3; omega
        rw [if_neg a4, if_pos a3]; decide
def on (x y : Nat) : Ordering := if x = y then .eq else if x < y then .lt else .gt
theorem gc_on : gc on := by
  refine ⟨fun x y => ?_, fun x y z h1 h2 => ?_⟩
  · unfold on
    by_cases h : x = y
    · subst h; simp
    · rw [if_neg h, if_neg (fun z => h z.symm)]
      by_cases h2 : x < y
      · rw [if_pos h2, if_neg (by omega)]; rfl
      · rw [if_neg h2, if_pos (by omega)]; rfl
  · unfold on at *
    have a1 : x ≤ y := by
      by_cases e : x = y
      · omega
      · by_cases h : x < y
        · omega
        · rw [if_neg e, if_neg h] at h1; exact absurd rfl h1
    have a2 : y ≤ z := by
      by_cases e : y = z
      · omega
      · by_cases h : y < z
        · omega
        · rw [if_neg e, if_neg h] at h2; exact absurd rfl h2
    by_cases e : x = z
    · rw [if_pos e]; decide
    · rw [if_neg e, if_pos (by omega)]; decide
/-- rows of numbers, from the left; the shorter first -/
def lx : List Int32 → List Int32 → Ordering
  | [], [] => .eq
  | [], _ :: _ => .lt
  | _ :: _, [] => .gt
  | x :: xs, y :: ys => if x = y then lx xs ys else if x < y then .lt else .gt
theorem lx_cons (x y : Int32) (xs ys : List Int32) : lx (x :: xs) (y :: ys) = (oi x y).then (lx xs ys) := by
  rw [lx, oi]
  by_cases h : x = y
  · rw [if_pos h, if_pos h]; rfl
  · rw [if_neg h, if_neg h]
    by_cases h2 : x < y
    · rw [if_pos h2]; rfl
    · rw [if_neg h2]; rfl
theorem gc_lx : gc lx := by
  have sw : ∀ a b, lx b a = (lx a b).swap := by
    intro a
    induction a with
    | nil => intro b; cases b <;> rfl
    | cons x xs ih =>
      intro b
      cases b with
      | nil => rfl
      | cons y ys =>
        rw [lx_cons, lx_cons, gc_oi.1 x y]
        cases h : oi x y with
        | lt => rfl
        | gt => rfl
        | eq => exact ih ys
  refine ⟨sw, ?_⟩
  intro a
  induction a with
  | nil => intro b d _ _; cases d <;> (intro h; cases h)
  | cons x xs ih =>
    intro b d h1 h2
    cases b with
    | nil => exact absurd rfl h1
    | cons y ys =>
      cases d with
      | nil => exact absurd rfl h2
      | cons z zs =>
        rw [lx_cons] at h1 h2 ⊢
        cases e1 : oi x y with
        | gt => rw [e1] at h1; exact absurd rfl h1
        | lt =>
          have : oi y z ≠ .gt := fun q => by rw [q] at h2; exact h2 rfl
          rw [gc_oi.ltle e1 this]; intro q; cases q
        | eq =>
          cases e2 : oi y z with
          | gt => rw [e2] at h2; exact absurd rfl h2
          | lt => rw [gc_oi.lelt (by rw [e1]; decide) e2]; intro q; cases q
          | eq =>
            rw [e1] at h1
            rw [e2] at h2
            rw [gc_oi.eqt e1 e2]
            exact ih ys zs h1 h2
/-- an order as the machine's answer -/
def oI : Ordering → Int32
  | .lt => -1
  | .eq => nI 0
  | .gt => nI 1
theorem oI_neg (o : Ordering) : -(oI o) = oI o.swap := by cases o <;> decide
theorem oI_0 (o : Ordering) : (oI o = 0) ↔ o = .eq := by cases o <;> decide
theorem oI_le (o : Ordering) : (oI o ≤ 0) ↔ o ≠ .gt := by cases o <;> decide
theorem oI_gt (o : Ordering) : (0 < oI o) ↔ o = .gt := by cases o <;> decide
theorem oI_lt (o : Ordering) : (oI o < 0) ↔ o = .lt := by cases o <;> decide
theorem oi_ge {x y : Int32} (h : ¬ x = y) (h2 : y ≤ x) : oI (oi x y) = nI 1 := by
  unfold oi
  rw [if_neg h, if_neg (by rw [Int32.lt_iff_toInt_lt]; rw [Int32.le_iff_toInt_le] at h2; omega)]; rfl
theorem oi_lt {x y : Int32} (h2 : ¬ y ≤ x) : oI (oi x y) = -1 := by
  unfold oi
  rw [if_neg (fun z => by rw [z, Int32.le_iff_toInt_le] at h2; omega), if_pos (by rw [Int32.lt_iff_toInt_lt]; rw [Int32.le_iff_toInt_le] at h2; omega)]; rfl
