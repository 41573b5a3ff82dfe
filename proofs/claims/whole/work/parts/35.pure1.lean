/-! Scanning: over a < to while p -/
def sk_n (p : Nat → Bool) : Nat → Nat → Nat
  | 0, a => a
  | n + 1, a => if p a = true then sk_n p n (a + 1) else a
def sk (p : Nat → Bool) (to a : Nat) : Nat := sk_n p (to - a) a
theorem sk_step {p : Nat → Bool} {to a : Nat} (h : a < to) (hp : p a = true) : sk p to a = sk p to (a + 1) := by
  unfold sk
  rw [show to - a = (to - (a + 1)) + 1 by omega, sk_n, if_pos hp]
theorem sk_stop {p : Nat → Bool} {to a : Nat} (h : a < to → p a = false) : sk p to a = a := by
  unfold sk
  by_cases h1 : a < to
  · rw [show to - a = (to - (a + 1)) + 1 by omega, sk_n, if_neg (by rw [h h1]; decide)]
  · rw [show to - a = 0 by omega, sk_n]
theorem sk_ge (p : Nat → Bool) (to a : Nat) : a ≤ sk p to a := by
  unfold sk
  generalize to - a = n
  induction n generalizing a with
  | zero => exact Nat.le_refl _
  | succ n ih => rw [sk_n]; split; exact Nat.le_trans (by omega) (ih (a + 1)); exact Nat.le_refl _
theorem sk_le {p : Nat → Bool} {to a : Nat} (h : a ≤ to) : sk p to a ≤ to := by
  unfold sk
  have : ∀ n a, a + n ≤ to → sk_n p n a ≤ to := by
    intro n
    induction n with
    | zero => intro a h; exact h
    | succ n ih => intro a h; rw [sk_n]; split; exact ih (a + 1) (by omega); omega
  exact this _ _ (by omega)
theorem sk_end {p : Nat → Bool} {to a : Nat} (h : sk p to a < to) : p (sk p to a) = false := by
  unfold sk at *
  have : ∀ n a, a + n = to ∨ n = 0 → sk_n p n a < to → a + n ≤ to → p (sk_n p n a) = false ∨ n = 0 := by
    intro n
    induction n with
    | zero => intro a h h2 h3; exact Or.inr rfl
    | succ n ih =>
      intro a h h2 h3
      rw [sk_n] at h2 ⊢
      by_cases hp : p a = true
      · rw [if_pos hp] at h2 ⊢
        have h4 := ih (a + 1) (by omega) h2 (by omega)
        rcases h4 with h4 | h4
        · exact Or.inl h4
        · subst h4; rw [sk_n] at h2; omega
      · rw [if_neg hp]; left; simpa using hp
  by_cases hz : to - a = 0
  · rw [hz, sk_n] at h; omega
  · rcases this (to - a) a (by omega) h (by omega) with h4 | h4
    · exact h4
    · exact absurd h4 hz
theorem sk_cong {p p2 : Nat → Bool} {to a : Nat} (h : ∀ i, a ≤ i → i < to → p i = p2 i) : sk p to a = sk p2 to a := by
  unfold sk
  have : ∀ n a, a + n ≤ to ∨ n = 0 → (∀ i, a ≤ i → i < to → p i = p2 i) → sk_n p n a = sk_n p2 n a := by
    intro n
    induction n with
    | zero => intro a _ _; rfl
    | succ n ih =>
      intro a h1 h2
      rw [sk_n, sk_n, h2 a (Nat.le_refl _) (by omega)]
      split
      · exact ih (a + 1) (by omega) (fun i h3 h4 => h2 i (by omega) h4)
      · rfl
  exact this _ _ (by omega) h
def pb_dig (B : Nat → Int32) (i : Nat) : Bool := !decide (B i < nI 48) && !decide (nI 57 < B i)
def pb_blk (B : Nat → Int32) (i : Nat) : Bool := decide (B i = nI 32) || decide (B i = nI 9)
def pb_sep (B : Nat → Int32) (sep : Int32) (i : Nat) : Bool := !decide (B i &&& nI 255 = sep)
theorem sk_le2 {p : Nat → Bool} {to a m : Nat} (h1 : a ≤ m) (h2 : to ≤ m) : sk p to a ≤ m := by
  by_cases h : a ≤ to
  · exact Nat.le_trans (sk_le h) h2
  · rw [sk_stop (fun z => absurd z (by omega))]; exact h1
theorem upd_upd (f : Nat → Int32) (k : Nat) (a b : Int32) : upd (upd f k a) k b = upd f k b := by
  funext j
  unfold upd
  by_cases h : j = k
  · rw [if_pos h, if_pos h]
  · rw [if_neg h, if_neg h, if_neg h]
