/-! Fields, keys' places, numerals: what the methods compute, word for word -/
def fl_stop (B : Nat → Int32) (sep : Int32) (to a : Nat) : Nat := if sep = -1 then sk (fun i => !pb_blk B i) to (sk (pb_blk B) to a) else sk (pb_sep B sep) to a
theorem fl_stop_ge (B : Nat → Int32) (sep : Int32) (to a : Nat) : a ≤ fl_stop B sep to a := by
  unfold fl_stop
  split
  · exact Nat.le_trans (sk_ge _ _ _) (sk_ge _ _ _)
  · exact sk_ge _ _ _
theorem fl_stop_le {B : Nat → Int32} {sep : Int32} {to a : Nat} (h : a ≤ to) : fl_stop B sep to a ≤ to := by
  unfold fl_stop
  split
  · exact sk_le (sk_le h)
  · exact sk_le h
/-- the start of the field k further -/
def fl_start (B : Nat → Int32) (sep : Int32) (to : Nat) : Nat → Nat → Option Nat
  | 0, a => some a
  | k + 1, a => if fl_stop B sep to a = to then none else fl_start B sep to k (if sep = -1 then fl_stop B sep to a else fl_stop B sep to a + 1)
theorem fl_start_le {B : Nat → Int32} {sep : Int32} {to : Nat} : ∀ {k a b : Nat}, a ≤ to → fl_start B sep to k a = some b → b ≤ to := by
  intro k
  induction k with
  | zero => intro a b h h2; rw [fl_start] at h2; cases h2; exact h
  | succ k ih =>
    intro a b h h2
    rw [fl_start] at h2
    have h3 := fl_stop_le (B := B) (sep := sep) h
    split at h2
    · cases h2
    · split at h2
      · exact ih h3 h2
      · exact ih (by omega) h2
def oN : Option Nat → Int32
  | none => -1
  | some a => nI a
def pb_pass (B : Nat → Int32) (sep : Int32) (i : Nat) : Bool := pb_blk B i && !decide (B i &&& nI 255 = sep)
def ky_begin (B : Nat → Int32) (sep fl : Int32) (ff fc st sp : Nat) : Nat :=
  match fl_start B sep sp (ff - 1) st with
  | none => sp
  | some a => min sp ((if fl &&& nI 1 = 0 then a else sk (pb_pass B sep) sp a) + fc - 1)
def ky_end (B : Nat → Int32) (sep fl : Int32) (lf lc st sp : Nat) : Nat :=
  if lf = 0 then sp else
  match fl_start B sep sp (lf - 1) st with
  | none => sp
  | some a => if lc = 0 then fl_stop B sep sp a else min sp ((if fl &&& nI 64 = 0 then a else sk (pb_pass B sep) sp a) + lc)
/-- bytes as they are compared -/
def wg_small (v : Int32) : Bool := !decide (v < nI 97) && !decide (nI 122 < v)
def wg_cap (v : Int32) : Bool := !decide (v < nI 65) && !decide (nI 90 < v)
def wg_dig (v : Int32) : Bool := !decide (v < nI 48) && !decide (nI 57 < v)
def wg_blank (v : Int32) : Bool := decide (v = nI 32) || decide (v = nI 9)
def wg_t (v fl : Int32) : Int32 :=
  if !decide (fl &&& nI 8 = 0) && (decide (v < nI 32) || decide (nI 126 < v)) then -2
  else if !decide (fl &&& nI 2 = 0) && (!wg_blank v && !wg_small v && !wg_cap v && !wg_dig v) then -2
  else if wg_small v && !decide (fl &&& nI 4 = 0) then v - nI 97 + nI 65 else v
def wl (g : Nat → Int32) : Nat → Nat → List Int32
  | 0, _ => []
  | n + 1, a => if g a = -2 then wl g n (a + 1) else g a :: wl g n (a + 1)
def wgB (B : Nat → Int32) (fl : Int32) (i : Nat) : Int32 := wg_t (B i &&& nI 255) fl
/-- the bytes from a to e as they are compared -/
def wb (B : Nat → Int32) (fl : Int32) (a e : Nat) : List Int32 := wl (wgB B fl) (e - a) a
theorem wb_nil {B : Nat → Int32} {fl : Int32} {a e : Nat} (h : e ≤ a) : wb B fl a e = [] := by
  unfold wb; rw [show e - a = 0 by omega]; rfl
theorem wb_skip {B : Nat → Int32} {fl : Int32} {a e : Nat} (h : a < e) (h2 : wgB B fl a = -2) : wb B fl a e = wb B fl (a + 1) e := by
  unfold wb; rw [show e - a = (e - (a + 1)) + 1 by omega, wl, if_pos h2]
theorem wb_cons {B : Nat → Int32} {fl : Int32} {a e : Nat} (h : a < e) (h2 : ¬ wgB B fl a = -2) : wb B fl a e = wgB B fl a :: wb B fl (a + 1) e := by
  unfold wb; rw [show e - a = (e - (a + 1)) + 1 by omega, wl, if_neg h2]
theorem b255 (x : Int32) : ∃ k : Nat, k < 256 ∧ x &&& nI 255 = nI k := ⟨x.toBitVec.toNat % 2 ^ 8, Nat.mod_lt _ (by decide), pk_and x 8 (by decide)⟩
theorem wg_nn (x fl : Int32) : wg_t (x &&& nI 255) fl = -2 ∨ ∃ k : Nat, k < 256 ∧ wg_t (x &&& nI 255) fl = nI k := by
  obtain ⟨k, hk, e⟩ := b255 x
  rw [e]
  unfold wg_t
  split
  · exact Or.inl rfl
  · split
    · exact Or.inl rfl
    · split
      · rename_i h
        right
        have h1 : ¬ nI k < nI 97 := by
          intro z
          simp [wg_small, z] at h
        rw [xn_lt (by omega) (by decide)] at h1
        exact ⟨k - 97 + 65, by omega, by rw [pk_sub (by omega), nI_add]⟩
      · exact Or.inr ⟨k, hk, rfl⟩
/-- numerals -/
def pb_zero (B : Nat → Int32) (i : Nat) : Bool := decide (B i &&& nI 255 = nI 48)
def nm_min (B : Nat → Int32) (to a : Nat) : Bool := decide (sk (pb_blk B) to a < to) && decide (B (sk (pb_blk B) to a) &&& nI 255 = nI 45)
/-- where the number's own digits begin, outer zeros left out -/
def nm_whole (B : Nat → Int32) (to a : Nat) : Nat := sk (pb_zero B) to (if nm_min B to a = true then sk (pb_blk B) to a + 1 else sk (pb_blk B) to a)
def nm_wstop (B : Nat → Int32) (to a : Nat) : Nat := sk (pb_dig B) to (nm_whole B to a)
def nm_point (B : Nat → Int32) (to a : Nat) : Bool := decide (nm_wstop B to a < to) && decide (B (nm_wstop B to a) &&& nI 255 = nI 46)
def nm_frac (B : Nat → Int32) (to a : Nat) : Nat := if nm_point B to a = true then nm_wstop B to a + 1 else nm_wstop B to a
def nm_fend (B : Nat → Int32) (to a : Nat) : Nat := if nm_point B to a = true then sk (pb_dig B) to (nm_frac B to a) else nm_frac B to a
def nm_strip (B : Nat → Int32) (lo : Nat) : Nat → Nat
  | 0 => 0
  | e + 1 => if lo < e + 1 ∧ pb_zero B e = true then nm_strip B lo e else e + 1
def nm_fstop (B : Nat → Int32) (to a : Nat) : Nat := nm_strip B (nm_frac B to a) (nm_fend B to a)
def nm_zero (B : Nat → Int32) (to a : Nat) : Bool := decide (nm_whole B to a = nm_wstop B to a) && decide (nm_frac B to a = nm_fstop B to a)
def nm_sign (B : Nat → Int32) (to a : Nat) : Int32 := if nm_zero B to a = true then nI 0 else if nm_min B to a = true then -1 else nI 1
/-! one step of comparing bytes -/
theorem cb_skip {i e : Nat} {w : Int32} (h : (if i < e then w else -1) = -2) : i < e ∧ w = -2 := by
  by_cases h1 : i < e
  · rw [if_pos h1] at h; exact ⟨h1, h⟩
  · rw [if_neg h1] at h; exact absurd h (by decide)
theorem cb_wn {B : Nat → Int32} {fl : Int32} {i e : Nat} (h : ¬ (if i < e then wgB B fl i else -1) = -2) (h1 : i < e) : ∃ k : Nat, k < 256 ∧ wgB B fl i = nI k := by
  rw [if_pos h1] at h
  rcases wg_nn (B i) fl with h2 | h2
  · exact absurd h2 h
  · exact h2
theorem cb_m1 {k : Nat} (h : k < 256) : ¬ nI k = -1 ∧ ¬ nI k < -1 ∧ (-1 : Int32) < nI k := by
  have e : (-1 : Int32).toInt = -1 := by decide
  refine ⟨fun z => ?_, fun z => ?_, ?_⟩
  · have := congrArg Int32.toInt z; rw [e, nI_toInt (by omega)] at this; omega
  · rw [Int32.lt_iff_toInt_lt, e, nI_toInt (by omega)] at z; omega
  · rw [Int32.lt_iff_toInt_lt, e, nI_toInt (by omega)]; omega
theorem cb_eq {B : Nat → Int32} {fl : Int32} {i a j b : Nat} (ho : i < a ∨ j < b) (h1 : ¬ (if i < a then wgB B fl i else -1) = -2) (h2 : ¬ (if j < b then wgB B fl j else -1) = -2) (h3 : (if i < a then wgB B fl i else -1) = (if j < b then wgB B fl j else -1)) :
    i < a ∧ j < b ∧ lx (wb B fl i a) (wb B fl j b) = lx (wb B fl (i + 1) a) (wb B fl (j + 1) b) := by
  by_cases hi : i < a
  · obtain ⟨k, hk, ek⟩ := cb_wn h1 hi
    by_cases hj : j < b
    · rw [if_pos hi] at h1 h3
      rw [if_pos hj] at h2 h3
      refine ⟨hi, hj, ?_⟩
      rw [wb_cons hi h1, wb_cons hj h2, lx_cons, h3]
      unfold oi
      rw [if_pos rfl]; rfl
    · rw [if_pos hi, if_neg hj, ek] at h3
      exact absurd h3 (cb_m1 hk).1
  · have hj : j < b := by omega
    obtain ⟨k, hk, ek⟩ := cb_wn h2 hj
    rw [if_neg hi, if_pos hj, ek] at h3
    exact absurd h3.symm (cb_m1 hk).1
theorem cb_ne {B : Nat → Int32} {fl : Int32} {i a j b : Nat} (h1 : ¬ (if i < a then wgB B fl i else -1) = -2) (h2 : ¬ (if j < b then wgB B fl j else -1) = -2) (h3 : ¬ (if i < a then wgB B fl i else -1) = (if j < b then wgB B fl j else -1)) :
    lx (wb B fl i a) (wb B fl j b) = oi (if i < a then wgB B fl i else -1) (if j < b then wgB B fl j else -1) := by
  by_cases hi : i < a
  · obtain ⟨k, hk, ek⟩ := cb_wn h1 hi
    by_cases hj : j < b
    · rw [if_pos hi] at h1 h3 ⊢
      rw [if_pos hj] at h2 h3 ⊢
      rw [wb_cons hi h1, wb_cons hj h2, lx_cons]
      unfold oi
      rw [if_neg h3]
      by_cases h4 : wgB B fl i < wgB B fl j
      · rw [if_pos h4]; rfl
      · rw [if_neg h4]; rfl
    · rw [if_pos hi] at h1 ⊢
      rw [if_neg hj, wb_cons hi h1, wb_nil (a := j) (e := b) (by omega), ek]
      unfold oi
      rw [if_neg (cb_m1 hk).1, if_neg (cb_m1 hk).2.1]; rfl
  · by_cases hj : j < b
    · obtain ⟨k, hk, ek⟩ := cb_wn h2 hj
      rw [if_pos hj] at h2 ⊢
      rw [if_neg hi, wb_cons hj h2, wb_nil (a := i) (e := a) (by omega), ek]
      unfold oi
      rw [if_neg (fun z => (cb_m1 hk).1 z.symm), if_pos (cb_m1 hk).2.2]; rfl
    · rw [if_neg hi, if_neg hj] at h3; exact absurd rfl h3
theorem nm_strip_step {B : Nat → Int32} {lo e : Nat} (h : lo < e) (hz : pb_zero B (e - 1) = true) : nm_strip B lo e = nm_strip B lo (e - 1) := by
  cases e with
  | zero => omega
  | succ e => rw [nm_strip, if_pos ⟨h, hz⟩]; rfl
theorem nm_strip_stop {B : Nat → Int32} {lo e : Nat} (h : lo < e → pb_zero B (e - 1) = false) : nm_strip B lo e = e := by
  cases e with
  | zero => rfl
  | succ e =>
    rw [nm_strip, if_neg]
    rintro ⟨h1, h2⟩
    have h3 : pb_zero B e = false := h h1
    rw [h3] at h2; cases h2
theorem nm_strip_le {B : Nat → Int32} {lo : Nat} : ∀ e, nm_strip B lo e ≤ e := by
  intro e
  induction e with
  | zero => exact Nat.le_refl _
  | succ e ih => rw [nm_strip]; split; omega; exact Nat.le_refl _
theorem nm_a_le {B : Nat → Int32} {to a m : Nat} (h1 : a ≤ m) (h2 : to ≤ m) : sk (pb_blk B) to a ≤ m := sk_le2 h1 h2
theorem nm_whole_le {B : Nat → Int32} {to a m : Nat} (h1 : a ≤ m) (h2 : to ≤ m) : nm_whole B to a ≤ m := by
  unfold nm_whole
  refine sk_le2 ?_ h2
  split
  · rename_i h
    have : sk (pb_blk B) to a < to := by simp [nm_min] at h; exact h.1
    omega
  · exact sk_le2 h1 h2
theorem nm_wstop_le {B : Nat → Int32} {to a m : Nat} (h1 : a ≤ m) (h2 : to ≤ m) : nm_wstop B to a ≤ m := sk_le2 (nm_whole_le h1 h2) h2
theorem nm_frac_le {B : Nat → Int32} {to a m : Nat} (h1 : a ≤ m) (h2 : to ≤ m) : nm_frac B to a ≤ m := by
  unfold nm_frac
  split
  · rename_i h
    have : nm_wstop B to a < to := by simp [nm_point] at h; exact h.1
    omega
  · exact nm_wstop_le h1 h2
theorem nm_fend_le {B : Nat → Int32} {to a m : Nat} (h1 : a ≤ m) (h2 : to ≤ m) : nm_fend B to a ≤ m := by
  unfold nm_fend
  split
  · exact sk_le2 (nm_frac_le h1 h2) h2
  · exact nm_frac_le h1 h2
theorem nm_fstop_le {B : Nat → Int32} {to a m : Nat} (h1 : a ≤ m) (h2 : to ≤ m) : nm_fstop B to a ≤ m := Nat.le_trans (nm_strip_le _) (nm_fend_le h1 h2)
/-- what the fields of a numeral hold, from xb on -/
def nmo (x : Nat → Int32) (xb : Nat) (B : Nat → Int32) (to a : Nat) : Prop := x xb = nm_sign B to a ∧ x (xb + 1) = nI (nm_whole B to a) ∧ x (xb + 2) = nI (nm_wstop B to a) ∧ x (xb + 3) = nI (nm_frac B to a) ∧ x (xb + 4) = nI (nm_fstop B to a)
/-- as it was but for the five fields from xb on -/
def nmf (x x2 : Nat → Int32) (xb : Nat) : Prop := ∀ i, i < xb ∨ xb + 4 < i → x2 i = x i
