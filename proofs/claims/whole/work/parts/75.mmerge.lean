/-! merging pieces, as the reference does it -/
theorem pieces64 {ln m : Nat} (hl : ln ≤ 1000) (hm : 1 ≤ m) (hm2 : m < 2 ^ 31) : (((nI ln).toInt64 + (nI m).toInt64 - 1) / (nI m).toInt64).toInt32 = nI ((ln + m - 1) / m) := by
  have e1 : ((nI ln).toInt64).toInt = ln := by rw [Int32.toInt_toInt64, nI_toInt (by omega)]
  have e2 : ((nI m).toInt64).toInt = m := by rw [Int32.toInt_toInt64, nI_toInt (by omega)]
  have e3 : ((nI ln).toInt64 + (nI m).toInt64 - 1).toInt = ((ln + m - 1 : Nat) : Int) := by
    rw [Int64.toInt_sub, Int64.toInt_add, e1, e2]
    rw [show (1 : Int64).toInt = 1 from rfl]
    rw [show ((ln : Int) + m).bmod (2 ^ 64) = (ln : Int) + m from Int.bmod_eq_of_le (by omega) (by omega)]
    rw [Int.bmod_eq_of_le (by omega) (by omega)]
    omega
  have hq : (ln + m - 1) / m ≤ 1000 := by
    rcases Nat.lt_or_ge 1000 ((ln + m - 1) / m) with h | h
    · have h2 : 1001 * m ≤ (ln + m - 1) / m * m := Nat.mul_le_mul_right m h
      have h3 := Nat.div_mul_le_self (ln + m - 1) m
      omega
    · exact h
  apply Int32.toInt_inj.mp
  rw [nI_toInt (by omega), Int64.toInt_toInt32, Int64.toInt_div, e2, e3]
  have e5 : Int.tdiv ((ln + m - 1 : Nat) : Int) (m : Int) = (((ln + m - 1) / m : Nat) : Int) := rfl
  rw [e5]
  clear e3 e5
  generalize (ln + m - 1) / m = Q at hq
  rw [show ((Q : Nat) : Int).bmod (2 ^ 64) = ((Q : Nat) : Int) from Int.bmod_eq_of_le (by omega) (by omega)]
  exact Int.bmod_eq_of_le (by omega) (by omega)
/-- the lengths of the pieces; how many -/
def pcz (ln m : Nat) : Nat → Nat := fun i => min m (ln - i * m)
def pcz_n (ln m : Nat) : Nat := (ln + m - 1) / m
theorem pcz_pf (ln m : Nat) : ∀ i, pf (pcz ln m) i = min (i * m) ln := by
  intro i
  induction i with
  | zero => rw [pf_0, Nat.zero_mul, Nat.zero_min]
  | succ i ih => rw [pf_s, ih, Nat.succ_mul, pcz]; omega
theorem pcz_all {ln m : Nat} (hm : 1 ≤ m) : pf (pcz ln m) (pcz_n ln m) = ln := by
  rw [pcz_pf]
  unfold pcz_n
  have h := Nat.div_add_mod (ln + m - 1) m
  have h2 := Nat.mod_lt (ln + m - 1) (show 0 < m by omega)
  rw [Nat.mul_comm] at h
  omega
theorem pcz_lt {ln m i : Nat} (hm : 1 ≤ m) (h : i < pcz_n ln m) : i * m < ln := by
  unfold pcz_n at h
  have h1 : i + 1 ≤ (ln + m - 1) / m := h
  have h2 := (Nat.le_div_iff_mul_le (show 0 < m by omega)).mp h1
  rw [Nat.succ_mul] at h2
  omega
theorem pcz_i {ln m i : Nat} (hm : 1 ≤ m) (h : i < pcz_n ln m) : pf (pcz ln m) i = i * m := by
  rw [pcz_pf]; have := pcz_lt hm h; omega
theorem pcz_n_le {ln m : Nat} (hm : 1 ≤ m) : pcz_n ln m ≤ ln := by
  rcases Nat.lt_or_ge ln (pcz_n ln m) with h | h
  · have := pcz_lt hm h
    have h2 : ln * 1 ≤ ln * m := Nat.mul_le_mul_left ln hm
    omega
  · exact h
/-- a piece is through -/
theorem pcz_t {ln m i t : Nat} (h : t ≤ pcz ln m i) : (t < pcz ln m i) ↔ ¬ (t = m) ∧ i * m + t < ln := by
  unfold pcz at *; omega
theorem mf_tk {o : Nat → Nat → Ordering} {ro sz : Nat → Nat} {n : Nat} : ∀ d i, (mf o ro sz n d).1 i ≤ sz i := by
  intro d
  induction d with
  | zero => intro i; exact Nat.zero_le _
  | succ d ih =>
    intro i
    show (mf_st o ro sz n d (mf o ro sz n d)).1 i ≤ _
    generalize mf o ro sz n d = S at ih
    unfold mf_st
    cases hsel : mf_sel o ro sz S.1 n with
    | none => exact ih i
    | some b =>
      obtain ⟨_, hb2⟩ := mf_sel_lt hsel
      show updN S.1 b (S.1 b + 1) i ≤ sz i
      by_cases e : i = b
      · rw [e, updN_s]; omega
      · rw [updN_n e]; exact ih i
/-- keeping a line where it is not as the one kept before it -/
def og_ (c : Nat → Nat → Bool) (sq : Nat → Nat) : Nat → Nat × (Nat → Nat)
  | 0 => (0, fun _ => 0)
  | k + 1 => if (decide (0 < (og_ c sq k).1) && c ((og_ c sq k).2 ((og_ c sq k).1 - 1)) (sq k)) = true then og_ c sq k else ((og_ c sq k).1 + 1, updN (og_ c sq k).2 (og_ c sq k).1 (sq k))
def og_l (S : Nat × (Nat → Nat)) : Option Nat := if S.1 = 0 then none else some (S.2 (S.1 - 1))
theorem og_le (c : Nat → Nat → Bool) (sq : Nat → Nat) : ∀ k, (og_ c sq k).1 ≤ k := by
  intro k
  induction k with
  | zero => exact Nat.le_refl _
  | succ k ih =>
    rw [og_]
    split
    · omega
    · show (og_ c sq k).1 + 1 ≤ k + 1; omega
theorem og_lt {c : Nat → Nat → Bool} {sq : Nat → Nat} {n : Nat} : ∀ k, (∀ i, i < k → sq i < n) → ∀ i, i < (og_ c sq k).1 → (og_ c sq k).2 i < n := by
  intro k
  induction k with
  | zero => intro _ i hi; exact absurd hi (Nat.not_lt_zero _)
  | succ k ih =>
    intro h i
    rw [og_]
    split
    · exact ih (fun i hi => h i (by omega)) i
    · intro hi
      have hi2 : i < (og_ c sq k).1 + 1 := hi
      show updN _ _ _ i < n
      by_cases e : i = (og_ c sq k).1
      · rw [e, updN_s]; exact h k (by omega)
      · rw [updN_n e]; exact ih (fun i hi => h i (by omega)) i (by omega)
theorem og_t {c : Nat → Nat → Bool} {sq : Nat → Nat} {k t : Nat} (h1 : og_l (og_ c sq k) = some t) (h2 : c t (sq k) = true) : og_ c sq (k + 1) = og_ c sq k := by
  unfold og_l at h1
  split at h1
  · cases h1
  · rename_i h0
    cases h1
    rw [og_, if_pos]
    rw [h2, decide_eq_true (by omega)]; rfl
theorem og_f {c : Nat → Nat → Bool} {sq : Nat → Nat} {k : Nat} (h : ∀ t, og_l (og_ c sq k) = some t → c t (sq k) = false) : og_ c sq (k + 1) = ((og_ c sq k).1 + 1, updN (og_ c sq k).2 (og_ c sq k).1 (sq k)) ∧ og_l (og_ c sq (k + 1)) = some (sq k) := by
  have e : og_ c sq (k + 1) = ((og_ c sq k).1 + 1, updN (og_ c sq k).2 (og_ c sq k).1 (sq k)) := by
    rw [og_, if_neg]
    intro z
    rw [Bool.and_eq_true] at z
    have h0 := of_decide_eq_true z.1
    rw [h _ (by unfold og_l; rw [if_neg (by omega)])] at z
    exact absurd z.2 (by decide)
  refine ⟨e, ?_⟩
  rw [e]
  unfold og_l
  rw [if_neg (by show ¬ (_ + 1 = 0); omega)]
  show some (updN _ _ _ _) = _
  rw [show (og_ c sq k).1 + 1 - 1 = (og_ c sq k).1 by omega, updN_s]
theorem og_l_lt {c : Nat → Nat → Bool} {sq : Nat → Nat} {n k t : Nat} (h : ∀ i, i < k → sq i < n) (h1 : og_l (og_ c sq k) = some t) : t < n := by
  unfold og_l at h1
  split at h1
  · cases h1
  · cases h1; exact og_lt k h _ (by omega)
def t_merge (s : SS) (n : Int32) : Nat := tb (decide (n < nI 1)) 1 (tb (decide (1000 < lnc s.B s.len)) 2 0)
def s_sq (s : SS) (m k : Nat) : (Nat → Nat) × (Nat → Nat) := mf (sa_o s) (fun i => i) (pcz (lnc s.B s.len) m) (pcz_n (lnc s.B s.len) m) k
def qm_mk (s : SS) (sq : Nat → Nat) : SS := SS.mk s.len s.B s.sep s.all s.bs s.bo s.kc s.kd s.kg s.mem s.wy (og_ (s_c s) sq (lnc s.B s.len)).1 (og_ (s_c s) sq (lnc s.B s.len)).2 s.un s.ul s.mg s.mv s.gn
def q_merge (s : SS) (n : Int32) : SS := qm_mk s (s_sq s (iN n) (lnc s.B s.len)).2
/-- what a step adds stays -/
theorem mf_old {o : Nat → Nat → Ordering} {ro sz : Nat → Nat} {n d k : Nat} (h : k < d) : ∀ e, (mf o ro sz n (d + e)).2 k = (mf o ro sz n d).2 k := by
  intro e
  induction e with
  | zero => rfl
  | succ e ih =>
    show (mf_st o ro sz n (d + e) (mf o ro sz n (d + e))).2 k = _
    rw [← ih]
    generalize mf o ro sz n (d + e) = S
    unfold mf_st
    cases mf_sel o ro sz S.1 n with
    | none => rfl
    | some b => exact updN_n (by omega)
theorem og_ext {c : Nat → Nat → Bool} {a b : Nat → Nat} : ∀ k, (∀ i, i < k → a i = b i) → og_ c a k = og_ c b k := by
  intro k
  induction k with
  | zero => intro _; rfl
  | succ k ih => intro h; rw [og_, og_, ih (fun i hi => h i (by omega)), h k (by omega)]
