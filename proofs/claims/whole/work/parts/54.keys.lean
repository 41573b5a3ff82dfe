/-! numbers and keys compared -/
def nc_m (B : Nat → Int32) (a1 a2 b1 b2 : Nat) : Ordering := ((on (nm_wstop B a2 a1 - nm_whole B a2 a1) (nm_wstop B b2 b1 - nm_whole B b2 b1)).then (lx (wb B (nI 0) (nm_whole B a2 a1) (nm_wstop B a2 a1)) (wb B (nI 0) (nm_whole B b2 b1) (nm_wstop B b2 b1)))).then (lx (wb B (nI 0) (nm_frac B a2 a1) (nm_fstop B a2 a1)) (wb B (nI 0) (nm_frac B b2 b1) (nm_fstop B b2 b1)))
def nc (B : Nat → Int32) (a1 a2 b1 b2 : Nat) : Ordering := (oi (nm_sign B a2 a1) (nm_sign B b2 b1)).then (if decide (nm_sign B a2 a1 < 0) = true then (nc_m B a1 a2 b1 b2).swap else nc_m B a1 a2 b1 b2)
theorem then_ne {o1 o2 : Ordering} (h : ¬ oI o1 = 0) : o1.then o2 = o1 := by
  cases o1 with
  | lt => rfl
  | gt => rfl
  | eq => exact absurd rfl h
theorem then_eq {o1 o2 : Ordering} (h : oI o1 = 0) : o1.then o2 = o2 := by
  rw [(oI_0 o1).mp h]; rfl
theorem oi_ne {x y : Int32} (h : ¬ x = y) : ¬ oI (oi x y) = 0 := by
  rw [oI_0]; unfold oi; rw [if_neg h]; split <;> (intro z; cases z)
theorem nc_ne {B : Nat → Int32} {a1 a2 b1 b2 : Nat} (h : ¬ nm_sign B a2 a1 = nm_sign B b2 b1) : nc B a1 a2 b1 b2 = oi (nm_sign B a2 a1) (nm_sign B b2 b1) := by
  unfold nc; rw [then_ne (oi_ne h)]
theorem nc_eq {B : Nat → Int32} {a1 a2 b1 b2 : Nat} (h : nm_sign B a2 a1 = nm_sign B b2 b1) : nc B a1 a2 b1 b2 = (if decide (nm_sign B a2 a1 < 0) = true then (nc_m B a1 a2 b1 b2).swap else nc_m B a1 a2 b1 b2) := by
  unfold nc; rw [then_eq]; rw [oI_0]; unfold oi; rw [if_pos h]
theorem oi_nI {a b : Nat} (ha : a < 2 ^ 31) (hb : b < 2 ^ 31) : oi (nI a) (nI b) = on a b := by
  unfold oi on
  by_cases h : a = b
  · rw [if_pos h, if_pos (by rw [h])]
  · rw [if_neg h, if_neg (fun z => h ((xn_inj ha hb).mp z))]
    by_cases h2 : a < b
    · rw [if_pos h2, if_pos ((xn_lt ha hb).mpr h2)]
    · rw [if_neg h2, if_neg (fun z => h2 ((xn_lt ha hb).mp z))]
def ky_fl (g all : Int32) : Int32 := if g = 0 then all else g
/-- two lines by one key, before it is reversed; s, e: where a line begins and stops -/
def kc_b (B : Nat → Int32) (sep fl : Int32) (d0 d1 d2 d3 sa ea sb eb : Nat) : Ordering :=
  if fl &&& nI 16 = 0 then lx (wb B fl (ky_begin B sep fl d0 d1 sa ea) (ky_end B sep fl d2 d3 sa ea)) (wb B fl (ky_begin B sep fl d0 d1 sb eb) (ky_end B sep fl d2 d3 sb eb))
  else nc B (ky_begin B sep fl d0 d1 sa ea) (ky_end B sep fl d2 d3 sa ea) (ky_begin B sep fl d0 d1 sb eb) (ky_end B sep fl d2 d3 sb eb)
def kc_r (fl : Int32) (o : Ordering) : Ordering := if fl &&& nI 32 = 0 then o else o.swap
/-- comparisons one after the other, m of them from k on -/
def okf (c : Nat → Ordering) : Nat → Nat → Ordering
  | 0, _ => .eq
  | m + 1, k => (c k).then (okf c m (k + 1))
theorem okf_0 {c : Nat → Ordering} {m k : Nat} (h : m ≤ k) : okf c (m - k) k = .eq := by rw [show m - k = 0 by omega]; rfl
theorem okf_s {c : Nat → Ordering} {m k : Nat} (h : k < m) : okf c (m - k) k = (c k).then (okf c (m - (k + 1)) (k + 1)) := by
  rw [show m - k = (m - (k + 1)) + 1 by omega]; rfl
theorem kc_r0 {fl : Int32} {o : Ordering} : (oI (kc_r fl o) = 0) ↔ oI o = 0 := by
  unfold kc_r
  split
  · exact Iff.rfl
  · rw [oI_0, oI_0]; cases o <;> decide
/-- the keys: kc of them, the row kf names them, kl holds them -/
def kys (kc : Nat) (kf : Nat → Option Nat) (kl : va_W) (ka : Nat → Nat) (kd : Nat → Nat → Nat) (kg : Nat → Int32) : Prop :=
  kc ≤ 6 ∧ ∀ k, k < kc → kf k = some (ka k) ∧ kl[k]? = some (ka k, .inr (4, [.int (nI (kd k 0)), .int (nI (kd k 1)), .int (nI (kd k 2)), .int (nI (kd k 3)), .int (kg k)])) ∧ 1 ≤ kd k 0 ∧ kd k 0 ≤ 1000 ∧ 1 ≤ kd k 1 ∧ kd k 1 ≤ 1000 ∧ kd k 2 ≤ 1000 ∧ kd k 3 ≤ 1000
def kuu (q ka : Nat → Nat) (kc k : Nat) : Nat := if k < kc then ka k else q 7
def kdu (kc : Nat) (kd : Nat → Nat → Nat) (k i : Nat) : Nat := if k < kc then kd k i else if i < 2 then 1 else 0
def kgu (kc : Nat) (kg : Nat → Int32) (k : Nat) : Int32 := if k < kc then kg k else nI 0
theorem ky_cell {G : XG} {q : Nat → Nat} {x : Nat → Int32} {n : Nat → Nat} {f : Nat → Nat → Int32} {kf : Nat → Option Nat} {kl : va_W} {kc : Nat} {ka : Nat → Nat} {kd : Nat → Nat → Nat} {kg : Nat → Int32} (h : kys kc kf kl ka kd kg) (k : Nat) :
    ∃ kp : Nat, (wC G q x n f kf kl)[kp]? = some (kuu q ka kc k, .inr (4, [.int (nI (kdu kc kd k 0)), .int (nI (kdu kc kd k 1)), .int (nI (kdu kc kd k 2)), .int (nI (kdu kc kd k 3)), .int (kgu kc kg k)])) ∧ 1 ≤ kdu kc kd k 0 ∧ kdu kc kd k 0 ≤ 1000 ∧ 1 ≤ kdu kc kd k 1 ∧ kdu kc kd k 1 ≤ 1000 ∧ kdu kc kd k 2 ≤ 1000 ∧ kdu kc kd k 3 ≤ 1000 := by
  by_cases hk : k < kc
  · obtain ⟨h1, h2, h3⟩ := h.2 k hk
    refine ⟨k + 19, ?_, by simp only [kdu, hk, if_true]; exact h3⟩
    simp only [kuu, kdu, kgu, hk, if_true]
    exact h2
  · refine ⟨7, ?_, by simp [kdu, hk]⟩
    simp only [kuu, kdu, kgu, hk, if_false]
    rfl
theorem txt_mv {x x2 : Nat → Int32} {n : Nat → Nat} {f : Nat → Nat → Int32} {len bc : Nat} {br : Nat → Nat} {B : Nat → Int32} (h : txt x n f len bc br B) (h3 : x2 3 = x 3) (h4 : x2 4 = x 4) : txt x2 n f len bc br B := by
  obtain ⟨a, b, c⟩ := h
  exact ⟨h3.trans a, h4.trans b, c⟩
/-- as it was but for the two numerals -/
def agN (x x2 : Nat → Int32) : Prop := ∀ i, i < 10 ∨ 19 < i → x2 i = x i
theorem ky_begin_le {B : Nat → Int32} {sep fl : Int32} {ff fc st sp : Nat} : ky_begin B sep fl ff fc st sp ≤ sp := by
  unfold ky_begin
  split
  · exact Nat.le_refl _
  · exact Nat.min_le_left _ _
theorem ky_end_le {B : Nat → Int32} {sep fl : Int32} {lf lc st sp : Nat} (h : st ≤ sp) : ky_end B sep fl lf lc st sp ≤ sp := by
  unfold ky_end
  split
  · exact Nat.le_refl _
  · split
    · exact Nat.le_refl _
    · rename_i h2
      split
      · exact fl_stop_le (fl_start_le h h2)
      · exact Nat.min_le_left _ _
/-- two lines by the key k -/
def oky (B : Nat → Int32) (sep all : Int32) (kc : Nat) (kd : Nat → Nat → Nat) (kg : Nat → Int32) (sa ea sb eb k : Nat) : Ordering := kc_r (ky_fl (kgu kc kg k) all) (kc_b B sep (ky_fl (kgu kc kg k) all) (kdu kc kd k 0) (kdu kc kd k 1) (kdu kc kd k 2) (kdu kc kd k 3) sa ea sb eb)
/-- two lines by all keys -/
def oks (B : Nat → Int32) (sep all : Int32) (kc : Nat) (kd : Nat → Nat → Nat) (kg : Nat → Int32) (sa ea sb eb : Nat) : Ordering := okf (oky B sep all kc kd kg sa ea sb eb) (max 1 kc - 0) 0
/-- two lines by all, numbers aside -/
def oal (B : Nat → Int32) (sep all : Int32) (kc : Nat) (kd : Nat → Nat → Nat) (kg : Nat → Int32) (bs bo : Bool) (sa ea sb eb : Nat) : Ordering :=
  if (!decide (oI (oks B sep all kc kd kg sa ea sb eb) = 0) || bs || bo) = true then oks B sep all kc kd kg sa ea sb eb else kc_r all (lx (wb B (nI 0) sa ea) (wb B (nI 0) sb eb))
