/-! bytes appended to the class's text -/
def gr (l m : Nat) : Nat := if m < l + 4 then 2 * m else m
theorem gr_t {l m : Nat} (h : m < l + 4) : gr l m = 2 * m := by unfold gr; rw [if_pos h]
theorem gr_f {l m : Nat} (h : l + 4 ≤ m) : gr l m = m := by unfold gr; rw [if_neg (by omega)]
theorem gr_ge (l m : Nat) : m ≤ gr l m := by unfold gr; split <;> omega
theorem gr_in {l m : Nat} (h : l ≤ m) (h4 : 4 ≤ m) : l + 4 ≤ gr l m := by unfold gr; split <;> omega
theorem gr_le {l m : Nat} (h : l + 4 ≤ 20000) (hm : m ≤ 40000) : gr l m ≤ 40000 := by unfold gr; split <;> omega
theorem updN_self (h : Nat → Nat) (k : Nat) : updN h k (h k) = h := by
  funext i; unfold updN
  by_cases e : i = k
  · rw [if_pos e, e]
  · rw [if_neg e]
def gn (len bc : Nat) (n : Nat → Nat) : Nat → Nat := updN (updN n 0 (gr len (n 0))) 1 (gr bc (n 1))
theorem cpy_fit {f g : Nat → Int32} {a b k : Nat} (hf : ∀ i, fits .byte (.int (f i)) = true) (hg : ∀ i, fits .byte (.int (g i)) = true) : ∀ i, fits .byte (.int (va_cpy f g a b k i)) = true := by
  intro i; unfold va_cpy; split
  · exact hf _
  · exact hg _
theorem cpy_00 {f g : Nat → Int32} {k i : Nat} (h : i < k) : va_cpy f g 0 0 k i = f i := by
  unfold va_cpy
  rw [if_pos (by omega), Nat.zero_add, Nat.sub_zero]
/-- the shift at byte k -/
def shv (k : Nat) : Int32 := nI 24 - nI (8 * k)
theorem shv_c {k : Nat} (h : k ≤ 4) : k = 0 ∨ k = 1 ∨ k = 2 ∨ k = 3 ∨ k = 4 := by omega
theorem shv_lt {k : Nat} (h : k ≤ 4) (h2 : shv k < 0) : k = 4 := by
  rcases shv_c h with rfl | rfl | rfl | rfl | rfl
  · exact absurd h2 (by decide)
  · exact absurd h2 (by decide)
  · exact absurd h2 (by decide)
  · exact absurd h2 (by decide)
  · rfl
theorem shv_ge {k : Nat} (h : k ≤ 4) (h2 : ¬ shv k < 0) : k < 4 := by
  rcases shv_c h with rfl | rfl | rfl | rfl | rfl
  · omega
  · omega
  · omega
  · omega
  · exact absurd (by decide) h2
theorem shv_s {k : Nat} (h : k < 4) : shv k + Int32.ofInt (-8) = shv (k + 1) ∧ shv k = nI (24 - 8 * (k % 4)) := by
  rcases shv_c (k := k) (by omega) with rfl | rfl | rfl | rfl | rfl
  · decide
  · decide
  · decide
  · decide
  · omega
theorem i8_and (y : Int32) : (y &&& nI 255).toInt8 = y.toInt8 := by
  apply Int8.toBitVec_inj.mp
  rw [Int32.toBitVec_toInt8, Int32.toBitVec_toInt8, Int32.toBitVec_and]
  rw [BitVec.signExtend_eq_setWidth_of_le _ (by omega), BitVec.signExtend_eq_setWidth_of_le _ (by omega), BitVec.setWidth_and]
  rw [show (nI 255).toBitVec.setWidth 8 = BitVec.allOnes 8 by decide, BitVec.and_allOnes]
theorem i8_32 (y : Int32) : y &&& nI 255 = nI 10 ↔ y.toInt8.toInt32 = nI 10 := by
  constructor
  · intro h
    rw [← i8_and, h]; decide
  · intro h
    have h1 : y.toInt8 = (nI 10).toInt8 := by
      have := congrArg Int32.toInt8 h
      rw [Int8.toInt8_toInt32] at this
      exact this
    have h2 := congrArg Int8.toBitVec h1
    rw [Int32.toBitVec_toInt8, Int32.toBitVec_toInt8, BitVec.signExtend_eq_setWidth_of_le _ (by omega), BitVec.signExtend_eq_setWidth_of_le _ (by omega)] at h2
    apply Int32.toBitVec_inj.mp
    rw [Int32.toBitVec_and]
    have h3 : y.toBitVec &&& (nI 255).toBitVec = (y.toBitVec.setWidth 8).setWidth 32 := by
      apply BitVec.eq_of_getLsbD_eq
      intro i hi
      rw [BitVec.getLsbD_and, BitVec.getLsbD_setWidth, BitVec.getLsbD_setWidth]
      have h4 : (nI 255).toBitVec.getLsbD i = decide (i < 8) := by
        have h5 : ∀ j : Fin 32, (nI 255).toBitVec.getLsbD j.1 = decide (j.1 < 8) := by decide
        exact h5 ⟨i, hi⟩
      rw [h4, decide_eq_true hi, Bool.true_and, Bool.and_comm]
    rw [h3, h2]; decide
/-- the bytes of w in place -/
def ap_b (w : Int32) (k : Nat) : Int32 := (w >>> (nI (24 - 8 * (k % 4)) &&& 31)).toInt8.toInt32
def ap_ (B : Nat → Int32) (len : Nat) (w : Int32) : Nat → Nat → Int32
  | 0 => B
  | k + 1 => upd (ap_ B len w k) (len + k) (ap_b w k)
theorem ap_s (B : Nat → Int32) (len : Nat) (w : Int32) (k : Nat) : ap_ B len w (k + 1) = upd (ap_ B len w k) (len + k) (ap_b w k) := rfl
/-- how many of them are line ends -/
def nbw (w : Int32) : Nat → Nat
  | 0 => 0
  | k + 1 => if ap_b w k = nI 10 then nbw w k + 1 else nbw w k
theorem nbw_le (w : Int32) (k : Nat) : nbw w k ≤ k := by
  induction k with
  | zero => exact Nat.le_refl _
  | succ k ih => rw [nbw]; split <;> omega
theorem brk_y {B : Nat → Int32} {len bc : Nat} {br : Nat → Nat} (h : brk B len bc br) {v : Int32} (hv : v = nI 10) : brk (upd B len v) (len + 1) (bc + 1) (updN br bc len) := by
  refine ⟨fun i hi => ?_, fun i j hij hj => ?_, fun j hj hB => ?_⟩
  · by_cases e : i = bc
    · rw [e, updN_s, pk_us]; exact ⟨by omega, hv⟩
    · rw [updN_n e]; have := h.1 i (by omega); rw [pk_un (by omega)]; exact ⟨by omega, this.2⟩
  · rw [updN_n (by omega : i ≠ bc)]
    by_cases e : j = bc
    · rw [e, updN_s]; exact (h.1 i (by omega)).1
    · rw [updN_n e]; exact h.2.1 i j hij (by omega)
  · by_cases e : j = len
    · exact ⟨bc, by omega, by rw [updN_s, e]⟩
    · rw [pk_un e] at hB
      obtain ⟨i, h1, h2⟩ := h.2.2 j (by omega) hB
      exact ⟨i, by omega, by rw [updN_n (by omega)]; exact h2⟩
theorem brk_n {B : Nat → Int32} {len bc : Nat} {br : Nat → Nat} (h : brk B len bc br) {v : Int32} (hv : ¬ v = nI 10) : brk (upd B len v) (len + 1) bc br := by
  refine ⟨fun i hi => ?_, h.2.1, fun j hj hB => ?_⟩
  · have := h.1 i hi; rw [pk_un (by omega)]; exact ⟨by omega, this.2⟩
  · by_cases e : j = len
    · rw [e, pk_us] at hB; exact absurd hB hv
    · rw [pk_un e] at hB; exact h.2.2 j (by omega) hB
def f01 (f : Nat → Nat → Int32) (g0 g1 : Nat → Int32) : Nat → Nat → Int32 := fun i => if i = 0 then g0 else if i = 1 then g1 else f i
theorem f01_0 (f : Nat → Nat → Int32) (g0 g1 u : Nat → Int32) : fup (f01 f g0 g1) 0 u = f01 f u g1 := by
  funext j; unfold fup f01; by_cases h : j = 0 <;> simp [h]
theorem f01_1 (f : Nat → Nat → Int32) (g0 g1 u : Nat → Int32) : fup (f01 f g0 g1) 1 u = f01 f g0 u := by
  funext j; unfold fup f01; by_cases h : j = 0 <;> by_cases h1 : j = 1 <;> simp_all
theorem f01_self (f : Nat → Nat → Int32) : f01 f (f 0) (f 1) = f := by
  funext j; unfold f01; by_cases h : j = 0 <;> by_cases h1 : j = 1 <;> simp_all
theorem f01_g (f : Nat → Nat → Int32) (g0 g1 : Nat → Int32) {j : Nat} (h : 2 ≤ j) : f01 f g0 g1 j = f j := by unfold f01; rw [if_neg (by omega), if_neg (by omega)]
theorem vp_fit (x : Int8) : fits .byte (.int (vp_nar .byte x.toInt32)) = true := by
  rw [vp_nar_b]
  have h := i8_b x
  show (decide ((-128 : Int32) ≤ x.toInt32) && decide (x.toInt32 ≤ (127 : Int32))) = true
  rw [Bool.and_eq_true]
  refine ⟨decide_eq_true ?_, decide_eq_true ?_⟩
  · rw [Int32.le_iff_toInt_le]; exact h.1
  · rw [Int32.le_iff_toInt_le]; exact h.2
theorem brk_ge {B : Nat → Int32} {len bc : Nat} {br : Nat → Nat} (h : brk B len bc br) : ∀ i, i < bc → i ≤ br i := by
  intro i
  induction i with
  | zero => intro _; exact Nat.zero_le _
  | succ i ih => intro hi; have := ih (by omega); have := h.2.1 i (i + 1) (by omega) hi; omega
theorem brk_bc {B : Nat → Int32} {len bc : Nat} {br : Nat → Nat} (h : brk B len bc br) : bc ≤ len := by
  rcases Nat.eq_zero_or_pos bc with e | e
  · omega
  · have := brk_ge h (bc - 1) (by omega); have := (h.1 (bc - 1) (by omega)).1; omega
