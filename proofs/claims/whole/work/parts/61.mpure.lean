/-! the reference's words against the class's -/
theorem and_nn {x : Int32} {m : Nat} (hm : m < 2 ^ 31) : ¬ x &&& nI m < 0 := by
  intro h
  rw [Int32.lt_iff_toInt_lt] at h
  have h0 : (0 : Int32).toInt = 0 := by decide
  rw [h0] at h
  have h1 : (x &&& nI m).toBitVec.msb = true := by
    rw [BitVec.msb_eq_toInt]
    exact decide_eq_true h
  rw [Int32.toBitVec_and, BitVec.msb_and] at h1
  have h2 : (nI m).toBitVec.msb = true := by
    cases h3 : (nI m).toBitVec.msb with
    | true => rfl
    | false => rw [h3] at h1; simp at h1
  rw [BitVec.msb_eq_toInt] at h2
  have h4 : (nI m).toInt < 0 := of_decide_eq_true h2
  rw [nI_toInt hm] at h4
  omega
theorem and_pos {x : Int32} {m : Nat} (hm : m < 2 ^ 31) : (0 < x &&& nI m) ↔ ¬ x &&& nI m = 0 := by
  have h := and_nn (x := x) hm
  have h0 : (0 : Int32).toInt = 0 := by decide
  rw [Int32.lt_iff_toInt_lt, h0] at h
  rw [Int32.lt_iff_toInt_lt, h0]
  constructor
  · intro h1 h2; rw [h2, h0] at h1; omega
  · intro h1
    have h3 : (x &&& nI m).toInt ≠ 0 := fun z => h1 (Int32.toInt_inj.mp (by rw [z, h0]))
    omega
theorem and_le {x : Int32} {m : Nat} (hm : m < 2 ^ 31) : (x &&& nI m ≤ 0) ↔ x &&& nI m = 0 := by
  have h := and_pos (x := x) hm
  have h0 : (0 : Int32).toInt = 0 := by decide
  rw [Int32.le_iff_toInt_le, h0]
  rw [Int32.lt_iff_toInt_lt, h0] at h
  constructor
  · intro h1
    by_cases e : x &&& nI m = 0
    · exact e
    · have := h.mpr e; omega
  · intro h1; rw [h1, h0]; omega
theorem sub_32 (v : Int32) : v - nI 97 + nI 65 = v - nI 32 := by
  rw [Int32.sub_eq_add_neg, Int32.add_assoc, Int32.sub_eq_add_neg]
  congr 1
theorem wi_out (v : Int32) : (decide (v < nI 32) || decide (nI 126 < v)) = !wi v (nI 32) (nI 126) := by
  unfold wi
  cases decide (v < nI 32) <;> cases decide (nI 126 < v) <;> rfl
theorem mw_rel (v fl : Int32) : wg_t v fl = if mc_t v fl = true then mf_t v fl else -2 := by
  unfold wg_t mc_t mf_t mc_plain
  rw [wi_out, show wg_small v = wi v (nI 97) (nI 122) from rfl, show wg_cap v = wi v (nI 65) (nI 90) from rfl, show wg_dig v = wi v (nI 48) (nI 57) from rfl, show wg_blank v = (decide (v = nI 32) || decide (v = nI 9)) from rfl, sub_32]
  simp only [and_pos (x := fl) (m := 4) (by decide)]
  generalize wi v (nI 97) (nI 122) = s
  generalize wi v (nI 65) (nI 90) = c
  generalize wi v (nI 48) (nI 57) = d
  generalize wi v (nI 32) (nI 126) = r
  generalize (decide (v = nI 32) || decide (v = nI 9)) = b
  by_cases h4 : fl &&& nI 4 = 0
  · by_cases h8 : fl &&& nI 8 = 0
    · by_cases h2 : fl &&& nI 2 = 0
      · simp [h4, h8, h2]
      · simp [h4, h8, h2]; cases s <;> cases c <;> cases d <;> cases b <;> simp
    · by_cases h2 : fl &&& nI 2 = 0
      · simp [h4, h8, h2]; cases r <;> simp
      · simp [h4, h8, h2]; cases r <;> cases s <;> cases c <;> cases d <;> cases b <;> simp
  · by_cases h8 : fl &&& nI 8 = 0
    · by_cases h2 : fl &&& nI 2 = 0
      · simp [h4, h8, h2]
      · simp [h4, h8, h2]; cases s <;> cases c <;> cases d <;> cases b <;> simp
    · by_cases h2 : fl &&& nI 2 = 0
      · simp [h4, h8, h2]; cases r <;> simp
      · simp [h4, h8, h2]; cases r <;> cases s <;> cases c <;> cases d <;> cases b <;> simp
theorem mf_nn {x fl : Int32} : ∃ k : Nat, k < 256 ∧ mf_t (x &&& nI 255) fl = nI k := by
  obtain ⟨k, hk, e⟩ := b255 x
  rw [e]
  unfold mf_t
  split
  · rename_i h
    have h1 : ¬ nI k < nI 97 := by
      intro z
      have := h.2
      simp [wi, z] at this
    rw [xn_lt (by omega) (by decide)] at h1
    exact ⟨k - 32, by omega, by rw [pk_sub (by omega)]⟩
  · exact ⟨k, hk, rfl⟩
theorem mw_c {x fl : Int32} (h : mc_t (x &&& nI 255) fl = true) : wg_t (x &&& nI 255) fl = mf_t (x &&& nI 255) fl ∧ ¬ wg_t (x &&& nI 255) fl = -2 := by
  rw [mw_rel, if_pos h]
  refine ⟨rfl, fun z => ?_⟩
  obtain ⟨k, hk, e⟩ := mf_nn (x := x) (fl := fl)
  rw [e] at z
  have := congrArg Int32.toInt z
  rw [nI_toInt (by omega)] at this
  have e2 : (-2 : Int32).toInt = -2 := by decide
  omega
theorem mw_n {x fl : Int32} (h : mc_t (x &&& nI 255) fl = false) : wg_t (x &&& nI 255) fl = -2 := by
  rw [mw_rel, if_neg (by rw [h]; decide)]
/-- passing blanks of a field, both ways -/
theorem pass_no {B : Nat → Int32} {to a : Nat} : sk (pb_pass B (-1)) to a = sk (pb_blk B) to a := by
  refine sk_cong (fun i _ _ => ?_)
  unfold pb_pass
  obtain ⟨k, hk, e⟩ := b255 (B i)
  rw [e, decide_eq_false (fun z => (cb_m1 hk).1 z)]; simp
theorem pass_sep {B : Nat → Int32} {sep : Int32} {to : Nat} : ∀ (k a : Nat), to - a = k → sk (pb_blk B) (sk (pb_sep B sep) to a) a = sk (pb_pass B sep) to a := by
  intro k
  induction k using Nat.strongRecOn with
  | _ k ih =>
    intro a hk
    by_cases h : a < to
    · cases h1 : pb_sep B sep a with
      | false =>
        rw [sk_stop (p := pb_sep B sep) (fun _ => h1), sk_stop (p := pb_blk B) (fun z => absurd z (by omega)), sk_stop (p := pb_pass B sep) (fun _ => by simp [pb_pass]; simp [pb_sep] at h1; intro _; exact h1)]
      | true =>
        rw [sk_step (p := pb_sep B sep) h h1]
        have hge := sk_ge (pb_sep B sep) to (a + 1)
        cases h2 : pb_blk B a with
        | false => rw [sk_stop (p := pb_blk B) (fun _ => h2), sk_stop (p := pb_pass B sep) (fun _ => by simp [pb_pass, h2])]
        | true =>
          rw [sk_step (p := pb_blk B) (by omega) h2, sk_step (p := pb_pass B sep) h (by simp [pb_pass, h2]; simp [pb_sep] at h1; exact h1)]
          exact ih _ (by omega) (a + 1) rfl
    · rw [sk_stop (p := pb_sep B sep) (fun z => absurd z h), sk_stop (p := pb_blk B) (fun z => absurd z (by omega)), sk_stop (p := pb_pass B sep) (fun z => absurd z h)]
theorem ky_begin_0 {B : Nat → Int32} {sep fl : Int32} {ff fc s : Nat} (h1 : 1 ≤ fc) : ky_begin B sep fl ff fc s s = s := by
  unfold ky_begin
  split
  · rfl
  · rename_i a h
    have h2 : s ≤ a := by
      have : ∀ k b, s ≤ b → ∀ a, fl_start B sep s k b = some a → s ≤ a := by
        intro k
        induction k with
        | zero => intro b hb a h; rw [fl_start] at h; cases h; exact hb
        | succ k ih =>
          intro b hb a h
          rw [fl_start] at h
          have hg := fl_stop_ge B sep s b
          split at h
          · cases h
          · split at h
            · exact ih _ (by omega) a h
            · exact ih _ (by omega) a h
      exact this _ _ (Nat.le_refl _) a h
    have h3 := sk_ge (pb_pass B sep) s a
    have : ∀ c : Nat, s ≤ c → min s (c + fc - 1) = s := fun c hc => Nat.min_eq_left (by omega)
    apply this
    split <;> omega
theorem ky_end_0 {B : Nat → Int32} {sep fl : Int32} {lf lc s : Nat} : ky_end B sep fl lf lc s s = s := by
  unfold ky_end
  split
  · rfl
  · split
    · rfl
    · rename_i a h
      have h2 : s ≤ a ∧ a ≤ s := by
        refine ⟨?_, fl_start_le (Nat.le_refl _) h⟩
        have : ∀ k b, s ≤ b → ∀ a, fl_start B sep s k b = some a → s ≤ a := by
          intro k
          induction k with
          | zero => intro b hb a h; rw [fl_start] at h; cases h; exact hb
          | succ k ih =>
            intro b hb a h
            rw [fl_start] at h
            have hg := fl_stop_ge B sep s b
            split at h
            · cases h
            · split at h
              · exact ih _ (by omega) a h
              · exact ih _ (by omega) a h
        exact this _ _ (Nat.le_refl _) a h
      have h3 := sk_ge (pb_pass B sep) s a
      split
      · have h4 := fl_stop_ge B sep s a
        have h5 := fl_stop_le (B := B) (sep := sep) h2.2
        omega
      · have : ∀ c : Nat, s ≤ c → min s (c + lc) = s := fun c hc => Nat.min_eq_left (by omega)
        apply this
        split <;> omega
