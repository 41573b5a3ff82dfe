/-! the class's world holds the state -/
def brk (B : Nat → Int32) (len bc : Nat) (br : Nat → Nat) : Prop := (∀ i, i < bc → br i < len ∧ B (br i) = nI 10) ∧ (∀ i j, i < j → j < bc → br i < br j) ∧ ∀ j, j < len → B j = nI 10 → ∃ i, i < bc ∧ br i = j
theorem sk_to {p : Nat → Bool} {to : Nat} : ∀ (k a j : Nat), j - a = k → a ≤ j → j ≤ to → (∀ i, a ≤ i → i < j → p i = true) → (j < to → p j = false) → sk p to a = j := by
  intro k
  induction k with
  | zero =>
    intro a j hk h1 h2 h3 h4
    obtain rfl : a = j := by omega
    exact sk_stop h4
  | succ k ih =>
    intro a j hk h1 h2 h3 h4
    rw [sk_step (by omega) (h3 a (Nat.le_refl _) (by omega))]
    exact ih (a + 1) j (by omega) (by omega) h2 (fun i hi hj => h3 i (by omega) hj) h4
theorem brk_start {B : Nat → Int32} {len bc : Nat} {br : Nat → Nat} (h : brk B len bc br) {i : Nat} (hi : i < bc) : tx_start br i ≤ br i := by
  unfold tx_start
  split
  · have := h.2.1 (i - 1) i (by omega) hi; omega
  · exact Nat.zero_le _
theorem brk_no {B : Nat → Int32} {len bc : Nat} {br : Nat → Nat} (h : brk B len bc br) {i j : Nat} (hi : i ≤ bc) (h1 : tx_start br i ≤ j) (h2 : j < len) (h3 : i < bc → j < br i) : pb_nl B j = true := by
  unfold pb_nl
  cases e : decide (B j = nI 10) with
  | false => rfl
  | true =>
    exfalso
    obtain ⟨z, hz1, hz2⟩ := h.2.2 j h2 (of_decide_eq_true e)
    rcases Nat.lt_or_ge z i with hz | hz
    · have a1 : br z ≤ br (i - 1) := by
        by_cases e2 : z = i - 1
        · rw [e2]; exact Nat.le_refl _
        · exact Nat.le_of_lt (h.2.1 z (i - 1) (by omega) (by omega))
      unfold tx_start at h1
      rw [if_pos (by omega)] at h1
      omega
    · have hib : i < bc := by omega
      have a1 := h3 hib
      by_cases e2 : z = i
      · rw [e2] at hz2; omega
      · have := h.2.1 i z (by omega) hz1; omega
theorem brk_sk {B : Nat → Int32} {len bc : Nat} {br : Nat → Nat} (h : brk B len bc br) {i : Nat} (hi : i < bc) : sk (pb_nl B) len (tx_start br i) = br i := by
  refine sk_to _ _ _ rfl (brk_start h hi) (Nat.le_of_lt (h.1 i hi).1) (fun j h1 h2 => brk_no h (by omega) h1 (by have := (h.1 i hi).1; omega) (fun _ => h2)) (fun _ => ?_)
  unfold pb_nl
  rw [(h.1 i hi).2]; decide
theorem brk_lst {B : Nat → Int32} {len bc : Nat} {br : Nat → Nat} (h : brk B len bc br) : ∀ i, i ≤ bc → lst B len i = tx_start br i := by
  intro i
  induction i with
  | zero => intro _; rfl
  | succ i ih =>
    intro hi
    show sk (pb_nl B) len (lst B len i) + 1 = _
    rw [ih (by omega), brk_sk h (by omega)]
    unfold tx_start
    rw [if_pos (by omega), Nat.add_sub_cancel]
theorem brk_last {B : Nat → Int32} {len bc : Nat} {br : Nat → Nat} (h : brk B len bc br) (hs : tx_start br bc ≤ len) : sk (pb_nl B) len (tx_start br bc) = len :=
  sk_to _ _ _ rfl hs (Nat.le_refl _) (fun j h1 h2 => brk_no h (Nat.le_refl _) h1 h2 (fun z => absurd z (by omega))) (fun z => absurd z (by omega))
theorem brk_start_le {B : Nat → Int32} {len bc : Nat} {br : Nat → Nat} (h : brk B len bc br) : ∀ i, i ≤ bc → tx_start br i ≤ len := fun i hi => tx_start_le (fun j hj => (h.1 j hj).1) hi
theorem brk_cnt {B : Nat → Int32} {len bc : Nat} {br : Nat → Nat} (h : brk B len bc br) : tx_count len bc br = lnc B len := by
  apply lnc_eq
  · intro i hi
    unfold tx_count at hi
    by_cases hb : i < bc
    · rw [brk_lst h i (by omega)]
      have a1 := brk_start h hb; have := (h.1 i hb).1; omega
    · split at hi
      · rename_i h1
        obtain rfl : i = bc := by omega
        rw [brk_lst h i (by omega)]; exact h1
      · omega
  · unfold tx_count
    split
    · show len ≤ sk (pb_nl B) len (lst B len bc) + 1
      rw [brk_lst h bc (Nat.le_refl _), brk_last h (brk_start_le h bc (Nat.le_refl _))]; omega
    · rw [brk_lst h bc (Nat.le_refl _)]; omega
theorem brk_le {B : Nat → Int32} {len bc : Nat} {br : Nat → Nat} (h : brk B len bc br) : bc ≤ lnc B len ∧ lnc B len ≤ bc + 1 := by
  rw [← brk_cnt h]; unfold tx_count; split <;> omega
theorem brk_st {B : Nat → Int32} {len bc : Nat} {br : Nat → Nat} (h : brk B len bc br) {l : Nat} (hl : l < lnc B len) : tx_start br l = lst B len l := (brk_lst h l (by have := (brk_le h).2; omega)).symm
theorem brk_en {B : Nat → Int32} {len bc : Nat} {br : Nat → Nat} (h : brk B len bc br) {l : Nat} (hl : l < lnc B len) : tx_stop len bc br l = men len (lst B len) l := by
  have h1 := (brk_le h).2
  rw [men_lst hl, brk_lst h l (by omega)]
  unfold tx_stop
  split
  · rename_i h2; rw [brk_sk h h2]
  · obtain rfl : l = bc := by omega
    rw [brk_last h (brk_start_le h l (Nat.le_refl _))]
theorem brk_se {B : Nat → Int32} {len bc : Nat} {br : Nat → Nat} (h : brk B len bc br) {l : Nat} (hl : l < lnc B len) : tx_start br l ≤ tx_stop len bc br l := by
  rw [brk_en h hl, brk_st h hl, men_lst hl]; exact sk_ge _ _ _
theorem brk_oln {B : Nat → Int32} {sep all : Int32} {kc : Nat} {kd : Nat → Nat → Nat} {kg : Nat → Int32} {bs bo : Bool} {len bc : Nat} {br : Nat → Nat} (h : brk B len bc br) {a b : Nat} (ha : a < lnc B len) (hb : b < lnc B len) : oln B sep all kc kd kg bs bo len bc br a b = oml B sep all kc kd kg bs bo len (lst B len) a b := by
  unfold oln oml
  rw [brk_st h ha, brk_st h hb, brk_en h ha, brk_en h hb]
/-- the class's fields and rows hold the state -/
abbrev CI (s : SS) (x : Nat → Int32) (n : Nat → Nat) (f : Nat → Nat → Int32) (kf : Nat → Option Nat) (ks : va_W) (bc : Nat) (br ka : Nat → Nat) : Prop := SG s ∧ txt x n f s.len bc br s.B ∧ brk s.B s.len bc br ∧ (∀ i, fits .byte (.int (f 0 i)) = true) ∧ (4 ≤ n 0 ∧ n 0 ≤ 40000 ∧ 4 ≤ n 1 ∧ n 1 ≤ 40000) ∧ x 5 = s.sep ∧ x 6 = nI s.kc ∧ x 7 = s.all ∧ x 8 = bI s.bs ∧ x 9 = bI s.bo ∧ kys s.kc kf ks ka s.kd s.kg ∧ x 1 = nI s.mem ∧ x 2 = nI s.wy ∧ x 0 = nI s.rc ∧ (∀ i, i < s.rc → f 7 i = nI (s.rl i)) ∧ x 21 = nI s.un ∧ (∀ i, i < s.un → f 5 i = nI (s.ul i)) ∧ x 22 = nI s.mg ∧ x 23 = nI s.mv ∧ x 24 = nI s.gn
theorem CI.g {s : SS} {x : Nat → Int32} {n : Nat → Nat} {f : Nat → Nat → Int32} {kf : Nat → Option Nat} {ks : va_W} {bc : Nat} {br ka : Nat → Nat} (h : CI s x n f kf ks bc br ka) : SG s := h.1
theorem CI.t {s : SS} {x : Nat → Int32} {n : Nat → Nat} {f : Nat → Nat → Int32} {kf : Nat → Option Nat} {ks : va_W} {bc : Nat} {br ka : Nat → Nat} (h : CI s x n f kf ks bc br ka) : txt x n f s.len bc br s.B := h.2.1
theorem CI.b {s : SS} {x : Nat → Int32} {n : Nat → Nat} {f : Nat → Nat → Int32} {kf : Nat → Option Nat} {ks : va_W} {bc : Nat} {br ka : Nat → Nat} (h : CI s x n f kf ks bc br ka) : brk s.B s.len bc br := h.2.2.1
theorem CI.fit {s : SS} {x : Nat → Int32} {n : Nat → Nat} {f : Nat → Nat → Int32} {kf : Nat → Option Nat} {ks : va_W} {bc : Nat} {br ka : Nat → Nat} (h : CI s x n f kf ks bc br ka) : ∀ i, fits .byte (.int (f 0 i)) = true := h.2.2.2.1
theorem CI.nn {s : SS} {x : Nat → Int32} {n : Nat → Nat} {f : Nat → Nat → Int32} {kf : Nat → Option Nat} {ks : va_W} {bc : Nat} {br ka : Nat → Nat} (h : CI s x n f kf ks bc br ka) : 4 ≤ n 0 ∧ n 0 ≤ 40000 ∧ 4 ≤ n 1 ∧ n 1 ≤ 40000 := h.2.2.2.2.1
theorem CI.x5 {s : SS} {x : Nat → Int32} {n : Nat → Nat} {f : Nat → Nat → Int32} {kf : Nat → Option Nat} {ks : va_W} {bc : Nat} {br ka : Nat → Nat} (h : CI s x n f kf ks bc br ka) : x 5 = s.sep := h.2.2.2.2.2.1
theorem CI.x6 {s : SS} {x : Nat → Int32} {n : Nat → Nat} {f : Nat → Nat → Int32} {kf : Nat → Option Nat} {ks : va_W} {bc : Nat} {br ka : Nat → Nat} (h : CI s x n f kf ks bc br ka) : x 6 = nI s.kc := h.2.2.2.2.2.2.1
theorem CI.x7 {s : SS} {x : Nat → Int32} {n : Nat → Nat} {f : Nat → Nat → Int32} {kf : Nat → Option Nat} {ks : va_W} {bc : Nat} {br ka : Nat → Nat} (h : CI s x n f kf ks bc br ka) : x 7 = s.all := h.2.2.2.2.2.2.2.1
theorem CI.x8 {s : SS} {x : Nat → Int32} {n : Nat → Nat} {f : Nat → Nat → Int32} {kf : Nat → Option Nat} {ks : va_W} {bc : Nat} {br ka : Nat → Nat} (h : CI s x n f kf ks bc br ka) : x 8 = bI s.bs := h.2.2.2.2.2.2.2.2.1
theorem CI.x9 {s : SS} {x : Nat → Int32} {n : Nat → Nat} {f : Nat → Nat → Int32} {kf : Nat → Option Nat} {ks : va_W} {bc : Nat} {br ka : Nat → Nat} (h : CI s x n f kf ks bc br ka) : x 9 = bI s.bo := h.2.2.2.2.2.2.2.2.2.1
theorem CI.k {s : SS} {x : Nat → Int32} {n : Nat → Nat} {f : Nat → Nat → Int32} {kf : Nat → Option Nat} {ks : va_W} {bc : Nat} {br ka : Nat → Nat} (h : CI s x n f kf ks bc br ka) : kys s.kc kf ks ka s.kd s.kg := h.2.2.2.2.2.2.2.2.2.2.1
theorem CI.x1 {s : SS} {x : Nat → Int32} {n : Nat → Nat} {f : Nat → Nat → Int32} {kf : Nat → Option Nat} {ks : va_W} {bc : Nat} {br ka : Nat → Nat} (h : CI s x n f kf ks bc br ka) : x 1 = nI s.mem := h.2.2.2.2.2.2.2.2.2.2.2.1
theorem CI.x2 {s : SS} {x : Nat → Int32} {n : Nat → Nat} {f : Nat → Nat → Int32} {kf : Nat → Option Nat} {ks : va_W} {bc : Nat} {br ka : Nat → Nat} (h : CI s x n f kf ks bc br ka) : x 2 = nI s.wy := h.2.2.2.2.2.2.2.2.2.2.2.2.1
theorem CI.x0 {s : SS} {x : Nat → Int32} {n : Nat → Nat} {f : Nat → Nat → Int32} {kf : Nat → Option Nat} {ks : va_W} {bc : Nat} {br ka : Nat → Nat} (h : CI s x n f kf ks bc br ka) : x 0 = nI s.rc := h.2.2.2.2.2.2.2.2.2.2.2.2.2.1
theorem CI.r {s : SS} {x : Nat → Int32} {n : Nat → Nat} {f : Nat → Nat → Int32} {kf : Nat → Option Nat} {ks : va_W} {bc : Nat} {br ka : Nat → Nat} (h : CI s x n f kf ks bc br ka) : ∀ i, i < s.rc → f 7 i = nI (s.rl i) := h.2.2.2.2.2.2.2.2.2.2.2.2.2.2.1
theorem CI.x21 {s : SS} {x : Nat → Int32} {n : Nat → Nat} {f : Nat → Nat → Int32} {kf : Nat → Option Nat} {ks : va_W} {bc : Nat} {br ka : Nat → Nat} (h : CI s x n f kf ks bc br ka) : x 21 = nI s.un := h.2.2.2.2.2.2.2.2.2.2.2.2.2.2.2.1
theorem CI.u {s : SS} {x : Nat → Int32} {n : Nat → Nat} {f : Nat → Nat → Int32} {kf : Nat → Option Nat} {ks : va_W} {bc : Nat} {br ka : Nat → Nat} (h : CI s x n f kf ks bc br ka) : ∀ i, i < s.un → f 5 i = nI (s.ul i) := h.2.2.2.2.2.2.2.2.2.2.2.2.2.2.2.2.1
theorem CI.x22 {s : SS} {x : Nat → Int32} {n : Nat → Nat} {f : Nat → Nat → Int32} {kf : Nat → Option Nat} {ks : va_W} {bc : Nat} {br ka : Nat → Nat} (h : CI s x n f kf ks bc br ka) : x 22 = nI s.mg := h.2.2.2.2.2.2.2.2.2.2.2.2.2.2.2.2.2.1
theorem CI.x23 {s : SS} {x : Nat → Int32} {n : Nat → Nat} {f : Nat → Nat → Int32} {kf : Nat → Option Nat} {ks : va_W} {bc : Nat} {br ka : Nat → Nat} (h : CI s x n f kf ks bc br ka) : x 23 = nI s.mv := h.2.2.2.2.2.2.2.2.2.2.2.2.2.2.2.2.2.2.1
theorem CI.x24 {s : SS} {x : Nat → Int32} {n : Nat → Nat} {f : Nat → Nat → Int32} {kf : Nat → Option Nat} {ks : va_W} {bc : Nat} {br ka : Nat → Nat} (h : CI s x n f kf ks bc br ka) : x 24 = nI s.gn := h.2.2.2.2.2.2.2.2.2.2.2.2.2.2.2.2.2.2.2
theorem kys_app {kc : Nat} {kf : Nat → Option Nat} {ks : va_W} {ka : Nat → Nat} {kd : Nat → Nat → Nat} {kg : Nat → Int32} (h : kys kc kf ks ka kd kg) (T : va_W) : kys kc kf (ks ++ T) ka kd kg := by
  refine ⟨h.1, fun k hk => ?_⟩
  obtain ⟨h1, h2, h3⟩ := h.2 k hk
  refine ⟨h1, ?_, h3⟩
  rw [List.getElem?_append_left (List.getElem?_eq_some_iff.mp h2).1]
  exact h2
theorem CI.ag {s : SS} {x : Nat → Int32} {n : Nat → Nat} {f : Nat → Nat → Int32} {kf : Nat → Option Nat} {ks : va_W} {bc : Nat} {br ka : Nat → Nat} (h : CI s x n f kf ks bc br ka) {x2 : Nat → Int32} (ha : ∀ i, i < 10 ∨ 20 < i → x2 i = x i) : CI s x2 n f kf ks bc br ka :=
  ⟨h.g, txt_mv h.t (ha 3 (by omega)) (ha 4 (by omega)), h.b, h.fit, h.nn, (ha 5 (by omega)).trans h.x5, (ha 6 (by omega)).trans h.x6, (ha 7 (by omega)).trans h.x7, (ha 8 (by omega)).trans h.x8, (ha 9 (by omega)).trans h.x9, h.k, (ha 1 (by omega)).trans h.x1, (ha 2 (by omega)).trans h.x2, (ha 0 (by omega)).trans h.x0, h.r, (ha 21 (by omega)).trans h.x21, h.u, (ha 22 (by omega)).trans h.x22, (ha 23 (by omega)).trans h.x23, (ha 24 (by omega)).trans h.x24⟩
theorem CI.agn {s : SS} {x : Nat → Int32} {n : Nat → Nat} {f : Nat → Nat → Int32} {kf : Nat → Option Nat} {ks : va_W} {bc : Nat} {br ka : Nat → Nat} (h : CI s x n f kf ks bc br ka) {x2 : Nat → Int32} (ha : agN x x2) : CI s x2 n f kf ks bc br ka := h.ag (fun i hi => ha i (by omega))
/-- what a call of the class leaves -/
def CW (G : XG) (q : Nat → Nat) (n2 : Nat → Nat) (T : va_W) (s : SS) (w : va_W) : Prop := ∃ (q2 : Nat → Nat) (x2 : Nat → Int32) (f2 : Nat → Nat → Int32) (kf2 : Nat → Option Nat) (ks2 : va_W) (bc : Nat) (br ka : Nat → Nat), w = wC G q2 x2 n2 f2 kf2 (ks2 ++ T) ∧ q2 0 = q 0 ∧ CI s x2 n2 f2 kf2 ks2 bc br ka
def CQI (G : XG) (q : Nat → Nat) (n2 : Nat → Nat) (T : va_W) (s : SS) (v : Int32) : Option Value → va_W → Prop := fun r w => r = some (.int v) ∧ CW G q n2 T s w
def CQV (G : XG) (q : Nat → Nat) (n2 : Nat → Nat) (T : va_W) (s : SS) : Option Value → va_W → Prop := fun r w => r = none ∧ CW G q n2 T s w
theorem CW.of {G : XG} {q : Nat → Nat} {T : va_W} {s : SS} {x : Nat → Int32} {n : Nat → Nat} {f : Nat → Nat → Int32} {kf : Nat → Option Nat} {ks : va_W} {bc : Nat} {br ka : Nat → Nat} (h : CI s x n f kf ks bc br ka) : CW G q n T s (wC G q x n f kf (ks ++ T)) := ⟨q, x, f, kf, ks, bc, br, ka, rfl, rfl, h⟩
theorem wi_inr {a : Int32} {n : Nat} (hn : n < 2 ^ 31) : wi a (nI 0) (nI n - nI 1) = inr a n := by
  unfold wi inr
  have e : (nI n - nI 1).toInt = (n : Int) - 1 := by
    rw [Int32.toInt_sub, nI_toInt hn, nI_toInt (by omega)]
    exact Int.bmod_eq_of_le (by omega) (by omega)
  rw [show nI 0 = (0 : Int32) by decide]
  congr 1
  by_cases h : a.toInt < (n : Int)
  · have h1 : a < nI n := by rw [Int32.lt_iff_toInt_lt, nI_toInt hn]; exact h
    have h2 : ¬ nI n - nI 1 < a := by rw [Int32.lt_iff_toInt_lt, e]; omega
    rw [decide_eq_true h1, decide_eq_false h2]; rfl
  · have h1 : ¬ a < nI n := by rw [Int32.lt_iff_toInt_lt, nI_toInt hn]; exact h
    have h2 : nI n - nI 1 < a := by rw [Int32.lt_iff_toInt_lt, e]; omega
    rw [decide_eq_false h1, decide_eq_true h2]; rfl
