theorem xn_le {a b : Nat} (h : Nat.ble a b = true) : a ≤ b := Nat.le_of_ble_eq_true h
theorem xn_dec {a : Nat} (h : 1 ≤ a) : nI a + Int32.ofInt (-1) = nI (a - 1) := by
  have e : nI a = nI (a - 1) + 1 := by rw [← nI_succ]; congr 1; omega
  rw [e, Int32.add_assoc]
  have e2 : (1 : Int32) + Int32.ofInt (-1) = 0 := by decide
  rw [e2, Int32.add_zero]
theorem xn_inc (a k : Nat) : nI a + Int32.ofInt (k : Int) = nI (a + k) := by
  have e : Int32.ofInt (k : Int) = nI k := by
    simp [nI, Int32.ofInt_eq_ofNat]
  rw [e, nI_add]
theorem xn_ne0 {a : Nat} (h : 0 < a) (h2 : a < 2 ^ 31) : ¬ nI a = 0 := nI_ne0 h h2
theorem xn_lt {a b : Nat} (ha : a < 2 ^ 31) (hb : b < 2 ^ 31) : (nI a < nI b) ↔ a < b := by
  rw [Int32.lt_iff_toInt_lt, nI_toInt ha, nI_toInt hb]; omega
theorem xn_leI {a b : Nat} (ha : a < 2 ^ 31) (hb : b < 2 ^ 31) : (nI a ≤ nI b) ↔ a ≤ b := by
  rw [Int32.le_iff_toInt_le, nI_toInt ha, nI_toInt hb]; omega
theorem xn_inj {a b : Nat} (ha : a < 2 ^ 31) (hb : b < 2 ^ 31) : (nI a = nI b) ↔ a = b := by
  constructor
  · intro h
    have := congrArg Int32.toInt h
    rw [nI_toInt ha, nI_toInt hb] at this
    omega
  · intro h; rw [h]
theorem xn_min {a b : Nat} (ha : a < 2 ^ 31) (hb : b < 2 ^ 31) : (if nI b < nI a then nI b else nI a) = nI (min a b) := by
  by_cases h : b < a
  · rw [if_pos ((xn_lt hb ha).mpr h), Nat.min_eq_right (by omega)]
  · rw [if_neg (fun z => h ((xn_lt hb ha).mp z)), Nat.min_eq_left (by omega)]
theorem xn_max {a b : Nat} (ha : a < 2 ^ 31) (hb : b < 2 ^ 31) : (if nI a < nI b then nI b else nI a) = nI (max a b) := by
  by_cases h : a < b
  · rw [if_pos ((xn_lt ha hb).mpr h), Nat.max_eq_right (by omega)]
  · rw [if_neg (fun z => h ((xn_lt ha hb).mp z)), Nat.max_eq_left (by omega)]
def bI (b : Bool) : Int32 := if b = true then nI 1 else nI 0
theorem bI_nar (b : Bool) : narrow .boolean (.int (bI b)) = .int (bI b) := by cases b <;> rfl
theorem bI_t {b : Bool} (h : b = true) : bI b = nI 1 := by rw [h]; rfl
theorem bI_f {b : Bool} (h : b = false) : bI b = nI 0 := by rw [h]; rfl
theorem bI_0 {b : Bool} : (bI b = 0) ↔ b = false := by
  cases b
  · exact ⟨fun _ => rfl, fun _ => by decide⟩
  · exact ⟨fun h => absurd h (by decide), fun h => absurd h (by decide)⟩
section
variable {G : XG} {M : XM} {R : Room} {F : XF} {cells slots : Nat} {ws : va_W} {pc : Nat} {lv : List (Nat × Value)} {st : List Value}
theorem XX.callSx {Mk : XM} {n idx d : Nat} {As rest : List Value} {r : Option Value} {ws2 : va_W} (hM : MM G Mk (xr d 0 0) As ws (RX r ws2)) (hk : xx_mt Mk n) (hst : Cond.static Mk.1 ∈ xw_g) (hlk : Cond.methodLink M.1.cls idx Mk.1 ∈ xw_g) (hn : As.length = n) (hd : decode M.2.1 pc = .ok (.invokestatic idx, 3)) (hR : d + 1 ≤ R.frames ∧ 8 + (Mk.2.2.1 + 11) + 40 * d ≤ R.locals) (hC : cells ≤ R.cells ∧ slots ≤ R.slots) (hw : (rest.map fun v => v.category).sum ≤ 8) (hst0 : st = As.reverse ++ rest)
    (k : XX G M R F cells slots ws2 (pc + 3) lv (r.toList ++ rest)) : XX G M R F cells slots ws pc lv st := by
  refine XX.callS hM hk hst hlk hn hd hR ⟨hC.1, hC.2⟩ hw hst0 (fun r1 ws1 h => ?_)
  obtain ⟨h1, h2⟩ := h
  rw [h1, h2]
  exact k
theorem XX.callVx {Mk : XM} {n idx ci q0 b d : Nat} {As rest fs : List Value} {q : vw_C} {r : Option Value} {ws2 : va_W} (hM : MM G Mk (xr d 0 0) (.ref b :: As) ws (RX r ws2)) (hk : xx_mt Mk n) (hi : Cond.instanceMethod Mk.1 ∈ xw_g ∧ Cond.selects Mk.1.cls Mk.1 Mk.1 ∈ xw_g) (hlk : Cond.methodLink M.1.cls idx Mk.1 ∈ xw_g ∨ ∃ host : String, Cond.methodLinkNest M.1.cls idx Mk.1 host ∈ xw_n) (hn : As.length = n) (hd : decode M.2.1 pc = .ok (.invokevirtual idx, 3)) (he : ws[q0]? = some (b, .inr (ci, fs))) (hc : xc_cl[ci]? = some q) (hq : q.1 = Mk.1.cls) (hR : d + 1 ≤ R.frames ∧ 8 + (Mk.2.2.1 + 11) + 40 * d ≤ R.locals) (hC : cells ≤ R.cells ∧ slots ≤ R.slots) (hw : (rest.map fun v => v.category).sum ≤ 8) (hst0 : st = As.reverse ++ .ref b :: rest)
    (k : XX G M R F cells slots ws2 (pc + 3) lv (r.toList ++ rest)) : XX G M R F cells slots ws pc lv st := by
  refine XX.callV hM hk hi hlk hn hd he hc hq hR ⟨hC.1, hC.2⟩ hw hst0 (fun r1 ws1 h => ?_)
  obtain ⟨h1, h2⟩ := h
  rw [h1, h2]
  exact k
theorem XX.bif_eq {b : Bool} {off : Int} {tgt : Nat} (hd : decode M.2.1 pc = .ok (.ifCond .eq off, 3)) (ht : (pc : Int) + off = (tgt : Int)) (kt : b = false → XX G M R F cells slots ws tgt lv st) (kf : b = true → XX G M R F cells slots ws (pc + 3) lv st) : XX G M R F cells slots ws pc lv (.int (bI b) :: st) :=
  XX.if_eq hd ht (fun h => kt (bI_0.mp h)) (fun h => kf (by cases b with | true => rfl | false => exact absurd (bI_0.mpr rfl) h))
theorem XX.bif_ne {b : Bool} {off : Int} {tgt : Nat} (hd : decode M.2.1 pc = .ok (.ifCond .ne off, 3)) (ht : (pc : Int) + off = (tgt : Int)) (kt : b = true → XX G M R F cells slots ws tgt lv st) (kf : b = false → XX G M R F cells slots ws (pc + 3) lv st) : XX G M R F cells slots ws pc lv (.int (bI b) :: st) :=
  XX.if_ne hd ht (fun h => kt (by cases b with | true => rfl | false => exact absurd (bI_0.mpr rfl) h)) (fun h => kf (bI_0.mp h))
theorem XR.bif_eq {b : Bool} {off : Int} {tgt : Nat} (hd : decode M.2.1 pc = .ok (.ifCond .eq off, 3)) (ht : (pc : Int) + off = (tgt : Int)) (kt : b = false → XR G M R F ws tgt lv st) (kf : b = true → XR G M R F ws (pc + 3) lv st) : XR G M R F ws pc lv (.int (bI b) :: st) :=
  XR.if_eq hd ht (fun h => kt (bI_0.mp h)) (fun h => kf (by cases b with | true => rfl | false => exact absurd (bI_0.mpr rfl) h))
theorem XR.bif_ne {b : Bool} {off : Int} {tgt : Nat} (hd : decode M.2.1 pc = .ok (.ifCond .ne off, 3)) (ht : (pc : Int) + off = (tgt : Int)) (kt : b = true → XR G M R F ws tgt lv st) (kf : b = false → XR G M R F ws (pc + 3) lv st) : XR G M R F ws pc lv (.int (bI b) :: st) :=
  XR.if_ne hd ht (fun h => kt (by cases b with | true => rfl | false => exact absurd (bI_0.mpr rfl) h)) (fun h => kf (bI_0.mp h))
theorem XX.tv {v w : Value} (h : v = w) (k : XX G M R F cells slots ws pc lv (w :: st)) : XX G M R F cells slots ws pc lv (v :: st) := by rw [h]; exact k
theorem XR.tv {v w : Value} (h : v = w) (k : XR G M R F ws pc lv (w :: st)) : XR G M R F ws pc lv (v :: st) := by rw [h]; exact k
end
