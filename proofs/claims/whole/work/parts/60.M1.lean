/-! the reference: its text, lines and keys -/
def men (len : Nat) (st : Nat → Nat) (l : Nat) : Nat := if st (l + 1) - 1 < len then st (l + 1) - 1 else len
def mtx (x : Nat → Int32) (f : Nat → Nat → Int32) (len ln : Nat) (st : Nat → Nat) (B : Nat → Int32) : Prop :=
  x 0 = nI len ∧ len ≤ 20000 ∧ ln ≤ 20000 ∧ (∀ i, i ≤ ln → f 1 i = nI (st i) ∧ st i ≤ 20001) ∧ (∀ i, i < ln → 1 ≤ st (i + 1) ∧ st i ≤ men len st i) ∧ ∀ i, i < len → f 0 i = B i
def mky (x : Nat → Int32) (f : Nat → Nat → Int32) (kc : Nat) (kd : Nat → Nat → Nat) (kg : Nat → Int32) : Prop :=
  x 7 = nI kc ∧ kc ≤ 6 ∧ ∀ k, k < kc → (∀ i, i < 4 → f 2 (5 * k + i) = nI (kd k i)) ∧ f 2 (5 * k + 4) = kg k ∧ 1 ≤ kd k 0 ∧ kd k 0 ≤ 1000 ∧ 1 ≤ kd k 1 ∧ kd k 1 ≤ 1000 ∧ kd k 2 ≤ 1000 ∧ kd k 3 ≤ 1000
theorem men_le (len : Nat) (st : Nat → Nat) (l : Nat) : men len st l ≤ len := by unfold men; split <;> omega
theorem kdu_b {x : Nat → Int32} {f : Nat → Nat → Int32} {kc : Nat} {kd : Nat → Nat → Nat} {kg : Nat → Int32} (h : mky x f kc kd kg) (k : Nat) : 1 ≤ kdu kc kd k 0 ∧ kdu kc kd k 0 ≤ 1000 ∧ 1 ≤ kdu kc kd k 1 ∧ kdu kc kd k 1 ≤ 1000 ∧ kdu kc kd k 2 ≤ 1000 ∧ kdu kc kd k 3 ≤ 1000 := by
  by_cases hk : k < kc
  · obtain ⟨_, _, h3⟩ := h.2.2 k hk
    simp only [kdu, hk, if_true]; exact h3
  · simp [kdu, hk]
def wi (a b c : Int32) : Bool := !decide (a < b) && !decide (c < a)
/-- as it was but for the two notes on a field -/
def agF (x x2 : Nat → Int32) : Prop := ∀ i, i ≠ 17 → i ≠ 18 → x2 i = x i
theorem mtx_mv {x x2 : Nat → Int32} {f : Nat → Nat → Int32} {len ln : Nat} {st : Nat → Nat} {B : Nat → Int32} (h : mtx x f len ln st B) (h0 : x2 0 = x 0) : mtx x2 f len ln st B := ⟨h0.trans h.1, h.2⟩
theorem mky_mv {x x2 : Nat → Int32} {f : Nat → Nat → Int32} {kc : Nat} {kd : Nat → Nat → Nat} {kg : Nat → Int32} (h : mky x f kc kd kg) (h0 : x2 7 = x 7) : mky x2 f kc kd kg := ⟨h0.trans h.1, h.2⟩

set_option maxRecDepth 100000 in
set_option maxHeartbeats 4000000 in
theorem c_M_startOf {G : XG} {q : Nat → Nat} {x : Nat → Int32} {f : Nat → Nat → Int32} {kl : va_W} {len ln : Nat} {st : Nat → Nat} {B : Nat → Int32} (ht : mtx x f len ln st B) {l : Nat} (hl : l ≤ ln) : MR G m_M_startOf (xr 0 0 0) [.ref (q 0), .int (nI l)] (wM G q x f kl) (some (.int (nI (st l)))) := by
  obtain ⟨hx0, hl0, hln, hst, hse, hB⟩ := id ht
  refine MR.of rfl (xn_le rfl) ?_
  refine (?_ : XR G m_M_startOf (xr 0 0 0) (xr_F (some (.int (nI (st l))))) (wM G q x f kl) 0 [(0, .ref (q 0)), (1, .int (nI l))] [])
  refine XR.aload_n dd_M_startOf_0 rfl 0 rfl ?_
  refine XR.get (q0 := 0) (v := .ref (q 2)) fl_M_13 dd_M_startOf_1 rfl rfl ?_
  refine XR.iload_n dd_M_startOf_4 rfl 1 rfl ?_
  refine XR.iald (q0 := 2) (n := 20001) (j := l) (f := f 1) dd_M_startOf_5 rfl (by omega) (by decide) ?_
  refine XR.tp (y := nI (st l)) ((hst l hl).1) ?_
  exact XR.iret dd_M_startOf_6 rfl

set_option maxRecDepth 100000 in
set_option maxHeartbeats 4000000 in
theorem c_M_endOf {G : XG} {q : Nat → Nat} {x : Nat → Int32} {f : Nat → Nat → Int32} {kl : va_W} {len ln : Nat} {st : Nat → Nat} {B : Nat → Int32} (ht : mtx x f len ln st B) {l : Nat} (hl : l < ln) : MR G m_M_endOf (xr 0 0 0) [.ref (q 0), .int (nI l)] (wM G q x f kl) (some (.int (nI (men len st l)))) := by
  obtain ⟨hx0, hl0, hln, hst, hse, hB⟩ := id ht
  have h1 := hse l hl
  have h2 := (hst (l + 1) (by omega)).2
  refine MR.of rfl (xn_le rfl) ?_
  refine (?_ : XR G m_M_endOf (xr 0 0 0) (xr_F (some (.int (nI (men len st l))))) (wM G q x f kl) 0 [(0, .ref (q 0)), (1, .int (nI l))] [])
  refine XR.aload_n dd_M_endOf_0 rfl 0 rfl ?_
  refine XR.get (q0 := 0) (v := .ref (q 2)) fl_M_13 dd_M_endOf_1 rfl rfl ?_
  refine XR.iload_n dd_M_endOf_4 rfl 1 rfl ?_
  refine XR.iconst (v := nI 1) dd_M_endOf_5 (by decide) ?_
  refine XR.iadd dd_M_endOf_6 ?_
  refine XR.tp (y := nI (l + 1)) (nI_add _ _) ?_
  refine XR.iald (q0 := 2) (n := 20001) (j := l + 1) (f := f 1) dd_M_endOf_7 rfl (by omega) (by decide) ?_
  refine XR.tp (y := nI (st (l + 1))) ((hst (l + 1) (by omega)).1) ?_
  refine XR.iconst (v := nI 1) dd_M_endOf_8 (by decide) ?_
  refine XR.isub dd_M_endOf_9 ?_
  refine XR.tp (y := nI (st (l + 1) - 1)) (pk_sub (by omega)) ?_
  refine XR.aload_n dd_M_endOf_10 rfl 0 rfl ?_
  refine XR.get (q0 := 0) (v := .int (x 0)) fl_M_60 dd_M_endOf_11 rfl rfl ?_
  refine XR.tp (y := nI len) (hx0) ?_
  refine XR.ncmp_ge (tgt := 30) dd_M_endOf_14 (by decide) (by omega) (by omega) (fun h14 => ?_) (fun h14 => ?_)
  ·
    refine XR.aload_n dd_M_endOf_30 rfl 0 rfl ?_
    refine XR.get (q0 := 0) (v := .int (x 0)) fl_M_60 dd_M_endOf_31 rfl rfl ?_
    refine XR.tp (y := nI len) (hx0) ?_
    refine XR.tp (y := nI (men len st l)) (by unfold men; split <;> first | rfl | (exfalso; omega)) ?_
    exact XR.iret dd_M_endOf_34 rfl
  ·
    refine XR.aload_n dd_M_endOf_17 rfl 0 rfl ?_
    refine XR.get (q0 := 0) (v := .ref (q 2)) fl_M_13 dd_M_endOf_18 rfl rfl ?_
    refine XR.iload_n dd_M_endOf_21 rfl 1 rfl ?_
    refine XR.iconst (v := nI 1) dd_M_endOf_22 (by decide) ?_
    refine XR.iadd dd_M_endOf_23 ?_
    refine XR.tp (y := nI (l + 1)) (nI_add _ _) ?_
    refine XR.iald (q0 := 2) (n := 20001) (j := l + 1) (f := f 1) dd_M_endOf_24 rfl (by omega) (by decide) ?_
    refine XR.tp (y := nI (st (l + 1))) ((hst (l + 1) (by omega)).1) ?_
    refine XR.iconst (v := nI 1) dd_M_endOf_25 (by decide) ?_
    refine XR.isub dd_M_endOf_26 ?_
    refine XR.tp (y := nI (st (l + 1) - 1)) (pk_sub (by omega)) ?_
    refine XR.goto (tgt := 34) dd_M_endOf_27 (by decide) ?_
    refine XR.tp (y := nI (men len st l)) (by unfold men; split <;> first | rfl | (exfalso; omega)) ?_
    exact XR.iret dd_M_endOf_34 rfl

set_option maxRecDepth 100000 in
set_option maxHeartbeats 4000000 in
theorem c_M_within {G : XG} {ws : va_W} {u v t : Int32} : MR G m_M_within (xr 0 0 0) [.int u, .int v, .int t] (ws) (some (.int (bI (wi u v t)))) := by
  refine MR.of rfl (xn_le rfl) ?_
  refine (?_ : XR G m_M_within (xr 0 0 0) (xr_F (some (.int (bI (wi u v t))))) (ws) 0 [(0, .int u), (1, .int v), (2, .int t)] [])
  refine XR.iload_n dd_M_within_0 rfl 0 rfl ?_
  refine XR.iload_n dd_M_within_1 rfl 1 rfl ?_
  refine XR.icmp_lt (tgt := 14) dd_M_within_2 (by decide) (fun h2 => ?_) (fun h2 => ?_)
  ·
    refine XR.iconst (v := nI 0) dd_M_within_14 (by decide) ?_
    refine XR.tp (y := bI (wi u v t)) (by simp [bI, wi, h2]) ?_
    exact XR.zret dd_M_within_15 rfl (bI_nar _)
  ·
    refine XR.iload_n dd_M_within_5 rfl 0 rfl ?_
    refine XR.iload_n dd_M_within_6 rfl 2 rfl ?_
    refine XR.icmp_gt (tgt := 14) dd_M_within_7 (by decide) (fun h7 => ?_) (fun h7 => ?_)
    ·
      refine XR.iconst (v := nI 0) dd_M_within_14 (by decide) ?_
      refine XR.tp (y := bI (wi u v t)) (by simp [bI, wi, h2, h7]) ?_
      exact XR.zret dd_M_within_15 rfl (bI_nar _)
    ·
      refine XR.iconst (v := nI 1) dd_M_within_10 (by decide) ?_
      refine XR.goto (tgt := 15) dd_M_within_11 (by decide) ?_
      refine XR.tp (y := bI (wi u v t)) (by simp [bI, wi, h2, h7]) ?_
      exact XR.zret dd_M_within_15 rfl (bI_nar _)

set_option maxRecDepth 100000 in
set_option maxHeartbeats 4000000 in
theorem c_S_isWithin {G : XG} {ws : va_W} {u v t : Int32} : MR G m_S_isWithin (xr 0 0 0) [.int u, .int v, .int t] (ws) (some (.int (bI (wi u v t)))) := by
  refine MR.of rfl (xn_le rfl) ?_
  refine (?_ : XR G m_S_isWithin (xr 0 0 0) (xr_F (some (.int (bI (wi u v t))))) (ws) 0 [(0, .int u), (1, .int v), (2, .int t)] [])
  refine XR.iload_n dd_S_isWithin_0 rfl 0 rfl ?_
  refine XR.iload_n dd_S_isWithin_1 rfl 1 rfl ?_
  refine XR.icmp_lt (tgt := 14) dd_S_isWithin_2 (by decide) (fun h2 => ?_) (fun h2 => ?_)
  ·
    refine XR.iconst (v := nI 0) dd_S_isWithin_14 (by decide) ?_
    refine XR.tp (y := bI (wi u v t)) (by simp [bI, wi, h2]) ?_
    exact XR.zret dd_S_isWithin_15 rfl (bI_nar _)
  ·
    refine XR.iload_n dd_S_isWithin_5 rfl 0 rfl ?_
    refine XR.iload_n dd_S_isWithin_6 rfl 2 rfl ?_
    refine XR.icmp_gt (tgt := 14) dd_S_isWithin_7 (by decide) (fun h7 => ?_) (fun h7 => ?_)
    ·
      refine XR.iconst (v := nI 0) dd_S_isWithin_14 (by decide) ?_
      refine XR.tp (y := bI (wi u v t)) (by simp [bI, wi, h2, h7]) ?_
      exact XR.zret dd_S_isWithin_15 rfl (bI_nar _)
    ·
      refine XR.iconst (v := nI 1) dd_S_isWithin_10 (by decide) ?_
      refine XR.goto (tgt := 15) dd_S_isWithin_11 (by decide) ?_
      refine XR.tp (y := bI (wi u v t)) (by simp [bI, wi, h2, h7]) ?_
      exact XR.zret dd_S_isWithin_15 rfl (bI_nar _)

set_option maxRecDepth 100000 in
set_option maxHeartbeats 4000000 in
theorem c_M_keysThere {G : XG} {q : Nat → Nat} {x : Nat → Int32} {f : Nat → Nat → Int32} {kl : va_W} {kc : Nat} {kd : Nat → Nat → Nat} {kg : Nat → Int32} (hk : mky x f kc kd kg)  : MR G m_M_keysThere (xr 0 0 0) [.ref (q 0)] (wM G q x f kl) (some (.int (nI (max 1 kc)))) := by
  have hkc := hk.2.1
  refine MR.of rfl (xn_le rfl) ?_
  refine (?_ : XR G m_M_keysThere (xr 0 0 0) (xr_F (some (.int (nI (max 1 kc))))) (wM G q x f kl) 0 [(0, .ref (q 0))] [])
  refine XR.aload_n dd_M_keysThere_0 rfl 0 rfl ?_
  refine XR.get (q0 := 0) (v := .int (x 7)) fl_M_94 dd_M_keysThere_1 rfl rfl ?_
  refine XR.tp (y := nI kc) (hk.1) ?_
  refine XR.nif_ne (tgt := 11) dd_M_keysThere_4 (by decide) (by omega) (fun h4 => ?_) (fun h4 => ?_)
  ·
    refine XR.aload_n dd_M_keysThere_11 rfl 0 rfl ?_
    refine XR.get (q0 := 0) (v := .int (x 7)) fl_M_94 dd_M_keysThere_12 rfl rfl ?_
    refine XR.tp (y := nI kc) (hk.1) ?_
    refine XR.tp (y := nI (max 1 kc)) (by congr 1; omega) ?_
    exact XR.iret dd_M_keysThere_15 rfl
  ·
    refine XR.iconst (v := nI 1) dd_M_keysThere_7 (by decide) ?_
    refine XR.goto (tgt := 15) dd_M_keysThere_8 (by decide) ?_
    refine XR.tp (y := nI (max 1 kc)) (by congr 1; omega) ?_
    exact XR.iret dd_M_keysThere_15 rfl

set_option maxRecDepth 100000 in
set_option maxHeartbeats 4000000 in
theorem c_M_keyOf0 {G : XG} {q : Nat → Nat} {x : Nat → Int32} {f : Nat → Nat → Int32} {kl : va_W} {kc : Nat} {kd : Nat → Nat → Nat} {kg : Nat → Int32} {all : Int32} (hk : mky x f kc kd kg) (hx3 : x 3 = all) {k : Nat} (hkk : k < max 1 kc) : MR G m_M_keyOf (xr 0 0 0) [.ref (q 0), .int (nI k), .int (nI 0)] (wM G q x f kl) (some (.int (nI (kdu kc kd k 0)))) := by
  have hkc := hk.2.1
  refine MR.of rfl (xn_le rfl) ?_
  refine (?_ : XR G m_M_keyOf (xr 0 0 0) (xr_F (some (.int (nI (kdu kc kd k 0))))) (wM G q x f kl) 0 [(0, .ref (q 0)), (1, .int (nI k)), (2, .int (nI 0))] [])
  refine XR.aload_n dd_M_keyOf_0 rfl 0 rfl ?_
  refine XR.get (q0 := 0) (v := .int (x 7)) fl_M_94 dd_M_keyOf_1 rfl rfl ?_
  refine XR.tp (y := nI kc) (hk.1) ?_
  refine XR.nif_ne (tgt := 30) dd_M_keyOf_4 (by decide) (by omega) (fun h4 => ?_) (fun h4 => ?_)
  ·
    refine XR.aload_n dd_M_keyOf_30 rfl 0 rfl ?_
    refine XR.get (q0 := 0) (v := .ref (q 3)) fl_M_21 dd_M_keyOf_31 rfl rfl ?_
    refine XR.iconst (v := nI 5) dd_M_keyOf_34 (by decide) ?_
    refine XR.iload_n dd_M_keyOf_35 rfl 1 rfl ?_
    refine XR.imul dd_M_keyOf_36 ?_
    refine XR.tp (y := nI (5 * k)) (pk_mul _ _) ?_
    refine XR.iload_n dd_M_keyOf_37 rfl 2 rfl ?_
    refine XR.iadd dd_M_keyOf_38 ?_
    refine XR.tp (y := nI (5 * k + 0)) (nI_add _ _) ?_
    refine XR.iald (q0 := 3) (n := 30) (j := 5 * k + 0) (f := f 2) dd_M_keyOf_39 rfl (by omega) (by decide) ?_
    refine XR.tp (y := nI (kd k 0)) ((hk.2.2 k (by omega)).1 0 (by omega)) ?_
    refine XR.istore_n (lv2 := [(3, .int (nI (kd k 0))), (0, .ref (q 0)), (1, .int (nI k)), (2, .int (nI 0))]) dd_M_keyOf_40 rfl (by decide) rfl ?_
    refine XR.iload_n dd_M_keyOf_41 rfl 3 rfl ?_
    refine XR.iconst (v := nI 4) dd_M_keyOf_42 (by decide) ?_
    refine XR.ncmp_ne (tgt := 57) dd_M_keyOf_43 (by decide) (by omega) (by omega) (fun h43 => ?_) (fun h43 => ?_)
    ·
      refine XR.iload_n dd_M_keyOf_57 rfl 0 rfl ?_
      refine XR.tp (y := nI (kdu kc kd k 0)) (by rw [kdu, if_pos (by omega)]) ?_
      exact XR.iret dd_M_keyOf_58 rfl
    ·
      exact absurd h43 (by decide)
  ·
    refine XR.iload_n dd_M_keyOf_7 rfl 2 rfl ?_
    refine XR.iconst (v := nI 2) dd_M_keyOf_8 (by decide) ?_
    refine XR.ncmp_ge (tgt := 16) dd_M_keyOf_9 (by decide) (by omega) (by omega) (fun h9 => ?_) (fun h9 => ?_)
    ·
      exact absurd h9 (by decide)
    ·
      refine XR.iconst (v := nI 1) dd_M_keyOf_12 (by decide) ?_
      refine XR.goto (tgt := 29) dd_M_keyOf_13 (by decide) ?_
      refine XR.tp (y := nI (kdu kc kd k 0)) (by rw [kdu, if_neg (by omega)]; rfl) ?_
      exact XR.iret dd_M_keyOf_29 rfl

set_option maxRecDepth 100000 in
set_option maxHeartbeats 4000000 in
theorem c_M_keyOf1 {G : XG} {q : Nat → Nat} {x : Nat → Int32} {f : Nat → Nat → Int32} {kl : va_W} {kc : Nat} {kd : Nat → Nat → Nat} {kg : Nat → Int32} {all : Int32} (hk : mky x f kc kd kg) (hx3 : x 3 = all) {k : Nat} (hkk : k < max 1 kc) : MR G m_M_keyOf (xr 0 0 0) [.ref (q 0), .int (nI k), .int (nI 1)] (wM G q x f kl) (some (.int (nI (kdu kc kd k 1)))) := by
  have hkc := hk.2.1
  refine MR.of rfl (xn_le rfl) ?_
  refine (?_ : XR G m_M_keyOf (xr 0 0 0) (xr_F (some (.int (nI (kdu kc kd k 1))))) (wM G q x f kl) 0 [(0, .ref (q 0)), (1, .int (nI k)), (2, .int (nI 1))] [])
  refine XR.aload_n dd_M_keyOf_0 rfl 0 rfl ?_
  refine XR.get (q0 := 0) (v := .int (x 7)) fl_M_94 dd_M_keyOf_1 rfl rfl ?_
  refine XR.tp (y := nI kc) (hk.1) ?_
  refine XR.nif_ne (tgt := 30) dd_M_keyOf_4 (by decide) (by omega) (fun h4 => ?_) (fun h4 => ?_)
  ·
    refine XR.aload_n dd_M_keyOf_30 rfl 0 rfl ?_
    refine XR.get (q0 := 0) (v := .ref (q 3)) fl_M_21 dd_M_keyOf_31 rfl rfl ?_
    refine XR.iconst (v := nI 5) dd_M_keyOf_34 (by decide) ?_
    refine XR.iload_n dd_M_keyOf_35 rfl 1 rfl ?_
    refine XR.imul dd_M_keyOf_36 ?_
    refine XR.tp (y := nI (5 * k)) (pk_mul _ _) ?_
    refine XR.iload_n dd_M_keyOf_37 rfl 2 rfl ?_
    refine XR.iadd dd_M_keyOf_38 ?_
    refine XR.tp (y := nI (5 * k + 1)) (nI_add _ _) ?_
    refine XR.iald (q0 := 3) (n := 30) (j := 5 * k + 1) (f := f 2) dd_M_keyOf_39 rfl (by omega) (by decide) ?_
    refine XR.tp (y := nI (kd k 1)) ((hk.2.2 k (by omega)).1 1 (by omega)) ?_
    refine XR.istore_n (lv2 := [(3, .int (nI (kd k 1))), (0, .ref (q 0)), (1, .int (nI k)), (2, .int (nI 1))]) dd_M_keyOf_40 rfl (by decide) rfl ?_
    refine XR.iload_n dd_M_keyOf_41 rfl 3 rfl ?_
    refine XR.iconst (v := nI 4) dd_M_keyOf_42 (by decide) ?_
    refine XR.ncmp_ne (tgt := 57) dd_M_keyOf_43 (by decide) (by omega) (by omega) (fun h43 => ?_) (fun h43 => ?_)
    ·
      refine XR.iload_n dd_M_keyOf_57 rfl 0 rfl ?_
      refine XR.tp (y := nI (kdu kc kd k 1)) (by rw [kdu, if_pos (by omega)]) ?_
      exact XR.iret dd_M_keyOf_58 rfl
    ·
      exact absurd h43 (by decide)
  ·
    refine XR.iload_n dd_M_keyOf_7 rfl 2 rfl ?_
    refine XR.iconst (v := nI 2) dd_M_keyOf_8 (by decide) ?_
    refine XR.ncmp_ge (tgt := 16) dd_M_keyOf_9 (by decide) (by omega) (by omega) (fun h9 => ?_) (fun h9 => ?_)
    ·
      exact absurd h9 (by decide)
    ·
      refine XR.iconst (v := nI 1) dd_M_keyOf_12 (by decide) ?_
      refine XR.goto (tgt := 29) dd_M_keyOf_13 (by decide) ?_
      refine XR.tp (y := nI (kdu kc kd k 1)) (by rw [kdu, if_neg (by omega)]; rfl) ?_
      exact XR.iret dd_M_keyOf_29 rfl

set_option maxRecDepth 100000 in
set_option maxHeartbeats 4000000 in
theorem c_M_keyOf2 {G : XG} {q : Nat → Nat} {x : Nat → Int32} {f : Nat → Nat → Int32} {kl : va_W} {kc : Nat} {kd : Nat → Nat → Nat} {kg : Nat → Int32} {all : Int32} (hk : mky x f kc kd kg) (hx3 : x 3 = all) {k : Nat} (hkk : k < max 1 kc) : MR G m_M_keyOf (xr 0 0 0) [.ref (q 0), .int (nI k), .int (nI 2)] (wM G q x f kl) (some (.int (nI (kdu kc kd k 2)))) := by
  have hkc := hk.2.1
  refine MR.of rfl (xn_le rfl) ?_
  refine (?_ : XR G m_M_keyOf (xr 0 0 0) (xr_F (some (.int (nI (kdu kc kd k 2))))) (wM G q x f kl) 0 [(0, .ref (q 0)), (1, .int (nI k)), (2, .int (nI 2))] [])
  refine XR.aload_n dd_M_keyOf_0 rfl 0 rfl ?_
  refine XR.get (q0 := 0) (v := .int (x 7)) fl_M_94 dd_M_keyOf_1 rfl rfl ?_
  refine XR.tp (y := nI kc) (hk.1) ?_
  refine XR.nif_ne (tgt := 30) dd_M_keyOf_4 (by decide) (by omega) (fun h4 => ?_) (fun h4 => ?_)
  ·
    refine XR.aload_n dd_M_keyOf_30 rfl 0 rfl ?_
    refine XR.get (q0 := 0) (v := .ref (q 3)) fl_M_21 dd_M_keyOf_31 rfl rfl ?_
    refine XR.iconst (v := nI 5) dd_M_keyOf_34 (by decide) ?_
    refine XR.iload_n dd_M_keyOf_35 rfl 1 rfl ?_
    refine XR.imul dd_M_keyOf_36 ?_
    refine XR.tp (y := nI (5 * k)) (pk_mul _ _) ?_
    refine XR.iload_n dd_M_keyOf_37 rfl 2 rfl ?_
    refine XR.iadd dd_M_keyOf_38 ?_
    refine XR.tp (y := nI (5 * k + 2)) (nI_add _ _) ?_
    refine XR.iald (q0 := 3) (n := 30) (j := 5 * k + 2) (f := f 2) dd_M_keyOf_39 rfl (by omega) (by decide) ?_
    refine XR.tp (y := nI (kd k 2)) ((hk.2.2 k (by omega)).1 2 (by omega)) ?_
    refine XR.istore_n (lv2 := [(3, .int (nI (kd k 2))), (0, .ref (q 0)), (1, .int (nI k)), (2, .int (nI 2))]) dd_M_keyOf_40 rfl (by decide) rfl ?_
    refine XR.iload_n dd_M_keyOf_41 rfl 3 rfl ?_
    refine XR.iconst (v := nI 4) dd_M_keyOf_42 (by decide) ?_
    refine XR.ncmp_ne (tgt := 57) dd_M_keyOf_43 (by decide) (by omega) (by omega) (fun h43 => ?_) (fun h43 => ?_)
    ·
      refine XR.iload_n dd_M_keyOf_57 rfl 0 rfl ?_
      refine XR.tp (y := nI (kdu kc kd k 2)) (by rw [kdu, if_pos (by omega)]) ?_
      exact XR.iret dd_M_keyOf_58 rfl
    ·
      exact absurd h43 (by decide)
  ·
    refine XR.iload_n dd_M_keyOf_7 rfl 2 rfl ?_
    refine XR.iconst (v := nI 2) dd_M_keyOf_8 (by decide) ?_
    refine XR.ncmp_ge (tgt := 16) dd_M_keyOf_9 (by decide) (by omega) (by omega) (fun h9 => ?_) (fun h9 => ?_)
    ·
      refine XR.iload_n dd_M_keyOf_16 rfl 2 rfl ?_
      refine XR.iconst (v := nI 4) dd_M_keyOf_17 (by decide) ?_
      refine XR.ncmp_ne (tgt := 28) dd_M_keyOf_18 (by decide) (by omega) (by omega) (fun h18 => ?_) (fun h18 => ?_)
      ·
        refine XR.iconst (v := nI 0) dd_M_keyOf_28 (by decide) ?_
        refine XR.tp (y := nI (kdu kc kd k 2)) (by rw [kdu, if_neg (by omega)]; rfl) ?_
        exact XR.iret dd_M_keyOf_29 rfl
      ·
        exact absurd h18 (by decide)
    ·
      exact absurd h9 (by decide)

set_option maxRecDepth 100000 in
set_option maxHeartbeats 4000000 in
theorem c_M_keyOf3 {G : XG} {q : Nat → Nat} {x : Nat → Int32} {f : Nat → Nat → Int32} {kl : va_W} {kc : Nat} {kd : Nat → Nat → Nat} {kg : Nat → Int32} {all : Int32} (hk : mky x f kc kd kg) (hx3 : x 3 = all) {k : Nat} (hkk : k < max 1 kc) : MR G m_M_keyOf (xr 0 0 0) [.ref (q 0), .int (nI k), .int (nI 3)] (wM G q x f kl) (some (.int (nI (kdu kc kd k 3)))) := by
  have hkc := hk.2.1
  refine MR.of rfl (xn_le rfl) ?_
  refine (?_ : XR G m_M_keyOf (xr 0 0 0) (xr_F (some (.int (nI (kdu kc kd k 3))))) (wM G q x f kl) 0 [(0, .ref (q 0)), (1, .int (nI k)), (2, .int (nI 3))] [])
  refine XR.aload_n dd_M_keyOf_0 rfl 0 rfl ?_
  refine XR.get (q0 := 0) (v := .int (x 7)) fl_M_94 dd_M_keyOf_1 rfl rfl ?_
  refine XR.tp (y := nI kc) (hk.1) ?_
  refine XR.nif_ne (tgt := 30) dd_M_keyOf_4 (by decide) (by omega) (fun h4 => ?_) (fun h4 => ?_)
  ·
    refine XR.aload_n dd_M_keyOf_30 rfl 0 rfl ?_
    refine XR.get (q0 := 0) (v := .ref (q 3)) fl_M_21 dd_M_keyOf_31 rfl rfl ?_
    refine XR.iconst (v := nI 5) dd_M_keyOf_34 (by decide) ?_
    refine XR.iload_n dd_M_keyOf_35 rfl 1 rfl ?_
    refine XR.imul dd_M_keyOf_36 ?_
    refine XR.tp (y := nI (5 * k)) (pk_mul _ _) ?_
    refine XR.iload_n dd_M_keyOf_37 rfl 2 rfl ?_
    refine XR.iadd dd_M_keyOf_38 ?_
    refine XR.tp (y := nI (5 * k + 3)) (nI_add _ _) ?_
    refine XR.iald (q0 := 3) (n := 30) (j := 5 * k + 3) (f := f 2) dd_M_keyOf_39 rfl (by omega) (by decide) ?_
    refine XR.tp (y := nI (kd k 3)) ((hk.2.2 k (by omega)).1 3 (by omega)) ?_
    refine XR.istore_n (lv2 := [(3, .int (nI (kd k 3))), (0, .ref (q 0)), (1, .int (nI k)), (2, .int (nI 3))]) dd_M_keyOf_40 rfl (by decide) rfl ?_
    refine XR.iload_n dd_M_keyOf_41 rfl 3 rfl ?_
    refine XR.iconst (v := nI 4) dd_M_keyOf_42 (by decide) ?_
    refine XR.ncmp_ne (tgt := 57) dd_M_keyOf_43 (by decide) (by omega) (by omega) (fun h43 => ?_) (fun h43 => ?_)
    ·
      refine XR.iload_n dd_M_keyOf_57 rfl 0 rfl ?_
      refine XR.tp (y := nI (kdu kc kd k 3)) (by rw [kdu, if_pos (by omega)]) ?_
      exact XR.iret dd_M_keyOf_58 rfl
    ·
      exact absurd h43 (by decide)
  ·
    refine XR.iload_n dd_M_keyOf_7 rfl 2 rfl ?_
    refine XR.iconst (v := nI 2) dd_M_keyOf_8 (by decide) ?_
    refine XR.ncmp_ge (tgt := 16) dd_M_keyOf_9 (by decide) (by omega) (by omega) (fun h9 => ?_) (fun h9 => ?_)
    ·
      refine XR.iload_n dd_M_keyOf_16 rfl 2 rfl ?_
      refine XR.iconst (v := nI 4) dd_M_keyOf_17 (by decide) ?_
      refine XR.ncmp_ne (tgt := 28) dd_M_keyOf_18 (by decide) (by omega) (by omega) (fun h18 => ?_) (fun h18 => ?_)
      ·
        refine XR.iconst (v := nI 0) dd_M_keyOf_28 (by decide) ?_
        refine XR.tp (y := nI (kdu kc kd k 3)) (by rw [kdu, if_neg (by omega)]; rfl) ?_
        exact XR.iret dd_M_keyOf_29 rfl
      ·
        exact absurd h18 (by decide)
    ·
      exact absurd h9 (by decide)

set_option maxRecDepth 100000 in
set_option maxHeartbeats 4000000 in
theorem c_M_keyOf4 {G : XG} {q : Nat → Nat} {x : Nat → Int32} {f : Nat → Nat → Int32} {kl : va_W} {kc : Nat} {kd : Nat → Nat → Nat} {kg : Nat → Int32} {all : Int32} (hk : mky x f kc kd kg) (hx3 : x 3 = all) {k : Nat} (hkk : k < max 1 kc) : MR G m_M_keyOf (xr 0 0 0) [.ref (q 0), .int (nI k), .int (nI 4)] (wM G q x f kl) (some (.int (ky_fl (kgu kc kg k) all))) := by
  have hkc := hk.2.1
  refine MR.of rfl (xn_le rfl) ?_
  refine (?_ : XR G m_M_keyOf (xr 0 0 0) (xr_F (some (.int (ky_fl (kgu kc kg k) all)))) (wM G q x f kl) 0 [(0, .ref (q 0)), (1, .int (nI k)), (2, .int (nI 4))] [])
  refine XR.aload_n dd_M_keyOf_0 rfl 0 rfl ?_
  refine XR.get (q0 := 0) (v := .int (x 7)) fl_M_94 dd_M_keyOf_1 rfl rfl ?_
  refine XR.tp (y := nI kc) (hk.1) ?_
  refine XR.nif_ne (tgt := 30) dd_M_keyOf_4 (by decide) (by omega) (fun h4 => ?_) (fun h4 => ?_)
  ·
    refine XR.aload_n dd_M_keyOf_30 rfl 0 rfl ?_
    refine XR.get (q0 := 0) (v := .ref (q 3)) fl_M_21 dd_M_keyOf_31 rfl rfl ?_
    refine XR.iconst (v := nI 5) dd_M_keyOf_34 (by decide) ?_
    refine XR.iload_n dd_M_keyOf_35 rfl 1 rfl ?_
    refine XR.imul dd_M_keyOf_36 ?_
    refine XR.tp (y := nI (5 * k)) (pk_mul _ _) ?_
    refine XR.iload_n dd_M_keyOf_37 rfl 2 rfl ?_
    refine XR.iadd dd_M_keyOf_38 ?_
    refine XR.tp (y := nI (5 * k + 4)) (nI_add _ _) ?_
    refine XR.iald (q0 := 3) (n := 30) (j := 5 * k + 4) (f := f 2) dd_M_keyOf_39 rfl (by omega) (by decide) ?_
    refine XR.tp (y := kg k) ((hk.2.2 k (by omega)).2.1) ?_
    refine XR.istore_n (lv2 := [(3, .int (kg k)), (0, .ref (q 0)), (1, .int (nI k)), (2, .int (nI 4))]) dd_M_keyOf_40 rfl (by decide) rfl ?_
    refine XR.iload_n dd_M_keyOf_41 rfl 3 rfl ?_
    refine XR.iconst (v := nI 4) dd_M_keyOf_42 (by decide) ?_
    refine XR.ncmp_ne (tgt := 57) dd_M_keyOf_43 (by decide) (by omega) (by omega) (fun h43 => ?_) (fun h43 => ?_)
    ·
      exact absurd h43 (by decide)
    ·
      refine XR.iload_n dd_M_keyOf_46 rfl 0 rfl ?_
      refine XR.if_ne (tgt := 57) dd_M_keyOf_47 (by decide) (fun h47 => ?_) (fun h47 => ?_)
      ·
        refine XR.iload_n dd_M_keyOf_57 rfl 0 rfl ?_
        refine XR.tp (y := ky_fl (kgu kc kg k) all) (by rw [kgu, if_pos (by omega), ky_fl]; rw [if_neg h47]) ?_
        exact XR.iret dd_M_keyOf_58 rfl
      ·
        refine XR.aload_n dd_M_keyOf_50 rfl 1 rfl ?_
        refine XR.get (q0 := 0) (v := .int (x 3)) fl_M_85 dd_M_keyOf_51 rfl rfl ?_
        refine XR.tp (y := all) (hx3) ?_
        refine XR.goto (tgt := 58) dd_M_keyOf_54 (by decide) ?_
        refine XR.tp (y := ky_fl (kgu kc kg k) all) (by rw [kgu, if_pos (by omega), ky_fl]; rw [if_pos h47]) ?_
        exact XR.iret dd_M_keyOf_58 rfl
  ·
    refine XR.iload_n dd_M_keyOf_7 rfl 2 rfl ?_
    refine XR.iconst (v := nI 2) dd_M_keyOf_8 (by decide) ?_
    refine XR.ncmp_ge (tgt := 16) dd_M_keyOf_9 (by decide) (by omega) (by omega) (fun h9 => ?_) (fun h9 => ?_)
    ·
      refine XR.iload_n dd_M_keyOf_16 rfl 2 rfl ?_
      refine XR.iconst (v := nI 4) dd_M_keyOf_17 (by decide) ?_
      refine XR.ncmp_ne (tgt := 28) dd_M_keyOf_18 (by decide) (by omega) (by omega) (fun h18 => ?_) (fun h18 => ?_)
      ·
        exact absurd h18 (by decide)
      ·
        refine XR.aload_n dd_M_keyOf_21 rfl 0 rfl ?_
        refine XR.get (q0 := 0) (v := .int (x 3)) fl_M_85 dd_M_keyOf_22 rfl rfl ?_
        refine XR.tp (y := all) (hx3) ?_
        refine XR.goto (tgt := 29) dd_M_keyOf_25 (by decide) ?_
        refine XR.tp (y := ky_fl (kgu kc kg k) all) (by rw [kgu, if_neg (by omega), ky_fl, if_pos (by decide)]) ?_
        exact XR.iret dd_M_keyOf_29 rfl
    ·
      exact absurd h9 (by decide)

set_option maxRecDepth 100000 in
set_option maxHeartbeats 4000000 in
theorem c_M_isBlank {G : XG} {q : Nat → Nat} {x : Nat → Int32} {f : Nat → Nat → Int32} {kl : va_W} {len ln : Nat} {st : Nat → Nat} {B : Nat → Int32} (ht : mtx x f len ln st B) {i : Nat} (hi : i < len) : MR G m_M_isBlank (xr 0 0 0) [.ref (q 0), .int (nI i)] (wM G q x f kl) (some (.int (bI (pb_blk B i)))) := by
  obtain ⟨hx0, hl0, hln, hst, hse, hB⟩ := id ht
  refine MR.of rfl (xn_le rfl) ?_
  refine (?_ : XR G m_M_isBlank (xr 0 0 0) (xr_F (some (.int (bI (pb_blk B i))))) (wM G q x f kl) 0 [(0, .ref (q 0)), (1, .int (nI i))] [])
  refine XR.aload_n dd_M_isBlank_0 rfl 0 rfl ?_
  refine XR.get (q0 := 0) (v := .ref (q 1)) fl_M_7 dd_M_isBlank_1 rfl rfl ?_
  refine XR.iload_n dd_M_isBlank_4 rfl 1 rfl ?_
  refine XR.bald (q0 := 1) (n := 20000) (j := i) (f := f 0) dd_M_isBlank_5 rfl (by omega) (by decide) ?_
  refine XR.tp (y := B i) (hB _ (by omega)) ?_
  refine XR.bipush (v := nI 32) dd_M_isBlank_6 (by decide) ?_
  refine XR.icmp_eq (tgt := 22) dd_M_isBlank_8 (by decide) (fun h8 => ?_) (fun h8 => ?_)
  ·
    refine XR.iconst (v := nI 1) dd_M_isBlank_22 (by decide) ?_
    refine XR.goto (tgt := 27) dd_M_isBlank_23 (by decide) ?_
    refine XR.tp (y := bI (pb_blk B i)) (by simp [bI, pb_blk, h8]) ?_
    exact XR.zret dd_M_isBlank_27 rfl (bI_nar _)
  ·
    refine XR.aload_n dd_M_isBlank_11 rfl 0 rfl ?_
    refine XR.get (q0 := 0) (v := .ref (q 1)) fl_M_7 dd_M_isBlank_12 rfl rfl ?_
    refine XR.iload_n dd_M_isBlank_15 rfl 1 rfl ?_
    refine XR.bald (q0 := 1) (n := 20000) (j := i) (f := f 0) dd_M_isBlank_16 rfl (by omega) (by decide) ?_
    refine XR.tp (y := B i) (hB _ (by omega)) ?_
    refine XR.bipush (v := nI 9) dd_M_isBlank_17 (by decide) ?_
    refine XR.icmp_ne (tgt := 26) dd_M_isBlank_19 (by decide) (fun h19 => ?_) (fun h19 => ?_)
    ·
      refine XR.iconst (v := nI 0) dd_M_isBlank_26 (by decide) ?_
      refine XR.tp (y := bI (pb_blk B i)) (by simp [bI, pb_blk, h8, h19]) ?_
      exact XR.zret dd_M_isBlank_27 rfl (bI_nar _)
    ·
      refine XR.iconst (v := nI 1) dd_M_isBlank_22 (by decide) ?_
      refine XR.goto (tgt := 27) dd_M_isBlank_23 (by decide) ?_
      refine XR.tp (y := bI (pb_blk B i)) (by simp [bI, pb_blk, h8, h19]) ?_
      exact XR.zret dd_M_isBlank_27 rfl (bI_nar _)

def mc_plain (v : Int32) : Bool := decide (v = nI 32) || decide (v = nI 9) || wi v (nI 48) (nI 57) || wi v (nI 97) (nI 122) || wi v (nI 65) (nI 90)
def mc_t (v fl : Int32) : Bool := (decide (fl &&& nI 2 = 0) || mc_plain v) && (decide (fl &&& nI 8 = 0) || wi v (nI 32) (nI 126))
def mf_t (v fl : Int32) : Int32 := if 0 < fl &&& nI 4 ∧ wi v (nI 97) (nI 122) = true then v - nI 32 else v
set_option maxRecDepth 100000 in
set_option maxHeartbeats 4000000 in
theorem c_M_counts {G : XG} {q : Nat → Nat} {x : Nat → Int32} {f : Nat → Nat → Int32} {kl : va_W} {len ln : Nat} {st : Nat → Nat} {B : Nat → Int32} (ht : mtx x f len ln st B) {i : Nat} {fl : Int32} (hi : i < len) : MR G m_M_counts (xr 1 0 0) [.ref (q 0), .int (nI i), .int fl] (wM G q x f kl) (some (.int (bI (mc_t (B i &&& nI 255) fl)))) := by
  obtain ⟨hx0, hl0, hln, hst, hse, hB⟩ := id ht
  refine MR.of rfl (xn_le rfl) ?_
  refine (?_ : XR G m_M_counts (xr 1 0 0) (xr_F (some (.int (bI (mc_t (B i &&& nI 255) fl))))) (wM G q x f kl) 0 [(0, .ref (q 0)), (1, .int (nI i)), (2, .int fl)] [])
  refine XR.aload_n dd_M_counts_0 rfl 0 rfl ?_
  refine XR.get (q0 := 0) (v := .ref (q 1)) fl_M_7 dd_M_counts_1 rfl rfl ?_
  refine XR.iload_n dd_M_counts_4 rfl 1 rfl ?_
  refine XR.bald (q0 := 1) (n := 20000) (j := i) (f := f 0) dd_M_counts_5 rfl (by omega) (by decide) ?_
  refine XR.tp (y := B i) (hB _ (by omega)) ?_
  refine XR.sipush (v := nI 255) dd_M_counts_6 (by decide) ?_
  refine XR.iand dd_M_counts_9 ?_
  refine XR.istore_n (lv2 := [(3, .int ((B i) &&& (nI 255))), (0, .ref (q 0)), (1, .int (nI i)), (2, .int fl)]) dd_M_counts_10 rfl (by decide) rfl ?_
  have j61 : XR G m_M_counts (xr 1 0 0) (xr_F (some (.int (bI (mc_t (B i &&& nI 255) fl))))) (wM G q x f kl) 61 [(3, .int ((B i) &&& (nI 255))), (0, .ref (q 0)), (1, .int (nI i)), (2, .int fl)] [.int (bI (mc_plain (B i &&& nI 255)))] := by
    refine XR.istore (lv2 := [(4, .int (bI (mc_plain (B i &&& nI 255)))), (3, .int ((B i) &&& (nI 255))), (0, .ref (q 0)), (1, .int (nI i)), (2, .int fl)]) dd_M_counts_61 (by decide) rfl ?_
    refine XR.iload_n dd_M_counts_63 rfl 4 rfl ?_
    refine XR.iconst (v := nI 2) dd_M_counts_64 (by decide) ?_
    refine XR.iand dd_M_counts_65 ?_
    refine XR.if_eq (tgt := 74) dd_M_counts_66 (by decide) (fun h66 => ?_) (fun h66 => ?_)
    ·
      refine XR.iload_n dd_M_counts_74 rfl 4 rfl ?_
      refine XR.bipush (v := nI 8) dd_M_counts_75 (by decide) ?_
      refine XR.iand dd_M_counts_77 ?_
      refine XR.if_eq (tgt := 92) dd_M_counts_78 (by decide) (fun h78 => ?_) (fun h78 => ?_)
      ·
        refine XR.iconst (v := nI 1) dd_M_counts_92 (by decide) ?_
        refine XR.goto (tgt := 97) dd_M_counts_93 (by decide) ?_
        refine XR.tp (y := bI (mc_t (B i &&& nI 255) fl)) (by simp [bI, mc_t, h66, h78]) ?_
        exact XR.zret dd_M_counts_97 rfl (bI_nar _)
      ·
        refine XR.iload_n dd_M_counts_81 rfl 1 rfl ?_
        refine XR.bipush (v := nI 32) dd_M_counts_82 (by decide) ?_
        refine XR.bipush (v := nI 126) dd_M_counts_84 (by decide) ?_
        refine XR.callS (Mk := m_M_within) (n := 3) (As := [.int ((B i) &&& (nI 255)), .int (nI 32), .int (nI 126)]) (rest := []) (c_M_within) mt_M_within ms_M_within ml_M_81 rfl dd_M_counts_86 ⟨xn_le rfl, xn_le rfl⟩ (xn_le rfl) rfl ?_
        refine XR.bif_eq (tgt := 96) dd_M_counts_89 (by decide) (fun h89 => ?_) (fun h89 => ?_)
        ·
          refine XR.iconst (v := nI 0) dd_M_counts_96 (by decide) ?_
          refine XR.tp (y := bI (mc_t (B i &&& nI 255) fl)) (by simp [bI, mc_t, h66, h78, h89]) ?_
          exact XR.zret dd_M_counts_97 rfl (bI_nar _)
        ·
          refine XR.iconst (v := nI 1) dd_M_counts_92 (by decide) ?_
          refine XR.goto (tgt := 97) dd_M_counts_93 (by decide) ?_
          refine XR.tp (y := bI (mc_t (B i &&& nI 255) fl)) (by simp [bI, mc_t, h66, h78, h89]) ?_
          exact XR.zret dd_M_counts_97 rfl (bI_nar _)
    ·
      refine XR.iload dd_M_counts_69 0 rfl ?_
      refine XR.bif_eq (tgt := 96) dd_M_counts_71 (by decide) (fun h71 => ?_) (fun h71 => ?_)
      ·
        refine XR.iconst (v := nI 0) dd_M_counts_96 (by decide) ?_
        refine XR.tp (y := bI (mc_t (B i &&& nI 255) fl)) (by simp [bI, mc_t, h66, h71]) ?_
        exact XR.zret dd_M_counts_97 rfl (bI_nar _)
      ·
        refine XR.iload_n dd_M_counts_74 rfl 4 rfl ?_
        refine XR.bipush (v := nI 8) dd_M_counts_75 (by decide) ?_
        refine XR.iand dd_M_counts_77 ?_
        refine XR.if_eq (tgt := 92) dd_M_counts_78 (by decide) (fun h78 => ?_) (fun h78 => ?_)
        ·
          refine XR.iconst (v := nI 1) dd_M_counts_92 (by decide) ?_
          refine XR.goto (tgt := 97) dd_M_counts_93 (by decide) ?_
          refine XR.tp (y := bI (mc_t (B i &&& nI 255) fl)) (by simp [bI, mc_t, h66, h71, h78]) ?_
          exact XR.zret dd_M_counts_97 rfl (bI_nar _)
        ·
          refine XR.iload_n dd_M_counts_81 rfl 1 rfl ?_
          refine XR.bipush (v := nI 32) dd_M_counts_82 (by decide) ?_
          refine XR.bipush (v := nI 126) dd_M_counts_84 (by decide) ?_
          refine XR.callS (Mk := m_M_within) (n := 3) (As := [.int ((B i) &&& (nI 255)), .int (nI 32), .int (nI 126)]) (rest := []) (c_M_within) mt_M_within ms_M_within ml_M_81 rfl dd_M_counts_86 ⟨xn_le rfl, xn_le rfl⟩ (xn_le rfl) rfl ?_
          refine XR.bif_eq (tgt := 96) dd_M_counts_89 (by decide) (fun h89 => ?_) (fun h89 => ?_)
          ·
            refine XR.iconst (v := nI 0) dd_M_counts_96 (by decide) ?_
            refine XR.tp (y := bI (mc_t (B i &&& nI 255) fl)) (by simp [bI, mc_t, h66, h71, h78, h89]) ?_
            exact XR.zret dd_M_counts_97 rfl (bI_nar _)
          ·
            refine XR.iconst (v := nI 1) dd_M_counts_92 (by decide) ?_
            refine XR.goto (tgt := 97) dd_M_counts_93 (by decide) ?_
            refine XR.tp (y := bI (mc_t (B i &&& nI 255) fl)) (by simp [bI, mc_t, h66, h71, h78, h89]) ?_
            exact XR.zret dd_M_counts_97 rfl (bI_nar _)
  refine XR.iload_n dd_M_counts_11 rfl 0 rfl ?_
  refine XR.bipush (v := nI 32) dd_M_counts_12 (by decide) ?_
  refine XR.icmp_eq (tgt := 56) dd_M_counts_14 (by decide) (fun h14 => ?_) (fun h14 => ?_)
  ·
    refine XR.iconst (v := nI 1) dd_M_counts_56 (by decide) ?_
    refine XR.goto (tgt := 61) dd_M_counts_57 (by decide) ?_
    exact XR.tp (by first | (simp [bI, mc_plain, h14]; done) | (simp [bI, mc_plain, h14]; intros; exfalso; omega)) j61
  ·
    refine XR.iload_n dd_M_counts_17 rfl 0 rfl ?_
    refine XR.bipush (v := nI 9) dd_M_counts_18 (by decide) ?_
    refine XR.icmp_eq (tgt := 56) dd_M_counts_20 (by decide) (fun h20 => ?_) (fun h20 => ?_)
    ·
      refine XR.iconst (v := nI 1) dd_M_counts_56 (by decide) ?_
      refine XR.goto (tgt := 61) dd_M_counts_57 (by decide) ?_
      exact XR.tp (by first | (simp [bI, mc_plain, h14, h20]; done) | (simp [bI, mc_plain, h14, h20]; intros; exfalso; omega)) j61
    ·
      refine XR.iload_n dd_M_counts_23 rfl 0 rfl ?_
      refine XR.bipush (v := nI 48) dd_M_counts_24 (by decide) ?_
      refine XR.bipush (v := nI 57) dd_M_counts_26 (by decide) ?_
      refine XR.callS (Mk := m_M_within) (n := 3) (As := [.int ((B i) &&& (nI 255)), .int (nI 48), .int (nI 57)]) (rest := []) (c_M_within) mt_M_within ms_M_within ml_M_81 rfl dd_M_counts_28 ⟨xn_le rfl, xn_le rfl⟩ (xn_le rfl) rfl ?_
      refine XR.bif_ne (tgt := 56) dd_M_counts_31 (by decide) (fun h31 => ?_) (fun h31 => ?_)
      ·
        refine XR.iconst (v := nI 1) dd_M_counts_56 (by decide) ?_
        refine XR.goto (tgt := 61) dd_M_counts_57 (by decide) ?_
        exact XR.tp (by first | (simp [bI, mc_plain, h14, h20, h31]; done) | (simp [bI, mc_plain, h14, h20, h31]; intros; exfalso; omega)) j61
      ·
        refine XR.iload_n dd_M_counts_34 rfl 0 rfl ?_
        refine XR.bipush (v := nI 97) dd_M_counts_35 (by decide) ?_
        refine XR.bipush (v := nI 122) dd_M_counts_37 (by decide) ?_
        refine XR.callS (Mk := m_M_within) (n := 3) (As := [.int ((B i) &&& (nI 255)), .int (nI 97), .int (nI 122)]) (rest := []) (c_M_within) mt_M_within ms_M_within ml_M_81 rfl dd_M_counts_39 ⟨xn_le rfl, xn_le rfl⟩ (xn_le rfl) rfl ?_
        refine XR.bif_ne (tgt := 56) dd_M_counts_42 (by decide) (fun h42 => ?_) (fun h42 => ?_)
        ·
          refine XR.iconst (v := nI 1) dd_M_counts_56 (by decide) ?_
          refine XR.goto (tgt := 61) dd_M_counts_57 (by decide) ?_
          exact XR.tp (by first | (simp [bI, mc_plain, h14, h20, h31, h42]; done) | (simp [bI, mc_plain, h14, h20, h31, h42]; intros; exfalso; omega)) j61
        ·
          refine XR.iload_n dd_M_counts_45 rfl 0 rfl ?_
          refine XR.bipush (v := nI 65) dd_M_counts_46 (by decide) ?_
          refine XR.bipush (v := nI 90) dd_M_counts_48 (by decide) ?_
          refine XR.callS (Mk := m_M_within) (n := 3) (As := [.int ((B i) &&& (nI 255)), .int (nI 65), .int (nI 90)]) (rest := []) (c_M_within) mt_M_within ms_M_within ml_M_81 rfl dd_M_counts_50 ⟨xn_le rfl, xn_le rfl⟩ (xn_le rfl) rfl ?_
          refine XR.bif_eq (tgt := 60) dd_M_counts_53 (by decide) (fun h53 => ?_) (fun h53 => ?_)
          ·
            refine XR.iconst (v := nI 0) dd_M_counts_60 (by decide) ?_
            exact XR.tp (by first | (simp [bI, mc_plain, h14, h20, h31, h42, h53]; done) | (simp [bI, mc_plain, h14, h20, h31, h42, h53]; intros; exfalso; omega)) j61
          ·
            refine XR.iconst (v := nI 1) dd_M_counts_56 (by decide) ?_
            refine XR.goto (tgt := 61) dd_M_counts_57 (by decide) ?_
            exact XR.tp (by first | (simp [bI, mc_plain, h14, h20, h31, h42, h53]; done) | (simp [bI, mc_plain, h14, h20, h31, h42, h53]; intros; exfalso; omega)) j61

set_option maxRecDepth 100000 in
set_option maxHeartbeats 4000000 in
theorem c_M_folded {G : XG} {q : Nat → Nat} {x : Nat → Int32} {f : Nat → Nat → Int32} {kl : va_W} {len ln : Nat} {st : Nat → Nat} {B : Nat → Int32} (ht : mtx x f len ln st B) {i : Nat} {fl : Int32} (hi : i < len) : MR G m_M_folded (xr 1 0 0) [.ref (q 0), .int (nI i), .int fl] (wM G q x f kl) (some (.int (mf_t (B i &&& nI 255) fl))) := by
  obtain ⟨hx0, hl0, hln, hst, hse, hB⟩ := id ht
  refine MR.of rfl (xn_le rfl) ?_
  refine (?_ : XR G m_M_folded (xr 1 0 0) (xr_F (some (.int (mf_t (B i &&& nI 255) fl)))) (wM G q x f kl) 0 [(0, .ref (q 0)), (1, .int (nI i)), (2, .int fl)] [])
  refine XR.aload_n dd_M_folded_0 rfl 0 rfl ?_
  refine XR.get (q0 := 0) (v := .ref (q 1)) fl_M_7 dd_M_folded_1 rfl rfl ?_
  refine XR.iload_n dd_M_folded_4 rfl 1 rfl ?_
  refine XR.bald (q0 := 1) (n := 20000) (j := i) (f := f 0) dd_M_folded_5 rfl (by omega) (by decide) ?_
  refine XR.tp (y := B i) (hB _ (by omega)) ?_
  refine XR.sipush (v := nI 255) dd_M_folded_6 (by decide) ?_
  refine XR.iand dd_M_folded_9 ?_
  refine XR.istore_n (lv2 := [(3, .int ((B i) &&& (nI 255))), (0, .ref (q 0)), (1, .int (nI i)), (2, .int fl)]) dd_M_folded_10 rfl (by decide) rfl ?_
  refine XR.iload_n dd_M_folded_11 rfl 3 rfl ?_
  refine XR.iconst (v := nI 4) dd_M_folded_12 (by decide) ?_
  refine XR.iand dd_M_folded_13 ?_
  refine XR.if_le (tgt := 35) dd_M_folded_14 (by decide) (fun h14 => ?_) (fun h14 => ?_)
  ·
    refine XR.iload_n dd_M_folded_35 rfl 0 rfl ?_
    refine XR.tp (y := mf_t (B i &&& nI 255) fl) (by simp [mf_t, h14]; try (intro z; exact absurd z (by rw [Int32.lt_iff_toInt_lt]; rw [Int32.le_iff_toInt_le] at h14; omega))) ?_
    exact XR.iret dd_M_folded_36 rfl
  ·
    refine XR.iload_n dd_M_folded_17 rfl 0 rfl ?_
    refine XR.bipush (v := nI 97) dd_M_folded_18 (by decide) ?_
    refine XR.bipush (v := nI 122) dd_M_folded_20 (by decide) ?_
    refine XR.callS (Mk := m_M_within) (n := 3) (As := [.int ((B i) &&& (nI 255)), .int (nI 97), .int (nI 122)]) (rest := []) (c_M_within) mt_M_within ms_M_within ml_M_81 rfl dd_M_folded_22 ⟨xn_le rfl, xn_le rfl⟩ (xn_le rfl) rfl ?_
    refine XR.bif_eq (tgt := 35) dd_M_folded_25 (by decide) (fun h25 => ?_) (fun h25 => ?_)
    ·
      refine XR.iload_n dd_M_folded_35 rfl 0 rfl ?_
      refine XR.tp (y := mf_t (B i &&& nI 255) fl) (by simp [mf_t, h14, h25]; try (intro z; exact absurd z (by rw [Int32.lt_iff_toInt_lt]; rw [Int32.le_iff_toInt_le] at h14; omega))) ?_
      exact XR.iret dd_M_folded_36 rfl
    ·
      refine XR.iload_n dd_M_folded_28 rfl 0 rfl ?_
      refine XR.bipush (v := nI 32) dd_M_folded_29 (by decide) ?_
      refine XR.isub dd_M_folded_31 ?_
      refine XR.goto (tgt := 36) dd_M_folded_32 (by decide) ?_
      refine XR.tp (y := mf_t (B i &&& nI 255) fl) (by simp [mf_t, h14, h25]; try (intro z; exact absurd z (by rw [Int32.lt_iff_toInt_lt]; rw [Int32.le_iff_toInt_le] at h14; omega))) ?_
      exact XR.iret dd_M_folded_36 rfl

