/-- the text: its length, the places of its line ends, its bytes -/
def txt (x : Nat → Int32) (n : Nat → Nat) (f : Nat → Nat → Int32) (len bc : Nat) (br : Nat → Nat) (B : Nat → Int32) : Prop :=
  x 3 = nI len ∧ x 4 = nI bc ∧ len ≤ n 0 ∧ n 0 ≤ 40960 ∧ bc ≤ n 1 ∧ n 1 ≤ 40960 ∧ (∀ i, i < bc → f 1 i = nI (br i) ∧ br i < len) ∧ ∀ i, i < len → f 0 i = B i
def tx_start (br : Nat → Nat) (l : Nat) : Nat := if 0 < l then br (l - 1) + 1 else 0
def tx_stop (len bc : Nat) (br : Nat → Nat) (l : Nat) : Nat := if l < bc then br l else len
def tx_count (len bc : Nat) (br : Nat → Nat) : Nat := if tx_start br bc < len then bc + 1 else bc
set_option maxRecDepth 100000 in
set_option maxHeartbeats 4000000 in
theorem c_T_at {G : XG} {q : Nat → Nat} {x : Nat → Int32} {n : Nat → Nat} {f : Nat → Nat → Int32} {kf : Nat → Option Nat} {kl : va_W} {len bc : Nat} {br : Nat → Nat} {B : Nat → Int32} (ht : txt x n f len bc br B) {i : Nat} (hi : i < len) : MR G m_T_at (xr 0 0 0) [.ref (q 1), .int (nI i)] (wC G q x n f kf kl) (some (.int (B i &&& nI 255))) := by
  obtain ⟨hx3, hx4, hl0, hn0, hb1, hn1, hbr, hB⟩ := id ht
  refine MR.of rfl (xn_le rfl) ?_
  refine (?_ : XR G m_T_at (xr 0 0 0) (xr_F (some (.int (B i &&& nI 255)))) (wC G q x n f kf kl) 0 [(0, .ref (q 1)), (1, .int (nI i))] [])
  refine XR.aload_n dd_T_at_0 rfl 0 rfl ?_
  refine XR.get (q0 := 1) (v := .ref (q 2)) fl_T_11 dd_T_at_1 rfl rfl ?_
  refine XR.iload_n dd_T_at_4 rfl 1 rfl ?_
  refine XR.bald (q0 := 2) (n := n 0) (j := i) (f := f 0) dd_T_at_5 rfl (by omega) (by omega) ?_
  refine XR.tp (y := B i) (hB _ (by omega)) ?_
  refine XR.sipush (v := nI 255) dd_T_at_6 (by decide) ?_
  refine XR.iand dd_T_at_9 ?_
  exact XR.iret dd_T_at_10 rfl

set_option maxRecDepth 100000 in
set_option maxHeartbeats 4000000 in
theorem c_T_isBlankAt {G : XG} {q : Nat → Nat} {x : Nat → Int32} {n : Nat → Nat} {f : Nat → Nat → Int32} {kf : Nat → Option Nat} {kl : va_W} {len bc : Nat} {br : Nat → Nat} {B : Nat → Int32} (ht : txt x n f len bc br B) {i : Nat} (hi : i < len) : MR G m_T_isBlankAt (xr 0 0 0) [.ref (q 1), .int (nI i)] (wC G q x n f kf kl) (some (.int (bI (pb_blk B i)))) := by
  obtain ⟨hx3, hx4, hl0, hn0, hb1, hn1, hbr, hB⟩ := id ht
  refine MR.of rfl (xn_le rfl) ?_
  refine (?_ : XR G m_T_isBlankAt (xr 0 0 0) (xr_F (some (.int (bI (pb_blk B i))))) (wC G q x n f kf kl) 0 [(0, .ref (q 1)), (1, .int (nI i))] [])
  refine XR.aload_n dd_T_isBlankAt_0 rfl 0 rfl ?_
  refine XR.get (q0 := 1) (v := .ref (q 2)) fl_T_11 dd_T_isBlankAt_1 rfl rfl ?_
  refine XR.iload_n dd_T_isBlankAt_4 rfl 1 rfl ?_
  refine XR.bald (q0 := 2) (n := n 0) (j := i) (f := f 0) dd_T_isBlankAt_5 rfl (by omega) (by omega) ?_
  refine XR.tp (y := B i) (hB _ (by omega)) ?_
  refine XR.bipush (v := nI 32) dd_T_isBlankAt_6 (by decide) ?_
  refine XR.icmp_eq (tgt := 22) dd_T_isBlankAt_8 (by decide) (fun h8 => ?_) (fun h8 => ?_)
  ·
    refine XR.iconst (v := nI 1) dd_T_isBlankAt_22 (by decide) ?_
    refine XR.goto (tgt := 27) dd_T_isBlankAt_23 (by decide) ?_
    refine XR.tp (y := bI (pb_blk B i)) (by simp [bI, pb_blk, h8]) ?_
    exact XR.zret dd_T_isBlankAt_27 rfl (bI_nar _)
  ·
    refine XR.aload_n dd_T_isBlankAt_11 rfl 0 rfl ?_
    refine XR.get (q0 := 1) (v := .ref (q 2)) fl_T_11 dd_T_isBlankAt_12 rfl rfl ?_
    refine XR.iload_n dd_T_isBlankAt_15 rfl 1 rfl ?_
    refine XR.bald (q0 := 2) (n := n 0) (j := i) (f := f 0) dd_T_isBlankAt_16 rfl (by omega) (by omega) ?_
    refine XR.tp (y := B i) (hB _ (by omega)) ?_
    refine XR.bipush (v := nI 9) dd_T_isBlankAt_17 (by decide) ?_
    refine XR.icmp_ne (tgt := 26) dd_T_isBlankAt_19 (by decide) (fun h19 => ?_) (fun h19 => ?_)
    ·
      refine XR.iconst (v := nI 0) dd_T_isBlankAt_26 (by decide) ?_
      refine XR.tp (y := bI (pb_blk B i)) (by simp [bI, pb_blk, h8, h19]) ?_
      exact XR.zret dd_T_isBlankAt_27 rfl (bI_nar _)
    ·
      refine XR.iconst (v := nI 1) dd_T_isBlankAt_22 (by decide) ?_
      refine XR.goto (tgt := 27) dd_T_isBlankAt_23 (by decide) ?_
      refine XR.tp (y := bI (pb_blk B i)) (by simp [bI, pb_blk, h8, h19]) ?_
      exact XR.zret dd_T_isBlankAt_27 rfl (bI_nar _)

set_option maxRecDepth 100000 in
set_option maxHeartbeats 4000000 in
theorem c_T_startOf {G : XG} {q : Nat → Nat} {x : Nat → Int32} {n : Nat → Nat} {f : Nat → Nat → Int32} {kf : Nat → Option Nat} {kl : va_W} {len bc : Nat} {br : Nat → Nat} {B : Nat → Int32} (ht : txt x n f len bc br B) {l : Nat} (hl : l ≤ bc) : MR G m_T_startOf (xr 0 0 0) [.ref (q 1), .int (nI l)] (wC G q x n f kf kl) (some (.int (nI (tx_start br l)))) := by
  obtain ⟨hx3, hx4, hl0, hn0, hb1, hn1, hbr, hB⟩ := id ht
  refine MR.of rfl (xn_le rfl) ?_
  refine (?_ : XR G m_T_startOf (xr 0 0 0) (xr_F (some (.int (nI (tx_start br l))))) (wC G q x n f kf kl) 0 [(0, .ref (q 1)), (1, .int (nI l))] [])
  refine XR.iload_n dd_T_startOf_0 rfl 1 rfl ?_
  refine XR.nif_le (tgt := 17) dd_T_startOf_1 (by decide) (by omega) (fun h1 => ?_) (fun h1 => ?_)
  ·
    refine XR.iconst (v := nI 0) dd_T_startOf_17 (by decide) ?_
    refine XR.tp (y := nI (tx_start br l)) (by unfold tx_start; split <;> first | rfl | (exfalso; omega)) ?_
    exact XR.iret dd_T_startOf_18 rfl
  ·
    refine XR.aload_n dd_T_startOf_4 rfl 0 rfl ?_
    refine XR.get (q0 := 1) (v := .ref (q 3)) fl_T_19 dd_T_startOf_5 rfl rfl ?_
    refine XR.iload_n dd_T_startOf_8 rfl 1 rfl ?_
    refine XR.iconst (v := nI 1) dd_T_startOf_9 (by decide) ?_
    refine XR.isub dd_T_startOf_10 ?_
    refine XR.tp (y := nI (l - 1)) (pk_sub (by omega)) ?_
    refine XR.iald (q0 := 3) (n := n 1) (j := l - 1) (f := f 1) dd_T_startOf_11 rfl (by omega) (by omega) ?_
    refine XR.tp (y := nI (br (l - 1))) ((hbr _ (by omega)).1) ?_
    refine XR.iconst (v := nI 1) dd_T_startOf_12 (by decide) ?_
    refine XR.iadd dd_T_startOf_13 ?_
    refine XR.tp (y := nI (br (l - 1) + 1)) (nI_add _ _) ?_
    refine XR.goto (tgt := 18) dd_T_startOf_14 (by decide) ?_
    refine XR.tp (y := nI (tx_start br l)) (by unfold tx_start; split <;> first | rfl | (exfalso; omega)) ?_
    exact XR.iret dd_T_startOf_18 rfl

set_option maxRecDepth 100000 in
set_option maxHeartbeats 4000000 in
theorem c_T_stopOf {G : XG} {q : Nat → Nat} {x : Nat → Int32} {n : Nat → Nat} {f : Nat → Nat → Int32} {kf : Nat → Option Nat} {kl : va_W} {len bc : Nat} {br : Nat → Nat} {B : Nat → Int32} (ht : txt x n f len bc br B) {l : Nat} (hl : l < 2 ^ 31) : MR G m_T_stopOf (xr 0 0 0) [.ref (q 1), .int (nI l)] (wC G q x n f kf kl) (some (.int (nI (tx_stop len bc br l)))) := by
  obtain ⟨hx3, hx4, hl0, hn0, hb1, hn1, hbr, hB⟩ := id ht
  refine MR.of rfl (xn_le rfl) ?_
  refine (?_ : XR G m_T_stopOf (xr 0 0 0) (xr_F (some (.int (nI (tx_stop len bc br l))))) (wC G q x n f kf kl) 0 [(0, .ref (q 1)), (1, .int (nI l))] [])
  refine XR.iload_n dd_T_stopOf_0 rfl 1 rfl ?_
  refine XR.aload_n dd_T_stopOf_1 rfl 0 rfl ?_
  refine XR.get (q0 := 1) (v := .int (x 4)) fl_T_23 dd_T_stopOf_2 rfl rfl ?_
  refine XR.tp (y := nI bc) (hx4) ?_
  refine XR.ncmp_ge (tgt := 17) dd_T_stopOf_5 (by decide) (by omega) (by omega) (fun h5 => ?_) (fun h5 => ?_)
  ·
    refine XR.aload_n dd_T_stopOf_17 rfl 0 rfl ?_
    refine XR.get (q0 := 1) (v := .int (x 3)) fl_T_15 dd_T_stopOf_18 rfl rfl ?_
    refine XR.tp (y := nI len) (hx3) ?_
    refine XR.tp (y := nI (tx_stop len bc br l)) (by unfold tx_stop; split <;> first | rfl | (exfalso; omega)) ?_
    exact XR.iret dd_T_stopOf_21 rfl
  ·
    refine XR.aload_n dd_T_stopOf_8 rfl 0 rfl ?_
    refine XR.get (q0 := 1) (v := .ref (q 3)) fl_T_19 dd_T_stopOf_9 rfl rfl ?_
    refine XR.iload_n dd_T_stopOf_12 rfl 1 rfl ?_
    refine XR.iald (q0 := 3) (n := n 1) (j := l) (f := f 1) dd_T_stopOf_13 rfl (by omega) (by omega) ?_
    refine XR.tp (y := nI (br l)) ((hbr _ (by omega)).1) ?_
    refine XR.goto (tgt := 21) dd_T_stopOf_14 (by decide) ?_
    refine XR.tp (y := nI (tx_stop len bc br l)) (by unfold tx_stop; split <;> first | rfl | (exfalso; omega)) ?_
    exact XR.iret dd_T_stopOf_21 rfl

theorem tx_start_le {len bc : Nat} {br : Nat → Nat} (h : ∀ i, i < bc → br i < len) {l : Nat} (hl : l ≤ bc) : tx_start br l ≤ len := by
  unfold tx_start
  split
  · exact h _ (by omega)
  · exact Nat.zero_le _
theorem tx_stop_le {len bc : Nat} {br : Nat → Nat} (h : ∀ i, i < bc → br i < len) (l : Nat) : tx_stop len bc br l ≤ len := by
  unfold tx_stop
  split
  · rename_i h1; exact Nat.le_of_lt (h l h1)
  · exact Nat.le_refl _
set_option maxRecDepth 100000 in
set_option maxHeartbeats 4000000 in
theorem c_T_lineCount {G : XG} {q : Nat → Nat} {x : Nat → Int32} {n : Nat → Nat} {f : Nat → Nat → Int32} {kf : Nat → Option Nat} {kl : va_W} {len bc : Nat} {br : Nat → Nat} {B : Nat → Int32} (ht : txt x n f len bc br B)  : MR G m_T_lineCount (xr 1 0 0) [.ref (q 1)] (wC G q x n f kf kl) (some (.int (nI (tx_count len bc br)))) := by
  obtain ⟨hx3, hx4, hl0, hn0, hb1, hn1, hbr, hB⟩ := id ht
  have hsl := tx_start_le (fun i h => (hbr i h).2) (Nat.le_refl bc)
  refine MR.of rfl (xn_le rfl) ?_
  refine (?_ : XR G m_T_lineCount (xr 1 0 0) (xr_F (some (.int (nI (tx_count len bc br))))) (wC G q x n f kf kl) 0 [(0, .ref (q 1))] [])
  refine XR.aload_n dd_T_lineCount_0 rfl 0 rfl ?_
  refine XR.aload_n dd_T_lineCount_1 rfl 0 rfl ?_
  refine XR.get (q0 := 1) (v := .int (x 4)) fl_T_23 dd_T_lineCount_2 rfl rfl ?_
  refine XR.tp (y := nI bc) (hx4) ?_
  refine XR.callV (Mk := m_T_startOf) (n := 1) (As := [.int (nI bc)]) (rest := []) (q0 := 1) (ci := 1) (c_T_startOf ht (l := bc) (by omega)) mt_T_startOf mi_T_startOf ml_T_39 rfl dd_T_lineCount_5 (rfl) rfl rfl ⟨xn_le rfl, xn_le rfl⟩ (xn_le rfl) rfl ?_
  refine XR.aload_n dd_T_lineCount_8 rfl 0 rfl ?_
  refine XR.get (q0 := 1) (v := .int (x 3)) fl_T_15 dd_T_lineCount_9 rfl rfl ?_
  refine XR.tp (y := nI len) (hx3) ?_
  refine XR.ncmp_ge (tgt := 24) dd_T_lineCount_12 (by decide) (by omega) (by omega) (fun h12 => ?_) (fun h12 => ?_)
  ·
    refine XR.aload_n dd_T_lineCount_24 rfl 0 rfl ?_
    refine XR.get (q0 := 1) (v := .int (x 4)) fl_T_23 dd_T_lineCount_25 rfl rfl ?_
    refine XR.tp (y := nI bc) (hx4) ?_
    refine XR.tp (y := nI (tx_count len bc br)) (by unfold tx_count; split <;> first | rfl | (exfalso; omega)) ?_
    exact XR.iret dd_T_lineCount_28 rfl
  ·
    refine XR.aload_n dd_T_lineCount_15 rfl 0 rfl ?_
    refine XR.get (q0 := 1) (v := .int (x 4)) fl_T_23 dd_T_lineCount_16 rfl rfl ?_
    refine XR.tp (y := nI bc) (hx4) ?_
    refine XR.iconst (v := nI 1) dd_T_lineCount_19 (by decide) ?_
    refine XR.iadd dd_T_lineCount_20 ?_
    refine XR.tp (y := nI (bc + 1)) (nI_add _ _) ?_
    refine XR.goto (tgt := 28) dd_T_lineCount_21 (by decide) ?_
    refine XR.tp (y := nI (tx_count len bc br)) (by unfold tx_count; split <;> first | rfl | (exfalso; omega)) ?_
    exact XR.iret dd_T_lineCount_28 rfl

set_option maxRecDepth 100000 in
set_option maxHeartbeats 4000000 in
theorem c_T_passDigits {G : XG} {q : Nat → Nat} {x : Nat → Int32} {n : Nat → Nat} {f : Nat → Nat → Int32} {kf : Nat → Option Nat} {kl : va_W} {len bc : Nat} {br : Nat → Nat} {B : Nat → Int32} (ht : txt x n f len bc br B) {a b : Nat} (hb : b ≤ len) (ha : a ≤ len) : MR G m_T_passDigits (xr 0 0 0) [.ref (q 1), .int (nI a), .int (nI b)] (wC G q x n f kf kl) (some (.int (nI (sk (pb_dig B) b a)))) := by
  obtain ⟨hx3, hx4, hl0, hn0, hb1, hn1, hbr, hB⟩ := id ht
  refine MR.of rfl (xn_le rfl) ?_
  refine (?_ : XR G m_T_passDigits (xr 0 0 0) (xr_F (some (.int (nI (sk (pb_dig B) b a))))) (wC G q x n f kf kl) 0 [(0, .ref (q 1)), (1, .int (nI a)), (2, .int (nI b))] [])
  have loop : ∀ (kk : Nat) (i : Nat), b - i = kk → i ≤ len → sk (pb_dig B) b i = sk (pb_dig B) b a → XR G m_T_passDigits (xr 0 0 0) (xr_F (some (.int (nI (sk (pb_dig B) b a))))) (wC G q x n f kf kl) 2 [(0, .ref (q 1)), (1, .int (nI a)), (2, .int (nI b)), (3, .int (nI i))] [] := by
    intro kk
    induction kk using Nat.strongRecOn with
    | _ kk ih =>
      intro i hk hi hr
      refine XR.iload_n dd_T_passDigits_2 rfl 3 rfl ?_
      refine XR.iload_n dd_T_passDigits_3 rfl 2 rfl ?_
      refine XR.ncmp_ge (tgt := 35) dd_T_passDigits_4 (by decide) (by omega) (by omega) (fun h4 => ?_) (fun h4 => ?_)
      ·
        refine XR.iload_n dd_T_passDigits_35 rfl 3 rfl ?_
        refine XR.tp (y := nI (sk (pb_dig B) b a)) (by rw [← hr, sk_stop (fun hz => by first | (exfalso; omega) | simp [pb_dig, h4])]) ?_
        exact XR.iret dd_T_passDigits_36 rfl
      ·
        refine XR.aload_n dd_T_passDigits_7 rfl 0 rfl ?_
        refine XR.get (q0 := 1) (v := .ref (q 2)) fl_T_11 dd_T_passDigits_8 rfl rfl ?_
        refine XR.iload_n dd_T_passDigits_11 rfl 3 rfl ?_
        refine XR.bald (q0 := 2) (n := n 0) (j := i) (f := f 0) dd_T_passDigits_12 rfl (by omega) (by omega) ?_
        refine XR.tp (y := B i) (hB _ (by omega)) ?_
        refine XR.bipush (v := nI 48) dd_T_passDigits_13 (by decide) ?_
        refine XR.icmp_lt (tgt := 35) dd_T_passDigits_15 (by decide) (fun h15 => ?_) (fun h15 => ?_)
        ·
          refine XR.iload_n dd_T_passDigits_35 rfl 3 rfl ?_
          refine XR.tp (y := nI (sk (pb_dig B) b a)) (by rw [← hr, sk_stop (fun hz => by first | (exfalso; omega) | simp [pb_dig, h4, h15])]) ?_
          exact XR.iret dd_T_passDigits_36 rfl
        ·
          refine XR.aload_n dd_T_passDigits_18 rfl 0 rfl ?_
          refine XR.get (q0 := 1) (v := .ref (q 2)) fl_T_11 dd_T_passDigits_19 rfl rfl ?_
          refine XR.iload_n dd_T_passDigits_22 rfl 3 rfl ?_
          refine XR.bald (q0 := 2) (n := n 0) (j := i) (f := f 0) dd_T_passDigits_23 rfl (by omega) (by omega) ?_
          refine XR.tp (y := B i) (hB _ (by omega)) ?_
          refine XR.bipush (v := nI 57) dd_T_passDigits_24 (by decide) ?_
          refine XR.icmp_gt (tgt := 35) dd_T_passDigits_26 (by decide) (fun h26 => ?_) (fun h26 => ?_)
          ·
            refine XR.iload_n dd_T_passDigits_35 rfl 3 rfl ?_
            refine XR.tp (y := nI (sk (pb_dig B) b a)) (by rw [← hr, sk_stop (fun hz => by first | (exfalso; omega) | simp [pb_dig, h4, h15, h26])]) ?_
            exact XR.iret dd_T_passDigits_36 rfl
          ·
            refine XR.iinc (z := 3) (v := nI (i + 1)) (lv2 := [(3, .int (nI (i + 1))), (0, .ref (q 1)), (1, .int (nI a)), (2, .int (nI b))]) dd_T_passDigits_29 rfl ((nI_succ _).symm) (by decide) rfl ?_
            refine XR.goto (tgt := 2) dd_T_passDigits_32 (by decide) ?_
            refine XR.lvs [1, 2, 3, 0] rfl ?_
            exact ih _ (by omega) (i + 1) rfl (by omega) (by rw [← hr, sk_step (a := i) (by omega) (by simp [pb_dig, h15, h26])])
  refine XR.iload_n dd_T_passDigits_0 rfl 1 rfl ?_
  refine XR.istore_n (lv2 := [(3, .int (nI a)), (0, .ref (q 1)), (1, .int (nI a)), (2, .int (nI b))]) dd_T_passDigits_1 rfl (by decide) rfl ?_
  refine XR.lvs [1, 2, 3, 0] rfl ?_
  exact loop _ a rfl ha rfl

