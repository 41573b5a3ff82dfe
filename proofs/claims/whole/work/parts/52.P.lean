set_option maxRecDepth 100000 in
set_option maxHeartbeats 4000000 in
theorem c_P_fieldStop {G : XG} {q : Nat → Nat} {x : Nat → Int32} {n : Nat → Nat} {f : Nat → Nat → Int32} {kf : Nat → Option Nat} {kl : va_W} {len bc : Nat} {br : Nat → Nat} {B : Nat → Int32} (ht : txt x n f len bc br B) {sep : Int32} (hx5 : x 5 = sep) {a b : Nat} (hb : b ≤ len) (ha : a ≤ b) : MR G m_P_fieldStop (xr 0 0 0) [.ref (q 4), .int (nI a), .int (nI b)] (wC G q x n f kf kl) (some (.int (nI (fl_stop B sep b a)))) := by
  obtain ⟨hx3, hx4, hl0, hn0, hb1, hn1, hbr, hB⟩ := id ht
  refine MR.of rfl (xn_le rfl) ?_
  refine (?_ : XR G m_P_fieldStop (xr 0 0 0) (xr_F (some (.int (nI (fl_stop B sep b a))))) (wC G q x n f kf kl) 0 [(0, .ref (q 4)), (1, .int (nI a)), (2, .int (nI b))] [])
  have loop1 : ∀ (kk : Nat) (i : Nat), b - i = kk → i ≤ b → sk (pb_sep B sep) b i = fl_stop B sep b a → XR G m_P_fieldStop (xr 0 0 0) (xr_F (some (.int (nI (fl_stop B sep b a))))) (wC G q x n f kf kl) 19 [(0, .ref (q 4)), (1, .int (nI a)), (2, .int (nI b)), (3, .ref (q 2)), (4, .int (nI i))] [] := by
    intro kk
    induction kk using Nat.strongRecOn with
    | _ kk ih =>
      intro i hk hi hr
      refine XR.iload dd_P_fieldStop_19 4 rfl ?_
      refine XR.iload_n dd_P_fieldStop_21 rfl 2 rfl ?_
      refine XR.ncmp_ge (tgt := 46) dd_P_fieldStop_22 (by decide) (by omega) (by omega) (fun h22 => ?_) (fun h22 => ?_)
      ·
        refine XR.iload dd_P_fieldStop_46 4 rfl ?_
        refine XR.tp (y := nI (fl_stop B sep b a)) (by rw [← hr, sk_stop (p := pb_sep B sep) (fun hz => by first | (exfalso; omega) | simp [pb_blk, pb_sep, h22])]) ?_
        exact XR.iret dd_P_fieldStop_48 rfl
      ·
        refine XR.aload_n dd_P_fieldStop_25 rfl 3 rfl ?_
        refine XR.iload dd_P_fieldStop_26 4 rfl ?_
        refine XR.bald (q0 := 2) (n := n 0) (j := i) (f := f 0) dd_P_fieldStop_28 rfl (by omega) (by omega) ?_
        refine XR.tp (y := B i) (hB _ (by omega)) ?_
        refine XR.sipush (v := nI 255) dd_P_fieldStop_29 (by decide) ?_
        refine XR.iand dd_P_fieldStop_32 ?_
        refine XR.aload_n dd_P_fieldStop_33 rfl 0 rfl ?_
        refine XR.get (q0 := 4) (v := .int (x 5)) fl_P_15 dd_P_fieldStop_34 rfl rfl ?_
        refine XR.tp (y := sep) (hx5) ?_
        refine XR.icmp_eq (tgt := 46) dd_P_fieldStop_37 (by decide) (fun h37 => ?_) (fun h37 => ?_)
        ·
          refine XR.iload dd_P_fieldStop_46 4 rfl ?_
          refine XR.tp (y := nI (fl_stop B sep b a)) (by rw [← hr, sk_stop (p := pb_sep B sep) (fun hz => by first | (exfalso; omega) | simp [pb_blk, pb_sep, h22, h37])]) ?_
          exact XR.iret dd_P_fieldStop_48 rfl
        ·
          refine XR.iinc (z := 4) (v := nI (i + 1)) (lv2 := [(4, .int (nI (i + 1))), (0, .ref (q 4)), (1, .int (nI a)), (2, .int (nI b)), (3, .ref (q 2))]) dd_P_fieldStop_40 rfl ((nI_succ _).symm) (by decide) rfl ?_
          refine XR.goto (tgt := 19) dd_P_fieldStop_43 (by decide) ?_
          refine XR.lvs [1, 2, 3, 4, 0] rfl ?_
          exact ih _ (by omega) (i + 1) rfl (by omega) (by rw [← hr, sk_step (a := i) (by omega) (by simp [pb_sep, h37])])
  have loop3 : ∀ (kk : Nat) (i : Nat), b - i = kk → i ≤ b → sk (fun i => !pb_blk B i) b i = fl_stop B sep b a → XR G m_P_fieldStop (xr 0 0 0) (xr_F (some (.int (nI (fl_stop B sep b a))))) (wC G q x n f kf kl) 79 [(0, .ref (q 4)), (1, .int (nI a)), (2, .int (nI b)), (3, .ref (q 2)), (4, .int (nI i))] [] := by
    intro kk
    induction kk using Nat.strongRecOn with
    | _ kk ih =>
      intro i hk hi hr
      refine XR.iload dd_P_fieldStop_79 4 rfl ?_
      refine XR.iload_n dd_P_fieldStop_81 rfl 2 rfl ?_
      refine XR.ncmp_ge (tgt := 109) dd_P_fieldStop_82 (by decide) (by omega) (by omega) (fun h82 => ?_) (fun h82 => ?_)
      ·
        refine XR.iload dd_P_fieldStop_109 4 rfl ?_
        refine XR.tp (y := nI (fl_stop B sep b a)) (by rw [← hr, sk_stop (p := (fun i => !pb_blk B i)) (fun hz => by first | (exfalso; omega) | simp [pb_blk, pb_sep, h82])]) ?_
        exact XR.iret dd_P_fieldStop_111 rfl
      ·
        refine XR.aload_n dd_P_fieldStop_85 rfl 3 rfl ?_
        refine XR.iload dd_P_fieldStop_86 4 rfl ?_
        refine XR.bald (q0 := 2) (n := n 0) (j := i) (f := f 0) dd_P_fieldStop_88 rfl (by omega) (by omega) ?_
        refine XR.tp (y := B i) (hB _ (by omega)) ?_
        refine XR.bipush (v := nI 32) dd_P_fieldStop_89 (by decide) ?_
        refine XR.icmp_eq (tgt := 109) dd_P_fieldStop_91 (by decide) (fun h91 => ?_) (fun h91 => ?_)
        ·
          refine XR.iload dd_P_fieldStop_109 4 rfl ?_
          refine XR.tp (y := nI (fl_stop B sep b a)) (by rw [← hr, sk_stop (p := (fun i => !pb_blk B i)) (fun hz => by first | (exfalso; omega) | simp [pb_blk, pb_sep, h82, h91])]) ?_
          exact XR.iret dd_P_fieldStop_111 rfl
        ·
          refine XR.aload_n dd_P_fieldStop_94 rfl 3 rfl ?_
          refine XR.iload dd_P_fieldStop_95 4 rfl ?_
          refine XR.bald (q0 := 2) (n := n 0) (j := i) (f := f 0) dd_P_fieldStop_97 rfl (by omega) (by omega) ?_
          refine XR.tp (y := B i) (hB _ (by omega)) ?_
          refine XR.bipush (v := nI 9) dd_P_fieldStop_98 (by decide) ?_
          refine XR.icmp_eq (tgt := 109) dd_P_fieldStop_100 (by decide) (fun h100 => ?_) (fun h100 => ?_)
          ·
            refine XR.iload dd_P_fieldStop_109 4 rfl ?_
            refine XR.tp (y := nI (fl_stop B sep b a)) (by rw [← hr, sk_stop (p := (fun i => !pb_blk B i)) (fun hz => by first | (exfalso; omega) | simp [pb_blk, pb_sep, h82, h91, h100])]) ?_
            exact XR.iret dd_P_fieldStop_111 rfl
          ·
            refine XR.iinc (z := 4) (v := nI (i + 1)) (lv2 := [(4, .int (nI (i + 1))), (0, .ref (q 4)), (1, .int (nI a)), (2, .int (nI b)), (3, .ref (q 2))]) dd_P_fieldStop_103 rfl ((nI_succ _).symm) (by decide) rfl ?_
            refine XR.goto (tgt := 79) dd_P_fieldStop_106 (by decide) ?_
            refine XR.lvs [1, 2, 3, 4, 0] rfl ?_
            exact ih _ (by omega) (i + 1) rfl (by omega) (by rw [← hr, sk_step (a := i) (by omega) (by simp [pb_blk, h91, h100])])
  have loop2 : ∀ (kk : Nat) (i : Nat), b - i = kk → i ≤ b → sk (fun i => !pb_blk B i) b (sk (pb_blk B) b i) = fl_stop B sep b a → XR G m_P_fieldStop (xr 0 0 0) (xr_F (some (.int (nI (fl_stop B sep b a))))) (wC G q x n f kf kl) 49 [(0, .ref (q 4)), (1, .int (nI a)), (2, .int (nI b)), (3, .ref (q 2)), (4, .int (nI i))] [] := by
    intro kk
    induction kk using Nat.strongRecOn with
    | _ kk ih =>
      intro i hk hi hr
      refine XR.iload dd_P_fieldStop_49 4 rfl ?_
      refine XR.iload_n dd_P_fieldStop_51 rfl 2 rfl ?_
      refine XR.ncmp_ge (tgt := 79) dd_P_fieldStop_52 (by decide) (by omega) (by omega) (fun h52 => ?_) (fun h52 => ?_)
      ·
        exact loop3 _ i rfl hi (by rw [← hr, sk_stop (p := pb_blk B) (a := i) (fun hz => by first | (exfalso; omega) | simp [pb_blk, h52])])
      ·
        refine XR.aload_n dd_P_fieldStop_55 rfl 3 rfl ?_
        refine XR.iload dd_P_fieldStop_56 4 rfl ?_
        refine XR.bald (q0 := 2) (n := n 0) (j := i) (f := f 0) dd_P_fieldStop_58 rfl (by omega) (by omega) ?_
        refine XR.tp (y := B i) (hB _ (by omega)) ?_
        refine XR.bipush (v := nI 32) dd_P_fieldStop_59 (by decide) ?_
        refine XR.icmp_eq (tgt := 73) dd_P_fieldStop_61 (by decide) (fun h61 => ?_) (fun h61 => ?_)
        ·
          refine XR.iinc (z := 4) (v := nI (i + 1)) (lv2 := [(4, .int (nI (i + 1))), (0, .ref (q 4)), (1, .int (nI a)), (2, .int (nI b)), (3, .ref (q 2))]) dd_P_fieldStop_73 rfl ((nI_succ _).symm) (by decide) rfl ?_
          refine XR.goto (tgt := 49) dd_P_fieldStop_76 (by decide) ?_
          refine XR.lvs [1, 2, 3, 4, 0] rfl ?_
          exact ih _ (by omega) (i + 1) rfl (by omega) (by rw [← hr, sk_step (p := pb_blk B) (a := i) (by omega) (by simp [pb_blk, h61])])
        ·
          refine XR.aload_n dd_P_fieldStop_64 rfl 3 rfl ?_
          refine XR.iload dd_P_fieldStop_65 4 rfl ?_
          refine XR.bald (q0 := 2) (n := n 0) (j := i) (f := f 0) dd_P_fieldStop_67 rfl (by omega) (by omega) ?_
          refine XR.tp (y := B i) (hB _ (by omega)) ?_
          refine XR.bipush (v := nI 9) dd_P_fieldStop_68 (by decide) ?_
          refine XR.icmp_ne (tgt := 79) dd_P_fieldStop_70 (by decide) (fun h70 => ?_) (fun h70 => ?_)
          ·
            exact loop3 _ i rfl hi (by rw [← hr, sk_stop (p := pb_blk B) (a := i) (fun hz => by first | (exfalso; omega) | simp [pb_blk, h52, h61, h70])])
          ·
            refine XR.iinc (z := 4) (v := nI (i + 1)) (lv2 := [(4, .int (nI (i + 1))), (0, .ref (q 4)), (1, .int (nI a)), (2, .int (nI b)), (3, .ref (q 2))]) dd_P_fieldStop_73 rfl ((nI_succ _).symm) (by decide) rfl ?_
            refine XR.goto (tgt := 49) dd_P_fieldStop_76 (by decide) ?_
            refine XR.lvs [1, 2, 3, 4, 0] rfl ?_
            exact ih _ (by omega) (i + 1) rfl (by omega) (by rw [← hr, sk_step (p := pb_blk B) (a := i) (by omega) (by simp [pb_blk, h61, h70])])
  refine XR.aload_n dd_P_fieldStop_0 rfl 0 rfl ?_
  refine XR.get (q0 := 4) (v := .ref (q 1)) fl_P_9 dd_P_fieldStop_1 rfl rfl ?_
  refine XR.get (q0 := 1) (v := .ref (q 2)) fl_P_58 dd_P_fieldStop_4 rfl rfl ?_
  refine XR.astore_n (lv2 := [(3, .ref (q 2)), (0, .ref (q 4)), (1, .int (nI a)), (2, .int (nI b))]) dd_P_fieldStop_7 rfl (by decide) rfl ?_
  refine XR.iload_n dd_P_fieldStop_8 rfl 2 rfl ?_
  refine XR.istore (lv2 := [(4, .int (nI a)), (3, .ref (q 2)), (0, .ref (q 4)), (1, .int (nI a)), (2, .int (nI b))]) dd_P_fieldStop_9 (by decide) rfl ?_
  refine XR.aload_n dd_P_fieldStop_11 rfl 2 rfl ?_
  refine XR.get (q0 := 4) (v := .int (x 5)) fl_P_15 dd_P_fieldStop_12 rfl rfl ?_
  refine XR.tp (y := sep) (hx5) ?_
  refine XR.iconst (v := -1) dd_P_fieldStop_15 (by decide) ?_
  refine XR.icmp_eq (tgt := 49) dd_P_fieldStop_16 (by decide) (fun h16 => ?_) (fun h16 => ?_)
  ·
    refine XR.lvs [2, 3, 4, 1, 0] rfl ?_
    exact loop2 _ a rfl ha (by simp [fl_stop, h16])
  ·
    refine XR.lvs [2, 3, 4, 1, 0] rfl ?_
    exact loop1 _ a rfl ha (by simp [fl_stop, h16])

set_option maxRecDepth 100000 in
set_option maxHeartbeats 4000000 in
theorem c_P_passBlanksOfField {G : XG} {q : Nat → Nat} {x : Nat → Int32} {n : Nat → Nat} {f : Nat → Nat → Int32} {kf : Nat → Option Nat} {kl : va_W} {len bc : Nat} {br : Nat → Nat} {B : Nat → Int32} (ht : txt x n f len bc br B) {sep : Int32} (hx5 : x 5 = sep) {a b : Nat} (hb : b ≤ len) (ha : a ≤ b) : MR G m_P_passBlanksOfField (xr 1 0 0) [.ref (q 4), .int (nI a), .int (nI b)] (wC G q x n f kf kl) (some (.int (nI (sk (pb_pass B sep) b a)))) := by
  obtain ⟨hx3, hx4, hl0, hn0, hb1, hn1, hbr, hB⟩ := id ht
  refine MR.of rfl (xn_le rfl) ?_
  refine (?_ : XR G m_P_passBlanksOfField (xr 1 0 0) (xr_F (some (.int (nI (sk (pb_pass B sep) b a))))) (wC G q x n f kf kl) 0 [(0, .ref (q 4)), (1, .int (nI a)), (2, .int (nI b))] [])
  have loop : ∀ (kk : Nat) (i : Nat), b - i = kk → i ≤ b → sk (pb_pass B sep) b i = sk (pb_pass B sep) b a → XR G m_P_passBlanksOfField (xr 1 0 0) (xr_F (some (.int (nI (sk (pb_pass B sep) b a))))) (wC G q x n f kf kl) 2 [(0, .ref (q 4)), (1, .int (nI a)), (2, .int (nI b)), (3, .int (nI i))] [] := by
    intro kk
    induction kk using Nat.strongRecOn with
    | _ kk ih =>
      intro i hk hi hr
      refine XR.iload_n dd_P_passBlanksOfField_2 rfl 3 rfl ?_
      refine XR.iload_n dd_P_passBlanksOfField_3 rfl 2 rfl ?_
      refine XR.ncmp_ge (tgt := 39) dd_P_passBlanksOfField_4 (by decide) (by omega) (by omega) (fun h4 => ?_) (fun h4 => ?_)
      ·
        refine XR.iload_n dd_P_passBlanksOfField_39 rfl 3 rfl ?_
        refine XR.tp (y := nI (sk (pb_pass B sep) b a)) (by rw [← hr, sk_stop (fun hz => by first | (exfalso; omega) | simp [pb_pass, h4])]) ?_
        exact XR.iret dd_P_passBlanksOfField_40 rfl
      ·
        refine XR.aload_n dd_P_passBlanksOfField_7 rfl 0 rfl ?_
        refine XR.get (q0 := 4) (v := .ref (q 1)) fl_P_9 dd_P_passBlanksOfField_8 rfl rfl ?_
        refine XR.iload_n dd_P_passBlanksOfField_11 rfl 3 rfl ?_
        refine XR.callV (Mk := m_T_isBlankAt) (n := 1) (As := [.int (nI i)]) (rest := []) (q0 := 1) (ci := 1) (c_T_isBlankAt ht (i := i) (by omega)) mt_T_isBlankAt mi_T_isBlankAt ml_P_62 rfl dd_P_passBlanksOfField_12 (rfl) rfl rfl ⟨xn_le rfl, xn_le rfl⟩ (xn_le rfl) rfl ?_
        refine XR.bif_eq (tgt := 39) dd_P_passBlanksOfField_15 (by decide) (fun h15 => ?_) (fun h15 => ?_)
        ·
          refine XR.iload_n dd_P_passBlanksOfField_39 rfl 3 rfl ?_
          refine XR.tp (y := nI (sk (pb_pass B sep) b a)) (by rw [← hr, sk_stop (fun hz => by first | (exfalso; omega) | simp [pb_pass, h4, h15])]) ?_
          exact XR.iret dd_P_passBlanksOfField_40 rfl
        ·
          refine XR.aload_n dd_P_passBlanksOfField_18 rfl 0 rfl ?_
          refine XR.get (q0 := 4) (v := .ref (q 1)) fl_P_9 dd_P_passBlanksOfField_19 rfl rfl ?_
          refine XR.iload_n dd_P_passBlanksOfField_22 rfl 3 rfl ?_
          refine XR.callV (Mk := m_T_at) (n := 1) (As := [.int (nI i)]) (rest := []) (q0 := 1) (ci := 1) (c_T_at ht (i := i) (by omega)) mt_T_at mi_T_at ml_P_66 rfl dd_P_passBlanksOfField_23 (rfl) rfl rfl ⟨xn_le rfl, xn_le rfl⟩ (xn_le rfl) rfl ?_
          refine XR.aload_n dd_P_passBlanksOfField_26 rfl 0 rfl ?_
          refine XR.get (q0 := 4) (v := .int (x 5)) fl_P_15 dd_P_passBlanksOfField_27 rfl rfl ?_
          refine XR.tp (y := sep) (hx5) ?_
          refine XR.icmp_eq (tgt := 39) dd_P_passBlanksOfField_30 (by decide) (fun h30 => ?_) (fun h30 => ?_)
          ·
            refine XR.iload_n dd_P_passBlanksOfField_39 rfl 3 rfl ?_
            refine XR.tp (y := nI (sk (pb_pass B sep) b a)) (by rw [← hr, sk_stop (fun hz => by first | (exfalso; omega) | simp [pb_pass, h4, h15, h30])]) ?_
            exact XR.iret dd_P_passBlanksOfField_40 rfl
          ·
            refine XR.iinc (z := 3) (v := nI (i + 1)) (lv2 := [(3, .int (nI (i + 1))), (0, .ref (q 4)), (1, .int (nI a)), (2, .int (nI b))]) dd_P_passBlanksOfField_33 rfl ((nI_succ _).symm) (by decide) rfl ?_
            refine XR.goto (tgt := 2) dd_P_passBlanksOfField_36 (by decide) ?_
            refine XR.lvs [1, 2, 3, 0] rfl ?_
            exact ih _ (by omega) (i + 1) rfl (by omega) (by rw [← hr, sk_step (a := i) (by omega) (by simp [pb_pass, h15, h30])])
  refine XR.iload_n dd_P_passBlanksOfField_0 rfl 1 rfl ?_
  refine XR.istore_n (lv2 := [(3, .int (nI a)), (0, .ref (q 4)), (1, .int (nI a)), (2, .int (nI b))]) dd_P_passBlanksOfField_1 rfl (by decide) rfl ?_
  refine XR.lvs [1, 2, 3, 0] rfl ?_
  exact loop _ a rfl ha rfl

set_option maxRecDepth 100000 in
set_option maxHeartbeats 4000000 in
theorem c_P_fieldStart {G : XG} {q : Nat → Nat} {x : Nat → Int32} {n : Nat → Nat} {f : Nat → Nat → Int32} {kf : Nat → Option Nat} {kl : va_W} {len bc : Nat} {br : Nat → Nat} {B : Nat → Int32} (ht : txt x n f len bc br B) {sep : Int32} (hx5 : x 5 = sep) {m a b : Nat} (hm : 1 ≤ m) (hm2 : m ≤ 1000) (hb : b ≤ len) (ha : a ≤ b) : MR G m_P_fieldStart (xr 1 0 0) [.ref (q 4), .int (nI m), .int (nI a), .int (nI b)] (wC G q x n f kf kl) (some (.int (oN (fl_start B sep b (m - 1) a)))) := by
  obtain ⟨hx3, hx4, hl0, hn0, hb1, hn1, hbr, hB⟩ := id ht
  refine MR.of rfl (xn_le rfl) ?_
  refine (?_ : XR G m_P_fieldStart (xr 1 0 0) (xr_F (some (.int (oN (fl_start B sep b (m - 1) a))))) (wC G q x n f kf kl) 0 [(0, .ref (q 4)), (1, .int (nI m)), (2, .int (nI a)), (3, .int (nI b))] [])
  have loop : ∀ (kk : Nat) (i j : Nat), m - j = kk → 1 ≤ j → j ≤ m → i ≤ b → fl_start B sep b (m - j) i = fl_start B sep b (m - 1) a → XR G m_P_fieldStart (xr 1 0 0) (xr_F (some (.int (oN (fl_start B sep b (m - 1) a))))) (wC G q x n f kf kl) 6 [(0, .ref (q 4)), (1, .int (nI m)), (2, .int (nI a)), (3, .int (nI b)), (4, .int (nI i)), (5, .int (nI j))] [] := by
    intro kk
    induction kk using Nat.strongRecOn with
    | _ kk ih =>
      intro i j hkk hj1 hj hi hr
      refine XR.iload dd_P_fieldStart_6 5 rfl ?_
      refine XR.iload_n dd_P_fieldStart_8 rfl 1 rfl ?_
      refine XR.ncmp_ge (tgt := 46) dd_P_fieldStart_9 (by decide) (by omega) (by omega) (fun h9 => ?_) (fun h9 => ?_)
      ·
        refine XR.iload dd_P_fieldStart_46 4 rfl ?_
        refine XR.tp (y := oN (fl_start B sep b (m - 1) a)) (by rw [← hr, show m - j = 0 by omega]; simp [fl_start, oN, h9]) ?_
        exact XR.iret dd_P_fieldStart_48 rfl
      ·
        refine XR.aload_n dd_P_fieldStart_12 rfl 0 rfl ?_
        refine XR.iload dd_P_fieldStart_13 4 rfl ?_
        refine XR.iload_n dd_P_fieldStart_15 rfl 3 rfl ?_
        have hle := fl_stop_le (B := B) (sep := sep) hi
        refine XR.callV (Mk := m_P_fieldStop) (n := 2) (As := [.int (nI i), .int (nI b)]) (rest := []) (q0 := 4) (ci := 2) (c_P_fieldStop ht hx5 (a := i) (b := b) hb hi) mt_P_fieldStop mi_P_fieldStop ml_P_55 rfl dd_P_fieldStart_16 (rfl) rfl rfl ⟨xn_le rfl, xn_le rfl⟩ (xn_le rfl) rfl ?_
        refine XR.istore (lv2 := [(4, .int (nI (fl_stop B sep b i))), (0, .ref (q 4)), (1, .int (nI m)), (2, .int (nI a)), (3, .int (nI b)), (5, .int (nI j))]) dd_P_fieldStart_19 (by decide) rfl ?_
        refine XR.iload dd_P_fieldStart_21 0 rfl ?_
        refine XR.iload_n dd_P_fieldStart_23 rfl 4 rfl ?_
        refine XR.ncmp_ne (tgt := 29) dd_P_fieldStart_24 (by decide) (by omega) (by omega) (fun h24 => ?_) (fun h24 => ?_)
        ·
          refine XR.aload_n dd_P_fieldStart_29 rfl 1 rfl ?_
          refine XR.get (q0 := 4) (v := .int (x 5)) fl_P_15 dd_P_fieldStart_30 rfl rfl ?_
          refine XR.tp (y := sep) (hx5) ?_
          refine XR.iconst (v := -1) dd_P_fieldStart_33 (by decide) ?_
          refine XR.icmp_eq (tgt := 40) dd_P_fieldStart_34 (by decide) (fun h34 => ?_) (fun h34 => ?_)
          ·
            refine XR.iinc (z := 5) (v := nI (j + 1)) (lv2 := [(5, .int (nI (j + 1))), (4, .int (nI (fl_stop B sep b i))), (0, .ref (q 4)), (1, .int (nI m)), (2, .int (nI a)), (3, .int (nI b))]) dd_P_fieldStart_40 rfl ((nI_succ _).symm) (by decide) rfl ?_
            refine XR.goto (tgt := 6) dd_P_fieldStart_43 (by decide) ?_
            refine XR.lvs [2, 3, 4, 5, 1, 0] rfl ?_
            exact ih _ (by omega) _ (j + 1) rfl (by omega) (by omega) (by omega) (by rw [← hr, show m - j = (m - (j + 1)) + 1 by omega, fl_start, if_neg h24, if_pos h34])
          ·
            refine XR.iinc (z := 0) (v := nI (fl_stop B sep b i + 1)) (lv2 := [(4, .int (nI (fl_stop B sep b i + 1))), (0, .ref (q 4)), (1, .int (nI m)), (2, .int (nI a)), (3, .int (nI b)), (5, .int (nI j))]) dd_P_fieldStart_37 rfl ((nI_succ _).symm) (by decide) rfl ?_
            refine XR.iinc (z := 5) (v := nI (j + 1)) (lv2 := [(5, .int (nI (j + 1))), (4, .int (nI (fl_stop B sep b i + 1))), (0, .ref (q 4)), (1, .int (nI m)), (2, .int (nI a)), (3, .int (nI b))]) dd_P_fieldStart_40 rfl ((nI_succ _).symm) (by decide) rfl ?_
            refine XR.goto (tgt := 6) dd_P_fieldStart_43 (by decide) ?_
            refine XR.lvs [2, 3, 4, 5, 1, 0] rfl ?_
            exact ih _ (by omega) _ (j + 1) rfl (by omega) (by omega) (by omega) (by rw [← hr, show m - j = (m - (j + 1)) + 1 by omega, fl_start, if_neg h24, if_neg h34])
        ·
          refine XR.iconst (v := -1) dd_P_fieldStart_27 (by decide) ?_
          refine XR.tp (y := oN (fl_start B sep b (m - 1) a)) (by rw [← hr, show m - j = (m - 1 - j) + 1 by omega]; simp [fl_start, oN, h9, h24]) ?_
          exact XR.iret dd_P_fieldStart_28 rfl
  refine XR.iload_n dd_P_fieldStart_0 rfl 2 rfl ?_
  refine XR.istore (lv2 := [(4, .int (nI a)), (0, .ref (q 4)), (1, .int (nI m)), (2, .int (nI a)), (3, .int (nI b))]) dd_P_fieldStart_1 (by decide) rfl ?_
  refine XR.iconst (v := nI 1) dd_P_fieldStart_3 (by decide) ?_
  refine XR.istore (lv2 := [(5, .int (nI 1)), (4, .int (nI a)), (0, .ref (q 4)), (1, .int (nI m)), (2, .int (nI a)), (3, .int (nI b))]) dd_P_fieldStart_4 (by decide) rfl ?_
  refine XR.lvs [2, 3, 4, 5, 1, 0] rfl ?_
  exact loop _ a 1 rfl (by omega) (by omega) ha rfl

theorem oN_none {o : Option Nat} (h : oN o = -1) (hb : ∀ a, o = some a → a < 2 ^ 31) : o = none := by
  cases o with
  | none => rfl
  | some a =>
    exfalso
    have h1 : nI a = -1 := h
    have h2 := congrArg Int32.toInt h1
    rw [nI_toInt (hb a rfl)] at h2
    have h3 : (-1 : Int32).toInt = -1 := by decide
    omega
theorem oN_some {o : Option Nat} (h : ¬ oN o = -1) : ∃ a, o = some a := by
  cases o with
  | none => exact absurd rfl h
  | some a => exact ⟨a, rfl⟩
set_option maxRecDepth 100000 in
set_option maxHeartbeats 4000000 in
theorem c_P_beginOf {G : XG} {q : Nat → Nat} {x : Nat → Int32} {n : Nat → Nat} {f : Nat → Nat → Int32} {kf : Nat → Option Nat} {kl : va_W} {len bc : Nat} {br : Nat → Nat} {B : Nat → Int32} (ht : txt x n f len bc br B) {sep : Int32} (hx5 : x 5 = sep) {ka kp d0 d1 d2 d3 : Nat} {fl g : Int32} (he : (wC G q x n f kf kl)[kp]? = some (ka, .inr (4, [.int (nI d0), .int (nI d1), .int (nI d2), .int (nI d3), .int g]))) {l : Nat} (hl : l ≤ bc) (hss : tx_start br l ≤ tx_stop len bc br l) (hd0 : 1 ≤ d0) (hd0b : d0 ≤ 1000) (hd1 : 1 ≤ d1) (hd1b : d1 ≤ 1000) (hd2 : d2 ≤ 1000) (hd3 : d3 ≤ 1000) : MR G m_P_beginOf (xr 2 0 0) [.ref (q 4), .ref ka, .int fl, .int (nI l)] (wC G q x n f kf kl) (some (.int (nI (ky_begin B sep fl d0 d1 (tx_start br l) (tx_stop len bc br l))))) := by
  obtain ⟨hx3, hx4, hl0, hn0, hb1, hn1, hbr, hB⟩ := id ht
  have hsp := tx_stop_le (fun i h => (hbr i h).2) l
  refine MR.of rfl (xn_le rfl) ?_
  refine (?_ : XR G m_P_beginOf (xr 2 0 0) (xr_F (some (.int (nI (ky_begin B sep fl d0 d1 (tx_start br l) (tx_stop len bc br l)))))) (wC G q x n f kf kl) 0 [(0, .ref (q 4)), (1, .ref ka), (2, .int fl), (3, .int (nI l))] [])
  refine XR.aload_n dd_P_beginOf_0 rfl 0 rfl ?_
  refine XR.get (q0 := 4) (v := .ref (q 1)) fl_P_9 dd_P_beginOf_1 rfl rfl ?_
  refine XR.iload_n dd_P_beginOf_4 rfl 3 rfl ?_
  refine XR.callV (Mk := m_T_stopOf) (n := 1) (As := [.int (nI l)]) (rest := []) (q0 := 1) (ci := 1) (c_T_stopOf ht (l := l) (by omega)) mt_T_stopOf mi_T_stopOf ml_P_19 rfl dd_P_beginOf_5 (rfl) rfl rfl ⟨xn_le rfl, xn_le rfl⟩ (xn_le rfl) rfl ?_
  refine XR.istore (lv2 := [(4, .int (nI (tx_stop len bc br l))), (0, .ref (q 4)), (1, .ref ka), (2, .int fl), (3, .int (nI l))]) dd_P_beginOf_8 (by decide) rfl ?_
  refine XR.aload_n dd_P_beginOf_10 rfl 1 rfl ?_
  refine XR.aload_n dd_P_beginOf_11 rfl 2 rfl ?_
  refine XR.get (v := .int (nI d0)) fl_P_25 dd_P_beginOf_12 (he) rfl ?_
  refine XR.aload_n dd_P_beginOf_15 rfl 1 rfl ?_
  refine XR.get (q0 := 4) (v := .ref (q 1)) fl_P_9 dd_P_beginOf_16 rfl rfl ?_
  refine XR.iload_n dd_P_beginOf_19 rfl 4 rfl ?_
  refine XR.callV (Mk := m_T_startOf) (n := 1) (As := [.int (nI l)]) (rest := [.int (nI d0), .ref (q 4)]) (q0 := 1) (ci := 1) (c_T_startOf ht (l := l) hl) mt_T_startOf mi_T_startOf ml_P_30 rfl dd_P_beginOf_20 (rfl) rfl rfl ⟨xn_le rfl, xn_le rfl⟩ (xn_le rfl) rfl ?_
  refine XR.iload dd_P_beginOf_23 0 rfl ?_
  refine XR.callV (Mk := m_P_fieldStart) (n := 3) (As := [.int (nI d0), .int (nI (tx_start br l)), .int (nI (tx_stop len bc br l))]) (rest := []) (q0 := 4) (ci := 2) (c_P_fieldStart ht hx5 (m := d0) (a := tx_start br l) (b := tx_stop len bc br l) (by omega) (by omega) hsp hss) mt_P_fieldStart mi_P_fieldStart ml_P_33 rfl dd_P_beginOf_25 (rfl) rfl rfl ⟨xn_le rfl, xn_le rfl⟩ (xn_le rfl) rfl ?_
  refine XR.istore (lv2 := [(5, .int (oN (fl_start B sep (tx_stop len bc br l) (d0 - 1) (tx_start br l)))), (4, .int (nI (tx_stop len bc br l))), (0, .ref (q 4)), (1, .ref ka), (2, .int fl), (3, .int (nI l))]) dd_P_beginOf_28 (by decide) rfl ?_
  refine XR.iload dd_P_beginOf_30 0 rfl ?_
  refine XR.iconst (v := -1) dd_P_beginOf_32 (by decide) ?_
  refine XR.icmp_ne (tgt := 39) dd_P_beginOf_33 (by decide) (fun h33 => ?_) (fun h33 => ?_)
  ·
    obtain ⟨i, hi0⟩ := oN_some h33
    have hi := fl_start_le hss hi0
    refine XR.cg (ws2 := wC G q x n f kf kl) (lv2 := [(5, .int (nI i)), (4, .int (nI (tx_stop len bc br l))), (0, .ref (q 4)), (1, .ref ka), (2, .int fl), (3, .int (nI l))]) rfl (by rw [hi0]; rfl) rfl ?_
    refine XR.iload_n dd_P_beginOf_39 rfl 4 rfl ?_
    refine XR.iconst (v := nI 1) dd_P_beginOf_40 (by decide) ?_
    refine XR.iand dd_P_beginOf_41 ?_
    refine XR.if_eq (tgt := 55) dd_P_beginOf_42 (by decide) (fun h42 => ?_) (fun h42 => ?_)
    ·
      refine XR.iload dd_P_beginOf_55 1 rfl ?_
      refine XR.iload dd_P_beginOf_57 0 rfl ?_
      refine XR.aload_n dd_P_beginOf_59 rfl 3 rfl ?_
      refine XR.get (v := .int (nI d1)) fl_P_41 dd_P_beginOf_60 (he) rfl ?_
      refine XR.iadd dd_P_beginOf_63 ?_
      refine XR.tp (y := nI (i + d1)) (nI_add _ _) ?_
      refine XR.iconst (v := nI 1) dd_P_beginOf_64 (by decide) ?_
      refine XR.isub dd_P_beginOf_65 ?_
      refine XR.tp (y := nI (i + d1 - 1)) (pk_sub (by omega)) ?_
      refine XR.mmin dd_P_beginOf_66 ml_P_44 jm_min_s jm_i jm_min_c (xn_le rfl) (xn_le rfl) ⟨xn_le rfl, xn_le rfl⟩ ?_
      refine XR.tp (y := nI (min (tx_stop len bc br l) (i + d1 - 1))) (xn_min (by omega) (by omega)) ?_
      refine XR.tp (y := nI (ky_begin B sep fl d0 d1 (tx_start br l) (tx_stop len bc br l))) (by simp [ky_begin, hi0, h42]) ?_
      exact XR.iret dd_P_beginOf_69 rfl
    ·
      refine XR.aload_n dd_P_beginOf_45 rfl 2 rfl ?_
      refine XR.iload dd_P_beginOf_46 0 rfl ?_
      refine XR.iload dd_P_beginOf_48 1 rfl ?_
      refine XR.callV (Mk := m_P_passBlanksOfField) (n := 2) (As := [.int (nI i), .int (nI (tx_stop len bc br l))]) (rest := []) (q0 := 4) (ci := 2) (c_P_passBlanksOfField ht hx5 (a := i) (b := tx_stop len bc br l) hsp hi) mt_P_passBlanksOfField mi_P_passBlanksOfField ml_P_37 rfl dd_P_beginOf_50 (rfl) rfl rfl ⟨xn_le rfl, xn_le rfl⟩ (xn_le rfl) rfl ?_
      have hi2 := sk_le (p := pb_pass B sep) hi
      refine XR.istore (lv2 := [(5, .int (nI (sk (pb_pass B sep) (tx_stop len bc br l) i))), (4, .int (nI (tx_stop len bc br l))), (0, .ref (q 4)), (1, .ref ka), (2, .int fl), (3, .int (nI l))]) dd_P_beginOf_53 (by decide) rfl ?_
      refine XR.iload dd_P_beginOf_55 1 rfl ?_
      refine XR.iload dd_P_beginOf_57 0 rfl ?_
      refine XR.aload_n dd_P_beginOf_59 rfl 3 rfl ?_
      refine XR.get (v := .int (nI d1)) fl_P_41 dd_P_beginOf_60 (he) rfl ?_
      refine XR.iadd dd_P_beginOf_63 ?_
      refine XR.tp (y := nI (sk (pb_pass B sep) (tx_stop len bc br l) i + d1)) (nI_add _ _) ?_
      refine XR.iconst (v := nI 1) dd_P_beginOf_64 (by decide) ?_
      refine XR.isub dd_P_beginOf_65 ?_
      refine XR.tp (y := nI (sk (pb_pass B sep) (tx_stop len bc br l) i + d1 - 1)) (pk_sub (by omega)) ?_
      refine XR.mmin dd_P_beginOf_66 ml_P_44 jm_min_s jm_i jm_min_c (xn_le rfl) (xn_le rfl) ⟨xn_le rfl, xn_le rfl⟩ ?_
      refine XR.tp (y := nI (min (tx_stop len bc br l) (sk (pb_pass B sep) (tx_stop len bc br l) i + d1 - 1))) (xn_min (by omega) (by omega)) ?_
      refine XR.tp (y := nI (ky_begin B sep fl d0 d1 (tx_start br l) (tx_stop len bc br l))) (by simp [ky_begin, hi0, h42]) ?_
      exact XR.iret dd_P_beginOf_69 rfl
  ·
    refine XR.iload dd_P_beginOf_36 1 rfl ?_
    have hn0 := oN_none h33 (fun a h => by have := fl_start_le hss h; omega)
    refine XR.tp (y := nI (ky_begin B sep fl d0 d1 (tx_start br l) (tx_stop len bc br l))) (by simp [ky_begin, hn0]) ?_
    exact XR.iret dd_P_beginOf_38 rfl

set_option maxRecDepth 100000 in
set_option maxHeartbeats 4000000 in
theorem c_P_endOf {G : XG} {q : Nat → Nat} {x : Nat → Int32} {n : Nat → Nat} {f : Nat → Nat → Int32} {kf : Nat → Option Nat} {kl : va_W} {len bc : Nat} {br : Nat → Nat} {B : Nat → Int32} (ht : txt x n f len bc br B) {sep : Int32} (hx5 : x 5 = sep) {ka kp d0 d1 d2 d3 : Nat} {fl g : Int32} (he : (wC G q x n f kf kl)[kp]? = some (ka, .inr (4, [.int (nI d0), .int (nI d1), .int (nI d2), .int (nI d3), .int g]))) {l : Nat} (hl : l ≤ bc) (hss : tx_start br l ≤ tx_stop len bc br l) (hd0 : 1 ≤ d0) (hd0b : d0 ≤ 1000) (hd1 : 1 ≤ d1) (hd1b : d1 ≤ 1000) (hd2 : d2 ≤ 1000) (hd3 : d3 ≤ 1000) : MR G m_P_endOf (xr 2 0 0) [.ref (q 4), .ref ka, .int fl, .int (nI l)] (wC G q x n f kf kl) (some (.int (nI (ky_end B sep fl d2 d3 (tx_start br l) (tx_stop len bc br l))))) := by
  obtain ⟨hx3, hx4, hl0, hn0, hb1, hn1, hbr, hB⟩ := id ht
  have hsp := tx_stop_le (fun i h => (hbr i h).2) l
  refine MR.of rfl (xn_le rfl) ?_
  refine (?_ : XR G m_P_endOf (xr 2 0 0) (xr_F (some (.int (nI (ky_end B sep fl d2 d3 (tx_start br l) (tx_stop len bc br l)))))) (wC G q x n f kf kl) 0 [(0, .ref (q 4)), (1, .ref ka), (2, .int fl), (3, .int (nI l))] [])
  refine XR.aload_n dd_P_endOf_0 rfl 0 rfl ?_
  refine XR.get (q0 := 4) (v := .ref (q 1)) fl_P_9 dd_P_endOf_1 rfl rfl ?_
  refine XR.iload_n dd_P_endOf_4 rfl 3 rfl ?_
  refine XR.callV (Mk := m_T_stopOf) (n := 1) (As := [.int (nI l)]) (rest := []) (q0 := 1) (ci := 1) (c_T_stopOf ht (l := l) (by omega)) mt_T_stopOf mi_T_stopOf ml_P_19 rfl dd_P_endOf_5 (rfl) rfl rfl ⟨xn_le rfl, xn_le rfl⟩ (xn_le rfl) rfl ?_
  refine XR.istore (lv2 := [(4, .int (nI (tx_stop len bc br l))), (0, .ref (q 4)), (1, .ref ka), (2, .int fl), (3, .int (nI l))]) dd_P_endOf_8 (by decide) rfl ?_
  refine XR.aload_n dd_P_endOf_10 rfl 2 rfl ?_
  refine XR.get (v := .int (nI d2)) fl_P_49 dd_P_endOf_11 (he) rfl ?_
  refine XR.nif_ne (tgt := 20) dd_P_endOf_14 (by decide) (by omega) (fun h14 => ?_) (fun h14 => ?_)
  ·
    refine XR.aload_n dd_P_endOf_20 rfl 1 rfl ?_
    refine XR.aload_n dd_P_endOf_21 rfl 2 rfl ?_
    refine XR.get (v := .int (nI d2)) fl_P_49 dd_P_endOf_22 (he) rfl ?_
    refine XR.aload_n dd_P_endOf_25 rfl 1 rfl ?_
    refine XR.get (q0 := 4) (v := .ref (q 1)) fl_P_9 dd_P_endOf_26 rfl rfl ?_
    refine XR.iload_n dd_P_endOf_29 rfl 4 rfl ?_
    refine XR.callV (Mk := m_T_startOf) (n := 1) (As := [.int (nI l)]) (rest := [.int (nI d2), .ref (q 4)]) (q0 := 1) (ci := 1) (c_T_startOf ht (l := l) hl) mt_T_startOf mi_T_startOf ml_P_30 rfl dd_P_endOf_30 (rfl) rfl rfl ⟨xn_le rfl, xn_le rfl⟩ (xn_le rfl) rfl ?_
    refine XR.iload dd_P_endOf_33 0 rfl ?_
    refine XR.callV (Mk := m_P_fieldStart) (n := 3) (As := [.int (nI d2), .int (nI (tx_start br l)), .int (nI (tx_stop len bc br l))]) (rest := []) (q0 := 4) (ci := 2) (c_P_fieldStart ht hx5 (m := d2) (a := tx_start br l) (b := tx_stop len bc br l) (by omega) (by omega) hsp hss) mt_P_fieldStart mi_P_fieldStart ml_P_33 rfl dd_P_endOf_35 (rfl) rfl rfl ⟨xn_le rfl, xn_le rfl⟩ (xn_le rfl) rfl ?_
    refine XR.istore (lv2 := [(5, .int (oN (fl_start B sep (tx_stop len bc br l) (d2 - 1) (tx_start br l)))), (4, .int (nI (tx_stop len bc br l))), (0, .ref (q 4)), (1, .ref ka), (2, .int fl), (3, .int (nI l))]) dd_P_endOf_38 (by decide) rfl ?_
    refine XR.iload dd_P_endOf_40 0 rfl ?_
    refine XR.iconst (v := -1) dd_P_endOf_42 (by decide) ?_
    refine XR.icmp_ne (tgt := 49) dd_P_endOf_43 (by decide) (fun h43 => ?_) (fun h43 => ?_)
    ·
      obtain ⟨i, hi0⟩ := oN_some h43
      have hi := fl_start_le hss hi0
      refine XR.cg (ws2 := wC G q x n f kf kl) (lv2 := [(5, .int (nI i)), (4, .int (nI (tx_stop len bc br l))), (0, .ref (q 4)), (1, .ref ka), (2, .int fl), (3, .int (nI l))]) rfl (by rw [hi0]; rfl) rfl ?_
      refine XR.aload_n dd_P_endOf_49 rfl 3 rfl ?_
      refine XR.get (v := .int (nI d3)) fl_P_52 dd_P_endOf_50 (he) rfl ?_
      refine XR.nif_ne (tgt := 65) dd_P_endOf_53 (by decide) (by omega) (fun h53 => ?_) (fun h53 => ?_)
      ·
        refine XR.iload_n dd_P_endOf_65 rfl 4 rfl ?_
        refine XR.bipush (v := nI 64) dd_P_endOf_66 (by decide) ?_
        refine XR.iand dd_P_endOf_68 ?_
        refine XR.if_eq (tgt := 82) dd_P_endOf_69 (by decide) (fun h69 => ?_) (fun h69 => ?_)
        ·
          refine XR.iload dd_P_endOf_82 1 rfl ?_
          refine XR.iload dd_P_endOf_84 0 rfl ?_
          refine XR.aload_n dd_P_endOf_86 rfl 3 rfl ?_
          refine XR.get (v := .int (nI d3)) fl_P_52 dd_P_endOf_87 (he) rfl ?_
          refine XR.iadd dd_P_endOf_90 ?_
          refine XR.tp (y := nI (i + d3)) (nI_add _ _) ?_
          refine XR.mmin dd_P_endOf_91 ml_P_44 jm_min_s jm_i jm_min_c (xn_le rfl) (xn_le rfl) ⟨xn_le rfl, xn_le rfl⟩ ?_
          refine XR.tp (y := nI (min (tx_stop len bc br l) (i + d3))) (xn_min (by omega) (by omega)) ?_
          refine XR.tp (y := nI (ky_end B sep fl d2 d3 (tx_start br l) (tx_stop len bc br l))) (by unfold ky_end; rw [if_neg (by omega)]; simp only [hi0]; rw [if_neg (by omega), if_pos h69]) ?_
          exact XR.iret dd_P_endOf_94 rfl
        ·
          refine XR.aload_n dd_P_endOf_72 rfl 2 rfl ?_
          refine XR.iload dd_P_endOf_73 0 rfl ?_
          refine XR.iload dd_P_endOf_75 1 rfl ?_
          refine XR.callV (Mk := m_P_passBlanksOfField) (n := 2) (As := [.int (nI i), .int (nI (tx_stop len bc br l))]) (rest := []) (q0 := 4) (ci := 2) (c_P_passBlanksOfField ht hx5 (a := i) (b := tx_stop len bc br l) hsp hi) mt_P_passBlanksOfField mi_P_passBlanksOfField ml_P_37 rfl dd_P_endOf_77 (rfl) rfl rfl ⟨xn_le rfl, xn_le rfl⟩ (xn_le rfl) rfl ?_
          have hi2 := sk_le (p := pb_pass B sep) hi
          refine XR.istore (lv2 := [(5, .int (nI (sk (pb_pass B sep) (tx_stop len bc br l) i))), (4, .int (nI (tx_stop len bc br l))), (0, .ref (q 4)), (1, .ref ka), (2, .int fl), (3, .int (nI l))]) dd_P_endOf_80 (by decide) rfl ?_
          refine XR.iload dd_P_endOf_82 1 rfl ?_
          refine XR.iload dd_P_endOf_84 0 rfl ?_
          refine XR.aload_n dd_P_endOf_86 rfl 3 rfl ?_
          refine XR.get (v := .int (nI d3)) fl_P_52 dd_P_endOf_87 (he) rfl ?_
          refine XR.iadd dd_P_endOf_90 ?_
          refine XR.tp (y := nI (sk (pb_pass B sep) (tx_stop len bc br l) i + d3)) (nI_add _ _) ?_
          refine XR.mmin dd_P_endOf_91 ml_P_44 jm_min_s jm_i jm_min_c (xn_le rfl) (xn_le rfl) ⟨xn_le rfl, xn_le rfl⟩ ?_
          refine XR.tp (y := nI (min (tx_stop len bc br l) (sk (pb_pass B sep) (tx_stop len bc br l) i + d3))) (xn_min (by omega) (by omega)) ?_
          refine XR.tp (y := nI (ky_end B sep fl d2 d3 (tx_start br l) (tx_stop len bc br l))) (by unfold ky_end; rw [if_neg (by omega)]; simp only [hi0]; rw [if_neg (by omega), if_neg h69]) ?_
          exact XR.iret dd_P_endOf_94 rfl
      ·
        refine XR.aload_n dd_P_endOf_56 rfl 2 rfl ?_
        refine XR.iload dd_P_endOf_57 0 rfl ?_
        refine XR.iload dd_P_endOf_59 1 rfl ?_
        refine XR.callV (Mk := m_P_fieldStop) (n := 2) (As := [.int (nI i), .int (nI (tx_stop len bc br l))]) (rest := []) (q0 := 4) (ci := 2) (c_P_fieldStop ht hx5 (a := i) (b := tx_stop len bc br l) hsp hi) mt_P_fieldStop mi_P_fieldStop ml_P_55 rfl dd_P_endOf_61 (rfl) rfl rfl ⟨xn_le rfl, xn_le rfl⟩ (xn_le rfl) rfl ?_
        refine XR.tp (y := nI (ky_end B sep fl d2 d3 (tx_start br l) (tx_stop len bc br l))) (by unfold ky_end; rw [if_neg (by omega)]; simp only [hi0]; rw [if_pos h53]) ?_
        exact XR.iret dd_P_endOf_64 rfl
    ·
      refine XR.iload dd_P_endOf_46 1 rfl ?_
      have hn0 := oN_none h43 (fun a h => by have := fl_start_le hss h; omega)
      refine XR.tp (y := nI (ky_end B sep fl d2 d3 (tx_start br l) (tx_stop len bc br l))) (by simp [ky_end, hn0, h14]) ?_
      exact XR.iret dd_P_endOf_48 rfl
  ·
    refine XR.iload dd_P_endOf_17 0 rfl ?_
    refine XR.tp (y := nI (ky_end B sep fl d2 d3 (tx_start br l) (tx_stop len bc br l))) (by simp [ky_end, h14]) ?_
    exact XR.iret dd_P_endOf_19 rfl

