set_option maxRecDepth 100000 in
set_option maxHeartbeats 4000000 in
theorem c_T_weightOf {G : XG} {q : Nat → Nat} {x : Nat → Int32} {n : Nat → Nat} {f : Nat → Nat → Int32} {kf : Nat → Option Nat} {kl : va_W} {v fl : Int32} : MR G m_T_weightOf (xr 0 0 0) [.int v, .int fl] (wC G q x n f kf kl) (some (.int (wg_t v fl))) := by
  refine MR.of rfl (xn_le rfl) ?_
  refine (?_ : XR G m_T_weightOf (xr 0 0 0) (xr_F (some (.int (wg_t v fl)))) (wC G q x n f kf kl) 0 [(0, .int v), (1, .int fl)] [])
  have j123 : (!decide (fl &&& nI 8 = 0) && (decide (v < nI 32) || decide (nI 126 < v))) = false → (!decide (fl &&& nI 2 = 0) && (!wg_blank v && !wg_small v && !wg_cap v && !wg_dig v)) = false → XR G m_T_weightOf (xr 0 0 0) (xr_F (some (.int (wg_t v fl)))) (wC G q x n f kf kl) 123 [(0, .int v), (1, .int fl), (2, .int (bI (wg_small v)))] [] := by
    intro hA hB
    refine XR.iload_n dd_T_weightOf_123 rfl 2 rfl ?_
    refine XR.bif_eq (tgt := 143) dd_T_weightOf_124 (by decide) (fun h124 => ?_) (fun h124 => ?_)
    ·
      refine XR.iload_n dd_T_weightOf_143 rfl 0 rfl ?_
      refine XR.tp (y := wg_t v fl) (by unfold wg_t; rw [if_neg (by rw [hA]; decide), if_neg (by rw [hB]; decide)]; simp [h124]) ?_
      exact XR.iret dd_T_weightOf_144 rfl
    ·
      refine XR.iload_n dd_T_weightOf_127 rfl 1 rfl ?_
      refine XR.iconst (v := nI 4) dd_T_weightOf_128 (by decide) ?_
      refine XR.iand dd_T_weightOf_129 ?_
      refine XR.if_eq (tgt := 143) dd_T_weightOf_130 (by decide) (fun h130 => ?_) (fun h130 => ?_)
      ·
        refine XR.iload_n dd_T_weightOf_143 rfl 0 rfl ?_
        refine XR.tp (y := wg_t v fl) (by unfold wg_t; rw [if_neg (by rw [hA]; decide), if_neg (by rw [hB]; decide)]; simp [h124, h130]) ?_
        exact XR.iret dd_T_weightOf_144 rfl
      ·
        refine XR.iload_n dd_T_weightOf_133 rfl 0 rfl ?_
        refine XR.bipush (v := nI 97) dd_T_weightOf_134 (by decide) ?_
        refine XR.isub dd_T_weightOf_136 ?_
        refine XR.bipush (v := nI 65) dd_T_weightOf_137 (by decide) ?_
        refine XR.iadd dd_T_weightOf_139 ?_
        refine XR.goto (tgt := 144) dd_T_weightOf_140 (by decide) ?_
        refine XR.tp (y := wg_t v fl) (by unfold wg_t; rw [if_neg (by rw [hA]; decide), if_neg (by rw [hB]; decide)]; simp [h124, h130]) ?_
        exact XR.iret dd_T_weightOf_144 rfl
  have j22 : (!decide (fl &&& nI 8 = 0) && (decide (v < nI 32) || decide (nI 126 < v))) = false → XR G m_T_weightOf (xr 0 0 0) (xr_F (some (.int (wg_t v fl)))) (wC G q x n f kf kl) 22 [(0, .int v), (1, .int fl)] [] := by
    intro hA
    have j39 : XR G m_T_weightOf (xr 0 0 0) (xr_F (some (.int (wg_t v fl)))) (wC G q x n f kf kl) 39 [(0, .int v), (1, .int fl)] [.int (bI (wg_small v))] := by
      refine XR.istore_n (lv2 := [(2, .int (bI (wg_small v))), (0, .int v), (1, .int fl)]) dd_T_weightOf_39 rfl (by decide) rfl ?_
      refine XR.iload_n dd_T_weightOf_40 rfl 2 rfl ?_
      refine XR.iconst (v := nI 2) dd_T_weightOf_41 (by decide) ?_
      refine XR.iand dd_T_weightOf_42 ?_
      refine XR.if_eq (tgt := 123) dd_T_weightOf_43 (by decide) (fun h43 => ?_) (fun h43 => ?_)
      ·
        refine XR.lvs [1, 2, 0] rfl ?_
        exact j123 hA (by simp [h43])
      ·
        have j63 : XR G m_T_weightOf (xr 0 0 0) (xr_F (some (.int (wg_t v fl)))) (wC G q x n f kf kl) 63 [(2, .int (bI (wg_small v))), (0, .int v), (1, .int fl)] [.int (bI (wg_blank v))] := by
          refine XR.istore_n (lv2 := [(3, .int (bI (wg_blank v))), (2, .int (bI (wg_small v))), (0, .int v), (1, .int fl)]) dd_T_weightOf_63 rfl (by decide) rfl ?_
          have j81 : XR G m_T_weightOf (xr 0 0 0) (xr_F (some (.int (wg_t v fl)))) (wC G q x n f kf kl) 81 [(3, .int (bI (wg_blank v))), (2, .int (bI (wg_small v))), (0, .int v), (1, .int fl)] [.int (bI (wg_cap v))] := by
            refine XR.istore (lv2 := [(4, .int (bI (wg_cap v))), (3, .int (bI (wg_blank v))), (2, .int (bI (wg_small v))), (0, .int v), (1, .int fl)]) dd_T_weightOf_81 (by decide) rfl ?_
            have j100 : XR G m_T_weightOf (xr 0 0 0) (xr_F (some (.int (wg_t v fl)))) (wC G q x n f kf kl) 100 [(4, .int (bI (wg_cap v))), (3, .int (bI (wg_blank v))), (2, .int (bI (wg_small v))), (0, .int v), (1, .int fl)] [.int (bI (wg_dig v))] := by
              refine XR.istore (lv2 := [(5, .int (bI (wg_dig v))), (4, .int (bI (wg_cap v))), (3, .int (bI (wg_blank v))), (2, .int (bI (wg_small v))), (0, .int v), (1, .int fl)]) dd_T_weightOf_100 (by decide) rfl ?_
              refine XR.iload_n dd_T_weightOf_102 rfl 2 rfl ?_
              refine XR.bif_ne (tgt := 123) dd_T_weightOf_103 (by decide) (fun h103 => ?_) (fun h103 => ?_)
              ·
                refine XR.lvs [4, 5, 3] rfl ?_
                exact j123 hA (by simp [h43, h103])
              ·
                refine XR.iload_n dd_T_weightOf_106 rfl 3 rfl ?_
                refine XR.bif_ne (tgt := 123) dd_T_weightOf_107 (by decide) (fun h107 => ?_) (fun h107 => ?_)
                ·
                  refine XR.lvs [4, 5, 3] rfl ?_
                  exact j123 hA (by simp [h43, h103, h107])
                ·
                  refine XR.iload dd_T_weightOf_110 1 rfl ?_
                  refine XR.bif_ne (tgt := 123) dd_T_weightOf_112 (by decide) (fun h112 => ?_) (fun h112 => ?_)
                  ·
                    refine XR.lvs [4, 5, 3] rfl ?_
                    exact j123 hA (by simp [h43, h103, h107, h112])
                  ·
                    refine XR.iload dd_T_weightOf_115 0 rfl ?_
                    refine XR.bif_ne (tgt := 123) dd_T_weightOf_117 (by decide) (fun h117 => ?_) (fun h117 => ?_)
                    ·
                      refine XR.lvs [4, 5, 3] rfl ?_
                      exact j123 hA (by simp [h43, h103, h107, h112, h117])
                    ·
                      refine XR.bipush (v := -2) dd_T_weightOf_120 (by decide) ?_
                      refine XR.tp (y := wg_t v fl) (by simp [wg_t, hA, h43, h103, h107, h112, h117]) ?_
                      exact XR.iret dd_T_weightOf_122 rfl
            refine XR.iload_n dd_T_weightOf_83 rfl 3 rfl ?_
            refine XR.bipush (v := nI 48) dd_T_weightOf_84 (by decide) ?_
            refine XR.icmp_lt (tgt := 99) dd_T_weightOf_86 (by decide) (fun h86 => ?_) (fun h86 => ?_)
            ·
              refine XR.iconst (v := nI 0) dd_T_weightOf_99 (by decide) ?_
              exact XR.tp (by first | (simp [bI, wg_dig, h43, h86]; done) | (simp [bI, wg_dig, h43, h86]; intros; exfalso; omega)) j100
            ·
              refine XR.iload_n dd_T_weightOf_89 rfl 3 rfl ?_
              refine XR.bipush (v := nI 57) dd_T_weightOf_90 (by decide) ?_
              refine XR.icmp_gt (tgt := 99) dd_T_weightOf_92 (by decide) (fun h92 => ?_) (fun h92 => ?_)
              ·
                refine XR.iconst (v := nI 0) dd_T_weightOf_99 (by decide) ?_
                exact XR.tp (by first | (simp [bI, wg_dig, h43, h86, h92]; done) | (simp [bI, wg_dig, h43, h86, h92]; intros; exfalso; omega)) j100
              ·
                refine XR.iconst (v := nI 1) dd_T_weightOf_95 (by decide) ?_
                refine XR.goto (tgt := 100) dd_T_weightOf_96 (by decide) ?_
                exact XR.tp (by first | (simp [bI, wg_dig, h43, h86, h92]; done) | (simp [bI, wg_dig, h43, h86, h92]; intros; exfalso; omega)) j100
          refine XR.iload_n dd_T_weightOf_64 rfl 2 rfl ?_
          refine XR.bipush (v := nI 65) dd_T_weightOf_65 (by decide) ?_
          refine XR.icmp_lt (tgt := 80) dd_T_weightOf_67 (by decide) (fun h67 => ?_) (fun h67 => ?_)
          ·
            refine XR.iconst (v := nI 0) dd_T_weightOf_80 (by decide) ?_
            exact XR.tp (by first | (simp [bI, wg_cap, h43, h67]; done) | (simp [bI, wg_cap, h43, h67]; intros; exfalso; omega)) j81
          ·
            refine XR.iload_n dd_T_weightOf_70 rfl 2 rfl ?_
            refine XR.bipush (v := nI 90) dd_T_weightOf_71 (by decide) ?_
            refine XR.icmp_gt (tgt := 80) dd_T_weightOf_73 (by decide) (fun h73 => ?_) (fun h73 => ?_)
            ·
              refine XR.iconst (v := nI 0) dd_T_weightOf_80 (by decide) ?_
              exact XR.tp (by first | (simp [bI, wg_cap, h43, h67, h73]; done) | (simp [bI, wg_cap, h43, h67, h73]; intros; exfalso; omega)) j81
            ·
              refine XR.iconst (v := nI 1) dd_T_weightOf_76 (by decide) ?_
              refine XR.goto (tgt := 81) dd_T_weightOf_77 (by decide) ?_
              exact XR.tp (by first | (simp [bI, wg_cap, h43, h67, h73]; done) | (simp [bI, wg_cap, h43, h67, h73]; intros; exfalso; omega)) j81
        refine XR.iload_n dd_T_weightOf_46 rfl 1 rfl ?_
        refine XR.bipush (v := nI 32) dd_T_weightOf_47 (by decide) ?_
        refine XR.icmp_eq (tgt := 58) dd_T_weightOf_49 (by decide) (fun h49 => ?_) (fun h49 => ?_)
        ·
          refine XR.iconst (v := nI 1) dd_T_weightOf_58 (by decide) ?_
          refine XR.goto (tgt := 63) dd_T_weightOf_59 (by decide) ?_
          exact XR.tp (by first | (simp [bI, wg_blank, h43, h49]; done) | (simp [bI, wg_blank, h43, h49]; intros; exfalso; omega)) j63
        ·
          refine XR.iload_n dd_T_weightOf_52 rfl 1 rfl ?_
          refine XR.bipush (v := nI 9) dd_T_weightOf_53 (by decide) ?_
          refine XR.icmp_ne (tgt := 62) dd_T_weightOf_55 (by decide) (fun h55 => ?_) (fun h55 => ?_)
          ·
            refine XR.iconst (v := nI 0) dd_T_weightOf_62 (by decide) ?_
            exact XR.tp (by first | (simp [bI, wg_blank, h43, h49, h55]; done) | (simp [bI, wg_blank, h43, h49, h55]; intros; exfalso; omega)) j63
          ·
            refine XR.iconst (v := nI 1) dd_T_weightOf_58 (by decide) ?_
            refine XR.goto (tgt := 63) dd_T_weightOf_59 (by decide) ?_
            exact XR.tp (by first | (simp [bI, wg_blank, h43, h49, h55]; done) | (simp [bI, wg_blank, h43, h49, h55]; intros; exfalso; omega)) j63
    refine XR.iload_n dd_T_weightOf_22 rfl 0 rfl ?_
    refine XR.bipush (v := nI 97) dd_T_weightOf_23 (by decide) ?_
    refine XR.icmp_lt (tgt := 38) dd_T_weightOf_25 (by decide) (fun h25 => ?_) (fun h25 => ?_)
    ·
      refine XR.iconst (v := nI 0) dd_T_weightOf_38 (by decide) ?_
      exact XR.tp (by first | (simp [bI, wg_small, h25]; done) | (simp [bI, wg_small, h25]; intros; exfalso; omega)) j39
    ·
      refine XR.iload_n dd_T_weightOf_28 rfl 0 rfl ?_
      refine XR.bipush (v := nI 122) dd_T_weightOf_29 (by decide) ?_
      refine XR.icmp_gt (tgt := 38) dd_T_weightOf_31 (by decide) (fun h31 => ?_) (fun h31 => ?_)
      ·
        refine XR.iconst (v := nI 0) dd_T_weightOf_38 (by decide) ?_
        exact XR.tp (by first | (simp [bI, wg_small, h25, h31]; done) | (simp [bI, wg_small, h25, h31]; intros; exfalso; omega)) j39
      ·
        refine XR.iconst (v := nI 1) dd_T_weightOf_34 (by decide) ?_
        refine XR.goto (tgt := 39) dd_T_weightOf_35 (by decide) ?_
        exact XR.tp (by first | (simp [bI, wg_small, h25, h31]; done) | (simp [bI, wg_small, h25, h31]; intros; exfalso; omega)) j39
  refine XR.iload_n dd_T_weightOf_0 rfl 1 rfl ?_
  refine XR.bipush (v := nI 8) dd_T_weightOf_1 (by decide) ?_
  refine XR.iand dd_T_weightOf_3 ?_
  refine XR.if_eq (tgt := 22) dd_T_weightOf_4 (by decide) (fun h4 => ?_) (fun h4 => ?_)
  ·
    exact j22 (by simp [h4])
  ·
    refine XR.iload_n dd_T_weightOf_7 rfl 0 rfl ?_
    refine XR.bipush (v := nI 32) dd_T_weightOf_8 (by decide) ?_
    refine XR.icmp_lt (tgt := 19) dd_T_weightOf_10 (by decide) (fun h10 => ?_) (fun h10 => ?_)
    ·
      refine XR.bipush (v := -2) dd_T_weightOf_19 (by decide) ?_
      refine XR.tp (y := wg_t v fl) (by simp [wg_t, h4, h10]) ?_
      exact XR.iret dd_T_weightOf_21 rfl
    ·
      refine XR.iload_n dd_T_weightOf_13 rfl 0 rfl ?_
      refine XR.bipush (v := nI 126) dd_T_weightOf_14 (by decide) ?_
      refine XR.icmp_le (tgt := 22) dd_T_weightOf_16 (by decide) (fun h16 => ?_) (fun h16 => ?_)
      ·
        exact j22 (by simp [h4, h10, h16])
      ·
        refine XR.bipush (v := -2) dd_T_weightOf_19 (by decide) ?_
        refine XR.tp (y := wg_t v fl) (by simp [wg_t, h4, h10, h16]) ?_
        exact XR.iret dd_T_weightOf_21 rfl

set_option maxRecDepth 100000 in
set_option maxHeartbeats 4000000 in
theorem c_T_comparedBytes {G : XG} {q : Nat → Nat} {x : Nat → Int32} {n : Nat → Nat} {f : Nat → Nat → Int32} {kf : Nat → Option Nat} {kl : va_W} {len bc : Nat} {br : Nat → Nat} {B : Nat → Int32} (ht : txt x n f len bc br B) {a a2 b b2 : Nat} {fl : Int32} (ha : a ≤ len) (ha2 : a2 ≤ len) (hb : b ≤ len) (hb2 : b2 ≤ len) : MR G m_T_comparedBytes (xr 1 0 0) [.ref (q 1), .int (nI a), .int (nI a2), .int (nI b), .int (nI b2), .int fl] (wC G q x n f kf kl) (some (.int (oI (lx (wb B fl a a2) (wb B fl b b2))))) := by
  obtain ⟨hx3, hx4, hl0, hn0, hb1, hn1, hbr, hB⟩ := id ht
  refine MR.of rfl (xn_le rfl) ?_
  refine (?_ : XR G m_T_comparedBytes (xr 1 0 0) (xr_F (some (.int (oI (lx (wb B fl a a2) (wb B fl b b2)))))) (wC G q x n f kf kl) 0 [(0, .ref (q 1)), (1, .int (nI a)), (2, .int (nI a2)), (3, .int (nI b)), (4, .int (nI b2)), (5, .int fl)] [])
  have loop : ∀ (kk : Nat) (i j : Nat), (a2 - i) + (b2 - j) = kk → i ≤ len → j ≤ len → lx (wb B fl i a2) (wb B fl j b2) = lx (wb B fl a a2) (wb B fl b b2) → XR G m_T_comparedBytes (xr 1 0 0) (xr_F (some (.int (oI (lx (wb B fl a a2) (wb B fl b b2)))))) (wC G q x n f kf kl) 6 [(0, .ref (q 1)), (1, .int (nI a)), (2, .int (nI a2)), (3, .int (nI b)), (4, .int (nI b2)), (5, .int fl), (6, .int (nI i)), (7, .int (nI j))] [] := by
    intro kk
    induction kk using Nat.strongRecOn with
    | _ kk ih =>
      intro i j hk hi hj hr
      have j19 : i < a2 ∨ j < b2 → XR G m_T_comparedBytes (xr 1 0 0) (xr_F (some (.int (oI (lx (wb B fl a a2) (wb B fl b b2)))))) (wC G q x n f kf kl) 19 [(0, .ref (q 1)), (1, .int (nI a)), (2, .int (nI a2)), (3, .int (nI b)), (4, .int (nI b2)), (5, .int fl), (6, .int (nI i)), (7, .int (nI j))] [] := by
        intro ho
        have j40 : XR G m_T_comparedBytes (xr 1 0 0) (xr_F (some (.int (oI (lx (wb B fl a a2) (wb B fl b b2)))))) (wC G q x n f kf kl) 40 [(0, .ref (q 1)), (1, .int (nI a)), (2, .int (nI a2)), (3, .int (nI b)), (4, .int (nI b2)), (5, .int fl), (6, .int (nI i)), (7, .int (nI j))] [.int (if i < a2 then wgB B fl i else -1)] := by
          refine XR.istore (lv2 := [(8, .int (if i < a2 then wgB B fl i else -1)), (0, .ref (q 1)), (1, .int (nI a)), (2, .int (nI a2)), (3, .int (nI b)), (4, .int (nI b2)), (5, .int fl), (6, .int (nI i)), (7, .int (nI j))]) dd_T_comparedBytes_40 (by decide) rfl ?_
          have j64 : XR G m_T_comparedBytes (xr 1 0 0) (xr_F (some (.int (oI (lx (wb B fl a a2) (wb B fl b b2)))))) (wC G q x n f kf kl) 64 [(8, .int (if i < a2 then wgB B fl i else -1)), (0, .ref (q 1)), (1, .int (nI a)), (2, .int (nI a2)), (3, .int (nI b)), (4, .int (nI b2)), (5, .int fl), (6, .int (nI i)), (7, .int (nI j))] [.int (if j < b2 then wgB B fl j else -1)] := by
            refine XR.istore (lv2 := [(9, .int (if j < b2 then wgB B fl j else -1)), (8, .int (if i < a2 then wgB B fl i else -1)), (0, .ref (q 1)), (1, .int (nI a)), (2, .int (nI a2)), (3, .int (nI b)), (4, .int (nI b2)), (5, .int fl), (6, .int (nI i)), (7, .int (nI j))]) dd_T_comparedBytes_64 (by decide) rfl ?_
            refine XR.iload dd_T_comparedBytes_66 1 rfl ?_
            refine XR.bipush (v := -2) dd_T_comparedBytes_68 (by decide) ?_
            refine XR.icmp_ne (tgt := 79) dd_T_comparedBytes_70 (by decide) (fun h70 => ?_) (fun h70 => ?_)
            ·
              refine XR.iload dd_T_comparedBytes_79 0 rfl ?_
              refine XR.bipush (v := -2) dd_T_comparedBytes_81 (by decide) ?_
              refine XR.icmp_ne (tgt := 92) dd_T_comparedBytes_83 (by decide) (fun h83 => ?_) (fun h83 => ?_)
              ·
                refine XR.iload dd_T_comparedBytes_92 1 rfl ?_
                refine XR.iload dd_T_comparedBytes_94 0 rfl ?_
                refine XR.icmp_eq (tgt := 112) dd_T_comparedBytes_96 (by decide) (fun h96 => ?_) (fun h96 => ?_)
                ·
                  refine XR.iinc (z := 8) (v := nI (i + 1)) (lv2 := [(6, .int (nI (i + 1))), (9, .int (if j < b2 then wgB B fl j else -1)), (8, .int (if i < a2 then wgB B fl i else -1)), (0, .ref (q 1)), (1, .int (nI a)), (2, .int (nI a2)), (3, .int (nI b)), (4, .int (nI b2)), (5, .int fl), (7, .int (nI j))]) dd_T_comparedBytes_112 rfl ((nI_succ _).symm) (by decide) rfl ?_
                  refine XR.iinc (z := 9) (v := nI (j + 1)) (lv2 := [(7, .int (nI (j + 1))), (6, .int (nI (i + 1))), (9, .int (if j < b2 then wgB B fl j else -1)), (8, .int (if i < a2 then wgB B fl i else -1)), (0, .ref (q 1)), (1, .int (nI a)), (2, .int (nI a2)), (3, .int (nI b)), (4, .int (nI b2)), (5, .int fl)]) dd_T_comparedBytes_115 rfl ((nI_succ _).symm) (by decide) rfl ?_
                  refine XR.goto (tgt := 6) dd_T_comparedBytes_118 (by decide) ?_
                  refine XR.lvs [4, 5, 6, 7, 8, 9, 1, 0] rfl ?_
                  obtain ⟨z1, z2, z3⟩ := cb_eq ho h70 h83 h96
                  exact ih _ (by omega) (i + 1) (j + 1) rfl (by omega) (by omega) (by rw [← hr, z3])
                ·
                  refine XR.iload dd_T_comparedBytes_99 1 rfl ?_
                  refine XR.iload dd_T_comparedBytes_101 0 rfl ?_
                  refine XR.icmp_ge (tgt := 110) dd_T_comparedBytes_103 (by decide) (fun h103 => ?_) (fun h103 => ?_)
                  ·
                    refine XR.iconst (v := nI 1) dd_T_comparedBytes_110 (by decide) ?_
                    refine XR.tp (y := oI (lx (wb B fl a a2) (wb B fl b b2))) (by rw [← hr, cb_ne h70 h83 h96, oi_ge h96 h103]) ?_
                    exact XR.iret dd_T_comparedBytes_111 rfl
                  ·
                    refine XR.iconst (v := -1) dd_T_comparedBytes_106 (by decide) ?_
                    refine XR.goto (tgt := 111) dd_T_comparedBytes_107 (by decide) ?_
                    refine XR.tp (y := oI (lx (wb B fl a a2) (wb B fl b b2))) (by rw [← hr, cb_ne h70 h83 h96, oi_lt h103]) ?_
                    exact XR.iret dd_T_comparedBytes_111 rfl
              ·
                refine XR.iinc (z := 9) (v := nI (j + 1)) (lv2 := [(7, .int (nI (j + 1))), (9, .int (if j < b2 then wgB B fl j else -1)), (8, .int (if i < a2 then wgB B fl i else -1)), (0, .ref (q 1)), (1, .int (nI a)), (2, .int (nI a2)), (3, .int (nI b)), (4, .int (nI b2)), (5, .int fl), (6, .int (nI i))]) dd_T_comparedBytes_86 rfl ((nI_succ _).symm) (by decide) rfl ?_
                refine XR.goto (tgt := 118) dd_T_comparedBytes_89 (by decide) ?_
                refine XR.goto (tgt := 6) dd_T_comparedBytes_118 (by decide) ?_
                refine XR.lvs [3, 4, 5, 6, 7, 8, 9, 0] rfl ?_
                obtain ⟨z1, z2⟩ := cb_skip h83
                exact ih _ (by omega) i (j + 1) rfl hi (by omega) (by rw [← hr, wb_skip z1 z2])
            ·
              refine XR.iinc (z := 8) (v := nI (i + 1)) (lv2 := [(6, .int (nI (i + 1))), (9, .int (if j < b2 then wgB B fl j else -1)), (8, .int (if i < a2 then wgB B fl i else -1)), (0, .ref (q 1)), (1, .int (nI a)), (2, .int (nI a2)), (3, .int (nI b)), (4, .int (nI b2)), (5, .int fl), (7, .int (nI j))]) dd_T_comparedBytes_73 rfl ((nI_succ _).symm) (by decide) rfl ?_
              refine XR.goto (tgt := 118) dd_T_comparedBytes_76 (by decide) ?_
              refine XR.goto (tgt := 6) dd_T_comparedBytes_118 (by decide) ?_
              refine XR.lvs [3, 4, 5, 6, 7, 8, 0, 9] rfl ?_
              obtain ⟨z1, z2⟩ := cb_skip h70
              exact ih _ (by omega) (i + 1) j rfl (by omega) hj (by rw [← hr, wb_skip z1 z2])
          refine XR.iload dd_T_comparedBytes_42 8 rfl ?_
          refine XR.iload dd_T_comparedBytes_44 5 rfl ?_
          refine XR.ncmp_ge (tgt := 63) dd_T_comparedBytes_46 (by decide) (by omega) (by omega) (fun h46 => ?_) (fun h46 => ?_)
          ·
            refine XR.iconst (v := -1) dd_T_comparedBytes_63 (by decide) ?_
            exact XR.tp (by rw [if_neg (by omega)]) j64
          ·
            refine XR.aload_n dd_T_comparedBytes_49 rfl 1 rfl ?_
            refine XR.iload dd_T_comparedBytes_50 8 rfl ?_
            refine XR.callV (Mk := m_T_at) (n := 1) (As := [.int (nI j)]) (rest := []) (q0 := 1) (ci := 1) (c_T_at ht (i := j) (by omega)) mt_T_at mi_T_at ml_T_43 rfl dd_T_comparedBytes_52 (rfl) rfl rfl ⟨xn_le rfl, xn_le rfl⟩ (xn_le rfl) rfl ?_
            refine XR.iload dd_T_comparedBytes_55 6 rfl ?_
            refine XR.callS (Mk := m_T_weightOf) (n := 2) (As := [.int (B j &&& nI 255), .int fl]) (rest := []) (c_T_weightOf) mt_T_weightOf ms_T_weightOf ml_T_46 rfl dd_T_comparedBytes_57 ⟨xn_le rfl, xn_le rfl⟩ (xn_le rfl) rfl ?_
            refine XR.goto (tgt := 64) dd_T_comparedBytes_60 (by decide) ?_
            exact XR.tp (by rw [if_pos (by omega)]; rfl) j64
        refine XR.iload dd_T_comparedBytes_19 6 rfl ?_
        refine XR.iload_n dd_T_comparedBytes_21 rfl 2 rfl ?_
        refine XR.ncmp_ge (tgt := 39) dd_T_comparedBytes_22 (by decide) (by omega) (by omega) (fun h22 => ?_) (fun h22 => ?_)
        ·
          refine XR.iconst (v := -1) dd_T_comparedBytes_39 (by decide) ?_
          exact XR.tp (by rw [if_neg (by omega)]) j40
        ·
          refine XR.aload_n dd_T_comparedBytes_25 rfl 0 rfl ?_
          refine XR.iload dd_T_comparedBytes_26 6 rfl ?_
          refine XR.callV (Mk := m_T_at) (n := 1) (As := [.int (nI i)]) (rest := []) (q0 := 1) (ci := 1) (c_T_at ht (i := i) (by omega)) mt_T_at mi_T_at ml_T_43 rfl dd_T_comparedBytes_28 (rfl) rfl rfl ⟨xn_le rfl, xn_le rfl⟩ (xn_le rfl) rfl ?_
          refine XR.iload dd_T_comparedBytes_31 5 rfl ?_
          refine XR.callS (Mk := m_T_weightOf) (n := 2) (As := [.int (B i &&& nI 255), .int fl]) (rest := []) (c_T_weightOf) mt_T_weightOf ms_T_weightOf ml_T_46 rfl dd_T_comparedBytes_33 ⟨xn_le rfl, xn_le rfl⟩ (xn_le rfl) rfl ?_
          refine XR.goto (tgt := 40) dd_T_comparedBytes_36 (by decide) ?_
          exact XR.tp (by rw [if_pos (by omega)]; rfl) j40
      refine XR.iload dd_T_comparedBytes_6 6 rfl ?_
      refine XR.iload_n dd_T_comparedBytes_8 rfl 2 rfl ?_
      refine XR.ncmp_lt (tgt := 19) dd_T_comparedBytes_9 (by decide) (by omega) (by omega) (fun h9 => ?_) (fun h9 => ?_)
      ·
        exact j19 (by omega)
      ·
        refine XR.iload dd_T_comparedBytes_12 7 rfl ?_
        refine XR.iload dd_T_comparedBytes_14 4 rfl ?_
        refine XR.ncmp_ge (tgt := 121) dd_T_comparedBytes_16 (by decide) (by omega) (by omega) (fun h16 => ?_) (fun h16 => ?_)
        ·
          refine XR.iconst (v := nI 0) dd_T_comparedBytes_121 (by decide) ?_
          refine XR.tp (y := oI (lx (wb B fl a a2) (wb B fl b b2))) (by rw [← hr, wb_nil (by omega), wb_nil (by omega)]; rfl) ?_
          exact XR.iret dd_T_comparedBytes_122 rfl
        ·
          exact j19 (by omega)
  refine XR.iload_n dd_T_comparedBytes_0 rfl 1 rfl ?_
  refine XR.istore (lv2 := [(6, .int (nI a)), (0, .ref (q 1)), (1, .int (nI a)), (2, .int (nI a2)), (3, .int (nI b)), (4, .int (nI b2)), (5, .int fl)]) dd_T_comparedBytes_1 (by decide) rfl ?_
  refine XR.iload_n dd_T_comparedBytes_3 rfl 4 rfl ?_
  refine XR.istore (lv2 := [(7, .int (nI b)), (6, .int (nI a)), (0, .ref (q 1)), (1, .int (nI a)), (2, .int (nI a2)), (3, .int (nI b)), (4, .int (nI b2)), (5, .int fl)]) dd_T_comparedBytes_4 (by decide) rfl ?_
  refine XR.lvs [2, 3, 4, 5, 6, 7, 1, 0] rfl ?_
  exact loop _ a b rfl ha hb rfl

