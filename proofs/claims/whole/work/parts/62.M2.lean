set_option maxRecDepth 100000 in
set_option maxHeartbeats 4000000 in
theorem c_M_bytes {G : XG} {q : Nat → Nat} {x : Nat → Int32} {f : Nat → Nat → Int32} {kl : va_W} {len ln : Nat} {st : Nat → Nat} {B : Nat → Int32} (ht : mtx x f len ln st B) {a a2 b b2 : Nat} {fl : Int32} (ha : a ≤ len) (ha2 : a2 ≤ len) (hb : b ≤ len) (hb2 : b2 ≤ len) : MR G m_M_bytes (xr 2 0 0) [.ref (q 0), .int (nI a), .int (nI a2), .int (nI b), .int (nI b2), .int fl] (wM G q x f kl) (some (.int (oI (lx (wb B fl a a2) (wb B fl b b2))))) := by
  obtain ⟨hx0, hl0, hln, hst, hse, hB⟩ := id ht
  refine MR.of rfl (xn_le rfl) ?_
  refine (?_ : XR G m_M_bytes (xr 2 0 0) (xr_F (some (.int (oI (lx (wb B fl a a2) (wb B fl b b2)))))) (wM G q x f kl) 0 [(0, .ref (q 0)), (1, .int (nI a)), (2, .int (nI a2)), (3, .int (nI b)), (4, .int (nI b2)), (5, .int fl)] [])
  have loop : ∀ (kk i j : Nat), (a2 - i) + (b2 - j) = kk → i ≤ len → j ≤ len → lx (wb B fl i a2) (wb B fl j b2) = lx (wb B fl a a2) (wb B fl b b2) → XR G m_M_bytes (xr 2 0 0) (xr_F (some (.int (oI (lx (wb B fl a a2) (wb B fl b b2)))))) (wM G q x f kl) 6 [(0, .ref (q 0)), (1, .int (nI a)), (2, .int (nI a2)), (3, .int (nI b)), (4, .int (nI b2)), (5, .int fl), (6, .int (nI i)), (7, .int (nI j))] [] := by
    intro kk
    induction kk using Nat.strongRecOn with
    | _ kk ih =>
      intro i j0 hk hi hj0 hr0
      have inner : (i < a2 → mc_t (B i &&& nI 255) fl = true) → ∀ (k2 j : Nat), b2 - j = k2 → j ≤ len → (a2 - i) + (b2 - j) ≤ kk → lx (wb B fl i a2) (wb B fl j b2) = lx (wb B fl a a2) (wb B fl b b2) → XR G m_M_bytes (xr 2 0 0) (xr_F (some (.int (oI (lx (wb B fl a a2) (wb B fl b b2)))))) (wM G q x f kl) 29 [(0, .ref (q 0)), (1, .int (nI a)), (2, .int (nI a2)), (3, .int (nI b)), (4, .int (nI b2)), (5, .int fl), (6, .int (nI i)), (7, .int (nI j))] [] := by
        intro hA k2
        induction k2 using Nat.strongRecOn with
        | _ k2 ih2 =>
          intro j hk2 hj hm hr
          have j53 : (j < b2 → mc_t (B j &&& nI 255) fl = true) → XR G m_M_bytes (xr 2 0 0) (xr_F (some (.int (oI (lx (wb B fl a a2) (wb B fl b b2)))))) (wM G q x f kl) 53 [(0, .ref (q 0)), (1, .int (nI a)), (2, .int (nI a2)), (3, .int (nI b)), (4, .int (nI b2)), (5, .int fl), (6, .int (nI i)), (7, .int (nI j))] [] := by
            intro hBj
            refine XR.iload dd_M_bytes_53 6 rfl ?_
            refine XR.iload_n dd_M_bytes_55 rfl 2 rfl ?_
            refine XR.ncmp_ge (tgt := 66) dd_M_bytes_56 (by decide) (by omega) (by omega) (fun h56 => ?_) (fun h56 => ?_)
            ·
              refine XR.iload dd_M_bytes_66 6 rfl ?_
              refine XR.iload_n dd_M_bytes_68 rfl 2 rfl ?_
              refine XR.ncmp_lt (tgt := 87) dd_M_bytes_69 (by decide) (by omega) (by omega) (fun h69 => ?_) (fun h69 => ?_)
              ·
                exfalso; omega
              ·
                refine XR.iload dd_M_bytes_72 7 rfl ?_
                refine XR.iload dd_M_bytes_74 4 rfl ?_
                refine XR.ncmp_lt (tgt := 83) dd_M_bytes_76 (by decide) (by omega) (by omega) (fun h76 => ?_) (fun h76 => ?_)
                ·
                  refine XR.iconst (v := -1) dd_M_bytes_83 (by decide) ?_
                  refine XR.goto (tgt := 88) dd_M_bytes_84 (by decide) ?_
                  refine XR.tp (y := oI (lx (wb B fl a a2) (wb B fl b b2))) (by rw [← hr, wb_nil (a := i) (by omega), wb_cons (a := j) (by omega) (mw_c (hBj (by omega))).2]; rfl) ?_
                  exact XR.iret dd_M_bytes_88 rfl
                ·
                  refine XR.iconst (v := nI 0) dd_M_bytes_79 (by decide) ?_
                  refine XR.goto (tgt := 88) dd_M_bytes_80 (by decide) ?_
                  refine XR.tp (y := oI (lx (wb B fl a a2) (wb B fl b b2))) (by rw [← hr, wb_nil (by omega), wb_nil (by omega)]; rfl) ?_
                  exact XR.iret dd_M_bytes_88 rfl
            ·
              refine XR.iload dd_M_bytes_59 7 rfl ?_
              refine XR.iload dd_M_bytes_61 4 rfl ?_
              refine XR.ncmp_lt (tgt := 89) dd_M_bytes_63 (by decide) (by omega) (by omega) (fun h63 => ?_) (fun h63 => ?_)
              ·
                refine XR.aload_n dd_M_bytes_89 rfl 0 rfl ?_
                refine XR.iload dd_M_bytes_90 6 rfl ?_
                refine XR.iload dd_M_bytes_92 5 rfl ?_
                refine XR.callV (Mk := m_M_folded) (n := 2) (As := [.int (nI i), .int fl]) (rest := []) (q0 := 0) (ci := 9) (c_M_folded ht (i := i) (fl := fl) (by omega)) mt_M_folded mi_M_folded ml_M_138 rfl dd_M_bytes_94 (rfl) rfl rfl ⟨xn_le rfl, xn_le rfl⟩ (xn_le rfl) rfl ?_
                refine XR.istore (lv2 := [(8, .int (mf_t (B i &&& nI 255) fl)), (0, .ref (q 0)), (1, .int (nI a)), (2, .int (nI a2)), (3, .int (nI b)), (4, .int (nI b2)), (5, .int fl), (6, .int (nI i)), (7, .int (nI j))]) dd_M_bytes_97 (by decide) rfl ?_
                refine XR.aload_n dd_M_bytes_99 rfl 1 rfl ?_
                refine XR.iload dd_M_bytes_100 8 rfl ?_
                refine XR.iload dd_M_bytes_102 6 rfl ?_
                refine XR.callV (Mk := m_M_folded) (n := 2) (As := [.int (nI j), .int fl]) (rest := []) (q0 := 0) (ci := 9) (c_M_folded ht (i := j) (fl := fl) (by omega)) mt_M_folded mi_M_folded ml_M_138 rfl dd_M_bytes_104 (rfl) rfl rfl ⟨xn_le rfl, xn_le rfl⟩ (xn_le rfl) rfl ?_
                refine XR.istore (lv2 := [(9, .int (mf_t (B j &&& nI 255) fl)), (8, .int (mf_t (B i &&& nI 255) fl)), (0, .ref (q 0)), (1, .int (nI a)), (2, .int (nI a2)), (3, .int (nI b)), (4, .int (nI b2)), (5, .int fl), (6, .int (nI i)), (7, .int (nI j))]) dd_M_bytes_107 (by decide) rfl ?_
                refine XR.iload dd_M_bytes_109 1 rfl ?_
                refine XR.iload dd_M_bytes_111 0 rfl ?_
                refine XR.icmp_eq (tgt := 129) dd_M_bytes_113 (by decide) (fun h113 => ?_) (fun h113 => ?_)
                ·
                  refine XR.iinc (z := 8) (v := nI (i + 1)) (lv2 := [(6, .int (nI (i + 1))), (9, .int (mf_t (B j &&& nI 255) fl)), (8, .int (mf_t (B i &&& nI 255) fl)), (0, .ref (q 0)), (1, .int (nI a)), (2, .int (nI a2)), (3, .int (nI b)), (4, .int (nI b2)), (5, .int fl), (7, .int (nI j))]) dd_M_bytes_129 rfl ((nI_succ _).symm) (by decide) rfl ?_
                  refine XR.iinc (z := 9) (v := nI (j + 1)) (lv2 := [(7, .int (nI (j + 1))), (6, .int (nI (i + 1))), (9, .int (mf_t (B j &&& nI 255) fl)), (8, .int (mf_t (B i &&& nI 255) fl)), (0, .ref (q 0)), (1, .int (nI a)), (2, .int (nI a2)), (3, .int (nI b)), (4, .int (nI b2)), (5, .int fl)]) dd_M_bytes_132 rfl ((nI_succ _).symm) (by decide) rfl ?_
                  refine XR.goto (tgt := 6) dd_M_bytes_135 (by decide) ?_
                  refine XR.lvs [4, 5, 6, 7, 8, 9, 1, 0] rfl ?_
                  have y1 := mw_c (hA (by omega))
                  have y2 := mw_c (hBj (by omega))
                  exact ih _ (by omega) (i + 1) (j + 1) rfl (by omega) (by omega) (by rw [← hr, wb_cons (a := i) (by omega) y1.2, wb_cons (a := j) (by omega) y2.2, lx_cons]; unfold oi; rw [if_pos (by unfold wgB; rw [y1.1, y2.1]; exact h113)]; rfl)
                ·
                  refine XR.iload dd_M_bytes_116 1 rfl ?_
                  refine XR.iload dd_M_bytes_118 0 rfl ?_
                  refine XR.icmp_ge (tgt := 127) dd_M_bytes_120 (by decide) (fun h120 => ?_) (fun h120 => ?_)
                  ·
                    refine XR.iconst (v := nI 1) dd_M_bytes_127 (by decide) ?_
                    refine XR.tp (y := oI (lx (wb B fl a a2) (wb B fl b b2))) (by
                      have y1 := mw_c (hA (by omega))
                      have y2 := mw_c (hBj (by omega))
                      rw [← hr, wb_cons (a := i) (by omega) y1.2, wb_cons (a := j) (by omega) y2.2, lx_cons]
                      have e1 : wgB B fl i = mf_t (B i &&& nI 255) fl := y1.1
                      have e2 : wgB B fl j = mf_t (B j &&& nI 255) fl := y2.1
                      rw [e1, e2, then_ne (oi_ne h113), oi_ge h113 h120]) ?_
                    exact XR.iret dd_M_bytes_128 rfl
                  ·
                    refine XR.iconst (v := -1) dd_M_bytes_123 (by decide) ?_
                    refine XR.goto (tgt := 128) dd_M_bytes_124 (by decide) ?_
                    refine XR.tp (y := oI (lx (wb B fl a a2) (wb B fl b b2))) (by
                      have y1 := mw_c (hA (by omega))
                      have y2 := mw_c (hBj (by omega))
                      rw [← hr, wb_cons (a := i) (by omega) y1.2, wb_cons (a := j) (by omega) y2.2, lx_cons]
                      have e1 : wgB B fl i = mf_t (B i &&& nI 255) fl := y1.1
                      have e2 : wgB B fl j = mf_t (B j &&& nI 255) fl := y2.1
                      rw [e1, e2, then_ne (oi_ne h113), oi_lt h120]) ?_
                    exact XR.iret dd_M_bytes_128 rfl
              ·
                refine XR.iload dd_M_bytes_66 6 rfl ?_
                refine XR.iload_n dd_M_bytes_68 rfl 2 rfl ?_
                refine XR.ncmp_lt (tgt := 87) dd_M_bytes_69 (by decide) (by omega) (by omega) (fun h69 => ?_) (fun h69 => ?_)
                ·
                  refine XR.iconst (v := nI 1) dd_M_bytes_87 (by decide) ?_
                  refine XR.tp (y := oI (lx (wb B fl a a2) (wb B fl b b2))) (by rw [← hr, wb_cons (a := i) (by omega) (mw_c (hA (by omega))).2, wb_nil (a := j) (by omega)]; rfl) ?_
                  exact XR.iret dd_M_bytes_88 rfl
                ·
                  exfalso; omega
          refine XR.iload dd_M_bytes_29 7 rfl ?_
          refine XR.iload dd_M_bytes_31 4 rfl ?_
          refine XR.ncmp_ge (tgt := 53) dd_M_bytes_33 (by decide) (by omega) (by omega) (fun h33 => ?_) (fun h33 => ?_)
          ·
            exact j53 (fun z => by first | (exfalso; omega) | simp [h33])
          ·
            refine XR.aload_n dd_M_bytes_36 rfl 0 rfl ?_
            refine XR.iload dd_M_bytes_37 7 rfl ?_
            refine XR.iload dd_M_bytes_39 5 rfl ?_
            refine XR.callV (Mk := m_M_counts) (n := 2) (As := [.int (nI j), .int fl]) (rest := []) (q0 := 0) (ci := 9) (c_M_counts ht (i := j) (fl := fl) (by omega)) mt_M_counts mi_M_counts ml_M_135 rfl dd_M_bytes_41 (rfl) rfl rfl ⟨xn_le rfl, xn_le rfl⟩ (xn_le rfl) rfl ?_
            refine XR.bif_ne (tgt := 53) dd_M_bytes_44 (by decide) (fun h44 => ?_) (fun h44 => ?_)
            ·
              exact j53 (fun z => by first | (exfalso; omega) | simp [h33, h44])
            ·
              refine XR.iinc (z := 7) (v := nI (j + 1)) (lv2 := [(7, .int (nI (j + 1))), (0, .ref (q 0)), (1, .int (nI a)), (2, .int (nI a2)), (3, .int (nI b)), (4, .int (nI b2)), (5, .int fl), (6, .int (nI i))]) dd_M_bytes_47 rfl ((nI_succ _).symm) (by decide) rfl ?_
              refine XR.goto (tgt := 29) dd_M_bytes_50 (by decide) ?_
              refine XR.lvs [1, 2, 3, 4, 5, 6, 7, 0] rfl ?_
              exact ih2 _ (by omega) (j + 1) rfl (by omega) (by omega) (by rw [← hr, wb_skip (a := j) (by omega) (mw_n h44)])
      refine XR.iload dd_M_bytes_6 6 rfl ?_
      refine XR.iload_n dd_M_bytes_8 rfl 2 rfl ?_
      refine XR.ncmp_ge (tgt := 29) dd_M_bytes_9 (by decide) (by omega) (by omega) (fun h9 => ?_) (fun h9 => ?_)
      ·
        exact inner (fun z => by first | (exfalso; omega) | simp [h9]) _ j0 rfl hj0 (by omega) hr0
      ·
        refine XR.aload_n dd_M_bytes_12 rfl 0 rfl ?_
        refine XR.iload dd_M_bytes_13 6 rfl ?_
        refine XR.iload dd_M_bytes_15 5 rfl ?_
        refine XR.callV (Mk := m_M_counts) (n := 2) (As := [.int (nI i), .int fl]) (rest := []) (q0 := 0) (ci := 9) (c_M_counts ht (i := i) (fl := fl) (by omega)) mt_M_counts mi_M_counts ml_M_135 rfl dd_M_bytes_17 (rfl) rfl rfl ⟨xn_le rfl, xn_le rfl⟩ (xn_le rfl) rfl ?_
        refine XR.bif_ne (tgt := 29) dd_M_bytes_20 (by decide) (fun h20 => ?_) (fun h20 => ?_)
        ·
          exact inner (fun z => by first | (exfalso; omega) | simp [h9, h20]) _ j0 rfl hj0 (by omega) hr0
        ·
          refine XR.iinc (z := 6) (v := nI (i + 1)) (lv2 := [(6, .int (nI (i + 1))), (0, .ref (q 0)), (1, .int (nI a)), (2, .int (nI a2)), (3, .int (nI b)), (4, .int (nI b2)), (5, .int fl), (7, .int (nI j0))]) dd_M_bytes_23 rfl ((nI_succ _).symm) (by decide) rfl ?_
          refine XR.goto (tgt := 6) dd_M_bytes_26 (by decide) ?_
          refine XR.lvs [1, 2, 3, 4, 5, 6, 0, 7] rfl ?_
          exact ih _ (by omega) (i + 1) j0 rfl (by omega) hj0 (by rw [← hr0, wb_skip (a := i) (by omega) (mw_n h20)])
  refine XR.iload_n dd_M_bytes_0 rfl 1 rfl ?_
  refine XR.istore (lv2 := [(6, .int (nI a)), (0, .ref (q 0)), (1, .int (nI a)), (2, .int (nI a2)), (3, .int (nI b)), (4, .int (nI b2)), (5, .int fl)]) dd_M_bytes_1 (by decide) rfl ?_
  refine XR.iload_n dd_M_bytes_3 rfl 4 rfl ?_
  refine XR.istore (lv2 := [(7, .int (nI b)), (6, .int (nI a)), (0, .ref (q 0)), (1, .int (nI a)), (2, .int (nI a2)), (3, .int (nI b)), (4, .int (nI b2)), (5, .int fl)]) dd_M_bytes_4 (by decide) rfl ?_
  refine XR.lvs [2, 3, 4, 5, 6, 7, 1, 0] rfl ?_
  exact loop _ a b rfl ha hb rfl

set_option maxRecDepth 100000 in
set_option maxHeartbeats 4000000 in
theorem c_M_find {G : XG} {q : Nat → Nat} {x : Nat → Int32} {f : Nat → Nat → Int32} {kl : va_W} {len ln : Nat} {st : Nat → Nat} {B : Nat → Int32} (ht : mtx x f len ln st B) {sep : Int32} (hx6 : x 6 = sep) {l fd : Nat} (hl : l < ln) (hfd : 1 ≤ fd) (hfd2 : fd ≤ 1000) : MM G m_M_find (xr 1 0 0) [.ref (q 0), .int (nI l), .int (nI fd)] (wM G q x f kl) (fun r w => ∃ (b : Bool) (x2 : Nat → Int32), r = some (.int (bI b)) ∧ w = wM G q x2 f kl ∧ agF x x2 ∧ (b = true → ∃ a, fl_start B sep (men len st l) (fd - 1) (st l) = some a ∧ x2 17 = nI a ∧ x2 18 = nI (fl_stop B sep (men len st l) a)) ∧ (b = false → fl_start B sep (men len st l) (fd - 1) (st l) = none ∨ men len st l ≤ st l)) := by
  obtain ⟨hx0, hl0, hln, hst, hse, hB⟩ := id ht
  have hse1 := (hse l hl).2
  have hmen := men_le len st l
  refine MM.of rfl (xn_le rfl) ?_
  refine (?_ : XX G m_M_find (xr 1 0 0) (xx_F G (fun r w => ∃ (b : Bool) (x2 : Nat → Int32), r = some (.int (bI b)) ∧ w = wM G q x2 f kl ∧ agF x x2 ∧ (b = true → ∃ a, fl_start B sep (men len st l) (fd - 1) (st l) = some a ∧ x2 17 = nI a ∧ x2 18 = nI (fl_stop B sep (men len st l) a)) ∧ (b = false → fl_start B sep (men len st l) (fd - 1) (st l) = none ∨ men len st l ≤ st l)) (xr 1 0 0)) 0 0 (wM G q x f kl) 0 [(0, .ref (q 0)), (1, .int (nI l)), (2, .int (nI fd))] [])
  have loop : ∀ (kk j a : Nat) (mo : Bool) (xx : Nat → Int32), fd - j = kk → j < fd → agF x xx → (mo = true → a ≤ men len st l ∧ fl_start B sep (men len st l) (fd - 1 - j) a = fl_start B sep (men len st l) (fd - 1) (st l)) → (mo = false → fl_start B sep (men len st l) (fd - 1) (st l) = none ∨ men len st l ≤ st l) → XX G m_M_find (xr 1 0 0) (xx_F G (fun r w => ∃ (b : Bool) (x2 : Nat → Int32), r = some (.int (bI b)) ∧ w = wM G q x2 f kl ∧ agF x x2 ∧ (b = true → ∃ a, fl_start B sep (men len st l) (fd - 1) (st l) = some a ∧ x2 17 = nI a ∧ x2 18 = nI (fl_stop B sep (men len st l) a)) ∧ (b = false → fl_start B sep (men len st l) (fd - 1) (st l) = none ∨ men len st l ≤ st l)) (xr 1 0 0)) 0 0 (wM G q xx f kl) 37 [(0, .ref (q 0)), (1, .int (nI l)), (2, .int (nI fd)), (3, .int (nI (men len st l))), (4, .int (nI a)), (5, .int (nI j)), (6, .int (bI mo))] [] := by
    intro kk
    induction kk using Nat.strongRecOn with
    | _ kk ih =>
      intro j a mo xx hk hj hag hmo hmf
      have hxa : xx 0 = nI len := (hag 0 (by omega) (by omega)).trans hx0
      have hxb : xx 6 = sep := (hag 6 (by omega) (by omega)).trans hx6
      have j175s : ¬ sep = -1 → a ≤ men len st l → fl_start B sep (men len st l) (fd - 1 - j) a = fl_start B sep (men len st l) (fd - 1) (st l) → XX G m_M_find (xr 1 0 0) (xx_F G (fun r w => ∃ (b : Bool) (x2 : Nat → Int32), r = some (.int (bI b)) ∧ w = wM G q x2 f kl ∧ agF x x2 ∧ (b = true → ∃ a, fl_start B sep (men len st l) (fd - 1) (st l) = some a ∧ x2 17 = nI a ∧ x2 18 = nI (fl_stop B sep (men len st l) a)) ∧ (b = false → fl_start B sep (men len st l) (fd - 1) (st l) = none ∨ men len st l ≤ st l)) (xr 1 0 0)) 0 0 (wM G q (upd (upd xx 17 (nI a)) 18 (nI (fl_stop B sep (men len st l) a))) f kl) 175 [(0, .ref (q 0)), (1, .int (nI l)), (2, .int (nI fd)), (3, .int (nI (men len st l))), (4, .int (nI (fl_stop B sep (men len st l) a + 1))), (5, .int (nI (j + 1))), (6, .int (bI (decide (fl_stop B sep (men len st l) a < men len st l))))] [] := by
        intro hsp hae hfs
        have hle := fl_stop_le (B := B) (sep := sep) hae
        refine XX.iload dd_M_find_175 5 rfl ?_
        refine XX.iload_n dd_M_find_177 rfl 2 rfl ?_
        refine XX.ncmp_ne (tgt := 37) dd_M_find_178 (by decide) (by omega) (by omega) (fun h178 => ?_) (fun h178 => ?_)
        ·
          exact ih _ (by omega) (j + 1) _ _ _ rfl (by omega) (fun i h1 h2 => by simp [upd, h1, h2]; exact hag i h1 h2) (fun z => by
            have z1 := of_decide_eq_true z
            refine ⟨by omega, ?_⟩
            rw [← hfs, show fd - 1 - j = (fd - 1 - (j + 1)) + 1 by omega, fl_start, if_neg (by omega), if_neg hsp]) (fun z => by
            have z1 := of_decide_eq_false z
            left
            rw [← hfs, show fd - 1 - j = (fd - 1 - (j + 1)) + 1 by omega, fl_start, if_pos (by omega)])
        ·
          refine XX.iconst (v := nI 1) dd_M_find_181 (by decide) ?_
          refine XX.tp (y := bI true) rfl ?_
          exact XX.zret dd_M_find_182 rfl (bI_nar _) ⟨xn_le rfl, xn_le rfl⟩ ⟨true, _, rfl, rfl, fun i h1 h2 => by simp [upd, h1, h2]; exact hag i h1 h2, fun _ => ⟨a, by rw [← hfs, show fd - 1 - j = 0 by omega]; rfl, rfl, rfl⟩, fun z => by cases z⟩
      have j175n : sep = -1 → a ≤ men len st l → fl_start B sep (men len st l) (fd - 1 - j) a = fl_start B sep (men len st l) (fd - 1) (st l) → XX G m_M_find (xr 1 0 0) (xx_F G (fun r w => ∃ (b : Bool) (x2 : Nat → Int32), r = some (.int (bI b)) ∧ w = wM G q x2 f kl ∧ agF x x2 ∧ (b = true → ∃ a, fl_start B sep (men len st l) (fd - 1) (st l) = some a ∧ x2 17 = nI a ∧ x2 18 = nI (fl_stop B sep (men len st l) a)) ∧ (b = false → fl_start B sep (men len st l) (fd - 1) (st l) = none ∨ men len st l ≤ st l)) (xr 1 0 0)) 0 0 (wM G q (upd (upd xx 17 (nI a)) 18 (nI (fl_stop B sep (men len st l) a))) f kl) 175 [(0, .ref (q 0)), (1, .int (nI l)), (2, .int (nI fd)), (3, .int (nI (men len st l))), (4, .int (nI (fl_stop B sep (men len st l) a))), (5, .int (nI (j + 1))), (6, .int (bI (decide (fl_stop B sep (men len st l) a < men len st l))))] [] := by
        intro hsp hae hfs
        have hle := fl_stop_le (B := B) (sep := sep) hae
        refine XX.iload dd_M_find_175 5 rfl ?_
        refine XX.iload_n dd_M_find_177 rfl 2 rfl ?_
        refine XX.ncmp_ne (tgt := 37) dd_M_find_178 (by decide) (by omega) (by omega) (fun h178 => ?_) (fun h178 => ?_)
        ·
          exact ih _ (by omega) (j + 1) _ _ _ rfl (by omega) (fun i h1 h2 => by simp [upd, h1, h2]; exact hag i h1 h2) (fun z => by
            have z1 := of_decide_eq_true z
            refine ⟨by omega, ?_⟩
            rw [← hfs, show fd - 1 - j = (fd - 1 - (j + 1)) + 1 by omega, fl_start, if_neg (by omega), if_pos hsp]) (fun z => by
            have z1 := of_decide_eq_false z
            left
            rw [← hfs, show fd - 1 - j = (fd - 1 - (j + 1)) + 1 by omega, fl_start, if_pos (by omega)])
        ·
          refine XX.iconst (v := nI 1) dd_M_find_181 (by decide) ?_
          refine XX.tp (y := bI true) rfl ?_
          exact XX.zret dd_M_find_182 rfl (bI_nar _) ⟨xn_le rfl, xn_le rfl⟩ ⟨true, _, rfl, rfl, fun i h1 h2 => by simp [upd, h1, h2]; exact hag i h1 h2, fun _ => ⟨a, by rw [← hfs, show fd - 1 - j = 0 by omega]; rfl, rfl, rfl⟩, fun z => by cases z⟩
      have j89 : ¬ sep = -1 → a ≤ men len st l → fl_start B sep (men len st l) (fd - 1 - j) a = fl_start B sep (men len st l) (fd - 1) (st l) → XX G m_M_find (xr 1 0 0) (xx_F G (fun r w => ∃ (b : Bool) (x2 : Nat → Int32), r = some (.int (bI b)) ∧ w = wM G q x2 f kl ∧ agF x x2 ∧ (b = true → ∃ a, fl_start B sep (men len st l) (fd - 1) (st l) = some a ∧ x2 17 = nI a ∧ x2 18 = nI (fl_stop B sep (men len st l) a)) ∧ (b = false → fl_start B sep (men len st l) (fd - 1) (st l) = none ∨ men len st l ≤ st l)) (xr 1 0 0)) 0 0 (wM G q (upd xx 17 (nI a)) f kl) 89 [(0, .ref (q 0)), (1, .int (nI l)), (2, .int (nI fd)), (3, .int (nI (men len st l))), (4, .int (nI (fl_stop B sep (men len st l) a))), (5, .int (nI (j + 1))), (6, .int (bI mo))] [] := by
        intro hsp hae hfs
        have hle := fl_stop_le (B := B) (sep := sep) hae
        refine XX.aload_n dd_M_find_89 rfl 0 rfl ?_
        refine XX.iload dd_M_find_90 4 rfl ?_
        refine XX.put (q0 := 0) (ws2 := wM G q (upd (upd xx 17 (nI a)) 18 (nI (fl_stop B sep (men len st l) a))) f kl) fp_M_107 dd_M_find_92 rfl rfl rfl (xn_le rfl) rfl ?_
        have j106 : XX G m_M_find (xr 1 0 0) (xx_F G (fun r w => ∃ (b : Bool) (x2 : Nat → Int32), r = some (.int (bI b)) ∧ w = wM G q x2 f kl ∧ agF x x2 ∧ (b = true → ∃ a, fl_start B sep (men len st l) (fd - 1) (st l) = some a ∧ x2 17 = nI a ∧ x2 18 = nI (fl_stop B sep (men len st l) a)) ∧ (b = false → fl_start B sep (men len st l) (fd - 1) (st l) = none ∨ men len st l ≤ st l)) (xr 1 0 0)) 0 0 (wM G q (upd (upd xx 17 (nI a)) 18 (nI (fl_stop B sep (men len st l) a))) f kl) 106 [(0, .ref (q 0)), (1, .int (nI l)), (2, .int (nI fd)), (3, .int (nI (men len st l))), (4, .int (nI (fl_stop B sep (men len st l) a))), (5, .int (nI (j + 1))), (6, .int (bI mo))] [.int (bI (decide (fl_stop B sep (men len st l) a < men len st l)))] := by
          refine XX.istore (lv2 := [(6, .int (bI (decide (fl_stop B sep (men len st l) a < men len st l)))), (0, .ref (q 0)), (1, .int (nI l)), (2, .int (nI fd)), (3, .int (nI (men len st l))), (4, .int (nI (fl_stop B sep (men len st l) a))), (5, .int (nI (j + 1)))]) dd_M_find_106 (by decide) rfl ?_
          refine XX.iinc (z := 5) (v := nI (fl_stop B sep (men len st l) a + 1)) (lv2 := [(4, .int (nI (fl_stop B sep (men len st l) a + 1))), (6, .int (bI (decide (fl_stop B sep (men len st l) a < men len st l)))), (0, .ref (q 0)), (1, .int (nI l)), (2, .int (nI fd)), (3, .int (nI (men len st l))), (5, .int (nI (j + 1)))]) dd_M_find_108 rfl ((nI_succ _).symm) (by decide) rfl ?_
          refine XX.goto (tgt := 175) dd_M_find_111 (by decide) ?_
          refine XX.lvs [2, 3, 4, 5, 0, 6, 1] rfl ?_
          exact j175s hsp hae hfs
        refine XX.iload dd_M_find_95 4 rfl ?_
        refine XX.iload_n dd_M_find_97 rfl 3 rfl ?_
        refine XX.ncmp_ge (tgt := 105) dd_M_find_98 (by decide) (by omega) (by omega) (fun h98 => ?_) (fun h98 => ?_)
        ·
          refine XX.iconst (v := nI 0) dd_M_find_105 (by decide) ?_
          exact XX.tp (by first | (rw [decide_eq_true (by omega)]; rfl) | (rw [decide_eq_false (by omega)]; rfl)) j106
        ·
          refine XX.iconst (v := nI 1) dd_M_find_101 (by decide) ?_
          refine XX.goto (tgt := 106) dd_M_find_102 (by decide) ?_
          exact XX.tp (by first | (rw [decide_eq_true (by omega)]; rfl) | (rw [decide_eq_false (by omega)]; rfl)) j106
      have j156 : sep = -1 → a ≤ men len st l → fl_start B sep (men len st l) (fd - 1 - j) a = fl_start B sep (men len st l) (fd - 1) (st l) → XX G m_M_find (xr 1 0 0) (xx_F G (fun r w => ∃ (b : Bool) (x2 : Nat → Int32), r = some (.int (bI b)) ∧ w = wM G q x2 f kl ∧ agF x x2 ∧ (b = true → ∃ a, fl_start B sep (men len st l) (fd - 1) (st l) = some a ∧ x2 17 = nI a ∧ x2 18 = nI (fl_stop B sep (men len st l) a)) ∧ (b = false → fl_start B sep (men len st l) (fd - 1) (st l) = none ∨ men len st l ≤ st l)) (xr 1 0 0)) 0 0 (wM G q (upd xx 17 (nI a)) f kl) 156 [(0, .ref (q 0)), (1, .int (nI l)), (2, .int (nI fd)), (3, .int (nI (men len st l))), (4, .int (nI (fl_stop B sep (men len st l) a))), (5, .int (nI (j + 1))), (6, .int (bI mo))] [] := by
        intro hsp hae hfs
        have hle := fl_stop_le (B := B) (sep := sep) hae
        refine XX.aload_n dd_M_find_156 rfl 0 rfl ?_
        refine XX.iload dd_M_find_157 4 rfl ?_
        refine XX.put (q0 := 0) (ws2 := wM G q (upd (upd xx 17 (nI a)) 18 (nI (fl_stop B sep (men len st l) a))) f kl) fp_M_107 dd_M_find_159 rfl rfl rfl (xn_le rfl) rfl ?_
        have j173 : XX G m_M_find (xr 1 0 0) (xx_F G (fun r w => ∃ (b : Bool) (x2 : Nat → Int32), r = some (.int (bI b)) ∧ w = wM G q x2 f kl ∧ agF x x2 ∧ (b = true → ∃ a, fl_start B sep (men len st l) (fd - 1) (st l) = some a ∧ x2 17 = nI a ∧ x2 18 = nI (fl_stop B sep (men len st l) a)) ∧ (b = false → fl_start B sep (men len st l) (fd - 1) (st l) = none ∨ men len st l ≤ st l)) (xr 1 0 0)) 0 0 (wM G q (upd (upd xx 17 (nI a)) 18 (nI (fl_stop B sep (men len st l) a))) f kl) 173 [(0, .ref (q 0)), (1, .int (nI l)), (2, .int (nI fd)), (3, .int (nI (men len st l))), (4, .int (nI (fl_stop B sep (men len st l) a))), (5, .int (nI (j + 1))), (6, .int (bI mo))] [.int (bI (decide (fl_stop B sep (men len st l) a < men len st l)))] := by
          refine XX.istore (lv2 := [(6, .int (bI (decide (fl_stop B sep (men len st l) a < men len st l)))), (0, .ref (q 0)), (1, .int (nI l)), (2, .int (nI fd)), (3, .int (nI (men len st l))), (4, .int (nI (fl_stop B sep (men len st l) a))), (5, .int (nI (j + 1)))]) dd_M_find_173 (by decide) rfl ?_
          refine XX.lvs [1, 2, 3, 4, 5, 6, 0] rfl ?_
          exact j175n hsp hae hfs
        refine XX.iload dd_M_find_162 4 rfl ?_
        refine XX.iload_n dd_M_find_164 rfl 3 rfl ?_
        refine XX.ncmp_ge (tgt := 172) dd_M_find_165 (by decide) (by omega) (by omega) (fun h165 => ?_) (fun h165 => ?_)
        ·
          refine XX.iconst (v := nI 0) dd_M_find_172 (by decide) ?_
          exact XX.tp (by first | (rw [decide_eq_true (by omega)]; rfl) | (rw [decide_eq_false (by omega)]; rfl)) j173
        ·
          refine XX.iconst (v := nI 1) dd_M_find_168 (by decide) ?_
          refine XX.goto (tgt := 173) dd_M_find_169 (by decide) ?_
          exact XX.tp (by first | (rw [decide_eq_true (by omega)]; rfl) | (rw [decide_eq_false (by omega)]; rfl)) j173
      have in59 : ¬ sep = -1 → a ≤ men len st l → fl_start B sep (men len st l) (fd - 1 - j) a = fl_start B sep (men len st l) (fd - 1) (st l) → ∀ (k2 i : Nat), men len st l - i = k2 → i ≤ men len st l → sk (pb_sep B sep) (men len st l) i = fl_stop B sep (men len st l) a → XX G m_M_find (xr 1 0 0) (xx_F G (fun r w => ∃ (b : Bool) (x2 : Nat → Int32), r = some (.int (bI b)) ∧ w = wM G q x2 f kl ∧ agF x x2 ∧ (b = true → ∃ a, fl_start B sep (men len st l) (fd - 1) (st l) = some a ∧ x2 17 = nI a ∧ x2 18 = nI (fl_stop B sep (men len st l) a)) ∧ (b = false → fl_start B sep (men len st l) (fd - 1) (st l) = none ∨ men len st l ≤ st l)) (xr 1 0 0)) 0 0 (wM G q (upd xx 17 (nI a)) f kl) 59 [(0, .ref (q 0)), (1, .int (nI l)), (2, .int (nI fd)), (3, .int (nI (men len st l))), (4, .int (nI i)), (5, .int (nI (j + 1))), (6, .int (bI mo))] [] := by
        intro hsp hae hfs k2
        induction k2 using Nat.strongRecOn with
        | _ k2 ih2 =>
          intro i hk2 hi hr
          refine XX.iload dd_M_find_59 4 rfl ?_
          refine XX.iload_n dd_M_find_61 rfl 3 rfl ?_
          refine XX.ncmp_ge (tgt := 89) dd_M_find_62 (by decide) (by omega) (by omega) (fun h62 => ?_) (fun h62 => ?_)
          ·
            have e0 : i = fl_stop B sep (men len st l) a := by rw [← hr, sk_stop (fun hz => by first | (exfalso; omega) | simp [pb_sep, h62])]
            subst e0
            exact j89 hsp hae hfs
          ·
            refine XX.aload_n dd_M_find_65 rfl 0 rfl ?_
            refine XX.get (q0 := 0) (v := .ref (q 1)) fl_M_7 dd_M_find_66 rfl rfl ?_
            refine XX.iload dd_M_find_69 4 rfl ?_
            refine XX.bald (q0 := 1) (n := 20000) (j := i) (f := f 0) dd_M_find_71 rfl (by omega) (by decide) ?_
            refine XX.tp (y := B i) (hB _ (by omega)) ?_
            refine XX.sipush (v := nI 255) dd_M_find_72 (by decide) ?_
            refine XX.iand dd_M_find_75 ?_
            refine XX.aload_n dd_M_find_76 rfl 0 rfl ?_
            refine XX.get (q0 := 0) (v := .int ((upd xx 17 (nI a)) 6)) fl_M_17 dd_M_find_77 rfl rfl ?_
            refine XX.tp (y := sep) (hxb) ?_
            refine XX.icmp_eq (tgt := 89) dd_M_find_80 (by decide) (fun h80 => ?_) (fun h80 => ?_)
            ·
              have e0 : i = fl_stop B sep (men len st l) a := by rw [← hr, sk_stop (fun hz => by first | (exfalso; omega) | simp [pb_sep, h62, h80])]
              subst e0
              exact j89 hsp hae hfs
            ·
              refine XX.iinc (z := 4) (v := nI (i + 1)) (lv2 := [(4, .int (nI (i + 1))), (0, .ref (q 0)), (1, .int (nI l)), (2, .int (nI fd)), (3, .int (nI (men len st l))), (5, .int (nI (j + 1))), (6, .int (bI mo))]) dd_M_find_83 rfl ((nI_succ _).symm) (by decide) rfl ?_
              refine XX.goto (tgt := 59) dd_M_find_86 (by decide) ?_
              refine XX.lvs [1, 2, 3, 4, 0, 5, 6] rfl ?_
              exact ih2 _ (by omega) (i + 1) rfl (by omega) (by rw [← hr, sk_step (a := i) (by omega) (by simp [pb_sep, h80])])
      have hxa0 : (upd xx 17 (nI a)) 0 = x 0 := (hag 0 (by omega) (by omega))
      have in135 : sep = -1 → a ≤ men len st l → fl_start B sep (men len st l) (fd - 1 - j) a = fl_start B sep (men len st l) (fd - 1) (st l) → ∀ (k2 i : Nat), men len st l - i = k2 → i ≤ men len st l → sk (fun i => !pb_blk B i) (men len st l) i = fl_stop B sep (men len st l) a → XX G m_M_find (xr 1 0 0) (xx_F G (fun r w => ∃ (b : Bool) (x2 : Nat → Int32), r = some (.int (bI b)) ∧ w = wM G q x2 f kl ∧ agF x x2 ∧ (b = true → ∃ a, fl_start B sep (men len st l) (fd - 1) (st l) = some a ∧ x2 17 = nI a ∧ x2 18 = nI (fl_stop B sep (men len st l) a)) ∧ (b = false → fl_start B sep (men len st l) (fd - 1) (st l) = none ∨ men len st l ≤ st l)) (xr 1 0 0)) 0 0 (wM G q (upd xx 17 (nI a)) f kl) 135 [(0, .ref (q 0)), (1, .int (nI l)), (2, .int (nI fd)), (3, .int (nI (men len st l))), (4, .int (nI i)), (5, .int (nI (j + 1))), (6, .int (bI mo))] [] := by
        intro hsp hae hfs k2
        induction k2 using Nat.strongRecOn with
        | _ k2 ih2 =>
          intro i hk2 hi hr
          refine XX.iload dd_M_find_135 4 rfl ?_
          refine XX.iload_n dd_M_find_137 rfl 3 rfl ?_
          refine XX.ncmp_ge (tgt := 156) dd_M_find_138 (by decide) (by omega) (by omega) (fun h138 => ?_) (fun h138 => ?_)
          ·
            have e0 : i = fl_stop B sep (men len st l) a := by rw [← hr, sk_stop (fun hz => by first | (exfalso; omega) | simp [h138])]
            subst e0
            exact j156 hsp hae hfs
          ·
            refine XX.aload_n dd_M_find_141 rfl 0 rfl ?_
            refine XX.iload dd_M_find_142 4 rfl ?_
            refine XX.callVr (Mk := m_M_isBlank) (n := 1) (As := [.int (nI i)]) (rest := []) (q0 := 0) (ci := 9) (c_M_isBlank (x := (upd xx 17 (nI a))) (mtx_mv ht hxa0) (i := i) (by omega)) mt_M_isBlank mi_M_isBlank ml_M_110 rfl dd_M_find_144 (rfl) rfl rfl ⟨xn_le rfl, xn_le rfl⟩ ⟨xn_le rfl, xn_le rfl⟩ (xn_le rfl) rfl ?_
            refine XX.bif_ne (tgt := 156) dd_M_find_147 (by decide) (fun h147 => ?_) (fun h147 => ?_)
            ·
              have e0 : i = fl_stop B sep (men len st l) a := by rw [← hr, sk_stop (fun hz => by first | (exfalso; omega) | simp [h138, h147])]
              subst e0
              exact j156 hsp hae hfs
            ·
              refine XX.iinc (z := 4) (v := nI (i + 1)) (lv2 := [(4, .int (nI (i + 1))), (0, .ref (q 0)), (1, .int (nI l)), (2, .int (nI fd)), (3, .int (nI (men len st l))), (5, .int (nI (j + 1))), (6, .int (bI mo))]) dd_M_find_150 rfl ((nI_succ _).symm) (by decide) rfl ?_
              refine XX.goto (tgt := 135) dd_M_find_153 (by decide) ?_
              refine XX.lvs [1, 2, 3, 4, 0, 5, 6] rfl ?_
              exact ih2 _ (by omega) (i + 1) rfl (by omega) (by rw [← hr, sk_step (a := i) (by omega) (by simp [h147])])
      have in114 : sep = -1 → a ≤ men len st l → fl_start B sep (men len st l) (fd - 1 - j) a = fl_start B sep (men len st l) (fd - 1) (st l) → ∀ (k2 i : Nat), men len st l - i = k2 → i ≤ men len st l → sk (fun i => !pb_blk B i) (men len st l) (sk (pb_blk B) (men len st l) i) = fl_stop B sep (men len st l) a → XX G m_M_find (xr 1 0 0) (xx_F G (fun r w => ∃ (b : Bool) (x2 : Nat → Int32), r = some (.int (bI b)) ∧ w = wM G q x2 f kl ∧ agF x x2 ∧ (b = true → ∃ a, fl_start B sep (men len st l) (fd - 1) (st l) = some a ∧ x2 17 = nI a ∧ x2 18 = nI (fl_stop B sep (men len st l) a)) ∧ (b = false → fl_start B sep (men len st l) (fd - 1) (st l) = none ∨ men len st l ≤ st l)) (xr 1 0 0)) 0 0 (wM G q (upd xx 17 (nI a)) f kl) 114 [(0, .ref (q 0)), (1, .int (nI l)), (2, .int (nI fd)), (3, .int (nI (men len st l))), (4, .int (nI i)), (5, .int (nI (j + 1))), (6, .int (bI mo))] [] := by
        intro hsp hae hfs k2
        induction k2 using Nat.strongRecOn with
        | _ k2 ih2 =>
          intro i hk2 hi hr
          refine XX.iload dd_M_find_114 4 rfl ?_
          refine XX.iload_n dd_M_find_116 rfl 3 rfl ?_
          refine XX.ncmp_ge (tgt := 135) dd_M_find_117 (by decide) (by omega) (by omega) (fun h117 => ?_) (fun h117 => ?_)
          ·
            exact in135 hsp hae hfs _ i rfl hi (by rw [← hr, sk_stop (p := pb_blk B) (a := i) (fun hz => by first | (exfalso; omega) | simp [h117])])
          ·
            refine XX.aload_n dd_M_find_120 rfl 0 rfl ?_
            refine XX.iload dd_M_find_121 4 rfl ?_
            refine XX.callVr (Mk := m_M_isBlank) (n := 1) (As := [.int (nI i)]) (rest := []) (q0 := 0) (ci := 9) (c_M_isBlank (x := (upd xx 17 (nI a))) (mtx_mv ht hxa0) (i := i) (by omega)) mt_M_isBlank mi_M_isBlank ml_M_110 rfl dd_M_find_123 (rfl) rfl rfl ⟨xn_le rfl, xn_le rfl⟩ ⟨xn_le rfl, xn_le rfl⟩ (xn_le rfl) rfl ?_
            refine XX.bif_eq (tgt := 135) dd_M_find_126 (by decide) (fun h126 => ?_) (fun h126 => ?_)
            ·
              exact in135 hsp hae hfs _ i rfl hi (by rw [← hr, sk_stop (p := pb_blk B) (a := i) (fun hz => by first | (exfalso; omega) | simp [h117, h126])])
            ·
              refine XX.iinc (z := 4) (v := nI (i + 1)) (lv2 := [(4, .int (nI (i + 1))), (0, .ref (q 0)), (1, .int (nI l)), (2, .int (nI fd)), (3, .int (nI (men len st l))), (5, .int (nI (j + 1))), (6, .int (bI mo))]) dd_M_find_129 rfl ((nI_succ _).symm) (by decide) rfl ?_
              refine XX.goto (tgt := 114) dd_M_find_132 (by decide) ?_
              refine XX.lvs [1, 2, 3, 4, 0, 5, 6] rfl ?_
              exact ih2 _ (by omega) (i + 1) rfl (by omega) (by rw [← hr, sk_step (p := pb_blk B) (a := i) (by omega) h126])
      refine XX.iload dd_M_find_37 6 rfl ?_
      refine XX.bif_eq (tgt := 183) dd_M_find_39 (by decide) (fun h39 => ?_) (fun h39 => ?_)
      ·
        refine XX.iconst (v := nI 0) dd_M_find_183 (by decide) ?_
        refine XX.tp (y := bI false) rfl ?_
        exact XX.zret dd_M_find_184 rfl (bI_nar _) ⟨xn_le rfl, xn_le rfl⟩ ⟨false, xx, rfl, rfl, hag, (fun z => by cases z), fun _ => hmf h39⟩
      ·
        refine XX.iinc (z := 5) (v := nI (j + 1)) (lv2 := [(5, .int (nI (j + 1))), (0, .ref (q 0)), (1, .int (nI l)), (2, .int (nI fd)), (3, .int (nI (men len st l))), (4, .int (nI a)), (6, .int (bI mo))]) dd_M_find_42 rfl ((nI_succ _).symm) (by decide) rfl ?_
        refine XX.aload_n dd_M_find_45 rfl 1 rfl ?_
        refine XX.iload dd_M_find_46 5 rfl ?_
        refine XX.put (q0 := 0) (ws2 := wM G q (upd xx 17 (nI a)) f kl) fp_M_104 dd_M_find_48 rfl rfl rfl (xn_le rfl) rfl ?_
        refine XX.aload_n dd_M_find_51 rfl 1 rfl ?_
        refine XX.get (q0 := 0) (v := .int ((upd xx 17 (nI a)) 6)) fl_M_17 dd_M_find_52 rfl rfl ?_
        refine XX.tp (y := sep) (hxb) ?_
        refine XX.iconst (v := -1) dd_M_find_55 (by decide) ?_
        refine XX.icmp_eq (tgt := 114) dd_M_find_56 (by decide) (fun h56 => ?_) (fun h56 => ?_)
        ·
          refine XX.lvs [1, 2, 3, 4, 5, 0, 6] rfl ?_
          exact in114 h56 (hmo h39).1 (hmo h39).2 _ a rfl (hmo h39).1 (by rw [fl_stop, if_pos h56])
        ·
          refine XX.lvs [1, 2, 3, 4, 5, 0, 6] rfl ?_
          exact in59 h56 (hmo h39).1 (hmo h39).2 _ a rfl (hmo h39).1 (by rw [fl_stop, if_neg h56])
  refine XX.aload_n dd_M_find_0 rfl 0 rfl ?_
  refine XX.iload_n dd_M_find_1 rfl 1 rfl ?_
  refine XX.callVr (Mk := m_M_endOf) (n := 1) (As := [.int (nI l)]) (rest := []) (q0 := 0) (ci := 9) (c_M_endOf ht (l := l) hl) mt_M_endOf mi_M_endOf ml_M_97 rfl dd_M_find_2 (rfl) rfl rfl ⟨xn_le rfl, xn_le rfl⟩ ⟨xn_le rfl, xn_le rfl⟩ (xn_le rfl) rfl ?_
  refine XX.istore_n (lv2 := [(3, .int (nI (men len st l))), (0, .ref (q 0)), (1, .int (nI l)), (2, .int (nI fd))]) dd_M_find_5 rfl (by decide) rfl ?_
  refine XX.aload_n dd_M_find_6 rfl 1 rfl ?_
  refine XX.iload_n dd_M_find_7 rfl 2 rfl ?_
  refine XX.callVr (Mk := m_M_startOf) (n := 1) (As := [.int (nI l)]) (rest := []) (q0 := 0) (ci := 9) (c_M_startOf ht (l := l) (by omega)) mt_M_startOf mi_M_startOf ml_M_101 rfl dd_M_find_8 (rfl) rfl rfl ⟨xn_le rfl, xn_le rfl⟩ ⟨xn_le rfl, xn_le rfl⟩ (xn_le rfl) rfl ?_
  refine XX.istore (lv2 := [(4, .int (nI (st l))), (3, .int (nI (men len st l))), (0, .ref (q 0)), (1, .int (nI l)), (2, .int (nI fd))]) dd_M_find_11 (by decide) rfl ?_
  refine XX.iconst (v := nI 0) dd_M_find_13 (by decide) ?_
  refine XX.istore (lv2 := [(5, .int (nI 0)), (4, .int (nI (st l))), (3, .int (nI (men len st l))), (0, .ref (q 0)), (1, .int (nI l)), (2, .int (nI fd))]) dd_M_find_14 (by decide) rfl ?_
  have j35 : XX G m_M_find (xr 1 0 0) (xx_F G (fun r w => ∃ (b : Bool) (x2 : Nat → Int32), r = some (.int (bI b)) ∧ w = wM G q x2 f kl ∧ agF x x2 ∧ (b = true → ∃ a, fl_start B sep (men len st l) (fd - 1) (st l) = some a ∧ x2 17 = nI a ∧ x2 18 = nI (fl_stop B sep (men len st l) a)) ∧ (b = false → fl_start B sep (men len st l) (fd - 1) (st l) = none ∨ men len st l ≤ st l)) (xr 1 0 0)) 0 0 (wM G q x f kl) 35 [(5, .int (nI 0)), (4, .int (nI (st l))), (3, .int (nI (men len st l))), (0, .ref (q 0)), (1, .int (nI l)), (2, .int (nI fd))] [.int (bI (!decide (sep = -1) || decide (st l < men len st l)))] := by
    refine XX.istore (lv2 := [(6, .int (bI (!decide (sep = -1) || decide (st l < men len st l)))), (5, .int (nI 0)), (4, .int (nI (st l))), (3, .int (nI (men len st l))), (0, .ref (q 0)), (1, .int (nI l)), (2, .int (nI fd))]) dd_M_find_35 (by decide) rfl ?_
    refine XX.lvs [4, 5, 6, 3, 2, 1, 0] rfl ?_
    exact loop _ 0 (st l) (!decide (sep = -1) || decide (st l < men len st l)) x rfl (by omega) (fun _ _ _ => rfl) (fun _ => ⟨hse1, rfl⟩) (fun z => by right; simp at z; omega)
  refine XX.aload_n dd_M_find_16 rfl 3 rfl ?_
  refine XX.get (q0 := 0) (v := .int (x 6)) fl_M_17 dd_M_find_17 rfl rfl ?_
  refine XX.tp (y := sep) (hx6) ?_
  refine XX.iconst (v := -1) dd_M_find_20 (by decide) ?_
  refine XX.icmp_ne (tgt := 30) dd_M_find_21 (by decide) (fun h21 => ?_) (fun h21 => ?_)
  ·
    refine XX.iconst (v := nI 1) dd_M_find_30 (by decide) ?_
    refine XX.goto (tgt := 35) dd_M_find_31 (by decide) ?_
    exact XX.tp (by simp [bI, h21]) j35
  ·
    refine XX.iload dd_M_find_24 1 rfl ?_
    refine XX.iload_n dd_M_find_26 rfl 2 rfl ?_
    refine XX.ncmp_ge (tgt := 34) dd_M_find_27 (by decide) (by omega) (by omega) (fun h27 => ?_) (fun h27 => ?_)
    ·
      refine XX.iconst (v := nI 0) dd_M_find_34 (by decide) ?_
      exact XX.tp (by simp [bI, h21]; omega) j35
    ·
      refine XX.iconst (v := nI 1) dd_M_find_30 (by decide) ?_
      refine XX.goto (tgt := 35) dd_M_find_31 (by decide) ?_
      exact XX.tp (by simp [bI, h21]; omega) j35

set_option maxRecDepth 100000 in
set_option maxHeartbeats 4000000 in
theorem c_M_begin {G : XG} {q : Nat → Nat} {x : Nat → Int32} {f : Nat → Nat → Int32} {kl : va_W} {len ln : Nat} {st : Nat → Nat} {B : Nat → Int32} (ht : mtx x f len ln st B) {sep : Int32} (hx6 : x 6 = sep) {l a e1 : Nat} {ps : Bool} (hl : l < ln) (h17 : x 17 = nI a) (h18 : x 18 = nI e1) (he1 : e1 ≤ len) (ha : a ≤ len) : MR G m_M_begin (xr 1 0 0) [.ref (q 0), .int (nI l), .int (bI ps)] (wM G q x f kl) (some (.int (nI (if ps = true then sk (pb_blk B) (if sep = -1 then men len st l else e1) a else a)))) := by
  obtain ⟨hx0, hl0, hln, hst, hse, hB⟩ := id ht
  have hmen := men_le len st l
  refine MR.of rfl (xn_le rfl) ?_
  refine (?_ : XR G m_M_begin (xr 1 0 0) (xr_F (some (.int (nI (if ps = true then sk (pb_blk B) (if sep = -1 then men len st l else e1) a else a))))) (wM G q x f kl) 0 [(0, .ref (q 0)), (1, .int (nI l)), (2, .int (bI ps))] [])
  have hmost : (if sep = -1 then men len st l else e1) ≤ len := by split <;> omega
  have loop : ∀ (kk i : Nat), (if sep = -1 then men len st l else e1) - i = kk → i ≤ len → (if ps = true then sk (pb_blk B) (if sep = -1 then men len st l else e1) i else i) = (if ps = true then sk (pb_blk B) (if sep = -1 then men len st l else e1) a else a) → XR G m_M_begin (xr 1 0 0) (xr_F (some (.int (nI (if ps = true then sk (pb_blk B) (if sep = -1 then men len st l else e1) a else a))))) (wM G q x f kl) 27 [(0, .ref (q 0)), (1, .int (nI l)), (2, .int (bI ps)), (3, .int (nI (if sep = -1 then men len st l else e1))), (4, .int (nI i))] [] := by
    intro kk
    induction kk using Nat.strongRecOn with
    | _ kk ih =>
      intro i hk hi hr
      generalize (if sep = -1 then men len st l else e1) = mo at *
      refine XR.iload_n dd_M_begin_27 rfl 2 rfl ?_
      refine XR.bif_eq (tgt := 52) dd_M_begin_28 (by decide) (fun h28 => ?_) (fun h28 => ?_)
      ·
        refine XR.iload dd_M_begin_52 4 rfl ?_
        refine XR.tp (y := nI (if ps = true then sk (pb_blk B) mo a else a)) (by rw [← hr, if_neg (by rw [h28]; decide)]) ?_
        exact XR.iret dd_M_begin_54 rfl
      ·
        refine XR.iload dd_M_begin_31 4 rfl ?_
        refine XR.iload_n dd_M_begin_33 rfl 3 rfl ?_
        refine XR.ncmp_ge (tgt := 52) dd_M_begin_34 (by decide) (by omega) (by omega) (fun h34 => ?_) (fun h34 => ?_)
        ·
          refine XR.iload dd_M_begin_52 4 rfl ?_
          refine XR.tp (y := nI (if ps = true then sk (pb_blk B) mo a else a)) (by rw [← hr, if_pos h28, sk_stop (fun hz => by first | (exfalso; omega) | simp [h28, h34])]) ?_
          exact XR.iret dd_M_begin_54 rfl
        ·
          refine XR.aload_n dd_M_begin_37 rfl 0 rfl ?_
          refine XR.iload dd_M_begin_38 4 rfl ?_
          refine XR.callV (Mk := m_M_isBlank) (n := 1) (As := [.int (nI i)]) (rest := []) (q0 := 0) (ci := 9) (c_M_isBlank ht (i := i) (by omega)) mt_M_isBlank mi_M_isBlank ml_M_110 rfl dd_M_begin_40 (rfl) rfl rfl ⟨xn_le rfl, xn_le rfl⟩ (xn_le rfl) rfl ?_
          refine XR.bif_eq (tgt := 52) dd_M_begin_43 (by decide) (fun h43 => ?_) (fun h43 => ?_)
          ·
            refine XR.iload dd_M_begin_52 4 rfl ?_
            refine XR.tp (y := nI (if ps = true then sk (pb_blk B) mo a else a)) (by rw [← hr, if_pos h28, sk_stop (fun hz => by first | (exfalso; omega) | simp [h28, h34, h43])]) ?_
            exact XR.iret dd_M_begin_54 rfl
          ·
            refine XR.iinc (z := 4) (v := nI (i + 1)) (lv2 := [(4, .int (nI (i + 1))), (0, .ref (q 0)), (1, .int (nI l)), (2, .int (bI ps)), (3, .int (nI mo))]) dd_M_begin_46 rfl ((nI_succ _).symm) (by decide) rfl ?_
            refine XR.goto (tgt := 27) dd_M_begin_49 (by decide) ?_
            refine XR.lvs [1, 2, 3, 4, 0] rfl ?_
            exact ih _ (by omega) (i + 1) rfl (by omega) (by rw [← hr, if_pos h28, if_pos h28, sk_step (a := i) (by omega) h43])
  have j20 : XR G m_M_begin (xr 1 0 0) (xr_F (some (.int (nI (if ps = true then sk (pb_blk B) (if sep = -1 then men len st l else e1) a else a))))) (wM G q x f kl) 20 [(0, .ref (q 0)), (1, .int (nI l)), (2, .int (bI ps))] [.int (nI (if sep = -1 then men len st l else e1))] := by
    refine XR.istore_n (lv2 := [(3, .int (nI (if sep = -1 then men len st l else e1))), (0, .ref (q 0)), (1, .int (nI l)), (2, .int (bI ps))]) dd_M_begin_20 rfl (by decide) rfl ?_
    refine XR.aload_n dd_M_begin_21 rfl 1 rfl ?_
    refine XR.get (q0 := 0) (v := .int (x 17)) fl_M_104 dd_M_begin_22 rfl rfl ?_
    refine XR.tp (y := nI a) (h17) ?_
    refine XR.istore (lv2 := [(4, .int (nI a)), (3, .int (nI (if sep = -1 then men len st l else e1))), (0, .ref (q 0)), (1, .int (nI l)), (2, .int (bI ps))]) dd_M_begin_25 (by decide) rfl ?_
    refine XR.lvs [2, 3, 4, 1, 0] rfl ?_
    exact loop _ a rfl ha rfl
  refine XR.aload_n dd_M_begin_0 rfl 0 rfl ?_
  refine XR.get (q0 := 0) (v := .int (x 6)) fl_M_17 dd_M_begin_1 rfl rfl ?_
  refine XR.tp (y := sep) (hx6) ?_
  refine XR.iconst (v := -1) dd_M_begin_4 (by decide) ?_
  refine XR.icmp_eq (tgt := 15) dd_M_begin_5 (by decide) (fun h5 => ?_) (fun h5 => ?_)
  ·
    refine XR.aload_n dd_M_begin_15 rfl 0 rfl ?_
    refine XR.iload_n dd_M_begin_16 rfl 1 rfl ?_
    refine XR.callV (Mk := m_M_endOf) (n := 1) (As := [.int (nI l)]) (rest := []) (q0 := 0) (ci := 9) (c_M_endOf ht (l := l) hl) mt_M_endOf mi_M_endOf ml_M_97 rfl dd_M_begin_17 (rfl) rfl rfl ⟨xn_le rfl, xn_le rfl⟩ (xn_le rfl) rfl ?_
    exact XR.tp (by simp [h5]) j20
  ·
    refine XR.aload_n dd_M_begin_8 rfl 0 rfl ?_
    refine XR.get (q0 := 0) (v := .int (x 18)) fl_M_107 dd_M_begin_9 rfl rfl ?_
    refine XR.tp (y := nI e1) (h18) ?_
    refine XR.goto (tgt := 20) dd_M_begin_12 (by decide) ?_
    exact XR.tp (by simp [h5]) j20

theorem bgn_eq {B : Nat → Int32} {sep : Int32} {to a : Nat} : sk (pb_blk B) (if sep = -1 then to else fl_stop B sep to a) a = sk (pb_pass B sep) to a := by
  split
  · rename_i h; rw [h]; exact pass_no.symm
  · rename_i h; rw [fl_stop, if_neg h]; exact pass_sep _ a rfl
set_option maxRecDepth 100000 in
set_option maxHeartbeats 4000000 in
theorem c_M_keyBegin {G : XG} {q : Nat → Nat} {x : Nat → Int32} {f : Nat → Nat → Int32} {kl : va_W} {len ln : Nat} {st : Nat → Nat} {B : Nat → Int32} (ht : mtx x f len ln st B) {sep : Int32} (hx6 : x 6 = sep) {kc : Nat} {kd : Nat → Nat → Nat} {kg : Nat → Int32} {all : Int32} (hk : mky x f kc kd kg) (hx3 : x 3 = all) {l k : Nat} (hl : l < ln) (hkk : k < max 1 kc) : MM G m_M_keyBegin (xr 2 0 0) [.ref (q 0), .int (nI l), .int (nI k)] (wM G q x f kl) (fun r w => r = some (.int (nI (ky_begin B sep (ky_fl (kgu kc kg k) all) (kdu kc kd k 0) (kdu kc kd k 1) (st l) (men len st l)))) ∧ ∃ x2 : Nat → Int32, w = wM G q x2 f kl ∧ agF x x2) := by
  obtain ⟨hx0, hl0, hln, hst, hse, hB⟩ := id ht
  have hse1 := (hse l hl).2
  have hmen := men_le len st l
  obtain ⟨y0, y1, y2, y3, y4, y5⟩ := kdu_b hk k
  have ht0 := ht
  have hk0 := hk
  refine MM.of rfl (xn_le rfl) ?_
  refine (?_ : XX G m_M_keyBegin (xr 2 0 0) (xx_F G (fun r w => r = some (.int (nI (ky_begin B sep (ky_fl (kgu kc kg k) all) (kdu kc kd k 0) (kdu kc kd k 1) (st l) (men len st l)))) ∧ ∃ x2 : Nat → Int32, w = wM G q x2 f kl ∧ agF x x2) (xr 2 0 0)) 0 0 (wM G q x f kl) 0 [(0, .ref (q 0)), (1, .int (nI l)), (2, .int (nI k))] [])
  refine XX.aload_n dd_M_keyBegin_0 rfl 0 rfl ?_
  refine XX.iload_n dd_M_keyBegin_1 rfl 1 rfl ?_
  refine XX.callVr (Mk := m_M_endOf) (n := 1) (As := [.int (nI l)]) (rest := []) (q0 := 0) (ci := 9) (c_M_endOf ht0 (l := l) hl) mt_M_endOf mi_M_endOf ml_M_97 rfl dd_M_keyBegin_2 (rfl) rfl rfl ⟨xn_le rfl, xn_le rfl⟩ ⟨xn_le rfl, xn_le rfl⟩ (xn_le rfl) rfl ?_
  refine XX.istore_n (lv2 := [(3, .int (nI (men len st l))), (0, .ref (q 0)), (1, .int (nI l)), (2, .int (nI k))]) dd_M_keyBegin_5 rfl (by decide) rfl ?_
  refine XX.aload_n dd_M_keyBegin_6 rfl 1 rfl ?_
  refine XX.iload_n dd_M_keyBegin_7 rfl 2 rfl ?_
  refine XX.aload_n dd_M_keyBegin_8 rfl 1 rfl ?_
  refine XX.iload_n dd_M_keyBegin_9 rfl 3 rfl ?_
  refine XX.iconst (v := nI 0) dd_M_keyBegin_10 (by decide) ?_
  refine XX.callVr (Mk := m_M_keyOf) (n := 2) (As := [.int (nI k), .int (nI 0)]) (rest := [.int (nI l), .ref (q 0)]) (q0 := 0) (ci := 9) (c_M_keyOf0 (x := x) hk0 hx3 (k := k) hkk) mt_M_keyOf mi_M_keyOf ml_M_114 rfl dd_M_keyBegin_11 (rfl) rfl rfl ⟨xn_le rfl, xn_le rfl⟩ ⟨xn_le rfl, xn_le rfl⟩ (xn_le rfl) rfl ?_
  refine XX.callV (Mk := m_M_find) (n := 2) (As := [.int (nI l), .int (nI (kdu kc kd k 0))]) (rest := []) (q0 := 0) (ci := 9) (c_M_find ht0 hx6 (l := l) (fd := kdu kc kd k 0) hl (by omega) (by omega)) mt_M_find mi_M_find ml_M_118 rfl dd_M_keyBegin_14 (rfl) rfl rfl ⟨xn_le rfl, xn_le rfl⟩ ⟨xn_le rfl, xn_le rfl⟩ (xn_le rfl) rfl (fun r1 w1 hp1 => ?_)
  obtain ⟨bb, x2, rfl, rfl, hg2, hbt, hbf⟩ := hp1
  have ht2 : mtx x2 f len ln st B := mtx_mv ht0 (hg2 0 (by omega) (by omega))
  have hk2 : mky x2 f kc kd kg := mky_mv hk0 (hg2 7 (by omega) (by omega))
  have hx32 : x2 3 = all := (hg2 3 (by omega) (by omega)).trans hx3
  have hx62 : x2 6 = sep := (hg2 6 (by omega) (by omega)).trans hx6
  refine (?_ : XX G m_M_keyBegin (xr 2 0 0) (xx_F G (fun r w => r = some (.int (nI (ky_begin B sep (ky_fl (kgu kc kg k) all) (kdu kc kd k 0) (kdu kc kd k 1) (st l) (men len st l)))) ∧ ∃ x2 : Nat → Int32, w = wM G q x2 f kl ∧ agF x x2) (xr 2 0 0)) 0 0 (wM G q x2 f kl) 17 [(3, .int (nI (men len st l))), (0, .ref (q 0)), (1, .int (nI l)), (2, .int (nI k))] [.int (bI bb)])
  refine XX.bif_ne (tgt := 22) dd_M_keyBegin_17 (by decide) (fun h17 => ?_) (fun h17 => ?_)
  ·
    obtain ⟨a, hfa, h17, h18⟩ := hbt h17
    have hae := fl_start_le hse1 hfa
    have hfe := fl_stop_le (B := B) (sep := sep) hae
    refine XX.aload_n dd_M_keyBegin_22 rfl 1 rfl ?_
    refine XX.iload_n dd_M_keyBegin_23 rfl 2 rfl ?_
    refine XX.aload_n dd_M_keyBegin_24 rfl 1 rfl ?_
    refine XX.iload_n dd_M_keyBegin_25 rfl 3 rfl ?_
    refine XX.iconst (v := nI 4) dd_M_keyBegin_26 (by decide) ?_
    refine XX.callVr (Mk := m_M_keyOf) (n := 2) (As := [.int (nI k), .int (nI 4)]) (rest := [.int (nI l), .ref (q 0)]) (q0 := 0) (ci := 9) (c_M_keyOf4 (x := x2) hk2 hx32 (k := k) hkk) mt_M_keyOf mi_M_keyOf ml_M_114 rfl dd_M_keyBegin_27 (rfl) rfl rfl ⟨xn_le rfl, xn_le rfl⟩ ⟨xn_le rfl, xn_le rfl⟩ (xn_le rfl) rfl ?_
    refine XX.iconst (v := nI 1) dd_M_keyBegin_30 (by decide) ?_
    refine XX.iand dd_M_keyBegin_31 ?_
    refine XX.if_le (tgt := 39) dd_M_keyBegin_32 (by decide) (fun h32 => ?_) (fun h32 => ?_)
    ·
      refine XX.iconst (v := nI 0) dd_M_keyBegin_39 (by decide) ?_
      refine XX.callVr (Mk := m_M_begin) (n := 2) (As := [.int (nI l), .int (nI 0)]) (rest := []) (q0 := 0) (ci := 9) (c_M_begin ht2 hx62 (l := l) (a := a) (e1 := fl_stop B sep (men len st l) a) (ps := false) hl h17 h18 (by omega) (by omega)) mt_M_begin mi_M_begin ml_M_122 rfl dd_M_keyBegin_40 (rfl) rfl rfl ⟨xn_le rfl, xn_le rfl⟩ ⟨xn_le rfl, xn_le rfl⟩ (xn_le rfl) rfl ?_
      refine XX.tp (y := nI (if ky_fl (kgu kc kg k) all &&& nI 1 = 0 then a else sk (pb_pass B sep) (men len st l) a)) (by rw [if_neg (by decide), if_pos ((and_le (by decide)).mp h32)]) ?_
      have hbl : (if ky_fl (kgu kc kg k) all &&& nI 1 = 0 then a else sk (pb_pass B sep) (men len st l) a) ≤ len := by
        have := sk_le2 (p := pb_pass B sep) (a := a) (to := men len st l) (m := len) (by omega) (by omega)
        split <;> omega
      refine XX.aload_n dd_M_keyBegin_43 rfl 1 rfl ?_
      refine XX.iload_n dd_M_keyBegin_44 rfl 3 rfl ?_
      refine XX.iconst (v := nI 1) dd_M_keyBegin_45 (by decide) ?_
      refine XX.callVr (Mk := m_M_keyOf) (n := 2) (As := [.int (nI k), .int (nI 1)]) (rest := [.int (nI (if ky_fl (kgu kc kg k) all &&& nI 1 = 0 then a else sk (pb_pass B sep) (men len st l) a))]) (q0 := 0) (ci := 9) (c_M_keyOf1 (x := x2) hk2 hx32 (k := k) hkk) mt_M_keyOf mi_M_keyOf ml_M_114 rfl dd_M_keyBegin_46 (rfl) rfl rfl ⟨xn_le rfl, xn_le rfl⟩ ⟨xn_le rfl, xn_le rfl⟩ (xn_le rfl) rfl ?_
      refine XX.iadd dd_M_keyBegin_49 ?_
      refine XX.tp (y := nI ((if ky_fl (kgu kc kg k) all &&& nI 1 = 0 then a else sk (pb_pass B sep) (men len st l) a) + kdu kc kd k 1)) (nI_add _ _) ?_
      refine XX.iconst (v := nI 1) dd_M_keyBegin_50 (by decide) ?_
      refine XX.isub dd_M_keyBegin_51 ?_
      refine XX.tp (y := nI ((if ky_fl (kgu kc kg k) all &&& nI 1 = 0 then a else sk (pb_pass B sep) (men len st l) a) + kdu kc kd k 1 - 1)) (pk_sub (by omega)) ?_
      refine XX.istore (lv2 := [(4, .int (nI ((if ky_fl (kgu kc kg k) all &&& nI 1 = 0 then a else sk (pb_pass B sep) (men len st l) a) + kdu kc kd k 1 - 1))), (3, .int (nI (men len st l))), (0, .ref (q 0)), (1, .int (nI l)), (2, .int (nI k))]) dd_M_keyBegin_52 (by decide) rfl ?_
      refine XX.iload dd_M_keyBegin_54 0 rfl ?_
      refine XX.iload_n dd_M_keyBegin_56 rfl 1 rfl ?_
      refine XX.ncmp_ge (tgt := 65) dd_M_keyBegin_57 (by decide) (by omega) (by omega) (fun h57 => ?_) (fun h57 => ?_)
      ·
        refine XX.iload_n dd_M_keyBegin_65 rfl 1 rfl ?_
        refine XX.tp (y := nI (ky_begin B sep (ky_fl (kgu kc kg k) all) (kdu kc kd k 0) (kdu kc kd k 1) (st l) (men len st l))) (by unfold ky_begin; simp only [hfa]; congr 1; omega) ?_
        exact XX.iret dd_M_keyBegin_66 rfl ⟨xn_le rfl, xn_le rfl⟩ ⟨rfl, x2, rfl, hg2⟩
      ·
        refine XX.iload dd_M_keyBegin_60 0 rfl ?_
        refine XX.goto (tgt := 66) dd_M_keyBegin_62 (by decide) ?_
        refine XX.tp (y := nI (ky_begin B sep (ky_fl (kgu kc kg k) all) (kdu kc kd k 0) (kdu kc kd k 1) (st l) (men len st l))) (by unfold ky_begin; simp only [hfa]; congr 1; omega) ?_
        exact XX.iret dd_M_keyBegin_66 rfl ⟨xn_le rfl, xn_le rfl⟩ ⟨rfl, x2, rfl, hg2⟩
    ·
      refine XX.iconst (v := nI 1) dd_M_keyBegin_35 (by decide) ?_
      refine XX.goto (tgt := 40) dd_M_keyBegin_36 (by decide) ?_
      refine XX.callVr (Mk := m_M_begin) (n := 2) (As := [.int (nI l), .int (nI 1)]) (rest := []) (q0 := 0) (ci := 9) (c_M_begin ht2 hx62 (l := l) (a := a) (e1 := fl_stop B sep (men len st l) a) (ps := true) hl h17 h18 (by omega) (by omega)) mt_M_begin mi_M_begin ml_M_122 rfl dd_M_keyBegin_40 (rfl) rfl rfl ⟨xn_le rfl, xn_le rfl⟩ ⟨xn_le rfl, xn_le rfl⟩ (xn_le rfl) rfl ?_
      refine XX.tp (y := nI (if ky_fl (kgu kc kg k) all &&& nI 1 = 0 then a else sk (pb_pass B sep) (men len st l) a)) (by rw [if_pos rfl, bgn_eq, if_neg (fun z => h32 ((and_le (by decide)).mpr z))]) ?_
      have hbl : (if ky_fl (kgu kc kg k) all &&& nI 1 = 0 then a else sk (pb_pass B sep) (men len st l) a) ≤ len := by
        have := sk_le2 (p := pb_pass B sep) (a := a) (to := men len st l) (m := len) (by omega) (by omega)
        split <;> omega
      refine XX.aload_n dd_M_keyBegin_43 rfl 1 rfl ?_
      refine XX.iload_n dd_M_keyBegin_44 rfl 3 rfl ?_
      refine XX.iconst (v := nI 1) dd_M_keyBegin_45 (by decide) ?_
      refine XX.callVr (Mk := m_M_keyOf) (n := 2) (As := [.int (nI k), .int (nI 1)]) (rest := [.int (nI (if ky_fl (kgu kc kg k) all &&& nI 1 = 0 then a else sk (pb_pass B sep) (men len st l) a))]) (q0 := 0) (ci := 9) (c_M_keyOf1 (x := x2) hk2 hx32 (k := k) hkk) mt_M_keyOf mi_M_keyOf ml_M_114 rfl dd_M_keyBegin_46 (rfl) rfl rfl ⟨xn_le rfl, xn_le rfl⟩ ⟨xn_le rfl, xn_le rfl⟩ (xn_le rfl) rfl ?_
      refine XX.iadd dd_M_keyBegin_49 ?_
      refine XX.tp (y := nI ((if ky_fl (kgu kc kg k) all &&& nI 1 = 0 then a else sk (pb_pass B sep) (men len st l) a) + kdu kc kd k 1)) (nI_add _ _) ?_
      refine XX.iconst (v := nI 1) dd_M_keyBegin_50 (by decide) ?_
      refine XX.isub dd_M_keyBegin_51 ?_
      refine XX.tp (y := nI ((if ky_fl (kgu kc kg k) all &&& nI 1 = 0 then a else sk (pb_pass B sep) (men len st l) a) + kdu kc kd k 1 - 1)) (pk_sub (by omega)) ?_
      refine XX.istore (lv2 := [(4, .int (nI ((if ky_fl (kgu kc kg k) all &&& nI 1 = 0 then a else sk (pb_pass B sep) (men len st l) a) + kdu kc kd k 1 - 1))), (3, .int (nI (men len st l))), (0, .ref (q 0)), (1, .int (nI l)), (2, .int (nI k))]) dd_M_keyBegin_52 (by decide) rfl ?_
      refine XX.iload dd_M_keyBegin_54 0 rfl ?_
      refine XX.iload_n dd_M_keyBegin_56 rfl 1 rfl ?_
      refine XX.ncmp_ge (tgt := 65) dd_M_keyBegin_57 (by decide) (by omega) (by omega) (fun h57 => ?_) (fun h57 => ?_)
      ·
        refine XX.iload_n dd_M_keyBegin_65 rfl 1 rfl ?_
        refine XX.tp (y := nI (ky_begin B sep (ky_fl (kgu kc kg k) all) (kdu kc kd k 0) (kdu kc kd k 1) (st l) (men len st l))) (by unfold ky_begin; simp only [hfa]; congr 1; omega) ?_
        exact XX.iret dd_M_keyBegin_66 rfl ⟨xn_le rfl, xn_le rfl⟩ ⟨rfl, x2, rfl, hg2⟩
      ·
        refine XX.iload dd_M_keyBegin_60 0 rfl ?_
        refine XX.goto (tgt := 66) dd_M_keyBegin_62 (by decide) ?_
        refine XX.tp (y := nI (ky_begin B sep (ky_fl (kgu kc kg k) all) (kdu kc kd k 0) (kdu kc kd k 1) (st l) (men len st l))) (by unfold ky_begin; simp only [hfa]; congr 1; omega) ?_
        exact XX.iret dd_M_keyBegin_66 rfl ⟨xn_le rfl, xn_le rfl⟩ ⟨rfl, x2, rfl, hg2⟩
  ·
    refine XX.iload_n dd_M_keyBegin_20 rfl 0 rfl ?_
    refine XX.tp (y := nI (ky_begin B sep (ky_fl (kgu kc kg k) all) (kdu kc kd k 0) (kdu kc kd k 1) (st l) (men len st l))) (by
      rcases hbf h17 with z | z
      · unfold ky_begin; simp only [z]
      · have e0 : st l = men len st l := by omega
        rw [e0, ky_begin_0 y2]) ?_
    exact XX.iret dd_M_keyBegin_21 rfl ⟨xn_le rfl, xn_le rfl⟩ ⟨rfl, x2, rfl, hg2⟩

set_option maxRecDepth 100000 in
set_option maxHeartbeats 4000000 in
theorem c_M_keyEnd {G : XG} {q : Nat → Nat} {x : Nat → Int32} {f : Nat → Nat → Int32} {kl : va_W} {len ln : Nat} {st : Nat → Nat} {B : Nat → Int32} (ht : mtx x f len ln st B) {sep : Int32} (hx6 : x 6 = sep) {kc : Nat} {kd : Nat → Nat → Nat} {kg : Nat → Int32} {all : Int32} (hk : mky x f kc kd kg) (hx3 : x 3 = all) {l k : Nat} (hl : l < ln) (hkk : k < max 1 kc) : MM G m_M_keyEnd (xr 2 0 0) [.ref (q 0), .int (nI l), .int (nI k)] (wM G q x f kl) (fun r w => r = some (.int (nI (ky_end B sep (ky_fl (kgu kc kg k) all) (kdu kc kd k 2) (kdu kc kd k 3) (st l) (men len st l)))) ∧ ∃ x2 : Nat → Int32, w = wM G q x2 f kl ∧ agF x x2) := by
  obtain ⟨hx0, hl0, hln, hst, hse, hB⟩ := id ht
  have hse1 := (hse l hl).2
  have hmen := men_le len st l
  obtain ⟨y0, y1, y2, y3, y4, y5⟩ := kdu_b hk k
  have ht0 := ht
  have hk0 := hk
  refine MM.of rfl (xn_le rfl) ?_
  refine (?_ : XX G m_M_keyEnd (xr 2 0 0) (xx_F G (fun r w => r = some (.int (nI (ky_end B sep (ky_fl (kgu kc kg k) all) (kdu kc kd k 2) (kdu kc kd k 3) (st l) (men len st l)))) ∧ ∃ x2 : Nat → Int32, w = wM G q x2 f kl ∧ agF x x2) (xr 2 0 0)) 0 0 (wM G q x f kl) 0 [(0, .ref (q 0)), (1, .int (nI l)), (2, .int (nI k))] [])
  refine XX.aload_n dd_M_keyEnd_0 rfl 0 rfl ?_
  refine XX.iload_n dd_M_keyEnd_1 rfl 1 rfl ?_
  refine XX.callVr (Mk := m_M_endOf) (n := 1) (As := [.int (nI l)]) (rest := []) (q0 := 0) (ci := 9) (c_M_endOf ht0 (l := l) hl) mt_M_endOf mi_M_endOf ml_M_97 rfl dd_M_keyEnd_2 (rfl) rfl rfl ⟨xn_le rfl, xn_le rfl⟩ ⟨xn_le rfl, xn_le rfl⟩ (xn_le rfl) rfl ?_
  refine XX.istore_n (lv2 := [(3, .int (nI (men len st l))), (0, .ref (q 0)), (1, .int (nI l)), (2, .int (nI k))]) dd_M_keyEnd_5 rfl (by decide) rfl ?_
  refine XX.aload_n dd_M_keyEnd_6 rfl 1 rfl ?_
  refine XX.iload_n dd_M_keyEnd_7 rfl 3 rfl ?_
  refine XX.iconst (v := nI 2) dd_M_keyEnd_8 (by decide) ?_
  refine XX.callVr (Mk := m_M_keyOf) (n := 2) (As := [.int (nI k), .int (nI 2)]) (rest := []) (q0 := 0) (ci := 9) (c_M_keyOf2 (x := x) hk0 hx3 (k := k) hkk) mt_M_keyOf mi_M_keyOf ml_M_114 rfl dd_M_keyEnd_9 (rfl) rfl rfl ⟨xn_le rfl, xn_le rfl⟩ ⟨xn_le rfl, xn_le rfl⟩ (xn_le rfl) rfl ?_
  refine XX.istore (lv2 := [(4, .int (nI (kdu kc kd k 2))), (3, .int (nI (men len st l))), (0, .ref (q 0)), (1, .int (nI l)), (2, .int (nI k))]) dd_M_keyEnd_12 (by decide) rfl ?_
  refine XX.iload dd_M_keyEnd_14 0 rfl ?_
  refine XX.nif_eq (tgt := 29) dd_M_keyEnd_16 (by decide) (by omega) (fun h16 => ?_) (fun h16 => ?_)
  ·
    refine XX.iload_n dd_M_keyEnd_29 rfl 1 rfl ?_
    refine XX.tp (y := nI (ky_end B sep (ky_fl (kgu kc kg k) all) (kdu kc kd k 2) (kdu kc kd k 3) (st l) (men len st l))) (by unfold ky_end; rw [if_pos (by omega)]) ?_
    exact XX.iret dd_M_keyEnd_30 rfl ⟨xn_le rfl, xn_le rfl⟩ ⟨rfl, x, rfl, fun _ _ _ => rfl⟩
  ·
    refine XX.aload_n dd_M_keyEnd_19 rfl 2 rfl ?_
    refine XX.iload_n dd_M_keyEnd_20 rfl 3 rfl ?_
    refine XX.iload dd_M_keyEnd_21 0 rfl ?_
    refine XX.callV (Mk := m_M_find) (n := 2) (As := [.int (nI l), .int (nI (kdu kc kd k 2))]) (rest := []) (q0 := 0) (ci := 9) (c_M_find ht0 hx6 (l := l) (fd := kdu kc kd k 2) hl (by omega) (by omega)) mt_M_find mi_M_find ml_M_118 rfl dd_M_keyEnd_23 (rfl) rfl rfl ⟨xn_le rfl, xn_le rfl⟩ ⟨xn_le rfl, xn_le rfl⟩ (xn_le rfl) rfl (fun r1 w1 hp1 => ?_)
    obtain ⟨bb, x2, rfl, rfl, hg2, hbt, hbf⟩ := hp1
    have ht2 : mtx x2 f len ln st B := mtx_mv ht0 (hg2 0 (by omega) (by omega))
    have hk2 : mky x2 f kc kd kg := mky_mv hk0 (hg2 7 (by omega) (by omega))
    have hx32 : x2 3 = all := (hg2 3 (by omega) (by omega)).trans hx3
    have hx62 : x2 6 = sep := (hg2 6 (by omega) (by omega)).trans hx6
    refine (?_ : XX G m_M_keyEnd (xr 2 0 0) (xx_F G (fun r w => r = some (.int (nI (ky_end B sep (ky_fl (kgu kc kg k) all) (kdu kc kd k 2) (kdu kc kd k 3) (st l) (men len st l)))) ∧ ∃ x2 : Nat → Int32, w = wM G q x2 f kl ∧ agF x x2) (xr 2 0 0)) 0 0 (wM G q x2 f kl) 26 [(4, .int (nI (kdu kc kd k 2))), (3, .int (nI (men len st l))), (0, .ref (q 0)), (1, .int (nI l)), (2, .int (nI k))] [.int (bI bb)])
    refine XX.bif_ne (tgt := 31) dd_M_keyEnd_26 (by decide) (fun h26 => ?_) (fun h26 => ?_)
    ·
      obtain ⟨a, hfa, h17, h18⟩ := hbt h26
      have hae := fl_start_le hse1 hfa
      have hfe := fl_stop_le (B := B) (sep := sep) hae
      refine XX.aload_n dd_M_keyEnd_31 rfl 2 rfl ?_
      refine XX.iload_n dd_M_keyEnd_32 rfl 4 rfl ?_
      refine XX.iconst (v := nI 3) dd_M_keyEnd_33 (by decide) ?_
      refine XX.callVr (Mk := m_M_keyOf) (n := 2) (As := [.int (nI k), .int (nI 3)]) (rest := []) (q0 := 0) (ci := 9) (c_M_keyOf3 (x := x2) hk2 hx32 (k := k) hkk) mt_M_keyOf mi_M_keyOf ml_M_114 rfl dd_M_keyEnd_34 (rfl) rfl rfl ⟨xn_le rfl, xn_le rfl⟩ ⟨xn_le rfl, xn_le rfl⟩ (xn_le rfl) rfl ?_
      refine XX.nif_ne (tgt := 45) dd_M_keyEnd_37 (by decide) (by omega) (fun h37 => ?_) (fun h37 => ?_)
      ·
        refine XX.aload_n dd_M_keyEnd_45 rfl 2 rfl ?_
        refine XX.iload_n dd_M_keyEnd_46 rfl 3 rfl ?_
        refine XX.aload_n dd_M_keyEnd_47 rfl 2 rfl ?_
        refine XX.iload_n dd_M_keyEnd_48 rfl 4 rfl ?_
        refine XX.iconst (v := nI 4) dd_M_keyEnd_49 (by decide) ?_
        refine XX.callVr (Mk := m_M_keyOf) (n := 2) (As := [.int (nI k), .int (nI 4)]) (rest := [.int (nI l), .ref (q 0)]) (q0 := 0) (ci := 9) (c_M_keyOf4 (x := x2) hk2 hx32 (k := k) hkk) mt_M_keyOf mi_M_keyOf ml_M_114 rfl dd_M_keyEnd_50 (rfl) rfl rfl ⟨xn_le rfl, xn_le rfl⟩ ⟨xn_le rfl, xn_le rfl⟩ (xn_le rfl) rfl ?_
        refine XX.bipush (v := nI 64) dd_M_keyEnd_53 (by decide) ?_
        refine XX.iand dd_M_keyEnd_55 ?_
        refine XX.if_le (tgt := 63) dd_M_keyEnd_56 (by decide) (fun h56 => ?_) (fun h56 => ?_)
        ·
          refine XX.iconst (v := nI 0) dd_M_keyEnd_63 (by decide) ?_
          refine XX.callVr (Mk := m_M_begin) (n := 2) (As := [.int (nI l), .int (nI 0)]) (rest := []) (q0 := 0) (ci := 9) (c_M_begin ht2 hx62 (l := l) (a := a) (e1 := fl_stop B sep (men len st l) a) (ps := false) hl h17 h18 (by omega) (by omega)) mt_M_begin mi_M_begin ml_M_122 rfl dd_M_keyEnd_64 (rfl) rfl rfl ⟨xn_le rfl, xn_le rfl⟩ ⟨xn_le rfl, xn_le rfl⟩ (xn_le rfl) rfl ?_
          refine XX.tp (y := nI (if ky_fl (kgu kc kg k) all &&& nI 64 = 0 then a else sk (pb_pass B sep) (men len st l) a)) (by rw [if_neg (by decide), if_pos ((and_le (by decide)).mp h56)]) ?_
          have hbl : (if ky_fl (kgu kc kg k) all &&& nI 64 = 0 then a else sk (pb_pass B sep) (men len st l) a) ≤ len := by
            have := sk_le2 (p := pb_pass B sep) (a := a) (to := men len st l) (m := len) (by omega) (by omega)
            split <;> omega
          refine XX.aload_n dd_M_keyEnd_67 rfl 2 rfl ?_
          refine XX.iload_n dd_M_keyEnd_68 rfl 4 rfl ?_
          refine XX.iconst (v := nI 3) dd_M_keyEnd_69 (by decide) ?_
          refine XX.callVr (Mk := m_M_keyOf) (n := 2) (As := [.int (nI k), .int (nI 3)]) (rest := [.int (nI (if ky_fl (kgu kc kg k) all &&& nI 64 = 0 then a else sk (pb_pass B sep) (men len st l) a))]) (q0 := 0) (ci := 9) (c_M_keyOf3 (x := x2) hk2 hx32 (k := k) hkk) mt_M_keyOf mi_M_keyOf ml_M_114 rfl dd_M_keyEnd_70 (rfl) rfl rfl ⟨xn_le rfl, xn_le rfl⟩ ⟨xn_le rfl, xn_le rfl⟩ (xn_le rfl) rfl ?_
          refine XX.iadd dd_M_keyEnd_73 ?_
          refine XX.tp (y := nI ((if ky_fl (kgu kc kg k) all &&& nI 64 = 0 then a else sk (pb_pass B sep) (men len st l) a) + kdu kc kd k 3)) (nI_add _ _) ?_
          refine XX.istore (lv2 := [(5, .int (nI ((if ky_fl (kgu kc kg k) all &&& nI 64 = 0 then a else sk (pb_pass B sep) (men len st l) a) + kdu kc kd k 3))), (4, .int (nI (kdu kc kd k 2))), (3, .int (nI (men len st l))), (0, .ref (q 0)), (1, .int (nI l)), (2, .int (nI k))]) dd_M_keyEnd_74 (by decide) rfl ?_
          refine XX.iload dd_M_keyEnd_76 0 rfl ?_
          refine XX.iload_n dd_M_keyEnd_78 rfl 2 rfl ?_
          refine XX.ncmp_ge (tgt := 87) dd_M_keyEnd_79 (by decide) (by omega) (by omega) (fun h79 => ?_) (fun h79 => ?_)
          ·
            refine XX.iload_n dd_M_keyEnd_87 rfl 2 rfl ?_
            refine XX.tp (y := nI (ky_end B sep (ky_fl (kgu kc kg k) all) (kdu kc kd k 2) (kdu kc kd k 3) (st l) (men len st l))) (by unfold ky_end; rw [if_neg (c := kdu kc kd k 2 = 0) (by omega)]; simp only [hfa]; rw [if_neg (c := kdu kc kd k 3 = 0) (by omega)]; congr 1; omega) ?_
            exact XX.iret dd_M_keyEnd_88 rfl ⟨xn_le rfl, xn_le rfl⟩ ⟨rfl, x2, rfl, hg2⟩
          ·
            refine XX.iload dd_M_keyEnd_82 0 rfl ?_
            refine XX.goto (tgt := 88) dd_M_keyEnd_84 (by decide) ?_
            refine XX.tp (y := nI (ky_end B sep (ky_fl (kgu kc kg k) all) (kdu kc kd k 2) (kdu kc kd k 3) (st l) (men len st l))) (by unfold ky_end; rw [if_neg (c := kdu kc kd k 2 = 0) (by omega)]; simp only [hfa]; rw [if_neg (c := kdu kc kd k 3 = 0) (by omega)]; congr 1; omega) ?_
            exact XX.iret dd_M_keyEnd_88 rfl ⟨xn_le rfl, xn_le rfl⟩ ⟨rfl, x2, rfl, hg2⟩
        ·
          refine XX.iconst (v := nI 1) dd_M_keyEnd_59 (by decide) ?_
          refine XX.goto (tgt := 64) dd_M_keyEnd_60 (by decide) ?_
          refine XX.callVr (Mk := m_M_begin) (n := 2) (As := [.int (nI l), .int (nI 1)]) (rest := []) (q0 := 0) (ci := 9) (c_M_begin ht2 hx62 (l := l) (a := a) (e1 := fl_stop B sep (men len st l) a) (ps := true) hl h17 h18 (by omega) (by omega)) mt_M_begin mi_M_begin ml_M_122 rfl dd_M_keyEnd_64 (rfl) rfl rfl ⟨xn_le rfl, xn_le rfl⟩ ⟨xn_le rfl, xn_le rfl⟩ (xn_le rfl) rfl ?_
          refine XX.tp (y := nI (if ky_fl (kgu kc kg k) all &&& nI 64 = 0 then a else sk (pb_pass B sep) (men len st l) a)) (by rw [if_pos rfl, bgn_eq, if_neg (fun z => h56 ((and_le (by decide)).mpr z))]) ?_
          have hbl : (if ky_fl (kgu kc kg k) all &&& nI 64 = 0 then a else sk (pb_pass B sep) (men len st l) a) ≤ len := by
            have := sk_le2 (p := pb_pass B sep) (a := a) (to := men len st l) (m := len) (by omega) (by omega)
            split <;> omega
          refine XX.aload_n dd_M_keyEnd_67 rfl 2 rfl ?_
          refine XX.iload_n dd_M_keyEnd_68 rfl 4 rfl ?_
          refine XX.iconst (v := nI 3) dd_M_keyEnd_69 (by decide) ?_
          refine XX.callVr (Mk := m_M_keyOf) (n := 2) (As := [.int (nI k), .int (nI 3)]) (rest := [.int (nI (if ky_fl (kgu kc kg k) all &&& nI 64 = 0 then a else sk (pb_pass B sep) (men len st l) a))]) (q0 := 0) (ci := 9) (c_M_keyOf3 (x := x2) hk2 hx32 (k := k) hkk) mt_M_keyOf mi_M_keyOf ml_M_114 rfl dd_M_keyEnd_70 (rfl) rfl rfl ⟨xn_le rfl, xn_le rfl⟩ ⟨xn_le rfl, xn_le rfl⟩ (xn_le rfl) rfl ?_
          refine XX.iadd dd_M_keyEnd_73 ?_
          refine XX.tp (y := nI ((if ky_fl (kgu kc kg k) all &&& nI 64 = 0 then a else sk (pb_pass B sep) (men len st l) a) + kdu kc kd k 3)) (nI_add _ _) ?_
          refine XX.istore (lv2 := [(5, .int (nI ((if ky_fl (kgu kc kg k) all &&& nI 64 = 0 then a else sk (pb_pass B sep) (men len st l) a) + kdu kc kd k 3))), (4, .int (nI (kdu kc kd k 2))), (3, .int (nI (men len st l))), (0, .ref (q 0)), (1, .int (nI l)), (2, .int (nI k))]) dd_M_keyEnd_74 (by decide) rfl ?_
          refine XX.iload dd_M_keyEnd_76 0 rfl ?_
          refine XX.iload_n dd_M_keyEnd_78 rfl 2 rfl ?_
          refine XX.ncmp_ge (tgt := 87) dd_M_keyEnd_79 (by decide) (by omega) (by omega) (fun h79 => ?_) (fun h79 => ?_)
          ·
            refine XX.iload_n dd_M_keyEnd_87 rfl 2 rfl ?_
            refine XX.tp (y := nI (ky_end B sep (ky_fl (kgu kc kg k) all) (kdu kc kd k 2) (kdu kc kd k 3) (st l) (men len st l))) (by unfold ky_end; rw [if_neg (c := kdu kc kd k 2 = 0) (by omega)]; simp only [hfa]; rw [if_neg (c := kdu kc kd k 3 = 0) (by omega)]; congr 1; omega) ?_
            exact XX.iret dd_M_keyEnd_88 rfl ⟨xn_le rfl, xn_le rfl⟩ ⟨rfl, x2, rfl, hg2⟩
          ·
            refine XX.iload dd_M_keyEnd_82 0 rfl ?_
            refine XX.goto (tgt := 88) dd_M_keyEnd_84 (by decide) ?_
            refine XX.tp (y := nI (ky_end B sep (ky_fl (kgu kc kg k) all) (kdu kc kd k 2) (kdu kc kd k 3) (st l) (men len st l))) (by unfold ky_end; rw [if_neg (c := kdu kc kd k 2 = 0) (by omega)]; simp only [hfa]; rw [if_neg (c := kdu kc kd k 3 = 0) (by omega)]; congr 1; omega) ?_
            exact XX.iret dd_M_keyEnd_88 rfl ⟨xn_le rfl, xn_le rfl⟩ ⟨rfl, x2, rfl, hg2⟩
      ·
        refine XX.aload_n dd_M_keyEnd_40 rfl 2 rfl ?_
        refine XX.get (q0 := 0) (v := .int (x2 18)) fl_M_107 dd_M_keyEnd_41 rfl rfl ?_
        refine XX.tp (y := nI (fl_stop B sep (men len st l) a)) (h18) ?_
        refine XX.tp (y := nI (ky_end B sep (ky_fl (kgu kc kg k) all) (kdu kc kd k 2) (kdu kc kd k 3) (st l) (men len st l))) (by unfold ky_end; rw [if_neg (by omega)]; simp only [hfa]; rw [if_pos (by omega)]) ?_
        exact XX.iret dd_M_keyEnd_44 rfl ⟨xn_le rfl, xn_le rfl⟩ ⟨rfl, x2, rfl, hg2⟩
    ·
      refine XX.iload_n dd_M_keyEnd_29 rfl 1 rfl ?_
      refine XX.tp (y := nI (ky_end B sep (ky_fl (kgu kc kg k) all) (kdu kc kd k 2) (kdu kc kd k 3) (st l) (men len st l))) (by
        rcases hbf h26 with z | z
        · unfold ky_end; rw [if_neg (by omega)]; simp only [z]
        · have e0 : st l = men len st l := by omega
          rw [e0, ky_end_0]) ?_
      exact XX.iret dd_M_keyEnd_30 rfl ⟨xn_le rfl, xn_le rfl⟩ ⟨rfl, x2, rfl, hg2⟩

