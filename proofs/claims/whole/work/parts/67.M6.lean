theorem fup_sw2 {a b : Nat} (hab : a ≠ b) (f : Nat → Nat → Int32) (u v w : Nat → Int32) : fup (fup (fup f a u) b v) a w = fup (fup f a w) b v := by
  funext j
  unfold fup
  by_cases h1 : j = a
  · rw [if_pos h1, if_neg (by omega), if_pos h1]
  · by_cases h2 : j = b
    · rw [if_neg h1, if_pos h2, if_pos h2]
    · rw [if_neg h1, if_neg h2, if_neg h1, if_neg h2, if_neg h1]
theorem sr_i {qu : Nat → Nat} {le i n : Nat} (h : le + sr qu (n - i) i = sr qu (n - 0) 0) (hi : i < n) : (le + qu i) + sr qu (n - (i + 1)) (i + 1) = sr qu (n - 0) 0 := by
  rw [← h, sr_s hi]; omega

set_option maxRecDepth 100000 in
set_option maxHeartbeats 4000000 in
theorem c_M_hold {G : XG} {q : Nat → Nat} {x : Nat → Int32} {f : Nat → Nat → Int32} {kl : va_W} {len ln : Nat} {st : Nat → Nat} {B : Nat → Int32} (ht : mtx x f len ln st B) {sep : Int32} (hx6 : x 6 = sep) {kc : Nat} {kd : Nat → Nat → Nat} {kg : Nat → Int32} {all : Int32} (hk : mky x f kc kd kg) (hx3 : x 3 = all) (hx1 : x 1 = nI ln) (hln1 : ln ≤ 1000) : MM G m_M_hold (xr 3 0 0) [.ref (q 0)] (wM G q x f kl) (fun r w => r = none ∧ ∃ x2 g3 g4 : Nat → Int32, w = wM G q x2 (fup (fup f 3 g3) 4 g4) kl ∧ (∀ i, i ≠ 10 → i ≠ 17 → i ≠ 18 → x2 i = x i) ∧ x2 10 = bI true ∧ ∀ l k, l < ln → k < max 1 kc → g3 (6 * l + k) = nI (ky_begin B sep (ky_fl (kgu kc kg k) all) (kdu kc kd k 0) (kdu kc kd k 1) (st l) (men len st l)) ∧ g4 (6 * l + k) = nI (ky_end B sep (ky_fl (kgu kc kg k) all) (kdu kc kd k 2) (kdu kc kd k 3) (st l) (men len st l))) := by
  obtain ⟨hx0, hl0, hln, hst, hse, hB⟩ := id ht
  have hkc := hk.2.1
  refine MM.of rfl (xn_le rfl) ?_
  refine (?_ : XX G m_M_hold (xr 3 0 0) (xx_F G (fun r w => r = none ∧ ∃ x2 g3 g4 : Nat → Int32, w = wM G q x2 (fup (fup f 3 g3) 4 g4) kl ∧ (∀ i, i ≠ 10 → i ≠ 17 → i ≠ 18 → x2 i = x i) ∧ x2 10 = bI true ∧ ∀ l k, l < ln → k < max 1 kc → g3 (6 * l + k) = nI (ky_begin B sep (ky_fl (kgu kc kg k) all) (kdu kc kd k 0) (kdu kc kd k 1) (st l) (men len st l)) ∧ g4 (6 * l + k) = nI (ky_end B sep (ky_fl (kgu kc kg k) all) (kdu kc kd k 2) (kdu kc kd k 3) (st l) (men len st l))) (xr 3 0 0)) 0 0 (wM G q x f kl) 0 [(0, .ref (q 0))] [])
  have loop : ∀ (kk l : Nat) (xx g3 g4 : Nat → Int32), ln - l = kk → l ≤ ln → agF x xx → (∀ l2 k2, (l2 < l ∨ l2 = l ∧ k2 < 0) → k2 < max 1 kc → g3 (6 * l2 + k2) = nI (ky_begin B sep (ky_fl (kgu kc kg k2) all) (kdu kc kd k2 0) (kdu kc kd k2 1) (st l2) (men len st l2)) ∧ g4 (6 * l2 + k2) = nI (ky_end B sep (ky_fl (kgu kc kg k2) all) (kdu kc kd k2 2) (kdu kc kd k2 3) (st l2) (men len st l2))) → XX G m_M_hold (xr 3 0 0) (xx_F G (fun r w => r = none ∧ ∃ x2 g3 g4 : Nat → Int32, w = wM G q x2 (fup (fup f 3 g3) 4 g4) kl ∧ (∀ i, i ≠ 10 → i ≠ 17 → i ≠ 18 → x2 i = x i) ∧ x2 10 = bI true ∧ ∀ l k, l < ln → k < max 1 kc → g3 (6 * l + k) = nI (ky_begin B sep (ky_fl (kgu kc kg k) all) (kdu kc kd k 0) (kdu kc kd k 1) (st l) (men len st l)) ∧ g4 (6 * l + k) = nI (ky_end B sep (ky_fl (kgu kc kg k) all) (kdu kc kd k 2) (kdu kc kd k 3) (st l) (men len st l))) (xr 3 0 0)) 0 0 (wM G q xx (fup (fup f 3 g3) 4 g4) kl) 2 [(0, .ref (q 0)), (1, .int (nI l))] [] := by
    intro kk
    induction kk using Nat.strongRecOn with
    | _ kk ih =>
      intro l xx0 g30 g40 hkk hl hg0 hh0
      have inner : l < ln → ∀ (k2 k : Nat) (xx g3 g4 : Nat → Int32), max 1 kc - k = k2 → k ≤ max 1 kc → agF x xx → (∀ l2 k2, (l2 < l ∨ l2 = l ∧ k2 < k) → k2 < max 1 kc → g3 (6 * l2 + k2) = nI (ky_begin B sep (ky_fl (kgu kc kg k2) all) (kdu kc kd k2 0) (kdu kc kd k2 1) (st l2) (men len st l2)) ∧ g4 (6 * l2 + k2) = nI (ky_end B sep (ky_fl (kgu kc kg k2) all) (kdu kc kd k2 2) (kdu kc kd k2 3) (st l2) (men len st l2))) → XX G m_M_hold (xr 3 0 0) (xx_F G (fun r w => r = none ∧ ∃ x2 g3 g4 : Nat → Int32, w = wM G q x2 (fup (fup f 3 g3) 4 g4) kl ∧ (∀ i, i ≠ 10 → i ≠ 17 → i ≠ 18 → x2 i = x i) ∧ x2 10 = bI true ∧ ∀ l k, l < ln → k < max 1 kc → g3 (6 * l + k) = nI (ky_begin B sep (ky_fl (kgu kc kg k) all) (kdu kc kd k 0) (kdu kc kd k 1) (st l) (men len st l)) ∧ g4 (6 * l + k) = nI (ky_end B sep (ky_fl (kgu kc kg k) all) (kdu kc kd k 2) (kdu kc kd k 3) (st l) (men len st l))) (xr 3 0 0)) 0 0 (wM G q xx (fup (fup f 3 g3) 4 g4) kl) 12 [(0, .ref (q 0)), (1, .int (nI l)), (2, .int (nI k))] [] := by
        intro hlt k2
        induction k2 using Nat.strongRecOn with
        | _ k2 ih2 =>
          intro k xx g3 g4 hk2 hkm hg hh
          have hta : mtx xx f len ln st B := mtx_mv ht (hg 0 (by omega) (by omega))
          have hka : mky xx f kc kd kg := mky_mv hk (hg 7 (by omega) (by omega))
          have h3a : xx 3 = all := (hg 3 (by omega) (by omega)).trans hx3
          have h6a : xx 6 = sep := (hg 6 (by omega) (by omega)).trans hx6
          have e1a : xx 1 = nI ln := (hg 1 (by omega) (by omega)).trans hx1
          refine XX.iload_n dd_M_hold_12 rfl 2 rfl ?_
          refine XX.aload_n dd_M_hold_13 rfl 0 rfl ?_
          refine XX.callVr (Mk := m_M_keysThere) (n := 0) (As := []) (rest := [.int (nI k)]) (q0 := 0) (ci := 9) (c_M_keysThere (f := fup (fup f 3 g3) 4 g4) hka) mt_M_keysThere mi_M_keysThere ml_M_168 rfl dd_M_hold_14 (rfl) rfl rfl ⟨xn_le rfl, xn_le rfl⟩ ⟨xn_le rfl, xn_le rfl⟩ (xn_le rfl) rfl ?_
          refine XX.ncmp_ge (tgt := 60) dd_M_hold_17 (by decide) (by omega) (by omega) (fun h17 => ?_) (fun h17 => ?_)
          ·
            refine XX.iinc (z := 1) (v := nI (l + 1)) (lv2 := [(1, .int (nI (l + 1))), (0, .ref (q 0)), (2, .int (nI k))]) dd_M_hold_60 rfl ((nI_succ _).symm) (by decide) rfl ?_
            refine XX.goto (tgt := 2) dd_M_hold_63 (by decide) ?_
            refine XX.lvs [1, 0] rfl ?_
            exact ih _ (by omega) (l + 1) xx g3 g4 rfl (by omega) hg (fun l2 k3 h1 h2 => hh l2 k3 (by omega) h2)
          ·
            refine XX.aload_n dd_M_hold_20 rfl 0 rfl ?_
            refine XX.get (q0 := 0) (v := .ref (q 4)) fl_M_30 dd_M_hold_21 rfl rfl ?_
            refine XX.bipush (v := nI 6) dd_M_hold_24 (by decide) ?_
            refine XX.iload_n dd_M_hold_26 rfl 1 rfl ?_
            refine XX.imul dd_M_hold_27 ?_
            refine XX.tp (y := nI (6 * l)) (pk_mul _ _) ?_
            refine XX.iload_n dd_M_hold_28 rfl 2 rfl ?_
            refine XX.iadd dd_M_hold_29 ?_
            refine XX.tp (y := nI (6 * l + k)) (nI_add _ _) ?_
            refine XX.aload_n dd_M_hold_30 rfl 0 rfl ?_
            refine XX.iload_n dd_M_hold_31 rfl 1 rfl ?_
            refine XX.iload_n dd_M_hold_32 rfl 2 rfl ?_
            refine XX.callV (Mk := m_M_keyBegin) (n := 2) (As := [.int (nI l), .int (nI k)]) (rest := [.int (nI (6 * l + k)), .ref (q 4)]) (q0 := 0) (ci := 9) (c_M_keyBegin (f := fup (fup f 3 g3) 4 g4) hta h6a hka h3a (l := l) (k := k) hlt (by omega)) mt_M_keyBegin mi_M_keyBegin ml_M_129 rfl dd_M_hold_33 (rfl) rfl rfl ⟨xn_le rfl, xn_le rfl⟩ ⟨xn_le rfl, xn_le rfl⟩ (xn_le rfl) rfl (fun r1 w1 hp1 => ?_)
            obtain ⟨rfl, y1, rfl, hq1⟩ := hp1
            have hgb : agF x y1 := fun i h1 h2 => (hq1 i h1 h2).trans (hg i h1 h2)
            have htb : mtx y1 f len ln st B := mtx_mv ht (hgb 0 (by omega) (by omega))
            have hkb : mky y1 f kc kd kg := mky_mv hk (hgb 7 (by omega) (by omega))
            have h3b : y1 3 = all := (hgb 3 (by omega) (by omega)).trans hx3
            have h6b : y1 6 = sep := (hgb 6 (by omega) (by omega)).trans hx6
            have e1b : y1 1 = nI ln := (hgb 1 (by omega) (by omega)).trans hx1
            refine (?_ : XX G m_M_hold (xr 3 0 0) (xx_F G (fun r w => r = none ∧ ∃ x2 g3 g4 : Nat → Int32, w = wM G q x2 (fup (fup f 3 g3) 4 g4) kl ∧ (∀ i, i ≠ 10 → i ≠ 17 → i ≠ 18 → x2 i = x i) ∧ x2 10 = bI true ∧ ∀ l k, l < ln → k < max 1 kc → g3 (6 * l + k) = nI (ky_begin B sep (ky_fl (kgu kc kg k) all) (kdu kc kd k 0) (kdu kc kd k 1) (st l) (men len st l)) ∧ g4 (6 * l + k) = nI (ky_end B sep (ky_fl (kgu kc kg k) all) (kdu kc kd k 2) (kdu kc kd k 3) (st l) (men len st l))) (xr 3 0 0)) 0 0 (wM G q y1 (fup (fup f 3 g3) 4 g4) kl) 36 [(0, .ref (q 0)), (1, .int (nI l)), (2, .int (nI k))] [.int (nI (ky_begin B sep (ky_fl (kgu kc kg k) all) (kdu kc kd k 0) (kdu kc kd k 1) (st l) (men len st l))), .int (nI (6 * l + k)), .ref (q 4)])
            refine XX.iast (q0 := 4) (n := 6000) (j := 6 * l + k) (f := g3) (ws2 := wM G q y1 (fup (fup (fup f 3 g3) 4 g4) 3 (upd g3 (6 * l + k) (nI (ky_begin B sep (ky_fl (kgu kc kg k) all) (kdu kc kd k 0) (kdu kc kd k 1) (st l) (men len st l))))) kl) dd_M_hold_36 rfl (by omega) (by decide) rfl ?_
            refine XX.cg (ws2 := wM G q y1 (fup (fup f 3 (upd g3 (6 * l + k) (nI (ky_begin B sep (ky_fl (kgu kc kg k) all) (kdu kc kd k 0) (kdu kc kd k 1) (st l) (men len st l))))) 4 g4) kl) (by rw [fup_sw2 (by decide)]) rfl rfl ?_
            refine XX.aload_n dd_M_hold_37 rfl 0 rfl ?_
            refine XX.get (q0 := 0) (v := .ref (q 5)) fl_M_33 dd_M_hold_38 rfl rfl ?_
            refine XX.bipush (v := nI 6) dd_M_hold_41 (by decide) ?_
            refine XX.iload_n dd_M_hold_43 rfl 1 rfl ?_
            refine XX.imul dd_M_hold_44 ?_
            refine XX.tp (y := nI (6 * l)) (pk_mul _ _) ?_
            refine XX.iload_n dd_M_hold_45 rfl 2 rfl ?_
            refine XX.iadd dd_M_hold_46 ?_
            refine XX.tp (y := nI (6 * l + k)) (nI_add _ _) ?_
            refine XX.aload_n dd_M_hold_47 rfl 0 rfl ?_
            refine XX.iload_n dd_M_hold_48 rfl 1 rfl ?_
            refine XX.iload_n dd_M_hold_49 rfl 2 rfl ?_
            refine XX.callV (Mk := m_M_keyEnd) (n := 2) (As := [.int (nI l), .int (nI k)]) (rest := [.int (nI (6 * l + k)), .ref (q 5)]) (q0 := 0) (ci := 9) (c_M_keyEnd (f := fup (fup f 3 (upd g3 (6 * l + k) (nI (ky_begin B sep (ky_fl (kgu kc kg k) all) (kdu kc kd k 0) (kdu kc kd k 1) (st l) (men len st l))))) 4 g4) htb h6b hkb h3b (l := l) (k := k) hlt (by omega)) mt_M_keyEnd mi_M_keyEnd ml_M_132 rfl dd_M_hold_50 (rfl) rfl rfl ⟨xn_le rfl, xn_le rfl⟩ ⟨xn_le rfl, xn_le rfl⟩ (xn_le rfl) rfl (fun r1 w1 hp1 => ?_)
            obtain ⟨rfl, y2, rfl, hq2⟩ := hp1
            have hgc : agF x y2 := fun i h1 h2 => (hq2 i h1 h2).trans (hgb i h1 h2)
            refine (?_ : XX G m_M_hold (xr 3 0 0) (xx_F G (fun r w => r = none ∧ ∃ x2 g3 g4 : Nat → Int32, w = wM G q x2 (fup (fup f 3 g3) 4 g4) kl ∧ (∀ i, i ≠ 10 → i ≠ 17 → i ≠ 18 → x2 i = x i) ∧ x2 10 = bI true ∧ ∀ l k, l < ln → k < max 1 kc → g3 (6 * l + k) = nI (ky_begin B sep (ky_fl (kgu kc kg k) all) (kdu kc kd k 0) (kdu kc kd k 1) (st l) (men len st l)) ∧ g4 (6 * l + k) = nI (ky_end B sep (ky_fl (kgu kc kg k) all) (kdu kc kd k 2) (kdu kc kd k 3) (st l) (men len st l))) (xr 3 0 0)) 0 0 (wM G q y2 (fup (fup f 3 (upd g3 (6 * l + k) (nI (ky_begin B sep (ky_fl (kgu kc kg k) all) (kdu kc kd k 0) (kdu kc kd k 1) (st l) (men len st l))))) 4 g4) kl) 53 [(0, .ref (q 0)), (1, .int (nI l)), (2, .int (nI k))] [.int (nI (ky_end B sep (ky_fl (kgu kc kg k) all) (kdu kc kd k 2) (kdu kc kd k 3) (st l) (men len st l))), .int (nI (6 * l + k)), .ref (q 5)])
            refine XX.iast (q0 := 5) (n := 6000) (j := 6 * l + k) (f := g4) (ws2 := wM G q y2 (fup (fup (fup f 3 (upd g3 (6 * l + k) (nI (ky_begin B sep (ky_fl (kgu kc kg k) all) (kdu kc kd k 0) (kdu kc kd k 1) (st l) (men len st l))))) 4 g4) 4 (upd g4 (6 * l + k) (nI (ky_end B sep (ky_fl (kgu kc kg k) all) (kdu kc kd k 2) (kdu kc kd k 3) (st l) (men len st l))))) kl) dd_M_hold_53 rfl (by omega) (by decide) rfl ?_
            refine XX.iinc (z := 2) (v := nI (k + 1)) (lv2 := [(2, .int (nI (k + 1))), (0, .ref (q 0)), (1, .int (nI l))]) dd_M_hold_54 rfl ((nI_succ _).symm) (by decide) rfl ?_
            refine XX.goto (tgt := 12) dd_M_hold_57 (by decide) ?_
            refine XX.lvs [1, 2, 0] rfl ?_
            refine XX.cg (ws2 := wM G q y2 (fup (fup f 3 (upd g3 (6 * l + k) (nI (ky_begin B sep (ky_fl (kgu kc kg k) all) (kdu kc kd k 0) (kdu kc kd k 1) (st l) (men len st l))))) 4 (upd g4 (6 * l + k) (nI (ky_end B sep (ky_fl (kgu kc kg k) all) (kdu kc kd k 2) (kdu kc kd k 3) (st l) (men len st l))))) kl) (by rw [fup_fup]) rfl rfl ?_
            exact ih2 _ (by omega) (k + 1) y2 _ _ rfl (by omega) hgc (fun l2 k3 h1 h2 => by
              by_cases e : 6 * l2 + k3 = 6 * l + k
              · obtain ⟨rfl, rfl⟩ : l2 = l ∧ k3 = k := by omega
                rw [pk_us, pk_us]; exact ⟨rfl, rfl⟩
              · rw [pk_un e, pk_un e]; exact hh l2 k3 (by omega) h2)
      have e10 : xx0 1 = nI ln := (hg0 1 (by omega) (by omega)).trans hx1
      refine XX.iload_n dd_M_hold_2 rfl 1 rfl ?_
      refine XX.aload_n dd_M_hold_3 rfl 0 rfl ?_
      refine XX.get (q0 := 0) (v := .int (xx0 1)) fl_M_78 dd_M_hold_4 rfl rfl ?_
      refine XX.tp (y := nI ln) (e10) ?_
      refine XX.ncmp_ge (tgt := 66) dd_M_hold_7 (by decide) (by omega) (by omega) (fun h7 => ?_) (fun h7 => ?_)
      ·
        refine XX.aload_n dd_M_hold_66 rfl 0 rfl ?_
        refine XX.iconst (v := nI 1) dd_M_hold_67 (by decide) ?_
        refine XX.put (q0 := 0) (ws2 := wM G q (upd xx0 10 (nI 1)) (fup (fup f 3 g30) 4 g40) kl) fp_M_126 dd_M_hold_68 rfl rfl rfl (xn_le rfl) rfl ?_
        exact XX.vret dd_M_hold_71 rfl ⟨xn_le rfl, xn_le rfl⟩ ⟨rfl, _, g30, g40, rfl, fun i h1 h2 h3 => by simp [upd, h1]; exact hg0 i h2 h3, rfl, fun l2 k2 h1 h2 => hh0 l2 k2 (by omega) h2⟩
      ·
        refine XX.iconst (v := nI 0) dd_M_hold_10 (by decide) ?_
        refine XX.istore_n (lv2 := [(2, .int (nI 0)), (0, .ref (q 0)), (1, .int (nI l))]) dd_M_hold_11 rfl (by decide) rfl ?_
        refine XX.lvs [1, 2, 0] rfl ?_
        exact inner (by omega) _ 0 xx0 g30 g40 rfl (by omega) hg0 hh0
  refine XX.iconst (v := nI 0) dd_M_hold_0 (by decide) ?_
  refine XX.istore_n (lv2 := [(1, .int (nI 0)), (0, .ref (q 0))]) dd_M_hold_1 rfl (by decide) rfl ?_
  refine XX.lvs [1, 0] rfl ?_
  refine XX.cg (ws2 := wM G q x (fup (fup f 3 (f 3)) 4 (f 4)) kl) (by rw [fup_self]; show _ = wM G q x (fup f 4 (f 4)) kl; rw [fup_self]) rfl rfl ?_
  exact loop _ 0 x _ _ rfl (by omega) (fun _ _ _ => rfl) (fun l2 k2 h1 h2 => absurd h1 (by omega))

set_option maxRecDepth 100000 in
set_option maxHeartbeats 4000000 in
theorem c_M_headOf {G : XG} {q : Nat → Nat} {x : Nat → Int32} {f : Nat → Nat → Int32} {kl : va_W} {rn : Nat} {sz tk : Nat → Nat} (hr : rn < 1000) (hs : ∀ i, i < rn → f 7 i = nI (sz i)) (ht : f 11 rn = nI (tk rn)) : MR G m_M_headOf (xr 0 0 0) [.ref (q 0), .int (nI rn)] (wM G q x f kl) (some (.int (nI (sr sz (rn - 0) 0 + tk rn)))) := by
  refine MR.of rfl (xn_le rfl) ?_
  refine (?_ : XR G m_M_headOf (xr 0 0 0) (xr_F (some (.int (nI (sr sz (rn - 0) 0 + tk rn))))) (wM G q x f kl) 0 [(0, .ref (q 0)), (1, .int (nI rn))] [])
  have loop : ∀ (kk i le : Nat), rn - i = kk → i ≤ rn → le + sr sz (rn - i) i = sr sz (rn - 0) 0 → XR G m_M_headOf (xr 0 0 0) (xr_F (some (.int (nI (sr sz (rn - 0) 0 + tk rn))))) (wM G q x f kl) 4 [(0, .ref (q 0)), (1, .int (nI rn)), (2, .int (nI le)), (3, .int (nI i))] [] := by
    intro kk
    induction kk using Nat.strongRecOn with
    | _ kk ih =>
      intro i le hk hi hq
      refine XR.iload_n dd_M_headOf_4 rfl 3 rfl ?_
      refine XR.iload_n dd_M_headOf_5 rfl 1 rfl ?_
      refine XR.ncmp_ge (tgt := 24) dd_M_headOf_6 (by decide) (by omega) (by omega) (fun h6 => ?_) (fun h6 => ?_)
      ·
        refine XR.iload_n dd_M_headOf_24 rfl 2 rfl ?_
        refine XR.aload_n dd_M_headOf_25 rfl 0 rfl ?_
        refine XR.get (q0 := 0) (v := .ref (q 12)) fl_M_54 dd_M_headOf_26 rfl rfl ?_
        refine XR.iload_n dd_M_headOf_29 rfl 1 rfl ?_
        refine XR.iald (q0 := 12) (n := 1000) (j := rn) (f := f 11) dd_M_headOf_30 rfl (by omega) (by decide) ?_
        refine XR.tp (y := nI (tk rn)) (ht) ?_
        refine XR.iadd dd_M_headOf_31 ?_
        refine XR.tp (y := nI (le + tk rn)) (nI_add _ _) ?_
        refine XR.tp (y := nI (sr sz (rn - 0) 0 + tk rn)) (by rw [← hq, sr_0 (by omega)]; rfl) ?_
        exact XR.iret dd_M_headOf_32 rfl
      ·
        refine XR.iload_n dd_M_headOf_9 rfl 2 rfl ?_
        refine XR.aload_n dd_M_headOf_10 rfl 0 rfl ?_
        refine XR.get (q0 := 0) (v := .ref (q 8)) fl_M_42 dd_M_headOf_11 rfl rfl ?_
        refine XR.iload_n dd_M_headOf_14 rfl 3 rfl ?_
        refine XR.iald (q0 := 8) (n := 1000) (j := i) (f := f 7) dd_M_headOf_15 rfl (by omega) (by decide) ?_
        refine XR.tp (y := nI (sz i)) (hs i (by omega)) ?_
        refine XR.iadd dd_M_headOf_16 ?_
        refine XR.tp (y := nI (le + sz i)) (nI_add _ _) ?_
        refine XR.istore_n (lv2 := [(2, .int (nI (le + sz i))), (0, .ref (q 0)), (1, .int (nI rn)), (3, .int (nI i))]) dd_M_headOf_17 rfl (by decide) rfl ?_
        refine XR.iinc (z := 3) (v := nI (i + 1)) (lv2 := [(3, .int (nI (i + 1))), (2, .int (nI (le + sz i))), (0, .ref (q 0)), (1, .int (nI rn))]) dd_M_headOf_18 rfl ((nI_succ _).symm) (by decide) rfl ?_
        refine XR.goto (tgt := 4) dd_M_headOf_21 (by decide) ?_
        refine XR.lvs [2, 3, 1, 0] rfl ?_
        exact ih _ (by omega) (i + 1) _ rfl (by omega) (sr_i hq (by omega))
  refine XR.iconst (v := nI 0) dd_M_headOf_0 (by decide) ?_
  refine XR.istore_n (lv2 := [(2, .int (nI 0)), (0, .ref (q 0)), (1, .int (nI rn))]) dd_M_headOf_1 rfl (by decide) rfl ?_
  refine XR.iconst (v := nI 0) dd_M_headOf_2 (by decide) ?_
  refine XR.istore_n (lv2 := [(3, .int (nI 0)), (2, .int (nI 0)), (0, .ref (q 0)), (1, .int (nI rn))]) dd_M_headOf_3 rfl (by decide) rfl ?_
  refine XR.lvs [2, 3, 1, 0] rfl ?_
  exact loop _ 0 0 rfl (by omega) (by omega)

