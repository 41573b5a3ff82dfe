set_option maxRecDepth 100000 in
set_option maxHeartbeats 4000000 in
theorem c_J_compare {G : XG} {ws : va_W} {u v : Int32} : MR G m_J_compare (xr 0 0 0) [.int u, .int v] (ws) (some (.int (oI (oi u v)))) := by
  refine MR.of rfl (xn_le rfl) ?_
  refine (?_ : XR G m_J_compare (xr 0 0 0) (xr_F (some (.int (oI (oi u v))))) (ws) 0 [(0, .int u), (1, .int v)] [])
  refine XR.iload_n dd_J_compare_0 rfl 0 rfl ?_
  refine XR.iload_n dd_J_compare_1 rfl 1 rfl ?_
  refine XR.icmp_ge (tgt := 9) dd_J_compare_2 (by decide) (fun h2 => ?_) (fun h2 => ?_)
  ·
    refine XR.iload_n dd_J_compare_9 rfl 0 rfl ?_
    refine XR.iload_n dd_J_compare_10 rfl 1 rfl ?_
    refine XR.icmp_ne (tgt := 18) dd_J_compare_11 (by decide) (fun h11 => ?_) (fun h11 => ?_)
    ·
      refine XR.iconst (v := nI 1) dd_J_compare_18 (by decide) ?_
      refine XR.tp (y := oI (oi u v)) (by rw [oi_ge h11 h2]) ?_
      exact XR.iret dd_J_compare_19 rfl
    ·
      refine XR.iconst (v := nI 0) dd_J_compare_14 (by decide) ?_
      refine XR.goto (tgt := 19) dd_J_compare_15 (by decide) ?_
      refine XR.tp (y := oI (oi u v)) (by rw [oi, if_pos h11]; rfl) ?_
      exact XR.iret dd_J_compare_19 rfl
  ·
    refine XR.iconst (v := -1) dd_J_compare_5 (by decide) ?_
    refine XR.goto (tgt := 19) dd_J_compare_6 (by decide) ?_
    refine XR.tp (y := oI (oi u v)) (by rw [oi_lt h2]) ?_
    exact XR.iret dd_J_compare_19 rfl

set_option maxRecDepth 100000 in
set_option maxHeartbeats 4000000 in
theorem c_O_keysInUse {G : XG} {q : Nat → Nat} {x : Nat → Int32} {n : Nat → Nat} {f : Nat → Nat → Int32} {kf : Nat → Option Nat} {kl : va_W} {kc : Nat} (hx6 : x 6 = nI kc) (hkc : kc ≤ 6) : MR G m_O_keysInUse (xr 1 0 0) [.ref (q 5)] (wC G q x n f kf kl) (some (.int (nI (max 1 kc)))) := by
  refine MR.of rfl (xn_le rfl) ?_
  refine (?_ : XR G m_O_keysInUse (xr 1 0 0) (xr_F (some (.int (nI (max 1 kc))))) (wC G q x n f kf kl) 0 [(0, .ref (q 5))] [])
  refine XR.iconst (v := nI 1) dd_O_keysInUse_0 (by decide) ?_
  refine XR.aload_n dd_O_keysInUse_1 rfl 0 rfl ?_
  refine XR.get (q0 := 5) (v := .int (x 6)) fl_O_42 dd_O_keysInUse_2 rfl rfl ?_
  refine XR.tp (y := nI kc) (hx6) ?_
  refine XR.mmax dd_O_keysInUse_5 ml_O_56 jm_max_s jm_i jm_max_c (xn_le rfl) (xn_le rfl) ⟨xn_le rfl, xn_le rfl⟩ ?_
  refine XR.tp (y := nI (max 1 kc)) (xn_max (by omega) (by omega)) ?_
  exact XR.iret dd_O_keysInUse_8 rfl

set_option maxRecDepth 100000 in
set_option maxHeartbeats 4000000 in
theorem c_O_keyInUse {G : XG} {q : Nat → Nat} {x : Nat → Int32} {n : Nat → Nat} {f : Nat → Nat → Int32} {kf : Nat → Option Nat} {kl : va_W} {kc : Nat} {ka : Nat → Nat} {kd : Nat → Nat → Nat} {kg : Nat → Int32} (hx6 : x 6 = nI kc) (hk : kys kc kf kl ka kd kg) {k : Nat} (hkb : k < 2 ^ 31) : MR G m_O_keyInUse (xr 0 0 0) [.ref (q 5), .int (nI k)] (wC G q x n f kf kl) (some (.ref (kuu q ka kc k))) := by
  have hkc := hk.1
  refine MR.of rfl (xn_le rfl) ?_
  refine (?_ : XR G m_O_keyInUse (xr 0 0 0) (xr_F (some (.ref (kuu q ka kc k)))) (wC G q x n f kf kl) 0 [(0, .ref (q 5)), (1, .int (nI k))] [])
  refine XR.iload_n dd_O_keyInUse_0 rfl 1 rfl ?_
  refine XR.aload_n dd_O_keyInUse_1 rfl 0 rfl ?_
  refine XR.get (q0 := 5) (v := .int (x 6)) fl_O_42 dd_O_keyInUse_2 rfl rfl ?_
  refine XR.tp (y := nI kc) (hx6) ?_
  refine XR.ncmp_ge (tgt := 17) dd_O_keyInUse_5 (by decide) (by omega) (by omega) (fun h5 => ?_) (fun h5 => ?_)
  ·
    refine XR.aload_n dd_O_keyInUse_17 rfl 0 rfl ?_
    refine XR.get (q0 := 5) (v := .ref (q 7)) fl_O_24 dd_O_keyInUse_18 rfl rfl ?_
    refine XR.tv (w := .ref (kuu q ka kc k)) (by rw [kuu]; rw [if_neg (by omega)]) ?_
    exact XR.aret dd_O_keyInUse_21 rfl (Or.inl ⟨_, rfl⟩)
  ·
    refine XR.aload_n dd_O_keyInUse_8 rfl 0 rfl ?_
    refine XR.get (q0 := 5) (v := .ref (q 6)) fl_O_28 dd_O_keyInUse_9 rfl rfl ?_
    refine XR.iload_n dd_O_keyInUse_12 rfl 1 rfl ?_
    refine XR.aald (q0 := 6) (n := 6) (j := k) (f := kf) dd_O_keyInUse_13 rfl (by omega) (by decide) ?_
    refine XR.tv (w := .ref (ka k)) (by rw [(hk.2 k h5).1]; rfl) ?_
    refine XR.goto (tgt := 21) dd_O_keyInUse_14 (by decide) ?_
    refine XR.tv (w := .ref (kuu q ka kc k)) (by rw [kuu]; rw [if_pos h5]) ?_
    exact XR.aret dd_O_keyInUse_21 rfl (Or.inl ⟨_, rfl⟩)

set_option maxRecDepth 100000 in
set_option maxHeartbeats 4000000 in
theorem c_O_flagsOf {G : XG} {q : Nat → Nat} {x : Nat → Int32} {n : Nat → Nat} {f : Nat → Nat → Int32} {kf : Nat → Option Nat} {kl : va_W} {ka kp d0 d1 d2 d3 : Nat} {g all : Int32} (he : (wC G q x n f kf kl)[kp]? = some (ka, .inr (4, [.int (nI d0), .int (nI d1), .int (nI d2), .int (nI d3), .int g]))) (hx7 : x 7 = all) : MR G m_O_flagsOf (xr 0 0 0) [.ref (q 5), .ref ka] (wC G q x n f kf kl) (some (.int (ky_fl g all))) := by
  refine MR.of rfl (xn_le rfl) ?_
  refine (?_ : XR G m_O_flagsOf (xr 0 0 0) (xr_F (some (.int (ky_fl g all)))) (wC G q x n f kf kl) 0 [(0, .ref (q 5)), (1, .ref ka)] [])
  refine XR.aload_n dd_O_flagsOf_0 rfl 1 rfl ?_
  refine XR.get (v := .int g) fl_O_62 dd_O_flagsOf_1 (he) rfl ?_
  refine XR.if_ne (tgt := 14) dd_O_flagsOf_4 (by decide) (fun h4 => ?_) (fun h4 => ?_)
  ·
    refine XR.aload_n dd_O_flagsOf_14 rfl 1 rfl ?_
    refine XR.get (v := .int g) fl_O_62 dd_O_flagsOf_15 (he) rfl ?_
    refine XR.tp (y := ky_fl g all) (by simp [ky_fl, h4]) ?_
    exact XR.iret dd_O_flagsOf_18 rfl
  ·
    refine XR.aload_n dd_O_flagsOf_7 rfl 0 rfl ?_
    refine XR.get (q0 := 5) (v := .int (x 7)) fl_O_46 dd_O_flagsOf_8 rfl rfl ?_
    refine XR.tp (y := all) (hx7) ?_
    refine XR.goto (tgt := 18) dd_O_flagsOf_11 (by decide) ?_
    refine XR.tp (y := ky_fl g all) (by simp [ky_fl, h4]) ?_
    exact XR.iret dd_O_flagsOf_18 rfl

set_option maxRecDepth 100000 in
set_option maxHeartbeats 4000000 in
theorem c_O_comparedAsNumbers {G : XG} {q : Nat → Nat} {x : Nat → Int32} {n : Nat → Nat} {f : Nat → Nat → Int32} {kf : Nat → Option Nat} {kl : va_W} {len bc : Nat} {br : Nat → Nat} {B : Nat → Int32} (ht : txt x n f len bc br B) {a1 a2 b1 b2 : Nat} (ha1 : a1 ≤ len) (ha2 : a2 ≤ len) (hb1 : b1 ≤ len) (hb2 : b2 ≤ len) : MM G m_O_comparedAsNumbers (xr 2 0 0) [.ref (q 5), .int (nI a1), .int (nI a2), .int (nI b1), .int (nI b2)] (wC G q x n f kf kl) (fun r w => r = some (.int (oI (nc B a1 a2 b1 b2))) ∧ ∃ x2 : Nat → Int32, w = wC G q x2 n f kf kl ∧ agN x x2) := by
  obtain ⟨hx3, hx4, hl0, hn0, hb0, hn1, hbr, hB⟩ := id ht
  have ya0 := nm_whole_le (B := B) ha1 ha2
  have ya1 := nm_wstop_le (B := B) ha1 ha2
  have ya2 := nm_frac_le (B := B) ha1 ha2
  have ya3 := nm_fstop_le (B := B) ha1 ha2
  have yb0 := nm_whole_le (B := B) hb1 hb2
  have yb1 := nm_wstop_le (B := B) hb1 hb2
  have yb2 := nm_frac_le (B := B) hb1 hb2
  have yb3 := nm_fstop_le (B := B) hb1 hb2
  refine MM.of rfl (xn_le rfl) ?_
  refine (?_ : XX G m_O_comparedAsNumbers (xr 2 0 0) (xx_F G (fun r w => r = some (.int (oI (nc B a1 a2 b1 b2))) ∧ ∃ x2 : Nat → Int32, w = wC G q x2 n f kf kl ∧ agN x x2) (xr 2 0 0)) 0 0 (wC G q x n f kf kl) 0 [(0, .ref (q 5)), (1, .int (nI a1)), (2, .int (nI a2)), (3, .int (nI b1)), (4, .int (nI b2))] [])
  refine XX.aload_n dd_O_comparedAsNumbers_0 rfl 0 rfl ?_
  refine XX.get (q0 := 5) (v := .ref (q 8)) fl_O_35 dd_O_comparedAsNumbers_1 rfl rfl ?_
  refine XX.aload_n dd_O_comparedAsNumbers_4 rfl 0 rfl ?_
  refine XX.get (q0 := 5) (v := .ref (q 1)) fl_O_9 dd_O_comparedAsNumbers_5 rfl rfl ?_
  refine XX.iload_n dd_O_comparedAsNumbers_8 rfl 1 rfl ?_
  refine XX.iload_n dd_O_comparedAsNumbers_9 rfl 2 rfl ?_
  refine XX.callV (Mk := m_N_read) (n := 3) (As := [.ref (q 1), .int (nI a1), .int (nI a2)]) (rest := []) (q0 := 8) (ci := 5) (c_N_read8 ht (a := a1) (b := a2) (by omega) (by omega)) mt_N_read mi_N_read ml_O_106 rfl dd_O_comparedAsNumbers_10 (rfl) rfl rfl ⟨xn_le rfl, xn_le rfl⟩ ⟨xn_le rfl, xn_le rfl⟩ (xn_le rfl) rfl (fun r1 w1 hp1 => ?_)
  obtain ⟨rfl, x1, rfl, hf1, ho1⟩ := hp1
  have ht1 : txt x1 n f len bc br B := txt_mv ht (hf1 3 (by omega)) (hf1 4 (by omega))
  refine (?_ : XX G m_O_comparedAsNumbers (xr 2 0 0) (xx_F G (fun r w => r = some (.int (oI (nc B a1 a2 b1 b2))) ∧ ∃ x2 : Nat → Int32, w = wC G q x2 n f kf kl ∧ agN x x2) (xr 2 0 0)) 0 0 (wC G q x1 n f kf kl) 13 [(0, .ref (q 5)), (1, .int (nI a1)), (2, .int (nI a2)), (3, .int (nI b1)), (4, .int (nI b2))] [])
  refine XX.aload_n dd_O_comparedAsNumbers_13 rfl 0 rfl ?_
  refine XX.get (q0 := 5) (v := .ref (q 9)) fl_O_39 dd_O_comparedAsNumbers_14 rfl rfl ?_
  refine XX.aload_n dd_O_comparedAsNumbers_17 rfl 0 rfl ?_
  refine XX.get (q0 := 5) (v := .ref (q 1)) fl_O_9 dd_O_comparedAsNumbers_18 rfl rfl ?_
  refine XX.iload_n dd_O_comparedAsNumbers_21 rfl 3 rfl ?_
  refine XX.iload dd_O_comparedAsNumbers_22 4 rfl ?_
  refine XX.callV (Mk := m_N_read) (n := 3) (As := [.ref (q 1), .int (nI b1), .int (nI b2)]) (rest := []) (q0 := 9) (ci := 5) (c_N_read9 ht1 (a := b1) (b := b2) (by omega) (by omega)) mt_N_read mi_N_read ml_O_106 rfl dd_O_comparedAsNumbers_24 (rfl) rfl rfl ⟨xn_le rfl, xn_le rfl⟩ ⟨xn_le rfl, xn_le rfl⟩ (xn_le rfl) rfl (fun r1 w1 hp1 => ?_)
  obtain ⟨rfl, x2, rfl, hf2, ho2⟩ := hp1
  have ht2 : txt x2 n f len bc br B := txt_mv ht1 (hf2 3 (by omega)) (hf2 4 (by omega))
  have hag : agN x x2 := fun i h => (hf2 i (by omega)).trans (hf1 i (by omega))
  obtain ⟨l0, l1, l2, l3, l4⟩ := ho1
  obtain ⟨r0, r1, r2, r3, r4⟩ := ho2
  have l0 : x2 10 = _ := (hf2 10 (by omega)).trans l0
  have l1 : x2 11 = _ := (hf2 11 (by omega)).trans l1
  have l2 : x2 12 = _ := (hf2 12 (by omega)).trans l2
  have l3 : x2 13 = _ := (hf2 13 (by omega)).trans l3
  have l4 : x2 14 = _ := (hf2 14 (by omega)).trans l4
  refine (?_ : XX G m_O_comparedAsNumbers (xr 2 0 0) (xx_F G (fun r w => r = some (.int (oI (nc B a1 a2 b1 b2))) ∧ ∃ x2 : Nat → Int32, w = wC G q x2 n f kf kl ∧ agN x x2) (xr 2 0 0)) 0 0 (wC G q x2 n f kf kl) 27 [(0, .ref (q 5)), (1, .int (nI a1)), (2, .int (nI a2)), (3, .int (nI b1)), (4, .int (nI b2))] [])
  refine XX.aload_n dd_O_comparedAsNumbers_27 rfl 0 rfl ?_
  refine XX.get (q0 := 5) (v := .ref (q 8)) fl_O_35 dd_O_comparedAsNumbers_28 rfl rfl ?_
  refine XX.get (q0 := 8) (v := .int (x2 10)) fl_O_110 dd_O_comparedAsNumbers_31 rfl rfl ?_
  refine XX.tp (y := nm_sign B a2 a1) (l0) ?_
  refine XX.aload_n dd_O_comparedAsNumbers_34 rfl 0 rfl ?_
  refine XX.get (q0 := 5) (v := .ref (q 9)) fl_O_39 dd_O_comparedAsNumbers_35 rfl rfl ?_
  refine XX.get (q0 := 9) (v := .int (x2 15)) fl_O_110 dd_O_comparedAsNumbers_38 rfl rfl ?_
  refine XX.tp (y := nm_sign B b2 b1) (r0) ?_
  refine XX.icmp_eq (tgt := 62) dd_O_comparedAsNumbers_41 (by decide) (fun h41 => ?_) (fun h41 => ?_)
  ·
    have j167 : XX G m_O_comparedAsNumbers (xr 2 0 0) (xx_F G (fun r w => r = some (.int (oI (nc B a1 a2 b1 b2))) ∧ ∃ x2 : Nat → Int32, w = wC G q x2 n f kf kl ∧ agN x x2) (xr 2 0 0)) 0 0 (wC G q x2 n f kf kl) 167 [(0, .ref (q 5)), (1, .int (nI a1)), (2, .int (nI a2)), (3, .int (nI b1)), (4, .int (nI b2)), (5, .int (oI (nc_m B a1 a2 b1 b2)))] [] := by
      refine XX.aload_n dd_O_comparedAsNumbers_167 rfl 0 rfl ?_
      refine XX.get (q0 := 5) (v := .ref (q 8)) fl_O_35 dd_O_comparedAsNumbers_168 rfl rfl ?_
      refine XX.get (q0 := 8) (v := .int (x2 10)) fl_O_110 dd_O_comparedAsNumbers_171 rfl rfl ?_
      refine XX.tp (y := nm_sign B a2 a1) (l0) ?_
      refine XX.if_ge (tgt := 183) dd_O_comparedAsNumbers_174 (by decide) (fun h174 => ?_) (fun h174 => ?_)
      ·
        refine XX.iload dd_O_comparedAsNumbers_183 5 rfl ?_
        refine XX.tp (y := oI (nc B a1 a2 b1 b2)) (by rw [nc_eq h41]; rw [if_neg (by simp only [decide_eq_true_eq]; rw [Int32.lt_iff_toInt_lt]; rw [Int32.le_iff_toInt_le] at h174; omega)]) ?_
        exact XX.iret dd_O_comparedAsNumbers_185 rfl ⟨xn_le rfl, xn_le rfl⟩ ⟨rfl, x2, rfl, hag⟩
      ·
        refine XX.iload dd_O_comparedAsNumbers_177 5 rfl ?_
        refine XX.ineg dd_O_comparedAsNumbers_179 ?_
        refine XX.goto (tgt := 185) dd_O_comparedAsNumbers_180 (by decide) ?_
        refine XX.tp (y := oI (nc B a1 a2 b1 b2)) (by rw [nc_eq h41]; rw [if_pos (by simp only [decide_eq_true_eq]; rw [Int32.lt_iff_toInt_lt]; rw [Int32.le_iff_toInt_le] at h174; omega), oI_neg]) ?_
        exact XX.iret dd_O_comparedAsNumbers_185 rfl ⟨xn_le rfl, xn_le rfl⟩ ⟨rfl, x2, rfl, hag⟩
    have j124 : XX G m_O_comparedAsNumbers (xr 2 0 0) (xx_F G (fun r w => r = some (.int (oI (nc B a1 a2 b1 b2))) ∧ ∃ x2 : Nat → Int32, w = wC G q x2 n f kf kl ∧ agN x x2) (xr 2 0 0)) 0 0 (wC G q x2 n f kf kl) 124 [(0, .ref (q 5)), (1, .int (nI a1)), (2, .int (nI a2)), (3, .int (nI b1)), (4, .int (nI b2)), (5, .int (oI ((on (nm_wstop B a2 a1 - nm_whole B a2 a1) (nm_wstop B b2 b1 - nm_whole B b2 b1)).then (lx (wb B (nI 0) (nm_whole B a2 a1) (nm_wstop B a2 a1)) (wb B (nI 0) (nm_whole B b2 b1) (nm_wstop B b2 b1))))))] [] := by
      refine XX.iload dd_O_comparedAsNumbers_124 5 rfl ?_
      refine XX.if_ne (tgt := 167) dd_O_comparedAsNumbers_126 (by decide) (fun h126 => ?_) (fun h126 => ?_)
      ·
        refine XX.cg (ws2 := wC G q x2 n f kf kl) (lv2 := [(0, .ref (q 5)), (1, .int (nI a1)), (2, .int (nI a2)), (3, .int (nI b1)), (4, .int (nI b2)), (5, .int (oI (nc_m B a1 a2 b1 b2)))]) rfl (by rw [nc_m, then_ne h126]) rfl ?_
        exact j167
      ·
        refine XX.aload_n dd_O_comparedAsNumbers_129 rfl 0 rfl ?_
        refine XX.get (q0 := 5) (v := .ref (q 1)) fl_O_9 dd_O_comparedAsNumbers_130 rfl rfl ?_
        refine XX.aload_n dd_O_comparedAsNumbers_133 rfl 0 rfl ?_
        refine XX.get (q0 := 5) (v := .ref (q 8)) fl_O_35 dd_O_comparedAsNumbers_134 rfl rfl ?_
        refine XX.get (q0 := 8) (v := .int (x2 13)) fl_O_127 dd_O_comparedAsNumbers_137 rfl rfl ?_
        refine XX.tp (y := nI (nm_frac B a2 a1)) (l3) ?_
        refine XX.aload_n dd_O_comparedAsNumbers_140 rfl 0 rfl ?_
        refine XX.get (q0 := 5) (v := .ref (q 8)) fl_O_35 dd_O_comparedAsNumbers_141 rfl rfl ?_
        refine XX.get (q0 := 8) (v := .int (x2 14)) fl_O_130 dd_O_comparedAsNumbers_144 rfl rfl ?_
        refine XX.tp (y := nI (nm_fstop B a2 a1)) (l4) ?_
        refine XX.aload_n dd_O_comparedAsNumbers_147 rfl 0 rfl ?_
        refine XX.get (q0 := 5) (v := .ref (q 9)) fl_O_39 dd_O_comparedAsNumbers_148 rfl rfl ?_
        refine XX.get (q0 := 9) (v := .int (x2 18)) fl_O_127 dd_O_comparedAsNumbers_151 rfl rfl ?_
        refine XX.tp (y := nI (nm_frac B b2 b1)) (r3) ?_
        refine XX.aload_n dd_O_comparedAsNumbers_154 rfl 0 rfl ?_
        refine XX.get (q0 := 5) (v := .ref (q 9)) fl_O_39 dd_O_comparedAsNumbers_155 rfl rfl ?_
        refine XX.get (q0 := 9) (v := .int (x2 19)) fl_O_130 dd_O_comparedAsNumbers_158 rfl rfl ?_
        refine XX.tp (y := nI (nm_fstop B b2 b1)) (r4) ?_
        refine XX.iconst (v := nI 0) dd_O_comparedAsNumbers_161 (by decide) ?_
        refine XX.callVr (Mk := m_T_comparedBytes) (n := 5) (As := [.int (nI (nm_frac B a2 a1)), .int (nI (nm_fstop B a2 a1)), .int (nI (nm_frac B b2 b1)), .int (nI (nm_fstop B b2 b1)), .int (nI 0)]) (rest := []) (q0 := 1) (ci := 1) (c_T_comparedBytes ht2 (a := nm_frac B a2 a1) (a2 := nm_fstop B a2 a1) (b := nm_frac B b2 b1) (b2 := nm_fstop B b2 b1) (fl := nI 0) (by omega) (by omega) (by omega) (by omega)) mt_T_comparedBytes mi_T_comparedBytes ml_O_77 rfl dd_O_comparedAsNumbers_162 (rfl) rfl rfl ⟨xn_le rfl, xn_le rfl⟩ ⟨xn_le rfl, xn_le rfl⟩ (xn_le rfl) rfl ?_
        refine XX.istore (lv2 := [(5, .int (oI (lx (wb B (nI 0) (nm_frac B a2 a1) (nm_fstop B a2 a1)) (wb B (nI 0) (nm_frac B b2 b1) (nm_fstop B b2 b1))))), (0, .ref (q 5)), (1, .int (nI a1)), (2, .int (nI a2)), (3, .int (nI b1)), (4, .int (nI b2))]) dd_O_comparedAsNumbers_165 (by decide) rfl ?_
        refine XX.cg (ws2 := wC G q x2 n f kf kl) (lv2 := [(5, .int (oI (nc_m B a1 a2 b1 b2))), (0, .ref (q 5)), (1, .int (nI a1)), (2, .int (nI a2)), (3, .int (nI b1)), (4, .int (nI b2))]) rfl (by rw [nc_m, then_eq h126]) rfl ?_
        refine XX.lvs [1, 2, 3, 4, 5, 0] rfl ?_
        exact j167
    refine XX.aload_n dd_O_comparedAsNumbers_62 rfl 0 rfl ?_
    refine XX.get (q0 := 5) (v := .ref (q 8)) fl_O_35 dd_O_comparedAsNumbers_63 rfl rfl ?_
    refine XX.callVr (Mk := m_N_wholeLength) (n := 0) (As := []) (rest := []) (q0 := 8) (ci := 5) (c_N_wholeLength8 (x := x2) (u := nm_whole B a2 a1) (v := nm_wstop B a2 a1) l1 l2 (sk_ge _ _ _)) mt_N_wholeLength mi_N_wholeLength ml_O_118 rfl dd_O_comparedAsNumbers_66 (rfl) rfl rfl ⟨xn_le rfl, xn_le rfl⟩ ⟨xn_le rfl, xn_le rfl⟩ (xn_le rfl) rfl ?_
    refine XX.aload_n dd_O_comparedAsNumbers_69 rfl 0 rfl ?_
    refine XX.get (q0 := 5) (v := .ref (q 9)) fl_O_39 dd_O_comparedAsNumbers_70 rfl rfl ?_
    refine XX.callVr (Mk := m_N_wholeLength) (n := 0) (As := []) (rest := [.int (nI (nm_wstop B a2 a1 - nm_whole B a2 a1))]) (q0 := 9) (ci := 5) (c_N_wholeLength9 (x := x2) (u := nm_whole B b2 b1) (v := nm_wstop B b2 b1) r1 r2 (sk_ge _ _ _)) mt_N_wholeLength mi_N_wholeLength ml_O_118 rfl dd_O_comparedAsNumbers_73 (rfl) rfl rfl ⟨xn_le rfl, xn_le rfl⟩ ⟨xn_le rfl, xn_le rfl⟩ (xn_le rfl) rfl ?_
    refine XX.callSr (Mk := m_J_compare) (n := 2) (As := [.int (nI (nm_wstop B a2 a1 - nm_whole B a2 a1)), .int (nI (nm_wstop B b2 b1 - nm_whole B b2 b1))]) (rest := []) (c_J_compare) mt_J_compare ms_J_compare ml_O_113 rfl dd_O_comparedAsNumbers_76 ⟨xn_le rfl, xn_le rfl⟩ ⟨xn_le rfl, xn_le rfl⟩ (xn_le rfl) rfl ?_
    refine XX.tp (y := oI (on (nm_wstop B a2 a1 - nm_whole B a2 a1) (nm_wstop B b2 b1 - nm_whole B b2 b1))) (by rw [oi_nI (by omega) (by omega)]) ?_
    refine XX.istore (lv2 := [(5, .int (oI (on (nm_wstop B a2 a1 - nm_whole B a2 a1) (nm_wstop B b2 b1 - nm_whole B b2 b1)))), (0, .ref (q 5)), (1, .int (nI a1)), (2, .int (nI a2)), (3, .int (nI b1)), (4, .int (nI b2))]) dd_O_comparedAsNumbers_79 (by decide) rfl ?_
    refine XX.iload dd_O_comparedAsNumbers_81 0 rfl ?_
    refine XX.if_ne (tgt := 124) dd_O_comparedAsNumbers_83 (by decide) (fun h83 => ?_) (fun h83 => ?_)
    ·
      refine XX.cg (ws2 := wC G q x2 n f kf kl) (lv2 := [(5, .int (oI ((on (nm_wstop B a2 a1 - nm_whole B a2 a1) (nm_wstop B b2 b1 - nm_whole B b2 b1)).then (lx (wb B (nI 0) (nm_whole B a2 a1) (nm_wstop B a2 a1)) (wb B (nI 0) (nm_whole B b2 b1) (nm_wstop B b2 b1)))))), (0, .ref (q 5)), (1, .int (nI a1)), (2, .int (nI a2)), (3, .int (nI b1)), (4, .int (nI b2))]) rfl (by rw [then_ne h83]) rfl ?_
      refine XX.lvs [1, 2, 3, 4, 5, 0] rfl ?_
      exact j124
    ·
      refine XX.aload_n dd_O_comparedAsNumbers_86 rfl 1 rfl ?_
      refine XX.get (q0 := 5) (v := .ref (q 1)) fl_O_9 dd_O_comparedAsNumbers_87 rfl rfl ?_
      refine XX.aload_n dd_O_comparedAsNumbers_90 rfl 1 rfl ?_
      refine XX.get (q0 := 5) (v := .ref (q 8)) fl_O_35 dd_O_comparedAsNumbers_91 rfl rfl ?_
      refine XX.get (q0 := 8) (v := .int (x2 11)) fl_O_121 dd_O_comparedAsNumbers_94 rfl rfl ?_
      refine XX.tp (y := nI (nm_whole B a2 a1)) (l1) ?_
      refine XX.aload_n dd_O_comparedAsNumbers_97 rfl 1 rfl ?_
      refine XX.get (q0 := 5) (v := .ref (q 8)) fl_O_35 dd_O_comparedAsNumbers_98 rfl rfl ?_
      refine XX.get (q0 := 8) (v := .int (x2 12)) fl_O_124 dd_O_comparedAsNumbers_101 rfl rfl ?_
      refine XX.tp (y := nI (nm_wstop B a2 a1)) (l2) ?_
      refine XX.aload_n dd_O_comparedAsNumbers_104 rfl 1 rfl ?_
      refine XX.get (q0 := 5) (v := .ref (q 9)) fl_O_39 dd_O_comparedAsNumbers_105 rfl rfl ?_
      refine XX.get (q0 := 9) (v := .int (x2 16)) fl_O_121 dd_O_comparedAsNumbers_108 rfl rfl ?_
      refine XX.tp (y := nI (nm_whole B b2 b1)) (r1) ?_
      refine XX.aload_n dd_O_comparedAsNumbers_111 rfl 1 rfl ?_
      refine XX.get (q0 := 5) (v := .ref (q 9)) fl_O_39 dd_O_comparedAsNumbers_112 rfl rfl ?_
      refine XX.get (q0 := 9) (v := .int (x2 17)) fl_O_124 dd_O_comparedAsNumbers_115 rfl rfl ?_
      refine XX.tp (y := nI (nm_wstop B b2 b1)) (r2) ?_
      refine XX.iconst (v := nI 0) dd_O_comparedAsNumbers_118 (by decide) ?_
      refine XX.callVr (Mk := m_T_comparedBytes) (n := 5) (As := [.int (nI (nm_whole B a2 a1)), .int (nI (nm_wstop B a2 a1)), .int (nI (nm_whole B b2 b1)), .int (nI (nm_wstop B b2 b1)), .int (nI 0)]) (rest := []) (q0 := 1) (ci := 1) (c_T_comparedBytes ht2 (a := nm_whole B a2 a1) (a2 := nm_wstop B a2 a1) (b := nm_whole B b2 b1) (b2 := nm_wstop B b2 b1) (fl := nI 0) (by omega) (by omega) (by omega) (by omega)) mt_T_comparedBytes mi_T_comparedBytes ml_O_77 rfl dd_O_comparedAsNumbers_119 (rfl) rfl rfl ⟨xn_le rfl, xn_le rfl⟩ ⟨xn_le rfl, xn_le rfl⟩ (xn_le rfl) rfl ?_
      refine XX.istore (lv2 := [(5, .int (oI (lx (wb B (nI 0) (nm_whole B a2 a1) (nm_wstop B a2 a1)) (wb B (nI 0) (nm_whole B b2 b1) (nm_wstop B b2 b1))))), (0, .ref (q 5)), (1, .int (nI a1)), (2, .int (nI a2)), (3, .int (nI b1)), (4, .int (nI b2))]) dd_O_comparedAsNumbers_122 (by decide) rfl ?_
      refine XX.cg (ws2 := wC G q x2 n f kf kl) (lv2 := [(5, .int (oI ((on (nm_wstop B a2 a1 - nm_whole B a2 a1) (nm_wstop B b2 b1 - nm_whole B b2 b1)).then (lx (wb B (nI 0) (nm_whole B a2 a1) (nm_wstop B a2 a1)) (wb B (nI 0) (nm_whole B b2 b1) (nm_wstop B b2 b1)))))), (0, .ref (q 5)), (1, .int (nI a1)), (2, .int (nI a2)), (3, .int (nI b1)), (4, .int (nI b2))]) rfl (by rw [then_eq h83]) rfl ?_
      refine XX.lvs [1, 2, 3, 4, 5, 0] rfl ?_
      exact j124
  ·
    refine XX.aload_n dd_O_comparedAsNumbers_44 rfl 0 rfl ?_
    refine XX.get (q0 := 5) (v := .ref (q 8)) fl_O_35 dd_O_comparedAsNumbers_45 rfl rfl ?_
    refine XX.get (q0 := 8) (v := .int (x2 10)) fl_O_110 dd_O_comparedAsNumbers_48 rfl rfl ?_
    refine XX.tp (y := nm_sign B a2 a1) (l0) ?_
    refine XX.aload_n dd_O_comparedAsNumbers_51 rfl 0 rfl ?_
    refine XX.get (q0 := 5) (v := .ref (q 9)) fl_O_39 dd_O_comparedAsNumbers_52 rfl rfl ?_
    refine XX.get (q0 := 9) (v := .int (x2 15)) fl_O_110 dd_O_comparedAsNumbers_55 rfl rfl ?_
    refine XX.tp (y := nm_sign B b2 b1) (r0) ?_
    refine XX.callSr (Mk := m_J_compare) (n := 2) (As := [.int (nm_sign B a2 a1), .int (nm_sign B b2 b1)]) (rest := []) (c_J_compare) mt_J_compare ms_J_compare ml_O_113 rfl dd_O_comparedAsNumbers_58 ⟨xn_le rfl, xn_le rfl⟩ ⟨xn_le rfl, xn_le rfl⟩ (xn_le rfl) rfl ?_
    refine XX.tp (y := oI (nc B a1 a2 b1 b2)) (by rw [nc_ne h41]) ?_
    exact XX.iret dd_O_comparedAsNumbers_61 rfl ⟨xn_le rfl, xn_le rfl⟩ ⟨rfl, x2, rfl, hag⟩

