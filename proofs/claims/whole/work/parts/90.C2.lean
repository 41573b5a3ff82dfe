theorem c_K_init {G : XG} {a : Nat} {W0 : va_W} {u0 u1 u2 u3 u4 : Int32} : MM G m_K_init (xr 1 0 0) [.ref a, .int u0, .int u1, .int u2, .int u3, .int u4] ((a, .inr (4, [.int 0, .int 0, .int 0, .int 0, .int 0])) :: W0) (RX none ((a, .inr (4, [.int u0, .int u1, .int u2, .int u3, .int u4])) :: W0)) := by
  refine MM.of rfl (xn_le rfl) ?_
  refine (?_ : XX G m_K_init (xr 1 0 0) (xx_F G (RX none ((a, .inr (4, [.int u0, .int u1, .int u2, .int u3, .int u4])) :: W0)) (xr 1 0 0)) 0 0 ((a, .inr (4, [.int 0, .int 0, .int 0, .int 0, .int 0])) :: W0) 0 [(0, .ref a), (1, .int u0), (2, .int u1), (3, .int u2), (4, .int u3), (5, .int u4)] [])
  refine XX.aload_n dd_K_init_0 rfl 0 rfl ?_
  refine XX.objInit dd_K_init_1 ml_K_1 oi_i oi_c (xn_le rfl) (xn_le rfl) ?_
  refine XX.aload_n dd_K_init_4 rfl 0 rfl ?_
  refine XX.iload_n dd_K_init_5 rfl 1 rfl ?_
  refine XX.putF (q0 := 0) (ws2 := (a, .inr (4, [.int u0, .int 0, .int 0, .int 0, .int 0])) :: W0) ff_K_7 rfl dd_K_init_6 rfl rfl rfl (xn_le rfl) rfl ?_
  refine XX.aload_n dd_K_init_9 rfl 0 rfl ?_
  refine XX.iload_n dd_K_init_10 rfl 2 rfl ?_
  refine XX.putF (q0 := 0) (ws2 := (a, .inr (4, [.int u0, .int u1, .int 0, .int 0, .int 0])) :: W0) ff_K_13 rfl dd_K_init_11 rfl rfl rfl (xn_le rfl) rfl ?_
  refine XX.aload_n dd_K_init_14 rfl 0 rfl ?_
  refine XX.iload_n dd_K_init_15 rfl 3 rfl ?_
  refine XX.putF (q0 := 0) (ws2 := (a, .inr (4, [.int u0, .int u1, .int u2, .int 0, .int 0])) :: W0) ff_K_16 rfl dd_K_init_16 rfl rfl rfl (xn_le rfl) rfl ?_
  refine XX.aload_n dd_K_init_19 rfl 0 rfl ?_
  refine XX.iload dd_K_init_20 4 rfl ?_
  refine XX.putF (q0 := 0) (ws2 := (a, .inr (4, [.int u0, .int u1, .int u2, .int u3, .int 0])) :: W0) ff_K_19 rfl dd_K_init_22 rfl rfl rfl (xn_le rfl) rfl ?_
  refine XX.aload_n dd_K_init_25 rfl 0 rfl ?_
  refine XX.iload dd_K_init_26 5 rfl ?_
  refine XX.putF (q0 := 0) (ws2 := (a, .inr (4, [.int u0, .int u1, .int u2, .int u3, .int u4])) :: W0) ff_K_22 rfl dd_K_init_28 rfl rfl rfl (xn_le rfl) rfl ?_
  exact XX.vret dd_K_init_31 rfl ⟨xn_le rfl, xn_le rfl⟩ ⟨rfl, rfl⟩
set_option maxRecDepth 100000 in
set_option maxHeartbeats 4000000 in
theorem c_O_addKey {G : XG} {q : Nat → Nat} {x : Nat → Int32} {n : Nat → Nat} {f : Nat → Nat → Int32} {kf : Nat → Option Nat} {kl : va_W} {kc a : Nat} {vs : List Value} (hx6 : x 6 = nI kc) (hk : kc < 6) : MM G m_O_addKey (xr 0 0 0) [.ref (q 5), .ref a] (wC G q x n f kf ((a, .inr (4, vs)) :: kl)) (RX none (wC G q (upd x 6 (nI (kc + 1))) n f (va_up kf kc (some a)) ((a, .inr (4, vs)) :: kl))) := by
  refine MM.of rfl (xn_le rfl) ?_
  refine (?_ : XX G m_O_addKey (xr 0 0 0) (xx_F G (RX none (wC G q (upd x 6 (nI (kc + 1))) n f (va_up kf kc (some a)) ((a, .inr (4, vs)) :: kl))) (xr 0 0 0)) 0 0 (wC G q x n f kf ((a, .inr (4, vs)) :: kl)) 0 [(0, .ref (q 5)), (1, .ref a)] [])
  refine XX.aload_n dd_O_addKey_0 rfl 0 rfl ?_
  refine XX.get (q0 := 5) (v := .int (x 6)) fl_O_42 dd_O_addKey_1 rfl rfl ?_
  refine XX.tp (y := nI kc) (hx6) ?_
  refine XX.bipush (v := nI 6) dd_O_addKey_4 (by decide) ?_
  refine XX.ncmp_ge (tgt := 29) dd_O_addKey_6 (by decide) (by omega) (by omega) (fun h6 => ?_) (fun h6 => ?_)
  ·
    exact absurd h6 (by omega)
  ·
    refine XX.aload_n dd_O_addKey_9 rfl 0 rfl ?_
    refine XX.get (q0 := 5) (v := .ref (q 6)) fl_O_28 dd_O_addKey_10 rfl rfl ?_
    refine XX.aload_n dd_O_addKey_13 rfl 0 rfl ?_
    refine XX.get (q0 := 5) (v := .int (x 6)) fl_O_42 dd_O_addKey_14 rfl rfl ?_
    refine XX.tp (y := nI kc) (hx6) ?_
    refine XX.aload_n dd_O_addKey_17 rfl 1 rfl ?_
    refine XX.aast (q0 := 6) (qk := 19) (n := 6) (j := kc) (f := kf) (ws2 := wC G q x n f (va_up kf kc (some a)) ((a, .inr (4, vs)) :: kl)) dd_O_addKey_18 rfl rfl rfl rfl hk (by decide) rfl ?_
    refine (?_ : XX G m_O_addKey (xr 0 0 0) (xx_F G (RX none (wC G q (upd x 6 (nI (kc + 1))) n f (va_up kf kc (some a)) ((a, .inr (4, vs)) :: kl))) (xr 0 0 0)) 0 0 (wC G q x n f (va_up kf kc (some a)) ((a, .inr (4, vs)) :: kl)) 19 [(0, .ref (q 5)), (1, .ref a)] [])
    refine XX.aload_n dd_O_addKey_19 rfl 0 rfl ?_
    refine XX.dup dd_O_addKey_20 rfl ?_
    refine XX.get (q0 := 5) (v := .int (x 6)) fl_O_42 dd_O_addKey_21 rfl rfl ?_
    refine XX.tp (y := nI kc) (hx6) ?_
    refine XX.iconst (v := nI 1) dd_O_addKey_24 (by decide) ?_
    refine XX.iadd dd_O_addKey_25 ?_
    refine XX.tp (y := nI (kc + 1)) (nI_add _ _) ?_
    refine XX.put (q0 := 5) (ws2 := wC G q (upd x 6 (nI (kc + 1))) n f (va_up kf kc (some a)) ((a, .inr (4, vs)) :: kl)) fp_O_42 dd_O_addKey_26 rfl rfl rfl (xn_le rfl) rfl ?_
    exact XX.vret dd_O_addKey_29 rfl ⟨xn_le rfl, xn_le rfl⟩ ⟨rfl, rfl⟩

set_option maxRecDepth 100000 in
set_option maxHeartbeats 4000000 in
theorem c_S_isLine {G : XG} {q : Nat → Nat} {x : Nat → Int32} {n : Nat → Nat} {f : Nat → Nat → Int32} {kf : Nat → Option Nat} {ks T : va_W} {s : SS} {bc : Nat} {br ka : Nat → Nat} (hc : CI s x n f kf ks bc br ka) {a : Int32} : MR G m_S_isLine (xr 2 0 0) [.ref (q 0), .int a] (wC G q x n f kf (ks ++ T)) (some (.int (bI (inr a (lnc s.B s.len))))) := by
  have hlen := hc.g.len
  have hkc := hc.g.kc
  have hrc := hc.g.rc
  have hun := hc.g.un
  have hlc : lnc s.B s.len ≤ s.len := lnc_le
  have hbl := (brk_le hc.b).2
  have hbl1 := (brk_le hc.b).1
  refine MR.of rfl (xn_le rfl) ?_
  refine (?_ : XR G m_S_isLine (xr 2 0 0) (xr_F (some (.int (bI (inr a (lnc s.B s.len)))))) (wC G q x n f kf (ks ++ T)) 0 [(0, .ref (q 0)), (1, .int a)] [])
  refine XR.iload_n dd_S_isLine_0 rfl 1 rfl ?_
  refine XR.iconst (v := nI 0) dd_S_isLine_1 (by decide) ?_
  refine XR.aload_n dd_S_isLine_2 rfl 0 rfl ?_
  refine XR.get (q0 := 0) (v := .ref (q 1)) fl_S_10 dd_S_isLine_3 rfl rfl ?_
  refine XR.callV (Mk := m_T_lineCount) (n := 0) (As := []) (rest := [.int (nI 0), .int a]) (q0 := 1) (ci := 1) (c_T_lineCount hc.t) mt_T_lineCount mi_T_lineCount ml_S_137 rfl dd_S_isLine_6 (rfl) rfl rfl ⟨xn_le rfl, xn_le rfl⟩ (xn_le rfl) rfl ?_
  refine XR.iconst (v := nI 1) dd_S_isLine_9 (by decide) ?_
  refine XR.isub dd_S_isLine_10 ?_
  refine XR.callS (Mk := m_S_isWithin) (n := 3) (As := [.int a, .int (nI 0), .int ((nI (tx_count s.len bc br)) - (nI 1))]) (rest := []) (c_S_isWithin) mt_S_isWithin ms_S_isWithin ml_S_87 rfl dd_S_isLine_11 ⟨xn_le rfl, xn_le rfl⟩ (xn_le rfl) rfl ?_
  refine XR.tp (y := bI (inr a (lnc s.B s.len))) (by rw [brk_cnt hc.b, wi_inr (by omega)]) ?_
  exact XR.zret dd_S_isLine_14 rfl (bI_nar _)

set_option maxRecDepth 100000 in
set_option maxHeartbeats 4000000 in
theorem c_S_addToResult {G : XG} {q : Nat → Nat} {x : Nat → Int32} {n : Nat → Nat} {f : Nat → Nat → Int32} {kf : Nat → Option Nat} {kl : va_W} {s : SS} {bc : Nat} {br ka : Nat → Nat} (hj : CJ s x n f kf kl bc br ka) {c l : Nat} {rl : Nat → Nat} (hx0 : x 0 = nI c) (hc : c < 1000) (hl : l < lnc s.B s.len) (hrl : ∀ i, i < c → f 7 i = nI (rl i) ∧ rl i < lnc s.B s.len) : MM G m_S_addToResult (xr 4 0 0) [.ref (q 0), .int (nI l)] (wC G q x n f kf kl) (fun r v => r = none ∧ ∃ (x2 g : Nat → Int32), v = wC G q x2 n (fup f 7 g) kf kl ∧ (∀ i, i ≠ 0 → i < 10 ∨ 19 < i → x2 i = x i) ∧ x2 0 = nI (ad_ (s_c s) (c, rl) l).1 ∧ ∀ i, i < (ad_ (s_c s) (c, rl) l).1 → g i = nI ((ad_ (s_c s) (c, rl) l).2 i)) := by
  refine MM.of rfl (xn_le rfl) ?_
  refine (?_ : XX G m_S_addToResult (xr 4 0 0) (xx_F G (fun r v => r = none ∧ ∃ (x2 g : Nat → Int32), v = wC G q x2 n (fup f 7 g) kf kl ∧ (∀ i, i ≠ 0 → i < 10 ∨ 19 < i → x2 i = x i) ∧ x2 0 = nI (ad_ (s_c s) (c, rl) l).1 ∧ ∀ i, i < (ad_ (s_c s) (c, rl) l).1 → g i = nI ((ad_ (s_c s) (c, rl) l).2 i)) (xr 4 0 0)) 0 0 (wC G q x n f kf kl) 0 [(0, .ref (q 0)), (1, .int (nI l))] [])
  refine XX.aload_n dd_S_addToResult_0 rfl 0 rfl ?_
  refine XX.get (q0 := 0) (v := .ref (q 5)) fl_S_30 dd_S_addToResult_1 rfl rfl ?_
  refine XX.get (q0 := 5) (v := .int (x 9)) fl_S_108 dd_S_addToResult_4 rfl rfl ?_
  refine XX.tp (y := bI s.bo) (hj.2.2.2.2.2.2.2.1) ?_
  refine XX.bif_eq (tgt := 43) dd_S_addToResult_7 (by decide) (fun h7 => ?_) (fun h7 => ?_)
  ·
    refine XX.iconst (v := nI 0) dd_S_addToResult_43 (by decide) ?_
    refine XX.istore_n (lv2 := [(2, .int (nI 0)), (0, .ref (q 0)), (1, .int (nI l))]) dd_S_addToResult_44 rfl (by decide) rfl ?_
    refine XX.iload_n dd_S_addToResult_45 rfl 0 rfl ?_
    refine XX.nif_ne (tgt := 79) dd_S_addToResult_46 (by decide) (by omega) (fun h46 => ?_) (fun h46 => ?_)
    ·
      exact absurd h46 (by decide)
    ·
      refine XX.aload_n dd_S_addToResult_49 rfl 1 rfl ?_
      refine XX.get (q0 := 0) (v := .int (x 0)) fl_S_63 dd_S_addToResult_50 rfl rfl ?_
      refine XX.tp (y := nI c) (hx0) ?_
      refine XX.sipush (v := nI 1000) dd_S_addToResult_53 (by decide) ?_
      refine XX.ncmp_ge (tgt := 79) dd_S_addToResult_56 (by decide) (by omega) (by omega) (fun h56 => ?_) (fun h56 => ?_)
      ·
        exact absurd h56 (by omega)
      ·
        refine XX.aload_n dd_S_addToResult_59 rfl 1 rfl ?_
        refine XX.get (q0 := 0) (v := .ref (q 18)) fl_S_59 dd_S_addToResult_60 rfl rfl ?_
        refine XX.aload_n dd_S_addToResult_63 rfl 1 rfl ?_
        refine XX.get (q0 := 0) (v := .int (x 0)) fl_S_63 dd_S_addToResult_64 rfl rfl ?_
        refine XX.tp (y := nI c) (hx0) ?_
        refine XX.iload_n dd_S_addToResult_67 rfl 2 rfl ?_
        refine XX.iast (q0 := 18) (n := 1000) (j := c) (f := f 7) (ws2 := wC G q x n (fup f 7 (upd (f 7) c (nI l))) kf kl) dd_S_addToResult_68 rfl (by omega) (by decide) rfl ?_
        refine XX.aload_n dd_S_addToResult_69 rfl 1 rfl ?_
        refine XX.dup dd_S_addToResult_70 rfl ?_
        refine XX.get (q0 := 0) (v := .int (x 0)) fl_S_63 dd_S_addToResult_71 rfl rfl ?_
        refine XX.tp (y := nI c) (hx0) ?_
        refine XX.iconst (v := nI 1) dd_S_addToResult_74 (by decide) ?_
        refine XX.iadd dd_S_addToResult_75 ?_
        refine XX.tp (y := nI (c + 1)) (nI_add _ _) ?_
        refine XX.put (q0 := 0) (ws2 := wC G q (upd x 0 (nI (c + 1))) n (fup f 7 (upd (f 7) c (nI l))) kf kl) fp_S_63 dd_S_addToResult_76 rfl rfl rfl (xn_le rfl) rfl ?_
        have ea : ad_ (s_c s) (c, rl) l = (c + 1, updN rl c l) := ad_f (fun hz => by simp [s_c, h7])
        exact XX.vret dd_S_addToResult_79 rfl ⟨xn_le rfl, xn_le rfl⟩ ⟨rfl, _, _, rfl, fun i z1 z2 => by rw [pk_un z1], by rw [ea]; rfl, by
          rw [ea]
          intro i hi
          have hi : i < c + 1 := hi
          show _ = nI (updN _ _ _ i)
          by_cases e : i = c
          · rw [e, pk_us, updN_s]
          · rw [pk_un e, updN_n e]; exact (hrl i (by omega)).1⟩
  ·
    refine XX.aload_n dd_S_addToResult_10 rfl 0 rfl ?_
    refine XX.get (q0 := 0) (v := .int (x 0)) fl_S_63 dd_S_addToResult_11 rfl rfl ?_
    refine XX.tp (y := nI c) (hx0) ?_
    refine XX.nif_le (tgt := 43) dd_S_addToResult_14 (by decide) (by omega) (fun h14 => ?_) (fun h14 => ?_)
    ·
      refine XX.iconst (v := nI 0) dd_S_addToResult_43 (by decide) ?_
      refine XX.istore_n (lv2 := [(2, .int (nI 0)), (0, .ref (q 0)), (1, .int (nI l))]) dd_S_addToResult_44 rfl (by decide) rfl ?_
      refine XX.iload_n dd_S_addToResult_45 rfl 0 rfl ?_
      refine XX.nif_ne (tgt := 79) dd_S_addToResult_46 (by decide) (by omega) (fun h46 => ?_) (fun h46 => ?_)
      ·
        exact absurd h46 (by decide)
      ·
        refine XX.aload_n dd_S_addToResult_49 rfl 1 rfl ?_
        refine XX.get (q0 := 0) (v := .int (x 0)) fl_S_63 dd_S_addToResult_50 rfl rfl ?_
        refine XX.tp (y := nI c) (hx0) ?_
        refine XX.sipush (v := nI 1000) dd_S_addToResult_53 (by decide) ?_
        refine XX.ncmp_ge (tgt := 79) dd_S_addToResult_56 (by decide) (by omega) (by omega) (fun h56 => ?_) (fun h56 => ?_)
        ·
          exact absurd h56 (by omega)
        ·
          refine XX.aload_n dd_S_addToResult_59 rfl 1 rfl ?_
          refine XX.get (q0 := 0) (v := .ref (q 18)) fl_S_59 dd_S_addToResult_60 rfl rfl ?_
          refine XX.aload_n dd_S_addToResult_63 rfl 1 rfl ?_
          refine XX.get (q0 := 0) (v := .int (x 0)) fl_S_63 dd_S_addToResult_64 rfl rfl ?_
          refine XX.tp (y := nI c) (hx0) ?_
          refine XX.iload_n dd_S_addToResult_67 rfl 2 rfl ?_
          refine XX.iast (q0 := 18) (n := 1000) (j := c) (f := f 7) (ws2 := wC G q x n (fup f 7 (upd (f 7) c (nI l))) kf kl) dd_S_addToResult_68 rfl (by omega) (by decide) rfl ?_
          refine XX.aload_n dd_S_addToResult_69 rfl 1 rfl ?_
          refine XX.dup dd_S_addToResult_70 rfl ?_
          refine XX.get (q0 := 0) (v := .int (x 0)) fl_S_63 dd_S_addToResult_71 rfl rfl ?_
          refine XX.tp (y := nI c) (hx0) ?_
          refine XX.iconst (v := nI 1) dd_S_addToResult_74 (by decide) ?_
          refine XX.iadd dd_S_addToResult_75 ?_
          refine XX.tp (y := nI (c + 1)) (nI_add _ _) ?_
          refine XX.put (q0 := 0) (ws2 := wC G q (upd x 0 (nI (c + 1))) n (fup f 7 (upd (f 7) c (nI l))) kf kl) fp_S_63 dd_S_addToResult_76 rfl rfl rfl (xn_le rfl) rfl ?_
          have ea : ad_ (s_c s) (c, rl) l = (c + 1, updN rl c l) := ad_f (fun hz => absurd hz (by omega))
          exact XX.vret dd_S_addToResult_79 rfl ⟨xn_le rfl, xn_le rfl⟩ ⟨rfl, _, _, rfl, fun i z1 z2 => by rw [pk_un z1], by rw [ea]; rfl, by
            rw [ea]
            intro i hi
            have hi : i < c + 1 := hi
            show _ = nI (updN _ _ _ i)
            by_cases e : i = c
            · rw [e, pk_us, updN_s]
            · rw [pk_un e, updN_n e]; exact (hrl i (by omega)).1⟩
    ·
      refine XX.aload_n dd_S_addToResult_17 rfl 0 rfl ?_
      refine XX.get (q0 := 0) (v := .ref (q 5)) fl_S_30 dd_S_addToResult_18 rfl rfl ?_
      refine XX.aload_n dd_S_addToResult_21 rfl 0 rfl ?_
      refine XX.get (q0 := 0) (v := .ref (q 18)) fl_S_59 dd_S_addToResult_22 rfl rfl ?_
      refine XX.aload_n dd_S_addToResult_25 rfl 0 rfl ?_
      refine XX.get (q0 := 0) (v := .int (x 0)) fl_S_63 dd_S_addToResult_26 rfl rfl ?_
      refine XX.tp (y := nI c) (hx0) ?_
      refine XX.iconst (v := nI 1) dd_S_addToResult_29 (by decide) ?_
      refine XX.isub dd_S_addToResult_30 ?_
      refine XX.tp (y := nI (c - 1)) (pk_sub (by omega)) ?_
      refine XX.iald (q0 := 18) (n := 1000) (j := c - 1) (f := f 7) dd_S_addToResult_31 rfl (by omega) (by decide) ?_
      refine XX.tp (y := nI (rl (c - 1))) ((hrl _ (by omega)).1) ?_
      refine XX.iload_n dd_S_addToResult_32 rfl 1 rfl ?_
      refine XX.callV (Mk := m_O_comparedByKeys) (n := 2) (As := [.int (nI (rl (c - 1))), .int (nI l)]) (rest := []) (q0 := 5) (ci := 3) (cmpK hj (la := rl (c - 1)) (lb := l) (hrl _ (by omega)).2 hl) mt_O_comparedByKeys mi_O_comparedByKeys ml_S_174 rfl dd_S_addToResult_33 (rfl) rfl rfl ⟨xn_le rfl, xn_le rfl⟩ ⟨xn_le rfl, xn_le rfl⟩ (xn_le rfl) rfl (fun r1 w1 hp1 => ?_)
      obtain ⟨rfl, x3, rfl, hq3⟩ := hp1
      have h03 : x3 0 = nI c := (hq3 0 (by omega)).trans hx0
      refine (?_ : XX G m_S_addToResult (xr 4 0 0) (xx_F G (fun r v => r = none ∧ ∃ (x2 g : Nat → Int32), v = wC G q x2 n (fup f 7 g) kf kl ∧ (∀ i, i ≠ 0 → i < 10 ∨ 19 < i → x2 i = x i) ∧ x2 0 = nI (ad_ (s_c s) (c, rl) l).1 ∧ ∀ i, i < (ad_ (s_c s) (c, rl) l).1 → g i = nI ((ad_ (s_c s) (c, rl) l).2 i)) (xr 4 0 0)) 0 0 (wC G q x3 n f kf kl) 36 [(0, .ref (q 0)), (1, .int (nI l))] [.int (oI (sk_o s (rl (c - 1)) l))])
      refine XX.if_ne (tgt := 43) dd_S_addToResult_36 (by decide) (fun h36 => ?_) (fun h36 => ?_)
      ·
        refine XX.iconst (v := nI 0) dd_S_addToResult_43 (by decide) ?_
        refine XX.istore_n (lv2 := [(2, .int (nI 0)), (0, .ref (q 0)), (1, .int (nI l))]) dd_S_addToResult_44 rfl (by decide) rfl ?_
        refine XX.iload_n dd_S_addToResult_45 rfl 0 rfl ?_
        refine XX.nif_ne (tgt := 79) dd_S_addToResult_46 (by decide) (by omega) (fun h46 => ?_) (fun h46 => ?_)
        ·
          exact absurd h46 (by decide)
        ·
          refine XX.aload_n dd_S_addToResult_49 rfl 1 rfl ?_
          refine XX.get (q0 := 0) (v := .int (x3 0)) fl_S_63 dd_S_addToResult_50 rfl rfl ?_
          refine XX.tp (y := nI c) (h03) ?_
          refine XX.sipush (v := nI 1000) dd_S_addToResult_53 (by decide) ?_
          refine XX.ncmp_ge (tgt := 79) dd_S_addToResult_56 (by decide) (by omega) (by omega) (fun h56 => ?_) (fun h56 => ?_)
          ·
            exact absurd h56 (by omega)
          ·
            refine XX.aload_n dd_S_addToResult_59 rfl 1 rfl ?_
            refine XX.get (q0 := 0) (v := .ref (q 18)) fl_S_59 dd_S_addToResult_60 rfl rfl ?_
            refine XX.aload_n dd_S_addToResult_63 rfl 1 rfl ?_
            refine XX.get (q0 := 0) (v := .int (x3 0)) fl_S_63 dd_S_addToResult_64 rfl rfl ?_
            refine XX.tp (y := nI c) (h03) ?_
            refine XX.iload_n dd_S_addToResult_67 rfl 2 rfl ?_
            refine XX.iast (q0 := 18) (n := 1000) (j := c) (f := f 7) (ws2 := wC G q x3 n (fup f 7 (upd (f 7) c (nI l))) kf kl) dd_S_addToResult_68 rfl (by omega) (by decide) rfl ?_
            refine XX.aload_n dd_S_addToResult_69 rfl 1 rfl ?_
            refine XX.dup dd_S_addToResult_70 rfl ?_
            refine XX.get (q0 := 0) (v := .int (x3 0)) fl_S_63 dd_S_addToResult_71 rfl rfl ?_
            refine XX.tp (y := nI c) (h03) ?_
            refine XX.iconst (v := nI 1) dd_S_addToResult_74 (by decide) ?_
            refine XX.iadd dd_S_addToResult_75 ?_
            refine XX.tp (y := nI (c + 1)) (nI_add _ _) ?_
            refine XX.put (q0 := 0) (ws2 := wC G q (upd x3 0 (nI (c + 1))) n (fup f 7 (upd (f 7) c (nI l))) kf kl) fp_S_63 dd_S_addToResult_76 rfl rfl rfl (xn_le rfl) rfl ?_
            have ea : ad_ (s_c s) (c, rl) l = (c + 1, updN rl c l) := ad_f (fun hz => by simp [s_c, h36])
            exact XX.vret dd_S_addToResult_79 rfl ⟨xn_le rfl, xn_le rfl⟩ ⟨rfl, _, _, rfl, fun i z1 z2 => by rw [pk_un z1]; exact hq3 i z2, by rw [ea]; rfl, by
              rw [ea]
              intro i hi
              have hi : i < c + 1 := hi
              show _ = nI (updN _ _ _ i)
              by_cases e : i = c
              · rw [e, pk_us, updN_s]
              · rw [pk_un e, updN_n e]; exact (hrl i (by omega)).1⟩
      ·
        refine XX.iconst (v := nI 1) dd_S_addToResult_39 (by decide) ?_
        refine XX.goto (tgt := 44) dd_S_addToResult_40 (by decide) ?_
        refine XX.istore_n (lv2 := [(2, .int (nI 1)), (0, .ref (q 0)), (1, .int (nI l))]) dd_S_addToResult_44 rfl (by decide) rfl ?_
        refine XX.iload_n dd_S_addToResult_45 rfl 0 rfl ?_
        refine XX.nif_ne (tgt := 79) dd_S_addToResult_46 (by decide) (by omega) (fun h46 => ?_) (fun h46 => ?_)
        ·
          have ea : ad_ (s_c s) (c, rl) l = (c, rl) := ad_t (by omega) (by simp [s_c, h7, h36])
          exact XX.vret dd_S_addToResult_79 rfl ⟨xn_le rfl, xn_le rfl⟩ ⟨rfl, x3, f 7, by rw [fup_self], fun i z1 z2 => hq3 i z2, by rw [ea]; exact h03, by rw [ea]; exact fun i hi => (hrl i hi).1⟩
        ·
          exact absurd h46 (by decide)

set_option maxRecDepth 100000 in
set_option maxHeartbeats 4000000 in
theorem c_S_keyless {G : XG} {q : Nat → Nat} {x : Nat → Int32} {n : Nat → Nat} {f : Nat → Nat → Int32} {kf : Nat → Option Nat} {ks T : va_W} {s : SS} {bc : Nat} {br ka : Nat → Nat} (hc : CI s x n f kf ks bc br ka)  : MM G m_S_keyless (xr 0 0 0) [.ref (q 0)] (wC G q x n f kf (ks ++ T)) (CQI G q n T (o_keyless s) (nI s.kc)) := by
  have hlen := hc.g.len
  have hkc := hc.g.kc
  have hrc := hc.g.rc
  have hun := hc.g.un
  have hlc : lnc s.B s.len ≤ s.len := lnc_le
  have hbl := (brk_le hc.b).2
  have hbl1 := (brk_le hc.b).1
  refine MM.of rfl (xn_le rfl) ?_
  refine (?_ : XX G m_S_keyless (xr 0 0 0) (xx_F G (CQI G q n T (o_keyless s) (nI s.kc)) (xr 0 0 0)) 0 0 (wC G q x n f kf (ks ++ T)) 0 [(0, .ref (q 0))] [])
  refine XX.aload_n dd_S_keyless_0 rfl 0 rfl ?_
  refine XX.get (q0 := 0) (v := .ref (q 5)) fl_S_30 dd_S_keyless_1 rfl rfl ?_
  refine XX.get (q0 := 5) (v := .int (x 6)) fl_S_118 dd_S_keyless_4 rfl rfl ?_
  refine XX.tp (y := nI s.kc) (hc.x6) ?_
  refine XX.istore_n (lv2 := [(1, .int (nI s.kc)), (0, .ref (q 0))]) dd_S_keyless_7 rfl (by decide) rfl ?_
  refine XX.aload_n dd_S_keyless_8 rfl 1 rfl ?_
  refine XX.get (q0 := 0) (v := .ref (q 5)) fl_S_30 dd_S_keyless_9 rfl rfl ?_
  refine XX.iconst (v := nI 0) dd_S_keyless_12 (by decide) ?_
  refine XX.put (q0 := 5) (ws2 := wC G q (upd x 6 (nI 0)) n f kf (ks ++ T)) fp_S_118 dd_S_keyless_13 rfl rfl rfl (xn_le rfl) rfl ?_
  refine XX.iload_n dd_S_keyless_16 rfl 0 rfl ?_
  exact XX.iret dd_S_keyless_17 rfl ⟨xn_le rfl, xn_le rfl⟩ (⟨rfl, q, _, f, kf, ks, bc, br, ka, rfl, rfl, ⟨hc.g.keyless, hc.t, hc.b, hc.fit, hc.nn, hc.x5, rfl, hc.x7, hc.x8, hc.x9, ⟨Nat.zero_le _, fun k hk => absurd hk (Nat.not_lt_zero _)⟩, hc.x1, hc.x2, hc.x0, hc.r, hc.x21, hc.u, hc.x22, hc.x23, hc.x24⟩⟩)

set_option maxRecDepth 100000 in
set_option maxHeartbeats 4000000 in
theorem c_S_lines {G : XG} {q : Nat → Nat} {x : Nat → Int32} {n : Nat → Nat} {f : Nat → Nat → Int32} {kf : Nat → Option Nat} {ks T : va_W} {s : SS} {bc : Nat} {br ka : Nat → Nat} (hc : CI s x n f kf ks bc br ka)  : MM G m_S_lines (xr 2 0 0) [.ref (q 0)] (wC G q x n f kf (ks ++ T)) (CQI G q n T (s) (nI (lnc s.B s.len))) := by
  have hlen := hc.g.len
  have hkc := hc.g.kc
  have hrc := hc.g.rc
  have hun := hc.g.un
  have hlc : lnc s.B s.len ≤ s.len := lnc_le
  have hbl := (brk_le hc.b).2
  have hbl1 := (brk_le hc.b).1
  refine MM.of rfl (xn_le rfl) ?_
  refine (?_ : XX G m_S_lines (xr 2 0 0) (xx_F G (CQI G q n T (s) (nI (lnc s.B s.len))) (xr 2 0 0)) 0 0 (wC G q x n f kf (ks ++ T)) 0 [(0, .ref (q 0))] [])
  refine XX.aload_n dd_S_lines_0 rfl 0 rfl ?_
  refine XX.get (q0 := 0) (v := .ref (q 1)) fl_S_10 dd_S_lines_1 rfl rfl ?_
  refine XX.callVr (Mk := m_T_lineCount) (n := 0) (As := []) (rest := []) (q0 := 1) (ci := 1) (c_T_lineCount hc.t) mt_T_lineCount mi_T_lineCount ml_S_137 rfl dd_S_lines_4 (rfl) rfl rfl ⟨xn_le rfl, xn_le rfl⟩ ⟨xn_le rfl, xn_le rfl⟩ (xn_le rfl) rfl ?_
  refine XX.tp (y := nI (lnc s.B s.len)) (by rw [brk_cnt hc.b]) ?_
  exact XX.iret dd_S_lines_7 rfl ⟨xn_le rfl, xn_le rfl⟩ (⟨rfl, CW.of hc⟩)

set_option maxRecDepth 100000 in
set_option maxHeartbeats 4000000 in
theorem c_S_result {G : XG} {q : Nat → Nat} {x : Nat → Int32} {n : Nat → Nat} {f : Nat → Nat → Int32} {kf : Nat → Option Nat} {ks T : va_W} {s : SS} {bc : Nat} {br ka : Nat → Nat} (hc : CI s x n f kf ks bc br ka) {a : Int32} : MM G m_S_result (xr 1 0 0) [.ref (q 0), .int a] (wC G q x n f kf (ks ++ T)) (CQI G q n T (s) (v_result s a)) := by
  have hlen := hc.g.len
  have hkc := hc.g.kc
  have hrc := hc.g.rc
  have hun := hc.g.un
  have hlc : lnc s.B s.len ≤ s.len := lnc_le
  have hbl := (brk_le hc.b).2
  have hbl1 := (brk_le hc.b).1
  refine MM.of rfl (xn_le rfl) ?_
  refine (?_ : XX G m_S_result (xr 1 0 0) (xx_F G (CQI G q n T (s) (v_result s a)) (xr 1 0 0)) 0 0 (wC G q x n f kf (ks ++ T)) 0 [(0, .ref (q 0)), (1, .int a)] [])
  refine XX.iload_n dd_S_result_0 rfl 1 rfl ?_
  refine XX.iconst (v := nI 0) dd_S_result_1 (by decide) ?_
  refine XX.aload_n dd_S_result_2 rfl 0 rfl ?_
  refine XX.get (q0 := 0) (v := .int (x 0)) fl_S_63 dd_S_result_3 rfl rfl ?_
  refine XX.tp (y := nI s.rc) (hc.x0) ?_
  refine XX.iconst (v := nI 1) dd_S_result_6 (by decide) ?_
  refine XX.isub dd_S_result_7 ?_
  refine XX.callSr (Mk := m_S_isWithin) (n := 3) (As := [.int a, .int (nI 0), .int ((nI s.rc) - (nI 1))]) (rest := []) (c_S_isWithin) mt_S_isWithin ms_S_isWithin ml_S_87 rfl dd_S_result_8 ⟨xn_le rfl, xn_le rfl⟩ ⟨xn_le rfl, xn_le rfl⟩ (xn_le rfl) rfl ?_
  refine XX.bif_eq (tgt := 23) dd_S_result_11 (by decide) (fun h11 => ?_) (fun h11 => ?_)
  ·
    refine XX.iconst (v := -1) dd_S_result_23 (by decide) ?_
    have hv : v_result s a = -1 := by unfold v_result; rw [← wi_inr (by omega), h11, if_neg (by decide)]
    rw [hv]
    exact XX.iret dd_S_result_24 rfl ⟨xn_le rfl, xn_le rfl⟩ (⟨rfl, CW.of hc⟩)
  ·
    have hra : inr a s.rc = true := by rw [← wi_inr (by omega)]; exact h11
    obtain ⟨la, ea, hla⟩ := inr_t hra (by omega)
    refine XX.cg (ws2 := wC G q x n f kf (ks ++ T)) (lv2 := [(0, .ref (q 0)), (1, .int (nI la))]) rfl (by rw [ea]) rfl ?_
    refine XX.aload_n dd_S_result_14 rfl 0 rfl ?_
    refine XX.get (q0 := 0) (v := .ref (q 18)) fl_S_59 dd_S_result_15 rfl rfl ?_
    refine XX.iload_n dd_S_result_18 rfl 1 rfl ?_
    refine XX.iald (q0 := 18) (n := 1000) (j := la) (f := f 7) dd_S_result_19 rfl (by omega) (by decide) ?_
    refine XX.tp (y := nI (s.rl la)) (hc.r la (by omega)) ?_
    refine XX.goto (tgt := 24) dd_S_result_20 (by decide) ?_
    have hv : v_result s a = nI (s.rl la) := by unfold v_result; rw [if_pos hra, ea, iN_nI (by omega)]
    rw [hv]
    exact XX.iret dd_S_result_24 rfl ⟨xn_le rfl, xn_le rfl⟩ (⟨rfl, CW.of hc⟩)

set_option maxRecDepth 100000 in
set_option maxHeartbeats 4000000 in
theorem c_S_run {G : XG} {q : Nat → Nat} {x : Nat → Int32} {n : Nat → Nat} {f : Nat → Nat → Int32} {kf : Nat → Option Nat} {ks T : va_W} {s : SS} {bc : Nat} {br ka : Nat → Nat} (hc : CI s x n f kf ks bc br ka) {a : Int32} : MM G m_S_run (xr 1 0 0) [.ref (q 0), .int a] (wC G q x n f kf (ks ++ T)) (CQI G q n T (s) (v_run s a)) := by
  have hlen := hc.g.len
  have hkc := hc.g.kc
  have hrc := hc.g.rc
  have hun := hc.g.un
  have hlc : lnc s.B s.len ≤ s.len := lnc_le
  have hbl := (brk_le hc.b).2
  have hbl1 := (brk_le hc.b).1
  refine MM.of rfl (xn_le rfl) ?_
  refine (?_ : XX G m_S_run (xr 1 0 0) (xx_F G (CQI G q n T (s) (v_run s a)) (xr 1 0 0)) 0 0 (wC G q x n f kf (ks ++ T)) 0 [(0, .ref (q 0)), (1, .int a)] [])
  refine XX.iload_n dd_S_run_0 rfl 1 rfl ?_
  refine XX.iconst (v := nI 0) dd_S_run_1 (by decide) ?_
  refine XX.aload_n dd_S_run_2 rfl 0 rfl ?_
  refine XX.get (q0 := 0) (v := .ref (q 15)) fl_S_55 dd_S_run_3 rfl rfl ?_
  refine XX.get (q0 := 15) (v := .int (x 21)) fl_S_222 dd_S_run_6 rfl rfl ?_
  refine XX.tp (y := nI s.un) (hc.x21) ?_
  refine XX.iconst (v := nI 1) dd_S_run_9 (by decide) ?_
  refine XX.isub dd_S_run_10 ?_
  refine XX.callSr (Mk := m_S_isWithin) (n := 3) (As := [.int a, .int (nI 0), .int ((nI s.un) - (nI 1))]) (rest := []) (c_S_isWithin) mt_S_isWithin ms_S_isWithin ml_S_87 rfl dd_S_run_11 ⟨xn_le rfl, xn_le rfl⟩ ⟨xn_le rfl, xn_le rfl⟩ (xn_le rfl) rfl ?_
  refine XX.bif_eq (tgt := 29) dd_S_run_14 (by decide) (fun h14 => ?_) (fun h14 => ?_)
  ·
    refine XX.iconst (v := -1) dd_S_run_29 (by decide) ?_
    have hv : v_run s a = -1 := by unfold v_run; rw [← wi_inr (by omega), h14, if_neg (by decide)]
    rw [hv]
    exact XX.iret dd_S_run_30 rfl ⟨xn_le rfl, xn_le rfl⟩ (⟨rfl, CW.of hc⟩)
  ·
    have hra : inr a s.un = true := by rw [← wi_inr (by omega)]; exact h14
    obtain ⟨la, ea, hla⟩ := inr_t hra (by omega)
    refine XX.cg (ws2 := wC G q x n f kf (ks ++ T)) (lv2 := [(0, .ref (q 0)), (1, .int (nI la))]) rfl (by rw [ea]) rfl ?_
    refine XX.aload_n dd_S_run_17 rfl 0 rfl ?_
    refine XX.get (q0 := 0) (v := .ref (q 15)) fl_S_55 dd_S_run_18 rfl rfl ?_
    refine XX.get (q0 := 15) (v := .ref (q 16)) fl_S_225 dd_S_run_21 rfl rfl ?_
    refine XX.iload_n dd_S_run_24 rfl 1 rfl ?_
    refine XX.iald (q0 := 16) (n := 1000) (j := la) (f := f 5) dd_S_run_25 rfl (by omega) (by decide) ?_
    refine XX.tp (y := nI (s.ul la)) (hc.u la (by omega)) ?_
    refine XX.goto (tgt := 30) dd_S_run_26 (by decide) ?_
    have hv : v_run s a = nI (s.ul la) := by unfold v_run; rw [if_pos hra, ea, iN_nI (by omega)]
    rw [hv]
    exact XX.iret dd_S_run_30 rfl ⟨xn_le rfl, xn_le rfl⟩ (⟨rfl, CW.of hc⟩)

set_option maxRecDepth 100000 in
set_option maxHeartbeats 4000000 in
theorem c_S_check {G : XG} {q : Nat → Nat} {x : Nat → Int32} {n : Nat → Nat} {f : Nat → Nat → Int32} {kf : Nat → Option Nat} {ks T : va_W} {s : SS} {bc : Nat} {br ka : Nat → Nat} (hc : CI s x n f kf ks bc br ka)  : MM G m_S_check (xr 5 0 0) [.ref (q 0)] (wC G q x n f kf (ks ++ T)) (CQI G q n T (s) (v_check s)) := by
  have hlen := hc.g.len
  have hkc := hc.g.kc
  have hrc := hc.g.rc
  have hun := hc.g.un
  have hlc : lnc s.B s.len ≤ s.len := lnc_le
  have hbl := (brk_le hc.b).2
  have hbl1 := (brk_le hc.b).1
  refine MM.of rfl (xn_le rfl) ?_
  refine (?_ : XX G m_S_check (xr 5 0 0) (xx_F G (CQI G q n T (s) (v_check s)) (xr 5 0 0)) 0 0 (wC G q x n f kf (ks ++ T)) 0 [(0, .ref (q 0))] [])
  have loop : ∀ (kk i : Nat) (xx : Nat → Int32), lnc s.B s.len - i = kk → 1 ≤ i → i ≤ max 1 (lnc s.B s.len) → CI s xx n f kf ks bc br ka → oN (ck (sa_o s) s.bo (lnc s.B s.len - i) i) = v_check s → XX G m_S_check (xr 5 0 0) (xx_F G (CQI G q n T (s) (v_check s)) (xr 5 0 0)) 0 0 (wC G q xx n f kf (ks ++ T)) 10 [(0, .ref (q 0)), (1, .int (nI (lnc s.B s.len))), (2, .int (nI i))] [] := by
    intro kk
    induction kk using Nat.strongRecOn with
    | _ kk ih =>
      intro i xx hkk hi1 himx hx hv
      refine XX.iload_n dd_S_check_10 rfl 2 rfl ?_
      refine XX.iload_n dd_S_check_11 rfl 1 rfl ?_
      refine XX.ncmp_ge (tgt := 53) dd_S_check_12 (by decide) (by omega) (by omega) (fun h12 => ?_) (fun h12 => ?_)
      ·
        refine XX.iconst (v := -1) dd_S_check_53 (by decide) ?_
        rw [← hv, ck_0 (by omega)]
        exact XX.iret dd_S_check_54 rfl ⟨xn_le rfl, xn_le rfl⟩ (⟨rfl, CW.of hx⟩)
      ·
        refine XX.aload_n dd_S_check_15 rfl 0 rfl ?_
        refine XX.get (q0 := 0) (v := .ref (q 5)) fl_S_30 dd_S_check_16 rfl rfl ?_
        refine XX.iload_n dd_S_check_19 rfl 2 rfl ?_
        refine XX.iconst (v := nI 1) dd_S_check_20 (by decide) ?_
        refine XX.isub dd_S_check_21 ?_
        refine XX.tp (y := nI (i - 1)) (pk_sub (by omega)) ?_
        refine XX.iload_n dd_S_check_22 rfl 2 rfl ?_
        refine XX.callV (Mk := m_O_comparedNumbersAside) (n := 2) (As := [.int (nI (i - 1)), .int (nI i)]) (rest := []) (q0 := 5) (ci := 3) (cmpA (hx.j T) (la := i - 1) (lb := i) (by omega) (by omega)) mt_O_comparedNumbersAside mi_O_comparedNumbersAside ml_S_199 rfl dd_S_check_23 (rfl) rfl rfl ⟨xn_le rfl, xn_le rfl⟩ ⟨xn_le rfl, xn_le rfl⟩ (xn_le rfl) rfl (fun r1 w1 hp1 => ?_)
        obtain ⟨rfl, x3, rfl, hq3⟩ := hp1
        have hx3 := hx.agn hq3
        refine (?_ : XX G m_S_check (xr 5 0 0) (xx_F G (CQI G q n T (s) (v_check s)) (xr 5 0 0)) 0 0 (wC G q x3 n f kf (ks ++ T)) 26 [(0, .ref (q 0)), (1, .int (nI (lnc s.B s.len))), (2, .int (nI i))] [.int (oI (sa_o s (i - 1) i))])
        refine XX.istore_n (lv2 := [(3, .int (oI (sa_o s (i - 1) i))), (0, .ref (q 0)), (1, .int (nI (lnc s.B s.len))), (2, .int (nI i))]) dd_S_check_26 rfl (by decide) rfl ?_
        refine XX.iload_n dd_S_check_27 rfl 0 rfl ?_
        refine XX.if_gt (tgt := 45) dd_S_check_28 (by decide) (fun h28 => ?_) (fun h28 => ?_)
        ·
          refine XX.iload_n dd_S_check_45 rfl 3 rfl ?_
          rw [← hv, ck_s (n := lnc s.B s.len) (i := i) (by omega), if_pos (by simp [h28])]
          exact XX.iret dd_S_check_46 rfl ⟨xn_le rfl, xn_le rfl⟩ (⟨rfl, CW.of hx3⟩)
        ·
          refine XX.aload_n dd_S_check_31 rfl 1 rfl ?_
          refine XX.get (q0 := 0) (v := .ref (q 5)) fl_S_30 dd_S_check_32 rfl rfl ?_
          refine XX.get (q0 := 5) (v := .int (x3 9)) fl_S_108 dd_S_check_35 rfl rfl ?_
          refine XX.tp (y := bI s.bo) (hx3.x9) ?_
          refine XX.bif_eq (tgt := 47) dd_S_check_38 (by decide) (fun h38 => ?_) (fun h38 => ?_)
          ·
            refine XX.iinc (z := 3) (v := nI (i + 1)) (lv2 := [(2, .int (nI (i + 1))), (3, .int (oI (sa_o s (i - 1) i))), (0, .ref (q 0)), (1, .int (nI (lnc s.B s.len)))]) dd_S_check_47 rfl ((nI_succ _).symm) (by decide) rfl ?_
            refine XX.goto (tgt := 10) dd_S_check_50 (by decide) ?_
            refine XX.lvs [2, 3, 0] rfl ?_
            exact ih _ (by omega) (i + 1) x3 rfl (by omega) (by omega) hx3 (by rw [← hv, ck_s (n := lnc s.B s.len) (i := i) (by omega), if_neg (by simp [h28, h38])])
          ·
            refine XX.iload_n dd_S_check_41 rfl 0 rfl ?_
            refine XX.if_ne (tgt := 47) dd_S_check_42 (by decide) (fun h42 => ?_) (fun h42 => ?_)
            ·
              refine XX.iinc (z := 3) (v := nI (i + 1)) (lv2 := [(2, .int (nI (i + 1))), (3, .int (oI (sa_o s (i - 1) i))), (0, .ref (q 0)), (1, .int (nI (lnc s.B s.len)))]) dd_S_check_47 rfl ((nI_succ _).symm) (by decide) rfl ?_
              refine XX.goto (tgt := 10) dd_S_check_50 (by decide) ?_
              refine XX.lvs [2, 3, 0] rfl ?_
              exact ih _ (by omega) (i + 1) x3 rfl (by omega) (by omega) hx3 (by rw [← hv, ck_s (n := lnc s.B s.len) (i := i) (by omega), if_neg (by simp [h28, h38, h42])])
            ·
              refine XX.iload_n dd_S_check_45 rfl 3 rfl ?_
              rw [← hv, ck_s (n := lnc s.B s.len) (i := i) (by omega), if_pos (by simp [h28, h38, h42])]
              exact XX.iret dd_S_check_46 rfl ⟨xn_le rfl, xn_le rfl⟩ (⟨rfl, CW.of hx3⟩)
  refine XX.aload_n dd_S_check_0 rfl 0 rfl ?_
  refine XX.get (q0 := 0) (v := .ref (q 1)) fl_S_10 dd_S_check_1 rfl rfl ?_
  refine XX.callVr (Mk := m_T_lineCount) (n := 0) (As := []) (rest := []) (q0 := 1) (ci := 1) (c_T_lineCount hc.t) mt_T_lineCount mi_T_lineCount ml_S_137 rfl dd_S_check_4 (rfl) rfl rfl ⟨xn_le rfl, xn_le rfl⟩ ⟨xn_le rfl, xn_le rfl⟩ (xn_le rfl) rfl ?_
  refine XX.tp (y := nI (lnc s.B s.len)) (by rw [brk_cnt hc.b]) ?_
  refine XX.istore_n (lv2 := [(1, .int (nI (lnc s.B s.len))), (0, .ref (q 0))]) dd_S_check_7 rfl (by decide) rfl ?_
  refine XX.iconst (v := nI 1) dd_S_check_8 (by decide) ?_
  refine XX.istore_n (lv2 := [(2, .int (nI 1)), (1, .int (nI (lnc s.B s.len))), (0, .ref (q 0))]) dd_S_check_9 rfl (by decide) rfl ?_
  refine XX.lvs [2, 1, 0] rfl ?_
  exact loop _ 1 x rfl (by omega) (by omega) hc rfl

set_option maxRecDepth 100000 in
set_option maxHeartbeats 4000000 in
theorem c_S_byteAt {G : XG} {q : Nat → Nat} {x : Nat → Int32} {n : Nat → Nat} {f : Nat → Nat → Int32} {kf : Nat → Option Nat} {ks T : va_W} {s : SS} {bc : Nat} {br ka : Nat → Nat} (hc : CI s x n f kf ks bc br ka) {a b : Int32} : MM G m_S_byteAt (xr 1 0 0) [.ref (q 0), .int a, .int b] (wC G q x n f kf (ks ++ T)) (CQI G q n T (s) (v_byteAt s a b)) := by
  have hlen := hc.g.len
  have hkc := hc.g.kc
  have hrc := hc.g.rc
  have hun := hc.g.un
  have hlc : lnc s.B s.len ≤ s.len := lnc_le
  have hbl := (brk_le hc.b).2
  have hbl1 := (brk_le hc.b).1
  refine MM.of rfl (xn_le rfl) ?_
  refine (?_ : XX G m_S_byteAt (xr 1 0 0) (xx_F G (CQI G q n T (s) (v_byteAt s a b)) (xr 1 0 0)) 0 0 (wC G q x n f kf (ks ++ T)) 0 [(0, .ref (q 0)), (1, .int a), (2, .int b)] [])
  refine XX.iload_n dd_S_byteAt_0 rfl 1 rfl ?_
  refine XX.iconst (v := nI 0) dd_S_byteAt_1 (by decide) ?_
  refine XX.aload_n dd_S_byteAt_2 rfl 0 rfl ?_
  refine XX.get (q0 := 0) (v := .int (x 0)) fl_S_63 dd_S_byteAt_3 rfl rfl ?_
  refine XX.tp (y := nI s.rc) (hc.x0) ?_
  refine XX.iconst (v := nI 1) dd_S_byteAt_6 (by decide) ?_
  refine XX.isub dd_S_byteAt_7 ?_
  refine XX.callSr (Mk := m_S_isWithin) (n := 3) (As := [.int a, .int (nI 0), .int ((nI s.rc) - (nI 1))]) (rest := []) (c_S_isWithin) mt_S_isWithin ms_S_isWithin ml_S_87 rfl dd_S_byteAt_8 ⟨xn_le rfl, xn_le rfl⟩ ⟨xn_le rfl, xn_le rfl⟩ (xn_le rfl) rfl ?_
  refine XX.bif_ne (tgt := 16) dd_S_byteAt_11 (by decide) (fun h11 => ?_) (fun h11 => ?_)
  ·
    have hra : inr a s.rc = true := by rw [← wi_inr (by omega)]; exact h11
    obtain ⟨la, ea, hla⟩ := inr_t hra (by omega)
    have hrl := hc.g.rl la hla
    have hst := brk_st hc.b hrl
    have hen := brk_en hc.b hrl
    have hse := brk_se hc.b hrl
    have hsl := tx_stop_le (fun i hi => (hc.b.1 i hi).1) (l := s.rl la)
    refine XX.cg (ws2 := wC G q x n f kf (ks ++ T)) (lv2 := [(0, .ref (q 0)), (1, .int (nI la)), (2, .int b)]) rfl (by rw [ea]) rfl ?_
    refine XX.aload_n dd_S_byteAt_16 rfl 0 rfl ?_
    refine XX.get (q0 := 0) (v := .ref (q 1)) fl_S_10 dd_S_byteAt_17 rfl rfl ?_
    refine XX.aload_n dd_S_byteAt_20 rfl 0 rfl ?_
    refine XX.get (q0 := 0) (v := .ref (q 18)) fl_S_59 dd_S_byteAt_21 rfl rfl ?_
    refine XX.iload_n dd_S_byteAt_24 rfl 1 rfl ?_
    refine XX.iald (q0 := 18) (n := 1000) (j := la) (f := f 7) dd_S_byteAt_25 rfl (by omega) (by decide) ?_
    refine XX.tp (y := nI (s.rl la)) (hc.r la (by omega)) ?_
    refine XX.callVr (Mk := m_T_startOf) (n := 1) (As := [.int (nI (s.rl la))]) (rest := []) (q0 := 1) (ci := 1) (c_T_startOf hc.t (l := s.rl la) (by omega)) mt_T_startOf mi_T_startOf ml_S_168 rfl dd_S_byteAt_26 (rfl) rfl rfl ⟨xn_le rfl, xn_le rfl⟩ ⟨xn_le rfl, xn_le rfl⟩ (xn_le rfl) rfl ?_
    refine XX.istore_n (lv2 := [(3, .int (nI (tx_start br (s.rl la)))), (0, .ref (q 0)), (1, .int (nI la)), (2, .int b)]) dd_S_byteAt_29 rfl (by decide) rfl ?_
    refine XX.aload_n dd_S_byteAt_30 rfl 1 rfl ?_
    refine XX.get (q0 := 0) (v := .ref (q 1)) fl_S_10 dd_S_byteAt_31 rfl rfl ?_
    refine XX.aload_n dd_S_byteAt_34 rfl 1 rfl ?_
    refine XX.get (q0 := 0) (v := .ref (q 18)) fl_S_59 dd_S_byteAt_35 rfl rfl ?_
    refine XX.iload_n dd_S_byteAt_38 rfl 2 rfl ?_
    refine XX.iald (q0 := 18) (n := 1000) (j := la) (f := f 7) dd_S_byteAt_39 rfl (by omega) (by decide) ?_
    refine XX.tp (y := nI (s.rl la)) (hc.r la (by omega)) ?_
    refine XX.callVr (Mk := m_T_stopOf) (n := 1) (As := [.int (nI (s.rl la))]) (rest := []) (q0 := 1) (ci := 1) (c_T_stopOf hc.t (l := s.rl la) (by omega)) mt_T_stopOf mi_T_stopOf ml_S_216 rfl dd_S_byteAt_40 (rfl) rfl rfl ⟨xn_le rfl, xn_le rfl⟩ ⟨xn_le rfl, xn_le rfl⟩ (xn_le rfl) rfl ?_
    refine XX.iload_n dd_S_byteAt_43 rfl 0 rfl ?_
    refine XX.isub dd_S_byteAt_44 ?_
    refine XX.tp (y := nI (tx_stop s.len bc br (s.rl la) - (tx_start br (s.rl la)))) (pk_sub (by omega)) ?_
    refine XX.istore (lv2 := [(4, .int (nI (tx_stop s.len bc br (s.rl la) - (tx_start br (s.rl la))))), (3, .int (nI (tx_start br (s.rl la)))), (0, .ref (q 0)), (1, .int (nI la)), (2, .int b)]) dd_S_byteAt_45 (by decide) rfl ?_
    refine XX.iload_n dd_S_byteAt_47 rfl 4 rfl ?_
    refine XX.iconst (v := nI 0) dd_S_byteAt_48 (by decide) ?_
    refine XX.iload dd_S_byteAt_49 0 rfl ?_
    refine XX.iconst (v := nI 1) dd_S_byteAt_51 (by decide) ?_
    refine XX.isub dd_S_byteAt_52 ?_
    refine XX.callSr (Mk := m_S_isWithin) (n := 3) (As := [.int b, .int (nI 0), .int ((nI (tx_stop s.len bc br (s.rl la) - (tx_start br (s.rl la)))) - (nI 1))]) (rest := []) (c_S_isWithin) mt_S_isWithin ms_S_isWithin ml_S_87 rfl dd_S_byteAt_53 ⟨xn_le rfl, xn_le rfl⟩ ⟨xn_le rfl, xn_le rfl⟩ (xn_le rfl) rfl ?_
    refine XX.bif_eq (tgt := 72) dd_S_byteAt_56 (by decide) (fun h56 => ?_) (fun h56 => ?_)
    ·
      refine XX.iconst (v := -1) dd_S_byteAt_72 (by decide) ?_
      have hv : v_byteAt s a b = -1 := by unfold v_byteAt; rw [ea, iN_nI (by omega), ← hst, ← hen, ← ea, hra, Bool.true_and, ← wi_inr (by omega), h56, if_neg (by decide)]
      rw [hv]
      exact XX.iret dd_S_byteAt_73 rfl ⟨xn_le rfl, xn_le rfl⟩ (⟨rfl, CW.of hc⟩)
    ·
      have hrb : inr b (tx_stop s.len bc br (s.rl la) - tx_start br (s.rl la)) = true := by rw [← wi_inr (by omega)]; exact h56
      obtain ⟨lb, eb, hlb⟩ := inr_t hrb (by omega)
      refine XX.cg (ws2 := wC G q x n f kf (ks ++ T)) (lv2 := [(4, .int (nI (tx_stop s.len bc br (s.rl la) - (tx_start br (s.rl la))))), (3, .int (nI (tx_start br (s.rl la)))), (0, .ref (q 0)), (1, .int (nI la)), (2, .int (nI lb))]) rfl (by rw [eb]) rfl ?_
      refine XX.aload_n dd_S_byteAt_59 rfl 2 rfl ?_
      refine XX.get (q0 := 0) (v := .ref (q 1)) fl_S_10 dd_S_byteAt_60 rfl rfl ?_
      refine XX.iload_n dd_S_byteAt_63 rfl 1 rfl ?_
      refine XX.iload_n dd_S_byteAt_64 rfl 4 rfl ?_
      refine XX.iadd dd_S_byteAt_65 ?_
      refine XX.tp (y := nI (tx_start br (s.rl la) + lb)) (nI_add _ _) ?_
      refine XX.callVr (Mk := m_T_at) (n := 1) (As := [.int (nI (tx_start br (s.rl la) + lb))]) (rest := []) (q0 := 1) (ci := 1) (c_T_at hc.t (i := tx_start br (s.rl la) + lb) (by omega)) mt_T_at mi_T_at ml_S_219 rfl dd_S_byteAt_66 (rfl) rfl rfl ⟨xn_le rfl, xn_le rfl⟩ ⟨xn_le rfl, xn_le rfl⟩ (xn_le rfl) rfl ?_
      refine XX.goto (tgt := 73) dd_S_byteAt_69 (by decide) ?_
      have hv : v_byteAt s a b = s.B (tx_start br (s.rl la) + lb) &&& nI 255 := by unfold v_byteAt; rw [ea, iN_nI (by omega), ← hst, ← hen, ← ea, hra, Bool.true_and, hrb, if_pos rfl, eb, iN_nI (by omega)]
      rw [hv]
      exact XX.iret dd_S_byteAt_73 rfl ⟨xn_le rfl, xn_le rfl⟩ (⟨rfl, CW.of hc⟩)
  ·
    refine XX.iconst (v := -1) dd_S_byteAt_14 (by decide) ?_
    have hv : v_byteAt s a b = -1 := by unfold v_byteAt; rw [← wi_inr (by omega), h11, Bool.false_and, if_neg (by decide)]
    rw [hv]
    exact XX.iret dd_S_byteAt_15 rfl ⟨xn_le rfl, xn_le rfl⟩ (⟨rfl, CW.of hc⟩)

