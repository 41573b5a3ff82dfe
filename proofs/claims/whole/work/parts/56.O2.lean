set_option maxRecDepth 100000 in
set_option maxHeartbeats 4000000 in
theorem c_O_comparedByKeys {G : XG} {q : Nat → Nat} {x : Nat → Int32} {n : Nat → Nat} {f : Nat → Nat → Int32} {kf : Nat → Option Nat} {kl : va_W} {len bc : Nat} {br : Nat → Nat} {B : Nat → Int32} (ht : txt x n f len bc br B) {sep all : Int32} (hx5 : x 5 = sep) {kc : Nat} {ka : Nat → Nat} {kd : Nat → Nat → Nat} {kg : Nat → Int32} (hx6 : x 6 = nI kc) (hx7 : x 7 = all) (hk : kys kc kf kl ka kd kg) {la lb : Nat} (hla : la ≤ bc) (hlb : lb ≤ bc) (hsa : tx_start br la ≤ tx_stop len bc br la) (hsb : tx_start br lb ≤ tx_stop len bc br lb) : MM G m_O_comparedByKeys (xr 3 0 0) [.ref (q 5), .int (nI la), .int (nI lb)] (wC G q x n f kf kl) (fun r w => r = some (.int (oI (oks B sep all kc kd kg (tx_start br la) (tx_stop len bc br la) (tx_start br lb) (tx_stop len bc br lb)))) ∧ ∃ x2 : Nat → Int32, w = wC G q x2 n f kf kl ∧ agN x x2) := by
  obtain ⟨hx3, hx4, hl0, hn0, hb1, hn1, hbr, hB⟩ := id ht
  have hkc := hk.1
  have hspa := tx_stop_le (fun i h => (hbr i h).2) la
  have hspb := tx_stop_le (fun i h => (hbr i h).2) lb
  refine MM.of rfl (xn_le rfl) ?_
  refine (?_ : XX G m_O_comparedByKeys (xr 3 0 0) (xx_F G (fun r w => r = some (.int (oI (oks B sep all kc kd kg (tx_start br la) (tx_stop len bc br la) (tx_start br lb) (tx_stop len bc br lb)))) ∧ ∃ x2 : Nat → Int32, w = wC G q x2 n f kf kl ∧ agN x x2) (xr 3 0 0)) 0 0 (wC G q x n f kf kl) 0 [(0, .ref (q 5)), (1, .int (nI la)), (2, .int (nI lb))] [])
  have loop : ∀ (kk k : Nat) (xx : Nat → Int32), max 1 kc - k = kk → k ≤ max 1 kc → agN x xx → okf (oky B sep all kc kd kg (tx_start br la) (tx_stop len bc br la) (tx_start br lb) (tx_stop len bc br lb)) (max 1 kc - k) k = oks B sep all kc kd kg (tx_start br la) (tx_stop len bc br la) (tx_start br lb) (tx_stop len bc br lb) → XX G m_O_comparedByKeys (xr 3 0 0) (xx_F G (fun r w => r = some (.int (oI (oks B sep all kc kd kg (tx_start br la) (tx_stop len bc br la) (tx_start br lb) (tx_stop len bc br lb)))) ∧ ∃ x2 : Nat → Int32, w = wC G q x2 n f kf kl ∧ agN x x2) (xr 3 0 0)) 0 0 (wC G q xx n f kf kl) 8 [(0, .ref (q 5)), (1, .int (nI la)), (2, .int (nI lb)), (3, .int (nI (max 1 kc))), (4, .int (nI k))] [] := by
    intro kk
    induction kk using Nat.strongRecOn with
    | _ kk ih =>
      intro k xx hkk hk1 hg hr
      have htx : txt xx n f len bc br B := txt_mv ht (hg 3 (by omega)) (hg 4 (by omega))
      have h5 : xx 5 = sep := (hg 5 (by omega)).trans hx5
      have h6 : xx 6 = nI kc := (hg 6 (by omega)).trans hx6
      have h7 : xx 7 = all := (hg 7 (by omega)).trans hx7
      have hklt : k < max 1 kc → True := fun _ => trivial
      have j126 : k < max 1 kc → ∀ x3 : Nat → Int32, agN x x3 → XX G m_O_comparedByKeys (xr 3 0 0) (xx_F G (fun r w => r = some (.int (oI (oks B sep all kc kd kg (tx_start br la) (tx_stop len bc br la) (tx_start br lb) (tx_stop len bc br lb)))) ∧ ∃ x2 : Nat → Int32, w = wC G q x2 n f kf kl ∧ agN x x2) (xr 3 0 0)) 0 0 (wC G q x3 n f kf kl) 126 [(0, .ref (q 5)), (1, .int (nI la)), (2, .int (nI lb)), (3, .int (nI (max 1 kc))), (4, .int (nI k)), (5, .ref (kuu q ka kc k)), (6, .int (ky_fl (kgu kc kg k) all)), (7, .int (nI (ky_begin B sep (ky_fl (kgu kc kg k) all) (kdu kc kd k 0) (kdu kc kd k 1) (tx_start br la) (tx_stop len bc br la)))), (8, .int (nI (ky_end B sep (ky_fl (kgu kc kg k) all) (kdu kc kd k 2) (kdu kc kd k 3) (tx_start br la) (tx_stop len bc br la)))), (9, .int (nI (ky_begin B sep (ky_fl (kgu kc kg k) all) (kdu kc kd k 0) (kdu kc kd k 1) (tx_start br lb) (tx_stop len bc br lb)))), (10, .int (nI (ky_end B sep (ky_fl (kgu kc kg k) all) (kdu kc kd k 2) (kdu kc kd k 3) (tx_start br lb) (tx_stop len bc br lb))))] [.int (oI (kc_b B sep (ky_fl (kgu kc kg k) all) (kdu kc kd k 0) (kdu kc kd k 1) (kdu kc kd k 2) (kdu kc kd k 3) (tx_start br la) (tx_stop len bc br la) (tx_start br lb) (tx_stop len bc br lb)))] := by
        intro hlt x3 hg3
        refine XX.istore (lv2 := [(11, .int (oI (kc_b B sep (ky_fl (kgu kc kg k) all) (kdu kc kd k 0) (kdu kc kd k 1) (kdu kc kd k 2) (kdu kc kd k 3) (tx_start br la) (tx_stop len bc br la) (tx_start br lb) (tx_stop len bc br lb)))), (0, .ref (q 5)), (1, .int (nI la)), (2, .int (nI lb)), (3, .int (nI (max 1 kc))), (4, .int (nI k)), (5, .ref (kuu q ka kc k)), (6, .int (ky_fl (kgu kc kg k) all)), (7, .int (nI (ky_begin B sep (ky_fl (kgu kc kg k) all) (kdu kc kd k 0) (kdu kc kd k 1) (tx_start br la) (tx_stop len bc br la)))), (8, .int (nI (ky_end B sep (ky_fl (kgu kc kg k) all) (kdu kc kd k 2) (kdu kc kd k 3) (tx_start br la) (tx_stop len bc br la)))), (9, .int (nI (ky_begin B sep (ky_fl (kgu kc kg k) all) (kdu kc kd k 0) (kdu kc kd k 1) (tx_start br lb) (tx_stop len bc br lb)))), (10, .int (nI (ky_end B sep (ky_fl (kgu kc kg k) all) (kdu kc kd k 2) (kdu kc kd k 3) (tx_start br lb) (tx_stop len bc br lb))))]) dd_O_comparedByKeys_126 (by decide) rfl ?_
        refine XX.iload dd_O_comparedByKeys_128 0 rfl ?_
        refine XX.if_eq (tgt := 150) dd_O_comparedByKeys_130 (by decide) (fun h130 => ?_) (fun h130 => ?_)
        ·
          refine XX.iinc (z := 5) (v := nI (k + 1)) (lv2 := [(4, .int (nI (k + 1))), (11, .int (oI (kc_b B sep (ky_fl (kgu kc kg k) all) (kdu kc kd k 0) (kdu kc kd k 1) (kdu kc kd k 2) (kdu kc kd k 3) (tx_start br la) (tx_stop len bc br la) (tx_start br lb) (tx_stop len bc br lb)))), (0, .ref (q 5)), (1, .int (nI la)), (2, .int (nI lb)), (3, .int (nI (max 1 kc))), (5, .ref (kuu q ka kc k)), (6, .int (ky_fl (kgu kc kg k) all)), (7, .int (nI (ky_begin B sep (ky_fl (kgu kc kg k) all) (kdu kc kd k 0) (kdu kc kd k 1) (tx_start br la) (tx_stop len bc br la)))), (8, .int (nI (ky_end B sep (ky_fl (kgu kc kg k) all) (kdu kc kd k 2) (kdu kc kd k 3) (tx_start br la) (tx_stop len bc br la)))), (9, .int (nI (ky_begin B sep (ky_fl (kgu kc kg k) all) (kdu kc kd k 0) (kdu kc kd k 1) (tx_start br lb) (tx_stop len bc br lb)))), (10, .int (nI (ky_end B sep (ky_fl (kgu kc kg k) all) (kdu kc kd k 2) (kdu kc kd k 3) (tx_start br lb) (tx_stop len bc br lb))))]) dd_O_comparedByKeys_150 rfl ((nI_succ _).symm) (by decide) rfl ?_
          refine XX.goto (tgt := 8) dd_O_comparedByKeys_153 (by decide) ?_
          refine XX.lvs [2, 3, 4, 5, 0] rfl ?_
          exact ih _ (by omega) (k + 1) x3 rfl (by omega) hg3 (by rw [← hr, okf_s hlt, oky, then_eq (kc_r0.mpr h130)])
        ·
          refine XX.iload dd_O_comparedByKeys_133 7 rfl ?_
          refine XX.bipush (v := nI 32) dd_O_comparedByKeys_135 (by decide) ?_
          refine XX.iand dd_O_comparedByKeys_137 ?_
          refine XX.if_eq (tgt := 147) dd_O_comparedByKeys_138 (by decide) (fun h138 => ?_) (fun h138 => ?_)
          ·
            refine XX.iload dd_O_comparedByKeys_147 0 rfl ?_
            refine XX.tp (y := oI (oks B sep all kc kd kg (tx_start br la) (tx_stop len bc br la) (tx_start br lb) (tx_stop len bc br lb))) (by rw [← hr, okf_s hlt, oky, then_ne (fun z => h130 (kc_r0.mp z))]; rw [kc_r, if_pos h138]) ?_
            exact XX.iret dd_O_comparedByKeys_149 rfl ⟨xn_le rfl, xn_le rfl⟩ ⟨rfl, x3, rfl, hg3⟩
          ·
            refine XX.iload dd_O_comparedByKeys_141 0 rfl ?_
            refine XX.ineg dd_O_comparedByKeys_143 ?_
            refine XX.goto (tgt := 149) dd_O_comparedByKeys_144 (by decide) ?_
            refine XX.tp (y := oI (oks B sep all kc kd kg (tx_start br la) (tx_stop len bc br la) (tx_start br lb) (tx_stop len bc br lb))) (by rw [← hr, okf_s hlt, oky, then_ne (fun z => h130 (kc_r0.mp z))]; rw [kc_r, if_neg h138, oI_neg]) ?_
            exact XX.iret dd_O_comparedByKeys_149 rfl ⟨xn_le rfl, xn_le rfl⟩ ⟨rfl, x3, rfl, hg3⟩
      refine XX.iload dd_O_comparedByKeys_8 4 rfl ?_
      refine XX.iload_n dd_O_comparedByKeys_10 rfl 3 rfl ?_
      refine XX.ncmp_ge (tgt := 156) dd_O_comparedByKeys_11 (by decide) (by omega) (by omega) (fun h11 => ?_) (fun h11 => ?_)
      ·
        refine XX.iconst (v := nI 0) dd_O_comparedByKeys_156 (by decide) ?_
        refine XX.tp (y := oI (oks B sep all kc kd kg (tx_start br la) (tx_stop len bc br la) (tx_start br lb) (tx_stop len bc br lb))) (by rw [← hr, okf_0 (by omega)]; rfl) ?_
        exact XX.iret dd_O_comparedByKeys_157 rfl ⟨xn_le rfl, xn_le rfl⟩ ⟨rfl, xx, rfl, hg⟩
      ·
        refine XX.aload_n dd_O_comparedByKeys_14 rfl 0 rfl ?_
        refine XX.iload dd_O_comparedByKeys_15 4 rfl ?_
        refine XX.callVr (Mk := m_O_keyInUse) (n := 1) (As := [.int (nI k)]) (rest := []) (q0 := 5) (ci := 3) (c_O_keyInUse h6 hk (k := k) (by omega)) mt_O_keyInUse mi_O_keyInUse ml_O_85 rfl dd_O_comparedByKeys_17 (rfl) rfl rfl ⟨xn_le rfl, xn_le rfl⟩ ⟨xn_le rfl, xn_le rfl⟩ (xn_le rfl) rfl ?_
        obtain ⟨kp, he, e0, e0b, e1, e1b, e2, e3⟩ := ky_cell (G := G) (q := q) (x := xx) (n := n) (f := f) hk k
        refine XX.astore (lv2 := [(5, .ref (kuu q ka kc k)), (0, .ref (q 5)), (1, .int (nI la)), (2, .int (nI lb)), (3, .int (nI (max 1 kc))), (4, .int (nI k))]) dd_O_comparedByKeys_20 (by decide) rfl ?_
        refine XX.aload_n dd_O_comparedByKeys_22 rfl 1 rfl ?_
        refine XX.aload dd_O_comparedByKeys_23 0 rfl ?_
        refine XX.callVr (Mk := m_O_flagsOf) (n := 1) (As := [.ref (kuu q ka kc k)]) (rest := []) (q0 := 5) (ci := 3) (c_O_flagsOf he h7) mt_O_flagsOf mi_O_flagsOf ml_O_89 rfl dd_O_comparedByKeys_25 (rfl) rfl rfl ⟨xn_le rfl, xn_le rfl⟩ ⟨xn_le rfl, xn_le rfl⟩ (xn_le rfl) rfl ?_
        refine XX.istore (lv2 := [(6, .int (ky_fl (kgu kc kg k) all)), (5, .ref (kuu q ka kc k)), (0, .ref (q 5)), (1, .int (nI la)), (2, .int (nI lb)), (3, .int (nI (max 1 kc))), (4, .int (nI k))]) dd_O_comparedByKeys_28 (by decide) rfl ?_
        refine XX.aload_n dd_O_comparedByKeys_30 rfl 2 rfl ?_
        refine XX.get (q0 := 5) (v := .ref (q 4)) fl_O_15 dd_O_comparedByKeys_31 rfl rfl ?_
        refine XX.aload dd_O_comparedByKeys_34 1 rfl ?_
        refine XX.iload dd_O_comparedByKeys_36 0 rfl ?_
        refine XX.iload_n dd_O_comparedByKeys_38 rfl 3 rfl ?_
        refine XX.callVr (Mk := m_P_beginOf) (n := 3) (As := [.ref (kuu q ka kc k), .int (ky_fl (kgu kc kg k) all), .int (nI la)]) (rest := []) (q0 := 4) (ci := 2) (c_P_beginOf (x := xx) htx h5 he (fl := ky_fl (kgu kc kg k) all) (l := la) hla hsa e0 e0b e1 e1b e2 e3) mt_P_beginOf mi_P_beginOf ml_O_93 rfl dd_O_comparedByKeys_39 (rfl) rfl rfl ⟨xn_le rfl, xn_le rfl⟩ ⟨xn_le rfl, xn_le rfl⟩ (xn_le rfl) rfl ?_
        refine XX.istore (lv2 := [(7, .int (nI (ky_begin B sep (ky_fl (kgu kc kg k) all) (kdu kc kd k 0) (kdu kc kd k 1) (tx_start br la) (tx_stop len bc br la)))), (6, .int (ky_fl (kgu kc kg k) all)), (5, .ref (kuu q ka kc k)), (0, .ref (q 5)), (1, .int (nI la)), (2, .int (nI lb)), (3, .int (nI (max 1 kc))), (4, .int (nI k))]) dd_O_comparedByKeys_42 (by decide) rfl ?_
        refine XX.aload_n dd_O_comparedByKeys_44 rfl 3 rfl ?_
        refine XX.get (q0 := 5) (v := .ref (q 4)) fl_O_15 dd_O_comparedByKeys_45 rfl rfl ?_
        refine XX.aload dd_O_comparedByKeys_48 2 rfl ?_
        refine XX.iload dd_O_comparedByKeys_50 1 rfl ?_
        refine XX.iload_n dd_O_comparedByKeys_52 rfl 4 rfl ?_
        refine XX.callVr (Mk := m_P_endOf) (n := 3) (As := [.ref (kuu q ka kc k), .int (ky_fl (kgu kc kg k) all), .int (nI la)]) (rest := []) (q0 := 4) (ci := 2) (c_P_endOf (x := xx) htx h5 he (fl := ky_fl (kgu kc kg k) all) (l := la) hla hsa e0 e0b e1 e1b e2 e3) mt_P_endOf mi_P_endOf ml_O_99 rfl dd_O_comparedByKeys_53 (rfl) rfl rfl ⟨xn_le rfl, xn_le rfl⟩ ⟨xn_le rfl, xn_le rfl⟩ (xn_le rfl) rfl ?_
        refine XX.istore (lv2 := [(8, .int (nI (ky_end B sep (ky_fl (kgu kc kg k) all) (kdu kc kd k 2) (kdu kc kd k 3) (tx_start br la) (tx_stop len bc br la)))), (7, .int (nI (ky_begin B sep (ky_fl (kgu kc kg k) all) (kdu kc kd k 0) (kdu kc kd k 1) (tx_start br la) (tx_stop len bc br la)))), (6, .int (ky_fl (kgu kc kg k) all)), (5, .ref (kuu q ka kc k)), (0, .ref (q 5)), (1, .int (nI la)), (2, .int (nI lb)), (3, .int (nI (max 1 kc))), (4, .int (nI k))]) dd_O_comparedByKeys_56 (by decide) rfl ?_
        refine XX.aload_n dd_O_comparedByKeys_58 rfl 4 rfl ?_
        refine XX.get (q0 := 5) (v := .ref (q 4)) fl_O_15 dd_O_comparedByKeys_59 rfl rfl ?_
        refine XX.aload dd_O_comparedByKeys_62 3 rfl ?_
        refine XX.iload dd_O_comparedByKeys_64 2 rfl ?_
        refine XX.iload_n dd_O_comparedByKeys_66 rfl 6 rfl ?_
        refine XX.callVr (Mk := m_P_beginOf) (n := 3) (As := [.ref (kuu q ka kc k), .int (ky_fl (kgu kc kg k) all), .int (nI lb)]) (rest := []) (q0 := 4) (ci := 2) (c_P_beginOf (x := xx) htx h5 he (fl := ky_fl (kgu kc kg k) all) (l := lb) hlb hsb e0 e0b e1 e1b e2 e3) mt_P_beginOf mi_P_beginOf ml_O_93 rfl dd_O_comparedByKeys_67 (rfl) rfl rfl ⟨xn_le rfl, xn_le rfl⟩ ⟨xn_le rfl, xn_le rfl⟩ (xn_le rfl) rfl ?_
        refine XX.istore (lv2 := [(9, .int (nI (ky_begin B sep (ky_fl (kgu kc kg k) all) (kdu kc kd k 0) (kdu kc kd k 1) (tx_start br lb) (tx_stop len bc br lb)))), (8, .int (nI (ky_end B sep (ky_fl (kgu kc kg k) all) (kdu kc kd k 2) (kdu kc kd k 3) (tx_start br la) (tx_stop len bc br la)))), (7, .int (nI (ky_begin B sep (ky_fl (kgu kc kg k) all) (kdu kc kd k 0) (kdu kc kd k 1) (tx_start br la) (tx_stop len bc br la)))), (6, .int (ky_fl (kgu kc kg k) all)), (5, .ref (kuu q ka kc k)), (0, .ref (q 5)), (1, .int (nI la)), (2, .int (nI lb)), (3, .int (nI (max 1 kc))), (4, .int (nI k))]) dd_O_comparedByKeys_70 (by decide) rfl ?_
        refine XX.aload_n dd_O_comparedByKeys_72 rfl 5 rfl ?_
        refine XX.get (q0 := 5) (v := .ref (q 4)) fl_O_15 dd_O_comparedByKeys_73 rfl rfl ?_
        refine XX.aload dd_O_comparedByKeys_76 4 rfl ?_
        refine XX.iload dd_O_comparedByKeys_78 3 rfl ?_
        refine XX.iload_n dd_O_comparedByKeys_80 rfl 7 rfl ?_
        refine XX.callVr (Mk := m_P_endOf) (n := 3) (As := [.ref (kuu q ka kc k), .int (ky_fl (kgu kc kg k) all), .int (nI lb)]) (rest := []) (q0 := 4) (ci := 2) (c_P_endOf (x := xx) htx h5 he (fl := ky_fl (kgu kc kg k) all) (l := lb) hlb hsb e0 e0b e1 e1b e2 e3) mt_P_endOf mi_P_endOf ml_O_99 rfl dd_O_comparedByKeys_81 (rfl) rfl rfl ⟨xn_le rfl, xn_le rfl⟩ ⟨xn_le rfl, xn_le rfl⟩ (xn_le rfl) rfl ?_
        refine XX.istore (lv2 := [(10, .int (nI (ky_end B sep (ky_fl (kgu kc kg k) all) (kdu kc kd k 2) (kdu kc kd k 3) (tx_start br lb) (tx_stop len bc br lb)))), (9, .int (nI (ky_begin B sep (ky_fl (kgu kc kg k) all) (kdu kc kd k 0) (kdu kc kd k 1) (tx_start br lb) (tx_stop len bc br lb)))), (8, .int (nI (ky_end B sep (ky_fl (kgu kc kg k) all) (kdu kc kd k 2) (kdu kc kd k 3) (tx_start br la) (tx_stop len bc br la)))), (7, .int (nI (ky_begin B sep (ky_fl (kgu kc kg k) all) (kdu kc kd k 0) (kdu kc kd k 1) (tx_start br la) (tx_stop len bc br la)))), (6, .int (ky_fl (kgu kc kg k) all)), (5, .ref (kuu q ka kc k)), (0, .ref (q 5)), (1, .int (nI la)), (2, .int (nI lb)), (3, .int (nI (max 1 kc))), (4, .int (nI k))]) dd_O_comparedByKeys_84 (by decide) rfl ?_
        have w0 : ky_begin B sep (ky_fl (kgu kc kg k) all) (kdu kc kd k 0) (kdu kc kd k 1) (tx_start br la) (tx_stop len bc br la) ≤ tx_stop len bc br la := ky_begin_le
        have w1 : ky_begin B sep (ky_fl (kgu kc kg k) all) (kdu kc kd k 0) (kdu kc kd k 1) (tx_start br lb) (tx_stop len bc br lb) ≤ tx_stop len bc br lb := ky_begin_le
        have w2 : ky_end B sep (ky_fl (kgu kc kg k) all) (kdu kc kd k 2) (kdu kc kd k 3) (tx_start br la) (tx_stop len bc br la) ≤ tx_stop len bc br la := ky_end_le hsa
        have w3 : ky_end B sep (ky_fl (kgu kc kg k) all) (kdu kc kd k 2) (kdu kc kd k 3) (tx_start br lb) (tx_stop len bc br lb) ≤ tx_stop len bc br lb := ky_end_le hsb
        refine XX.iload dd_O_comparedByKeys_86 4 rfl ?_
        refine XX.bipush (v := nI 16) dd_O_comparedByKeys_88 (by decide) ?_
        refine XX.iand dd_O_comparedByKeys_90 ?_
        refine XX.if_eq (tgt := 109) dd_O_comparedByKeys_91 (by decide) (fun h91 => ?_) (fun h91 => ?_)
        ·
          refine XX.aload_n dd_O_comparedByKeys_109 rfl 6 rfl ?_
          refine XX.get (q0 := 5) (v := .ref (q 1)) fl_O_9 dd_O_comparedByKeys_110 rfl rfl ?_
          refine XX.iload dd_O_comparedByKeys_113 3 rfl ?_
          refine XX.iload dd_O_comparedByKeys_115 2 rfl ?_
          refine XX.iload dd_O_comparedByKeys_117 1 rfl ?_
          refine XX.iload dd_O_comparedByKeys_119 0 rfl ?_
          refine XX.iload dd_O_comparedByKeys_121 4 rfl ?_
          refine XX.callVr (Mk := m_T_comparedBytes) (n := 5) (As := [.int (nI (ky_begin B sep (ky_fl (kgu kc kg k) all) (kdu kc kd k 0) (kdu kc kd k 1) (tx_start br la) (tx_stop len bc br la))), .int (nI (ky_end B sep (ky_fl (kgu kc kg k) all) (kdu kc kd k 2) (kdu kc kd k 3) (tx_start br la) (tx_stop len bc br la))), .int (nI (ky_begin B sep (ky_fl (kgu kc kg k) all) (kdu kc kd k 0) (kdu kc kd k 1) (tx_start br lb) (tx_stop len bc br lb))), .int (nI (ky_end B sep (ky_fl (kgu kc kg k) all) (kdu kc kd k 2) (kdu kc kd k 3) (tx_start br lb) (tx_stop len bc br lb))), .int (ky_fl (kgu kc kg k) all)]) (rest := []) (q0 := 1) (ci := 1) (c_T_comparedBytes htx (a := ky_begin B sep (ky_fl (kgu kc kg k) all) (kdu kc kd k 0) (kdu kc kd k 1) (tx_start br la) (tx_stop len bc br la)) (a2 := ky_end B sep (ky_fl (kgu kc kg k) all) (kdu kc kd k 2) (kdu kc kd k 3) (tx_start br la) (tx_stop len bc br la)) (b := ky_begin B sep (ky_fl (kgu kc kg k) all) (kdu kc kd k 0) (kdu kc kd k 1) (tx_start br lb) (tx_stop len bc br lb)) (b2 := ky_end B sep (ky_fl (kgu kc kg k) all) (kdu kc kd k 2) (kdu kc kd k 3) (tx_start br lb) (tx_stop len bc br lb)) (fl := ky_fl (kgu kc kg k) all) (by omega) (by omega) (by omega) (by omega)) mt_T_comparedBytes mi_T_comparedBytes ml_O_77 rfl dd_O_comparedByKeys_123 (rfl) rfl rfl ⟨xn_le rfl, xn_le rfl⟩ ⟨xn_le rfl, xn_le rfl⟩ (xn_le rfl) rfl ?_
          refine XX.tp (y := oI (kc_b B sep (ky_fl (kgu kc kg k) all) (kdu kc kd k 0) (kdu kc kd k 1) (kdu kc kd k 2) (kdu kc kd k 3) (tx_start br la) (tx_stop len bc br la) (tx_start br lb) (tx_stop len bc br lb))) (by rw [kc_b, if_pos h91]) ?_
          refine XX.lvs [6, 7, 8, 9, 10, 5, 4, 3, 2, 1, 0] rfl ?_
          exact j126 (by omega) xx hg
        ·
          refine XX.aload_n dd_O_comparedByKeys_94 rfl 6 rfl ?_
          refine XX.iload dd_O_comparedByKeys_95 3 rfl ?_
          refine XX.iload dd_O_comparedByKeys_97 2 rfl ?_
          refine XX.iload dd_O_comparedByKeys_99 1 rfl ?_
          refine XX.iload dd_O_comparedByKeys_101 0 rfl ?_
          refine XX.callV (Mk := m_O_comparedAsNumbers) (n := 4) (As := [.int (nI (ky_begin B sep (ky_fl (kgu kc kg k) all) (kdu kc kd k 0) (kdu kc kd k 1) (tx_start br la) (tx_stop len bc br la))), .int (nI (ky_end B sep (ky_fl (kgu kc kg k) all) (kdu kc kd k 2) (kdu kc kd k 3) (tx_start br la) (tx_stop len bc br la))), .int (nI (ky_begin B sep (ky_fl (kgu kc kg k) all) (kdu kc kd k 0) (kdu kc kd k 1) (tx_start br lb) (tx_stop len bc br lb))), .int (nI (ky_end B sep (ky_fl (kgu kc kg k) all) (kdu kc kd k 2) (kdu kc kd k 3) (tx_start br lb) (tx_stop len bc br lb)))]) (rest := []) (q0 := 5) (ci := 3) (c_O_comparedAsNumbers htx (a1 := ky_begin B sep (ky_fl (kgu kc kg k) all) (kdu kc kd k 0) (kdu kc kd k 1) (tx_start br la) (tx_stop len bc br la)) (a2 := ky_end B sep (ky_fl (kgu kc kg k) all) (kdu kc kd k 2) (kdu kc kd k 3) (tx_start br la) (tx_stop len bc br la)) (b1 := ky_begin B sep (ky_fl (kgu kc kg k) all) (kdu kc kd k 0) (kdu kc kd k 1) (tx_start br lb) (tx_stop len bc br lb)) (b2 := ky_end B sep (ky_fl (kgu kc kg k) all) (kdu kc kd k 2) (kdu kc kd k 3) (tx_start br lb) (tx_stop len bc br lb)) (by omega) (by omega) (by omega) (by omega)) mt_O_comparedAsNumbers mi_O_comparedAsNumbers ml_O_102 rfl dd_O_comparedByKeys_103 (rfl) rfl rfl ⟨xn_le rfl, xn_le rfl⟩ ⟨xn_le rfl, xn_le rfl⟩ (xn_le rfl) rfl (fun r1 w1 hp1 => ?_)
          obtain ⟨rfl, x3, rfl, hf3⟩ := hp1
          have hag3 : agN x x3 := fun i h => (hf3 i h).trans (hg i h)
          refine (?_ : XX G m_O_comparedByKeys (xr 3 0 0) (xx_F G (fun r w => r = some (.int (oI (oks B sep all kc kd kg (tx_start br la) (tx_stop len bc br la) (tx_start br lb) (tx_stop len bc br lb)))) ∧ ∃ x2 : Nat → Int32, w = wC G q x2 n f kf kl ∧ agN x x2) (xr 3 0 0)) 0 0 (wC G q x3 n f kf kl) 106 [(10, .int (nI (ky_end B sep (ky_fl (kgu kc kg k) all) (kdu kc kd k 2) (kdu kc kd k 3) (tx_start br lb) (tx_stop len bc br lb)))), (9, .int (nI (ky_begin B sep (ky_fl (kgu kc kg k) all) (kdu kc kd k 0) (kdu kc kd k 1) (tx_start br lb) (tx_stop len bc br lb)))), (8, .int (nI (ky_end B sep (ky_fl (kgu kc kg k) all) (kdu kc kd k 2) (kdu kc kd k 3) (tx_start br la) (tx_stop len bc br la)))), (7, .int (nI (ky_begin B sep (ky_fl (kgu kc kg k) all) (kdu kc kd k 0) (kdu kc kd k 1) (tx_start br la) (tx_stop len bc br la)))), (6, .int (ky_fl (kgu kc kg k) all)), (5, .ref (kuu q ka kc k)), (0, .ref (q 5)), (1, .int (nI la)), (2, .int (nI lb)), (3, .int (nI (max 1 kc))), (4, .int (nI k))] [.int (oI (nc B (ky_begin B sep (ky_fl (kgu kc kg k) all) (kdu kc kd k 0) (kdu kc kd k 1) (tx_start br la) (tx_stop len bc br la)) (ky_end B sep (ky_fl (kgu kc kg k) all) (kdu kc kd k 2) (kdu kc kd k 3) (tx_start br la) (tx_stop len bc br la)) (ky_begin B sep (ky_fl (kgu kc kg k) all) (kdu kc kd k 0) (kdu kc kd k 1) (tx_start br lb) (tx_stop len bc br lb)) (ky_end B sep (ky_fl (kgu kc kg k) all) (kdu kc kd k 2) (kdu kc kd k 3) (tx_start br lb) (tx_stop len bc br lb))))])
          refine XX.goto (tgt := 126) dd_O_comparedByKeys_106 (by decide) ?_
          refine XX.tp (y := oI (kc_b B sep (ky_fl (kgu kc kg k) all) (kdu kc kd k 0) (kdu kc kd k 1) (kdu kc kd k 2) (kdu kc kd k 3) (tx_start br la) (tx_stop len bc br la) (tx_start br lb) (tx_stop len bc br lb))) (by rw [kc_b, if_neg h91]) ?_
          refine XX.lvs [6, 7, 8, 9, 10, 5, 4, 3, 2, 1, 0] rfl ?_
          exact j126 (by omega) x3 hag3
  refine XX.aload_n dd_O_comparedByKeys_0 rfl 0 rfl ?_
  refine XX.callVr (Mk := m_O_keysInUse) (n := 0) (As := []) (rest := []) (q0 := 5) (ci := 3) (c_O_keysInUse hx6 hkc) mt_O_keysInUse mi_O_keysInUse ml_O_81 rfl dd_O_comparedByKeys_1 (rfl) rfl rfl ⟨xn_le rfl, xn_le rfl⟩ ⟨xn_le rfl, xn_le rfl⟩ (xn_le rfl) rfl ?_
  refine XX.istore_n (lv2 := [(3, .int (nI (max 1 kc))), (0, .ref (q 5)), (1, .int (nI la)), (2, .int (nI lb))]) dd_O_comparedByKeys_4 rfl (by decide) rfl ?_
  refine XX.iconst (v := nI 0) dd_O_comparedByKeys_5 (by decide) ?_
  refine XX.istore (lv2 := [(4, .int (nI 0)), (3, .int (nI (max 1 kc))), (0, .ref (q 5)), (1, .int (nI la)), (2, .int (nI lb))]) dd_O_comparedByKeys_6 (by decide) rfl ?_
  refine XX.lvs [2, 3, 4, 1, 0] rfl ?_
  exact loop _ 0 x rfl (by omega) (fun _ _ => rfl) rfl

set_option maxRecDepth 100000 in
set_option maxHeartbeats 4000000 in
theorem c_O_comparedNumbersAside {G : XG} {q : Nat → Nat} {x : Nat → Int32} {n : Nat → Nat} {f : Nat → Nat → Int32} {kf : Nat → Option Nat} {kl : va_W} {len bc : Nat} {br : Nat → Nat} {B : Nat → Int32} (ht : txt x n f len bc br B) {sep all : Int32} (hx5 : x 5 = sep) {kc : Nat} {ka : Nat → Nat} {kd : Nat → Nat → Nat} {kg : Nat → Int32} (hx6 : x 6 = nI kc) (hx7 : x 7 = all) (hk : kys kc kf kl ka kd kg) {bs bo : Bool} (hx8 : x 8 = bI bs) (hx9 : x 9 = bI bo) {la lb : Nat} (hla : la ≤ bc) (hlb : lb ≤ bc) (hsa : tx_start br la ≤ tx_stop len bc br la) (hsb : tx_start br lb ≤ tx_stop len bc br lb) : MM G m_O_comparedNumbersAside (xr 4 0 0) [.ref (q 5), .int (nI la), .int (nI lb)] (wC G q x n f kf kl) (fun r w => r = some (.int (oI (oal B sep all kc kd kg bs bo (tx_start br la) (tx_stop len bc br la) (tx_start br lb) (tx_stop len bc br lb)))) ∧ ∃ x2 : Nat → Int32, w = wC G q x2 n f kf kl ∧ agN x x2) := by
  obtain ⟨hx3, hx4, hl0, hn0, hb1, hn1, hbr, hB⟩ := id ht
  have hspa := tx_stop_le (fun i h => (hbr i h).2) la
  have hspb := tx_stop_le (fun i h => (hbr i h).2) lb
  refine MM.of rfl (xn_le rfl) ?_
  refine (?_ : XX G m_O_comparedNumbersAside (xr 4 0 0) (xx_F G (fun r w => r = some (.int (oI (oal B sep all kc kd kg bs bo (tx_start br la) (tx_stop len bc br la) (tx_start br lb) (tx_stop len bc br lb)))) ∧ ∃ x2 : Nat → Int32, w = wC G q x2 n f kf kl ∧ agN x x2) (xr 4 0 0)) 0 0 (wC G q x n f kf kl) 0 [(0, .ref (q 5)), (1, .int (nI la)), (2, .int (nI lb))] [])
  refine XX.aload_n dd_O_comparedNumbersAside_0 rfl 0 rfl ?_
  refine XX.iload_n dd_O_comparedNumbersAside_1 rfl 1 rfl ?_
  refine XX.iload_n dd_O_comparedNumbersAside_2 rfl 2 rfl ?_
  refine XX.callV (Mk := m_O_comparedByKeys) (n := 2) (As := [.int (nI la), .int (nI lb)]) (rest := []) (q0 := 5) (ci := 3) (c_O_comparedByKeys ht hx5 hx6 hx7 hk (la := la) (lb := lb) hla hlb hsa hsb) mt_O_comparedByKeys mi_O_comparedByKeys ml_O_65 rfl dd_O_comparedNumbersAside_3 (rfl) rfl rfl ⟨xn_le rfl, xn_le rfl⟩ ⟨xn_le rfl, xn_le rfl⟩ (xn_le rfl) rfl (fun r1 w1 hp1 => ?_)
  obtain ⟨rfl, x2, rfl, hg⟩ := hp1
  have ht2 : txt x2 n f len bc br B := txt_mv ht (hg 3 (by omega)) (hg 4 (by omega))
  have g7 : x2 7 = all := (hg 7 (by omega)).trans hx7
  have g8 : x2 8 = bI bs := (hg 8 (by omega)).trans hx8
  have g9 : x2 9 = bI bo := (hg 9 (by omega)).trans hx9
  refine (?_ : XX G m_O_comparedNumbersAside (xr 4 0 0) (xx_F G (fun r w => r = some (.int (oI (oal B sep all kc kd kg bs bo (tx_start br la) (tx_stop len bc br la) (tx_start br lb) (tx_stop len bc br lb)))) ∧ ∃ x2 : Nat → Int32, w = wC G q x2 n f kf kl ∧ agN x x2) (xr 4 0 0)) 0 0 (wC G q x2 n f kf kl) 6 [(0, .ref (q 5)), (1, .int (nI la)), (2, .int (nI lb))] [.int (oI (oks B sep all kc kd kg (tx_start br la) (tx_stop len bc br la) (tx_start br lb) (tx_stop len bc br lb)))])
  refine XX.istore_n (lv2 := [(3, .int (oI (oks B sep all kc kd kg (tx_start br la) (tx_stop len bc br la) (tx_start br lb) (tx_stop len bc br lb)))), (0, .ref (q 5)), (1, .int (nI la)), (2, .int (nI lb))]) dd_O_comparedNumbersAside_6 rfl (by decide) rfl ?_
  refine XX.iload_n dd_O_comparedNumbersAside_7 rfl 0 rfl ?_
  refine XX.if_ne (tgt := 25) dd_O_comparedNumbersAside_8 (by decide) (fun h8 => ?_) (fun h8 => ?_)
  ·
    refine XX.iload_n dd_O_comparedNumbersAside_25 rfl 0 rfl ?_
    refine XX.tp (y := oI (oal B sep all kc kd kg bs bo (tx_start br la) (tx_stop len bc br la) (tx_start br lb) (tx_stop len bc br lb))) (by rw [oal, if_pos (by simp [h8])]) ?_
    exact XX.iret dd_O_comparedNumbersAside_26 rfl ⟨xn_le rfl, xn_le rfl⟩ ⟨rfl, x2, rfl, hg⟩
  ·
    refine XX.aload_n dd_O_comparedNumbersAside_11 rfl 1 rfl ?_
    refine XX.get (q0 := 5) (v := .int (x2 8)) fl_O_49 dd_O_comparedNumbersAside_12 rfl rfl ?_
    refine XX.tp (y := bI bs) (g8) ?_
    refine XX.bif_ne (tgt := 25) dd_O_comparedNumbersAside_15 (by decide) (fun h15 => ?_) (fun h15 => ?_)
    ·
      refine XX.iload_n dd_O_comparedNumbersAside_25 rfl 0 rfl ?_
      refine XX.tp (y := oI (oal B sep all kc kd kg bs bo (tx_start br la) (tx_stop len bc br la) (tx_start br lb) (tx_stop len bc br lb))) (by rw [oal, if_pos (by simp [h8, h15])]) ?_
      exact XX.iret dd_O_comparedNumbersAside_26 rfl ⟨xn_le rfl, xn_le rfl⟩ ⟨rfl, x2, rfl, hg⟩
    ·
      refine XX.aload_n dd_O_comparedNumbersAside_18 rfl 1 rfl ?_
      refine XX.get (q0 := 5) (v := .int (x2 9)) fl_O_53 dd_O_comparedNumbersAside_19 rfl rfl ?_
      refine XX.tp (y := bI bo) (g9) ?_
      refine XX.bif_eq (tgt := 27) dd_O_comparedNumbersAside_22 (by decide) (fun h22 => ?_) (fun h22 => ?_)
      ·
        refine XX.aload_n dd_O_comparedNumbersAside_27 rfl 1 rfl ?_
        refine XX.get (q0 := 5) (v := .ref (q 1)) fl_O_9 dd_O_comparedNumbersAside_28 rfl rfl ?_
        refine XX.aload_n dd_O_comparedNumbersAside_31 rfl 1 rfl ?_
        refine XX.get (q0 := 5) (v := .ref (q 1)) fl_O_9 dd_O_comparedNumbersAside_32 rfl rfl ?_
        refine XX.iload_n dd_O_comparedNumbersAside_35 rfl 2 rfl ?_
        refine XX.callVr (Mk := m_T_startOf) (n := 1) (As := [.int (nI la)]) (rest := [.ref (q 1)]) (q0 := 1) (ci := 1) (c_T_startOf ht2 (l := la) (by omega)) mt_T_startOf mi_T_startOf ml_O_68 rfl dd_O_comparedNumbersAside_36 (rfl) rfl rfl ⟨xn_le rfl, xn_le rfl⟩ ⟨xn_le rfl, xn_le rfl⟩ (xn_le rfl) rfl ?_
        refine XX.aload_n dd_O_comparedNumbersAside_39 rfl 1 rfl ?_
        refine XX.get (q0 := 5) (v := .ref (q 1)) fl_O_9 dd_O_comparedNumbersAside_40 rfl rfl ?_
        refine XX.iload_n dd_O_comparedNumbersAside_43 rfl 2 rfl ?_
        refine XX.callVr (Mk := m_T_stopOf) (n := 1) (As := [.int (nI la)]) (rest := [.int (nI (tx_start br la)), .ref (q 1)]) (q0 := 1) (ci := 1) (c_T_stopOf ht2 (l := la) (by omega)) mt_T_stopOf mi_T_stopOf ml_O_74 rfl dd_O_comparedNumbersAside_44 (rfl) rfl rfl ⟨xn_le rfl, xn_le rfl⟩ ⟨xn_le rfl, xn_le rfl⟩ (xn_le rfl) rfl ?_
        refine XX.aload_n dd_O_comparedNumbersAside_47 rfl 1 rfl ?_
        refine XX.get (q0 := 5) (v := .ref (q 1)) fl_O_9 dd_O_comparedNumbersAside_48 rfl rfl ?_
        refine XX.iload_n dd_O_comparedNumbersAside_51 rfl 3 rfl ?_
        refine XX.callVr (Mk := m_T_startOf) (n := 1) (As := [.int (nI lb)]) (rest := [.int (nI (tx_stop len bc br la)), .int (nI (tx_start br la)), .ref (q 1)]) (q0 := 1) (ci := 1) (c_T_startOf ht2 (l := lb) (by omega)) mt_T_startOf mi_T_startOf ml_O_68 rfl dd_O_comparedNumbersAside_52 (rfl) rfl rfl ⟨xn_le rfl, xn_le rfl⟩ ⟨xn_le rfl, xn_le rfl⟩ (xn_le rfl) rfl ?_
        refine XX.aload_n dd_O_comparedNumbersAside_55 rfl 1 rfl ?_
        refine XX.get (q0 := 5) (v := .ref (q 1)) fl_O_9 dd_O_comparedNumbersAside_56 rfl rfl ?_
        refine XX.iload_n dd_O_comparedNumbersAside_59 rfl 3 rfl ?_
        refine XX.callVr (Mk := m_T_stopOf) (n := 1) (As := [.int (nI lb)]) (rest := [.int (nI (tx_start br lb)), .int (nI (tx_stop len bc br la)), .int (nI (tx_start br la)), .ref (q 1)]) (q0 := 1) (ci := 1) (c_T_stopOf ht2 (l := lb) (by omega)) mt_T_stopOf mi_T_stopOf ml_O_74 rfl dd_O_comparedNumbersAside_60 (rfl) rfl rfl ⟨xn_le rfl, xn_le rfl⟩ ⟨xn_le rfl, xn_le rfl⟩ (xn_le rfl) rfl ?_
        refine XX.iconst (v := nI 0) dd_O_comparedNumbersAside_63 (by decide) ?_
        refine XX.callVr (Mk := m_T_comparedBytes) (n := 5) (As := [.int (nI (tx_start br la)), .int (nI (tx_stop len bc br la)), .int (nI (tx_start br lb)), .int (nI (tx_stop len bc br lb)), .int (nI 0)]) (rest := []) (q0 := 1) (ci := 1) (c_T_comparedBytes ht2 (a := tx_start br la) (a2 := tx_stop len bc br la) (b := tx_start br lb) (b2 := tx_stop len bc br lb) (fl := nI 0) (by omega) (by omega) (by omega) (by omega)) mt_T_comparedBytes mi_T_comparedBytes ml_O_77 rfl dd_O_comparedNumbersAside_64 (rfl) rfl rfl ⟨xn_le rfl, xn_le rfl⟩ ⟨xn_le rfl, xn_le rfl⟩ (xn_le rfl) rfl ?_
        refine XX.istore (lv2 := [(4, .int (oI (lx (wb B (nI 0) (tx_start br la) (tx_stop len bc br la)) (wb B (nI 0) (tx_start br lb) (tx_stop len bc br lb))))), (3, .int (oI (oks B sep all kc kd kg (tx_start br la) (tx_stop len bc br la) (tx_start br lb) (tx_stop len bc br lb)))), (0, .ref (q 5)), (1, .int (nI la)), (2, .int (nI lb))]) dd_O_comparedNumbersAside_67 (by decide) rfl ?_
        refine XX.aload_n dd_O_comparedNumbersAside_69 rfl 2 rfl ?_
        refine XX.get (q0 := 5) (v := .int (x2 7)) fl_O_46 dd_O_comparedNumbersAside_70 rfl rfl ?_
        refine XX.tp (y := all) (g7) ?_
        refine XX.bipush (v := nI 32) dd_O_comparedNumbersAside_73 (by decide) ?_
        refine XX.iand dd_O_comparedNumbersAside_75 ?_
        refine XX.if_eq (tgt := 85) dd_O_comparedNumbersAside_76 (by decide) (fun h76 => ?_) (fun h76 => ?_)
        ·
          refine XX.iload dd_O_comparedNumbersAside_85 0 rfl ?_
          refine XX.tp (y := oI (oal B sep all kc kd kg bs bo (tx_start br la) (tx_stop len bc br la) (tx_start br lb) (tx_stop len bc br lb))) (by rw [oal, if_neg (by simp [h8, h15, h22])]; rw [kc_r, if_pos h76]) ?_
          exact XX.iret dd_O_comparedNumbersAside_87 rfl ⟨xn_le rfl, xn_le rfl⟩ ⟨rfl, x2, rfl, hg⟩
        ·
          refine XX.iload dd_O_comparedNumbersAside_79 0 rfl ?_
          refine XX.ineg dd_O_comparedNumbersAside_81 ?_
          refine XX.goto (tgt := 87) dd_O_comparedNumbersAside_82 (by decide) ?_
          refine XX.tp (y := oI (oal B sep all kc kd kg bs bo (tx_start br la) (tx_stop len bc br la) (tx_start br lb) (tx_stop len bc br lb))) (by rw [oal, if_neg (by simp [h8, h15, h22])]; rw [kc_r, if_neg h76, oI_neg]) ?_
          exact XX.iret dd_O_comparedNumbersAside_87 rfl ⟨xn_le rfl, xn_le rfl⟩ ⟨rfl, x2, rfl, hg⟩
      ·
        refine XX.iload_n dd_O_comparedNumbersAside_25 rfl 0 rfl ?_
        refine XX.tp (y := oI (oal B sep all kc kd kg bs bo (tx_start br la) (tx_stop len bc br la) (tx_start br lb) (tx_stop len bc br lb))) (by rw [oal, if_pos (by simp [h8, h15, h22])]) ?_
        exact XX.iret dd_O_comparedNumbersAside_26 rfl ⟨xn_le rfl, xn_le rfl⟩ ⟨rfl, x2, rfl, hg⟩

