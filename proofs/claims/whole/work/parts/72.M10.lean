set_option maxRecDepth 100000 in
set_option maxHeartbeats 4000000 in
theorem c_M_byteAt {G : XG} {q : Nat → Nat} {x : Nat → Int32} {f : Nat → Nat → Int32} {kl : va_W} {s : SS} (hm : MI s x f) {a b : Int32} : MM G m_M_byteAt (xr 1 0 0) [.ref (q 0), .int a, .int b] (wM G q x f kl) (MQI G q kl (sel (0) (s) s) (0) (v_byteAt s a b)) := by
  have hlen := hm.g.len
  have hkc := hm.g.kc
  have hrc := hm.g.rc
  have hun := hm.g.un
  have hlc : lnc s.B s.len ≤ s.len := lnc_le
  refine MM.of rfl (xn_le rfl) ?_
  refine (?_ : XX G m_M_byteAt (xr 1 0 0) (xx_F G (MQI G q kl (sel (0) (s) s) (0) (v_byteAt s a b)) (xr 1 0 0)) 0 0 (wM G q x f kl) 0 [(0, .ref (q 0)), (1, .int a), (2, .int b)] [])
  refine XX.aload_n dd_M_byteAt_0 rfl 0 rfl ?_
  refine XX.iconst (v := nI 0) dd_M_byteAt_1 (by decide) ?_
  refine XX.put (q0 := 0) (ws2 := wM G q (upd x 19 (nI 0)) f kl) fp_M_57 dd_M_byteAt_2 rfl rfl rfl (xn_le rfl) rfl ?_
  refine XX.iload_n dd_M_byteAt_5 rfl 1 rfl ?_
  refine XX.if_lt (tgt := 21) dd_M_byteAt_6 (by decide) (fun h6 => ?_) (fun h6 => ?_)
  ·
    refine XX.iconst (v := -1) dd_M_byteAt_21 (by decide) ?_
    have hv : v_byteAt s a b = -1 := by unfold v_byteAt; rw [if_neg (by simp [inr, h6])]
    rw [hv]
    exact XX.iret dd_M_byteAt_22 rfl ⟨xn_le rfl, xn_le rfl⟩ (MQI.ok rfl rfl (hm.t19 _))
  ·
    refine XX.iload_n dd_M_byteAt_9 rfl 1 rfl ?_
    refine XX.aload_n dd_M_byteAt_10 rfl 0 rfl ?_
    refine XX.get (q0 := 0) (v := .int ((upd x 19 (nI 0)) 11)) fl_M_67 dd_M_byteAt_11 rfl rfl ?_
    refine XX.tp (y := nI s.rc) (hm.x11) ?_
    refine XX.icmp_ge (tgt := 21) dd_M_byteAt_14 (by decide) (fun h14 => ?_) (fun h14 => ?_)
    ·
      refine XX.iconst (v := -1) dd_M_byteAt_21 (by decide) ?_
      have hv : v_byteAt s a b = -1 := by unfold v_byteAt; rw [if_neg (by simp [inr, Int32.not_lt.mpr h14])]
      rw [hv]
      exact XX.iret dd_M_byteAt_22 rfl ⟨xn_le rfl, xn_le rfl⟩ (MQI.ok rfl rfl (hm.t19 _))
    ·
      have hra : inr a s.rc = true := by simp [inr, h6, Int32.not_le.mp h14]
      obtain ⟨la, ea, hla⟩ := inr_t hra (by omega)
      have hl := (hm.ml (by omega)).t19 (nI 0)
      have hrl := hm.g.rl la hla
      have hls := lnc_lt hrl
      have hme := men_le s.len (lst s.B s.len) (s.rl la)
      have hse := (hl.mtx.2.2.2.2.1 (s.rl la) hrl).2
      refine XX.iload_n dd_M_byteAt_17 rfl 2 rfl ?_
      refine XX.if_ge (tgt := 23) dd_M_byteAt_18 (by decide) (fun h18 => ?_) (fun h18 => ?_)
      ·
        obtain ⟨eb, hlb⟩ := nI_iN (a := b) (by have := Int32.le_iff_toInt_le.mp h18; simpa using this)
        generalize iN b = lb at eb hlb
        refine XX.cg (ws2 := wM G q (upd x 19 (nI 0)) f kl) (lv2 := [(0, .ref (q 0)), (1, .int (nI la)), (2, .int (nI lb))]) rfl (by rw [ea, eb]) rfl ?_
        refine XX.aload_n dd_M_byteAt_23 rfl 0 rfl ?_
        refine XX.get (q0 := 0) (v := .ref (q 6)) fl_M_36 dd_M_byteAt_24 rfl rfl ?_
        refine XX.iload_n dd_M_byteAt_27 rfl 1 rfl ?_
        refine XX.iald (q0 := 6) (n := 1000) (j := la) (f := f 5) dd_M_byteAt_28 rfl (by omega) (by decide) ?_
        refine XX.tp (y := nI (s.rl la)) (hm.r la (by omega)) ?_
        refine XX.istore_n (lv2 := [(3, .int (nI (s.rl la))), (0, .ref (q 0)), (1, .int (nI la)), (2, .int (nI lb))]) dd_M_byteAt_29 rfl (by decide) rfl ?_
        refine XX.iload_n dd_M_byteAt_30 rfl 3 rfl ?_
        refine XX.aload_n dd_M_byteAt_31 rfl 1 rfl ?_
        refine XX.iload_n dd_M_byteAt_32 rfl 0 rfl ?_
        refine XX.callVr (Mk := m_M_endOf) (n := 1) (As := [.int (nI (s.rl la))]) (rest := [.int (nI lb)]) (q0 := 0) (ci := 9) (c_M_endOf hl.mtx (l := s.rl la) (by omega)) mt_M_endOf mi_M_endOf ml_M_97 rfl dd_M_byteAt_33 (rfl) rfl rfl ⟨xn_le rfl, xn_le rfl⟩ ⟨xn_le rfl, xn_le rfl⟩ (xn_le rfl) rfl ?_
        refine XX.aload_n dd_M_byteAt_36 rfl 1 rfl ?_
        refine XX.iload_n dd_M_byteAt_37 rfl 0 rfl ?_
        refine XX.callVr (Mk := m_M_startOf) (n := 1) (As := [.int (nI (s.rl la))]) (rest := [.int (nI (men s.len (lst s.B s.len) (s.rl la))), .int (nI lb)]) (q0 := 0) (ci := 9) (c_M_startOf hl.mtx (l := s.rl la) (by omega)) mt_M_startOf mi_M_startOf ml_M_101 rfl dd_M_byteAt_38 (rfl) rfl rfl ⟨xn_le rfl, xn_le rfl⟩ ⟨xn_le rfl, xn_le rfl⟩ (xn_le rfl) rfl ?_
        refine XX.isub dd_M_byteAt_41 ?_
        refine XX.tp (y := nI (men s.len (lst s.B s.len) (s.rl la) - (lst s.B s.len (s.rl la)))) (pk_sub (by omega)) ?_
        refine XX.ncmp_ge (tgt := 64) dd_M_byteAt_42 (by decide) (by omega) (by omega) (fun h42 => ?_) (fun h42 => ?_)
        ·
          refine XX.iconst (v := -1) dd_M_byteAt_64 (by decide) ?_
          have hv : v_byteAt s a b = -1 := by unfold v_byteAt; rw [ea, eb, iN_nI (by omega), inr_nI (n := men s.len (lst s.B s.len) (s.rl la) - lst s.B s.len (s.rl la)) (by omega) (by omega), decide_eq_false (by omega), Bool.and_false, if_neg (by decide)]
          rw [hv]
          exact XX.iret dd_M_byteAt_65 rfl ⟨xn_le rfl, xn_le rfl⟩ (MQI.ok rfl rfl (hm.t19 _))
        ·
          refine XX.aload_n dd_M_byteAt_45 rfl 1 rfl ?_
          refine XX.get (q0 := 0) (v := .ref (q 1)) fl_M_7 dd_M_byteAt_46 rfl rfl ?_
          refine XX.aload_n dd_M_byteAt_49 rfl 1 rfl ?_
          refine XX.iload_n dd_M_byteAt_50 rfl 0 rfl ?_
          refine XX.callVr (Mk := m_M_startOf) (n := 1) (As := [.int (nI (s.rl la))]) (rest := [.ref (q 1)]) (q0 := 0) (ci := 9) (c_M_startOf hl.mtx (l := s.rl la) (by omega)) mt_M_startOf mi_M_startOf ml_M_101 rfl dd_M_byteAt_51 (rfl) rfl rfl ⟨xn_le rfl, xn_le rfl⟩ ⟨xn_le rfl, xn_le rfl⟩ (xn_le rfl) rfl ?_
          refine XX.iload_n dd_M_byteAt_54 rfl 3 rfl ?_
          refine XX.iadd dd_M_byteAt_55 ?_
          refine XX.tp (y := nI (lst s.B s.len (s.rl la) + lb)) (nI_add _ _) ?_
          refine XX.bald (q0 := 1) (n := 20000) (j := lst s.B s.len (s.rl la) + lb) (f := f 0) dd_M_byteAt_56 rfl (by omega) (by decide) ?_
          refine XX.tp (y := s.B (lst s.B s.len (s.rl la) + lb)) (hm.b _ (by omega)) ?_
          refine XX.sipush (v := nI 255) dd_M_byteAt_57 (by decide) ?_
          refine XX.iand dd_M_byteAt_60 ?_
          refine XX.goto (tgt := 65) dd_M_byteAt_61 (by decide) ?_
          have hv : v_byteAt s a b = (s.B (lst s.B s.len (s.rl la) + lb)) &&& (nI 255) := by unfold v_byteAt; rw [ea, eb, iN_nI (by omega), iN_nI (by omega), inr_nI (by omega) (by omega), inr_nI (n := men s.len (lst s.B s.len) (s.rl la) - lst s.B s.len (s.rl la)) (by omega) (by omega), decide_eq_true hla, decide_eq_true (by omega), Bool.and_true, if_pos rfl]
          rw [hv]
          exact XX.iret dd_M_byteAt_65 rfl ⟨xn_le rfl, xn_le rfl⟩ (MQI.ok rfl rfl (hm.t19 _))
      ·
        refine XX.iconst (v := -1) dd_M_byteAt_21 (by decide) ?_
        have hv : v_byteAt s a b = -1 := by unfold v_byteAt; rw [if_neg (by simp [inr, Int32.not_le.mp h18])]
        rw [hv]
        exact XX.iret dd_M_byteAt_22 rfl ⟨xn_le rfl, xn_le rfl⟩ (MQI.ok rfl rfl (hm.t19 _))

set_option maxRecDepth 100000 in
set_option maxHeartbeats 4000000 in
theorem c_M_about {G : XG} {q : Nat → Nat} {x : Nat → Int32} {f : Nat → Nat → Int32} {kl : va_W} {s : SS} (hm : MI s x f) {a : Int32} : MM G m_M_about (xr 1 0 0) [.ref (q 0), .int a] (wM G q x f kl) (MQI G q kl (sel (t_about a) (s) s) (t_about a) (v_about s a)) := by
  have hlen := hm.g.len
  have hkc := hm.g.kc
  have hrc := hm.g.rc
  have hun := hm.g.un
  have hlc : lnc s.B s.len ≤ s.len := lnc_le
  refine MM.of rfl (xn_le rfl) ?_
  refine (?_ : XX G m_M_about (xr 1 0 0) (xx_F G (MQI G q kl (sel (t_about a) (s) s) (t_about a) (v_about s a)) (xr 1 0 0)) 0 0 (wM G q x f kl) 0 [(0, .ref (q 0)), (1, .int a)] [])
  refine XX.aload_n dd_M_about_0 rfl 0 rfl ?_
  have j16 : XX G m_M_about (xr 1 0 0) (xx_F G (MQI G q kl (sel (t_about a) (s) s) (t_about a) (v_about s a)) (xr 1 0 0)) 0 0 (wM G q x f kl) 16 [(0, .ref (q 0)), (1, .int a)] [.int (bI (!wi a (nI 0) (nI 6))), .ref (q 0)] := by
    refine XX.iconst (v := nI 1) dd_M_about_16 (by decide) ?_
    refine XX.callVx (Mk := m_M_fails) (n := 2) (As := [.int (bI (!wi a (nI 0) (nI 6))), .int (nI 1)]) (rest := []) (q0 := 0) (ci := 9) (c_M_fails (so := !wi a (nI 0) (nI 6)) (kd := nI 1)) mt_M_fails mi_M_fails ml_M_70 rfl dd_M_about_17 (rfl) rfl rfl ⟨xn_le rfl, xn_le rfl⟩ ⟨xn_le rfl, xn_le rfl⟩ (xn_le rfl) rfl ?_
    refine XX.bif_eq (tgt := 25) dd_M_about_20 (by decide) (fun h20 => ?_) (fun h20 => ?_)
    ·
      refine XX.iload_n dd_M_about_25 rfl 1 rfl ?_
      have ht : t_about a = 0 := by simp [t_about, tb, h20]
      have hwi : wi a (nI 0) (nI 6) = true := by simpa using h20
      obtain ⟨la, ea, _, hla⟩ := wi_t hwi (by omega) (by omega)
      have hl6 : la = 0 ∨ la = 1 ∨ la = 2 ∨ la = 3 ∨ la = 4 ∨ la = 5 ∨ la = 6 := by omega
      rcases hl6 with rfl | rfl | rfl | rfl | rfl | rfl | rfl
      · refine XX.tp (y := nI 0) ea ?_
        refine XX.tabIn (tgt := 64) dd_M_about_26 (by decide) (by decide) (off := 38) (by decide) (by decide) ?_
        refine XX.aload_n dd_M_about_64 rfl 0 rfl ?_
        refine XX.get (q0 := 0) (v := .int ((upd x 19 (if (!wi a (nI 0) (nI 6)) = true then nI 1 else nI 0)) 13)) fl_M_215 dd_M_about_65 rfl rfl ?_
        refine XX.tp (y := nI s.un) (hm.x13) ?_
        have hv : v_about s a = nI s.un := by unfold v_about; rw [ea]; rfl
        rw [hv]
        exact XX.iret dd_M_about_68 rfl ⟨xn_le rfl, xn_le rfl⟩ (MQI.ok ht (by simp only [h20]; rfl) (hm.t19 _))
      · refine XX.tp (y := nI 1) ea ?_
        refine XX.tabIn (tgt := 69) dd_M_about_26 (by decide) (by decide) (off := 43) (by decide) (by decide) ?_
        refine XX.aload_n dd_M_about_69 rfl 0 rfl ?_
        refine XX.get (q0 := 0) (v := .int ((upd x 19 (if (!wi a (nI 0) (nI 6)) = true then nI 1 else nI 0)) 14)) fl_M_203 dd_M_about_70 rfl rfl ?_
        refine XX.tp (y := nI s.mg) (hm.x14) ?_
        have hv : v_about s a = nI s.mg := by unfold v_about; rw [ea]; rfl
        rw [hv]
        exact XX.iret dd_M_about_73 rfl ⟨xn_le rfl, xn_le rfl⟩ (MQI.ok ht (by simp only [h20]; rfl) (hm.t19 _))
      · refine XX.tp (y := nI 2) ea ?_
        refine XX.tabIn (tgt := 74) dd_M_about_26 (by decide) (by decide) (off := 48) (by decide) (by decide) ?_
        refine XX.aload_n dd_M_about_74 rfl 0 rfl ?_
        refine XX.get (q0 := 0) (v := .int ((upd x 19 (if (!wi a (nI 0) (nI 6)) = true then nI 1 else nI 0)) 15)) fl_M_206 dd_M_about_75 rfl rfl ?_
        refine XX.tp (y := nI s.mv) (hm.x15) ?_
        have hv : v_about s a = nI s.mv := by unfold v_about; rw [ea]; rfl
        rw [hv]
        exact XX.iret dd_M_about_78 rfl ⟨xn_le rfl, xn_le rfl⟩ (MQI.ok ht (by simp only [h20]; rfl) (hm.t19 _))
      · refine XX.tp (y := nI 3) ea ?_
        refine XX.tabIn (tgt := 79) dd_M_about_26 (by decide) (by decide) (off := 53) (by decide) (by decide) ?_
        refine XX.aload_n dd_M_about_79 rfl 0 rfl ?_
        refine XX.get (q0 := 0) (v := .int ((upd x 19 (if (!wi a (nI 0) (nI 6)) = true then nI 1 else nI 0)) 16)) fl_M_221 dd_M_about_80 rfl rfl ?_
        refine XX.tp (y := nI s.gn) (hm.x16) ?_
        have hv : v_about s a = nI s.gn := by unfold v_about; rw [ea]; rfl
        rw [hv]
        exact XX.iret dd_M_about_83 rfl ⟨xn_le rfl, xn_le rfl⟩ (MQI.ok ht (by simp only [h20]; rfl) (hm.t19 _))
      · refine XX.tp (y := nI 4) ea ?_
        refine XX.tabIn (tgt := 84) dd_M_about_26 (by decide) (by decide) (off := 58) (by decide) (by decide) ?_
        refine XX.aload_n dd_M_about_84 rfl 0 rfl ?_
        refine XX.get (q0 := 0) (v := .int ((upd x 19 (if (!wi a (nI 0) (nI 6)) = true then nI 1 else nI 0)) 0)) fl_M_60 dd_M_about_85 rfl rfl ?_
        refine XX.tp (y := nI s.len) (hm.x0) ?_
        have hv : v_about s a = nI s.len := by unfold v_about; rw [ea]; rfl
        rw [hv]
        exact XX.iret dd_M_about_88 rfl ⟨xn_le rfl, xn_le rfl⟩ (MQI.ok ht (by simp only [h20]; rfl) (hm.t19 _))
      · refine XX.tp (y := nI 5) ea ?_
        refine XX.tabIn (tgt := 89) dd_M_about_26 (by decide) (by decide) (off := 63) (by decide) (by decide) ?_
        refine XX.aload_n dd_M_about_89 rfl 0 rfl ?_
        refine XX.get (q0 := 0) (v := .int ((upd x 19 (if (!wi a (nI 0) (nI 6)) = true then nI 1 else nI 0)) 7)) fl_M_94 dd_M_about_90 rfl rfl ?_
        refine XX.tp (y := nI s.kc) (hm.k.1) ?_
        have hv : v_about s a = nI s.kc := by unfold v_about; rw [ea]; rfl
        rw [hv]
        exact XX.iret dd_M_about_93 rfl ⟨xn_le rfl, xn_le rfl⟩ (MQI.ok ht (by simp only [h20]; rfl) (hm.t19 _))
      · refine XX.tp (y := nI 6) ea ?_
        refine XX.tabOut (tgt := 94) dd_M_about_26 (by decide) (by decide) ?_
        refine XX.aload_n dd_M_about_94 rfl 0 rfl ?_
        refine XX.get (q0 := 0) (v := .int ((upd x 19 (if (!wi a (nI 0) (nI 6)) = true then nI 1 else nI 0)) 11)) fl_M_67 dd_M_about_95 rfl rfl ?_
        refine XX.tp (y := nI s.rc) (hm.x11) ?_
        have hv : v_about s a = nI s.rc := by unfold v_about; rw [ea]; rfl
        rw [hv]
        exact XX.iret dd_M_about_98 rfl ⟨xn_le rfl, xn_le rfl⟩ (MQI.ok ht (by simp only [h20]; rfl) (hm.t19 _))
    ·
      refine XX.iconst (v := nI 0) dd_M_about_23 (by decide) ?_
      exact XX.iret dd_M_about_24 rfl ⟨xn_le rfl, xn_le rfl⟩ (MQI.no (by simp [t_about, tb, h20]) (by simp [upd, t_about, tb, h20]) (hm.t19 _))
  refine XX.iload_n dd_M_about_1 rfl 1 rfl ?_
  refine XX.if_lt (tgt := 11) dd_M_about_2 (by decide) (fun h2 => ?_) (fun h2 => ?_)
  ·
    refine XX.iconst (v := nI 1) dd_M_about_11 (by decide) ?_
    refine XX.goto (tgt := 16) dd_M_about_12 (by decide) ?_
    exact XX.tp (by exact (bI_t (by first | (simp [wi, inr, nI_z, Int32.not_lt, Int32.not_le, h2]; done) | (simp [wi, inr, nI_z, Int32.not_lt, Int32.not_le, h2]; simp_all [wi, inr, nI_z, Int32.not_lt, Int32.not_le]; done) | (simp_all [wi, inr, nI_z, Int32.not_lt, Int32.not_le]; done))).symm) j16
  ·
    refine XX.iload_n dd_M_about_5 rfl 1 rfl ?_
    refine XX.bipush (v := nI 6) dd_M_about_6 (by decide) ?_
    refine XX.icmp_le (tgt := 15) dd_M_about_8 (by decide) (fun h8 => ?_) (fun h8 => ?_)
    ·
      refine XX.iconst (v := nI 0) dd_M_about_15 (by decide) ?_
      exact XX.tp (by exact (bI_f (by first | (simp [wi, inr, nI_z, Int32.not_lt, Int32.not_le, h2, h8]; done) | (simp [wi, inr, nI_z, Int32.not_lt, Int32.not_le, h2, h8]; simp_all [wi, inr, nI_z, Int32.not_lt, Int32.not_le]; done) | (simp_all [wi, inr, nI_z, Int32.not_lt, Int32.not_le]; done))).symm) j16
    ·
      refine XX.iconst (v := nI 1) dd_M_about_11 (by decide) ?_
      refine XX.goto (tgt := 16) dd_M_about_12 (by decide) ?_
      exact XX.tp (by exact (bI_t (by first | (simp [wi, inr, nI_z, Int32.not_lt, Int32.not_le, h2, h8]; done) | (simp [wi, inr, nI_z, Int32.not_lt, Int32.not_le, h2, h8]; simp_all [wi, inr, nI_z, Int32.not_lt, Int32.not_le]; done) | (simp_all [wi, inr, nI_z, Int32.not_lt, Int32.not_le]; done))).symm) j16

set_option maxRecDepth 100000 in
set_option maxHeartbeats 4000000 in
theorem c_M_check {G : XG} {q : Nat → Nat} {x : Nat → Int32} {f : Nat → Nat → Int32} {kl : va_W} {s : SS} (hm : MI s x f)  : MM G m_M_check (xr 8 0 0) [.ref (q 0)] (wM G q x f kl) (MQI G q kl (sel (0) (s) s) (0) (v_check s)) := by
  have hlen := hm.g.len
  have hkc := hm.g.kc
  have hrc := hm.g.rc
  have hun := hm.g.un
  have hlc : lnc s.B s.len ≤ s.len := lnc_le
  refine MM.of rfl (xn_le rfl) ?_
  refine (?_ : XX G m_M_check (xr 8 0 0) (xx_F G (MQI G q kl (sel (0) (s) s) (0) (v_check s)) (xr 8 0 0)) 0 0 (wM G q x f kl) 0 [(0, .ref (q 0))] [])
  have loop : ∀ (g : Nat → Int32) (kk i : Nat) (xx : Nat → Int32), lnc s.B s.len - i = kk → 1 ≤ i → i ≤ max 1 (lnc s.B s.len) → ML s xx (fup f 1 g) → xx 19 = nI 0 → oN (ck (sa_o s) s.bo (lnc s.B s.len - i) i) = v_check s → XX G m_M_check (xr 8 0 0) (xx_F G (MQI G q kl (sel (0) (s) s) (0) (v_check s)) (xr 8 0 0)) 0 0 (wM G q xx (fup f 1 g) kl) 11 [(0, .ref (q 0)), (1, .int (nI i))] [] := by
    intro g kk
    induction kk using Nat.strongRecOn with
    | _ kk ih =>
      intro i xx hkk hi1 hi2 hx h19 hv
      refine XX.iload_n dd_M_check_11 rfl 1 rfl ?_
      refine XX.aload_n dd_M_check_12 rfl 0 rfl ?_
      refine XX.get (q0 := 0) (v := .int (xx 1)) fl_M_78 dd_M_check_13 rfl rfl ?_
      refine XX.tp (y := nI (lnc s.B s.len)) (hx.x1) ?_
      refine XX.ncmp_ge (tgt := 51) dd_M_check_16 (by decide) (by omega) (by omega) (fun h16 => ?_) (fun h16 => ?_)
      ·
        refine XX.iconst (v := -1) dd_M_check_51 (by decide) ?_
        rw [← hv, ck_0 (by omega)]
        exact XX.iret dd_M_check_52 rfl ⟨xn_le rfl, xn_le rfl⟩ (MQI.ok (v := oN none) rfl h19 hx.i)
      ·
        refine XX.aload_n dd_M_check_19 rfl 0 rfl ?_
        refine XX.iload_n dd_M_check_20 rfl 1 rfl ?_
        refine XX.iconst (v := nI 1) dd_M_check_21 (by decide) ?_
        refine XX.isub dd_M_check_22 ?_
        refine XX.tp (y := nI (i - 1)) (pk_sub (by omega)) ?_
        refine XX.iload_n dd_M_check_23 rfl 1 rfl ?_
        refine XX.callV (Mk := m_M_byAll) (n := 2) (As := [.int (nI (i - 1)), .int (nI i)]) (rest := []) (q0 := 0) (ci := 9) (c_M_byAll (x := xx) (f := fup f 1 g) hx.mtx hx.i.g.bb hx.i.x6 hx.i.k hx.i.x3 hx.i.x4 hx.i.x5 (hd := false) hx.i.x10 (fun z => by cases z) (la := i - 1) (lb := i) (by omega) (by omega)) mt_M_byAll mi_M_byAll ml_M_188 rfl dd_M_check_24 (rfl) rfl rfl ⟨xn_le rfl, xn_le rfl⟩ ⟨xn_le rfl, xn_le rfl⟩ (xn_le rfl) rfl (fun r1 w1 hp1 => ?_)
        obtain ⟨rfl, x3, rfl, hq3⟩ := hp1
        have hx3 := hx.agf hq3
        have h93 : x3 19 = nI 0 := (hq3 19 (by omega) (by omega)).trans h19
        refine (?_ : XX G m_M_check (xr 8 0 0) (xx_F G (MQI G q kl (sel (0) (s) s) (0) (v_check s)) (xr 8 0 0)) 0 0 (wM G q x3 (fup f 1 g) kl) 27 [(0, .ref (q 0)), (1, .int (nI i))] [.int (oI (sa_o s (i - 1) i))])
        refine XX.istore_n (lv2 := [(2, .int (oI (sa_o s (i - 1) i))), (0, .ref (q 0)), (1, .int (nI i))]) dd_M_check_27 rfl (by decide) rfl ?_
        refine XX.iload_n dd_M_check_28 rfl 0 rfl ?_
        refine XX.if_gt (tgt := 43) dd_M_check_29 (by decide) (fun h29 => ?_) (fun h29 => ?_)
        ·
          refine XX.iload_n dd_M_check_43 rfl 2 rfl ?_
          rw [← hv, ck_s (n := lnc s.B s.len) (i := i) (by omega), if_pos (by simp [h29])]
          exact XX.iret dd_M_check_44 rfl ⟨xn_le rfl, xn_le rfl⟩ (MQI.ok (v := oN (some i)) rfl h93 hx3.i)
        ·
          refine XX.iload_n dd_M_check_32 rfl 0 rfl ?_
          refine XX.if_ne (tgt := 45) dd_M_check_33 (by decide) (fun h33 => ?_) (fun h33 => ?_)
          ·
            refine XX.iinc (z := 2) (v := nI (i + 1)) (lv2 := [(1, .int (nI (i + 1))), (2, .int (oI (sa_o s (i - 1) i))), (0, .ref (q 0))]) dd_M_check_45 rfl ((nI_succ _).symm) (by decide) rfl ?_
            refine XX.goto (tgt := 11) dd_M_check_48 (by decide) ?_
            refine XX.lvs [2, 0] rfl ?_
            exact ih _ (by omega) (i + 1) x3 rfl (by omega) (by omega) hx3 h93 (by rw [← hv, ck_s (n := lnc s.B s.len) (i := i) (by omega), if_neg (by simp [h29, h33])])
          ·
            refine XX.aload_n dd_M_check_36 rfl 1 rfl ?_
            refine XX.get (q0 := 0) (v := .int (x3 5)) fl_M_91 dd_M_check_37 rfl rfl ?_
            refine XX.tp (y := bI s.bo) (hx3.i.x5) ?_
            refine XX.bif_eq (tgt := 45) dd_M_check_40 (by decide) (fun h40 => ?_) (fun h40 => ?_)
            ·
              refine XX.iinc (z := 2) (v := nI (i + 1)) (lv2 := [(1, .int (nI (i + 1))), (2, .int (oI (sa_o s (i - 1) i))), (0, .ref (q 0))]) dd_M_check_45 rfl ((nI_succ _).symm) (by decide) rfl ?_
              refine XX.goto (tgt := 11) dd_M_check_48 (by decide) ?_
              refine XX.lvs [2, 0] rfl ?_
              exact ih _ (by omega) (i + 1) x3 rfl (by omega) (by omega) hx3 h93 (by rw [← hv, ck_s (n := lnc s.B s.len) (i := i) (by omega), if_neg (by simp [h29, h33, h40])])
            ·
              refine XX.iload_n dd_M_check_43 rfl 2 rfl ?_
              rw [← hv, ck_s (n := lnc s.B s.len) (i := i) (by omega), if_pos (by simp [h29, h33, h40])]
              exact XX.iret dd_M_check_44 rfl ⟨xn_le rfl, xn_le rfl⟩ (MQI.ok (v := oN (some i)) rfl h93 hx3.i)
  refine XX.aload_n dd_M_check_0 rfl 0 rfl ?_
  refine XX.iconst (v := nI 0) dd_M_check_1 (by decide) ?_
  refine XX.put (q0 := 0) (ws2 := wM G q (upd x 19 (nI 0)) f kl) fp_M_57 dd_M_check_2 rfl rfl rfl (xn_le rfl) rfl ?_
  refine XX.aload_n dd_M_check_5 rfl 0 rfl ?_
  have hmf : MI s (upd x 19 (nI 0)) f := (hm.t19 _)
  obtain ⟨sp, hsp1, hsp3, hsp2⟩ := hmf.sp
  refine XX.callV (Mk := m_M_findLines) (n := 0) (As := []) (rest := []) (q0 := 0) (ci := 9) (c_M_findLines (x := upd x 19 (nI 0)) (f := f) (B := s.B) (sp := sp) hmf.x0 hmf.g.len hmf.b hsp1 hsp2) mt_M_findLines mi_M_findLines ml_M_191 rfl dd_M_check_6 (rfl) rfl rfl ⟨xn_le rfl, xn_le rfl⟩ ⟨xn_le rfl, xn_le rfl⟩ (xn_le rfl) rfl (fun r1 w1 hp1 => ?_)
  obtain ⟨rfl, x2, g, rfl, fa1, fa2, fa3, fa4⟩ := hp1
  have hl : ML s x2 (fup f 1 g) := ML.of hmf fa1 fa2 fa3 fa4
  refine (?_ : XX G m_M_check (xr 8 0 0) (xx_F G (MQI G q kl (sel (0) (s) s) (0) (v_check s)) (xr 8 0 0)) 0 0 (wM G q x2 (fup f 1 g) kl) 9 [(0, .ref (q 0))] [])
  refine XX.iconst (v := nI 1) dd_M_check_9 (by decide) ?_
  refine XX.istore_n (lv2 := [(1, .int (nI 1)), (0, .ref (q 0))]) dd_M_check_10 rfl (by decide) rfl ?_
  refine XX.lvs [1, 0] rfl ?_
  exact loop g _ 1 x2 rfl (by omega) (by omega) hl (fa1 19 (by omega) (by omega)) rfl

theorem upd5 {g : Nat → Int32} {n : Nat} {a b c d e : Int32} {k i : Nat} : upd (upd (upd (upd (upd g (5 * n) a) (5 * n + 1) b) (5 * n + 2) c) (5 * n + 3) d) (5 * n + 4) e (5 * n) = a ∧ upd (upd (upd (upd (upd g (5 * n) a) (5 * n + 1) b) (5 * n + 2) c) (5 * n + 3) d) (5 * n + 4) e (5 * n + 1) = b ∧ upd (upd (upd (upd (upd g (5 * n) a) (5 * n + 1) b) (5 * n + 2) c) (5 * n + 3) d) (5 * n + 4) e (5 * n + 2) = c ∧ upd (upd (upd (upd (upd g (5 * n) a) (5 * n + 1) b) (5 * n + 2) c) (5 * n + 3) d) (5 * n + 4) e (5 * n + 3) = d ∧ upd (upd (upd (upd (upd g (5 * n) a) (5 * n + 1) b) (5 * n + 2) c) (5 * n + 3) d) (5 * n + 4) e (5 * n + 4) = e ∧ (k < n → i < 5 → upd (upd (upd (upd (upd g (5 * n) a) (5 * n + 1) b) (5 * n + 2) c) (5 * n + 3) d) (5 * n + 4) e (5 * k + i) = g (5 * k + i)) := by
  refine ⟨?_, ?_, ?_, ?_, ?_, fun h1 h2 => ?_⟩
  · rw [pk_un (by omega), pk_un (by omega), pk_un (by omega), pk_un (by omega), pk_us]
  · rw [pk_un (by omega), pk_un (by omega), pk_un (by omega), pk_us]
  · rw [pk_un (by omega), pk_un (by omega), pk_us]
  · rw [pk_un (by omega), pk_us]
  · rw [pk_us]
  · rw [pk_un (by omega), pk_un (by omega), pk_un (by omega), pk_un (by omega), pk_un (by omega)]
theorem MI.key {s : SS} {x : Nat → Int32} {f : Nat → Nat → Int32} (h : MI s x f) {a b c d e u v : Int32} (hg : SG (o_key s a b c d e)) (e0 : a = nI (iN a)) (e1 : b = nI (iN b)) (e2 : c = nI (iN c)) (e3 : d = nI (iN d)) : MI (o_key s a b c d e) (upd (upd (upd x 19 u) 19 v) 7 (nI (s.kc + 1))) (fup f 2 (upd (upd (upd (upd (upd (f 2) (5 * s.kc) a) (5 * s.kc + 1) b) (5 * s.kc + 2) c) (5 * s.kc + 3) d) (5 * s.kc + 4) e)) := by
  refine ⟨hg, h.x0, h.b, h.sp, h.x3, h.x4, h.x5, h.x6, ⟨rfl, hg.kc, fun k hk => ?_⟩, h.x8, h.x9, h.x10, h.x11, h.r, h.x13, h.u, h.x14, h.x15, h.x16, h.tk⟩
  have hk3 : k < s.kc + 1 := hk
  refine ⟨?_, ?_, hg.kb k hk⟩
  · intro i hi
    show upd _ _ _ _ = nI (kd_a s.kd s.kc a b c d k i)
    by_cases ek : k = s.kc
    · subst ek
      obtain ⟨z0, z1, z2, z3⟩ := kd_a_0 (kd := s.kd) (kc := s.kc) (f := a) (c := b) (e := c) (d := d)
      obtain ⟨y0, y1, y2, y3, y4, _⟩ := upd5 (g := f 2) (n := s.kc) (a := a) (b := b) (c := c) (d := d) (e := e) (k := 0) (i := 0)
      have hi4 : i = 0 ∨ i = 1 ∨ i = 2 ∨ i = 3 := by omega
      rcases hi4 with rfl | rfl | rfl | rfl
      · rw [z0, ← e0]; exact y0
      · rw [z1, ← e1]; exact y1
      · rw [z2, ← e2]; exact y2
      · rw [z3, ← e3]; exact y3
    · rw [kd_a_n ek, upd5.2.2.2.2.2 (by omega) (by omega)]; exact (h.k.2.2 k (by omega)).1 i hi
  · show upd _ _ _ _ = upd s.kg s.kc e k
    by_cases ek : k = s.kc
    · subst ek; rw [show upd s.kg s.kc e s.kc = e from pk_us]; exact (upd5 (k := 0) (i := 0)).2.2.2.2.1
    · rw [pk_un ek, upd5.2.2.2.2.2 (by omega) (by omega)]; exact (h.k.2.2 k (by omega)).2.1

set_option maxRecDepth 100000 in
set_option maxHeartbeats 4000000 in
theorem c_M_key {G : XG} {q : Nat → Nat} {x : Nat → Int32} {f : Nat → Nat → Int32} {kl : va_W} {s : SS} (hm : MI s x f) {a b c d e : Int32} : MM G m_M_key (xr 1 0 0) [.ref (q 0), .int a, .int b, .int c, .int d, .int e] (wM G q x f kl) (MQI G q kl (sel (t_key s a b c d e) (o_key s a b c d e) s) (t_key s a b c d e) (nI (s.kc + 1))) := by
  have hlen := hm.g.len
  have hkc := hm.g.kc
  have hrc := hm.g.rc
  have hun := hm.g.un
  have hlc : lnc s.B s.len ≤ s.len := lnc_le
  refine MM.of rfl (xn_le rfl) ?_
  refine (?_ : XX G m_M_key (xr 1 0 0) (xx_F G (MQI G q kl (sel (t_key s a b c d e) (o_key s a b c d e) s) (t_key s a b c d e) (nI (s.kc + 1))) (xr 1 0 0)) 0 0 (wM G q x f kl) 0 [(0, .ref (q 0)), (1, .int a), (2, .int b), (3, .int c), (4, .int d), (5, .int e)] [])
  have j61 : XX G m_M_key (xr 1 0 0) (xx_F G (MQI G q kl (sel (t_key s a b c d e) (o_key s a b c d e) s) (t_key s a b c d e) (nI (s.kc + 1))) (xr 1 0 0)) 0 0 (wM G q x f kl) 61 [(0, .ref (q 0)), (1, .int a), (2, .int b), (3, .int c), (4, .int d), (5, .int e)] [.int (bI (c_key a b c d e))] := by
    refine XX.istore (lv2 := [(6, .int (bI (c_key a b c d e))), (0, .ref (q 0)), (1, .int a), (2, .int b), (3, .int c), (4, .int d), (5, .int e)]) dd_M_key_61 (by decide) rfl ?_
    refine XX.aload_n dd_M_key_63 rfl 1 rfl ?_
    have j74 : XX G m_M_key (xr 1 0 0) (xx_F G (MQI G q kl (sel (t_key s a b c d e) (o_key s a b c d e) s) (t_key s a b c d e) (nI (s.kc + 1))) (xr 1 0 0)) 0 0 (wM G q x f kl) 74 [(6, .int (bI (c_key a b c d e))), (0, .ref (q 0)), (1, .int a), (2, .int b), (3, .int c), (4, .int d), (5, .int e)] [.int (bI (!c_key a b c d e)), .ref (q 0)] := by
      refine XX.iconst (v := nI 1) dd_M_key_74 (by decide) ?_
      refine XX.callVx (Mk := m_M_fails) (n := 2) (As := [.int (bI (!c_key a b c d e)), .int (nI 1)]) (rest := []) (q0 := 0) (ci := 9) (c_M_fails (so := !c_key a b c d e) (kd := nI 1)) mt_M_fails mi_M_fails ml_M_70 rfl dd_M_key_75 (rfl) rfl rfl ⟨xn_le rfl, xn_le rfl⟩ ⟨xn_le rfl, xn_le rfl⟩ (xn_le rfl) rfl ?_
      refine XX.bif_ne (tgt := 103) dd_M_key_78 (by decide) (fun h78 => ?_) (fun h78 => ?_)
      ·
        refine XX.iconst (v := nI 0) dd_M_key_103 (by decide) ?_
        exact XX.iret dd_M_key_104 rfl ⟨xn_le rfl, xn_le rfl⟩ (MQI.no (by simp [t_key, tb, h78]) (by simp [upd, t_key, tb, h78]) (hm.t19 _))
      ·
        refine XX.aload_n dd_M_key_81 rfl 1 rfl ?_
        have j96 : XX G m_M_key (xr 1 0 0) (xx_F G (MQI G q kl (sel (t_key s a b c d e) (o_key s a b c d e) s) (t_key s a b c d e) (nI (s.kc + 1))) (xr 1 0 0)) 0 0 (wM G q (upd x 19 (if (!c_key a b c d e) = true then nI 1 else nI 0)) f kl) 96 [(6, .int (bI (c_key a b c d e))), (0, .ref (q 0)), (1, .int a), (2, .int b), (3, .int c), (4, .int d), (5, .int e)] [.int (bI (decide (s.kc = 6))), .ref (q 0)] := by
          refine XX.iconst (v := nI 2) dd_M_key_96 (by decide) ?_
          refine XX.callVx (Mk := m_M_fails) (n := 2) (As := [.int (bI (decide (s.kc = 6))), .int (nI 2)]) (rest := []) (q0 := 0) (ci := 9) (c_M_fails (so := decide (s.kc = 6)) (kd := nI 2)) mt_M_fails mi_M_fails ml_M_70 rfl dd_M_key_97 (rfl) rfl rfl ⟨xn_le rfl, xn_le rfl⟩ ⟨xn_le rfl, xn_le rfl⟩ (xn_le rfl) rfl ?_
          refine XX.bif_eq (tgt := 105) dd_M_key_100 (by decide) (fun h100 => ?_) (fun h100 => ?_)
          ·
            have hk6 : s.kc ≠ 6 := of_decide_eq_false h100
            refine XX.aload_n dd_M_key_105 rfl 1 rfl ?_
            refine XX.get (q0 := 0) (v := .ref (q 3)) fl_M_21 dd_M_key_106 rfl rfl ?_
            refine XX.iconst (v := nI 5) dd_M_key_109 (by decide) ?_
            refine XX.aload_n dd_M_key_110 rfl 1 rfl ?_
            refine XX.get (q0 := 0) (v := .int ((upd (upd x 19 (if (!c_key a b c d e) = true then nI 1 else nI 0)) 19 (if (decide (s.kc = 6)) = true then nI 2 else nI 0)) 7)) fl_M_94 dd_M_key_111 rfl rfl ?_
            refine XX.tp (y := nI s.kc) (hm.k.1) ?_
            refine XX.imul dd_M_key_114 ?_
            refine XX.tp (y := nI (5 * s.kc)) (pk_mul _ _) ?_
            refine XX.iload_n dd_M_key_115 rfl 2 rfl ?_
            refine XX.iast (q0 := 3) (n := 30) (j := 5 * s.kc) (f := f 2) (ws2 := wM G q (upd (upd x 19 (if (!c_key a b c d e) = true then nI 1 else nI 0)) 19 (if (decide (s.kc = 6)) = true then nI 2 else nI 0)) (fup f 2 (upd (f 2) (5 * s.kc) a)) kl) dd_M_key_116 rfl (by omega) (by decide) rfl ?_
            refine XX.aload_n dd_M_key_117 rfl 1 rfl ?_
            refine XX.get (q0 := 0) (v := .ref (q 3)) fl_M_21 dd_M_key_118 rfl rfl ?_
            refine XX.iconst (v := nI 5) dd_M_key_121 (by decide) ?_
            refine XX.aload_n dd_M_key_122 rfl 1 rfl ?_
            refine XX.get (q0 := 0) (v := .int ((upd (upd x 19 (if (!c_key a b c d e) = true then nI 1 else nI 0)) 19 (if (decide (s.kc = 6)) = true then nI 2 else nI 0)) 7)) fl_M_94 dd_M_key_123 rfl rfl ?_
            refine XX.tp (y := nI s.kc) (hm.k.1) ?_
            refine XX.imul dd_M_key_126 ?_
            refine XX.tp (y := nI (5 * s.kc)) (pk_mul _ _) ?_
            refine XX.iconst (v := nI 1) dd_M_key_127 (by decide) ?_
            refine XX.iadd dd_M_key_128 ?_
            refine XX.tp (y := nI (5 * s.kc + 1)) (nI_add _ _) ?_
            refine XX.iload_n dd_M_key_129 rfl 3 rfl ?_
            refine XX.iast (q0 := 3) (n := 30) (j := 5 * s.kc + 1) (f := upd (f 2) (5 * s.kc) a) (ws2 := wM G q (upd (upd x 19 (if (!c_key a b c d e) = true then nI 1 else nI 0)) 19 (if (decide (s.kc = 6)) = true then nI 2 else nI 0)) (fup (fup f 2 (upd (f 2) (5 * s.kc) a)) 2 (upd (upd (f 2) (5 * s.kc) a) (5 * s.kc + 1) b)) kl) dd_M_key_130 rfl (by omega) (by decide) rfl ?_
            refine XX.cg (ws2 := wM G q (upd (upd x 19 (if (!c_key a b c d e) = true then nI 1 else nI 0)) 19 (if (decide (s.kc = 6)) = true then nI 2 else nI 0)) (fup f 2 (upd (upd (f 2) (5 * s.kc) a) (5 * s.kc + 1) b)) kl) (by rw [fup_fup]) rfl rfl ?_
            refine XX.aload_n dd_M_key_131 rfl 1 rfl ?_
            refine XX.get (q0 := 0) (v := .ref (q 3)) fl_M_21 dd_M_key_132 rfl rfl ?_
            refine XX.iconst (v := nI 5) dd_M_key_135 (by decide) ?_
            refine XX.aload_n dd_M_key_136 rfl 1 rfl ?_
            refine XX.get (q0 := 0) (v := .int ((upd (upd x 19 (if (!c_key a b c d e) = true then nI 1 else nI 0)) 19 (if (decide (s.kc = 6)) = true then nI 2 else nI 0)) 7)) fl_M_94 dd_M_key_137 rfl rfl ?_
            refine XX.tp (y := nI s.kc) (hm.k.1) ?_
            refine XX.imul dd_M_key_140 ?_
            refine XX.tp (y := nI (5 * s.kc)) (pk_mul _ _) ?_
            refine XX.iconst (v := nI 2) dd_M_key_141 (by decide) ?_
            refine XX.iadd dd_M_key_142 ?_
            refine XX.tp (y := nI (5 * s.kc + 2)) (nI_add _ _) ?_
            refine XX.iload_n dd_M_key_143 rfl 4 rfl ?_
            refine XX.iast (q0 := 3) (n := 30) (j := 5 * s.kc + 2) (f := upd (upd (f 2) (5 * s.kc) a) (5 * s.kc + 1) b) (ws2 := wM G q (upd (upd x 19 (if (!c_key a b c d e) = true then nI 1 else nI 0)) 19 (if (decide (s.kc = 6)) = true then nI 2 else nI 0)) (fup (fup f 2 (upd (upd (f 2) (5 * s.kc) a) (5 * s.kc + 1) b)) 2 (upd (upd (upd (f 2) (5 * s.kc) a) (5 * s.kc + 1) b) (5 * s.kc + 2) c)) kl) dd_M_key_144 rfl (by omega) (by decide) rfl ?_
            refine XX.cg (ws2 := wM G q (upd (upd x 19 (if (!c_key a b c d e) = true then nI 1 else nI 0)) 19 (if (decide (s.kc = 6)) = true then nI 2 else nI 0)) (fup f 2 (upd (upd (upd (f 2) (5 * s.kc) a) (5 * s.kc + 1) b) (5 * s.kc + 2) c)) kl) (by rw [fup_fup]) rfl rfl ?_
            refine XX.aload_n dd_M_key_145 rfl 1 rfl ?_
            refine XX.get (q0 := 0) (v := .ref (q 3)) fl_M_21 dd_M_key_146 rfl rfl ?_
            refine XX.iconst (v := nI 5) dd_M_key_149 (by decide) ?_
            refine XX.aload_n dd_M_key_150 rfl 1 rfl ?_
            refine XX.get (q0 := 0) (v := .int ((upd (upd x 19 (if (!c_key a b c d e) = true then nI 1 else nI 0)) 19 (if (decide (s.kc = 6)) = true then nI 2 else nI 0)) 7)) fl_M_94 dd_M_key_151 rfl rfl ?_
            refine XX.tp (y := nI s.kc) (hm.k.1) ?_
            refine XX.imul dd_M_key_154 ?_
            refine XX.tp (y := nI (5 * s.kc)) (pk_mul _ _) ?_
            refine XX.iconst (v := nI 3) dd_M_key_155 (by decide) ?_
            refine XX.iadd dd_M_key_156 ?_
            refine XX.tp (y := nI (5 * s.kc + 3)) (nI_add _ _) ?_
            refine XX.iload dd_M_key_157 5 rfl ?_
            refine XX.iast (q0 := 3) (n := 30) (j := 5 * s.kc + 3) (f := upd (upd (upd (f 2) (5 * s.kc) a) (5 * s.kc + 1) b) (5 * s.kc + 2) c) (ws2 := wM G q (upd (upd x 19 (if (!c_key a b c d e) = true then nI 1 else nI 0)) 19 (if (decide (s.kc = 6)) = true then nI 2 else nI 0)) (fup (fup f 2 (upd (upd (upd (f 2) (5 * s.kc) a) (5 * s.kc + 1) b) (5 * s.kc + 2) c)) 2 (upd (upd (upd (upd (f 2) (5 * s.kc) a) (5 * s.kc + 1) b) (5 * s.kc + 2) c) (5 * s.kc + 3) d)) kl) dd_M_key_159 rfl (by omega) (by decide) rfl ?_
            refine XX.cg (ws2 := wM G q (upd (upd x 19 (if (!c_key a b c d e) = true then nI 1 else nI 0)) 19 (if (decide (s.kc = 6)) = true then nI 2 else nI 0)) (fup f 2 (upd (upd (upd (upd (f 2) (5 * s.kc) a) (5 * s.kc + 1) b) (5 * s.kc + 2) c) (5 * s.kc + 3) d)) kl) (by rw [fup_fup]) rfl rfl ?_
            refine XX.aload_n dd_M_key_160 rfl 1 rfl ?_
            refine XX.get (q0 := 0) (v := .ref (q 3)) fl_M_21 dd_M_key_161 rfl rfl ?_
            refine XX.iconst (v := nI 5) dd_M_key_164 (by decide) ?_
            refine XX.aload_n dd_M_key_165 rfl 1 rfl ?_
            refine XX.get (q0 := 0) (v := .int ((upd (upd x 19 (if (!c_key a b c d e) = true then nI 1 else nI 0)) 19 (if (decide (s.kc = 6)) = true then nI 2 else nI 0)) 7)) fl_M_94 dd_M_key_166 rfl rfl ?_
            refine XX.tp (y := nI s.kc) (hm.k.1) ?_
            refine XX.imul dd_M_key_169 ?_
            refine XX.tp (y := nI (5 * s.kc)) (pk_mul _ _) ?_
            refine XX.iconst (v := nI 4) dd_M_key_170 (by decide) ?_
            refine XX.iadd dd_M_key_171 ?_
            refine XX.tp (y := nI (5 * s.kc + 4)) (nI_add _ _) ?_
            refine XX.iload dd_M_key_172 6 rfl ?_
            refine XX.iast (q0 := 3) (n := 30) (j := 5 * s.kc + 4) (f := upd (upd (upd (upd (f 2) (5 * s.kc) a) (5 * s.kc + 1) b) (5 * s.kc + 2) c) (5 * s.kc + 3) d) (ws2 := wM G q (upd (upd x 19 (if (!c_key a b c d e) = true then nI 1 else nI 0)) 19 (if (decide (s.kc = 6)) = true then nI 2 else nI 0)) (fup (fup f 2 (upd (upd (upd (upd (f 2) (5 * s.kc) a) (5 * s.kc + 1) b) (5 * s.kc + 2) c) (5 * s.kc + 3) d)) 2 (upd (upd (upd (upd (upd (f 2) (5 * s.kc) a) (5 * s.kc + 1) b) (5 * s.kc + 2) c) (5 * s.kc + 3) d) (5 * s.kc + 4) e)) kl) dd_M_key_174 rfl (by omega) (by decide) rfl ?_
            refine XX.cg (ws2 := wM G q (upd (upd x 19 (if (!c_key a b c d e) = true then nI 1 else nI 0)) 19 (if (decide (s.kc = 6)) = true then nI 2 else nI 0)) (fup f 2 (upd (upd (upd (upd (upd (f 2) (5 * s.kc) a) (5 * s.kc + 1) b) (5 * s.kc + 2) c) (5 * s.kc + 3) d) (5 * s.kc + 4) e)) kl) (by rw [fup_fup]) rfl rfl ?_
            refine XX.aload_n dd_M_key_175 rfl 1 rfl ?_
            refine XX.dup dd_M_key_176 rfl ?_
            refine XX.get (q0 := 0) (v := .int ((upd (upd x 19 (if (!c_key a b c d e) = true then nI 1 else nI 0)) 19 (if (decide (s.kc = 6)) = true then nI 2 else nI 0)) 7)) fl_M_94 dd_M_key_177 rfl rfl ?_
            refine XX.tp (y := nI s.kc) (hm.k.1) ?_
            refine XX.iconst (v := nI 1) dd_M_key_180 (by decide) ?_
            refine XX.iadd dd_M_key_181 ?_
            refine XX.tp (y := nI (s.kc + 1)) (nI_add _ _) ?_
            refine XX.put (q0 := 0) (ws2 := wM G q (upd (upd (upd x 19 (if (!c_key a b c d e) = true then nI 1 else nI 0)) 19 (if (decide (s.kc = 6)) = true then nI 2 else nI 0)) 7 (nI (s.kc + 1))) (fup f 2 (upd (upd (upd (upd (upd (f 2) (5 * s.kc) a) (5 * s.kc + 1) b) (5 * s.kc + 2) c) (5 * s.kc + 3) d) (5 * s.kc + 4) e)) kl) fp_M_94 dd_M_key_182 rfl rfl rfl (xn_le rfl) rfl ?_
            refine XX.aload_n dd_M_key_185 rfl 1 rfl ?_
            refine XX.get (q0 := 0) (v := .int (nI (s.kc + 1))) fl_M_94 dd_M_key_186 rfl rfl ?_
            have ht : t_key s a b c d e = 0 := by simp [t_key, tb, h78, h100]
            obtain ⟨⟨e0, e1, e2, e3⟩, g0, g1, g2, g3, g4, g5, g6⟩ := key_n ht
            exact XX.iret dd_M_key_189 rfl ⟨xn_le rfl, xn_le rfl⟩ (MQI.ok ht (by simp [upd, h100]) (MI.key hm (hm.g.key ht) e0 e1 e2 e3))
          ·
            refine XX.iconst (v := nI 0) dd_M_key_103 (by decide) ?_
            exact XX.iret dd_M_key_104 rfl ⟨xn_le rfl, xn_le rfl⟩ (MQI.no (by simp [t_key, tb, h78, h100]) (by simp [upd, t_key, tb, h78, h100]) ((hm.t19 _).t19 _))
        refine XX.aload_n dd_M_key_82 rfl 1 rfl ?_
        refine XX.get (q0 := 0) (v := .int ((upd x 19 (if (!c_key a b c d e) = true then nI 1 else nI 0)) 7)) fl_M_94 dd_M_key_83 rfl rfl ?_
        refine XX.tp (y := nI s.kc) (hm.k.1) ?_
        refine XX.bipush (v := nI 6) dd_M_key_86 (by decide) ?_
        refine XX.ncmp_ne (tgt := 95) dd_M_key_88 (by decide) (by omega) (by omega) (fun h88 => ?_) (fun h88 => ?_)
        ·
          refine XX.iconst (v := nI 0) dd_M_key_95 (by decide) ?_
          exact XX.tp (by simp [bI, h88]) j96
        ·
          refine XX.iconst (v := nI 1) dd_M_key_91 (by decide) ?_
          refine XX.goto (tgt := 96) dd_M_key_92 (by decide) ?_
          exact XX.tp (by simp [bI, h88]) j96
    refine XX.iload dd_M_key_64 0 rfl ?_
    refine XX.bif_ne (tgt := 73) dd_M_key_66 (by decide) (fun h66 => ?_) (fun h66 => ?_)
    ·
      refine XX.iconst (v := nI 0) dd_M_key_73 (by decide) ?_
      exact XX.tp (by simp [bI, h66]) j74
    ·
      refine XX.iconst (v := nI 1) dd_M_key_69 (by decide) ?_
      refine XX.goto (tgt := 74) dd_M_key_70 (by decide) ?_
      exact XX.tp (by simp [bI, h66]) j74
  refine XX.iload_n dd_M_key_0 rfl 1 rfl ?_
  refine XX.iconst (v := nI 1) dd_M_key_1 (by decide) ?_
  refine XX.sipush (v := nI 1000) dd_M_key_2 (by decide) ?_
  refine XX.callSr (Mk := m_M_within) (n := 3) (As := [.int a, .int (nI 1), .int (nI 1000)]) (rest := []) (c_M_within) mt_M_within ms_M_within ml_M_81 rfl dd_M_key_5 ⟨xn_le rfl, xn_le rfl⟩ ⟨xn_le rfl, xn_le rfl⟩ (xn_le rfl) rfl ?_
  refine XX.bif_eq (tgt := 60) dd_M_key_8 (by decide) (fun h8 => ?_) (fun h8 => ?_)
  ·
    refine XX.iconst (v := nI 0) dd_M_key_60 (by decide) ?_
    exact XX.tp (by simp [c_key, bI, h8]) j61
  ·
    refine XX.iload_n dd_M_key_11 rfl 2 rfl ?_
    refine XX.iconst (v := nI 1) dd_M_key_12 (by decide) ?_
    refine XX.sipush (v := nI 1000) dd_M_key_13 (by decide) ?_
    refine XX.callSr (Mk := m_M_within) (n := 3) (As := [.int b, .int (nI 1), .int (nI 1000)]) (rest := []) (c_M_within) mt_M_within ms_M_within ml_M_81 rfl dd_M_key_16 ⟨xn_le rfl, xn_le rfl⟩ ⟨xn_le rfl, xn_le rfl⟩ (xn_le rfl) rfl ?_
    refine XX.bif_eq (tgt := 60) dd_M_key_19 (by decide) (fun h19 => ?_) (fun h19 => ?_)
    ·
      refine XX.iconst (v := nI 0) dd_M_key_60 (by decide) ?_
      exact XX.tp (by simp [c_key, bI, h8, h19]) j61
    ·
      refine XX.iload_n dd_M_key_22 rfl 3 rfl ?_
      refine XX.iconst (v := nI 0) dd_M_key_23 (by decide) ?_
      refine XX.sipush (v := nI 1000) dd_M_key_24 (by decide) ?_
      refine XX.callSr (Mk := m_M_within) (n := 3) (As := [.int c, .int (nI 0), .int (nI 1000)]) (rest := []) (c_M_within) mt_M_within ms_M_within ml_M_81 rfl dd_M_key_27 ⟨xn_le rfl, xn_le rfl⟩ ⟨xn_le rfl, xn_le rfl⟩ (xn_le rfl) rfl ?_
      refine XX.bif_eq (tgt := 60) dd_M_key_30 (by decide) (fun h30 => ?_) (fun h30 => ?_)
      ·
        refine XX.iconst (v := nI 0) dd_M_key_60 (by decide) ?_
        exact XX.tp (by simp [c_key, bI, h8, h19, h30]) j61
      ·
        refine XX.iload dd_M_key_33 4 rfl ?_
        refine XX.iconst (v := nI 0) dd_M_key_35 (by decide) ?_
        refine XX.sipush (v := nI 1000) dd_M_key_36 (by decide) ?_
        refine XX.callSr (Mk := m_M_within) (n := 3) (As := [.int d, .int (nI 0), .int (nI 1000)]) (rest := []) (c_M_within) mt_M_within ms_M_within ml_M_81 rfl dd_M_key_39 ⟨xn_le rfl, xn_le rfl⟩ ⟨xn_le rfl, xn_le rfl⟩ (xn_le rfl) rfl ?_
        refine XX.bif_eq (tgt := 60) dd_M_key_42 (by decide) (fun h42 => ?_) (fun h42 => ?_)
        ·
          refine XX.iconst (v := nI 0) dd_M_key_60 (by decide) ?_
          exact XX.tp (by simp [c_key, bI, h8, h19, h30, h42]) j61
        ·
          refine XX.iload dd_M_key_45 5 rfl ?_
          refine XX.iconst (v := nI 0) dd_M_key_47 (by decide) ?_
          refine XX.bipush (v := nI 127) dd_M_key_48 (by decide) ?_
          refine XX.callSr (Mk := m_M_within) (n := 3) (As := [.int e, .int (nI 0), .int (nI 127)]) (rest := []) (c_M_within) mt_M_within ms_M_within ml_M_81 rfl dd_M_key_50 ⟨xn_le rfl, xn_le rfl⟩ ⟨xn_le rfl, xn_le rfl⟩ (xn_le rfl) rfl ?_
          refine XX.bif_eq (tgt := 60) dd_M_key_53 (by decide) (fun h53 => ?_) (fun h53 => ?_)
          ·
            refine XX.iconst (v := nI 0) dd_M_key_60 (by decide) ?_
            exact XX.tp (by simp [c_key, bI, h8, h19, h30, h42, h53]) j61
          ·
            refine XX.iconst (v := nI 1) dd_M_key_56 (by decide) ?_
            refine XX.goto (tgt := 61) dd_M_key_57 (by decide) ?_
            exact XX.tp (by simp [c_key, bI, h8, h19, h30, h42, h53]) j61

theorem vp_nar_b (x : Int8) : vp_nar .byte x.toInt32 = x.toInt32 := by
  show x.toInt32.toInt8.toInt32 = x.toInt32
  rw [Int8.toInt8_toInt32]
theorem MI.feed {s : SS} {x g : Nat → Int32} {f : Nat → Nat → Int32} (h : MI s x f) {a b c d e v : Int32} (hg : SG (o_feed s a b c d e)) (hb : ∀ i, i < s.len + 20 → g i = fd s.B s.len (fd_w a b c d e) 20 i) : MI (o_feed s a b c d e) (upd (upd (upd (upd x 19 v) 0 (nI (s.len + 20))) 2 (nI 0)) 11 (nI 0)) (fup f 0 g) :=
  ⟨hg, rfl, hb, ⟨false, rfl, fun z => absurd z (Nat.lt_irrefl _), fun z => by cases z⟩, h.x3, h.x4, h.x5, h.x6, h.k, h.x8, h.x9, h.x10, rfl, fun i hi => absurd hi (Nat.not_lt_zero _), h.x13, h.u, h.x14, h.x15, h.x16, h.tk⟩

set_option maxRecDepth 100000 in
set_option maxHeartbeats 4000000 in
theorem c_M_feed {G : XG} {q : Nat → Nat} {x : Nat → Int32} {f : Nat → Nat → Int32} {kl : va_W} {s : SS} (hm : MI s x f) {a b c d e : Int32} : MM G m_M_feed (xr 1 0 0) [.ref (q 0), .int a, .int b, .int c, .int d, .int e] (wM G q x f kl) (MQI G q kl (sel (t_feed s) (o_feed s a b c d e) s) (t_feed s) (nI (s.len + 20))) := by
  have hlen := hm.g.len
  have hkc := hm.g.kc
  have hrc := hm.g.rc
  have hun := hm.g.un
  have hlc : lnc s.B s.len ≤ s.len := lnc_le
  refine MM.of rfl (xn_le rfl) ?_
  refine (?_ : XX G m_M_feed (xr 1 0 0) (xx_F G (MQI G q kl (sel (t_feed s) (o_feed s a b c d e) s) (t_feed s) (nI (s.len + 20))) (xr 1 0 0)) 0 0 (wM G q x f kl) 0 [(0, .ref (q 0)), (1, .int a), (2, .int b), (3, .int c), (4, .int d), (5, .int e)] [])
  have loop : t_feed s = 0 → ∀ (kk k : Nat) (g : Nat → Int32), 20 - k = kk → k ≤ 20 → (∀ i, i < s.len + k → g i = fd s.B s.len (fd_w a b c d e) k i) → XX G m_M_feed (xr 1 0 0) (xx_F G (MQI G q kl (sel (t_feed s) (o_feed s a b c d e) s) (t_feed s) (nI (s.len + 20))) (xr 1 0 0)) 0 0 (wM G q (upd x 19 (nI 0)) (fup f 0 g) kl) 31 [(0, .ref (q 0)), (1, .int a), (2, .int b), (3, .int c), (4, .int d), (5, .int e), (6, .int (nI k))] [] := by
    intro ht kk
    have hl20 : s.len + 20 ≤ 20000 := (hm.g.feed (a := a) (b := b) (c := c) (d := d) (e := e) ht).len
    induction kk using Nat.strongRecOn with
    | _ kk ih =>
      intro k g hkk hk2 hg
      refine XX.iload dd_M_feed_31 6 rfl ?_
      refine XX.bipush (v := nI 20) dd_M_feed_33 (by decide) ?_
      refine XX.ncmp_ge (tgt := 118) dd_M_feed_35 (by decide) (by omega) (by omega) (fun h35 => ?_) (fun h35 => ?_)
      ·
        refine XX.aload_n dd_M_feed_118 rfl 0 rfl ?_
        refine XX.aload_n dd_M_feed_119 rfl 0 rfl ?_
        refine XX.get (q0 := 0) (v := .int ((upd x 19 (nI 0)) 0)) fl_M_60 dd_M_feed_120 rfl rfl ?_
        refine XX.tp (y := nI s.len) (hm.x0) ?_
        refine XX.bipush (v := nI 20) dd_M_feed_123 (by decide) ?_
        refine XX.iadd dd_M_feed_125 ?_
        refine XX.tp (y := nI (s.len + 20)) (nI_add _ _) ?_
        refine XX.callVx (Mk := m_M_change) (n := 1) (As := [.int (nI (s.len + 20))]) (rest := []) (q0 := 0) (ci := 9) (c_M_change (u := nI (s.len + 20))) mt_M_change mi_M_change ml_M_74 rfl dd_M_feed_126 (rfl) rfl rfl ⟨xn_le rfl, xn_le rfl⟩ ⟨xn_le rfl, xn_le rfl⟩ (xn_le rfl) rfl ?_
        refine XX.aload_n dd_M_feed_129 rfl 0 rfl ?_
        refine XX.get (q0 := 0) (v := .int (nI (s.len + 20))) fl_M_60 dd_M_feed_130 rfl rfl ?_
        exact XX.iret dd_M_feed_133 rfl ⟨xn_le rfl, xn_le rfl⟩ (MQI.ok ht rfl (MI.feed hm (hm.g.feed ht) (fun i hi => by rw [hg i (by omega), show k = 20 by omega])))
      ·
        have j84 : XX G m_M_feed (xr 1 0 0) (xx_F G (MQI G q kl (sel (t_feed s) (o_feed s a b c d e) s) (t_feed s) (nI (s.len + 20))) (xr 1 0 0)) 0 0 (wM G q (upd x 19 (nI 0)) (fup f 0 g) kl) 84 [(0, .ref (q 0)), (1, .int a), (2, .int b), (3, .int c), (4, .int d), (5, .int e), (6, .int (nI k))] [.int (fd_w a b c d e k)] := by
          refine XX.istore (lv2 := [(7, .int (fd_w a b c d e k)), (0, .ref (q 0)), (1, .int a), (2, .int b), (3, .int c), (4, .int d), (5, .int e), (6, .int (nI k))]) dd_M_feed_84 (by decide) rfl ?_
          refine XX.aload_n dd_M_feed_86 rfl 1 rfl ?_
          refine XX.get (q0 := 0) (v := .ref (q 1)) fl_M_7 dd_M_feed_87 rfl rfl ?_
          refine XX.aload_n dd_M_feed_90 rfl 1 rfl ?_
          refine XX.get (q0 := 0) (v := .int ((upd x 19 (nI 0)) 0)) fl_M_60 dd_M_feed_91 rfl rfl ?_
          refine XX.tp (y := nI s.len) (hm.x0) ?_
          refine XX.iload dd_M_feed_94 7 rfl ?_
          refine XX.iadd dd_M_feed_96 ?_
          refine XX.tp (y := nI (s.len + k)) (nI_add _ _) ?_
          refine XX.iload dd_M_feed_97 0 rfl ?_
          refine XX.bipush (v := nI 24) dd_M_feed_99 (by decide) ?_
          refine XX.bipush (v := nI 8) dd_M_feed_101 (by decide) ?_
          refine XX.iload dd_M_feed_103 7 rfl ?_
          refine XX.iconst (v := nI 4) dd_M_feed_105 (by decide) ?_
          refine XX.irem dd_M_feed_106 (xn_ne0 (by omega) (by omega)) ?_
          refine XX.tp (y := nI (k % 4)) (pk_rem (by omega) (by omega) (by omega)) ?_
          refine XX.imul dd_M_feed_107 ?_
          refine XX.tp (y := nI (8 * (k % 4))) (pk_mul _ _) ?_
          refine XX.isub dd_M_feed_108 ?_
          refine XX.tp (y := nI (24 - (8 * (k % 4)))) (pk_sub (by omega)) ?_
          refine XX.ishr dd_M_feed_109 ?_
          refine XX.i2b (v := ((fd_w a b c d e k) >>> ((nI (24 - (8 * (k % 4)))) &&& 31)).toInt8.toInt32) dd_M_feed_110 (rfl) ?_
          refine XX.bast (q0 := 1) (n := 20000) (j := s.len + k) (f := g) (ws2 := wM G q (upd x 19 (nI 0)) (fup (fup f 0 g) 0 (upd g (s.len + k) (vp_nar .byte (((fd_w a b c d e k) >>> ((nI (24 - (8 * (k % 4)))) &&& 31)).toInt8.toInt32)))) kl) dd_M_feed_111 rfl (by omega) (by decide) rfl ?_
          refine XX.iinc (z := 7) (v := nI (k + 1)) (lv2 := [(6, .int (nI (k + 1))), (7, .int (fd_w a b c d e k)), (0, .ref (q 0)), (1, .int a), (2, .int b), (3, .int c), (4, .int d), (5, .int e)]) dd_M_feed_112 rfl ((nI_succ _).symm) (by decide) rfl ?_
          refine XX.goto (tgt := 31) dd_M_feed_115 (by decide) ?_
          refine XX.cg (ws2 := wM G q (upd x 19 (nI 0)) (fup f 0 (upd g (s.len + k) (vp_nar .byte (((fd_w a b c d e k) >>> ((nI (24 - (8 * (k % 4)))) &&& 31)).toInt8.toInt32)))) kl) (by rw [fup_fup]) rfl rfl ?_
          refine XX.lvs [2, 3, 4, 5, 6, 7, 0] rfl ?_
          exact ih _ (by omega) (k + 1) _ rfl (by omega) (fun i hi => by
            rw [fd_s]
            by_cases e1 : i = s.len + k
            · rw [e1, pk_us, pk_us, vp_nar_b]; rfl
            · rw [pk_un e1, pk_un e1]; exact hg i (by omega))
        refine XX.iload dd_M_feed_38 6 rfl ?_
        refine XX.iconst (v := nI 4) dd_M_feed_40 (by decide) ?_
        refine XX.ncmp_ge (tgt := 48) dd_M_feed_41 (by decide) (by omega) (by omega) (fun h41 => ?_) (fun h41 => ?_)
        ·
          refine XX.iload dd_M_feed_48 6 rfl ?_
          refine XX.bipush (v := nI 8) dd_M_feed_50 (by decide) ?_
          refine XX.ncmp_ge (tgt := 59) dd_M_feed_52 (by decide) (by omega) (by omega) (fun h52 => ?_) (fun h52 => ?_)
          ·
            refine XX.iload dd_M_feed_59 6 rfl ?_
            refine XX.bipush (v := nI 12) dd_M_feed_61 (by decide) ?_
            refine XX.ncmp_ge (tgt := 70) dd_M_feed_63 (by decide) (by omega) (by omega) (fun h63 => ?_) (fun h63 => ?_)
            ·
              refine XX.iload dd_M_feed_70 6 rfl ?_
              refine XX.bipush (v := nI 16) dd_M_feed_72 (by decide) ?_
              refine XX.ncmp_ge (tgt := 82) dd_M_feed_74 (by decide) (by omega) (by omega) (fun h74 => ?_) (fun h74 => ?_)
              ·
                refine XX.iload dd_M_feed_82 5 rfl ?_
                exact XX.tp (by simp only [fd_w, if_neg (show ¬ k < 4 by omega), if_neg (show ¬ k < 8 by omega), if_neg (show ¬ k < 12 by omega), if_neg (show ¬ k < 16 by omega)]) j84
              ·
                refine XX.iload dd_M_feed_77 4 rfl ?_
                refine XX.goto (tgt := 84) dd_M_feed_79 (by decide) ?_
                exact XX.tp (by simp only [fd_w, if_neg (show ¬ k < 4 by omega), if_neg (show ¬ k < 8 by omega), if_neg (show ¬ k < 12 by omega), if_pos (show k < 16 by omega)]) j84
            ·
              refine XX.iload_n dd_M_feed_66 rfl 3 rfl ?_
              refine XX.goto (tgt := 84) dd_M_feed_67 (by decide) ?_
              exact XX.tp (by simp only [fd_w, if_neg (show ¬ k < 4 by omega), if_neg (show ¬ k < 8 by omega), if_pos (show k < 12 by omega)]) j84
          ·
            refine XX.iload_n dd_M_feed_55 rfl 2 rfl ?_
            refine XX.goto (tgt := 84) dd_M_feed_56 (by decide) ?_
            exact XX.tp (by simp only [fd_w, if_neg (show ¬ k < 4 by omega), if_pos (show k < 8 by omega)]) j84
        ·
          refine XX.iload_n dd_M_feed_44 rfl 1 rfl ?_
          refine XX.goto (tgt := 84) dd_M_feed_45 (by decide) ?_
          exact XX.tp (by simp only [fd_w, if_pos (show k < 4 by omega)]) j84
  refine XX.aload_n dd_M_feed_0 rfl 0 rfl ?_
  have j19 : XX G m_M_feed (xr 1 0 0) (xx_F G (MQI G q kl (sel (t_feed s) (o_feed s a b c d e) s) (t_feed s) (nI (s.len + 20))) (xr 1 0 0)) 0 0 (wM G q x f kl) 19 [(0, .ref (q 0)), (1, .int a), (2, .int b), (3, .int c), (4, .int d), (5, .int e)] [.int (bI (decide (20000 < s.len + 20))), .ref (q 0)] := by
    refine XX.iconst (v := nI 1) dd_M_feed_19 (by decide) ?_
    refine XX.callVx (Mk := m_M_fails) (n := 2) (As := [.int (bI (decide (20000 < s.len + 20))), .int (nI 1)]) (rest := []) (q0 := 0) (ci := 9) (c_M_fails (so := decide (20000 < s.len + 20)) (kd := nI 1)) mt_M_fails mi_M_fails ml_M_70 rfl dd_M_feed_20 (rfl) rfl rfl ⟨xn_le rfl, xn_le rfl⟩ ⟨xn_le rfl, xn_le rfl⟩ (xn_le rfl) rfl ?_
    refine XX.bif_eq (tgt := 28) dd_M_feed_23 (by decide) (fun h23 => ?_) (fun h23 => ?_)
    ·
      refine XX.iconst (v := nI 0) dd_M_feed_28 (by decide) ?_
      refine XX.istore (lv2 := [(6, .int (nI 0)), (0, .ref (q 0)), (1, .int a), (2, .int b), (3, .int c), (4, .int d), (5, .int e)]) dd_M_feed_29 (by decide) rfl ?_
      have ht : t_feed s = 0 := by simp only [t_feed, tb, h23]; rfl
      refine XX.cg (ws2 := wM G q (upd x 19 (nI 0)) (fup f 0 (f 0)) kl) (by rw [fup_self, h23]; rfl) rfl rfl ?_
      refine XX.lvs [1, 2, 3, 4, 5, 6, 0] rfl ?_
      exact loop ht _ 0 (f 0) rfl (by omega) (fun i hi => hm.b i (by omega))
    ·
      refine XX.iconst (v := nI 0) dd_M_feed_26 (by decide) ?_
      exact XX.iret dd_M_feed_27 rfl ⟨xn_le rfl, xn_le rfl⟩ (MQI.no (by simp only [t_feed, tb, h23]; decide) (by simp only [t_feed, tb, h23]; rfl) (hm.t19 _))
  refine XX.aload_n dd_M_feed_1 rfl 0 rfl ?_
  refine XX.get (q0 := 0) (v := .int (x 0)) fl_M_60 dd_M_feed_2 rfl rfl ?_
  refine XX.tp (y := nI s.len) (hm.x0) ?_
  refine XX.bipush (v := nI 20) dd_M_feed_5 (by decide) ?_
  refine XX.iadd dd_M_feed_7 ?_
  refine XX.tp (y := nI (s.len + 20)) (nI_add _ _) ?_
  refine XX.sipush (v := nI 20000) dd_M_feed_8 (by decide) ?_
  refine XX.ncmp_le (tgt := 18) dd_M_feed_11 (by decide) (by omega) (by omega) (fun h11 => ?_) (fun h11 => ?_)
  ·
    refine XX.iconst (v := nI 0) dd_M_feed_18 (by decide) ?_
    exact XX.tp (by exact (bI_f (by simp; omega)).symm) j19
  ·
    refine XX.iconst (v := nI 1) dd_M_feed_14 (by decide) ?_
    refine XX.goto (tgt := 19) dd_M_feed_15 (by decide) ?_
    exact XX.tp (by exact (bI_t (by simp; omega)).symm) j19

