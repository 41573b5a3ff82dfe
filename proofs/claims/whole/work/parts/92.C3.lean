set_option maxRecDepth 100000 in
set_option maxHeartbeats 4000000 in
theorem c_S_end {G : XG} {q : Nat → Nat} {x : Nat → Int32} {n : Nat → Nat} {f : Nat → Nat → Int32} {kf : Nat → Option Nat} {ks T : va_W} {s : SS} {bc : Nat} {br ka : Nat → Nat} (hc : CI s x n f kf ks bc br ka) (htr : ∀ e : Env, G.2.2.2.admits e → e.platform.stackTraces = false) {a : Int32} : MT G m_S_end (xr 6 1 6) [.ref (q 0), .int a] (wC G q x n f kf (ks ++ T)) (PT (t_end s a) (CQV G q n T (o_end s a))) (ET (t_end s a) xIA (wC G q x n f kf (ks ++ T))) := by
  have hlen := hc.g.len
  have hkc := hc.g.kc
  have hrc := hc.g.rc
  have hun := hc.g.un
  have hlc : lnc s.B s.len ≤ s.len := lnc_le
  have hbl := (brk_le hc.b).2
  have hbl1 := (brk_le hc.b).1
  refine MT.of rfl (xn_le rfl) ?_
  refine (?_ : XR G m_S_end (xr 6 1 6) (xx_FT G (PT (t_end s a) (CQV G q n T (o_end s a))) (ET (t_end s a) xIA (wC G q x n f kf (ks ++ T))) (xr 6 1 6)) (wC G q x n f kf (ks ++ T)) 0 [(0, .ref (q 0)), (1, .int a)] [])
  refine XR.iload_n dd_S_end_0 rfl 1 rfl ?_
  refine XR.iconst (v := nI 0) dd_S_end_1 (by decide) ?_
  refine XR.aload_n dd_S_end_2 rfl 0 rfl ?_
  refine XR.get (q0 := 0) (v := .ref (q 1)) fl_S_10 dd_S_end_3 rfl rfl ?_
  refine XR.get (q0 := 1) (v := .int (x 3)) fl_S_73 dd_S_end_6 rfl rfl ?_
  refine XR.tp (y := nI s.len) (hc.t.1) ?_
  refine XR.callS (Mk := m_S_isWithin) (n := 3) (As := [.int a, .int (nI 0), .int (nI s.len)]) (rest := []) (c_S_isWithin) mt_S_isWithin ms_S_isWithin ml_S_87 rfl dd_S_end_9 ⟨xn_le rfl, xn_le rfl⟩ (xn_le rfl) rfl ?_
  refine XR.bif_ne (tgt := 25) dd_S_end_12 (by decide) (fun h12 => ?_) (fun h12 => ?_)
  ·
    have ht : t_end s a = 0 := by unfold t_end; rw [h12]; rfl
    obtain ⟨hsg, ea, hm⟩ := hc.g.end_ ht
    refine XR.cg (ws2 := wC G q x n f kf (ks ++ T)) (lv2 := [(0, .ref (q 0)), (1, .int (nI (iN a)))]) rfl (by rw [← ea]) rfl ?_
    refine XR.xx (XX.ft ?_)
    refine XX.aload_n dd_S_end_25 rfl 0 rfl ?_
    refine XX.get (q0 := 0) (v := .ref (q 1)) fl_S_10 dd_S_end_26 rfl rfl ?_
    refine XX.iload_n dd_S_end_29 rfl 1 rfl ?_
    refine XX.callV (Mk := m_T_keepFirst) (n := 1) (As := [.int (nI (iN a))]) (rest := []) (q0 := 1) (ci := 1) (c_T_keepFirst hc.t hc.b (m := iN a) hm) mt_T_keepFirst mi_T_keepFirst ml_S_96 rfl dd_S_end_30 (rfl) rfl rfl ⟨xn_le rfl, xn_le rfl⟩ ⟨xn_le rfl, xn_le rfl⟩ (xn_le rfl) rfl (fun r1 w1 hp1 => ?_)
    obtain ⟨rfl, x2, bc2, rfl, a1, a2, a3⟩ := hp1
    refine (?_ : XX G m_S_end (xr 6 1 6) (xx_F G (PT (t_end s a) (CQV G q n T (o_end s a))) (xr 6 1 6)) 0 0 (wC G q x2 n f kf (ks ++ T)) 33 [(0, .ref (q 0)), (1, .int (nI (iN a)))] [])
    refine XX.aload_n dd_S_end_33 rfl 0 rfl ?_
    refine XX.iconst (v := nI 0) dd_S_end_34 (by decide) ?_
    refine XX.put (q0 := 0) (ws2 := wC G q (upd x2 0 (nI 0)) n f kf (ks ++ T)) fp_S_63 dd_S_end_35 rfl rfl rfl (xn_le rfl) rfl ?_
    exact XX.vret dd_S_end_38 rfl ⟨xn_le rfl, xn_le rfl⟩ (⟨ht, rfl, q, _, f, kf, ks, bc2, br, ka, rfl, rfl, hc.rc0 hsg (txt_mv a2 rfl rfl) a3 hc.fit hc.nn (fun i h0 h3 h4 => by rw [pk_un h0]; exact a1 i h3 h4) rfl (fun _ _ => rfl) rfl⟩)
  ·
    exact XR.throw (idx := 91) (ic := 95) (sx := 93) (xw_in mw_501 rfl) (xw_in mw_502 rfl) (xw_in mw_18 rfl) (List.mem_of_getElem? (i := 1) rfl) tw_IAE mt_S_end.1 (by decide) (by decide) (by decide) htr dd_S_end_15 dd_S_end_18 dd_S_end_19 dd_S_end_21 dd_S_end_24 (xn_le rfl) (xn_le rfl) ⟨xn_le rfl, xn_le rfl⟩ ⟨xn_le rfl, xn_le rfl⟩ (ET.of (k := 1) (by unfold t_end; rw [h12]; rfl) (by decide) rfl)

set_option maxRecDepth 100000 in
set_option maxHeartbeats 4000000 in
theorem c_S_ways {G : XG} {q : Nat → Nat} {x : Nat → Int32} {n : Nat → Nat} {f : Nat → Nat → Int32} {kf : Nat → Option Nat} {ks T : va_W} {s : SS} {bc : Nat} {br ka : Nat → Nat} (hc : CI s x n f kf ks bc br ka) (htr : ∀ e : Env, G.2.2.2.admits e → e.platform.stackTraces = false) {a : Int32} {b1 b2 : Bool} : MT G m_S_ways (xr 6 1 6) [.ref (q 0), .int a, .int (bI b1), .int (bI b2)] (wC G q x n f kf (ks ++ T)) (PT (t_ways a) (CQV G q n T (o_ways s a b1 b2))) (ET (t_ways a) xIA (wC G q x n f kf (ks ++ T))) := by
  have hlen := hc.g.len
  have hkc := hc.g.kc
  have hrc := hc.g.rc
  have hun := hc.g.un
  have hlc : lnc s.B s.len ≤ s.len := lnc_le
  have hbl := (brk_le hc.b).2
  have hbl1 := (brk_le hc.b).1
  refine MT.of rfl (xn_le rfl) ?_
  refine (?_ : XR G m_S_ways (xr 6 1 6) (xx_FT G (PT (t_ways a) (CQV G q n T (o_ways s a b1 b2))) (ET (t_ways a) xIA (wC G q x n f kf (ks ++ T))) (xr 6 1 6)) (wC G q x n f kf (ks ++ T)) 0 [(0, .ref (q 0)), (1, .int a), (2, .int (bI b1)), (3, .int (bI b2))] [])
  refine XR.iload_n dd_S_ways_0 rfl 1 rfl ?_
  refine XR.iconst (v := nI 0) dd_S_ways_1 (by decide) ?_
  refine XR.bipush (v := nI 127) dd_S_ways_2 (by decide) ?_
  refine XR.callS (Mk := m_S_isWithin) (n := 3) (As := [.int a, .int (nI 0), .int (nI 127)]) (rest := []) (c_S_isWithin) mt_S_isWithin ms_S_isWithin ml_S_87 rfl dd_S_ways_4 ⟨xn_le rfl, xn_le rfl⟩ (xn_le rfl) rfl ?_
  refine XR.bif_ne (tgt := 20) dd_S_ways_7 (by decide) (fun h7 => ?_) (fun h7 => ?_)
  ·
    have ht : t_ways a = 0 := by unfold t_ways; rw [h7]; rfl
    refine XR.xx (XX.ft ?_)
    refine XX.aload_n dd_S_ways_20 rfl 0 rfl ?_
    refine XX.get (q0 := 0) (v := .ref (q 5)) fl_S_30 dd_S_ways_21 rfl rfl ?_
    refine XX.iload_n dd_S_ways_24 rfl 1 rfl ?_
    refine XX.put (q0 := 5) (ws2 := wC G q (upd x 7 a) n f kf (ks ++ T)) fp_S_101 dd_S_ways_25 rfl rfl rfl (xn_le rfl) rfl ?_
    refine XX.aload_n dd_S_ways_28 rfl 0 rfl ?_
    refine XX.get (q0 := 0) (v := .ref (q 5)) fl_S_30 dd_S_ways_29 rfl rfl ?_
    refine XX.iload_n dd_S_ways_32 rfl 2 rfl ?_
    refine XX.put (q0 := 5) (ws2 := wC G q (upd (upd x 7 a) 8 (bI b1)) n f kf (ks ++ T)) fp_S_104 dd_S_ways_33 rfl (bI_nar _) (bI_fit _) (xn_le rfl) rfl ?_
    refine XX.aload_n dd_S_ways_36 rfl 0 rfl ?_
    refine XX.get (q0 := 0) (v := .ref (q 5)) fl_S_30 dd_S_ways_37 rfl rfl ?_
    refine XX.iload_n dd_S_ways_40 rfl 3 rfl ?_
    refine XX.put (q0 := 5) (ws2 := wC G q (upd (upd (upd x 7 a) 8 (bI b1)) 9 (bI b2)) n f kf (ks ++ T)) fp_S_108 dd_S_ways_41 rfl (bI_nar _) (bI_fit _) (xn_le rfl) rfl ?_
    exact XX.vret dd_S_ways_44 rfl ⟨xn_le rfl, xn_le rfl⟩ (⟨ht, rfl, q, _, f, kf, ks, bc, br, ka, rfl, rfl, ⟨hc.g.ways _ _ _, hc.t, hc.b, hc.fit, hc.nn, hc.x5, hc.x6, rfl, rfl, rfl, hc.k, hc.x1, hc.x2, hc.x0, hc.r, hc.x21, hc.u, hc.x22, hc.x23, hc.x24⟩⟩)
  ·
    exact XR.throw (idx := 91) (ic := 95) (sx := 99) (xw_in mw_501 rfl) (xw_in mw_502 rfl) (xw_in mw_18 rfl) (List.mem_of_getElem? (i := 2) rfl) tw_IAE mt_S_ways.1 (by decide) (by decide) (by decide) htr dd_S_ways_10 dd_S_ways_13 dd_S_ways_14 dd_S_ways_16 dd_S_ways_19 (xn_le rfl) (xn_le rfl) ⟨xn_le rfl, xn_le rfl⟩ ⟨xn_le rfl, xn_le rfl⟩ (ET.of (k := 1) (by unfold t_ways; rw [h7]; rfl) (by decide) rfl)

set_option maxRecDepth 100000 in
set_option maxHeartbeats 4000000 in
theorem c_S_separator {G : XG} {q : Nat → Nat} {x : Nat → Int32} {n : Nat → Nat} {f : Nat → Nat → Int32} {kf : Nat → Option Nat} {ks T : va_W} {s : SS} {bc : Nat} {br ka : Nat → Nat} (hc : CI s x n f kf ks bc br ka) (htr : ∀ e : Env, G.2.2.2.admits e → e.platform.stackTraces = false) {a : Int32} : MT G m_S_separator (xr 6 1 6) [.ref (q 0), .int a] (wC G q x n f kf (ks ++ T)) (PT (t_separator a) (CQV G q n T (o_separator s a))) (ET (t_separator a) xIA (wC G q x n f kf (ks ++ T))) := by
  have hlen := hc.g.len
  have hkc := hc.g.kc
  have hrc := hc.g.rc
  have hun := hc.g.un
  have hlc : lnc s.B s.len ≤ s.len := lnc_le
  have hbl := (brk_le hc.b).2
  have hbl1 := (brk_le hc.b).1
  refine MT.of rfl (xn_le rfl) ?_
  refine (?_ : XR G m_S_separator (xr 6 1 6) (xx_FT G (PT (t_separator a) (CQV G q n T (o_separator s a))) (ET (t_separator a) xIA (wC G q x n f kf (ks ++ T))) (xr 6 1 6)) (wC G q x n f kf (ks ++ T)) 0 [(0, .ref (q 0)), (1, .int a)] [])
  refine XR.iload_n dd_S_separator_0 rfl 1 rfl ?_
  refine XR.iconst (v := -1) dd_S_separator_1 (by decide) ?_
  refine XR.sipush (v := nI 255) dd_S_separator_2 (by decide) ?_
  refine XR.callS (Mk := m_S_isWithin) (n := 3) (As := [.int a, .int (-1), .int (nI 255)]) (rest := []) (c_S_isWithin) mt_S_isWithin ms_S_isWithin ml_S_87 rfl dd_S_separator_5 ⟨xn_le rfl, xn_le rfl⟩ (xn_le rfl) rfl ?_
  refine XR.bif_eq (tgt := 17) dd_S_separator_8 (by decide) (fun h8 => ?_) (fun h8 => ?_)
  ·
    exact XR.throw (idx := 91) (ic := 95) (sx := 111) (xw_in mw_501 rfl) (xw_in mw_502 rfl) (xw_in mw_18 rfl) (List.mem_of_getElem? (i := 3) rfl) tw_IAE mt_S_separator.1 (by decide) (by decide) (by decide) htr dd_S_separator_17 dd_S_separator_20 dd_S_separator_21 dd_S_separator_23 dd_S_separator_26 (xn_le rfl) (xn_le rfl) ⟨xn_le rfl, xn_le rfl⟩ ⟨xn_le rfl, xn_le rfl⟩ (ET.of (k := 1) (by unfold t_separator tb; simp [h8]) (by decide) rfl)
  ·
    refine XR.iload_n dd_S_separator_11 rfl 1 rfl ?_
    refine XR.bipush (v := nI 10) dd_S_separator_12 (by decide) ?_
    refine XR.icmp_ne (tgt := 27) dd_S_separator_14 (by decide) (fun h14 => ?_) (fun h14 => ?_)
    ·
      have ht : t_separator a = 0 := by unfold t_separator tb; simp [h8, h14]
      refine XR.xx (XX.ft ?_)
      refine XX.aload_n dd_S_separator_27 rfl 0 rfl ?_
      refine XX.get (q0 := 0) (v := .ref (q 4)) fl_S_21 dd_S_separator_28 rfl rfl ?_
      refine XX.iload_n dd_S_separator_31 rfl 1 rfl ?_
      refine XX.put (q0 := 4) (ws2 := wC G q (upd x 5 a) n f kf (ks ++ T)) fp_S_113 dd_S_separator_32 rfl rfl rfl (xn_le rfl) rfl ?_
      exact XX.vret dd_S_separator_35 rfl ⟨xn_le rfl, xn_le rfl⟩ (⟨ht, rfl, q, _, f, kf, ks, bc, br, ka, rfl, rfl, ⟨hc.g.separator _, hc.t, hc.b, hc.fit, hc.nn, rfl, hc.x6, hc.x7, hc.x8, hc.x9, hc.k, hc.x1, hc.x2, hc.x0, hc.r, hc.x21, hc.u, hc.x22, hc.x23, hc.x24⟩⟩)
    ·
      exact XR.throw (idx := 91) (ic := 95) (sx := 111) (xw_in mw_501 rfl) (xw_in mw_502 rfl) (xw_in mw_18 rfl) (List.mem_of_getElem? (i := 3) rfl) tw_IAE mt_S_separator.1 (by decide) (by decide) (by decide) htr dd_S_separator_17 dd_S_separator_20 dd_S_separator_21 dd_S_separator_23 dd_S_separator_26 (xn_le rfl) (xn_le rfl) ⟨xn_le rfl, xn_le rfl⟩ ⟨xn_le rfl, xn_le rfl⟩ (ET.of (k := 1) (by unfold t_separator tb; simp [h8, h14]) (by decide) rfl)

set_option maxRecDepth 100000 in
set_option maxHeartbeats 4000000 in
theorem c_S_memory {G : XG} {q : Nat → Nat} {x : Nat → Int32} {n : Nat → Nat} {f : Nat → Nat → Int32} {kf : Nat → Option Nat} {ks T : va_W} {s : SS} {bc : Nat} {br ka : Nat → Nat} (hc : CI s x n f kf ks bc br ka) (htr : ∀ e : Env, G.2.2.2.admits e → e.platform.stackTraces = false) {a b : Int32} : MT G m_S_memory (xr 6 1 6) [.ref (q 0), .int a, .int b] (wC G q x n f kf (ks ++ T)) (PT (t_memory a b) (CQV G q n T (o_memory s a b))) (ET (t_memory a b) xIA (wC G q x n f kf (ks ++ T))) := by
  have hlen := hc.g.len
  have hkc := hc.g.kc
  have hrc := hc.g.rc
  have hun := hc.g.un
  have hlc : lnc s.B s.len ≤ s.len := lnc_le
  have hbl := (brk_le hc.b).2
  have hbl1 := (brk_le hc.b).1
  refine MT.of rfl (xn_le rfl) ?_
  refine (?_ : XR G m_S_memory (xr 6 1 6) (xx_FT G (PT (t_memory a b) (CQV G q n T (o_memory s a b))) (ET (t_memory a b) xIA (wC G q x n f kf (ks ++ T))) (xr 6 1 6)) (wC G q x n f kf (ks ++ T)) 0 [(0, .ref (q 0)), (1, .int a), (2, .int b)] [])
  refine XR.iload_n dd_S_memory_0 rfl 1 rfl ?_
  refine XR.iconst (v := nI 2) dd_S_memory_1 (by decide) ?_
  refine XR.sipush (v := nI 500) dd_S_memory_2 (by decide) ?_
  refine XR.callS (Mk := m_S_isWithin) (n := 3) (As := [.int a, .int (nI 2), .int (nI 500)]) (rest := []) (c_S_isWithin) mt_S_isWithin ms_S_isWithin ml_S_87 rfl dd_S_memory_5 ⟨xn_le rfl, xn_le rfl⟩ (xn_le rfl) rfl ?_
  refine XR.bif_eq (tgt := 21) dd_S_memory_8 (by decide) (fun h8 => ?_) (fun h8 => ?_)
  ·
    exact XR.throw (idx := 91) (ic := 95) (sx := 135) (xw_in mw_501 rfl) (xw_in mw_502 rfl) (xw_in mw_18 rfl) (List.mem_of_getElem? (i := 6) rfl) tw_IAE mt_S_memory.1 (by decide) (by decide) (by decide) htr dd_S_memory_21 dd_S_memory_24 dd_S_memory_25 dd_S_memory_27 dd_S_memory_30 (xn_le rfl) (xn_le rfl) ⟨xn_le rfl, xn_le rfl⟩ ⟨xn_le rfl, xn_le rfl⟩ (ET.of (k := 1) (by unfold t_memory tb; simp [h8]) (by decide) rfl)
  ·
    refine XR.iload_n dd_S_memory_11 rfl 2 rfl ?_
    refine XR.iconst (v := nI 2) dd_S_memory_12 (by decide) ?_
    refine XR.bipush (v := nI 16) dd_S_memory_13 (by decide) ?_
    refine XR.callS (Mk := m_S_isWithin) (n := 3) (As := [.int b, .int (nI 2), .int (nI 16)]) (rest := []) (c_S_isWithin) mt_S_isWithin ms_S_isWithin ml_S_87 rfl dd_S_memory_15 ⟨xn_le rfl, xn_le rfl⟩ (xn_le rfl) rfl ?_
    refine XR.bif_ne (tgt := 31) dd_S_memory_18 (by decide) (fun h18 => ?_) (fun h18 => ?_)
    ·
      have ht : t_memory a b = 0 := by unfold t_memory tb; simp [h8, h18]
      obtain ⟨ea, eb, _⟩ := memory_n ht
      refine XR.xx (XX.ft ?_)
      refine XX.aload_n dd_S_memory_31 rfl 0 rfl ?_
      refine XX.iload_n dd_S_memory_32 rfl 1 rfl ?_
      refine XX.put (q0 := 0) (ws2 := wC G q (upd x 1 a) n f kf (ks ++ T)) fp_S_67 dd_S_memory_33 rfl rfl rfl (xn_le rfl) rfl ?_
      refine XX.aload_n dd_S_memory_36 rfl 0 rfl ?_
      refine XX.iload_n dd_S_memory_37 rfl 2 rfl ?_
      refine XX.put (q0 := 0) (ws2 := wC G q (upd (upd x 1 a) 2 b) n f kf (ks ++ T)) fp_S_70 dd_S_memory_38 rfl rfl rfl (xn_le rfl) rfl ?_
      exact XX.vret dd_S_memory_41 rfl ⟨xn_le rfl, xn_le rfl⟩ (⟨ht, rfl, q, _, f, kf, ks, bc, br, ka, rfl, rfl, ⟨hc.g.memory ht, hc.t, hc.b, hc.fit, hc.nn, hc.x5, hc.x6, hc.x7, hc.x8, hc.x9, hc.k, ea, eb, hc.x0, hc.r, hc.x21, hc.u, hc.x22, hc.x23, hc.x24⟩⟩)
    ·
      exact XR.throw (idx := 91) (ic := 95) (sx := 135) (xw_in mw_501 rfl) (xw_in mw_502 rfl) (xw_in mw_18 rfl) (List.mem_of_getElem? (i := 6) rfl) tw_IAE mt_S_memory.1 (by decide) (by decide) (by decide) htr dd_S_memory_21 dd_S_memory_24 dd_S_memory_25 dd_S_memory_27 dd_S_memory_30 (xn_le rfl) (xn_le rfl) ⟨xn_le rfl, xn_le rfl⟩ ⟨xn_le rfl, xn_le rfl⟩ (ET.of (k := 1) (by unfold t_memory tb; simp [h8, h18]) (by decide) rfl)

set_option maxRecDepth 100000 in
set_option maxHeartbeats 4000000 in
theorem c_S_compare {G : XG} {q : Nat → Nat} {x : Nat → Int32} {n : Nat → Nat} {f : Nat → Nat → Int32} {kf : Nat → Option Nat} {ks T : va_W} {s : SS} {bc : Nat} {br ka : Nat → Nat} (hc : CI s x n f kf ks bc br ka) (htr : ∀ e : Env, G.2.2.2.admits e → e.platform.stackTraces = false) {a b : Int32} : MT G m_S_compare (xr 6 1 6) [.ref (q 0), .int a, .int b] (wC G q x n f kf (ks ++ T)) (PT (t_compare s a b) (CQI G q n T s (v_compare s a b))) (ET (t_compare s a b) xIO (wC G q x n f kf (ks ++ T))) := by
  have hlen := hc.g.len
  have hkc := hc.g.kc
  have hrc := hc.g.rc
  have hun := hc.g.un
  have hlc : lnc s.B s.len ≤ s.len := lnc_le
  have hbl := (brk_le hc.b).2
  have hbl1 := (brk_le hc.b).1
  refine MT.of rfl (xn_le rfl) ?_
  refine (?_ : XR G m_S_compare (xr 6 1 6) (xx_FT G (PT (t_compare s a b) (CQI G q n T s (v_compare s a b))) (ET (t_compare s a b) xIO (wC G q x n f kf (ks ++ T))) (xr 6 1 6)) (wC G q x n f kf (ks ++ T)) 0 [(0, .ref (q 0)), (1, .int a), (2, .int b)] [])
  refine XR.aload_n dd_S_compare_0 rfl 0 rfl ?_
  refine XR.iload_n dd_S_compare_1 rfl 1 rfl ?_
  refine XR.callV (Mk := m_S_isLine) (n := 1) (As := [.int a]) (rest := []) (q0 := 0) (ci := 0) (c_S_isLine hc) mt_S_isLine mi_S_isLine ml_S_141 rfl dd_S_compare_2 (rfl) rfl rfl ⟨xn_le rfl, xn_le rfl⟩ (xn_le rfl) rfl ?_
  refine XR.bif_eq (tgt := 16) dd_S_compare_5 (by decide) (fun h5 => ?_) (fun h5 => ?_)
  ·
    exact XR.throw (idx := 148) (ic := 152) (sx := 172) (xw_in mw_589 rfl) (xw_in mw_590 rfl) (xw_in mw_20 rfl) (List.mem_of_getElem? (i := 8) rfl) tw_IOB mt_S_compare.1 (by decide) (by decide) (by decide) htr dd_S_compare_16 dd_S_compare_19 dd_S_compare_20 dd_S_compare_22 dd_S_compare_25 (xn_le rfl) (xn_le rfl) ⟨xn_le rfl, xn_le rfl⟩ ⟨xn_le rfl, xn_le rfl⟩ (ET.of (k := 1) (by unfold t_compare tb; simp [h5]) (by decide) rfl)
  ·
    refine XR.aload_n dd_S_compare_8 rfl 0 rfl ?_
    refine XR.iload_n dd_S_compare_9 rfl 2 rfl ?_
    refine XR.callV (Mk := m_S_isLine) (n := 1) (As := [.int b]) (rest := []) (q0 := 0) (ci := 0) (c_S_isLine hc) mt_S_isLine mi_S_isLine ml_S_141 rfl dd_S_compare_10 (rfl) rfl rfl ⟨xn_le rfl, xn_le rfl⟩ (xn_le rfl) rfl ?_
    refine XR.bif_ne (tgt := 26) dd_S_compare_13 (by decide) (fun h13 => ?_) (fun h13 => ?_)
    ·
      have ht : t_compare s a b = 0 := by unfold t_compare tb; simp [h5, h13]
      obtain ⟨la, ea, hla⟩ := inr_t h5 (by omega)
      obtain ⟨lb, eb, hlb⟩ := inr_t h13 (by omega)
      have hv : oI (sk_o s la lb) = v_compare s a b := by unfold v_compare; rw [ea, eb, iN_nI (by omega), iN_nI (by omega)]
      refine XR.cg (ws2 := wC G q x n f kf (ks ++ T)) (lv2 := [(0, .ref (q 0)), (1, .int (nI la)), (2, .int (nI lb))]) rfl (by rw [ea, eb]) rfl ?_
      refine XR.xx (XX.ft ?_)
      refine XX.aload_n dd_S_compare_26 rfl 0 rfl ?_
      refine XX.get (q0 := 0) (v := .ref (q 5)) fl_S_30 dd_S_compare_27 rfl rfl ?_
      refine XX.iload_n dd_S_compare_30 rfl 1 rfl ?_
      refine XX.iload_n dd_S_compare_31 rfl 2 rfl ?_
      refine XX.callV (Mk := m_O_comparedByKeys) (n := 2) (As := [.int (nI la), .int (nI lb)]) (rest := []) (q0 := 5) (ci := 3) (cmpK (hc.j T) (la := la) (lb := lb) (by omega) (by omega)) mt_O_comparedByKeys mi_O_comparedByKeys ml_S_174 rfl dd_S_compare_32 (rfl) rfl rfl ⟨xn_le rfl, xn_le rfl⟩ ⟨xn_le rfl, xn_le rfl⟩ (xn_le rfl) rfl (fun r1 w1 hp1 => ?_)
      obtain ⟨rfl, x3, rfl, hq3⟩ := hp1
      have hx3 := hc.agn hq3
      refine (?_ : XX G m_S_compare (xr 6 1 6) (xx_F G (PT (t_compare s a b) (CQI G q n T s (v_compare s a b))) (xr 6 1 6)) 0 0 (wC G q x3 n f kf (ks ++ T)) 35 [(0, .ref (q 0)), (1, .int (nI la)), (2, .int (nI lb))] [.int (oI (sk_o s la lb))])
      exact XX.iret dd_S_compare_35 rfl ⟨xn_le rfl, xn_le rfl⟩ (⟨ht, by rw [hv], CW.of hx3⟩)
    ·
      exact XR.throw (idx := 148) (ic := 152) (sx := 172) (xw_in mw_589 rfl) (xw_in mw_590 rfl) (xw_in mw_20 rfl) (List.mem_of_getElem? (i := 8) rfl) tw_IOB mt_S_compare.1 (by decide) (by decide) (by decide) htr dd_S_compare_16 dd_S_compare_19 dd_S_compare_20 dd_S_compare_22 dd_S_compare_25 (xn_le rfl) (xn_le rfl) ⟨xn_le rfl, xn_le rfl⟩ ⟨xn_le rfl, xn_le rfl⟩ (ET.of (k := 1) (by unfold t_compare tb; simp [h5, h13]) (by decide) rfl)

set_option maxRecDepth 100000 in
set_option maxHeartbeats 4000000 in
theorem c_S_about {G : XG} {q : Nat → Nat} {x : Nat → Int32} {n : Nat → Nat} {f : Nat → Nat → Int32} {kf : Nat → Option Nat} {ks T : va_W} {s : SS} {bc : Nat} {br ka : Nat → Nat} (hc : CI s x n f kf ks bc br ka) (htr : ∀ e : Env, G.2.2.2.admits e → e.platform.stackTraces = false) {a : Int32} : MT G m_S_about (xr 6 1 6) [.ref (q 0), .int a] (wC G q x n f kf (ks ++ T)) (PT (t_about a) (CQI G q n T s (v_about s a))) (ET (t_about a) xIA (wC G q x n f kf (ks ++ T))) := by
  have hlen := hc.g.len
  have hkc := hc.g.kc
  have hrc := hc.g.rc
  have hun := hc.g.un
  have hlc : lnc s.B s.len ≤ s.len := lnc_le
  have hbl := (brk_le hc.b).2
  have hbl1 := (brk_le hc.b).1
  refine MT.of rfl (xn_le rfl) ?_
  refine (?_ : XR G m_S_about (xr 6 1 6) (xx_FT G (PT (t_about a) (CQI G q n T s (v_about s a))) (ET (t_about a) xIA (wC G q x n f kf (ks ++ T))) (xr 6 1 6)) (wC G q x n f kf (ks ++ T)) 0 [(0, .ref (q 0)), (1, .int a)] [])
  refine XR.iload_n dd_S_about_0 rfl 1 rfl ?_
  cases hwi : wi a (nI 0) (nI 6) with
  | false =>
    have hout : a.toInt < 0 ∨ 6 < a.toInt := by
      unfold wi at hwi
      rcases Bool.and_eq_false_iff.mp hwi with z | z
      · left; have z2 : a < nI 0 := by simpa using z
        rw [Int32.lt_iff_toInt_lt, nI_toInt (by omega)] at z2; exact z2
      · right; have z2 : nI 6 < a := by simpa using z
        rw [Int32.lt_iff_toInt_lt, nI_toInt (by omega)] at z2; exact z2
    refine XR.tabOut (tgt := 97) dd_S_about_1 hout (by decide) ?_
    exact XR.throw (idx := 91) (ic := 95) (sx := 234) (xw_in mw_501 rfl) (xw_in mw_502 rfl) (xw_in mw_18 rfl) (List.mem_of_getElem? (i := 11) rfl) tw_IAE mt_S_about.1 (by decide) (by decide) (by decide) htr dd_S_about_97 dd_S_about_100 dd_S_about_101 dd_S_about_103 dd_S_about_106 (xn_le rfl) (xn_le rfl) ⟨xn_le rfl, xn_le rfl⟩ ⟨xn_le rfl, xn_le rfl⟩ (ET.of (k := 1) (by unfold t_about; rw [hwi]; rfl) (by decide) rfl)
  | true =>
    have ht : t_about a = 0 := by unfold t_about; rw [hwi]; rfl
    obtain ⟨la, ea, _, hla⟩ := wi_t hwi (by omega) (by omega)
    have hl6 : la = 0 ∨ la = 1 ∨ la = 2 ∨ la = 3 ∨ la = 4 ∨ la = 5 ∨ la = 6 := by omega
    rcases hl6 with rfl | rfl | rfl | rfl | rfl | rfl | rfl
    · refine XR.tp (y := nI 0) ea ?_
      refine XR.tabIn (tgt := 44) dd_S_about_1 (by decide) (by decide) (off := 43) (by decide) (by decide) ?_
      refine XR.xx (XX.ft ?_)
      refine XX.aload_n dd_S_about_44 rfl 0 rfl ?_
      refine XX.get (q0 := 0) (v := .ref (q 15)) fl_S_55 dd_S_about_45 rfl rfl ?_
      refine XX.get (q0 := 15) (v := .int (x 21)) fl_S_222 dd_S_about_48 rfl rfl ?_
      refine XX.tp (y := nI s.un) (hc.x21) ?_
      have hv : v_about s a = nI s.un := by unfold v_about; rw [ea]; rfl
      exact XX.iret dd_S_about_51 rfl ⟨xn_le rfl, xn_le rfl⟩ (⟨ht, by rw [hv], CW.of hc⟩)
    · refine XR.tp (y := nI 1) ea ?_
      refine XR.tabIn (tgt := 52) dd_S_about_1 (by decide) (by decide) (off := 51) (by decide) (by decide) ?_
      refine XR.xx (XX.ft ?_)
      refine XX.aload_n dd_S_about_52 rfl 0 rfl ?_
      refine XX.get (q0 := 0) (v := .ref (q 15)) fl_S_55 dd_S_about_53 rfl rfl ?_
      refine XX.get (q0 := 15) (v := .int (x 22)) fl_S_228 dd_S_about_56 rfl rfl ?_
      refine XX.tp (y := nI s.mg) (hc.x22) ?_
      have hv : v_about s a = nI s.mg := by unfold v_about; rw [ea]; rfl
      exact XX.iret dd_S_about_59 rfl ⟨xn_le rfl, xn_le rfl⟩ (⟨ht, by rw [hv], CW.of hc⟩)
    · refine XR.tp (y := nI 2) ea ?_
      refine XR.tabIn (tgt := 60) dd_S_about_1 (by decide) (by decide) (off := 59) (by decide) (by decide) ?_
      refine XR.xx (XX.ft ?_)
      refine XX.aload_n dd_S_about_60 rfl 0 rfl ?_
      refine XX.get (q0 := 0) (v := .ref (q 15)) fl_S_55 dd_S_about_61 rfl rfl ?_
      refine XX.get (q0 := 15) (v := .int (x 23)) fl_S_231 dd_S_about_64 rfl rfl ?_
      refine XX.tp (y := nI s.mv) (hc.x23) ?_
      have hv : v_about s a = nI s.mv := by unfold v_about; rw [ea]; rfl
      exact XX.iret dd_S_about_67 rfl ⟨xn_le rfl, xn_le rfl⟩ (⟨ht, by rw [hv], CW.of hc⟩)
    · refine XR.tp (y := nI 3) ea ?_
      refine XR.tabIn (tgt := 68) dd_S_about_1 (by decide) (by decide) (off := 67) (by decide) (by decide) ?_
      refine XR.xx (XX.ft ?_)
      refine XX.aload_n dd_S_about_68 rfl 0 rfl ?_
      refine XX.get (q0 := 0) (v := .ref (q 15)) fl_S_55 dd_S_about_69 rfl rfl ?_
      refine XX.get (q0 := 15) (v := .int (x 24)) fl_S_196 dd_S_about_72 rfl rfl ?_
      refine XX.tp (y := nI s.gn) (hc.x24) ?_
      have hv : v_about s a = nI s.gn := by unfold v_about; rw [ea]; rfl
      exact XX.iret dd_S_about_75 rfl ⟨xn_le rfl, xn_le rfl⟩ (⟨ht, by rw [hv], CW.of hc⟩)
    · refine XR.tp (y := nI 4) ea ?_
      refine XR.tabIn (tgt := 76) dd_S_about_1 (by decide) (by decide) (off := 75) (by decide) (by decide) ?_
      refine XR.xx (XX.ft ?_)
      refine XX.aload_n dd_S_about_76 rfl 0 rfl ?_
      refine XX.get (q0 := 0) (v := .ref (q 1)) fl_S_10 dd_S_about_77 rfl rfl ?_
      refine XX.get (q0 := 1) (v := .int (x 3)) fl_S_73 dd_S_about_80 rfl rfl ?_
      refine XX.tp (y := nI s.len) (hc.t.1) ?_
      have hv : v_about s a = nI s.len := by unfold v_about; rw [ea]; rfl
      exact XX.iret dd_S_about_83 rfl ⟨xn_le rfl, xn_le rfl⟩ (⟨ht, by rw [hv], CW.of hc⟩)
    · refine XR.tp (y := nI 5) ea ?_
      refine XR.tabIn (tgt := 84) dd_S_about_1 (by decide) (by decide) (off := 83) (by decide) (by decide) ?_
      refine XR.xx (XX.ft ?_)
      refine XX.aload_n dd_S_about_84 rfl 0 rfl ?_
      refine XX.get (q0 := 0) (v := .ref (q 5)) fl_S_30 dd_S_about_85 rfl rfl ?_
      refine XX.get (q0 := 5) (v := .int (x 6)) fl_S_118 dd_S_about_88 rfl rfl ?_
      refine XX.tp (y := nI s.kc) (hc.x6) ?_
      have hv : v_about s a = nI s.kc := by unfold v_about; rw [ea]; rfl
      exact XX.iret dd_S_about_91 rfl ⟨xn_le rfl, xn_le rfl⟩ (⟨ht, by rw [hv], CW.of hc⟩)
    · refine XR.tp (y := nI 6) ea ?_
      refine XR.tabIn (tgt := 92) dd_S_about_1 (by decide) (by decide) (off := 91) (by decide) (by decide) ?_
      refine XR.xx (XX.ft ?_)
      refine XX.aload_n dd_S_about_92 rfl 0 rfl ?_
      refine XX.get (q0 := 0) (v := .int (x 0)) fl_S_63 dd_S_about_93 rfl rfl ?_
      refine XX.tp (y := nI s.rc) (hc.x0) ?_
      have hv : v_about s a = nI s.rc := by unfold v_about; rw [ea]; rfl
      exact XX.iret dd_S_about_96 rfl ⟨xn_le rfl, xn_le rfl⟩ (⟨ht, by rw [hv], CW.of hc⟩)

set_option maxRecDepth 100000 in
set_option maxHeartbeats 4000000 in
theorem c_S_place {G : XG} {q : Nat → Nat} {x : Nat → Int32} {n : Nat → Nat} {f : Nat → Nat → Int32} {kf : Nat → Option Nat} {ks T : va_W} {s : SS} {bc : Nat} {br ka : Nat → Nat} (hc : CI s x n f kf ks bc br ka) (htr : ∀ e : Env, G.2.2.2.admits e → e.platform.stackTraces = false) {a b : Int32} {e : Bool} : MT G m_S_place (xr 6 1 6) [.ref (q 0), .int a, .int b, .int (bI e)] (wC G q x n f kf (ks ++ T)) (PT (t_place s a b) (CQI G q n T s (v_place s a b e))) (ET (t_place s a b) xIO (wC G q x n f kf (ks ++ T))) := by
  have hlen := hc.g.len
  have hkc := hc.g.kc
  have hrc := hc.g.rc
  have hun := hc.g.un
  have hlc : lnc s.B s.len ≤ s.len := lnc_le
  have hbl := (brk_le hc.b).2
  have hbl1 := (brk_le hc.b).1
  refine MT.of rfl (xn_le rfl) ?_
  refine (?_ : XR G m_S_place (xr 6 1 6) (xx_FT G (PT (t_place s a b) (CQI G q n T s (v_place s a b e))) (ET (t_place s a b) xIO (wC G q x n f kf (ks ++ T))) (xr 6 1 6)) (wC G q x n f kf (ks ++ T)) 0 [(0, .ref (q 0)), (1, .int a), (2, .int b), (3, .int (bI e))] [])
  refine XR.aload_n dd_S_place_0 rfl 0 rfl ?_
  refine XR.iload_n dd_S_place_1 rfl 1 rfl ?_
  refine XR.callV (Mk := m_S_isLine) (n := 1) (As := [.int a]) (rest := []) (q0 := 0) (ci := 0) (c_S_isLine hc) mt_S_isLine mi_S_isLine ml_S_141 rfl dd_S_place_2 (rfl) rfl rfl ⟨xn_le rfl, xn_le rfl⟩ (xn_le rfl) rfl ?_
  refine XR.bif_eq (tgt := 25) dd_S_place_5 (by decide) (fun h5 => ?_) (fun h5 => ?_)
  ·
    exact XR.throw (idx := 148) (ic := 152) (sx := 150) (xw_in mw_589 rfl) (xw_in mw_590 rfl) (xw_in mw_20 rfl) (List.mem_of_getElem? (i := 7) rfl) tw_IOB mt_S_place.1 (by decide) (by decide) (by decide) htr dd_S_place_25 dd_S_place_28 dd_S_place_29 dd_S_place_31 dd_S_place_34 (xn_le rfl) (xn_le rfl) ⟨xn_le rfl, xn_le rfl⟩ ⟨xn_le rfl, xn_le rfl⟩ (ET.of (k := 1) (by unfold t_place tb; simp [h5]) (by decide) rfl)
  ·
    refine XR.iload_n dd_S_place_8 rfl 2 rfl ?_
    refine XR.iconst (v := nI 0) dd_S_place_9 (by decide) ?_
    refine XR.aload_n dd_S_place_10 rfl 0 rfl ?_
    refine XR.get (q0 := 0) (v := .ref (q 5)) fl_S_30 dd_S_place_11 rfl rfl ?_
    refine XR.callV (Mk := m_O_keysInUse) (n := 0) (As := []) (rest := [.int (nI 0), .int b]) (q0 := 5) (ci := 3) (c_O_keysInUse hc.x6 hkc) mt_O_keysInUse mi_O_keysInUse ml_S_145 rfl dd_S_place_14 (rfl) rfl rfl ⟨xn_le rfl, xn_le rfl⟩ (xn_le rfl) rfl ?_
    refine XR.iconst (v := nI 1) dd_S_place_17 (by decide) ?_
    refine XR.isub dd_S_place_18 ?_
    refine XR.callS (Mk := m_S_isWithin) (n := 3) (As := [.int b, .int (nI 0), .int ((nI (max 1 s.kc)) - (nI 1))]) (rest := []) (c_S_isWithin) mt_S_isWithin ms_S_isWithin ml_S_87 rfl dd_S_place_19 ⟨xn_le rfl, xn_le rfl⟩ (xn_le rfl) rfl ?_
    refine XR.tp (y := bI (inr b (max 1 s.kc))) (by rw [wi_inr (by omega)]) ?_
    refine XR.bif_ne (tgt := 35) dd_S_place_22 (by decide) (fun h22 => ?_) (fun h22 => ?_)
    ·
      have ht : t_place s a b = 0 := by unfold t_place tb; simp [h5, h22]
      obtain ⟨la, ea, hla⟩ := inr_t h5 (by omega)
      obtain ⟨lb, eb, hlb⟩ := inr_t h22 (by omega)
      have hst := brk_st hc.b hla
      have hen := brk_en hc.b hla
      have hse := brk_se hc.b hla
      obtain ⟨kp, he, e0, e0b, e1, e1b, e2, e3⟩ := ky_cell (G := G) (q := q) (x := x) (n := n) (f := f) (kys_app hc.k T) lb
      refine XR.cg (ws2 := wC G q x n f kf (ks ++ T)) (lv2 := [(0, .ref (q 0)), (1, .int (nI la)), (2, .int (nI lb)), (3, .int (bI e))]) rfl (by rw [ea, eb]) rfl ?_
      refine XR.xx (XX.ft ?_)
      refine XX.aload_n dd_S_place_35 rfl 0 rfl ?_
      refine XX.get (q0 := 0) (v := .ref (q 5)) fl_S_30 dd_S_place_36 rfl rfl ?_
      refine XX.iload_n dd_S_place_39 rfl 2 rfl ?_
      refine XX.callVr (Mk := m_O_keyInUse) (n := 1) (As := [.int (nI lb)]) (rest := []) (q0 := 5) (ci := 3) (c_O_keyInUse hc.x6 (kys_app hc.k T) (k := lb) (by omega)) mt_O_keyInUse mi_O_keyInUse ml_S_153 rfl dd_S_place_40 (rfl) rfl rfl ⟨xn_le rfl, xn_le rfl⟩ ⟨xn_le rfl, xn_le rfl⟩ (xn_le rfl) rfl ?_
      refine XX.astore (lv2 := [(4, .ref (kuu q ka s.kc lb)), (0, .ref (q 0)), (1, .int (nI la)), (2, .int (nI lb)), (3, .int (bI e))]) dd_S_place_43 (by decide) rfl ?_
      refine XX.aload_n dd_S_place_45 rfl 1 rfl ?_
      refine XX.get (q0 := 0) (v := .ref (q 5)) fl_S_30 dd_S_place_46 rfl rfl ?_
      refine XX.aload dd_S_place_49 0 rfl ?_
      refine XX.callVr (Mk := m_O_flagsOf) (n := 1) (As := [.ref (kuu q ka s.kc lb)]) (rest := []) (q0 := 5) (ci := 3) (c_O_flagsOf he hc.x7) mt_O_flagsOf mi_O_flagsOf ml_S_157 rfl dd_S_place_51 (rfl) rfl rfl ⟨xn_le rfl, xn_le rfl⟩ ⟨xn_le rfl, xn_le rfl⟩ (xn_le rfl) rfl ?_
      refine XX.istore (lv2 := [(5, .int (ky_fl (kgu s.kc s.kg lb) s.all)), (4, .ref (kuu q ka s.kc lb)), (0, .ref (q 0)), (1, .int (nI la)), (2, .int (nI lb)), (3, .int (bI e))]) dd_S_place_54 (by decide) rfl ?_
      refine XX.iload_n dd_S_place_56 rfl 5 rfl ?_
      refine XX.bif_eq (tgt := 75) dd_S_place_57 (by decide) (fun h57 => ?_) (fun h57 => ?_)
      ·
        refine XX.aload_n dd_S_place_75 rfl 2 rfl ?_
        refine XX.get (q0 := 0) (v := .ref (q 4)) fl_S_21 dd_S_place_76 rfl rfl ?_
        refine XX.aload dd_S_place_79 1 rfl ?_
        refine XX.iload dd_S_place_81 0 rfl ?_
        refine XX.iload_n dd_S_place_83 rfl 3 rfl ?_
        refine XX.callVr (Mk := m_P_beginOf) (n := 3) (As := [.ref (kuu q ka s.kc lb), .int (ky_fl (kgu s.kc s.kg lb) s.all), .int (nI la)]) (rest := []) (q0 := 4) (ci := 2) (c_P_beginOf hc.t hc.x5 he (fl := ky_fl (kgu s.kc s.kg lb) s.all) (l := la) (by omega) hse e0 e0b e1 e1b e2 e3) mt_P_beginOf mi_P_beginOf ml_S_165 rfl dd_S_place_84 (rfl) rfl rfl ⟨xn_le rfl, xn_le rfl⟩ ⟨xn_le rfl, xn_le rfl⟩ (xn_le rfl) rfl ?_
        refine XX.istore (lv2 := [(6, .int (nI (ky_begin s.B s.sep (ky_fl (kgu s.kc s.kg lb) s.all) (kdu s.kc s.kd lb 0) (kdu s.kc s.kd lb 1) (tx_start br la) (tx_stop s.len bc br la)))), (5, .int (ky_fl (kgu s.kc s.kg lb) s.all)), (4, .ref (kuu q ka s.kc lb)), (0, .ref (q 0)), (1, .int (nI la)), (2, .int (nI lb)), (3, .int (bI e))]) dd_S_place_87 (by decide) rfl ?_
        refine XX.iload dd_S_place_89 0 rfl ?_
        refine XX.aload_n dd_S_place_91 rfl 3 rfl ?_
        refine XX.get (q0 := 0) (v := .ref (q 1)) fl_S_10 dd_S_place_92 rfl rfl ?_
        refine XX.iload_n dd_S_place_95 rfl 4 rfl ?_
        refine XX.callVr (Mk := m_T_startOf) (n := 1) (As := [.int (nI la)]) (rest := [.int (nI (ky_begin s.B s.sep (ky_fl (kgu s.kc s.kg lb) s.all) (kdu s.kc s.kd lb 0) (kdu s.kc s.kd lb 1) (tx_start br la) (tx_stop s.len bc br la)))]) (q0 := 1) (ci := 1) (c_T_startOf hc.t (l := la) (by omega)) mt_T_startOf mi_T_startOf ml_S_168 rfl dd_S_place_96 (rfl) rfl rfl ⟨xn_le rfl, xn_le rfl⟩ ⟨xn_le rfl, xn_le rfl⟩ (xn_le rfl) rfl ?_
        refine XX.isub dd_S_place_99 ?_
        have hv : (nI (ky_begin s.B s.sep (ky_fl (kgu s.kc s.kg lb) s.all) (kdu s.kc s.kd lb 0) (kdu s.kc s.kd lb 1) (tx_start br la) (tx_stop s.len bc br la))) - (nI (tx_start br la)) = v_place s a b e := by unfold v_place; rw [ea, eb, iN_nI (by omega), iN_nI (by omega), h57, ← hst]; simp only [sp_begin, sp_end, ← hst, ← hen]; rfl
        exact XX.iret dd_S_place_100 rfl ⟨xn_le rfl, xn_le rfl⟩ (⟨ht, by rw [hv], CW.of hc⟩)
      ·
        refine XX.aload_n dd_S_place_60 rfl 2 rfl ?_
        refine XX.get (q0 := 0) (v := .ref (q 4)) fl_S_21 dd_S_place_61 rfl rfl ?_
        refine XX.aload dd_S_place_64 1 rfl ?_
        refine XX.iload dd_S_place_66 0 rfl ?_
        refine XX.iload_n dd_S_place_68 rfl 3 rfl ?_
        refine XX.callVr (Mk := m_P_endOf) (n := 3) (As := [.ref (kuu q ka s.kc lb), .int (ky_fl (kgu s.kc s.kg lb) s.all), .int (nI la)]) (rest := []) (q0 := 4) (ci := 2) (c_P_endOf hc.t hc.x5 he (fl := ky_fl (kgu s.kc s.kg lb) s.all) (l := la) (by omega) hse e0 e0b e1 e1b e2 e3) mt_P_endOf mi_P_endOf ml_S_161 rfl dd_S_place_69 (rfl) rfl rfl ⟨xn_le rfl, xn_le rfl⟩ ⟨xn_le rfl, xn_le rfl⟩ (xn_le rfl) rfl ?_
        refine XX.goto (tgt := 87) dd_S_place_72 (by decide) ?_
        refine XX.istore (lv2 := [(6, .int (nI (ky_end s.B s.sep (ky_fl (kgu s.kc s.kg lb) s.all) (kdu s.kc s.kd lb 2) (kdu s.kc s.kd lb 3) (tx_start br la) (tx_stop s.len bc br la)))), (5, .int (ky_fl (kgu s.kc s.kg lb) s.all)), (4, .ref (kuu q ka s.kc lb)), (0, .ref (q 0)), (1, .int (nI la)), (2, .int (nI lb)), (3, .int (bI e))]) dd_S_place_87 (by decide) rfl ?_
        refine XX.iload dd_S_place_89 0 rfl ?_
        refine XX.aload_n dd_S_place_91 rfl 3 rfl ?_
        refine XX.get (q0 := 0) (v := .ref (q 1)) fl_S_10 dd_S_place_92 rfl rfl ?_
        refine XX.iload_n dd_S_place_95 rfl 4 rfl ?_
        refine XX.callVr (Mk := m_T_startOf) (n := 1) (As := [.int (nI la)]) (rest := [.int (nI (ky_end s.B s.sep (ky_fl (kgu s.kc s.kg lb) s.all) (kdu s.kc s.kd lb 2) (kdu s.kc s.kd lb 3) (tx_start br la) (tx_stop s.len bc br la)))]) (q0 := 1) (ci := 1) (c_T_startOf hc.t (l := la) (by omega)) mt_T_startOf mi_T_startOf ml_S_168 rfl dd_S_place_96 (rfl) rfl rfl ⟨xn_le rfl, xn_le rfl⟩ ⟨xn_le rfl, xn_le rfl⟩ (xn_le rfl) rfl ?_
        refine XX.isub dd_S_place_99 ?_
        have hv : (nI (ky_end s.B s.sep (ky_fl (kgu s.kc s.kg lb) s.all) (kdu s.kc s.kd lb 2) (kdu s.kc s.kd lb 3) (tx_start br la) (tx_stop s.len bc br la))) - (nI (tx_start br la)) = v_place s a b e := by unfold v_place; rw [ea, eb, iN_nI (by omega), iN_nI (by omega), h57, ← hst]; simp only [sp_begin, sp_end, ← hst, ← hen]; rfl
        exact XX.iret dd_S_place_100 rfl ⟨xn_le rfl, xn_le rfl⟩ (⟨ht, by rw [hv], CW.of hc⟩)
    ·
      exact XR.throw (idx := 148) (ic := 152) (sx := 150) (xw_in mw_589 rfl) (xw_in mw_590 rfl) (xw_in mw_20 rfl) (List.mem_of_getElem? (i := 7) rfl) tw_IOB mt_S_place.1 (by decide) (by decide) (by decide) htr dd_S_place_25 dd_S_place_28 dd_S_place_29 dd_S_place_31 dd_S_place_34 (xn_le rfl) (xn_le rfl) ⟨xn_le rfl, xn_le rfl⟩ ⟨xn_le rfl, xn_le rfl⟩ (ET.of (k := 1) (by unfold t_place tb; simp [h5, h22]) (by decide) rfl)

set_option maxRecDepth 100000 in
set_option maxHeartbeats 4000000 in
theorem c_S_key {G : XG} {q : Nat → Nat} {x : Nat → Int32} {n : Nat → Nat} {f : Nat → Nat → Int32} {kf : Nat → Option Nat} {ks T : va_W} {s : SS} {bc : Nat} {br ka : Nat → Nat} (hc : CI s x n f kf ks bc br ka) (htr : ∀ e : Env, G.2.2.2.admits e → e.platform.stackTraces = false) {a b c d g : Int32} : MT G m_S_key (xr 6 1 6) [.ref (q 0), .int a, .int b, .int c, .int d, .int g] (wC G q x n f kf (ks ++ T)) (PT (t_key s a b c d g) (CQI G q n T (o_key s a b c d g) (nI (s.kc + 1)))) (ET (t_key s a b c d g) xAU (wC G q x n f kf (ks ++ T))) := by
  have hlen := hc.g.len
  have hkc := hc.g.kc
  have hrc := hc.g.rc
  have hun := hc.g.un
  have hlc : lnc s.B s.len ≤ s.len := lnc_le
  have hbl := (brk_le hc.b).2
  have hbl1 := (brk_le hc.b).1
  refine MT.of rfl (xn_le rfl) ?_
  refine (?_ : XR G m_S_key (xr 6 1 6) (xx_FT G (PT (t_key s a b c d g) (CQI G q n T (o_key s a b c d g) (nI (s.kc + 1)))) (ET (t_key s a b c d g) xAU (wC G q x n f kf (ks ++ T))) (xr 6 1 6)) (wC G q x n f kf (ks ++ T)) 0 [(0, .ref (q 0)), (1, .int a), (2, .int b), (3, .int c), (4, .int d), (5, .int g)] [])
  have j27 : XR G m_S_key (xr 6 1 6) (xx_FT G (PT (t_key s a b c d g) (CQI G q n T (o_key s a b c d g) (nI (s.kc + 1)))) (ET (t_key s a b c d g) xAU (wC G q x n f kf (ks ++ T))) (xr 6 1 6)) (wC G q x n f kf (ks ++ T)) 27 [(0, .ref (q 0)), (1, .int a), (2, .int b), (3, .int c), (4, .int d), (5, .int g)] [.int (bI (wi a (nI 1) (nI 1000) && wi b (nI 1) (nI 1000)))] := by
    refine XR.istore (lv2 := [(6, .int (bI (wi a (nI 1) (nI 1000) && wi b (nI 1) (nI 1000)))), (0, .ref (q 0)), (1, .int a), (2, .int b), (3, .int c), (4, .int d), (5, .int g)]) dd_S_key_27 (by decide) rfl ?_
    have j57 : XR G m_S_key (xr 6 1 6) (xx_FT G (PT (t_key s a b c d g) (CQI G q n T (o_key s a b c d g) (nI (s.kc + 1)))) (ET (t_key s a b c d g) xAU (wC G q x n f kf (ks ++ T))) (xr 6 1 6)) (wC G q x n f kf (ks ++ T)) 57 [(6, .int (bI (wi a (nI 1) (nI 1000) && wi b (nI 1) (nI 1000)))), (0, .ref (q 0)), (1, .int a), (2, .int b), (3, .int c), (4, .int d), (5, .int g)] [.int (bI (wi c (nI 0) (nI 1000) && wi d (nI 0) (nI 1000)))] := by
      refine XR.istore (lv2 := [(7, .int (bI (wi c (nI 0) (nI 1000) && wi d (nI 0) (nI 1000)))), (6, .int (bI (wi a (nI 1) (nI 1000) && wi b (nI 1) (nI 1000)))), (0, .ref (q 0)), (1, .int a), (2, .int b), (3, .int c), (4, .int d), (5, .int g)]) dd_S_key_57 (by decide) rfl ?_
      refine XR.iload dd_S_key_59 1 rfl ?_
      refine XR.bif_eq (tgt := 80) dd_S_key_61 (by decide) (fun h61 => ?_) (fun h61 => ?_)
      ·
        exact XR.throw (idx := 91) (ic := 95) (sx := 116) (xw_in mw_501 rfl) (xw_in mw_502 rfl) (xw_in mw_18 rfl) (List.mem_of_getElem? (i := 4) rfl) tw_IAE mt_S_key.1 (by decide) (by decide) (by decide) htr dd_S_key_80 dd_S_key_83 dd_S_key_84 dd_S_key_86 dd_S_key_89 (xn_le rfl) (xn_le rfl) ⟨xn_le rfl, xn_le rfl⟩ ⟨xn_le rfl, xn_le rfl⟩ (ET.of (k := 1) (by unfold t_key tb c_key; rw [if_pos]; rcases Bool.eq_false_or_eq_true (wi a (nI 1) (nI 1000)) with z1 | z1 <;> rcases Bool.eq_false_or_eq_true (wi b (nI 1) (nI 1000)) with z2 | z2 <;> rcases Bool.eq_false_or_eq_true (wi c (nI 0) (nI 1000)) with z3 | z3 <;> rcases Bool.eq_false_or_eq_true (wi d (nI 0) (nI 1000)) with z4 | z4 <;> simp_all) (by decide) rfl)
      ·
        refine XR.iload dd_S_key_64 0 rfl ?_
        refine XR.bif_eq (tgt := 80) dd_S_key_66 (by decide) (fun h66 => ?_) (fun h66 => ?_)
        ·
          exact XR.throw (idx := 91) (ic := 95) (sx := 116) (xw_in mw_501 rfl) (xw_in mw_502 rfl) (xw_in mw_18 rfl) (List.mem_of_getElem? (i := 4) rfl) tw_IAE mt_S_key.1 (by decide) (by decide) (by decide) htr dd_S_key_80 dd_S_key_83 dd_S_key_84 dd_S_key_86 dd_S_key_89 (xn_le rfl) (xn_le rfl) ⟨xn_le rfl, xn_le rfl⟩ ⟨xn_le rfl, xn_le rfl⟩ (ET.of (k := 1) (by unfold t_key tb c_key; rw [if_pos]; rcases Bool.eq_false_or_eq_true (wi a (nI 1) (nI 1000)) with z1 | z1 <;> rcases Bool.eq_false_or_eq_true (wi b (nI 1) (nI 1000)) with z2 | z2 <;> rcases Bool.eq_false_or_eq_true (wi c (nI 0) (nI 1000)) with z3 | z3 <;> rcases Bool.eq_false_or_eq_true (wi d (nI 0) (nI 1000)) with z4 | z4 <;> simp_all) (by decide) rfl)
        ·
          refine XR.iload dd_S_key_69 7 rfl ?_
          refine XR.iconst (v := nI 0) dd_S_key_71 (by decide) ?_
          refine XR.bipush (v := nI 127) dd_S_key_72 (by decide) ?_
          refine XR.callS (Mk := m_S_isWithin) (n := 3) (As := [.int g, .int (nI 0), .int (nI 127)]) (rest := []) (c_S_isWithin) mt_S_isWithin ms_S_isWithin ml_S_87 rfl dd_S_key_74 ⟨xn_le rfl, xn_le rfl⟩ (xn_le rfl) rfl ?_
          refine XR.bif_ne (tgt := 90) dd_S_key_77 (by decide) (fun h77 => ?_) (fun h77 => ?_)
          ·
            obtain ⟨b1, b2⟩ := (Bool.and_eq_true _ _).mp h61
            obtain ⟨b3, b4⟩ := (Bool.and_eq_true _ _).mp h66
            have b5 := h77
            refine XR.aload_n dd_S_key_90 rfl 2 rfl ?_
            refine XR.get (q0 := 0) (v := .ref (q 5)) fl_S_30 dd_S_key_91 rfl rfl ?_
            refine XR.get (q0 := 5) (v := .int (x 6)) fl_S_118 dd_S_key_94 rfl rfl ?_
            refine XR.tp (y := nI s.kc) (hc.x6) ?_
            refine XR.bipush (v := nI 6) dd_S_key_97 (by decide) ?_
            refine XR.ncmp_lt (tgt := 112) dd_S_key_99 (by decide) (by omega) (by omega) (fun h99 => ?_) (fun h99 => ?_)
            ·
              have ht : t_key s a b c d g = 0 := by unfold t_key tb; simp [c_key, b1, b2, b3, b4, b5]; omega
              obtain ⟨hn4, z1, z2, z3, z4, z5, z6, z7⟩ := key_n ht
              refine XR.xx (XX.ft ?_)
              refine XX.lvs [2, 3, 4, 5, 6, 7] rfl ?_
              refine XX.aload_n dd_S_key_112 rfl 0 rfl ?_
              refine XX.get (q0 := 0) (v := .ref (q 5)) fl_S_30 dd_S_key_113 rfl rfl ?_
              refine XX.new (N := 5) (ci := 4) (fs := [.int 0, .int 0, .int 0, .int 0, .int 0]) nw_S_126 dd_S_key_116 ⟨xn_le rfl, xn_le rfl⟩ (fun k0 => ?_)
              refine XX.perm (ws2 := (k0, .inr (4, [.int 0, .int 0, .int 0, .int 0, .int 0])) :: wC G q x n f kf (ks ++ T)) wC_new ?_
              refine XX.dup dd_S_key_119 rfl ?_
              refine XX.iload_n dd_S_key_120 rfl 1 rfl ?_
              refine XX.iload_n dd_S_key_121 rfl 2 rfl ?_
              refine XX.iload_n dd_S_key_122 rfl 3 rfl ?_
              refine XX.iload dd_S_key_123 4 rfl ?_
              refine XX.iload dd_S_key_125 5 rfl ?_
              refine XX.callI (yk := m_K_init.1) (bk := m_K_init.2.1) (lk := m_K_init.2.2.1) (n := 5) (As := [.int a, .int b, .int c, .int d, .int g]) (rest := [.ref k0, .ref (q 5)]) c_K_init mt_K_init mi_K_init rfl ml_S_128 rfl dd_S_key_127 ⟨xn_le rfl, xn_le rfl⟩ ⟨xn_le rfl, xn_le rfl⟩ (xn_le rfl) rfl (fun r1 w1 hp1 => ?_)
              obtain ⟨rfl, rfl⟩ := hp1
              refine XX.perm (ws2 := wC G q x n f kf ((k0, .inr (4, [.int a, .int b, .int c, .int d, .int g])) :: (ks ++ T))) wC_in ?_
              refine (?_ : XX G m_S_key (xr 6 1 6) (xx_F G (PT (t_key s a b c d g) (CQI G q n T (o_key s a b c d g) (nI (s.kc + 1)))) (xr 6 1 6)) (0 + 1 + 0) (0 + 5 + 0) (wC G q x n f kf ((k0, .inr (4, [.int a, .int b, .int c, .int d, .int g])) :: (ks ++ T))) 130 [(0, .ref (q 0)), (1, .int a), (2, .int b), (3, .int c), (4, .int d), (5, .int g)] [.ref k0, .ref (q 5)])
              refine XX.callVx (Mk := m_O_addKey) (n := 1) (As := [.ref k0]) (rest := []) (q0 := 5) (ci := 3) (c_O_addKey (a := k0) hc.x6 (by omega)) mt_O_addKey mi_O_addKey ml_S_131 rfl dd_S_key_130 (rfl) rfl rfl ⟨xn_le rfl, xn_le rfl⟩ ⟨xn_le rfl, xn_le rfl⟩ (xn_le rfl) rfl ?_
              refine XX.perm (ws2 := wC G q (upd x 6 (nI (s.kc + 1))) n f (va_up kf s.kc (some k0)) ((ks.take s.kc ++ (k0, .inr (4, [.int a, .int b, .int c, .int d, .int g])) :: ks.drop s.kc) ++ T)) (wC_kl (ks_in s.kc)) ?_
              refine (?_ : XX G m_S_key (xr 6 1 6) (xx_F G (PT (t_key s a b c d g) (CQI G q n T (o_key s a b c d g) (nI (s.kc + 1)))) (xr 6 1 6)) (0 + 1 + 0 + 0) (0 + 5 + 0 + 0) (wC G q (upd x 6 (nI (s.kc + 1))) n f (va_up kf s.kc (some k0)) ((ks.take s.kc ++ (k0, .inr (4, [.int a, .int b, .int c, .int d, .int g])) :: ks.drop s.kc) ++ T)) 133 [(0, .ref (q 0)), (1, .int a), (2, .int b), (3, .int c), (4, .int d), (5, .int g)] [])
              refine XX.aload_n dd_S_key_133 rfl 0 rfl ?_
              refine XX.get (q0 := 0) (v := .ref (q 5)) fl_S_30 dd_S_key_134 rfl rfl ?_
              refine XX.get (q0 := 5) (v := .int ((upd x 6 (nI (s.kc + 1))) 6)) fl_S_118 dd_S_key_137 rfl rfl ?_
              refine XX.tp (y := nI (s.kc + 1)) (rfl) ?_
              exact XX.iret dd_S_key_140 rfl ⟨xn_le rfl, xn_le rfl⟩ (⟨ht, rfl, q, _, f, _, _, bc, br, _, rfl, rfl, ⟨hc.g.key ht, hc.t, hc.b, hc.fit, hc.nn, hc.x5, rfl, hc.x7, hc.x8, hc.x9, kys_add hc.k (by omega) hn4 z1 z2 z3 z4 z5 z6, hc.x1, hc.x2, hc.x0, hc.r, hc.x21, hc.u, hc.x22, hc.x23, hc.x24⟩⟩)
            ·
              exact XR.throw (idx := 121) (ic := 125) (sx := 123) (xw_in mw_546 rfl) (xw_in mw_547 rfl) (xw_in mw_19 rfl) (List.mem_of_getElem? (i := 5) rfl) tw_UOE mt_S_key.1 (by decide) (by decide) (by decide) htr dd_S_key_102 dd_S_key_105 dd_S_key_106 dd_S_key_108 dd_S_key_111 (xn_le rfl) (xn_le rfl) ⟨xn_le rfl, xn_le rfl⟩ ⟨xn_le rfl, xn_le rfl⟩ (ET.of (k := 2) (by unfold t_key tb c_key; simp [b1, b2, b3, b4, b5]; omega) (by decide) rfl)
          ·
            exact XR.throw (idx := 91) (ic := 95) (sx := 116) (xw_in mw_501 rfl) (xw_in mw_502 rfl) (xw_in mw_18 rfl) (List.mem_of_getElem? (i := 4) rfl) tw_IAE mt_S_key.1 (by decide) (by decide) (by decide) htr dd_S_key_80 dd_S_key_83 dd_S_key_84 dd_S_key_86 dd_S_key_89 (xn_le rfl) (xn_le rfl) ⟨xn_le rfl, xn_le rfl⟩ ⟨xn_le rfl, xn_le rfl⟩ (ET.of (k := 1) (by unfold t_key tb c_key; rw [if_pos]; rcases Bool.eq_false_or_eq_true (wi a (nI 1) (nI 1000)) with z1 | z1 <;> rcases Bool.eq_false_or_eq_true (wi b (nI 1) (nI 1000)) with z2 | z2 <;> rcases Bool.eq_false_or_eq_true (wi c (nI 0) (nI 1000)) with z3 | z3 <;> rcases Bool.eq_false_or_eq_true (wi d (nI 0) (nI 1000)) with z4 | z4 <;> simp_all) (by decide) rfl)
    refine XR.iload_n dd_S_key_29 rfl 4 rfl ?_
    refine XR.iconst (v := nI 0) dd_S_key_30 (by decide) ?_
    refine XR.sipush (v := nI 1000) dd_S_key_31 (by decide) ?_
    refine XR.callS (Mk := m_S_isWithin) (n := 3) (As := [.int c, .int (nI 0), .int (nI 1000)]) (rest := []) (c_S_isWithin) mt_S_isWithin ms_S_isWithin ml_S_87 rfl dd_S_key_34 ⟨xn_le rfl, xn_le rfl⟩ (xn_le rfl) rfl ?_
    refine XR.bif_eq (tgt := 56) dd_S_key_37 (by decide) (fun h37 => ?_) (fun h37 => ?_)
    ·
      refine XR.iconst (v := nI 0) dd_S_key_56 (by decide) ?_
      exact XR.tp (by simp [bI, h37]) j57
    ·
      refine XR.iload dd_S_key_40 5 rfl ?_
      refine XR.iconst (v := nI 0) dd_S_key_42 (by decide) ?_
      refine XR.sipush (v := nI 1000) dd_S_key_43 (by decide) ?_
      refine XR.callS (Mk := m_S_isWithin) (n := 3) (As := [.int d, .int (nI 0), .int (nI 1000)]) (rest := []) (c_S_isWithin) mt_S_isWithin ms_S_isWithin ml_S_87 rfl dd_S_key_46 ⟨xn_le rfl, xn_le rfl⟩ (xn_le rfl) rfl ?_
      refine XR.bif_eq (tgt := 56) dd_S_key_49 (by decide) (fun h49 => ?_) (fun h49 => ?_)
      ·
        refine XR.iconst (v := nI 0) dd_S_key_56 (by decide) ?_
        exact XR.tp (by simp [bI, h37, h49]) j57
      ·
        refine XR.iconst (v := nI 1) dd_S_key_52 (by decide) ?_
        refine XR.goto (tgt := 57) dd_S_key_53 (by decide) ?_
        exact XR.tp (by simp [bI, h37, h49]) j57
  refine XR.iload_n dd_S_key_0 rfl 1 rfl ?_
  refine XR.iconst (v := nI 1) dd_S_key_1 (by decide) ?_
  refine XR.sipush (v := nI 1000) dd_S_key_2 (by decide) ?_
  refine XR.callS (Mk := m_S_isWithin) (n := 3) (As := [.int a, .int (nI 1), .int (nI 1000)]) (rest := []) (c_S_isWithin) mt_S_isWithin ms_S_isWithin ml_S_87 rfl dd_S_key_5 ⟨xn_le rfl, xn_le rfl⟩ (xn_le rfl) rfl ?_
  refine XR.bif_eq (tgt := 26) dd_S_key_8 (by decide) (fun h8 => ?_) (fun h8 => ?_)
  ·
    refine XR.iconst (v := nI 0) dd_S_key_26 (by decide) ?_
    exact XR.tp (by simp [bI, h8]) j27
  ·
    refine XR.iload_n dd_S_key_11 rfl 2 rfl ?_
    refine XR.iconst (v := nI 1) dd_S_key_12 (by decide) ?_
    refine XR.sipush (v := nI 1000) dd_S_key_13 (by decide) ?_
    refine XR.callS (Mk := m_S_isWithin) (n := 3) (As := [.int b, .int (nI 1), .int (nI 1000)]) (rest := []) (c_S_isWithin) mt_S_isWithin ms_S_isWithin ml_S_87 rfl dd_S_key_16 ⟨xn_le rfl, xn_le rfl⟩ (xn_le rfl) rfl ?_
    refine XR.bif_eq (tgt := 26) dd_S_key_19 (by decide) (fun h19 => ?_) (fun h19 => ?_)
    ·
      refine XR.iconst (v := nI 0) dd_S_key_26 (by decide) ?_
      exact XR.tp (by simp [bI, h8, h19]) j27
    ·
      refine XR.iconst (v := nI 1) dd_S_key_22 (by decide) ?_
      refine XR.goto (tgt := 27) dd_S_key_23 (by decide) ?_
      exact XR.tp (by simp [bI, h8, h19]) j27

