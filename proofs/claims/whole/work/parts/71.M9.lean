theorem nI_z : nI 0 = 0 := by decide
theorem bI_fit (b : Bool) : fits .boolean (.int (bI b)) = true := by cases b <;> rfl
theorem MI.end_ {s : SS} {x : Nat → Int32} {f : Nat → Nat → Int32} (h : MI s x f) {n v : Int32} (hg : SG (o_end s n)) (h1 : n = nI (iN n)) (h2 : iN n ≤ s.len) : MI (o_end s n) (upd (upd (upd (upd x 19 v) 0 n) 2 (nI 0)) 11 (nI 0)) f :=
  ⟨hg, h1, fun i hi => h.b i (Nat.lt_of_lt_of_le hi h2), ⟨false, rfl, fun z => absurd z (Nat.lt_irrefl _), fun z => by cases z⟩, h.x3, h.x4, h.x5, h.x6, h.k, h.x8, h.x9, h.x10, rfl, fun i hi => absurd hi (Nat.not_lt_zero _), h.x13, h.u, h.x14, h.x15, h.x16, h.tk⟩

set_option maxRecDepth 100000 in
set_option maxHeartbeats 4000000 in
theorem c_M_end {G : XG} {q : Nat → Nat} {x : Nat → Int32} {f : Nat → Nat → Int32} {kl : va_W} {s : SS} (hm : MI s x f) {n : Int32} : MM G m_M_end (xr 1 0 0) [.ref (q 0), .int n] (wM G q x f kl) (MQV G q kl (sel (t_end s n) (o_end s n) s) (t_end s n)) := by
  have hlen := hm.g.len
  have hkc := hm.g.kc
  have hrc := hm.g.rc
  have hun := hm.g.un
  have hlc : lnc s.B s.len ≤ s.len := lnc_le
  refine MM.of rfl (xn_le rfl) ?_
  refine (?_ : XX G m_M_end (xr 1 0 0) (xx_F G (MQV G q kl (sel (t_end s n) (o_end s n) s) (t_end s n)) (xr 1 0 0)) 0 0 (wM G q x f kl) 0 [(0, .ref (q 0)), (1, .int n)] [])
  refine XX.aload_n dd_M_end_0 rfl 0 rfl ?_
  have j18 : XX G m_M_end (xr 1 0 0) (xx_F G (MQV G q kl (sel (t_end s n) (o_end s n) s) (t_end s n)) (xr 1 0 0)) 0 0 (wM G q x f kl) 18 [(0, .ref (q 0)), (1, .int n)] [.int (bI (!wi n (nI 0) (nI s.len))), .ref (q 0)] := by
    refine XX.iconst (v := nI 1) dd_M_end_18 (by decide) ?_
    refine XX.callVx (Mk := m_M_fails) (n := 2) (As := [.int (bI (!wi n (nI 0) (nI s.len))), .int (nI 1)]) (rest := []) (q0 := 0) (ci := 9) (c_M_fails (so := !wi n (nI 0) (nI s.len)) (kd := nI 1)) mt_M_fails mi_M_fails ml_M_70 rfl dd_M_end_19 (rfl) rfl rfl ⟨xn_le rfl, xn_le rfl⟩ ⟨xn_le rfl, xn_le rfl⟩ (xn_le rfl) rfl ?_
    refine XX.bif_eq (tgt := 26) dd_M_end_22 (by decide) (fun h22 => ?_) (fun h22 => ?_)
    ·
      refine XX.aload_n dd_M_end_26 rfl 0 rfl ?_
      refine XX.iload_n dd_M_end_27 rfl 1 rfl ?_
      refine XX.callVx (Mk := m_M_change) (n := 1) (As := [.int n]) (rest := []) (q0 := 0) (ci := 9) (c_M_change (u := n)) mt_M_change mi_M_change ml_M_74 rfl dd_M_end_28 (rfl) rfl rfl ⟨xn_le rfl, xn_le rfl⟩ ⟨xn_le rfl, xn_le rfl⟩ (xn_le rfl) rfl ?_
      have ht : t_end s n = 0 := by simp [t_end, tb, h22]
      obtain ⟨hg, hn1, hn2⟩ := SG.end_ hm.g ht
      exact XX.vret dd_M_end_31 rfl ⟨xn_le rfl, xn_le rfl⟩ (MQV.ok ht (by simp [upd, h22]) (MI.end_ hm hg hn1 hn2))
    ·
      exact XX.vret dd_M_end_25 rfl ⟨xn_le rfl, xn_le rfl⟩ (MQV.no (by simp [t_end, tb, h22]) (by simp [upd, t_end, tb, h22]) (hm.t19 _))
  refine XX.iload_n dd_M_end_1 rfl 1 rfl ?_
  refine XX.if_lt (tgt := 13) dd_M_end_2 (by decide) (fun h2 => ?_) (fun h2 => ?_)
  ·
    refine XX.iconst (v := nI 1) dd_M_end_13 (by decide) ?_
    refine XX.goto (tgt := 18) dd_M_end_14 (by decide) ?_
    exact XX.tp (by exact (bI_t (by first | (simp [wi, inr, nI_z, Int32.not_lt, Int32.not_le, h2]; done) | (simp [wi, inr, nI_z, Int32.not_lt, Int32.not_le, h2]; simp_all [wi, inr, nI_z, Int32.not_lt, Int32.not_le]; done) | (simp_all [wi, inr, nI_z, Int32.not_lt, Int32.not_le]; done))).symm) j18
  ·
    refine XX.iload_n dd_M_end_5 rfl 1 rfl ?_
    refine XX.aload_n dd_M_end_6 rfl 0 rfl ?_
    refine XX.get (q0 := 0) (v := .int (x 0)) fl_M_60 dd_M_end_7 rfl rfl ?_
    refine XX.tp (y := nI s.len) (hm.x0) ?_
    refine XX.icmp_le (tgt := 17) dd_M_end_10 (by decide) (fun h10 => ?_) (fun h10 => ?_)
    ·
      refine XX.iconst (v := nI 0) dd_M_end_17 (by decide) ?_
      exact XX.tp (by exact (bI_f (by first | (simp [wi, inr, nI_z, Int32.not_lt, Int32.not_le, h2, h10]; done) | (simp [wi, inr, nI_z, Int32.not_lt, Int32.not_le, h2, h10]; simp_all [wi, inr, nI_z, Int32.not_lt, Int32.not_le]; done) | (simp_all [wi, inr, nI_z, Int32.not_lt, Int32.not_le]; done))).symm) j18
    ·
      refine XX.iconst (v := nI 1) dd_M_end_13 (by decide) ?_
      refine XX.goto (tgt := 18) dd_M_end_14 (by decide) ?_
      exact XX.tp (by exact (bI_t (by first | (simp [wi, inr, nI_z, Int32.not_lt, Int32.not_le, h2, h10]; done) | (simp [wi, inr, nI_z, Int32.not_lt, Int32.not_le, h2, h10]; simp_all [wi, inr, nI_z, Int32.not_lt, Int32.not_le]; done) | (simp_all [wi, inr, nI_z, Int32.not_lt, Int32.not_le]; done))).symm) j18

set_option maxRecDepth 100000 in
set_option maxHeartbeats 4000000 in
theorem c_M_ways {G : XG} {q : Nat → Nat} {x : Nat → Int32} {f : Nat → Nat → Int32} {kl : va_W} {s : SS} (hm : MI s x f) {n : Int32} {b1 b2 : Bool} : MM G m_M_ways (xr 1 0 0) [.ref (q 0), .int n, .int (bI b1), .int (bI b2)] (wM G q x f kl) (MQV G q kl (sel (t_ways n) (o_ways s n b1 b2) s) (t_ways n)) := by
  have hlen := hm.g.len
  have hkc := hm.g.kc
  have hrc := hm.g.rc
  have hun := hm.g.un
  have hlc : lnc s.B s.len ≤ s.len := lnc_le
  refine MM.of rfl (xn_le rfl) ?_
  refine (?_ : XX G m_M_ways (xr 1 0 0) (xx_F G (MQV G q kl (sel (t_ways n) (o_ways s n b1 b2) s) (t_ways n)) (xr 1 0 0)) 0 0 (wM G q x f kl) 0 [(0, .ref (q 0)), (1, .int n), (2, .int (bI b1)), (3, .int (bI b2))] [])
  refine XX.aload_n dd_M_ways_0 rfl 0 rfl ?_
  have j16 : XX G m_M_ways (xr 1 0 0) (xx_F G (MQV G q kl (sel (t_ways n) (o_ways s n b1 b2) s) (t_ways n)) (xr 1 0 0)) 0 0 (wM G q x f kl) 16 [(0, .ref (q 0)), (1, .int n), (2, .int (bI b1)), (3, .int (bI b2))] [.int (bI (!wi n (nI 0) (nI 127))), .ref (q 0)] := by
    refine XX.iconst (v := nI 1) dd_M_ways_16 (by decide) ?_
    refine XX.callVx (Mk := m_M_fails) (n := 2) (As := [.int (bI (!wi n (nI 0) (nI 127))), .int (nI 1)]) (rest := []) (q0 := 0) (ci := 9) (c_M_fails (so := !wi n (nI 0) (nI 127)) (kd := nI 1)) mt_M_fails mi_M_fails ml_M_70 rfl dd_M_ways_17 (rfl) rfl rfl ⟨xn_le rfl, xn_le rfl⟩ ⟨xn_le rfl, xn_le rfl⟩ (xn_le rfl) rfl ?_
    refine XX.bif_eq (tgt := 24) dd_M_ways_20 (by decide) (fun h20 => ?_) (fun h20 => ?_)
    ·
      refine XX.aload_n dd_M_ways_24 rfl 0 rfl ?_
      refine XX.iload_n dd_M_ways_25 rfl 1 rfl ?_
      refine XX.put (q0 := 0) (ws2 := wM G q (upd (upd x 19 (if (!wi n (nI 0) (nI 127)) = true then nI 1 else nI 0)) 3 n) f kl) fp_M_85 dd_M_ways_26 rfl rfl rfl (xn_le rfl) rfl ?_
      refine XX.aload_n dd_M_ways_29 rfl 0 rfl ?_
      refine XX.iload_n dd_M_ways_30 rfl 2 rfl ?_
      refine XX.put (q0 := 0) (ws2 := wM G q (upd (upd (upd x 19 (if (!wi n (nI 0) (nI 127)) = true then nI 1 else nI 0)) 3 n) 4 (bI b1)) f kl) fp_M_88 dd_M_ways_31 rfl (bI_nar _) (bI_fit _) (xn_le rfl) rfl ?_
      refine XX.aload_n dd_M_ways_34 rfl 0 rfl ?_
      refine XX.iload_n dd_M_ways_35 rfl 3 rfl ?_
      refine XX.put (q0 := 0) (ws2 := wM G q (upd (upd (upd (upd x 19 (if (!wi n (nI 0) (nI 127)) = true then nI 1 else nI 0)) 3 n) 4 (bI b1)) 5 (bI b2)) f kl) fp_M_91 dd_M_ways_36 rfl (bI_nar _) (bI_fit _) (xn_le rfl) rfl ?_
      exact XX.vret dd_M_ways_39 rfl ⟨xn_le rfl, xn_le rfl⟩ (MQV.ok (by simp [t_ways, tb, h20]) (by simp [upd, h20]) (⟨hm.g.ways n b1 b2, hm.x0, hm.b, hm.sp, rfl, rfl, rfl, hm.x6, hm.k, hm.x8, hm.x9, hm.x10, hm.x11, hm.r, hm.x13, hm.u, hm.x14, hm.x15, hm.x16, hm.tk⟩))
    ·
      exact XX.vret dd_M_ways_23 rfl ⟨xn_le rfl, xn_le rfl⟩ (MQV.no (by simp [t_ways, tb, h20]) (by simp [upd, t_ways, tb, h20]) (hm.t19 _))
  refine XX.iload_n dd_M_ways_1 rfl 1 rfl ?_
  refine XX.iconst (v := nI 0) dd_M_ways_2 (by decide) ?_
  refine XX.bipush (v := nI 127) dd_M_ways_3 (by decide) ?_
  refine XX.callSr (Mk := m_M_within) (n := 3) (As := [.int n, .int (nI 0), .int (nI 127)]) (rest := [.ref (q 0)]) (c_M_within) mt_M_within ms_M_within ml_M_81 rfl dd_M_ways_5 ⟨xn_le rfl, xn_le rfl⟩ ⟨xn_le rfl, xn_le rfl⟩ (xn_le rfl) rfl ?_
  refine XX.bif_ne (tgt := 15) dd_M_ways_8 (by decide) (fun h8 => ?_) (fun h8 => ?_)
  ·
    refine XX.iconst (v := nI 0) dd_M_ways_15 (by decide) ?_
    exact XX.tp (by simp [bI, h8]) j16
  ·
    refine XX.iconst (v := nI 1) dd_M_ways_11 (by decide) ?_
    refine XX.goto (tgt := 16) dd_M_ways_12 (by decide) ?_
    exact XX.tp (by simp [bI, h8]) j16

set_option maxRecDepth 100000 in
set_option maxHeartbeats 4000000 in
theorem c_M_separator {G : XG} {q : Nat → Nat} {x : Nat → Int32} {f : Nat → Nat → Int32} {kl : va_W} {s : SS} (hm : MI s x f) {n : Int32} : MM G m_M_separator (xr 1 0 0) [.ref (q 0), .int n] (wM G q x f kl) (MQV G q kl (sel (t_separator n) (o_separator s n) s) (t_separator n)) := by
  have hlen := hm.g.len
  have hkc := hm.g.kc
  have hrc := hm.g.rc
  have hun := hm.g.un
  have hlc : lnc s.B s.len ≤ s.len := lnc_le
  refine MM.of rfl (xn_le rfl) ?_
  refine (?_ : XX G m_M_separator (xr 1 0 0) (xx_F G (MQV G q kl (sel (t_separator n) (o_separator s n) s) (t_separator n)) (xr 1 0 0)) 0 0 (wM G q x f kl) 0 [(0, .ref (q 0)), (1, .int n)] [])
  refine XX.aload_n dd_M_separator_0 rfl 0 rfl ?_
  have j23 : XX G m_M_separator (xr 1 0 0) (xx_F G (MQV G q kl (sel (t_separator n) (o_separator s n) s) (t_separator n)) (xr 1 0 0)) 0 0 (wM G q x f kl) 23 [(0, .ref (q 0)), (1, .int n)] [.int (bI (!wi n (-1) (nI 255) || decide (n = nI 10))), .ref (q 0)] := by
    refine XX.iconst (v := nI 1) dd_M_separator_23 (by decide) ?_
    refine XX.callVx (Mk := m_M_fails) (n := 2) (As := [.int (bI (!wi n (-1) (nI 255) || decide (n = nI 10))), .int (nI 1)]) (rest := []) (q0 := 0) (ci := 9) (c_M_fails (so := !wi n (-1) (nI 255) || decide (n = nI 10)) (kd := nI 1)) mt_M_fails mi_M_fails ml_M_70 rfl dd_M_separator_24 (rfl) rfl rfl ⟨xn_le rfl, xn_le rfl⟩ ⟨xn_le rfl, xn_le rfl⟩ (xn_le rfl) rfl ?_
    refine XX.bif_eq (tgt := 31) dd_M_separator_27 (by decide) (fun h27 => ?_) (fun h27 => ?_)
    ·
      refine XX.aload_n dd_M_separator_31 rfl 0 rfl ?_
      refine XX.iload_n dd_M_separator_32 rfl 1 rfl ?_
      refine XX.put (q0 := 0) (ws2 := wM G q (upd (upd x 19 (if (!wi n (-1) (nI 255) || decide (n = nI 10)) = true then nI 1 else nI 0)) 6 n) f kl) fp_M_17 dd_M_separator_33 rfl rfl rfl (xn_le rfl) rfl ?_
      exact XX.vret dd_M_separator_36 rfl ⟨xn_le rfl, xn_le rfl⟩ (MQV.ok (by simp only [t_separator, tb, h27]; rfl) (by rw [h27]; rfl) (⟨hm.g.separator n, hm.x0, hm.b, hm.sp, hm.x3, hm.x4, hm.x5, rfl, hm.k, hm.x8, hm.x9, hm.x10, hm.x11, hm.r, hm.x13, hm.u, hm.x14, hm.x15, hm.x16, hm.tk⟩))
    ·
      exact XX.vret dd_M_separator_30 rfl ⟨xn_le rfl, xn_le rfl⟩ (MQV.no (by simp only [t_separator, tb, h27]; decide) (by simp only [t_separator, tb, h27]; rfl) (hm.t19 _))
  refine XX.iload_n dd_M_separator_1 rfl 1 rfl ?_
  refine XX.iconst (v := -1) dd_M_separator_2 (by decide) ?_
  refine XX.sipush (v := nI 255) dd_M_separator_3 (by decide) ?_
  refine XX.callSr (Mk := m_M_within) (n := 3) (As := [.int n, .int (-1), .int (nI 255)]) (rest := [.ref (q 0)]) (c_M_within) mt_M_within ms_M_within ml_M_81 rfl dd_M_separator_6 ⟨xn_le rfl, xn_le rfl⟩ ⟨xn_le rfl, xn_le rfl⟩ (xn_le rfl) rfl ?_
  refine XX.bif_eq (tgt := 18) dd_M_separator_9 (by decide) (fun h9 => ?_) (fun h9 => ?_)
  ·
    refine XX.iconst (v := nI 1) dd_M_separator_18 (by decide) ?_
    refine XX.goto (tgt := 23) dd_M_separator_19 (by decide) ?_
    exact XX.tp (by simp [bI, h9]) j23
  ·
    refine XX.iload_n dd_M_separator_12 rfl 1 rfl ?_
    refine XX.bipush (v := nI 10) dd_M_separator_13 (by decide) ?_
    refine XX.icmp_ne (tgt := 22) dd_M_separator_15 (by decide) (fun h15 => ?_) (fun h15 => ?_)
    ·
      refine XX.iconst (v := nI 0) dd_M_separator_22 (by decide) ?_
      exact XX.tp (by simp [bI, h9, h15]) j23
    ·
      refine XX.iconst (v := nI 1) dd_M_separator_18 (by decide) ?_
      refine XX.goto (tgt := 23) dd_M_separator_19 (by decide) ?_
      exact XX.tp (by simp [bI, h9, h15]) j23

set_option maxRecDepth 100000 in
set_option maxHeartbeats 4000000 in
theorem c_M_memory {G : XG} {q : Nat → Nat} {x : Nat → Int32} {f : Nat → Nat → Int32} {kl : va_W} {s : SS} (hm : MI s x f) {n u : Int32} : MM G m_M_memory (xr 1 0 0) [.ref (q 0), .int n, .int u] (wM G q x f kl) (MQV G q kl (sel (t_memory n u) (o_memory s n u) s) (t_memory n u)) := by
  have hlen := hm.g.len
  have hkc := hm.g.kc
  have hrc := hm.g.rc
  have hun := hm.g.un
  have hlc : lnc s.B s.len ≤ s.len := lnc_le
  refine MM.of rfl (xn_le rfl) ?_
  refine (?_ : XX G m_M_memory (xr 1 0 0) (xx_F G (MQV G q kl (sel (t_memory n u) (o_memory s n u) s) (t_memory n u)) (xr 1 0 0)) 0 0 (wM G q x f kl) 0 [(0, .ref (q 0)), (1, .int n), (2, .int u)] [])
  refine XX.aload_n dd_M_memory_0 rfl 0 rfl ?_
  have j27 : XX G m_M_memory (xr 1 0 0) (xx_F G (MQV G q kl (sel (t_memory n u) (o_memory s n u) s) (t_memory n u)) (xr 1 0 0)) 0 0 (wM G q x f kl) 27 [(0, .ref (q 0)), (1, .int n), (2, .int u)] [.int (bI (!(wi n (nI 2) (nI 500) && wi u (nI 2) (nI 16)))), .ref (q 0)] := by
    refine XX.iconst (v := nI 1) dd_M_memory_27 (by decide) ?_
    refine XX.callVx (Mk := m_M_fails) (n := 2) (As := [.int (bI (!(wi n (nI 2) (nI 500) && wi u (nI 2) (nI 16)))), .int (nI 1)]) (rest := []) (q0 := 0) (ci := 9) (c_M_fails (so := !(wi n (nI 2) (nI 500) && wi u (nI 2) (nI 16))) (kd := nI 1)) mt_M_fails mi_M_fails ml_M_70 rfl dd_M_memory_28 (rfl) rfl rfl ⟨xn_le rfl, xn_le rfl⟩ ⟨xn_le rfl, xn_le rfl⟩ (xn_le rfl) rfl ?_
    refine XX.bif_eq (tgt := 35) dd_M_memory_31 (by decide) (fun h31 => ?_) (fun h31 => ?_)
    ·
      refine XX.aload_n dd_M_memory_35 rfl 0 rfl ?_
      refine XX.iload_n dd_M_memory_36 rfl 1 rfl ?_
      refine XX.put (q0 := 0) (ws2 := wM G q (upd (upd x 19 (if (!(wi n (nI 2) (nI 500) && wi u (nI 2) (nI 16))) = true then nI 1 else nI 0)) 8 n) f kl) fp_M_24 dd_M_memory_37 rfl rfl rfl (xn_le rfl) rfl ?_
      refine XX.aload_n dd_M_memory_40 rfl 0 rfl ?_
      refine XX.iload_n dd_M_memory_41 rfl 2 rfl ?_
      refine XX.put (q0 := 0) (ws2 := wM G q (upd (upd (upd x 19 (if (!(wi n (nI 2) (nI 500) && wi u (nI 2) (nI 16))) = true then nI 1 else nI 0)) 8 n) 9 u) f kl) fp_M_27 dd_M_memory_42 rfl rfl rfl (xn_le rfl) rfl ?_
      have ht : t_memory n u = 0 := by simp only [t_memory, tb, h31]; rfl
      obtain ⟨g1, g2, g3⟩ := memory_n ht
      exact XX.vret dd_M_memory_45 rfl ⟨xn_le rfl, xn_le rfl⟩ (MQV.ok ht (by rw [h31]; rfl) (⟨hm.g.memory ht, hm.x0, hm.b, hm.sp, hm.x3, hm.x4, hm.x5, hm.x6, hm.k, g1, g2, hm.x10, hm.x11, hm.r, hm.x13, hm.u, hm.x14, hm.x15, hm.x16, hm.tk⟩))
    ·
      exact XX.vret dd_M_memory_34 rfl ⟨xn_le rfl, xn_le rfl⟩ (MQV.no (by simp only [t_memory, tb, h31]; decide) (by simp only [t_memory, tb, h31]; rfl) (hm.t19 _))
  refine XX.iload_n dd_M_memory_1 rfl 1 rfl ?_
  refine XX.iconst (v := nI 2) dd_M_memory_2 (by decide) ?_
  refine XX.sipush (v := nI 500) dd_M_memory_3 (by decide) ?_
  refine XX.callSr (Mk := m_M_within) (n := 3) (As := [.int n, .int (nI 2), .int (nI 500)]) (rest := [.ref (q 0)]) (c_M_within) mt_M_within ms_M_within ml_M_81 rfl dd_M_memory_6 ⟨xn_le rfl, xn_le rfl⟩ ⟨xn_le rfl, xn_le rfl⟩ (xn_le rfl) rfl ?_
  refine XX.bif_eq (tgt := 22) dd_M_memory_9 (by decide) (fun h9 => ?_) (fun h9 => ?_)
  ·
    refine XX.iconst (v := nI 1) dd_M_memory_22 (by decide) ?_
    refine XX.goto (tgt := 27) dd_M_memory_23 (by decide) ?_
    exact XX.tp (by simp [bI, h9]) j27
  ·
    refine XX.iload_n dd_M_memory_12 rfl 2 rfl ?_
    refine XX.iconst (v := nI 2) dd_M_memory_13 (by decide) ?_
    refine XX.bipush (v := nI 16) dd_M_memory_14 (by decide) ?_
    refine XX.callSr (Mk := m_M_within) (n := 3) (As := [.int u, .int (nI 2), .int (nI 16)]) (rest := [.ref (q 0)]) (c_M_within) mt_M_within ms_M_within ml_M_81 rfl dd_M_memory_16 ⟨xn_le rfl, xn_le rfl⟩ ⟨xn_le rfl, xn_le rfl⟩ (xn_le rfl) rfl ?_
    refine XX.bif_ne (tgt := 26) dd_M_memory_19 (by decide) (fun h19 => ?_) (fun h19 => ?_)
    ·
      refine XX.iconst (v := nI 0) dd_M_memory_26 (by decide) ?_
      exact XX.tp (by simp [bI, h9, h19]) j27
    ·
      refine XX.iconst (v := nI 1) dd_M_memory_22 (by decide) ?_
      refine XX.goto (tgt := 27) dd_M_memory_23 (by decide) ?_
      exact XX.tp (by simp [bI, h9, h19]) j27

set_option maxRecDepth 100000 in
set_option maxHeartbeats 4000000 in
theorem c_M_keyless {G : XG} {q : Nat → Nat} {x : Nat → Int32} {f : Nat → Nat → Int32} {kl : va_W} {s : SS} (hm : MI s x f)  : MM G m_M_keyless (xr 0 0 0) [.ref (q 0)] (wM G q x f kl) (MQI G q kl (sel (0) (o_keyless s) s) (0) (nI s.kc)) := by
  have hlen := hm.g.len
  have hkc := hm.g.kc
  have hrc := hm.g.rc
  have hun := hm.g.un
  have hlc : lnc s.B s.len ≤ s.len := lnc_le
  refine MM.of rfl (xn_le rfl) ?_
  refine (?_ : XX G m_M_keyless (xr 0 0 0) (xx_F G (MQI G q kl (sel (0) (o_keyless s) s) (0) (nI s.kc)) (xr 0 0 0)) 0 0 (wM G q x f kl) 0 [(0, .ref (q 0))] [])
  refine XX.aload_n dd_M_keyless_0 rfl 0 rfl ?_
  refine XX.iconst (v := nI 0) dd_M_keyless_1 (by decide) ?_
  refine XX.put (q0 := 0) (ws2 := wM G q (upd x 19 (nI 0)) f kl) fp_M_57 dd_M_keyless_2 rfl rfl rfl (xn_le rfl) rfl ?_
  refine XX.aload_n dd_M_keyless_5 rfl 0 rfl ?_
  refine XX.get (q0 := 0) (v := .int ((upd x 19 (nI 0)) 7)) fl_M_94 dd_M_keyless_6 rfl rfl ?_
  refine XX.tp (y := nI s.kc) (hm.k.1) ?_
  refine XX.istore_n (lv2 := [(1, .int (nI s.kc)), (0, .ref (q 0))]) dd_M_keyless_9 rfl (by decide) rfl ?_
  refine XX.aload_n dd_M_keyless_10 rfl 1 rfl ?_
  refine XX.iconst (v := nI 0) dd_M_keyless_11 (by decide) ?_
  refine XX.put (q0 := 0) (ws2 := wM G q (upd (upd x 19 (nI 0)) 7 (nI 0)) f kl) fp_M_94 dd_M_keyless_12 rfl rfl rfl (xn_le rfl) rfl ?_
  refine XX.iload_n dd_M_keyless_15 rfl 0 rfl ?_
  exact XX.iret dd_M_keyless_16 rfl ⟨xn_le rfl, xn_le rfl⟩ (MQI.ok rfl rfl (⟨hm.g.keyless, hm.x0, hm.b, hm.sp, hm.x3, hm.x4, hm.x5, hm.x6, ⟨rfl, Nat.zero_le _, fun k hk => absurd hk (Nat.not_lt_zero _)⟩, hm.x8, hm.x9, hm.x10, hm.x11, hm.r, hm.x13, hm.u, hm.x14, hm.x15, hm.x16, hm.tk⟩))

set_option maxRecDepth 100000 in
set_option maxHeartbeats 4000000 in
theorem c_M_lines {G : XG} {q : Nat → Nat} {x : Nat → Int32} {f : Nat → Nat → Int32} {kl : va_W} {s : SS} (hm : MI s x f)  : MM G m_M_lines (xr 1 0 0) [.ref (q 0)] (wM G q x f kl) (MQI G q kl (sel (0) (s) s) (0) (nI (lnc s.B s.len))) := by
  have hlen := hm.g.len
  have hkc := hm.g.kc
  have hrc := hm.g.rc
  have hun := hm.g.un
  have hlc : lnc s.B s.len ≤ s.len := lnc_le
  refine MM.of rfl (xn_le rfl) ?_
  refine (?_ : XX G m_M_lines (xr 1 0 0) (xx_F G (MQI G q kl (sel (0) (s) s) (0) (nI (lnc s.B s.len))) (xr 1 0 0)) 0 0 (wM G q x f kl) 0 [(0, .ref (q 0))] [])
  refine XX.aload_n dd_M_lines_0 rfl 0 rfl ?_
  refine XX.iconst (v := nI 0) dd_M_lines_1 (by decide) ?_
  refine XX.put (q0 := 0) (ws2 := wM G q (upd x 19 (nI 0)) f kl) fp_M_57 dd_M_lines_2 rfl rfl rfl (xn_le rfl) rfl ?_
  refine XX.aload_n dd_M_lines_5 rfl 0 rfl ?_
  have hmf : MI s (upd x 19 (nI 0)) f := (hm.t19 _)
  obtain ⟨sp, hsp1, hsp3, hsp2⟩ := hmf.sp
  refine XX.callV (Mk := m_M_findLines) (n := 0) (As := []) (rest := []) (q0 := 0) (ci := 9) (c_M_findLines (x := upd x 19 (nI 0)) (f := f) (B := s.B) (sp := sp) hmf.x0 hmf.g.len hmf.b hsp1 hsp2) mt_M_findLines mi_M_findLines ml_M_191 rfl dd_M_lines_6 (rfl) rfl rfl ⟨xn_le rfl, xn_le rfl⟩ ⟨xn_le rfl, xn_le rfl⟩ (xn_le rfl) rfl (fun r1 w1 hp1 => ?_)
  obtain ⟨rfl, x2, g, rfl, fa1, fa2, fa3, fa4⟩ := hp1
  have hl : ML s x2 (fup f 1 g) := ML.of hmf fa1 fa2 fa3 fa4
  refine (?_ : XX G m_M_lines (xr 1 0 0) (xx_F G (MQI G q kl (sel (0) (s) s) (0) (nI (lnc s.B s.len))) (xr 1 0 0)) 0 0 (wM G q x2 (fup f 1 g) kl) 9 [(0, .ref (q 0))] [])
  refine XX.aload_n dd_M_lines_9 rfl 0 rfl ?_
  refine XX.get (q0 := 0) (v := .int (x2 1)) fl_M_78 dd_M_lines_10 rfl rfl ?_
  refine XX.tp (y := nI (lnc s.B s.len)) (hl.x1) ?_
  exact XX.iret dd_M_lines_13 rfl ⟨xn_le rfl, xn_le rfl⟩ (MQI.ok rfl (fa1 19 (by omega) (by omega)) hl.i)

set_option maxRecDepth 100000 in
set_option maxHeartbeats 4000000 in
theorem c_M_compare {G : XG} {q : Nat → Nat} {x : Nat → Int32} {f : Nat → Nat → Int32} {kl : va_W} {s : SS} (hm : MI s x f) {a b : Int32} : MM G m_M_compare (xr 7 0 0) [.ref (q 0), .int a, .int b] (wM G q x f kl) (MQI G q kl (sel (t_compare s a b) (s) s) (t_compare s a b) (v_compare s a b)) := by
  have hlen := hm.g.len
  have hkc := hm.g.kc
  have hrc := hm.g.rc
  have hun := hm.g.un
  have hlc : lnc s.B s.len ≤ s.len := lnc_le
  refine MM.of rfl (xn_le rfl) ?_
  refine (?_ : XX G m_M_compare (xr 7 0 0) (xx_F G (MQI G q kl (sel (t_compare s a b) (s) s) (t_compare s a b) (v_compare s a b)) (xr 7 0 0)) 0 0 (wM G q x f kl) 0 [(0, .ref (q 0)), (1, .int a), (2, .int b)] [])
  refine XX.aload_n dd_M_compare_0 rfl 0 rfl ?_
  have hmf : MI s x f := hm
  obtain ⟨sp, hsp1, hsp3, hsp2⟩ := hmf.sp
  refine XX.callV (Mk := m_M_findLines) (n := 0) (As := []) (rest := []) (q0 := 0) (ci := 9) (c_M_findLines (x := x) (f := f) (B := s.B) (sp := sp) hmf.x0 hmf.g.len hmf.b hsp1 hsp2) mt_M_findLines mi_M_findLines ml_M_191 rfl dd_M_compare_1 (rfl) rfl rfl ⟨xn_le rfl, xn_le rfl⟩ ⟨xn_le rfl, xn_le rfl⟩ (xn_le rfl) rfl (fun r1 w1 hp1 => ?_)
  obtain ⟨rfl, x2, g, rfl, fa1, fa2, fa3, fa4⟩ := hp1
  have hl : ML s x2 (fup f 1 g) := ML.of hmf fa1 fa2 fa3 fa4
  refine (?_ : XX G m_M_compare (xr 7 0 0) (xx_F G (MQI G q kl (sel (t_compare s a b) (s) s) (t_compare s a b) (v_compare s a b)) (xr 7 0 0)) 0 0 (wM G q x2 (fup f 1 g) kl) 4 [(0, .ref (q 0)), (1, .int a), (2, .int b)] [])
  refine XX.aload_n dd_M_compare_4 rfl 0 rfl ?_
  have j34 : XX G m_M_compare (xr 7 0 0) (xx_F G (MQI G q kl (sel (t_compare s a b) (s) s) (t_compare s a b) (v_compare s a b)) (xr 7 0 0)) 0 0 (wM G q x2 (fup f 1 g) kl) 34 [(0, .ref (q 0)), (1, .int a), (2, .int b)] [.int (bI (!(inr a (lnc s.B s.len) && inr b (lnc s.B s.len)))), .ref (q 0)] := by
    refine XX.iconst (v := nI 1) dd_M_compare_34 (by decide) ?_
    refine XX.callVx (Mk := m_M_fails) (n := 2) (As := [.int (bI (!(inr a (lnc s.B s.len) && inr b (lnc s.B s.len)))), .int (nI 1)]) (rest := []) (q0 := 0) (ci := 9) (c_M_fails (so := !(inr a (lnc s.B s.len) && inr b (lnc s.B s.len))) (kd := nI 1)) mt_M_fails mi_M_fails ml_M_70 rfl dd_M_compare_35 (rfl) rfl rfl ⟨xn_le rfl, xn_le rfl⟩ ⟨xn_le rfl, xn_le rfl⟩ (xn_le rfl) rfl ?_
    refine XX.bif_eq (tgt := 43) dd_M_compare_38 (by decide) (fun h38 => ?_) (fun h38 => ?_)
    ·
      have ht : t_compare s a b = 0 := by simp only [t_compare, tb, h38]; rfl
      have hab : (inr a (lnc s.B s.len) && inr b (lnc s.B s.len)) = true := by simpa using h38
      obtain ⟨hra, hrb⟩ := (Bool.and_eq_true _ _).mp hab
      clear h38 hab
      obtain ⟨la, ea, hla⟩ := inr_t hra (by omega)
      obtain ⟨lb, eb, hlb⟩ := inr_t hrb (by omega)
      have hl2 := hl.t19 (nI 0)
      refine XX.cg (ws2 := wM G q (upd x2 19 (nI 0)) (fup f 1 g) kl) (lv2 := [(0, .ref (q 0)), (1, .int (nI la)), (2, .int (nI lb))]) (by simp [hra, hrb]) (by rw [ea, eb]) rfl ?_
      refine XX.aload_n dd_M_compare_43 rfl 0 rfl ?_
      refine XX.iload_n dd_M_compare_44 rfl 1 rfl ?_
      refine XX.iload_n dd_M_compare_45 rfl 2 rfl ?_
      refine XX.callV (Mk := m_M_byKeys) (n := 2) (As := [.int (nI la), .int (nI lb)]) (rest := []) (q0 := 0) (ci := 9) (c_M_byKeys (x := upd x2 19 (nI 0)) (f := fup f 1 g) hl2.mtx hl2.i.g.bb hl2.i.x6 hl2.i.k hl2.i.x3 (hd := false) hl2.i.x10 (fun z => by cases z) hla hlb) mt_M_byKeys mi_M_byKeys ml_M_185 rfl dd_M_compare_46 (rfl) rfl rfl ⟨xn_le rfl, xn_le rfl⟩ ⟨xn_le rfl, xn_le rfl⟩ (xn_le rfl) rfl (fun r1 w1 hp1 => ?_)
      obtain ⟨rfl, x3, rfl, hq3⟩ := hp1
      refine (?_ : XX G m_M_compare (xr 7 0 0) (xx_F G (MQI G q kl (sel (t_compare s a b) (s) s) (t_compare s a b) (v_compare s a b)) (xr 7 0 0)) 0 0 (wM G q x3 (fup f 1 g) kl) 49 [(0, .ref (q 0)), (1, .int (nI la)), (2, .int (nI lb))] [.int (oI (sk_o s la lb))])
      have hv : v_compare s a b = oI (sk_o s la lb) := by unfold v_compare; rw [ea, eb, iN_nI (by omega), iN_nI (by omega)]
      rw [hv]
      exact XX.iret dd_M_compare_49 rfl ⟨xn_le rfl, xn_le rfl⟩ (MQI.ok ht ((hq3 19 (by omega) (by omega)).trans rfl) (hl2.i.agf hq3))
    ·
      refine XX.iconst (v := nI 0) dd_M_compare_41 (by decide) ?_
      exact XX.iret dd_M_compare_42 rfl ⟨xn_le rfl, xn_le rfl⟩ (MQI.no (by simp only [t_compare, tb, h38]; decide) (by simp only [t_compare, tb, h38]; rfl) (hl.i.t19 _))
  refine XX.iload_n dd_M_compare_5 rfl 1 rfl ?_
  refine XX.if_lt (tgt := 29) dd_M_compare_6 (by decide) (fun h6 => ?_) (fun h6 => ?_)
  ·
    refine XX.iconst (v := nI 1) dd_M_compare_29 (by decide) ?_
    refine XX.goto (tgt := 34) dd_M_compare_30 (by decide) ?_
    exact XX.tp (by exact (bI_t (by first | (simp [wi, inr, nI_z, Int32.not_lt, Int32.not_le, Int32.not_lt, Int32.not_le, h6]; done) | (simp [wi, inr, nI_z, Int32.not_lt, Int32.not_le, Int32.not_lt, Int32.not_le, h6]; simp_all [wi, inr, nI_z, Int32.not_lt, Int32.not_le]; done) | (simp_all [wi, inr, nI_z, Int32.not_lt, Int32.not_le]; done))).symm) j34
  ·
    refine XX.iload_n dd_M_compare_9 rfl 1 rfl ?_
    refine XX.aload_n dd_M_compare_10 rfl 0 rfl ?_
    refine XX.get (q0 := 0) (v := .int (x2 1)) fl_M_78 dd_M_compare_11 rfl rfl ?_
    refine XX.tp (y := nI (lnc s.B s.len)) (hl.x1) ?_
    refine XX.icmp_ge (tgt := 29) dd_M_compare_14 (by decide) (fun h14 => ?_) (fun h14 => ?_)
    ·
      refine XX.iconst (v := nI 1) dd_M_compare_29 (by decide) ?_
      refine XX.goto (tgt := 34) dd_M_compare_30 (by decide) ?_
      exact XX.tp (by exact (bI_t (by first | (simp [wi, inr, nI_z, Int32.not_lt, Int32.not_le, Int32.not_lt, Int32.not_le, h6, h14]; done) | (simp [wi, inr, nI_z, Int32.not_lt, Int32.not_le, Int32.not_lt, Int32.not_le, h6, h14]; simp_all [wi, inr, nI_z, Int32.not_lt, Int32.not_le]; done) | (simp_all [wi, inr, nI_z, Int32.not_lt, Int32.not_le]; done))).symm) j34
    ·
      refine XX.iload_n dd_M_compare_17 rfl 2 rfl ?_
      refine XX.if_lt (tgt := 29) dd_M_compare_18 (by decide) (fun h18 => ?_) (fun h18 => ?_)
      ·
        refine XX.iconst (v := nI 1) dd_M_compare_29 (by decide) ?_
        refine XX.goto (tgt := 34) dd_M_compare_30 (by decide) ?_
        exact XX.tp (by exact (bI_t (by first | (simp [wi, inr, nI_z, Int32.not_lt, Int32.not_le, Int32.not_lt, Int32.not_le, h6, h14, h18]; done) | (simp [wi, inr, nI_z, Int32.not_lt, Int32.not_le, Int32.not_lt, Int32.not_le, h6, h14, h18]; simp_all [wi, inr, nI_z, Int32.not_lt, Int32.not_le]; done) | (simp_all [wi, inr, nI_z, Int32.not_lt, Int32.not_le]; done))).symm) j34
      ·
        refine XX.iload_n dd_M_compare_21 rfl 2 rfl ?_
        refine XX.aload_n dd_M_compare_22 rfl 0 rfl ?_
        refine XX.get (q0 := 0) (v := .int (x2 1)) fl_M_78 dd_M_compare_23 rfl rfl ?_
        refine XX.tp (y := nI (lnc s.B s.len)) (hl.x1) ?_
        refine XX.icmp_lt (tgt := 33) dd_M_compare_26 (by decide) (fun h26 => ?_) (fun h26 => ?_)
        ·
          refine XX.iconst (v := nI 0) dd_M_compare_33 (by decide) ?_
          exact XX.tp (by exact (bI_f (by first | (simp [wi, inr, nI_z, Int32.not_lt, Int32.not_le, Int32.not_lt, Int32.not_le, h6, h14, h18, h26]; done) | (simp [wi, inr, nI_z, Int32.not_lt, Int32.not_le, Int32.not_lt, Int32.not_le, h6, h14, h18, h26]; simp_all [wi, inr, nI_z, Int32.not_lt, Int32.not_le]; done) | (simp_all [wi, inr, nI_z, Int32.not_lt, Int32.not_le]; done))).symm) j34
        ·
          refine XX.iconst (v := nI 1) dd_M_compare_29 (by decide) ?_
          refine XX.goto (tgt := 34) dd_M_compare_30 (by decide) ?_
          exact XX.tp (by exact (bI_t (by first | (simp [wi, inr, nI_z, Int32.not_lt, Int32.not_le, Int32.not_lt, Int32.not_le, h6, h14, h18, h26]; done) | (simp [wi, inr, nI_z, Int32.not_lt, Int32.not_le, Int32.not_lt, Int32.not_le, h6, h14, h18, h26]; simp_all [wi, inr, nI_z, Int32.not_lt, Int32.not_le]; done) | (simp_all [wi, inr, nI_z, Int32.not_lt, Int32.not_le]; done))).symm) j34

set_option maxRecDepth 100000 in
set_option maxHeartbeats 4000000 in
theorem c_M_place {G : XG} {q : Nat → Nat} {x : Nat → Int32} {f : Nat → Nat → Int32} {kl : va_W} {s : SS} (hm : MI s x f) {a b : Int32} {e : Bool} : MM G m_M_place (xr 3 0 0) [.ref (q 0), .int a, .int b, .int (bI e)] (wM G q x f kl) (MQI G q kl (sel (t_place s a b) (s) s) (t_place s a b) (v_place s a b e)) := by
  have hlen := hm.g.len
  have hkc := hm.g.kc
  have hrc := hm.g.rc
  have hun := hm.g.un
  have hlc : lnc s.B s.len ≤ s.len := lnc_le
  refine MM.of rfl (xn_le rfl) ?_
  refine (?_ : XX G m_M_place (xr 3 0 0) (xx_F G (MQI G q kl (sel (t_place s a b) (s) s) (t_place s a b) (v_place s a b e)) (xr 3 0 0)) 0 0 (wM G q x f kl) 0 [(0, .ref (q 0)), (1, .int a), (2, .int b), (3, .int (bI e))] [])
  refine XX.aload_n dd_M_place_0 rfl 0 rfl ?_
  have hmf : MI s x f := hm
  obtain ⟨sp, hsp1, hsp3, hsp2⟩ := hmf.sp
  refine XX.callV (Mk := m_M_findLines) (n := 0) (As := []) (rest := []) (q0 := 0) (ci := 9) (c_M_findLines (x := x) (f := f) (B := s.B) (sp := sp) hmf.x0 hmf.g.len hmf.b hsp1 hsp2) mt_M_findLines mi_M_findLines ml_M_191 rfl dd_M_place_1 (rfl) rfl rfl ⟨xn_le rfl, xn_le rfl⟩ ⟨xn_le rfl, xn_le rfl⟩ (xn_le rfl) rfl (fun r1 w1 hp1 => ?_)
  obtain ⟨rfl, x2, g, rfl, fa1, fa2, fa3, fa4⟩ := hp1
  have hl : ML s x2 (fup f 1 g) := ML.of hmf fa1 fa2 fa3 fa4
  refine (?_ : XX G m_M_place (xr 3 0 0) (xx_F G (MQI G q kl (sel (t_place s a b) (s) s) (t_place s a b) (v_place s a b e)) (xr 3 0 0)) 0 0 (wM G q x2 (fup f 1 g) kl) 4 [(0, .ref (q 0)), (1, .int a), (2, .int b), (3, .int (bI e))] [])
  refine XX.aload_n dd_M_place_4 rfl 0 rfl ?_
  have j34 : XX G m_M_place (xr 3 0 0) (xx_F G (MQI G q kl (sel (t_place s a b) (s) s) (t_place s a b) (v_place s a b e)) (xr 3 0 0)) 0 0 (wM G q x2 (fup f 1 g) kl) 34 [(0, .ref (q 0)), (1, .int a), (2, .int b), (3, .int (bI e))] [.int (bI (!(inr a (lnc s.B s.len) && inr b (max 1 s.kc)))), .ref (q 0)] := by
    refine XX.iconst (v := nI 1) dd_M_place_34 (by decide) ?_
    refine XX.callVx (Mk := m_M_fails) (n := 2) (As := [.int (bI (!(inr a (lnc s.B s.len) && inr b (max 1 s.kc)))), .int (nI 1)]) (rest := []) (q0 := 0) (ci := 9) (c_M_fails (so := !(inr a (lnc s.B s.len) && inr b (max 1 s.kc))) (kd := nI 1)) mt_M_fails mi_M_fails ml_M_70 rfl dd_M_place_35 (rfl) rfl rfl ⟨xn_le rfl, xn_le rfl⟩ ⟨xn_le rfl, xn_le rfl⟩ (xn_le rfl) rfl ?_
    refine XX.bif_eq (tgt := 43) dd_M_place_38 (by decide) (fun h38 => ?_) (fun h38 => ?_)
    ·
      have ht : t_place s a b = 0 := by simp only [t_place, tb, h38]; rfl
      have hab : (inr a (lnc s.B s.len) && inr b (max 1 s.kc)) = true := by simpa using h38
      obtain ⟨hra, hrb⟩ := (Bool.and_eq_true _ _).mp hab
      clear h38 hab
      obtain ⟨la, ea, hla⟩ := inr_t hra (by omega)
      obtain ⟨lb, eb, hlb⟩ := inr_t hrb (by omega)
      have hl2 := hl.t19 (nI 0)
      refine XX.cg (ws2 := wM G q (upd x2 19 (nI 0)) (fup f 1 g) kl) (lv2 := [(0, .ref (q 0)), (1, .int (nI la)), (2, .int (nI lb)), (3, .int (bI e))]) (by simp [hra, hrb]) (by rw [ea, eb]) rfl ?_
      refine XX.iload_n dd_M_place_43 rfl 3 rfl ?_
      refine XX.bif_eq (tgt := 56) dd_M_place_44 (by decide) (fun h44 => ?_) (fun h44 => ?_)
      ·
        refine XX.aload_n dd_M_place_56 rfl 0 rfl ?_
        refine XX.iload_n dd_M_place_57 rfl 1 rfl ?_
        refine XX.iload_n dd_M_place_58 rfl 2 rfl ?_
        refine XX.callV (Mk := m_M_keyBegin) (n := 2) (As := [.int (nI la), .int (nI lb)]) (rest := []) (q0 := 0) (ci := 9) (c_M_keyBegin (x := upd x2 19 (nI 0)) (f := fup f 1 g) hl2.mtx hl2.i.x6 hl2.i.k hl2.i.x3 hla hlb) mt_M_keyBegin mi_M_keyBegin ml_M_129 rfl dd_M_place_59 (rfl) rfl rfl ⟨xn_le rfl, xn_le rfl⟩ ⟨xn_le rfl, xn_le rfl⟩ (xn_le rfl) rfl (fun r1 w1 hp1 => ?_)
        obtain ⟨rfl, x3, rfl, hq3⟩ := hp1
        have hl3 := hl2.agf hq3
        refine (?_ : XX G m_M_place (xr 3 0 0) (xx_F G (MQI G q kl (sel (t_place s a b) (s) s) (t_place s a b) (v_place s a b e)) (xr 3 0 0)) 0 0 (wM G q x3 (fup f 1 g) kl) 62 [(0, .ref (q 0)), (1, .int (nI la)), (2, .int (nI lb)), (3, .int (bI e))] [.int (nI (sp_begin s la lb))])
        refine XX.aload_n dd_M_place_62 rfl 0 rfl ?_
        refine XX.iload_n dd_M_place_63 rfl 1 rfl ?_
        refine XX.callVr (Mk := m_M_startOf) (n := 1) (As := [.int (nI la)]) (rest := [.int (nI (sp_begin s la lb))]) (q0 := 0) (ci := 9) (c_M_startOf hl3.mtx (l := la) (by omega)) mt_M_startOf mi_M_startOf ml_M_101 rfl dd_M_place_64 (rfl) rfl rfl ⟨xn_le rfl, xn_le rfl⟩ ⟨xn_le rfl, xn_le rfl⟩ (xn_le rfl) rfl ?_
        refine XX.isub dd_M_place_67 ?_
        have hv : v_place s a b e = (nI (sp_begin s la lb)) - (nI (lst s.B s.len la)) := by unfold v_place; rw [ea, eb, iN_nI (by omega), iN_nI (by omega), h44]; rfl
        rw [hv]
        exact XX.iret dd_M_place_68 rfl ⟨xn_le rfl, xn_le rfl⟩ (MQI.ok (v := (nI (sp_begin s la lb)) - (nI (lst s.B s.len la))) ht ((hq3 19 (by omega) (by omega)).trans rfl) hl3.i)
      ·
        refine XX.aload_n dd_M_place_47 rfl 0 rfl ?_
        refine XX.iload_n dd_M_place_48 rfl 1 rfl ?_
        refine XX.iload_n dd_M_place_49 rfl 2 rfl ?_
        refine XX.callV (Mk := m_M_keyEnd) (n := 2) (As := [.int (nI la), .int (nI lb)]) (rest := []) (q0 := 0) (ci := 9) (c_M_keyEnd (x := upd x2 19 (nI 0)) (f := fup f 1 g) hl2.mtx hl2.i.x6 hl2.i.k hl2.i.x3 hla hlb) mt_M_keyEnd mi_M_keyEnd ml_M_132 rfl dd_M_place_50 (rfl) rfl rfl ⟨xn_le rfl, xn_le rfl⟩ ⟨xn_le rfl, xn_le rfl⟩ (xn_le rfl) rfl (fun r1 w1 hp1 => ?_)
        obtain ⟨rfl, x3, rfl, hq3⟩ := hp1
        have hl3 := hl2.agf hq3
        refine (?_ : XX G m_M_place (xr 3 0 0) (xx_F G (MQI G q kl (sel (t_place s a b) (s) s) (t_place s a b) (v_place s a b e)) (xr 3 0 0)) 0 0 (wM G q x3 (fup f 1 g) kl) 53 [(0, .ref (q 0)), (1, .int (nI la)), (2, .int (nI lb)), (3, .int (bI e))] [.int (nI (sp_end s la lb))])
        refine XX.goto (tgt := 62) dd_M_place_53 (by decide) ?_
        refine XX.aload_n dd_M_place_62 rfl 0 rfl ?_
        refine XX.iload_n dd_M_place_63 rfl 1 rfl ?_
        refine XX.callVr (Mk := m_M_startOf) (n := 1) (As := [.int (nI la)]) (rest := [.int (nI (sp_end s la lb))]) (q0 := 0) (ci := 9) (c_M_startOf hl3.mtx (l := la) (by omega)) mt_M_startOf mi_M_startOf ml_M_101 rfl dd_M_place_64 (rfl) rfl rfl ⟨xn_le rfl, xn_le rfl⟩ ⟨xn_le rfl, xn_le rfl⟩ (xn_le rfl) rfl ?_
        refine XX.isub dd_M_place_67 ?_
        have hv : v_place s a b e = (nI (sp_end s la lb)) - (nI (lst s.B s.len la)) := by unfold v_place; rw [ea, eb, iN_nI (by omega), iN_nI (by omega), h44]; rfl
        rw [hv]
        exact XX.iret dd_M_place_68 rfl ⟨xn_le rfl, xn_le rfl⟩ (MQI.ok (v := (nI (sp_end s la lb)) - (nI (lst s.B s.len la))) ht ((hq3 19 (by omega) (by omega)).trans rfl) hl3.i)
    ·
      refine XX.iconst (v := nI 0) dd_M_place_41 (by decide) ?_
      exact XX.iret dd_M_place_42 rfl ⟨xn_le rfl, xn_le rfl⟩ (MQI.no (by simp only [t_place, tb, h38]; decide) (by simp only [t_place, tb, h38]; rfl) (hl.i.t19 _))
  refine XX.iload_n dd_M_place_5 rfl 1 rfl ?_
  refine XX.if_lt (tgt := 29) dd_M_place_6 (by decide) (fun h6 => ?_) (fun h6 => ?_)
  ·
    refine XX.iconst (v := nI 1) dd_M_place_29 (by decide) ?_
    refine XX.goto (tgt := 34) dd_M_place_30 (by decide) ?_
    exact XX.tp (by exact (bI_t (by first | (simp [wi, inr, nI_z, Int32.not_lt, Int32.not_le, Int32.not_lt, Int32.not_le, h6]; done) | (simp [wi, inr, nI_z, Int32.not_lt, Int32.not_le, Int32.not_lt, Int32.not_le, h6]; simp_all [wi, inr, nI_z, Int32.not_lt, Int32.not_le]; done) | (simp_all [wi, inr, nI_z, Int32.not_lt, Int32.not_le]; done))).symm) j34
  ·
    refine XX.iload_n dd_M_place_9 rfl 1 rfl ?_
    refine XX.aload_n dd_M_place_10 rfl 0 rfl ?_
    refine XX.get (q0 := 0) (v := .int (x2 1)) fl_M_78 dd_M_place_11 rfl rfl ?_
    refine XX.tp (y := nI (lnc s.B s.len)) (hl.x1) ?_
    refine XX.icmp_ge (tgt := 29) dd_M_place_14 (by decide) (fun h14 => ?_) (fun h14 => ?_)
    ·
      refine XX.iconst (v := nI 1) dd_M_place_29 (by decide) ?_
      refine XX.goto (tgt := 34) dd_M_place_30 (by decide) ?_
      exact XX.tp (by exact (bI_t (by first | (simp [wi, inr, nI_z, Int32.not_lt, Int32.not_le, Int32.not_lt, Int32.not_le, h6, h14]; done) | (simp [wi, inr, nI_z, Int32.not_lt, Int32.not_le, Int32.not_lt, Int32.not_le, h6, h14]; simp_all [wi, inr, nI_z, Int32.not_lt, Int32.not_le]; done) | (simp_all [wi, inr, nI_z, Int32.not_lt, Int32.not_le]; done))).symm) j34
    ·
      refine XX.iload_n dd_M_place_17 rfl 2 rfl ?_
      refine XX.if_lt (tgt := 29) dd_M_place_18 (by decide) (fun h18 => ?_) (fun h18 => ?_)
      ·
        refine XX.iconst (v := nI 1) dd_M_place_29 (by decide) ?_
        refine XX.goto (tgt := 34) dd_M_place_30 (by decide) ?_
        exact XX.tp (by exact (bI_t (by first | (simp [wi, inr, nI_z, Int32.not_lt, Int32.not_le, Int32.not_lt, Int32.not_le, h6, h14, h18]; done) | (simp [wi, inr, nI_z, Int32.not_lt, Int32.not_le, Int32.not_lt, Int32.not_le, h6, h14, h18]; simp_all [wi, inr, nI_z, Int32.not_lt, Int32.not_le]; done) | (simp_all [wi, inr, nI_z, Int32.not_lt, Int32.not_le]; done))).symm) j34
      ·
        refine XX.iload_n dd_M_place_21 rfl 2 rfl ?_
        refine XX.aload_n dd_M_place_22 rfl 0 rfl ?_
        refine XX.callVr (Mk := m_M_keysThere) (n := 0) (As := []) (rest := [.int b, .ref (q 0)]) (q0 := 0) (ci := 9) (c_M_keysThere hl.i.k) mt_M_keysThere mi_M_keysThere ml_M_168 rfl dd_M_place_23 (rfl) rfl rfl ⟨xn_le rfl, xn_le rfl⟩ ⟨xn_le rfl, xn_le rfl⟩ (xn_le rfl) rfl ?_
        refine XX.icmp_lt (tgt := 33) dd_M_place_26 (by decide) (fun h26 => ?_) (fun h26 => ?_)
        ·
          refine XX.iconst (v := nI 0) dd_M_place_33 (by decide) ?_
          exact XX.tp (by exact (bI_f (by first | (simp [wi, inr, nI_z, Int32.not_lt, Int32.not_le, Int32.not_lt, Int32.not_le, h6, h14, h18, h26]; done) | (simp [wi, inr, nI_z, Int32.not_lt, Int32.not_le, Int32.not_lt, Int32.not_le, h6, h14, h18, h26]; simp_all [wi, inr, nI_z, Int32.not_lt, Int32.not_le]; done) | (simp_all [wi, inr, nI_z, Int32.not_lt, Int32.not_le]; done))).symm) j34
        ·
          refine XX.iconst (v := nI 1) dd_M_place_29 (by decide) ?_
          refine XX.goto (tgt := 34) dd_M_place_30 (by decide) ?_
          exact XX.tp (by exact (bI_t (by first | (simp [wi, inr, nI_z, Int32.not_lt, Int32.not_le, Int32.not_lt, Int32.not_le, h6, h14, h18, h26]; done) | (simp [wi, inr, nI_z, Int32.not_lt, Int32.not_le, Int32.not_lt, Int32.not_le, h6, h14, h18, h26]; simp_all [wi, inr, nI_z, Int32.not_lt, Int32.not_le]; done) | (simp_all [wi, inr, nI_z, Int32.not_lt, Int32.not_le]; done))).symm) j34

set_option maxRecDepth 100000 in
set_option maxHeartbeats 4000000 in
theorem c_M_result {G : XG} {q : Nat → Nat} {x : Nat → Int32} {f : Nat → Nat → Int32} {kl : va_W} {s : SS} (hm : MI s x f) {a : Int32} : MM G m_M_result (xr 0 0 0) [.ref (q 0), .int a] (wM G q x f kl) (MQI G q kl (sel (0) (s) s) (0) (v_result s a)) := by
  have hlen := hm.g.len
  have hkc := hm.g.kc
  have hrc := hm.g.rc
  have hun := hm.g.un
  have hlc : lnc s.B s.len ≤ s.len := lnc_le
  refine MM.of rfl (xn_le rfl) ?_
  refine (?_ : XX G m_M_result (xr 0 0 0) (xx_F G (MQI G q kl (sel (0) (s) s) (0) (v_result s a)) (xr 0 0 0)) 0 0 (wM G q x f kl) 0 [(0, .ref (q 0)), (1, .int a)] [])
  refine XX.aload_n dd_M_result_0 rfl 0 rfl ?_
  refine XX.iconst (v := nI 0) dd_M_result_1 (by decide) ?_
  refine XX.put (q0 := 0) (ws2 := wM G q (upd x 19 (nI 0)) f kl) fp_M_57 dd_M_result_2 rfl rfl rfl (xn_le rfl) rfl ?_
  refine XX.iload_n dd_M_result_5 rfl 1 rfl ?_
  refine XX.if_lt (tgt := 26) dd_M_result_6 (by decide) (fun h6 => ?_) (fun h6 => ?_)
  ·
    refine XX.iconst (v := -1) dd_M_result_26 (by decide) ?_
    have hv : v_result s a = -1 := by unfold v_result; rw [if_neg (by simp [inr, h6])]
    rw [hv]
    exact XX.iret dd_M_result_27 rfl ⟨xn_le rfl, xn_le rfl⟩ (MQI.ok rfl rfl (hm.t19 _))
  ·
    refine XX.iload_n dd_M_result_9 rfl 1 rfl ?_
    refine XX.aload_n dd_M_result_10 rfl 0 rfl ?_
    refine XX.get (q0 := 0) (v := .int ((upd x 19 (nI 0)) 11)) fl_M_67 dd_M_result_11 rfl rfl ?_
    refine XX.tp (y := nI s.rc) (hm.x11) ?_
    refine XX.icmp_ge (tgt := 26) dd_M_result_14 (by decide) (fun h14 => ?_) (fun h14 => ?_)
    ·
      refine XX.iconst (v := -1) dd_M_result_26 (by decide) ?_
      have hv : v_result s a = -1 := by unfold v_result; rw [if_neg (by simp [inr, h6, Int32.not_lt.mpr h14])]
      rw [hv]
      exact XX.iret dd_M_result_27 rfl ⟨xn_le rfl, xn_le rfl⟩ (MQI.ok rfl rfl (hm.t19 _))
    ·
      have hra : inr a s.rc = true := by simp [inr, h6, Int32.not_le.mp h14]
      obtain ⟨la, ea, hla⟩ := inr_t hra (by omega)
      refine XX.cg (ws2 := wM G q (upd x 19 (nI 0)) f kl) (lv2 := [(0, .ref (q 0)), (1, .int (nI la))]) rfl (by rw [ea]) rfl ?_
      refine XX.aload_n dd_M_result_17 rfl 0 rfl ?_
      refine XX.get (q0 := 0) (v := .ref (q 6)) fl_M_36 dd_M_result_18 rfl rfl ?_
      refine XX.iload_n dd_M_result_21 rfl 1 rfl ?_
      refine XX.iald (q0 := 6) (n := 1000) (j := la) (f := f 5) dd_M_result_22 rfl (by omega) (by decide) ?_
      refine XX.tp (y := nI (s.rl la)) (hm.r la (by omega)) ?_
      refine XX.goto (tgt := 27) dd_M_result_23 (by decide) ?_
      have hv : v_result s a = nI (s.rl la) := by unfold v_result; rw [if_pos hra, ea, iN_nI (by omega)]
      rw [hv]
      exact XX.iret dd_M_result_27 rfl ⟨xn_le rfl, xn_le rfl⟩ (MQI.ok rfl rfl (hm.t19 _))

set_option maxRecDepth 100000 in
set_option maxHeartbeats 4000000 in
theorem c_M_run {G : XG} {q : Nat → Nat} {x : Nat → Int32} {f : Nat → Nat → Int32} {kl : va_W} {s : SS} (hm : MI s x f) {a : Int32} : MM G m_M_run (xr 0 0 0) [.ref (q 0), .int a] (wM G q x f kl) (MQI G q kl (sel (0) (s) s) (0) (v_run s a)) := by
  have hlen := hm.g.len
  have hkc := hm.g.kc
  have hrc := hm.g.rc
  have hun := hm.g.un
  have hlc : lnc s.B s.len ≤ s.len := lnc_le
  refine MM.of rfl (xn_le rfl) ?_
  refine (?_ : XX G m_M_run (xr 0 0 0) (xx_F G (MQI G q kl (sel (0) (s) s) (0) (v_run s a)) (xr 0 0 0)) 0 0 (wM G q x f kl) 0 [(0, .ref (q 0)), (1, .int a)] [])
  refine XX.aload_n dd_M_run_0 rfl 0 rfl ?_
  refine XX.iconst (v := nI 0) dd_M_run_1 (by decide) ?_
  refine XX.put (q0 := 0) (ws2 := wM G q (upd x 19 (nI 0)) f kl) fp_M_57 dd_M_run_2 rfl rfl rfl (xn_le rfl) rfl ?_
  refine XX.iload_n dd_M_run_5 rfl 1 rfl ?_
  refine XX.if_lt (tgt := 26) dd_M_run_6 (by decide) (fun h6 => ?_) (fun h6 => ?_)
  ·
    refine XX.iconst (v := -1) dd_M_run_26 (by decide) ?_
    have hv : v_run s a = -1 := by unfold v_run; rw [if_neg (by simp [inr, h6])]
    rw [hv]
    exact XX.iret dd_M_run_27 rfl ⟨xn_le rfl, xn_le rfl⟩ (MQI.ok rfl rfl (hm.t19 _))
  ·
    refine XX.iload_n dd_M_run_9 rfl 1 rfl ?_
    refine XX.aload_n dd_M_run_10 rfl 0 rfl ?_
    refine XX.get (q0 := 0) (v := .int ((upd x 19 (nI 0)) 13)) fl_M_215 dd_M_run_11 rfl rfl ?_
    refine XX.tp (y := nI s.un) (hm.x13) ?_
    refine XX.icmp_ge (tgt := 26) dd_M_run_14 (by decide) (fun h14 => ?_) (fun h14 => ?_)
    ·
      refine XX.iconst (v := -1) dd_M_run_26 (by decide) ?_
      have hv : v_run s a = -1 := by unfold v_run; rw [if_neg (by simp [inr, h6, Int32.not_lt.mpr h14])]
      rw [hv]
      exact XX.iret dd_M_run_27 rfl ⟨xn_le rfl, xn_le rfl⟩ (MQI.ok rfl rfl (hm.t19 _))
    ·
      have hra : inr a s.un = true := by simp [inr, h6, Int32.not_le.mp h14]
      obtain ⟨la, ea, hla⟩ := inr_t hra (by omega)
      refine XX.cg (ws2 := wM G q (upd x 19 (nI 0)) f kl) (lv2 := [(0, .ref (q 0)), (1, .int (nI la))]) rfl (by rw [ea]) rfl ?_
      refine XX.aload_n dd_M_run_17 rfl 0 rfl ?_
      refine XX.get (q0 := 0) (v := .ref (q 10)) fl_M_48 dd_M_run_18 rfl rfl ?_
      refine XX.iload_n dd_M_run_21 rfl 1 rfl ?_
      refine XX.iald (q0 := 10) (n := 1000) (j := la) (f := f 9) dd_M_run_22 rfl (by omega) (by decide) ?_
      refine XX.tp (y := nI (s.ul la)) (hm.u la (by omega)) ?_
      refine XX.goto (tgt := 27) dd_M_run_23 (by decide) ?_
      have hv : v_run s a = nI (s.ul la) := by unfold v_run; rw [if_pos hra, ea, iN_nI (by omega)]
      rw [hv]
      exact XX.iret dd_M_run_27 rfl ⟨xn_le rfl, xn_le rfl⟩ (MQI.ok rfl rfl (hm.t19 _))

