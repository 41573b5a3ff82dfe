def gn5 (len bc : Nat) (n : Nat → Nat) (a b c d e : Int32) : Nat → Nat := gn (len + 4 + 4 + 4 + 4) (bc + nbw a 4 + nbw b 4 + nbw c 4 + nbw d 4) (gn (len + 4 + 4 + 4) (bc + nbw a 4 + nbw b 4 + nbw c 4) (gn (len + 4 + 4) (bc + nbw a 4 + nbw b 4) (gn (len + 4) (bc + nbw a 4) (gn len bc n))))

/-- what a feed may cost -/
def fgr (t len bc : Nat) (n : Nat → Nat) (a b c d e : Int32) : Nat := if t = 0 then 2 * (gn5 len bc n a b c d e 0 - n 0) + 2 * (gn5 len bc n a b c d e 1 - n 1) else 0

set_option maxRecDepth 100000 in
set_option maxHeartbeats 4000000 in
theorem c_S_feed {G : XG} {q : Nat → Nat} {x : Nat → Int32} {n : Nat → Nat} {f : Nat → Nat → Int32} {kf : Nat → Option Nat} {ks T : va_W} {s : SS} {bc : Nat} {br ka : Nat → Nat} (hc : CI s x n f kf ks bc br ka) (htr : ∀ e : Env, G.2.2.2.admits e → e.platform.stackTraces = false) {a b c d e : Int32} : MT G m_S_feed (xr 6 11 (6 + fgr (t_feed s) s.len bc n a b c d e)) [.ref (q 0), .int a, .int b, .int c, .int d, .int e] (wC G q x n f kf (ks ++ T)) (PT (t_feed s) (CQI G q (gn5 s.len bc n a b c d e) T (o_feed s a b c d e) (nI (s.len + 20)))) (ET (t_feed s) xIS (wC G q x n f kf (ks ++ T))) := by
  have hlen := hc.g.len
  have hkc := hc.g.kc
  have hrc := hc.g.rc
  have hun := hc.g.un
  have hlc : lnc s.B s.len ≤ s.len := lnc_le
  have hbl := (brk_le hc.b).2
  have hbl1 := (brk_le hc.b).1
  refine MT.of rfl (xn_le rfl) ?_
  refine (?_ : XR G m_S_feed (xr 6 11 (6 + fgr (t_feed s) s.len bc n a b c d e)) (xx_FT G (PT (t_feed s) (CQI G q (gn5 s.len bc n a b c d e) T (o_feed s a b c d e) (nI (s.len + 20)))) (ET (t_feed s) xIS (wC G q x n f kf (ks ++ T))) (xr 6 11 (6 + fgr (t_feed s) s.len bc n a b c d e))) (wC G q x n f kf (ks ++ T)) 0 [(0, .ref (q 0)), (1, .int a), (2, .int b), (3, .int c), (4, .int d), (5, .int e)] [])
  refine XR.aload_n dd_S_feed_0 rfl 0 rfl ?_
  refine XR.get (q0 := 0) (v := .ref (q 1)) fl_S_10 dd_S_feed_1 rfl rfl ?_
  refine XR.get (q0 := 1) (v := .int (x 3)) fl_S_73 dd_S_feed_4 rfl rfl ?_
  refine XR.tp (y := nI s.len) (hc.t.1) ?_
  refine XR.bipush (v := nI 20) dd_S_feed_7 (by decide) ?_
  refine XR.iadd dd_S_feed_9 ?_
  refine XR.tp (y := nI (s.len + 20)) (nI_add _ _) ?_
  refine XR.sipush (v := nI 20000) dd_S_feed_10 (by decide) ?_
  refine XR.ncmp_le (tgt := 26) dd_S_feed_13 (by decide) (by omega) (by omega) (fun h13 => ?_) (fun h13 => ?_)
  ·
    have ht : t_feed s = 0 := by unfold t_feed tb; rw [if_neg]; intro z; have := of_decide_eq_true z; omega
    have hF0 : FI x n f s.len bc br s.B := ⟨hc.t, hc.b, hc.fit, hc.nn⟩
    have hsg := hc.g.feed (a := a) (b := b) (c := c) (d := d) (e := e) ht
    have hgg0 := gn_ge s.len bc n
    have hgg1 := gn_ge (s.len + 4) (bc + nbw a 4) (gn s.len bc n)
    have hgg2 := gn_ge (s.len + 4 + 4) (bc + nbw a 4 + nbw b 4) (gn (s.len + 4) (bc + nbw a 4) (gn s.len bc n))
    have hgg3 := gn_ge (s.len + 4 + 4 + 4) (bc + nbw a 4 + nbw b 4 + nbw c 4) (gn (s.len + 4 + 4) (bc + nbw a 4 + nbw b 4) (gn (s.len + 4) (bc + nbw a 4) (gn s.len bc n)))
    have hgg4 := gn_ge (s.len + 4 + 4 + 4 + 4) (bc + nbw a 4 + nbw b 4 + nbw c 4 + nbw d 4) (gn (s.len + 4 + 4 + 4) (bc + nbw a 4 + nbw b 4 + nbw c 4) (gn (s.len + 4 + 4) (bc + nbw a 4 + nbw b 4) (gn (s.len + 4) (bc + nbw a 4) (gn s.len bc n))))
    have e5 : gn5 s.len bc n a b c d e = gn (s.len + 4 + 4 + 4 + 4) (bc + nbw a 4 + nbw b 4 + nbw c 4 + nbw d 4) (gn (s.len + 4 + 4 + 4) (bc + nbw a 4 + nbw b 4 + nbw c 4) (gn (s.len + 4 + 4) (bc + nbw a 4 + nbw b 4) (gn (s.len + 4) (bc + nbw a 4) (gn s.len bc n)))) := rfl
    have e50 : (gn5 s.len bc n a b c d e) 0 = (gn (s.len + 4 + 4 + 4 + 4) (bc + nbw a 4 + nbw b 4 + nbw c 4 + nbw d 4) (gn (s.len + 4 + 4 + 4) (bc + nbw a 4 + nbw b 4 + nbw c 4) (gn (s.len + 4 + 4) (bc + nbw a 4 + nbw b 4) (gn (s.len + 4) (bc + nbw a 4) (gn s.len bc n))))) 0 := rfl
    have e51 : (gn5 s.len bc n a b c d e) 1 = (gn (s.len + 4 + 4 + 4 + 4) (bc + nbw a 4 + nbw b 4 + nbw c 4 + nbw d 4) (gn (s.len + 4 + 4 + 4) (bc + nbw a 4 + nbw b 4 + nbw c 4) (gn (s.len + 4 + 4) (bc + nbw a 4 + nbw b 4) (gn (s.len + 4) (bc + nbw a 4) (gn s.len bc n))))) 1 := rfl
    have efg : fgr (t_feed s) s.len bc n a b c d e = 2 * (gn5 s.len bc n a b c d e 0 - n 0) + 2 * (gn5 s.len bc n a b c d e 1 - n 1) := if_pos ht
    refine XR.xx (XX.ft ?_)
    refine XX.aload_n dd_S_feed_26 rfl 0 rfl ?_
    refine XX.get (q0 := 0) (v := .ref (q 1)) fl_S_10 dd_S_feed_27 rfl rfl ?_
    refine XX.iload_n dd_S_feed_30 rfl 1 rfl ?_
    refine XX.callV (Mk := m_T_append) (n := 1) (As := [.int a]) (rest := []) (q0 := 1) (ci := 1) (c_app hF0 (by omega)) mt_T_append mi_T_append ml_S_83 rfl dd_S_feed_31 (rfl) rfl rfl ⟨xn_le rfl, xn_le rfl⟩ ⟨xr_c (by show 0 + 2 ≤ 11; omega), xr_s (by show 0 + (2 * ((gn s.len bc n) 0 - n 0) + 2 * ((gn s.len bc n) 1 - n 1)) ≤ 6 + fgr (t_feed s) s.len bc n a b c d e; omega)⟩ (xn_le rfl) rfl (fun r1 w1 hp1 => ?_)
    obtain ⟨rfl, q1, x1, f1, br1, rfl, hq1, hx1, hf1, hF1⟩ := hp1
    refine XX.widen (c2 := 2) (s2 := 2 * ((gn s.len bc n) 0 - n 0) + 2 * ((gn s.len bc n) 1 - n 1)) (by show 0 + 2 ≤ 2; omega) (by show 0 + (2 * ((gn s.len bc n) 0 - n 0) + 2 * ((gn s.len bc n) 1 - n 1)) ≤ 2 * ((gn s.len bc n) 0 - n 0) + 2 * ((gn s.len bc n) 1 - n 1); omega) ?_
    refine XX.cg (ws2 := wC G q1 x1 (gn s.len bc n) f1 kf (ks ++ T)) (lv2 := [(0, .ref (q1 0)), (1, .int a), (2, .int b), (3, .int c), (4, .int d), (5, .int e)]) rfl (by rw [hq1]) rfl ?_
    refine XX.aload_n dd_S_feed_34 rfl 0 rfl ?_
    refine XX.get (q0 := 0) (v := .ref (q1 1)) fl_S_10 dd_S_feed_35 rfl rfl ?_
    refine XX.iload_n dd_S_feed_38 rfl 2 rfl ?_
    refine XX.callV (Mk := m_T_append) (n := 1) (As := [.int b]) (rest := []) (q0 := 1) (ci := 1) (c_app hF1 (by omega)) mt_T_append mi_T_append ml_S_83 rfl dd_S_feed_39 (rfl) rfl rfl ⟨xn_le rfl, xn_le rfl⟩ ⟨xr_c (by show 2 + 2 ≤ 11; omega), xr_s (by show 2 * ((gn s.len bc n) 0 - n 0) + 2 * ((gn s.len bc n) 1 - n 1) + (2 * ((gn (s.len + 4) (bc + nbw a 4) (gn s.len bc n)) 0 - (gn s.len bc n) 0) + 2 * ((gn (s.len + 4) (bc + nbw a 4) (gn s.len bc n)) 1 - (gn s.len bc n) 1)) ≤ 6 + fgr (t_feed s) s.len bc n a b c d e; omega)⟩ (xn_le rfl) rfl (fun r1 w1 hp1 => ?_)
    obtain ⟨rfl, q2, x2, f2, br2, rfl, hq2, hx2, hf2, hF2⟩ := hp1
    refine XX.widen (c2 := 4) (s2 := 2 * ((gn (s.len + 4) (bc + nbw a 4) (gn s.len bc n)) 0 - n 0) + 2 * ((gn (s.len + 4) (bc + nbw a 4) (gn s.len bc n)) 1 - n 1)) (by show 2 + 2 ≤ 4; omega) (by show 2 * ((gn s.len bc n) 0 - n 0) + 2 * ((gn s.len bc n) 1 - n 1) + (2 * ((gn (s.len + 4) (bc + nbw a 4) (gn s.len bc n)) 0 - (gn s.len bc n) 0) + 2 * ((gn (s.len + 4) (bc + nbw a 4) (gn s.len bc n)) 1 - (gn s.len bc n) 1)) ≤ 2 * ((gn (s.len + 4) (bc + nbw a 4) (gn s.len bc n)) 0 - n 0) + 2 * ((gn (s.len + 4) (bc + nbw a 4) (gn s.len bc n)) 1 - n 1); omega) ?_
    refine XX.cg (ws2 := wC G q2 x2 (gn (s.len + 4) (bc + nbw a 4) (gn s.len bc n)) f2 kf (ks ++ T)) (lv2 := [(0, .ref (q2 0)), (1, .int a), (2, .int b), (3, .int c), (4, .int d), (5, .int e)]) rfl (by rw [hq2]) rfl ?_
    refine XX.aload_n dd_S_feed_42 rfl 0 rfl ?_
    refine XX.get (q0 := 0) (v := .ref (q2 1)) fl_S_10 dd_S_feed_43 rfl rfl ?_
    refine XX.iload_n dd_S_feed_46 rfl 3 rfl ?_
    refine XX.callV (Mk := m_T_append) (n := 1) (As := [.int c]) (rest := []) (q0 := 1) (ci := 1) (c_app hF2 (by omega)) mt_T_append mi_T_append ml_S_83 rfl dd_S_feed_47 (rfl) rfl rfl ⟨xn_le rfl, xn_le rfl⟩ ⟨xr_c (by show 4 + 2 ≤ 11; omega), xr_s (by show 2 * ((gn (s.len + 4) (bc + nbw a 4) (gn s.len bc n)) 0 - n 0) + 2 * ((gn (s.len + 4) (bc + nbw a 4) (gn s.len bc n)) 1 - n 1) + (2 * ((gn (s.len + 4 + 4) (bc + nbw a 4 + nbw b 4) (gn (s.len + 4) (bc + nbw a 4) (gn s.len bc n))) 0 - (gn (s.len + 4) (bc + nbw a 4) (gn s.len bc n)) 0) + 2 * ((gn (s.len + 4 + 4) (bc + nbw a 4 + nbw b 4) (gn (s.len + 4) (bc + nbw a 4) (gn s.len bc n))) 1 - (gn (s.len + 4) (bc + nbw a 4) (gn s.len bc n)) 1)) ≤ 6 + fgr (t_feed s) s.len bc n a b c d e; omega)⟩ (xn_le rfl) rfl (fun r1 w1 hp1 => ?_)
    obtain ⟨rfl, q3, x3, f3, br3, rfl, hq3, hx3, hf3, hF3⟩ := hp1
    refine XX.widen (c2 := 6) (s2 := 2 * ((gn (s.len + 4 + 4) (bc + nbw a 4 + nbw b 4) (gn (s.len + 4) (bc + nbw a 4) (gn s.len bc n))) 0 - n 0) + 2 * ((gn (s.len + 4 + 4) (bc + nbw a 4 + nbw b 4) (gn (s.len + 4) (bc + nbw a 4) (gn s.len bc n))) 1 - n 1)) (by show 4 + 2 ≤ 6; omega) (by show 2 * ((gn (s.len + 4) (bc + nbw a 4) (gn s.len bc n)) 0 - n 0) + 2 * ((gn (s.len + 4) (bc + nbw a 4) (gn s.len bc n)) 1 - n 1) + (2 * ((gn (s.len + 4 + 4) (bc + nbw a 4 + nbw b 4) (gn (s.len + 4) (bc + nbw a 4) (gn s.len bc n))) 0 - (gn (s.len + 4) (bc + nbw a 4) (gn s.len bc n)) 0) + 2 * ((gn (s.len + 4 + 4) (bc + nbw a 4 + nbw b 4) (gn (s.len + 4) (bc + nbw a 4) (gn s.len bc n))) 1 - (gn (s.len + 4) (bc + nbw a 4) (gn s.len bc n)) 1)) ≤ 2 * ((gn (s.len + 4 + 4) (bc + nbw a 4 + nbw b 4) (gn (s.len + 4) (bc + nbw a 4) (gn s.len bc n))) 0 - n 0) + 2 * ((gn (s.len + 4 + 4) (bc + nbw a 4 + nbw b 4) (gn (s.len + 4) (bc + nbw a 4) (gn s.len bc n))) 1 - n 1); omega) ?_
    refine XX.cg (ws2 := wC G q3 x3 (gn (s.len + 4 + 4) (bc + nbw a 4 + nbw b 4) (gn (s.len + 4) (bc + nbw a 4) (gn s.len bc n))) f3 kf (ks ++ T)) (lv2 := [(0, .ref (q3 0)), (1, .int a), (2, .int b), (3, .int c), (4, .int d), (5, .int e)]) rfl (by rw [hq3]) rfl ?_
    refine XX.aload_n dd_S_feed_50 rfl 0 rfl ?_
    refine XX.get (q0 := 0) (v := .ref (q3 1)) fl_S_10 dd_S_feed_51 rfl rfl ?_
    refine XX.iload dd_S_feed_54 4 rfl ?_
    refine XX.callV (Mk := m_T_append) (n := 1) (As := [.int d]) (rest := []) (q0 := 1) (ci := 1) (c_app hF3 (by omega)) mt_T_append mi_T_append ml_S_83 rfl dd_S_feed_56 (rfl) rfl rfl ⟨xn_le rfl, xn_le rfl⟩ ⟨xr_c (by show 6 + 2 ≤ 11; omega), xr_s (by show 2 * ((gn (s.len + 4 + 4) (bc + nbw a 4 + nbw b 4) (gn (s.len + 4) (bc + nbw a 4) (gn s.len bc n))) 0 - n 0) + 2 * ((gn (s.len + 4 + 4) (bc + nbw a 4 + nbw b 4) (gn (s.len + 4) (bc + nbw a 4) (gn s.len bc n))) 1 - n 1) + (2 * ((gn (s.len + 4 + 4 + 4) (bc + nbw a 4 + nbw b 4 + nbw c 4) (gn (s.len + 4 + 4) (bc + nbw a 4 + nbw b 4) (gn (s.len + 4) (bc + nbw a 4) (gn s.len bc n)))) 0 - (gn (s.len + 4 + 4) (bc + nbw a 4 + nbw b 4) (gn (s.len + 4) (bc + nbw a 4) (gn s.len bc n))) 0) + 2 * ((gn (s.len + 4 + 4 + 4) (bc + nbw a 4 + nbw b 4 + nbw c 4) (gn (s.len + 4 + 4) (bc + nbw a 4 + nbw b 4) (gn (s.len + 4) (bc + nbw a 4) (gn s.len bc n)))) 1 - (gn (s.len + 4 + 4) (bc + nbw a 4 + nbw b 4) (gn (s.len + 4) (bc + nbw a 4) (gn s.len bc n))) 1)) ≤ 6 + fgr (t_feed s) s.len bc n a b c d e; omega)⟩ (xn_le rfl) rfl (fun r1 w1 hp1 => ?_)
    obtain ⟨rfl, q4, x4, f4, br4, rfl, hq4, hx4, hf4, hF4⟩ := hp1
    refine XX.widen (c2 := 8) (s2 := 2 * ((gn (s.len + 4 + 4 + 4) (bc + nbw a 4 + nbw b 4 + nbw c 4) (gn (s.len + 4 + 4) (bc + nbw a 4 + nbw b 4) (gn (s.len + 4) (bc + nbw a 4) (gn s.len bc n)))) 0 - n 0) + 2 * ((gn (s.len + 4 + 4 + 4) (bc + nbw a 4 + nbw b 4 + nbw c 4) (gn (s.len + 4 + 4) (bc + nbw a 4 + nbw b 4) (gn (s.len + 4) (bc + nbw a 4) (gn s.len bc n)))) 1 - n 1)) (by show 6 + 2 ≤ 8; omega) (by show 2 * ((gn (s.len + 4 + 4) (bc + nbw a 4 + nbw b 4) (gn (s.len + 4) (bc + nbw a 4) (gn s.len bc n))) 0 - n 0) + 2 * ((gn (s.len + 4 + 4) (bc + nbw a 4 + nbw b 4) (gn (s.len + 4) (bc + nbw a 4) (gn s.len bc n))) 1 - n 1) + (2 * ((gn (s.len + 4 + 4 + 4) (bc + nbw a 4 + nbw b 4 + nbw c 4) (gn (s.len + 4 + 4) (bc + nbw a 4 + nbw b 4) (gn (s.len + 4) (bc + nbw a 4) (gn s.len bc n)))) 0 - (gn (s.len + 4 + 4) (bc + nbw a 4 + nbw b 4) (gn (s.len + 4) (bc + nbw a 4) (gn s.len bc n))) 0) + 2 * ((gn (s.len + 4 + 4 + 4) (bc + nbw a 4 + nbw b 4 + nbw c 4) (gn (s.len + 4 + 4) (bc + nbw a 4 + nbw b 4) (gn (s.len + 4) (bc + nbw a 4) (gn s.len bc n)))) 1 - (gn (s.len + 4 + 4) (bc + nbw a 4 + nbw b 4) (gn (s.len + 4) (bc + nbw a 4) (gn s.len bc n))) 1)) ≤ 2 * ((gn (s.len + 4 + 4 + 4) (bc + nbw a 4 + nbw b 4 + nbw c 4) (gn (s.len + 4 + 4) (bc + nbw a 4 + nbw b 4) (gn (s.len + 4) (bc + nbw a 4) (gn s.len bc n)))) 0 - n 0) + 2 * ((gn (s.len + 4 + 4 + 4) (bc + nbw a 4 + nbw b 4 + nbw c 4) (gn (s.len + 4 + 4) (bc + nbw a 4 + nbw b 4) (gn (s.len + 4) (bc + nbw a 4) (gn s.len bc n)))) 1 - n 1); omega) ?_
    refine XX.cg (ws2 := wC G q4 x4 (gn (s.len + 4 + 4 + 4) (bc + nbw a 4 + nbw b 4 + nbw c 4) (gn (s.len + 4 + 4) (bc + nbw a 4 + nbw b 4) (gn (s.len + 4) (bc + nbw a 4) (gn s.len bc n)))) f4 kf (ks ++ T)) (lv2 := [(0, .ref (q4 0)), (1, .int a), (2, .int b), (3, .int c), (4, .int d), (5, .int e)]) rfl (by rw [hq4]) rfl ?_
    refine XX.aload_n dd_S_feed_59 rfl 0 rfl ?_
    refine XX.get (q0 := 0) (v := .ref (q4 1)) fl_S_10 dd_S_feed_60 rfl rfl ?_
    refine XX.iload dd_S_feed_63 5 rfl ?_
    refine XX.callV (Mk := m_T_append) (n := 1) (As := [.int e]) (rest := []) (q0 := 1) (ci := 1) (c_app hF4 (by omega)) mt_T_append mi_T_append ml_S_83 rfl dd_S_feed_65 (rfl) rfl rfl ⟨xn_le rfl, xn_le rfl⟩ ⟨xr_c (by show 8 + 2 ≤ 11; omega), xr_s (by show 2 * ((gn (s.len + 4 + 4 + 4) (bc + nbw a 4 + nbw b 4 + nbw c 4) (gn (s.len + 4 + 4) (bc + nbw a 4 + nbw b 4) (gn (s.len + 4) (bc + nbw a 4) (gn s.len bc n)))) 0 - n 0) + 2 * ((gn (s.len + 4 + 4 + 4) (bc + nbw a 4 + nbw b 4 + nbw c 4) (gn (s.len + 4 + 4) (bc + nbw a 4 + nbw b 4) (gn (s.len + 4) (bc + nbw a 4) (gn s.len bc n)))) 1 - n 1) + (2 * ((gn (s.len + 4 + 4 + 4 + 4) (bc + nbw a 4 + nbw b 4 + nbw c 4 + nbw d 4) (gn (s.len + 4 + 4 + 4) (bc + nbw a 4 + nbw b 4 + nbw c 4) (gn (s.len + 4 + 4) (bc + nbw a 4 + nbw b 4) (gn (s.len + 4) (bc + nbw a 4) (gn s.len bc n))))) 0 - (gn (s.len + 4 + 4 + 4) (bc + nbw a 4 + nbw b 4 + nbw c 4) (gn (s.len + 4 + 4) (bc + nbw a 4 + nbw b 4) (gn (s.len + 4) (bc + nbw a 4) (gn s.len bc n)))) 0) + 2 * ((gn (s.len + 4 + 4 + 4 + 4) (bc + nbw a 4 + nbw b 4 + nbw c 4 + nbw d 4) (gn (s.len + 4 + 4 + 4) (bc + nbw a 4 + nbw b 4 + nbw c 4) (gn (s.len + 4 + 4) (bc + nbw a 4 + nbw b 4) (gn (s.len + 4) (bc + nbw a 4) (gn s.len bc n))))) 1 - (gn (s.len + 4 + 4 + 4) (bc + nbw a 4 + nbw b 4 + nbw c 4) (gn (s.len + 4 + 4) (bc + nbw a 4 + nbw b 4) (gn (s.len + 4) (bc + nbw a 4) (gn s.len bc n)))) 1)) ≤ 6 + fgr (t_feed s) s.len bc n a b c d e; omega)⟩ (xn_le rfl) rfl (fun r1 w1 hp1 => ?_)
    obtain ⟨rfl, q5, x5, f5, br5, rfl, hq5, hx5, hf5, hF5⟩ := hp1
    refine XX.widen (c2 := 10) (s2 := 2 * ((gn (s.len + 4 + 4 + 4 + 4) (bc + nbw a 4 + nbw b 4 + nbw c 4 + nbw d 4) (gn (s.len + 4 + 4 + 4) (bc + nbw a 4 + nbw b 4 + nbw c 4) (gn (s.len + 4 + 4) (bc + nbw a 4 + nbw b 4) (gn (s.len + 4) (bc + nbw a 4) (gn s.len bc n))))) 0 - n 0) + 2 * ((gn (s.len + 4 + 4 + 4 + 4) (bc + nbw a 4 + nbw b 4 + nbw c 4 + nbw d 4) (gn (s.len + 4 + 4 + 4) (bc + nbw a 4 + nbw b 4 + nbw c 4) (gn (s.len + 4 + 4) (bc + nbw a 4 + nbw b 4) (gn (s.len + 4) (bc + nbw a 4) (gn s.len bc n))))) 1 - n 1)) (by show 8 + 2 ≤ 10; omega) (by show 2 * ((gn (s.len + 4 + 4 + 4) (bc + nbw a 4 + nbw b 4 + nbw c 4) (gn (s.len + 4 + 4) (bc + nbw a 4 + nbw b 4) (gn (s.len + 4) (bc + nbw a 4) (gn s.len bc n)))) 0 - n 0) + 2 * ((gn (s.len + 4 + 4 + 4) (bc + nbw a 4 + nbw b 4 + nbw c 4) (gn (s.len + 4 + 4) (bc + nbw a 4 + nbw b 4) (gn (s.len + 4) (bc + nbw a 4) (gn s.len bc n)))) 1 - n 1) + (2 * ((gn (s.len + 4 + 4 + 4 + 4) (bc + nbw a 4 + nbw b 4 + nbw c 4 + nbw d 4) (gn (s.len + 4 + 4 + 4) (bc + nbw a 4 + nbw b 4 + nbw c 4) (gn (s.len + 4 + 4) (bc + nbw a 4 + nbw b 4) (gn (s.len + 4) (bc + nbw a 4) (gn s.len bc n))))) 0 - (gn (s.len + 4 + 4 + 4) (bc + nbw a 4 + nbw b 4 + nbw c 4) (gn (s.len + 4 + 4) (bc + nbw a 4 + nbw b 4) (gn (s.len + 4) (bc + nbw a 4) (gn s.len bc n)))) 0) + 2 * ((gn (s.len + 4 + 4 + 4 + 4) (bc + nbw a 4 + nbw b 4 + nbw c 4 + nbw d 4) (gn (s.len + 4 + 4 + 4) (bc + nbw a 4 + nbw b 4 + nbw c 4) (gn (s.len + 4 + 4) (bc + nbw a 4 + nbw b 4) (gn (s.len + 4) (bc + nbw a 4) (gn s.len bc n))))) 1 - (gn (s.len + 4 + 4 + 4) (bc + nbw a 4 + nbw b 4 + nbw c 4) (gn (s.len + 4 + 4) (bc + nbw a 4 + nbw b 4) (gn (s.len + 4) (bc + nbw a 4) (gn s.len bc n)))) 1)) ≤ 2 * ((gn (s.len + 4 + 4 + 4 + 4) (bc + nbw a 4 + nbw b 4 + nbw c 4 + nbw d 4) (gn (s.len + 4 + 4 + 4) (bc + nbw a 4 + nbw b 4 + nbw c 4) (gn (s.len + 4 + 4) (bc + nbw a 4 + nbw b 4) (gn (s.len + 4) (bc + nbw a 4) (gn s.len bc n))))) 0 - n 0) + 2 * ((gn (s.len + 4 + 4 + 4 + 4) (bc + nbw a 4 + nbw b 4 + nbw c 4 + nbw d 4) (gn (s.len + 4 + 4 + 4) (bc + nbw a 4 + nbw b 4 + nbw c 4) (gn (s.len + 4 + 4) (bc + nbw a 4 + nbw b 4) (gn (s.len + 4) (bc + nbw a 4) (gn s.len bc n))))) 1 - n 1); omega) ?_
    refine XX.cg (ws2 := wC G q5 x5 (gn (s.len + 4 + 4 + 4 + 4) (bc + nbw a 4 + nbw b 4 + nbw c 4 + nbw d 4) (gn (s.len + 4 + 4 + 4) (bc + nbw a 4 + nbw b 4 + nbw c 4) (gn (s.len + 4 + 4) (bc + nbw a 4 + nbw b 4) (gn (s.len + 4) (bc + nbw a 4) (gn s.len bc n))))) f5 kf (ks ++ T)) (lv2 := [(0, .ref (q5 0)), (1, .int a), (2, .int b), (3, .int c), (4, .int d), (5, .int e)]) rfl (by rw [hq5]) rfl ?_
    refine XX.aload_n dd_S_feed_68 rfl 0 rfl ?_
    refine XX.iconst (v := nI 0) dd_S_feed_69 (by decide) ?_
    refine XX.put (q0 := 0) (ws2 := wC G q5 (upd x5 0 (nI 0)) (gn (s.len + 4 + 4 + 4 + 4) (bc + nbw a 4 + nbw b 4 + nbw c 4 + nbw d 4) (gn (s.len + 4 + 4 + 4) (bc + nbw a 4 + nbw b 4 + nbw c 4) (gn (s.len + 4 + 4) (bc + nbw a 4 + nbw b 4) (gn (s.len + 4) (bc + nbw a 4) (gn s.len bc n))))) f5 kf (ks ++ T)) fp_S_63 dd_S_feed_70 rfl rfl rfl (xn_le rfl) rfl ?_
    refine XX.aload_n dd_S_feed_73 rfl 0 rfl ?_
    refine XX.get (q0 := 0) (v := .ref (q5 1)) fl_S_10 dd_S_feed_74 rfl rfl ?_
    refine XX.get (q0 := 1) (v := .int ((upd x5 0 (nI 0)) 3)) fl_S_73 dd_S_feed_77 rfl rfl ?_
    refine XX.tp (y := nI (s.len + 20)) (hF5.1.1) ?_
    have eB : (o_feed s a b c d e).B = ap_ (ap_ (ap_ (ap_ (ap_ s.B s.len a 4) (s.len + 4) b 4) (s.len + 4 + 4) c 4) (s.len + 4 + 4 + 4) d 4) (s.len + 4 + 4 + 4 + 4) e 4 := fd_20 s.B s.len a b c d e
    exact XX.iret dd_S_feed_80 rfl ⟨xr_c (by omega), xr_s (by omega)⟩ ⟨ht, rfl, q5, _, f5, kf, ks, _, br5, ka, rfl, by rw [hq5, hq4, hq3, hq2, hq1], hc.rc0 hsg (by rw [eB]; exact txt_mv hF5.1 rfl rfl) (by rw [eB]; exact hF5.2.1) hF5.2.2.1 hF5.2.2.2 (fun i h0 h3 h4 => by rw [pk_un h0]; exact ((((hx5 i h3 h4).trans (hx4 i h3 h4)).trans (hx3 i h3 h4)).trans (hx2 i h3 h4)).trans (hx1 i h3 h4)) rfl (fun j hj => ((((hf5 j hj).trans (hf4 j hj)).trans (hf3 j hj)).trans (hf2 j hj)).trans (hf1 j hj)) rfl⟩
  ·
    exact XR.throw (idx := 76) (ic := 80) (sx := 78) (xw_in mw_395 rfl) (xw_in mw_396 rfl) (xw_in mw_14 rfl) (List.mem_of_getElem? (i := 0) rfl) tw_ISE mt_S_feed.1 (by decide) (by decide) (by decide) htr dd_S_feed_16 dd_S_feed_19 dd_S_feed_20 dd_S_feed_22 dd_S_feed_25 (xn_le rfl) (xn_le rfl) ⟨xr_c (by omega), xr_s (by omega)⟩ ⟨xr_c (by omega), xr_s (by omega)⟩ (ET.of (k := 1) (by unfold t_feed tb; rw [if_pos (decide_eq_true (by omega))]) (by decide) rfl)

set_option maxRecDepth 100000 in
set_option maxHeartbeats 4000000 in
theorem c_S_sort {G : XG} {q : Nat → Nat} {x : Nat → Int32} {n : Nat → Nat} {f : Nat → Nat → Int32} {kf : Nat → Option Nat} {ks T : va_W} {s : SS} {bc : Nat} {br ka : Nat → Nat} (hc : CI s x n f kf ks bc br ka) (htr : ∀ e : Env, G.2.2.2.admits e → e.platform.stackTraces = false)  : MT G m_S_sort (xr 7 1 6) [.ref (q 0)] (wC G q x n f kf (ks ++ T)) (PT (t_sort s) (CQI G q n T (o_sort s) (nI (o_sort s).rc))) (ET (t_sort s) xUO (wC G q x n f kf (ks ++ T))) := by
  have hlen := hc.g.len
  have hkc := hc.g.kc
  have hrc := hc.g.rc
  have hun := hc.g.un
  have hlc : lnc s.B s.len ≤ s.len := lnc_le
  have hbl := (brk_le hc.b).2
  have hbl1 := (brk_le hc.b).1
  refine MT.of rfl (xn_le rfl) ?_
  refine (?_ : XR G m_S_sort (xr 7 1 6) (xx_FT G (PT (t_sort s) (CQI G q n T (o_sort s) (nI (o_sort s).rc))) (ET (t_sort s) xUO (wC G q x n f kf (ks ++ T))) (xr 7 1 6)) (wC G q x n f kf (ks ++ T)) 0 [(0, .ref (q 0))] [])
  refine XR.aload_n dd_S_sort_0 rfl 0 rfl ?_
  refine XR.get (q0 := 0) (v := .ref (q 1)) fl_S_10 dd_S_sort_1 rfl rfl ?_
  refine XR.callV (Mk := m_T_lineCount) (n := 0) (As := []) (rest := []) (q0 := 1) (ci := 1) (c_T_lineCount hc.t) mt_T_lineCount mi_T_lineCount ml_S_137 rfl dd_S_sort_4 (rfl) rfl rfl ⟨xn_le rfl, xn_le rfl⟩ (xn_le rfl) rfl ?_
  refine XR.tp (y := nI (lnc s.B s.len)) (by rw [brk_cnt hc.b]) ?_
  refine XR.istore_n (lv2 := [(1, .int (nI (lnc s.B s.len))), (0, .ref (q 0))]) dd_S_sort_7 rfl (by decide) rfl ?_
  refine XR.iload_n dd_S_sort_8 rfl 0 rfl ?_
  refine XR.sipush (v := nI 1000) dd_S_sort_9 (by decide) ?_
  refine XR.ncmp_le (tgt := 25) dd_S_sort_12 (by decide) (by omega) (by omega) (fun h12 => ?_) (fun h12 => ?_)
  ·
    have ht : t_sort s = 0 := by unfold t_sort tb; rw [if_neg]; intro z; have := of_decide_eq_true z; omega
    have hsg := hc.g.sort h12
    have hm1 := hc.g.m1
    have hm2 := hc.g.m2
    have hw1 := hc.g.w1
    have hw2 := hc.g.w2
    have loop : ∀ (kk k : Nat) (xx : Nat → Int32) (ff : Nat → Nat → Int32), lnc s.B s.len - k = kk → k ≤ lnc s.B s.len → CJ s xx n ff kf (ks ++ T) bc br ka ∧ ff 0 = f 0 ∧ (∀ i, i < lnc s.B s.len → ff 3 i = nI (rk (sa_o s) (lnc s.B s.len) i)) ∧ xx 21 = nI (s_mr s).2.2.2 ∧ (∀ i, i < (s_mr s).2.2.2 → ff 5 i = nI ((s_mr s).2.2.1 i)) ∧ xx 22 = nI (cm s.wy 0 (s_mr s).2.2.2 (s_mr s).2.2.1 0 0).1 ∧ xx 23 = nI (cm s.wy 0 (s_mr s).2.2.2 (s_mr s).2.2.1 0 0).2 → xx 0 = nI (s_og s (k)).1 → (∀ i, i < (s_og s (k)).1 → ff 7 i = nI ((s_og s (k)).2 i)) → XX G m_S_sort (xr 7 1 6) (xx_F G (PT (t_sort s) (CQI G q n T (o_sort s) (nI (o_sort s).rc))) (xr 7 1 6)) 0 0 (wC G q xx n ff kf (ks ++ T)) 63 [(0, .ref (q 0)), (1, .int (nI (lnc s.B s.len))), (2, .int (nI k))] [] := by
      intro kk
      induction kk using Nat.strongRecOn with
      | _ kk ih =>
        intro k xx ff hkk hk hL h0 h7
        obtain ⟨hj, hf0, h3, h21, h5, h22, h23⟩ := id hL
        have hle := og_le (s_c s) (rk (sa_o s) (lnc s.B s.len)) k
        have hle2 : (s_og s (k)).1 ≤ k := hle
        refine XX.iload_n dd_S_sort_63 rfl 2 rfl ?_
        refine XX.iload_n dd_S_sort_64 rfl 1 rfl ?_
        refine XX.ncmp_ge (tgt := 86) dd_S_sort_65 (by decide) (by omega) (by omega) (fun h65 => ?_) (fun h65 => ?_)
        ·
          refine XX.aload_n dd_S_sort_86 rfl 0 rfl ?_
          refine XX.get (q0 := 0) (v := .ref (q 15)) fl_S_55 dd_S_sort_87 rfl rfl ?_
          refine XX.iload_n dd_S_sort_90 rfl 1 rfl ?_
          refine XX.aload_n dd_S_sort_91 rfl 0 rfl ?_
          refine XX.get (q0 := 0) (v := .int (xx 0)) fl_S_63 dd_S_sort_92 rfl rfl ?_
          refine XX.tp (y := nI ((s_og s (k)).1)) (h0) ?_
          refine XX.isub dd_S_sort_95 ?_
          refine XX.tp (y := nI (lnc s.B s.len - ((s_og s (k)).1))) (pk_sub (by omega)) ?_
          refine XX.put (q0 := 15) (ws2 := wC G q (upd xx 24 (nI (lnc s.B s.len - ((s_og s (k)).1)))) n ff kf (ks ++ T)) fp_S_196 dd_S_sort_96 rfl rfl rfl (xn_le rfl) rfl ?_
          refine XX.aload_n dd_S_sort_99 rfl 0 rfl ?_
          refine XX.get (q0 := 0) (v := .int ((upd xx 24 (nI (lnc s.B s.len - ((s_og s (k)).1)))) 0)) fl_S_63 dd_S_sort_100 rfl rfl ?_
          refine XX.tp (y := nI ((s_og s (k)).1)) (h0) ?_
          obtain rfl : k = lnc s.B s.len := by omega
          exact XX.iret dd_S_sort_103 rfl ⟨xn_le rfl, xn_le rfl⟩ ⟨ht, rfl, q, _, ff, kf, ks, bc, br, ka, rfl, rfl, ⟨hsg, txt_mv hj.2.1 rfl rfl, hc.b, by rw [hf0]; exact hc.fit, hc.nn, hj.2.2.2.1, hj.2.2.2.2.1, hj.2.2.2.2.2.1, hj.2.2.2.2.2.2.1, hj.2.2.2.2.2.2.2.1, hc.k, hj.2.2.2.2.2.2.2.2.2.1, hj.2.2.2.2.2.2.2.2.2.2, h0, h7, h21, h5, h22, h23, rfl⟩⟩
        ·
          refine XX.aload_n dd_S_sort_68 rfl 0 rfl ?_
          refine XX.aload_n dd_S_sort_69 rfl 0 rfl ?_
          refine XX.get (q0 := 0) (v := .ref (q 10)) fl_S_39 dd_S_sort_70 rfl rfl ?_
          refine XX.iload_n dd_S_sort_73 rfl 2 rfl ?_
          refine XX.callVr (Mk := m_R_lineAt) (n := 1) (As := [.int (nI k)]) (rest := [.ref (q 0)]) (q0 := 10) (ci := 6) (c_R_lineAt (l := k) (by omega)) mt_R_lineAt mi_R_lineAt ml_S_190 rfl dd_S_sort_74 (rfl) rfl rfl ⟨xn_le rfl, xn_le rfl⟩ ⟨xn_le rfl, xn_le rfl⟩ (xn_le rfl) rfl ?_
          refine XX.tp (y := nI (rk (sa_o s) (lnc s.B s.len) k)) (h3 k (by omega)) ?_
          refine XX.callV (Mk := m_S_addToResult) (n := 1) (As := [.int (nI (rk (sa_o s) (lnc s.B s.len) k))]) (rest := []) (q0 := 0) (ci := 0) (cadd2 (sq := rk (sa_o s) (lnc s.B s.len)) (k := k) hj h0 (by omega) (fun i hi => rk_lt _ _ i (by omega)) h7) mt_S_addToResult mi_S_addToResult ml_S_193 rfl dd_S_sort_77 (rfl) rfl rfl ⟨xn_le rfl, xn_le rfl⟩ ⟨xn_le rfl, xn_le rfl⟩ (xn_le rfl) rfl (fun r1 w1 hp1 => ?_)
          obtain ⟨rfl, x2, f2, rfl, a1, a2, a3, a4⟩ := hp1
          refine (?_ : XX G m_S_sort (xr 7 1 6) (xx_F G (PT (t_sort s) (CQI G q n T (o_sort s) (nI (o_sort s).rc))) (xr 7 1 6)) 0 0 (wC G q x2 n f2 kf (ks ++ T)) 80 [(0, .ref (q 0)), (1, .int (nI (lnc s.B s.len))), (2, .int (nI k))] [])
          refine XX.iinc (z := 2) (v := nI (k + 1)) (lv2 := [(2, .int (nI (k + 1))), (0, .ref (q 0)), (1, .int (nI (lnc s.B s.len)))]) dd_S_sort_80 rfl ((nI_succ _).symm) (by decide) rfl ?_
          refine XX.goto (tgt := 63) dd_S_sort_83 (by decide) ?_
          refine XX.lvs [1, 2, 0] rfl ?_
          exact ih _ (by omega) (k + 1) x2 f2 rfl (by omega) ⟨hj.mv (fun i h1 h2 => a1 i (by omega) (by omega)) (a2 0 (by omega)) (a2 1 (by omega)), (a2 0 (by omega)).trans hf0, fun i hi => by rw [a2 3 (by omega)]; exact h3 i hi, (a1 21 (by omega) (by omega)).trans h21, fun i hi => by rw [a2 5 (by omega)]; exact h5 i hi, (a1 22 (by omega) (by omega)).trans h22, (a1 23 (by omega) (by omega)).trans h23⟩ a3 a4
    refine XR.xx (XX.ft ?_)
    refine XX.lvs [1, 0] rfl ?_
    refine XX.aload_n dd_S_sort_25 rfl 0 rfl ?_
    refine XX.get (q0 := 0) (v := .ref (q 10)) fl_S_39 dd_S_sort_26 rfl rfl ?_
    refine XX.iload_n dd_S_sort_29 rfl 1 rfl ?_
    refine XX.callV (Mk := m_R_rankFirst) (n := 1) (As := [.int (nI (lnc s.B s.len))]) (rest := []) (q0 := 10) (ci := 6) (crank2 (hc.j T) h12) mt_R_rankFirst mi_R_rankFirst ml_S_180 rfl dd_S_sort_30 (rfl) rfl rfl ⟨xn_le rfl, xn_le rfl⟩ ⟨xn_le rfl, xn_le rfl⟩ (xn_le rfl) rfl (fun r1 w1 hp1 => ?_)
    obtain ⟨rfl, x1, f1, rfl, a1, a2, a3, a4⟩ := hp1
    have hj1 : CJ s x1 n f1 kf (ks ++ T) bc br ka := (hc.j T).mv (fun i h1 h2 => a1 i (by omega)) (a2 0 (by omega) (by omega)) (a2 1 (by omega) (by omega))
    refine (?_ : XX G m_S_sort (xr 7 1 6) (xx_F G (PT (t_sort s) (CQI G q n T (o_sort s) (nI (o_sort s).rc))) (xr 7 1 6)) 0 0 (wC G q x1 n f1 kf (ks ++ T)) 33 [(0, .ref (q 0)), (1, .int (nI (lnc s.B s.len)))] [])
    refine XX.aload_n dd_S_sort_33 rfl 0 rfl ?_
    refine XX.get (q0 := 0) (v := .ref (q 15)) fl_S_55 dd_S_sort_34 rfl rfl ?_
    refine XX.iload_n dd_S_sort_37 rfl 1 rfl ?_
    refine XX.aload_n dd_S_sort_38 rfl 0 rfl ?_
    refine XX.get (q0 := 0) (v := .int (x1 1)) fl_S_67 dd_S_sort_39 rfl rfl ?_
    refine XX.tp (y := nI s.mem) (hj1.2.2.2.2.2.2.2.2.2.1) ?_
    refine XX.callV (Mk := m_U_makeRuns) (n := 2) (As := [.int (nI (lnc s.B s.len)), .int (nI s.mem)]) (rest := []) (q0 := 15) (ci := 8) (cruns2 (rr := rr_ (sa_o s) (lnc s.B s.len)) hm1 hm2 h12 (fun i hi => ⟨a4 i hi, Nat.lt_of_lt_of_le (rr_lt hi) h12⟩)) mt_U_makeRuns mi_U_makeRuns ml_S_183 rfl dd_S_sort_42 (rfl) rfl rfl ⟨xn_le rfl, xn_le rfl⟩ ⟨xn_le rfl, xn_le rfl⟩ (xn_le rfl) rfl (fun r1 w1 hp1 => ?_)
    obtain ⟨rfl, x2, f2, rfl, b1, b2, b3, b4, b5⟩ := hp1
    have hj2 : CJ s x2 n f2 kf (ks ++ T) bc br ka := hj1.mv (fun i h1 h2 => b1 i (by omega) (by omega)) (b2 0 (by omega) (by omega)) (b2 1 (by omega) (by omega))
    refine (?_ : XX G m_S_sort (xr 7 1 6) (xx_F G (PT (t_sort s) (CQI G q n T (o_sort s) (nI (o_sort s).rc))) (xr 7 1 6)) 0 0 (wC G q x2 n f2 kf (ks ++ T)) 45 [(0, .ref (q 0)), (1, .int (nI (lnc s.B s.len)))] [])
    refine XX.aload_n dd_S_sort_45 rfl 0 rfl ?_
    refine XX.get (q0 := 0) (v := .ref (q 15)) fl_S_55 dd_S_sort_46 rfl rfl ?_
    refine XX.aload_n dd_S_sort_49 rfl 0 rfl ?_
    refine XX.get (q0 := 0) (v := .int (x2 2)) fl_S_70 dd_S_sort_50 rfl rfl ?_
    refine XX.tp (y := nI s.wy) (hj2.2.2.2.2.2.2.2.2.2.2) ?_
    refine XX.callV (Mk := m_U_countMerges) (n := 1) (As := [.int (nI s.wy)]) (rest := []) (q0 := 15) (ci := 8) (cmerges2 (rc := (s_mr s).2.2.2) (ln := (s_mr s).2.2.1) b3 (Nat.le_trans b4 h12) hw1 hw2 b5) mt_U_countMerges mi_U_countMerges ml_S_187 rfl dd_S_sort_53 (rfl) rfl rfl ⟨xn_le rfl, xn_le rfl⟩ ⟨xn_le rfl, xn_le rfl⟩ (xn_le rfl) rfl (fun r1 w1 hp1 => ?_)
    obtain ⟨rfl, x3, f3, rfl, c1, c2, c3, c4⟩ := hp1
    refine (?_ : XX G m_S_sort (xr 7 1 6) (xx_F G (PT (t_sort s) (CQI G q n T (o_sort s) (nI (o_sort s).rc))) (xr 7 1 6)) 0 0 (wC G q x3 n f3 kf (ks ++ T)) 56 [(0, .ref (q 0)), (1, .int (nI (lnc s.B s.len)))] [])
    refine XX.aload_n dd_S_sort_56 rfl 0 rfl ?_
    refine XX.iconst (v := nI 0) dd_S_sort_57 (by decide) ?_
    refine XX.put (q0 := 0) (ws2 := wC G q (upd x3 0 (nI 0)) n f3 kf (ks ++ T)) fp_S_63 dd_S_sort_58 rfl rfl rfl (xn_le rfl) rfl ?_
    refine XX.iconst (v := nI 0) dd_S_sort_61 (by decide) ?_
    refine XX.istore_n (lv2 := [(2, .int (nI 0)), (0, .ref (q 0)), (1, .int (nI (lnc s.B s.len)))]) dd_S_sort_62 rfl (by decide) rfl ?_
    refine XX.lvs [1, 2, 0] rfl ?_
    exact loop _ 0 _ f3 rfl (Nat.zero_le _) ⟨hj2.mv (fun i h1 h2 => by rw [pk_un (by omega)]; exact c1 i (by omega) (by omega)) (c2 0 (by omega)) (c2 1 (by omega)), by rw [c2 0 (by omega), b2 0 (by omega) (by omega), a2 0 (by omega) (by omega)], fun i hi => by rw [c2 3 (by omega), b2 3 (by omega) (by omega)]; exact a3 i hi, (c1 21 (by omega) (by omega)).trans b3, fun i hi => by rw [c2 5 (by omega)]; exact b5 i hi, c3, c4⟩ rfl (fun i hi => absurd hi (Nat.not_lt_zero _))
  ·
    exact XR.throw (idx := 121) (ic := 125) (sx := 178) (xw_in mw_546 rfl) (xw_in mw_547 rfl) (xw_in mw_19 rfl) (List.mem_of_getElem? (i := 9) rfl) tw_UOE mt_S_sort.1 (by decide) (by decide) (by decide) htr dd_S_sort_15 dd_S_sort_18 dd_S_sort_19 dd_S_sort_21 dd_S_sort_24 (xn_le rfl) (xn_le rfl) ⟨xn_le rfl, xn_le rfl⟩ ⟨xn_le rfl, xn_le rfl⟩ (ET.of (k := 1) (by unfold t_sort tb; rw [if_pos (decide_eq_true h12)]) (by decide) rfl)

set_option maxRecDepth 100000 in
set_option maxHeartbeats 4000000 in
theorem c_S_merge {G : XG} {q : Nat → Nat} {x : Nat → Int32} {n : Nat → Nat} {f : Nat → Nat → Int32} {kf : Nat → Option Nat} {ks T : va_W} {s : SS} {bc : Nat} {br ka : Nat → Nat} (hc : CI s x n f kf ks bc br ka) (htr : ∀ e : Env, G.2.2.2.admits e → e.platform.stackTraces = false) {a : Int32} : MT G m_S_merge (xr 7 1 6) [.ref (q 0), .int a] (wC G q x n f kf (ks ++ T)) (PT (t_merge s a) (CQI G q n T (q_merge s a) (nI (q_merge s a).rc))) (ET (t_merge s a) xAU (wC G q x n f kf (ks ++ T))) := by
  have hlen := hc.g.len
  have hkc := hc.g.kc
  have hrc := hc.g.rc
  have hun := hc.g.un
  have hlc : lnc s.B s.len ≤ s.len := lnc_le
  have hbl := (brk_le hc.b).2
  have hbl1 := (brk_le hc.b).1
  refine MT.of rfl (xn_le rfl) ?_
  refine (?_ : XR G m_S_merge (xr 7 1 6) (xx_FT G (PT (t_merge s a) (CQI G q n T (q_merge s a) (nI (q_merge s a).rc))) (ET (t_merge s a) xAU (wC G q x n f kf (ks ++ T))) (xr 7 1 6)) (wC G q x n f kf (ks ++ T)) 0 [(0, .ref (q 0)), (1, .int a)] [])
  refine XR.iload_n dd_S_merge_0 rfl 1 rfl ?_
  refine XR.iconst (v := nI 1) dd_S_merge_1 (by decide) ?_
  refine XR.icmp_ge (tgt := 15) dd_S_merge_2 (by decide) (fun h2 => ?_) (fun h2 => ?_)
  ·
    refine XR.aload_n dd_S_merge_15 rfl 0 rfl ?_
    refine XR.get (q0 := 0) (v := .ref (q 1)) fl_S_10 dd_S_merge_16 rfl rfl ?_
    refine XR.callV (Mk := m_T_lineCount) (n := 0) (As := []) (rest := []) (q0 := 1) (ci := 1) (c_T_lineCount hc.t) mt_T_lineCount mi_T_lineCount ml_S_137 rfl dd_S_merge_19 (rfl) rfl rfl ⟨xn_le rfl, xn_le rfl⟩ (xn_le rfl) rfl ?_
    refine XR.tp (y := nI (lnc s.B s.len)) (by rw [brk_cnt hc.b]) ?_
    refine XR.istore_n (lv2 := [(2, .int (nI (lnc s.B s.len))), (0, .ref (q 0)), (1, .int a)]) dd_S_merge_22 rfl (by decide) rfl ?_
    refine XR.iload_n dd_S_merge_23 rfl 0 rfl ?_
    refine XR.sipush (v := nI 1000) dd_S_merge_24 (by decide) ?_
    refine XR.ncmp_le (tgt := 40) dd_S_merge_27 (by decide) (by omega) (by omega) (fun h27 => ?_) (fun h27 => ?_)
    ·
      have ht : t_merge s a = 0 := by unfold t_merge tb; rw [if_neg (fun z => absurd (of_decide_eq_true z) (Int32.not_lt.mpr h2)), if_neg (fun z => by have := of_decide_eq_true z; omega)]
      have hn1 : 1 ≤ a.toInt := by have z := h2; rw [Int32.le_iff_toInt_le] at z; have z2 : (nI 1).toInt = 1 := rfl; omega
      obtain ⟨ea, hm2⟩ := nI_iN (a := a) (by omega)
      have hm1 : 1 ≤ iN a := by unfold iN; omega
      have hsg := hc.g.merge hm1 h27
      have l96 : ∀ (kk k : Nat) (xx : Nat → Int32) (ff : Nat → Nat → Int32), lnc s.B s.len - k = kk → k ≤ lnc s.B s.len → CJ s xx n ff kf (ks ++ T) bc br ka ∧ (∀ i, i < lnc s.B s.len → ff 3 i = nI (rk (sa_o s) (lnc s.B s.len) i)) ∧ (∀ l, l < lnc s.B s.len → ff 2 l = nI (rr_ (sa_o s) (lnc s.B s.len) l)) ∧ (∀ j, j ≠ 2 → j ≠ 3 → j ≠ 4 → j ≠ 7 → ff j = f j) ∧ (∀ i, 20 < i → xx i = x i) → xx 20 = nI (s_hg s (iN a) k).2 → hq (ff 4) (s_hg s (iN a) k).1 (s_hg s (iN a) k).2 → xx 0 = nI (og_ (s_c s) (s_sq s (iN a) (lnc s.B s.len)).2 (k)).1 → (∀ i, i < (og_ (s_c s) (s_sq s (iN a) (lnc s.B s.len)).2 (k)).1 → ff 7 i = nI ((og_ (s_c s) (s_sq s (iN a) (lnc s.B s.len)).2 (k)).2 i)) → XX G m_S_merge (xr 7 1 6) (xx_F G (PT (t_merge s a) (CQI G q n T (q_merge s a) (nI (q_merge s a).rc))) (xr 7 1 6)) 0 0 (wC G q xx n ff kf (ks ++ T)) 96 [(0, .ref (q 0)), (1, .int (nI (iN a))), (2, .int (nI (lnc s.B s.len))), (3, .int (nI k))] [] := by
        intro kk
        induction kk using Nat.strongRecOn with
        | _ kk ih =>
          intro k xx ff hkk hk hL h20 hhq h0 h7
          obtain ⟨hj, h3, hr2, hkf, hkx⟩ := id hL
          have hle : (og_ (s_c s) (s_sq s (iN a) (lnc s.B s.len)).2 (k)).1 ≤ k := og_le _ _ _
          refine XX.iload_n dd_S_merge_96 rfl 3 rfl ?_
          refine XX.iload_n dd_S_merge_97 rfl 2 rfl ?_
          refine XX.ncmp_ge (tgt := 164) dd_S_merge_98 (by decide) (by omega) (by omega) (fun h98 => ?_) (fun h98 => ?_)
          ·
            refine XX.aload_n dd_S_merge_164 rfl 0 rfl ?_
            refine XX.get (q0 := 0) (v := .int (xx 0)) fl_S_63 dd_S_merge_165 rfl rfl ?_
            refine XX.tp (y := nI ((og_ (s_c s) (s_sq s (iN a) (lnc s.B s.len)).2 (k)).1)) (h0) ?_
            obtain rfl : k = lnc s.B s.len := by omega
            exact XX.iret dd_S_merge_168 rfl ⟨xn_le rfl, xn_le rfl⟩ ⟨ht, rfl, q, _, ff, kf, ks, bc, br, ka, rfl, rfl, ⟨hsg, hj.2.1, hc.b, by rw [hkf 0 (by omega) (by omega) (by omega) (by omega)]; exact hc.fit, hc.nn, hj.2.2.2.1, hj.2.2.2.2.1, hj.2.2.2.2.2.1, hj.2.2.2.2.2.2.1, hj.2.2.2.2.2.2.2.1, hc.k, hj.2.2.2.2.2.2.2.2.2.1, hj.2.2.2.2.2.2.2.2.2.2, h0, h7, (hkx 21 (by omega)).trans hc.x21, fun i hi => by rw [hkf 5 (by omega) (by omega) (by omega) (by omega)]; exact hc.u i hi, (hkx 22 (by omega)).trans hc.x22, (hkx 23 (by omega)).trans hc.x23, (hkx 24 (by omega)).trans hc.x24⟩⟩
          ·
            refine XX.aload_n dd_S_merge_101 rfl 0 rfl ?_
            refine XX.get (q0 := 0) (v := .ref (q 10)) fl_S_39 dd_S_merge_102 rfl rfl ?_
            refine XX.aload_n dd_S_merge_105 rfl 0 rfl ?_
            refine XX.get (q0 := 0) (v := .ref (q 13)) fl_S_46 dd_S_merge_106 rfl rfl ?_
            obtain ⟨hp0, hp2, hp3⟩ := s_hg_ok (s := s) hm1 (k := k) (by omega)
            have hcl := s_hg_le (s := s) (m := iN a) (k := k) (by omega)
            refine XX.callV (Mk := m_H_takeLeast) (n := 0) (As := []) (rest := [.ref (q 10)]) (q0 := 13) (ci := 7) (ctake2 h20 hp0 (by omega) hhq) mt_H_takeLeast mi_H_takeLeast ml_S_213 rfl dd_S_merge_109 (rfl) rfl rfl ⟨xn_le rfl, xn_le rfl⟩ ⟨xn_le rfl, xn_le rfl⟩ (xn_le rfl) rfl (fun r1 w1 hp1 => ?_)
            obtain ⟨rfl, x1, f1, rfl, a1, a2, a3, a4⟩ := hp1
            refine (?_ : XX G m_S_merge (xr 7 1 6) (xx_F G (PT (t_merge s a) (CQI G q n T (q_merge s a) (nI (q_merge s a).rc))) (xr 7 1 6)) 0 0 (wC G q x1 n f1 kf (ks ++ T)) 112 [(0, .ref (q 0)), (1, .int (nI (iN a))), (2, .int (nI (lnc s.B s.len))), (3, .int (nI k))] [.int (nI ((s_hg s (iN a) k).1 0)), .ref (q 10)])
            refine XX.callVr (Mk := m_R_lineAt) (n := 1) (As := [.int (nI ((s_hg s (iN a) k).1 0))]) (rest := []) (q0 := 10) (ci := 6) (c_R_lineAt (l := (s_hg s (iN a) k).1 0) (by omega)) mt_R_lineAt mi_R_lineAt ml_S_190 rfl dd_S_merge_112 (rfl) rfl rfl ⟨xn_le rfl, xn_le rfl⟩ ⟨xn_le rfl, xn_le rfl⟩ (xn_le rfl) rfl ?_
            refine XX.tp (y := nI ((s_sq s (iN a) (lnc s.B s.len)).2 k)) (by rw [a3 3 (by omega), h3 _ hp2, hp3]) ?_
            refine XX.istore (lv2 := [(4, .int (nI ((s_sq s (iN a) (lnc s.B s.len)).2 k))), (0, .ref (q 0)), (1, .int (nI (iN a))), (2, .int (nI (lnc s.B s.len))), (3, .int (nI k))]) dd_S_merge_115 (by decide) rfl ?_
            refine XX.aload_n dd_S_merge_117 rfl 1 rfl ?_
            refine XX.iload dd_S_merge_118 0 rfl ?_
            have hj1 : CJ s x1 n f1 kf (ks ++ T) bc br ka := hj.mv (fun i h1 h2 => a2 i (by omega)) (a3 0 (by omega)) (a3 1 (by omega))
            refine XX.callV (Mk := m_S_addToResult) (n := 1) (As := [.int (nI ((s_sq s (iN a) (lnc s.B s.len)).2 k))]) (rest := []) (q0 := 0) (ci := 0) (cadd2 (sq := (s_sq s (iN a) (lnc s.B s.len)).2) (k := k) hj1 ((a2 0 (by omega)).trans h0) (by omega) (fun i hi => sq_lt hm1 i (by omega)) (by rw [a3 7 (by omega)]; exact h7)) mt_S_addToResult mi_S_addToResult ml_S_193 rfl dd_S_merge_120 (rfl) rfl rfl ⟨xn_le rfl, xn_le rfl⟩ ⟨xn_le rfl, xn_le rfl⟩ (xn_le rfl) rfl (fun r1 w1 hp1 => ?_)
            obtain ⟨rfl, x2, f2, rfl, b1, b2, b3, b4⟩ := hp1
            have hj2 := hj1.mv (x2 := x2) (f2 := f2) (fun i h1 h2 => b1 i (by omega) (by omega)) (b2 0 (by omega)) (b2 1 (by omega))
            have hsk := sq_lt (s := s) hm1 k (by omega)
            refine (?_ : XX G m_S_merge (xr 7 1 6) (xx_F G (PT (t_merge s a) (CQI G q n T (q_merge s a) (nI (q_merge s a).rc))) (xr 7 1 6)) 0 0 (wC G q x2 n f2 kf (ks ++ T)) 123 [(4, .int (nI ((s_sq s (iN a) (lnc s.B s.len)).2 k))), (0, .ref (q 0)), (1, .int (nI (iN a))), (2, .int (nI (lnc s.B s.len))), (3, .int (nI k))] [])
            refine XX.iload dd_S_merge_123 0 rfl ?_
            refine XX.iconst (v := nI 1) dd_S_merge_125 (by decide) ?_
            refine XX.iadd dd_S_merge_126 ?_
            refine XX.tp (y := nI ((s_sq s (iN a) (lnc s.B s.len)).2 k + 1)) (nI_add _ _) ?_
            refine XX.istore (lv2 := [(5, .int (nI ((s_sq s (iN a) (lnc s.B s.len)).2 k + 1))), (4, .int (nI ((s_sq s (iN a) (lnc s.B s.len)).2 k))), (0, .ref (q 0)), (1, .int (nI (iN a))), (2, .int (nI (lnc s.B s.len))), (3, .int (nI k))]) dd_S_merge_127 (by decide) rfl ?_
            refine XX.iload dd_S_merge_129 0 rfl ?_
            refine XX.iload_n dd_S_merge_131 rfl 4 rfl ?_
            refine XX.ncmp_ge (tgt := 158) dd_S_merge_132 (by decide) (by omega) (by omega) (fun h132 => ?_) (fun h132 => ?_)
            ·
              refine XX.iinc (z := 5) (v := nI (k + 1)) (lv2 := [(3, .int (nI (k + 1))), (5, .int (nI ((s_sq s (iN a) (lnc s.B s.len)).2 k + 1))), (4, .int (nI ((s_sq s (iN a) (lnc s.B s.len)).2 k))), (0, .ref (q 0)), (1, .int (nI (iN a))), (2, .int (nI (lnc s.B s.len)))]) dd_S_merge_158 rfl ((nI_succ _).symm) (by decide) rfl ?_
              refine XX.goto (tgt := 96) dd_S_merge_161 (by decide) ?_
              refine XX.lvs [3, 4, 5, 0] rfl ?_
              have eh := s_hg_f (s := s) hm1 (k := k) (by omega) (fun z => by have z1 := z.1; have z2 := z.2; omega)
              exact ih _ (by omega) (k + 1) x2 f2 rfl (by omega) ⟨hj2, fun i hi => by rw [b2 3 (by omega), a3 3 (by omega)]; exact h3 i hi, fun l hl => by rw [b2 2 (by omega), a3 2 (by omega)]; exact hr2 l hl, fun j z2 z3 z4 z7 => by rw [b2 j z7, a3 j z4]; exact hkf j z2 z3 z4 z7, fun i hi => by rw [b1 i (by omega) (by omega), a2 i (by omega)]; exact hkx i hi⟩ (by rw [eh]; exact (b1 20 (by omega) (by omega)).trans a1) (by rw [eh, b2 4 (by omega)]; exact a4) b3 b4
            ·
              refine XX.iload dd_S_merge_135 0 rfl ?_
              refine XX.iload_n dd_S_merge_137 rfl 3 rfl ?_
              refine XX.irem dd_S_merge_138 (xn_ne0 (by omega) (by omega)) ?_
              refine XX.tp (y := nI (((s_sq s (iN a) (lnc s.B s.len)).2 k + 1) % (iN a))) (pk_rem (by omega) (by omega) (by omega)) ?_
              have hmd := Nat.mod_lt ((s_sq s (iN a) (lnc s.B s.len)).2 k + 1) (show iN a > 0 by omega)
              refine XX.nif_eq (tgt := 158) dd_S_merge_139 (by decide) (by omega) (fun h139 => ?_) (fun h139 => ?_)
              ·
                refine XX.iinc (z := 5) (v := nI (k + 1)) (lv2 := [(3, .int (nI (k + 1))), (5, .int (nI ((s_sq s (iN a) (lnc s.B s.len)).2 k + 1))), (4, .int (nI ((s_sq s (iN a) (lnc s.B s.len)).2 k))), (0, .ref (q 0)), (1, .int (nI (iN a))), (2, .int (nI (lnc s.B s.len)))]) dd_S_merge_158 rfl ((nI_succ _).symm) (by decide) rfl ?_
                refine XX.goto (tgt := 96) dd_S_merge_161 (by decide) ?_
                refine XX.lvs [3, 4, 5, 0] rfl ?_
                have eh := s_hg_f (s := s) hm1 (k := k) (by omega) (fun z => by have z1 := z.1; have z2 := z.2; omega)
                exact ih _ (by omega) (k + 1) x2 f2 rfl (by omega) ⟨hj2, fun i hi => by rw [b2 3 (by omega), a3 3 (by omega)]; exact h3 i hi, fun l hl => by rw [b2 2 (by omega), a3 2 (by omega)]; exact hr2 l hl, fun j z2 z3 z4 z7 => by rw [b2 j z7, a3 j z4]; exact hkf j z2 z3 z4 z7, fun i hi => by rw [b1 i (by omega) (by omega), a2 i (by omega)]; exact hkx i hi⟩ (by rw [eh]; exact (b1 20 (by omega) (by omega)).trans a1) (by rw [eh, b2 4 (by omega)]; exact a4) b3 b4
              ·
                refine XX.aload_n dd_S_merge_142 rfl 2 rfl ?_
                refine XX.get (q0 := 0) (v := .ref (q 13)) fl_S_46 dd_S_merge_143 rfl rfl ?_
                refine XX.aload_n dd_S_merge_146 rfl 2 rfl ?_
                refine XX.get (q0 := 0) (v := .ref (q 10)) fl_S_39 dd_S_merge_147 rfl rfl ?_
                refine XX.iload dd_S_merge_150 0 rfl ?_
                refine XX.callVr (Mk := m_R_rankOf) (n := 1) (As := [.int (nI ((s_sq s (iN a) (lnc s.B s.len)).2 k + 1))]) (rest := [.ref (q 13)]) (q0 := 10) (ci := 6) (c_R_rankOf (l := (s_sq s (iN a) (lnc s.B s.len)).2 k + 1) (by omega)) mt_R_rankOf mi_R_rankOf ml_S_207 rfl dd_S_merge_152 (rfl) rfl rfl ⟨xn_le rfl, xn_le rfl⟩ ⟨xn_le rfl, xn_le rfl⟩ (xn_le rfl) rfl ?_
                refine XX.tp (y := nI (rr_ (sa_o s) (lnc s.B s.len) ((s_sq s (iN a) (lnc s.B s.len)).2 k + 1))) (by rw [b2 2 (by omega), a3 2 (by omega)]; exact hr2 _ (by omega)) ?_
                refine XX.callV (Mk := m_H_put) (n := 1) (As := [.int (nI (rr_ (sa_o s) (lnc s.B s.len) ((s_sq s (iN a) (lnc s.B s.len)).2 k + 1)))]) (rest := []) (q0 := 13) (ci := 7) (cput2 (v := rr_ (sa_o s) (lnc s.B s.len) ((s_sq s (iN a) (lnc s.B s.len)).2 k + 1)) ((b1 20 (by omega) (by omega)).trans a1) (by omega) (by rw [b2 4 (by omega)]; exact a4) (by have := rr_lt (o := sa_o s) (ln := lnc s.B s.len) (l := (s_sq s (iN a) (lnc s.B s.len)).2 k + 1) (by omega); omega)) mt_H_put mi_H_put ml_S_210 rfl dd_S_merge_155 (rfl) rfl rfl ⟨xn_le rfl, xn_le rfl⟩ ⟨xn_le rfl, xn_le rfl⟩ (xn_le rfl) rfl (fun r1 w1 hp1 => ?_)
                obtain ⟨rfl, x3, f3, rfl, c1, c2, c3, c4⟩ := hp1
                refine (?_ : XX G m_S_merge (xr 7 1 6) (xx_F G (PT (t_merge s a) (CQI G q n T (q_merge s a) (nI (q_merge s a).rc))) (xr 7 1 6)) 0 0 (wC G q x3 n f3 kf (ks ++ T)) 158 [(5, .int (nI ((s_sq s (iN a) (lnc s.B s.len)).2 k + 1))), (4, .int (nI ((s_sq s (iN a) (lnc s.B s.len)).2 k))), (0, .ref (q 0)), (1, .int (nI (iN a))), (2, .int (nI (lnc s.B s.len))), (3, .int (nI k))] [])
                refine XX.iinc (z := 5) (v := nI (k + 1)) (lv2 := [(3, .int (nI (k + 1))), (5, .int (nI ((s_sq s (iN a) (lnc s.B s.len)).2 k + 1))), (4, .int (nI ((s_sq s (iN a) (lnc s.B s.len)).2 k))), (0, .ref (q 0)), (1, .int (nI (iN a))), (2, .int (nI (lnc s.B s.len)))]) dd_S_merge_158 rfl ((nI_succ _).symm) (by decide) rfl ?_
                refine XX.goto (tgt := 96) dd_S_merge_161 (by decide) ?_
                refine XX.lvs [3, 4, 5, 0] rfl ?_
                have eh := s_hg_t (s := s) hm1 (k := k) (by omega) (by omega) (by omega)
                exact ih _ (by omega) (k + 1) x3 f3 rfl (by omega) ⟨hj2.mv (fun i h1 h2 => c2 i (by omega)) (c3 0 (by omega)) (c3 1 (by omega)), fun i hi => by rw [c3 3 (by omega), b2 3 (by omega), a3 3 (by omega)]; exact h3 i hi, fun l hl => by rw [c3 2 (by omega), b2 2 (by omega), a3 2 (by omega)]; exact hr2 l hl, fun j z2 z3 z4 z7 => by rw [c3 j z4, b2 j z7, a3 j z4]; exact hkf j z2 z3 z4 z7, fun i hi => by rw [c2 i (by omega), b1 i (by omega) (by omega), a2 i (by omega)]; exact hkx i hi⟩ (by rw [eh]; exact c1) (by rw [eh]; exact c4) ((c2 0 (by omega)).trans b3) (by rw [c3 7 (by omega)]; exact b4)
      have l57 : ∀ (kk k : Nat) (xx : Nat → Int32) (ff : Nat → Nat → Int32), lnc s.B s.len - k = kk → k ≤ lnc s.B s.len → CJ s xx n ff kf (ks ++ T) bc br ka ∧ (∀ i, i < lnc s.B s.len → ff 3 i = nI (rk (sa_o s) (lnc s.B s.len) i)) ∧ (∀ l, l < lnc s.B s.len → ff 2 l = nI (rr_ (sa_o s) (lnc s.B s.len) l)) ∧ (∀ j, j ≠ 2 → j ≠ 3 → j ≠ 4 → j ≠ 7 → ff j = f j) ∧ (∀ i, 20 < i → xx i = x i) → xx 20 = nI (s_hm s (iN a) k).2 → hq (ff 4) (s_hm s (iN a) k).1 (s_hm s (iN a) k).2 → XX G m_S_merge (xr 7 1 6) (xx_F G (PT (t_merge s a) (CQI G q n T (q_merge s a) (nI (q_merge s a).rc))) (xr 7 1 6)) 0 0 (wC G q xx n ff kf (ks ++ T)) 57 [(0, .ref (q 0)), (1, .int (nI (iN a))), (2, .int (nI (lnc s.B s.len))), (3, .int (nI k))] [] := by
        intro kk
        induction kk using Nat.strongRecOn with
        | _ kk ih =>
          intro k xx ff hkk hk hL h20 hhq
          obtain ⟨hj, h3, hr2, hkf, hkx⟩ := id hL
          have hle := s_hm_le s (iN a) k
          refine XX.iload_n dd_S_merge_57 rfl 3 rfl ?_
          refine XX.iload_n dd_S_merge_58 rfl 2 rfl ?_
          refine XX.ncmp_ge (tgt := 89) dd_S_merge_59 (by decide) (by omega) (by omega) (fun h59 => ?_) (fun h59 => ?_)
          ·
            refine XX.aload_n dd_S_merge_89 rfl 0 rfl ?_
            refine XX.iconst (v := nI 0) dd_S_merge_90 (by decide) ?_
            refine XX.put (q0 := 0) (ws2 := wC G q (upd xx 0 (nI 0)) n ff kf (ks ++ T)) fp_S_63 dd_S_merge_91 rfl rfl rfl (xn_le rfl) rfl ?_
            refine XX.iconst (v := nI 0) dd_S_merge_94 (by decide) ?_
            refine XX.istore_n (lv2 := [(3, .int (nI 0)), (0, .ref (q 0)), (1, .int (nI (iN a))), (2, .int (nI (lnc s.B s.len)))]) dd_S_merge_95 rfl (by decide) rfl ?_
            refine XX.lvs [1, 2, 3, 0] rfl ?_
            obtain rfl : k = lnc s.B s.len := by omega
            exact l96 _ 0 _ ff rfl (Nat.zero_le _) ⟨hj.mv (fun i h1 h2 => pk_un (by omega)) rfl rfl, h3, hr2, hkf, fun i hi => by rw [pk_un (by omega)]; exact hkx i hi⟩ h20 hhq rfl (fun i hi => absurd hi (Nat.not_lt_zero _))
          ·
            refine XX.iload_n dd_S_merge_62 rfl 3 rfl ?_
            refine XX.iload_n dd_S_merge_63 rfl 1 rfl ?_
            refine XX.irem dd_S_merge_64 (xn_ne0 (by omega) (by omega)) ?_
            refine XX.tp (y := nI (k % (iN a))) (pk_rem (by omega) (by omega) (by omega)) ?_
            have hmd := Nat.mod_lt k (show iN a > 0 by omega)
            refine XX.nif_ne (tgt := 83) dd_S_merge_65 (by decide) (by omega) (fun h65 => ?_) (fun h65 => ?_)
            ·
              refine XX.iinc (z := 3) (v := nI (k + 1)) (lv2 := [(3, .int (nI (k + 1))), (0, .ref (q 0)), (1, .int (nI (iN a))), (2, .int (nI (lnc s.B s.len)))]) dd_S_merge_83 rfl ((nI_succ _).symm) (by decide) rfl ?_
              refine XX.goto (tgt := 57) dd_S_merge_86 (by decide) ?_
              refine XX.lvs [1, 2, 3, 0] rfl ?_
              have eh := s_hm_f (s := s) (m := iN a) (k := k) (by omega)
              exact ih _ (by omega) (k + 1) xx ff rfl (by omega) hL (by rw [eh]; exact h20) (by rw [eh]; exact hhq)
            ·
              refine XX.aload_n dd_S_merge_68 rfl 0 rfl ?_
              refine XX.get (q0 := 0) (v := .ref (q 13)) fl_S_46 dd_S_merge_69 rfl rfl ?_
              refine XX.aload_n dd_S_merge_72 rfl 0 rfl ?_
              refine XX.get (q0 := 0) (v := .ref (q 10)) fl_S_39 dd_S_merge_73 rfl rfl ?_
              refine XX.iload_n dd_S_merge_76 rfl 3 rfl ?_
              refine XX.callVr (Mk := m_R_rankOf) (n := 1) (As := [.int (nI k)]) (rest := [.ref (q 13)]) (q0 := 10) (ci := 6) (c_R_rankOf (l := k) (by omega)) mt_R_rankOf mi_R_rankOf ml_S_207 rfl dd_S_merge_77 (rfl) rfl rfl ⟨xn_le rfl, xn_le rfl⟩ ⟨xn_le rfl, xn_le rfl⟩ (xn_le rfl) rfl ?_
              refine XX.tp (y := nI (rr_ (sa_o s) (lnc s.B s.len) k)) (hr2 k (by omega)) ?_
              refine XX.callV (Mk := m_H_put) (n := 1) (As := [.int (nI (rr_ (sa_o s) (lnc s.B s.len) k))]) (rest := []) (q0 := 13) (ci := 7) (cput2 (v := rr_ (sa_o s) (lnc s.B s.len) k) h20 (by omega) hhq (by have := rr_lt (o := sa_o s) (ln := lnc s.B s.len) (l := k) (by omega); omega)) mt_H_put mi_H_put ml_S_210 rfl dd_S_merge_80 (rfl) rfl rfl ⟨xn_le rfl, xn_le rfl⟩ ⟨xn_le rfl, xn_le rfl⟩ (xn_le rfl) rfl (fun r1 w1 hp1 => ?_)
              obtain ⟨rfl, x3, f3, rfl, c1, c2, c3, c4⟩ := hp1
              refine (?_ : XX G m_S_merge (xr 7 1 6) (xx_F G (PT (t_merge s a) (CQI G q n T (q_merge s a) (nI (q_merge s a).rc))) (xr 7 1 6)) 0 0 (wC G q x3 n f3 kf (ks ++ T)) 83 [(0, .ref (q 0)), (1, .int (nI (iN a))), (2, .int (nI (lnc s.B s.len))), (3, .int (nI k))] [])
              refine XX.iinc (z := 3) (v := nI (k + 1)) (lv2 := [(3, .int (nI (k + 1))), (0, .ref (q 0)), (1, .int (nI (iN a))), (2, .int (nI (lnc s.B s.len)))]) dd_S_merge_83 rfl ((nI_succ _).symm) (by decide) rfl ?_
              refine XX.goto (tgt := 57) dd_S_merge_86 (by decide) ?_
              refine XX.lvs [1, 2, 3, 0] rfl ?_
              have eh := s_hm_t (s := s) (m := iN a) (k := k) (by omega)
              exact ih _ (by omega) (k + 1) x3 f3 rfl (by omega) ⟨hj.mv (fun i h1 h2 => c2 i (by omega)) (c3 0 (by omega)) (c3 1 (by omega)), fun i hi => by rw [c3 3 (by omega)]; exact h3 i hi, fun l hl => by rw [c3 2 (by omega)]; exact hr2 l hl, fun j z2 z3 z4 z7 => by rw [c3 j z4]; exact hkf j z2 z3 z4 z7, fun i hi => by rw [c2 i (by omega)]; exact hkx i hi⟩ (by rw [eh]; exact c1) (by rw [eh]; exact c4)
      refine XR.xx (XX.ft ?_)
      refine XX.cg (ws2 := wC G q x n f kf (ks ++ T)) (lv2 := [(2, .int (nI (lnc s.B s.len))), (0, .ref (q 0)), (1, .int (nI (iN a)))]) rfl (by rw [← ea]) rfl ?_
      refine XX.lvs [1, 2, 0] rfl ?_
      refine XX.aload_n dd_S_merge_40 rfl 0 rfl ?_
      refine XX.get (q0 := 0) (v := .ref (q 10)) fl_S_39 dd_S_merge_41 rfl rfl ?_
      refine XX.iload_n dd_S_merge_44 rfl 2 rfl ?_
      refine XX.callV (Mk := m_R_rankFirst) (n := 1) (As := [.int (nI (lnc s.B s.len))]) (rest := []) (q0 := 10) (ci := 6) (crank2 (hc.j T) h27) mt_R_rankFirst mi_R_rankFirst ml_S_180 rfl dd_S_merge_45 (rfl) rfl rfl ⟨xn_le rfl, xn_le rfl⟩ ⟨xn_le rfl, xn_le rfl⟩ (xn_le rfl) rfl (fun r1 w1 hp1 => ?_)
      obtain ⟨rfl, x1, f1, rfl, a1, a2, a3, a4⟩ := hp1
      have hj1 : CJ s x1 n f1 kf (ks ++ T) bc br ka := (hc.j T).mv (fun i h1 h2 => a1 i (by omega)) (a2 0 (by omega) (by omega)) (a2 1 (by omega) (by omega))
      refine (?_ : XX G m_S_merge (xr 7 1 6) (xx_F G (PT (t_merge s a) (CQI G q n T (q_merge s a) (nI (q_merge s a).rc))) (xr 7 1 6)) 0 0 (wC G q x1 n f1 kf (ks ++ T)) 48 [(0, .ref (q 0)), (1, .int (nI (iN a))), (2, .int (nI (lnc s.B s.len)))] [])
      refine XX.aload_n dd_S_merge_48 rfl 0 rfl ?_
      refine XX.get (q0 := 0) (v := .ref (q 13)) fl_S_46 dd_S_merge_49 rfl rfl ?_
      refine XX.callVx (Mk := m_H_clear) (n := 0) (As := []) (rest := []) (q0 := 13) (ci := 7) (c_H_clear) mt_H_clear mi_H_clear ml_S_204 rfl dd_S_merge_52 (rfl) rfl rfl ⟨xn_le rfl, xn_le rfl⟩ ⟨xn_le rfl, xn_le rfl⟩ (xn_le rfl) rfl ?_
      refine XX.iconst (v := nI 0) dd_S_merge_55 (by decide) ?_
      refine XX.istore_n (lv2 := [(3, .int (nI 0)), (0, .ref (q 0)), (1, .int (nI (iN a))), (2, .int (nI (lnc s.B s.len)))]) dd_S_merge_56 rfl (by decide) rfl ?_
      refine XX.lvs [1, 2, 3, 0] rfl ?_
      exact l57 _ 0 _ f1 rfl (Nat.zero_le _) ⟨hj1.mv (fun i h1 h2 => pk_un (by omega)) rfl rfl, a3, a4, fun j z2 z3 z4 z7 => a2 j z2 z3, fun i hi => by rw [pk_un (by omega)]; exact a1 i (by omega)⟩ rfl (fun i hi => absurd hi (Nat.not_lt_zero _))
    ·
      exact XR.throw (idx := 121) (ic := 125) (sx := 178) (xw_in mw_546 rfl) (xw_in mw_547 rfl) (xw_in mw_19 rfl) (List.mem_of_getElem? (i := 9) rfl) tw_UOE mt_S_merge.1 (by decide) (by decide) (by decide) htr dd_S_merge_30 dd_S_merge_33 dd_S_merge_34 dd_S_merge_36 dd_S_merge_39 (xn_le rfl) (xn_le rfl) ⟨xn_le rfl, xn_le rfl⟩ ⟨xn_le rfl, xn_le rfl⟩ (ET.of (k := 2) (by unfold t_merge tb; rw [if_neg (by intro z; exact absurd (of_decide_eq_true z) (Int32.not_lt.mpr h2)), if_pos (decide_eq_true h27)]) (by decide) rfl)
  ·
    exact XR.throw (idx := 91) (ic := 95) (sx := 202) (xw_in mw_501 rfl) (xw_in mw_502 rfl) (xw_in mw_18 rfl) (List.mem_of_getElem? (i := 10) rfl) tw_IAE mt_S_merge.1 (by decide) (by decide) (by decide) htr dd_S_merge_5 dd_S_merge_8 dd_S_merge_9 dd_S_merge_11 dd_S_merge_14 (xn_le rfl) (xn_le rfl) ⟨xn_le rfl, xn_le rfl⟩ ⟨xn_le rfl, xn_le rfl⟩ (ET.of (k := 1) (by unfold t_merge tb; rw [if_pos (decide_eq_true (Int32.not_le.mp h2))]) (by decide) rfl)

