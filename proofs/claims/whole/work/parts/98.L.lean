/-! the law's helpers -/
theorem wC_out {G : XG} {q : Nat → Nat} {x : Nat → Int32} {n : Nat → Nat} {f : Nat → Nat → Int32} {kf : Nat → Option Nat} {o : Nat × va_E} {ks T : va_W} : (wC G q x n f kf (ks ++ o :: T)).Perm (o :: wC G q x n f kf (ks ++ T)) := (wC_kl List.perm_middle).trans wC_in.symm
theorem gn5_ge (len bc : Nat) (n : Nat → Nat) (a b c d e : Int32) : n 0 ≤ gn5 len bc n a b c d e 0 ∧ n 1 ≤ gn5 len bc n a b c d e 1 := by
  unfold gn5
  exact ⟨Nat.le_trans (gn_ge _ _ _).1 (Nat.le_trans (gn_ge _ _ _).1 (Nat.le_trans (gn_ge _ _ _).1 (Nat.le_trans (gn_ge _ _ _).1 (gn_ge _ _ _).1))), Nat.le_trans (gn_ge _ _ _).2 (Nat.le_trans (gn_ge _ _ _).2 (Nat.le_trans (gn_ge _ _ _).2 (Nat.le_trans (gn_ge _ _ _).2 (gn_ge _ _ _).2)))⟩
theorem tb_1 {c : Bool} (h : tb c 1 0 ≠ 0) : tb c 1 0 = 1 := by
  cases c with
  | true => rfl
  | false => exact absurd rfl h
theorem tb_2 {c d : Bool} (h : tb c 1 (tb d 2 0) ≠ 0) : tb c 1 (tb d 2 0) = 1 ∨ tb c 1 (tb d 2 0) = 2 := by
  cases c with
  | true => exact Or.inl rfl
  | false =>
    cases d with
    | true => exact Or.inr rfl
    | false => exact absurd rfl h
def LI (G : XG) (q : Nat → Nat) (n : Nat → Nat) (D o : Nat) (T : va_W) (t : Nat) (s : SS) (v : Int32) : Option Value → va_W → Prop := fun r w => r = some (.int (nI t)) ∧ ∃ (n2 : Nat → Nat) (g2 : Nat → Int64), D + (2 * n 0 + 2 * n 1) ≤ 2 * n2 0 + 2 * n2 1 ∧ (t = 0 → g2 0 = v.toInt64) ∧ CW G q n2 ((o, .inl (G.2.1 2, 1, .inr (.inl g2))) :: T) s w
def LV (G : XG) (q : Nat → Nat) (n : Nat → Nat) (T : va_W) (t : Nat) (s : SS) : Option Value → va_W → Prop := fun r w => r = some (.int (nI t)) ∧ CW G q n T s w
theorem sel_0 {t : Nat} {a b : SS} (h : t = 0) : sel t a b = a := by unfold sel; rw [if_pos h]
theorem sel_1 {t : Nat} {a b : SS} (h : t ≠ 0) : sel t a b = b := by unfold sel; rw [if_neg h]

theorem mz_L_feed : xx_mw m_L_feed [(0, 16, 19, 13)] 7 := ⟨xw_in mw_389 rfl, xw_in mw_0 rfl, ⟨by decide, by decide⟩, by decide +kernel⟩
theorem ms_L_feed : Cond.static m_L_feed.1 ∈ xw_g := xw_in mw_388 rfl
set_option maxRecDepth 100000 in
set_option maxHeartbeats 4000000 in
theorem c_L_feed {G : XG} {q : Nat → Nat} {x : Nat → Int32} {n : Nat → Nat} {f : Nat → Nat → Int32} {kf : Nat → Option Nat} {ks T : va_W} {s : SS} {bc : Nat} {br ka : Nat → Nat} (hc : CI s x n f kf ks bc br ka) (htr : ∀ e : Env, G.2.2.2.admits e → e.platform.stackTraces = false) {o : Nat} {gg : Nat → Int64} {a b c d e : Int32} : MW G m_L_feed [(0, 16, 19, 13)] (xr 7 11 (6 + fgr (t_feed s) s.len bc n a b c d e)) [.ref (q 0), .int a, .int b, .int c, .int d, .int e, .ref o] (wC G q x n f kf (ks ++ (o, .inl (G.2.1 2, 1, .inr (.inl gg))) :: T)) (LI G q n (fgr (t_feed s) s.len bc n a b c d e) o T (t_feed s) (sel (t_feed s) (o_feed s a b c d e) s) (nI (s.len + 20))) := by
  refine MW.of rfl (xn_le rfl) ?_
  refine (?_ : XX G m_L_feed (xr 7 11 (6 + fgr (t_feed s) s.len bc n a b c d e)) (xx_F G (LI G q n (fgr (t_feed s) s.len bc n a b c d e) o T (t_feed s) (sel (t_feed s) (o_feed s a b c d e) s) (nI (s.len + 20))) (xr 7 11 (6 + fgr (t_feed s) s.len bc n a b c d e))) 0 0 (wC G q x n f kf (ks ++ (o, .inl (G.2.1 2, 1, .inr (.inl gg))) :: T)) 0 [(0, .ref (q 0)), (1, .int a), (2, .int b), (3, .int c), (4, .int d), (5, .int e), (6, .ref o)] [])
  refine XX.aload dd_L_feed_0 6 rfl ?_
  refine XX.iconst (v := nI 0) dd_L_feed_2 (by decide) ?_
  refine XX.aload_n dd_L_feed_3 rfl 0 rfl ?_
  refine XX.iload_n dd_L_feed_4 rfl 1 rfl ?_
  refine XX.iload_n dd_L_feed_5 rfl 2 rfl ?_
  refine XX.iload_n dd_L_feed_6 rfl 3 rfl ?_
  refine XX.iload dd_L_feed_7 4 rfl ?_
  refine XX.iload dd_L_feed_9 5 rfl ?_
  refine XX.callVT (Mk := m_S_feed) (q0 := 0) (ci := 0) (n := 5) (As := [.int a, .int b, .int c, .int d, .int e]) (rest := [.int (nI 0), .ref o]) (hh := [(0, 16, 19, 13)]) (c_S_feed (T := (o, .inl (G.2.1 2, 1, .inr (.inl gg))) :: T) hc htr (a := a) (b := b) (c := c) (d := d) (e := e)) mt_S_feed mi_S_feed (xw_in mw_391 rfl) rfl dd_L_feed_11 rfl rfl rfl ⟨xn_le rfl, xn_le rfl⟩ ⟨xr_c (by show 0 + 11 ≤ 11; omega), xr_s (by show 0 + (6 + fgr (t_feed s) s.len bc n a b c d e) ≤ (6 + fgr (t_feed s) s.len bc n a b c d e); omega)⟩ (xn_le rfl) rfl mz_L_feed.1 (by decide) (fun r w1 hp => ?_) (fun X w1 hE => ?_)
  · obtain ⟨ht, rfl, q2, x2, f2, kf2, ks2, bc2, br2, ka2, rfl, hq, hci⟩ := hp
    refine XX.i2l (v := (nI (s.len + 20)).toInt64) dd_L_feed_14 rfl ?_
    refine XX.perm (ws2 := (o, .inl (G.2.1 2, 1, .inr (.inl gg))) :: wC G q2 x2 (gn5 s.len bc n a b c d e) f2 kf2 (ks2 ++ T)) wC_out ?_
    refine XX.last (q0 := 0) (n := 1) (j := 0) (f := gg) (ws2 := (o, .inl (G.2.1 2, 1, .inr (.inl (vp_updL gg 0 (nI (s.len + 20)).toInt64)))) :: wC G q2 x2 (gn5 s.len bc n a b c d e) f2 kf2 (ks2 ++ T)) dd_L_feed_15 rfl (by decide) (by decide) rfl ?_
    refine XX.perm (ws2 := wC G q2 x2 (gn5 s.len bc n a b c d e) f2 kf2 (ks2 ++ (o, .inl (G.2.1 2, 1, .inr (.inl (vp_updL gg 0 (nI (s.len + 20)).toInt64)))) :: T)) wC_out.symm ?_
    refine XX.goto (tgt := 23) dd_L_feed_16 (by decide) ?_
    refine XX.iconst (v := nI 0) dd_L_feed_23 (by decide) ?_
    have hge := gn5_ge s.len bc n a b c d e
    have efg : fgr (t_feed s) s.len bc n a b c d e = 2 * (gn5 s.len bc n a b c d e 0 - n 0) + 2 * (gn5 s.len bc n a b c d e 1 - n 1) := if_pos ht
    exact XX.iret dd_L_feed_24 rfl ⟨xr_c (by show 0 + 11 ≤ 11; omega), xr_s (by show 0 + (6 + fgr (t_feed s) s.len bc n a b c d e) ≤ (6 + fgr (t_feed s) s.len bc n a b c d e); omega)⟩ ⟨by rw [ht], gn5 s.len bc n a b c d e, _, by omega, fun _ => rfl, ⟨q2, x2, f2, kf2, ks2, bc2, br2, ka2, rfl, hq, by rw [sel_0 ht]; exact hci⟩⟩
  · obtain ⟨h0, hX, rfl⟩ := hE
    have ht : t_feed s = 1 := by unfold t_feed at h0 ⊢; exact tb_1 h0
    subst hX
    refine ⟨19, Or.inl ⟨0, 16, 13, [], rfl, by omega, by omega, by decide, xw_in mw_390 rfl⟩, fun a0 => ?_⟩
    refine XX.astore (lv2 := [(7, .ref a0), (0, .ref (q 0)), (1, .int a), (2, .int b), (3, .int c), (4, .int d), (5, .int e), (6, .ref o)]) dd_L_feed_19 (by decide) rfl ?_
    refine XX.iconst (v := nI 1) dd_L_feed_21 (by decide) ?_
    have efg : fgr (t_feed s) s.len bc n a b c d e = 0 := if_neg h0
    exact XX.iret dd_L_feed_22 rfl ⟨xr_c (by show 0 + 11 ≤ 11; omega), xr_s (by show 0 + (6 + fgr (t_feed s) s.len bc n a b c d e) ≤ (6 + fgr (t_feed s) s.len bc n a b c d e); omega)⟩ ⟨by rw [ht], n, gg, by omega, fun z => absurd z h0, by rw [sel_1 h0]; exact CW.of hc⟩

theorem mz_L_end : xx_mw m_L_end [(0, 5, 8, 19)] 2 := ⟨xw_in mw_495 rfl, xw_in mw_0 rfl, ⟨by decide, by decide⟩, by decide +kernel⟩
theorem ms_L_end : Cond.static m_L_end.1 ∈ xw_g := xw_in mw_494 rfl
set_option maxRecDepth 100000 in
set_option maxHeartbeats 4000000 in
theorem c_L_end {G : XG} {q : Nat → Nat} {x : Nat → Int32} {n : Nat → Nat} {f : Nat → Nat → Int32} {kf : Nat → Option Nat} {ks T : va_W} {s : SS} {bc : Nat} {br ka : Nat → Nat} (hc : CI s x n f kf ks bc br ka) (htr : ∀ e : Env, G.2.2.2.admits e → e.platform.stackTraces = false) {a : Int32} : MW G m_L_end [(0, 5, 8, 19)] (xr 7 1 6) [.ref (q 0), .int a] (wC G q x n f kf (ks ++ T)) (LV G q n T (t_end s a) (sel (t_end s a) (o_end s a) s)) := by
  refine MW.of rfl (xn_le rfl) ?_
  refine (?_ : XX G m_L_end (xr 7 1 6) (xx_F G (LV G q n T (t_end s a) (sel (t_end s a) (o_end s a) s)) (xr 7 1 6)) 0 0 (wC G q x n f kf (ks ++ T)) 0 [(0, .ref (q 0)), (1, .int a)] [])
  refine XX.aload_n dd_L_end_0 rfl 0 rfl ?_
  refine XX.iload_n dd_L_end_1 rfl 1 rfl ?_
  refine XX.callVT (Mk := m_S_end) (q0 := 0) (ci := 0) (n := 1) (As := [.int a]) (rest := []) (hh := [(0, 5, 8, 19)]) (c_S_end (T := T) hc htr (a := a)) mt_S_end mi_S_end (xw_in mw_497 rfl) rfl dd_L_end_2 rfl rfl rfl ⟨xn_le rfl, xn_le rfl⟩ ⟨xn_le rfl, xn_le rfl⟩ (xn_le rfl) rfl mz_L_end.1 (by decide) (fun r w1 hp => ?_) (fun X w1 hE => ?_)
  · obtain ⟨ht, rfl, q2, x2, f2, kf2, ks2, bc2, br2, ka2, rfl, hq, hci⟩ := hp
    refine XX.goto (tgt := 11) dd_L_end_5 (by decide) ?_
    refine XX.iconst (v := nI 0) dd_L_end_11 (by decide) ?_
    exact XX.iret dd_L_end_12 rfl ⟨xn_le rfl, xn_le rfl⟩ ⟨by rw [ht], ⟨q2, x2, f2, kf2, ks2, bc2, br2, ka2, rfl, hq, by rw [sel_0 ht]; exact hci⟩⟩
  · obtain ⟨h0, hX, rfl⟩ := hE
    have ht : t_end s a = 1 := by unfold t_end at h0 ⊢; exact tb_1 h0
    subst hX
    refine ⟨8, Or.inl ⟨0, 5, 19, [], rfl, by omega, by omega, by decide, xw_in mw_496 rfl⟩, fun a0 => ?_⟩
    refine XX.astore_n (lv2 := [(2, .ref a0), (0, .ref (q 0)), (1, .int a)]) dd_L_end_8 rfl (by decide) rfl ?_
    refine XX.iconst (v := nI 1) dd_L_end_9 (by decide) ?_
    exact XX.iret dd_L_end_10 rfl ⟨xn_le rfl, xn_le rfl⟩ ⟨by rw [ht], by rw [sel_1 h0]; exact CW.of hc⟩

theorem mz_L_ways : xx_mw m_L_ways [(0, 7, 10, 19)] 4 := ⟨xw_in mw_523 rfl, xw_in mw_0 rfl, ⟨by decide, by decide⟩, by decide +kernel⟩
theorem ms_L_ways : Cond.static m_L_ways.1 ∈ xw_g := xw_in mw_522 rfl
set_option maxRecDepth 100000 in
set_option maxHeartbeats 4000000 in
theorem c_L_ways {G : XG} {q : Nat → Nat} {x : Nat → Int32} {n : Nat → Nat} {f : Nat → Nat → Int32} {kf : Nat → Option Nat} {ks T : va_W} {s : SS} {bc : Nat} {br ka : Nat → Nat} (hc : CI s x n f kf ks bc br ka) (htr : ∀ e : Env, G.2.2.2.admits e → e.platform.stackTraces = false) {a : Int32} {b1 b2 : Bool} : MW G m_L_ways [(0, 7, 10, 19)] (xr 7 1 6) [.ref (q 0), .int a, .int (bI b1), .int (bI b2)] (wC G q x n f kf (ks ++ T)) (LV G q n T (t_ways a) (sel (t_ways a) (o_ways s a b1 b2) s)) := by
  refine MW.of rfl (xn_le rfl) ?_
  refine (?_ : XX G m_L_ways (xr 7 1 6) (xx_F G (LV G q n T (t_ways a) (sel (t_ways a) (o_ways s a b1 b2) s)) (xr 7 1 6)) 0 0 (wC G q x n f kf (ks ++ T)) 0 [(0, .ref (q 0)), (1, .int a), (2, .int (bI b1)), (3, .int (bI b2))] [])
  refine XX.aload_n dd_L_ways_0 rfl 0 rfl ?_
  refine XX.iload_n dd_L_ways_1 rfl 1 rfl ?_
  refine XX.iload_n dd_L_ways_2 rfl 2 rfl ?_
  refine XX.iload_n dd_L_ways_3 rfl 3 rfl ?_
  refine XX.callVT (Mk := m_S_ways) (q0 := 0) (ci := 0) (n := 3) (As := [.int a, .int (bI b1), .int (bI b2)]) (rest := []) (hh := [(0, 7, 10, 19)]) (c_S_ways (T := T) hc htr (a := a) (b1 := b1) (b2 := b2)) mt_S_ways mi_S_ways (xw_in mw_524 rfl) rfl dd_L_ways_4 rfl rfl rfl ⟨xn_le rfl, xn_le rfl⟩ ⟨xn_le rfl, xn_le rfl⟩ (xn_le rfl) rfl mz_L_ways.1 (by decide) (fun r w1 hp => ?_) (fun X w1 hE => ?_)
  · obtain ⟨ht, rfl, q2, x2, f2, kf2, ks2, bc2, br2, ka2, rfl, hq, hci⟩ := hp
    refine XX.goto (tgt := 14) dd_L_ways_7 (by decide) ?_
    refine XX.iconst (v := nI 0) dd_L_ways_14 (by decide) ?_
    exact XX.iret dd_L_ways_15 rfl ⟨xn_le rfl, xn_le rfl⟩ ⟨by rw [ht], ⟨q2, x2, f2, kf2, ks2, bc2, br2, ka2, rfl, hq, by rw [sel_0 ht]; exact hci⟩⟩
  · obtain ⟨h0, hX, rfl⟩ := hE
    have ht : t_ways a = 1 := by unfold t_ways at h0 ⊢; exact tb_1 h0
    subst hX
    refine ⟨10, Or.inl ⟨0, 7, 19, [], rfl, by omega, by omega, by decide, xw_in mw_496 rfl⟩, fun a0 => ?_⟩
    refine XX.astore (lv2 := [(4, .ref a0), (0, .ref (q 0)), (1, .int a), (2, .int (bI b1)), (3, .int (bI b2))]) dd_L_ways_10 (by decide) rfl ?_
    refine XX.iconst (v := nI 1) dd_L_ways_12 (by decide) ?_
    exact XX.iret dd_L_ways_13 rfl ⟨xn_le rfl, xn_le rfl⟩ ⟨by rw [ht], by rw [sel_1 h0]; exact CW.of hc⟩

theorem mz_L_separator : xx_mw m_L_separator [(0, 5, 8, 19)] 2 := ⟨xw_in mw_531 rfl, xw_in mw_0 rfl, ⟨by decide, by decide⟩, by decide +kernel⟩
theorem ms_L_separator : Cond.static m_L_separator.1 ∈ xw_g := xw_in mw_530 rfl
set_option maxRecDepth 100000 in
set_option maxHeartbeats 4000000 in
theorem c_L_separator {G : XG} {q : Nat → Nat} {x : Nat → Int32} {n : Nat → Nat} {f : Nat → Nat → Int32} {kf : Nat → Option Nat} {ks T : va_W} {s : SS} {bc : Nat} {br ka : Nat → Nat} (hc : CI s x n f kf ks bc br ka) (htr : ∀ e : Env, G.2.2.2.admits e → e.platform.stackTraces = false) {a : Int32} : MW G m_L_separator [(0, 5, 8, 19)] (xr 7 1 6) [.ref (q 0), .int a] (wC G q x n f kf (ks ++ T)) (LV G q n T (t_separator a) (sel (t_separator a) (o_separator s a) s)) := by
  refine MW.of rfl (xn_le rfl) ?_
  refine (?_ : XX G m_L_separator (xr 7 1 6) (xx_F G (LV G q n T (t_separator a) (sel (t_separator a) (o_separator s a) s)) (xr 7 1 6)) 0 0 (wC G q x n f kf (ks ++ T)) 0 [(0, .ref (q 0)), (1, .int a)] [])
  refine XX.aload_n dd_L_separator_0 rfl 0 rfl ?_
  refine XX.iload_n dd_L_separator_1 rfl 1 rfl ?_
  refine XX.callVT (Mk := m_S_separator) (q0 := 0) (ci := 0) (n := 1) (As := [.int a]) (rest := []) (hh := [(0, 5, 8, 19)]) (c_S_separator (T := T) hc htr (a := a)) mt_S_separator mi_S_separator (xw_in mw_532 rfl) rfl dd_L_separator_2 rfl rfl rfl ⟨xn_le rfl, xn_le rfl⟩ ⟨xn_le rfl, xn_le rfl⟩ (xn_le rfl) rfl mz_L_separator.1 (by decide) (fun r w1 hp => ?_) (fun X w1 hE => ?_)
  · obtain ⟨ht, rfl, q2, x2, f2, kf2, ks2, bc2, br2, ka2, rfl, hq, hci⟩ := hp
    refine XX.goto (tgt := 11) dd_L_separator_5 (by decide) ?_
    refine XX.iconst (v := nI 0) dd_L_separator_11 (by decide) ?_
    exact XX.iret dd_L_separator_12 rfl ⟨xn_le rfl, xn_le rfl⟩ ⟨by rw [ht], ⟨q2, x2, f2, kf2, ks2, bc2, br2, ka2, rfl, hq, by rw [sel_0 ht]; exact hci⟩⟩
  · obtain ⟨h0, hX, rfl⟩ := hE
    have ht : t_separator a = 1 := by unfold t_separator at h0 ⊢; exact tb_1 h0
    subst hX
    refine ⟨8, Or.inl ⟨0, 5, 19, [], rfl, by omega, by omega, by decide, xw_in mw_496 rfl⟩, fun a0 => ?_⟩
    refine XX.astore_n (lv2 := [(2, .ref a0), (0, .ref (q 0)), (1, .int a)]) dd_L_separator_8 rfl (by decide) rfl ?_
    refine XX.iconst (v := nI 1) dd_L_separator_9 (by decide) ?_
    exact XX.iret dd_L_separator_10 rfl ⟨xn_le rfl, xn_le rfl⟩ ⟨by rw [ht], by rw [sel_1 h0]; exact CW.of hc⟩

theorem mz_L_key : xx_mw m_L_key [(0, 16, 19, 19), (0, 16, 23, 31)] 7 := ⟨xw_in mw_539 rfl, xw_in mw_0 rfl, ⟨by decide, by decide⟩, by decide +kernel⟩
theorem ms_L_key : Cond.static m_L_key.1 ∈ xw_g := xw_in mw_538 rfl
set_option maxRecDepth 100000 in
set_option maxHeartbeats 4000000 in
theorem c_L_key {G : XG} {q : Nat → Nat} {x : Nat → Int32} {n : Nat → Nat} {f : Nat → Nat → Int32} {kf : Nat → Option Nat} {ks T : va_W} {s : SS} {bc : Nat} {br ka : Nat → Nat} (hc : CI s x n f kf ks bc br ka) (htr : ∀ e : Env, G.2.2.2.admits e → e.platform.stackTraces = false) {o : Nat} {gg : Nat → Int64} {a b c d g : Int32} : MW G m_L_key [(0, 16, 19, 19), (0, 16, 23, 31)] (xr 7 1 6) [.ref (q 0), .int a, .int b, .int c, .int d, .int g, .ref o] (wC G q x n f kf (ks ++ (o, .inl (G.2.1 2, 1, .inr (.inl gg))) :: T)) (LI G q n (0) o T (t_key s a b c d g) (sel (t_key s a b c d g) (o_key s a b c d g) s) (nI (s.kc + 1))) := by
  refine MW.of rfl (xn_le rfl) ?_
  refine (?_ : XX G m_L_key (xr 7 1 6) (xx_F G (LI G q n (0) o T (t_key s a b c d g) (sel (t_key s a b c d g) (o_key s a b c d g) s) (nI (s.kc + 1))) (xr 7 1 6)) 0 0 (wC G q x n f kf (ks ++ (o, .inl (G.2.1 2, 1, .inr (.inl gg))) :: T)) 0 [(0, .ref (q 0)), (1, .int a), (2, .int b), (3, .int c), (4, .int d), (5, .int g), (6, .ref o)] [])
  refine XX.aload dd_L_key_0 6 rfl ?_
  refine XX.iconst (v := nI 0) dd_L_key_2 (by decide) ?_
  refine XX.aload_n dd_L_key_3 rfl 0 rfl ?_
  refine XX.iload_n dd_L_key_4 rfl 1 rfl ?_
  refine XX.iload_n dd_L_key_5 rfl 2 rfl ?_
  refine XX.iload_n dd_L_key_6 rfl 3 rfl ?_
  refine XX.iload dd_L_key_7 4 rfl ?_
  refine XX.iload dd_L_key_9 5 rfl ?_
  refine XX.callVT (Mk := m_S_key) (q0 := 0) (ci := 0) (n := 5) (As := [.int a, .int b, .int c, .int d, .int g]) (rest := [.int (nI 0), .ref o]) (hh := [(0, 16, 19, 19), (0, 16, 23, 31)]) (c_S_key (T := (o, .inl (G.2.1 2, 1, .inr (.inl gg))) :: T) hc htr (a := a) (b := b) (c := c) (d := d) (g := g)) mt_S_key mi_S_key (xw_in mw_541 rfl) rfl dd_L_key_11 rfl rfl rfl ⟨xn_le rfl, xn_le rfl⟩ ⟨xn_le rfl, xn_le rfl⟩ (xn_le rfl) rfl mz_L_key.1 (by decide) (fun r w1 hp => ?_) (fun X w1 hE => ?_)
  · obtain ⟨ht, rfl, q2, x2, f2, kf2, ks2, bc2, br2, ka2, rfl, hq, hci⟩ := hp
    refine XX.i2l (v := (nI (s.kc + 1)).toInt64) dd_L_key_14 rfl ?_
    refine XX.perm (ws2 := (o, .inl (G.2.1 2, 1, .inr (.inl gg))) :: wC G q2 x2 n f2 kf2 (ks2 ++ T)) wC_out ?_
    refine XX.last (q0 := 0) (n := 1) (j := 0) (f := gg) (ws2 := (o, .inl (G.2.1 2, 1, .inr (.inl (vp_updL gg 0 (nI (s.kc + 1)).toInt64)))) :: wC G q2 x2 n f2 kf2 (ks2 ++ T)) dd_L_key_15 rfl (by decide) (by decide) rfl ?_
    refine XX.perm (ws2 := wC G q2 x2 n f2 kf2 (ks2 ++ (o, .inl (G.2.1 2, 1, .inr (.inl (vp_updL gg 0 (nI (s.kc + 1)).toInt64)))) :: T)) wC_out.symm ?_
    refine XX.goto (tgt := 27) dd_L_key_16 (by decide) ?_
    refine XX.iconst (v := nI 0) dd_L_key_27 (by decide) ?_
    exact XX.iret dd_L_key_28 rfl ⟨xn_le rfl, xn_le rfl⟩ ⟨by rw [ht], n, _, by omega, fun _ => rfl, ⟨q2, x2, f2, kf2, ks2, bc2, br2, ka2, rfl, hq, by rw [sel_0 ht]; exact hci⟩⟩
  · obtain ⟨h0, hX, rfl⟩ := hE
    have ht : t_key s a b c d g = 1 ∨ t_key s a b c d g = 2 := by unfold t_key at h0 ⊢; exact tb_2 h0
    rcases ht with ht | ht
    · have hX : X = "java/lang/IllegalArgumentException" := by rw [hX, ht]; rfl
      subst hX
      refine ⟨19, Or.inl ⟨0, 16, 19, [(0, 16, 23, 31)], rfl, by omega, by omega, by decide, xw_in mw_496 rfl⟩, fun a0 => ?_⟩
      refine XX.astore (lv2 := [(7, .ref a0), (0, .ref (q 0)), (1, .int a), (2, .int b), (3, .int c), (4, .int d), (5, .int g), (6, .ref o)]) dd_L_key_19 (by decide) rfl ?_
      refine XX.iconst (v := nI 1) dd_L_key_21 (by decide) ?_
      exact XX.iret dd_L_key_22 rfl ⟨xn_le rfl, xn_le rfl⟩ ⟨by rw [ht], n, gg, by omega, fun z => absurd z h0, by rw [sel_1 h0]; exact CW.of hc⟩
    · have hX : X = "java/lang/UnsupportedOperationException" := by rw [hX, ht]; rfl
      subst hX
      refine ⟨23, Or.inr ⟨rfl, 0, 16, 19, 19, 0, 16, 31, [], rfl, ⟨by omega, by omega, by omega, by omega⟩, ⟨by decide, by decide⟩, xw_in mw_496 rfl, xw_in mw_540 rfl⟩, fun a0 => ?_⟩
      refine XX.astore (lv2 := [(7, .ref a0), (0, .ref (q 0)), (1, .int a), (2, .int b), (3, .int c), (4, .int d), (5, .int g), (6, .ref o)]) dd_L_key_23 (by decide) rfl ?_
      refine XX.iconst (v := nI 2) dd_L_key_25 (by decide) ?_
      exact XX.iret dd_L_key_26 rfl ⟨xn_le rfl, xn_le rfl⟩ ⟨by rw [ht], n, gg, by omega, fun z => absurd z h0, by rw [sel_1 h0]; exact CW.of hc⟩

theorem mz_L_memory : xx_mw m_L_memory [(0, 6, 9, 19)] 3 := ⟨xw_in mw_570 rfl, xw_in mw_0 rfl, ⟨by decide, by decide⟩, by decide +kernel⟩
theorem ms_L_memory : Cond.static m_L_memory.1 ∈ xw_g := xw_in mw_569 rfl
set_option maxRecDepth 100000 in
set_option maxHeartbeats 4000000 in
theorem c_L_memory {G : XG} {q : Nat → Nat} {x : Nat → Int32} {n : Nat → Nat} {f : Nat → Nat → Int32} {kf : Nat → Option Nat} {ks T : va_W} {s : SS} {bc : Nat} {br ka : Nat → Nat} (hc : CI s x n f kf ks bc br ka) (htr : ∀ e : Env, G.2.2.2.admits e → e.platform.stackTraces = false) {a b : Int32} : MW G m_L_memory [(0, 6, 9, 19)] (xr 7 1 6) [.ref (q 0), .int a, .int b] (wC G q x n f kf (ks ++ T)) (LV G q n T (t_memory a b) (sel (t_memory a b) (o_memory s a b) s)) := by
  refine MW.of rfl (xn_le rfl) ?_
  refine (?_ : XX G m_L_memory (xr 7 1 6) (xx_F G (LV G q n T (t_memory a b) (sel (t_memory a b) (o_memory s a b) s)) (xr 7 1 6)) 0 0 (wC G q x n f kf (ks ++ T)) 0 [(0, .ref (q 0)), (1, .int a), (2, .int b)] [])
  refine XX.aload_n dd_L_memory_0 rfl 0 rfl ?_
  refine XX.iload_n dd_L_memory_1 rfl 1 rfl ?_
  refine XX.iload_n dd_L_memory_2 rfl 2 rfl ?_
  refine XX.callVT (Mk := m_S_memory) (q0 := 0) (ci := 0) (n := 2) (As := [.int a, .int b]) (rest := []) (hh := [(0, 6, 9, 19)]) (c_S_memory (T := T) hc htr (a := a) (b := b)) mt_S_memory mi_S_memory (xw_in mw_571 rfl) rfl dd_L_memory_3 rfl rfl rfl ⟨xn_le rfl, xn_le rfl⟩ ⟨xn_le rfl, xn_le rfl⟩ (xn_le rfl) rfl mz_L_memory.1 (by decide) (fun r w1 hp => ?_) (fun X w1 hE => ?_)
  · obtain ⟨ht, rfl, q2, x2, f2, kf2, ks2, bc2, br2, ka2, rfl, hq, hci⟩ := hp
    refine XX.goto (tgt := 12) dd_L_memory_6 (by decide) ?_
    refine XX.iconst (v := nI 0) dd_L_memory_12 (by decide) ?_
    exact XX.iret dd_L_memory_13 rfl ⟨xn_le rfl, xn_le rfl⟩ ⟨by rw [ht], ⟨q2, x2, f2, kf2, ks2, bc2, br2, ka2, rfl, hq, by rw [sel_0 ht]; exact hci⟩⟩
  · obtain ⟨h0, hX, rfl⟩ := hE
    have ht : t_memory a b = 1 := by unfold t_memory at h0 ⊢; exact tb_1 h0
    subst hX
    refine ⟨9, Or.inl ⟨0, 6, 19, [], rfl, by omega, by omega, by decide, xw_in mw_496 rfl⟩, fun a0 => ?_⟩
    refine XX.astore_n (lv2 := [(3, .ref a0), (0, .ref (q 0)), (1, .int a), (2, .int b)]) dd_L_memory_9 rfl (by decide) rfl ?_
    refine XX.iconst (v := nI 1) dd_L_memory_10 (by decide) ?_
    exact XX.iret dd_L_memory_11 rfl ⟨xn_le rfl, xn_le rfl⟩ ⟨by rw [ht], by rw [sel_1 h0]; exact CW.of hc⟩

theorem mz_L_place : xx_mw m_L_place [(0, 12, 15, 41)] 5 := ⟨xw_in mw_578 rfl, xw_in mw_0 rfl, ⟨by decide, by decide⟩, by decide +kernel⟩
theorem ms_L_place : Cond.static m_L_place.1 ∈ xw_g := xw_in mw_577 rfl
set_option maxRecDepth 100000 in
set_option maxHeartbeats 4000000 in
theorem c_L_place {G : XG} {q : Nat → Nat} {x : Nat → Int32} {n : Nat → Nat} {f : Nat → Nat → Int32} {kf : Nat → Option Nat} {ks T : va_W} {s : SS} {bc : Nat} {br ka : Nat → Nat} (hc : CI s x n f kf ks bc br ka) (htr : ∀ e : Env, G.2.2.2.admits e → e.platform.stackTraces = false) {o : Nat} {gg : Nat → Int64} {a b : Int32} {e : Bool} : MW G m_L_place [(0, 12, 15, 41)] (xr 7 1 6) [.ref (q 0), .int a, .int b, .int (bI e), .ref o] (wC G q x n f kf (ks ++ (o, .inl (G.2.1 2, 1, .inr (.inl gg))) :: T)) (LI G q n (0) o T (t_place s a b) (sel (t_place s a b) (s) s) (v_place s a b e)) := by
  refine MW.of rfl (xn_le rfl) ?_
  refine (?_ : XX G m_L_place (xr 7 1 6) (xx_F G (LI G q n (0) o T (t_place s a b) (sel (t_place s a b) (s) s) (v_place s a b e)) (xr 7 1 6)) 0 0 (wC G q x n f kf (ks ++ (o, .inl (G.2.1 2, 1, .inr (.inl gg))) :: T)) 0 [(0, .ref (q 0)), (1, .int a), (2, .int b), (3, .int (bI e)), (4, .ref o)] [])
  refine XX.aload dd_L_place_0 4 rfl ?_
  refine XX.iconst (v := nI 0) dd_L_place_2 (by decide) ?_
  refine XX.aload_n dd_L_place_3 rfl 0 rfl ?_
  refine XX.iload_n dd_L_place_4 rfl 1 rfl ?_
  refine XX.iload_n dd_L_place_5 rfl 2 rfl ?_
  refine XX.iload_n dd_L_place_6 rfl 3 rfl ?_
  refine XX.callVT (Mk := m_S_place) (q0 := 0) (ci := 0) (n := 3) (As := [.int a, .int b, .int (bI e)]) (rest := [.int (nI 0), .ref o]) (hh := [(0, 12, 15, 41)]) (c_S_place (T := (o, .inl (G.2.1 2, 1, .inr (.inl gg))) :: T) hc htr (a := a) (b := b) (e := e)) mt_S_place mi_S_place (xw_in mw_580 rfl) rfl dd_L_place_7 rfl rfl rfl ⟨xn_le rfl, xn_le rfl⟩ ⟨xn_le rfl, xn_le rfl⟩ (xn_le rfl) rfl mz_L_place.1 (by decide) (fun r w1 hp => ?_) (fun X w1 hE => ?_)
  · obtain ⟨ht, rfl, q2, x2, f2, kf2, ks2, bc2, br2, ka2, rfl, hq, hci⟩ := hp
    refine XX.i2l (v := (v_place s a b e).toInt64) dd_L_place_10 rfl ?_
    refine XX.perm (ws2 := (o, .inl (G.2.1 2, 1, .inr (.inl gg))) :: wC G q2 x2 n f2 kf2 (ks2 ++ T)) wC_out ?_
    refine XX.last (q0 := 0) (n := 1) (j := 0) (f := gg) (ws2 := (o, .inl (G.2.1 2, 1, .inr (.inl (vp_updL gg 0 (v_place s a b e).toInt64)))) :: wC G q2 x2 n f2 kf2 (ks2 ++ T)) dd_L_place_11 rfl (by decide) (by decide) rfl ?_
    refine XX.perm (ws2 := wC G q2 x2 n f2 kf2 (ks2 ++ (o, .inl (G.2.1 2, 1, .inr (.inl (vp_updL gg 0 (v_place s a b e).toInt64)))) :: T)) wC_out.symm ?_
    refine XX.goto (tgt := 19) dd_L_place_12 (by decide) ?_
    refine XX.iconst (v := nI 0) dd_L_place_19 (by decide) ?_
    exact XX.iret dd_L_place_20 rfl ⟨xn_le rfl, xn_le rfl⟩ ⟨by rw [ht], n, _, by omega, fun _ => rfl, ⟨q2, x2, f2, kf2, ks2, bc2, br2, ka2, rfl, hq, by rw [sel_0 ht]; exact hci⟩⟩
  · obtain ⟨h0, hX, rfl⟩ := hE
    have ht : t_place s a b = 1 := by unfold t_place at h0 ⊢; exact tb_1 h0
    subst hX
    refine ⟨15, Or.inl ⟨0, 12, 41, [], rfl, by omega, by omega, by decide, xw_in mw_579 rfl⟩, fun a0 => ?_⟩
    refine XX.astore (lv2 := [(5, .ref a0), (0, .ref (q 0)), (1, .int a), (2, .int b), (3, .int (bI e)), (4, .ref o)]) dd_L_place_15 (by decide) rfl ?_
    refine XX.iconst (v := nI 1) dd_L_place_17 (by decide) ?_
    exact XX.iret dd_L_place_18 rfl ⟨xn_le rfl, xn_le rfl⟩ ⟨by rw [ht], n, gg, by omega, fun z => absurd z h0, by rw [sel_1 h0]; exact CW.of hc⟩

theorem mz_L_compare : xx_mw m_L_compare [(0, 10, 13, 41)] 4 := ⟨xw_in mw_611 rfl, xw_in mw_0 rfl, ⟨by decide, by decide⟩, by decide +kernel⟩
theorem ms_L_compare : Cond.static m_L_compare.1 ∈ xw_g := xw_in mw_610 rfl
set_option maxRecDepth 100000 in
set_option maxHeartbeats 4000000 in
theorem c_L_compare {G : XG} {q : Nat → Nat} {x : Nat → Int32} {n : Nat → Nat} {f : Nat → Nat → Int32} {kf : Nat → Option Nat} {ks T : va_W} {s : SS} {bc : Nat} {br ka : Nat → Nat} (hc : CI s x n f kf ks bc br ka) (htr : ∀ e : Env, G.2.2.2.admits e → e.platform.stackTraces = false) {o : Nat} {gg : Nat → Int64} {a b : Int32} : MW G m_L_compare [(0, 10, 13, 41)] (xr 7 1 6) [.ref (q 0), .int a, .int b, .ref o] (wC G q x n f kf (ks ++ (o, .inl (G.2.1 2, 1, .inr (.inl gg))) :: T)) (LI G q n (0) o T (t_compare s a b) (sel (t_compare s a b) (s) s) (v_compare s a b)) := by
  refine MW.of rfl (xn_le rfl) ?_
  refine (?_ : XX G m_L_compare (xr 7 1 6) (xx_F G (LI G q n (0) o T (t_compare s a b) (sel (t_compare s a b) (s) s) (v_compare s a b)) (xr 7 1 6)) 0 0 (wC G q x n f kf (ks ++ (o, .inl (G.2.1 2, 1, .inr (.inl gg))) :: T)) 0 [(0, .ref (q 0)), (1, .int a), (2, .int b), (3, .ref o)] [])
  refine XX.aload_n dd_L_compare_0 rfl 3 rfl ?_
  refine XX.iconst (v := nI 0) dd_L_compare_1 (by decide) ?_
  refine XX.aload_n dd_L_compare_2 rfl 0 rfl ?_
  refine XX.iload_n dd_L_compare_3 rfl 1 rfl ?_
  refine XX.iload_n dd_L_compare_4 rfl 2 rfl ?_
  refine XX.callVT (Mk := m_S_compare) (q0 := 0) (ci := 0) (n := 2) (As := [.int a, .int b]) (rest := [.int (nI 0), .ref o]) (hh := [(0, 10, 13, 41)]) (c_S_compare (T := (o, .inl (G.2.1 2, 1, .inr (.inl gg))) :: T) hc htr (a := a) (b := b)) mt_S_compare mi_S_compare (xw_in mw_612 rfl) rfl dd_L_compare_5 rfl rfl rfl ⟨xn_le rfl, xn_le rfl⟩ ⟨xn_le rfl, xn_le rfl⟩ (xn_le rfl) rfl mz_L_compare.1 (by decide) (fun r w1 hp => ?_) (fun X w1 hE => ?_)
  · obtain ⟨ht, rfl, q2, x2, f2, kf2, ks2, bc2, br2, ka2, rfl, hq, hci⟩ := hp
    refine XX.i2l (v := (v_compare s a b).toInt64) dd_L_compare_8 rfl ?_
    refine XX.perm (ws2 := (o, .inl (G.2.1 2, 1, .inr (.inl gg))) :: wC G q2 x2 n f2 kf2 (ks2 ++ T)) wC_out ?_
    refine XX.last (q0 := 0) (n := 1) (j := 0) (f := gg) (ws2 := (o, .inl (G.2.1 2, 1, .inr (.inl (vp_updL gg 0 (v_compare s a b).toInt64)))) :: wC G q2 x2 n f2 kf2 (ks2 ++ T)) dd_L_compare_9 rfl (by decide) (by decide) rfl ?_
    refine XX.perm (ws2 := wC G q2 x2 n f2 kf2 (ks2 ++ (o, .inl (G.2.1 2, 1, .inr (.inl (vp_updL gg 0 (v_compare s a b).toInt64)))) :: T)) wC_out.symm ?_
    refine XX.goto (tgt := 17) dd_L_compare_10 (by decide) ?_
    refine XX.iconst (v := nI 0) dd_L_compare_17 (by decide) ?_
    exact XX.iret dd_L_compare_18 rfl ⟨xn_le rfl, xn_le rfl⟩ ⟨by rw [ht], n, _, by omega, fun _ => rfl, ⟨q2, x2, f2, kf2, ks2, bc2, br2, ka2, rfl, hq, by rw [sel_0 ht]; exact hci⟩⟩
  · obtain ⟨h0, hX, rfl⟩ := hE
    have ht : t_compare s a b = 1 := by unfold t_compare at h0 ⊢; exact tb_1 h0
    subst hX
    refine ⟨13, Or.inl ⟨0, 10, 41, [], rfl, by omega, by omega, by decide, xw_in mw_579 rfl⟩, fun a0 => ?_⟩
    refine XX.astore (lv2 := [(4, .ref a0), (0, .ref (q 0)), (1, .int a), (2, .int b), (3, .ref o)]) dd_L_compare_13 (by decide) rfl ?_
    refine XX.iconst (v := nI 1) dd_L_compare_15 (by decide) ?_
    exact XX.iret dd_L_compare_16 rfl ⟨xn_le rfl, xn_le rfl⟩ ⟨by rw [ht], n, gg, by omega, fun z => absurd z h0, by rw [sel_1 h0]; exact CW.of hc⟩

theorem mz_L_sort : xx_mw m_L_sort [(0, 8, 11, 31)] 2 := ⟨xw_in mw_620 rfl, xw_in mw_0 rfl, ⟨by decide, by decide⟩, by decide +kernel⟩
theorem ms_L_sort : Cond.static m_L_sort.1 ∈ xw_g := xw_in mw_619 rfl
set_option maxRecDepth 100000 in
set_option maxHeartbeats 4000000 in
theorem c_L_sort {G : XG} {q : Nat → Nat} {x : Nat → Int32} {n : Nat → Nat} {f : Nat → Nat → Int32} {kf : Nat → Option Nat} {ks T : va_W} {s : SS} {bc : Nat} {br ka : Nat → Nat} (hc : CI s x n f kf ks bc br ka) (htr : ∀ e : Env, G.2.2.2.admits e → e.platform.stackTraces = false) {o : Nat} {gg : Nat → Int64}  : MW G m_L_sort [(0, 8, 11, 31)] (xr 8 1 6) [.ref (q 0), .ref o] (wC G q x n f kf (ks ++ (o, .inl (G.2.1 2, 1, .inr (.inl gg))) :: T)) (LI G q n (0) o T (t_sort s) (sel (t_sort s) (o_sort s) s) (nI (o_sort s).rc)) := by
  refine MW.of rfl (xn_le rfl) ?_
  refine (?_ : XX G m_L_sort (xr 8 1 6) (xx_F G (LI G q n (0) o T (t_sort s) (sel (t_sort s) (o_sort s) s) (nI (o_sort s).rc)) (xr 8 1 6)) 0 0 (wC G q x n f kf (ks ++ (o, .inl (G.2.1 2, 1, .inr (.inl gg))) :: T)) 0 [(0, .ref (q 0)), (1, .ref o)] [])
  refine XX.aload_n dd_L_sort_0 rfl 1 rfl ?_
  refine XX.iconst (v := nI 0) dd_L_sort_1 (by decide) ?_
  refine XX.aload_n dd_L_sort_2 rfl 0 rfl ?_
  refine XX.callVT (Mk := m_S_sort) (q0 := 0) (ci := 0) (n := 0) (As := []) (rest := [.int (nI 0), .ref o]) (hh := [(0, 8, 11, 31)]) (c_S_sort (T := (o, .inl (G.2.1 2, 1, .inr (.inl gg))) :: T) hc htr) mt_S_sort mi_S_sort (xw_in mw_621 rfl) rfl dd_L_sort_3 rfl rfl rfl ⟨xn_le rfl, xn_le rfl⟩ ⟨xn_le rfl, xn_le rfl⟩ (xn_le rfl) rfl mz_L_sort.1 (by decide) (fun r w1 hp => ?_) (fun X w1 hE => ?_)
  · obtain ⟨ht, rfl, q2, x2, f2, kf2, ks2, bc2, br2, ka2, rfl, hq, hci⟩ := hp
    refine XX.i2l (v := (nI (o_sort s).rc).toInt64) dd_L_sort_6 rfl ?_
    refine XX.perm (ws2 := (o, .inl (G.2.1 2, 1, .inr (.inl gg))) :: wC G q2 x2 n f2 kf2 (ks2 ++ T)) wC_out ?_
    refine XX.last (q0 := 0) (n := 1) (j := 0) (f := gg) (ws2 := (o, .inl (G.2.1 2, 1, .inr (.inl (vp_updL gg 0 (nI (o_sort s).rc).toInt64)))) :: wC G q2 x2 n f2 kf2 (ks2 ++ T)) dd_L_sort_7 rfl (by decide) (by decide) rfl ?_
    refine XX.perm (ws2 := wC G q2 x2 n f2 kf2 (ks2 ++ (o, .inl (G.2.1 2, 1, .inr (.inl (vp_updL gg 0 (nI (o_sort s).rc).toInt64)))) :: T)) wC_out.symm ?_
    refine XX.goto (tgt := 14) dd_L_sort_8 (by decide) ?_
    refine XX.iconst (v := nI 0) dd_L_sort_14 (by decide) ?_
    exact XX.iret dd_L_sort_15 rfl ⟨xn_le rfl, xn_le rfl⟩ ⟨by rw [ht], n, _, by omega, fun _ => rfl, ⟨q2, x2, f2, kf2, ks2, bc2, br2, ka2, rfl, hq, by rw [sel_0 ht]; exact hci⟩⟩
  · obtain ⟨h0, hX, rfl⟩ := hE
    have ht : t_sort s = 1 := by unfold t_sort at h0 ⊢; exact tb_1 h0
    subst hX
    refine ⟨11, Or.inl ⟨0, 8, 31, [], rfl, by omega, by omega, by decide, xw_in mw_540 rfl⟩, fun a0 => ?_⟩
    refine XX.astore_n (lv2 := [(2, .ref a0), (0, .ref (q 0)), (1, .ref o)]) dd_L_sort_11 rfl (by decide) rfl ?_
    refine XX.iconst (v := nI 1) dd_L_sort_12 (by decide) ?_
    exact XX.iret dd_L_sort_13 rfl ⟨xn_le rfl, xn_le rfl⟩ ⟨by rw [ht], n, gg, by omega, fun z => absurd z h0, by rw [sel_1 h0]; exact CW.of hc⟩

theorem mz_L_merge : xx_mw m_L_merge [(0, 9, 12, 19), (0, 9, 15, 31)] 3 := ⟨xw_in mw_676 rfl, xw_in mw_0 rfl, ⟨by decide, by decide⟩, by decide +kernel⟩
theorem ms_L_merge : Cond.static m_L_merge.1 ∈ xw_g := xw_in mw_675 rfl
set_option maxRecDepth 100000 in
set_option maxHeartbeats 4000000 in
theorem c_L_merge {G : XG} {q : Nat → Nat} {x : Nat → Int32} {n : Nat → Nat} {f : Nat → Nat → Int32} {kf : Nat → Option Nat} {ks T : va_W} {s : SS} {bc : Nat} {br ka : Nat → Nat} (hc : CI s x n f kf ks bc br ka) (htr : ∀ e : Env, G.2.2.2.admits e → e.platform.stackTraces = false) {o : Nat} {gg : Nat → Int64} {a : Int32} : MW G m_L_merge [(0, 9, 12, 19), (0, 9, 15, 31)] (xr 8 1 6) [.ref (q 0), .int a, .ref o] (wC G q x n f kf (ks ++ (o, .inl (G.2.1 2, 1, .inr (.inl gg))) :: T)) (LI G q n (0) o T (t_merge s a) (sel (t_merge s a) (q_merge s a) s) (nI (q_merge s a).rc)) := by
  refine MW.of rfl (xn_le rfl) ?_
  refine (?_ : XX G m_L_merge (xr 8 1 6) (xx_F G (LI G q n (0) o T (t_merge s a) (sel (t_merge s a) (q_merge s a) s) (nI (q_merge s a).rc)) (xr 8 1 6)) 0 0 (wC G q x n f kf (ks ++ (o, .inl (G.2.1 2, 1, .inr (.inl gg))) :: T)) 0 [(0, .ref (q 0)), (1, .int a), (2, .ref o)] [])
  refine XX.aload_n dd_L_merge_0 rfl 2 rfl ?_
  refine XX.iconst (v := nI 0) dd_L_merge_1 (by decide) ?_
  refine XX.aload_n dd_L_merge_2 rfl 0 rfl ?_
  refine XX.iload_n dd_L_merge_3 rfl 1 rfl ?_
  refine XX.callVT (Mk := m_S_merge) (q0 := 0) (ci := 0) (n := 1) (As := [.int a]) (rest := [.int (nI 0), .ref o]) (hh := [(0, 9, 12, 19), (0, 9, 15, 31)]) (c_S_merge (T := (o, .inl (G.2.1 2, 1, .inr (.inl gg))) :: T) hc htr (a := a)) mt_S_merge mi_S_merge (xw_in mw_677 rfl) rfl dd_L_merge_4 rfl rfl rfl ⟨xn_le rfl, xn_le rfl⟩ ⟨xn_le rfl, xn_le rfl⟩ (xn_le rfl) rfl mz_L_merge.1 (by decide) (fun r w1 hp => ?_) (fun X w1 hE => ?_)
  · obtain ⟨ht, rfl, q2, x2, f2, kf2, ks2, bc2, br2, ka2, rfl, hq, hci⟩ := hp
    refine XX.i2l (v := (nI (q_merge s a).rc).toInt64) dd_L_merge_7 rfl ?_
    refine XX.perm (ws2 := (o, .inl (G.2.1 2, 1, .inr (.inl gg))) :: wC G q2 x2 n f2 kf2 (ks2 ++ T)) wC_out ?_
    refine XX.last (q0 := 0) (n := 1) (j := 0) (f := gg) (ws2 := (o, .inl (G.2.1 2, 1, .inr (.inl (vp_updL gg 0 (nI (q_merge s a).rc).toInt64)))) :: wC G q2 x2 n f2 kf2 (ks2 ++ T)) dd_L_merge_8 rfl (by decide) (by decide) rfl ?_
    refine XX.perm (ws2 := wC G q2 x2 n f2 kf2 (ks2 ++ (o, .inl (G.2.1 2, 1, .inr (.inl (vp_updL gg 0 (nI (q_merge s a).rc).toInt64)))) :: T)) wC_out.symm ?_
    refine XX.goto (tgt := 18) dd_L_merge_9 (by decide) ?_
    refine XX.iconst (v := nI 0) dd_L_merge_18 (by decide) ?_
    exact XX.iret dd_L_merge_19 rfl ⟨xn_le rfl, xn_le rfl⟩ ⟨by rw [ht], n, _, by omega, fun _ => rfl, ⟨q2, x2, f2, kf2, ks2, bc2, br2, ka2, rfl, hq, by rw [sel_0 ht]; exact hci⟩⟩
  · obtain ⟨h0, hX, rfl⟩ := hE
    have ht : t_merge s a = 1 ∨ t_merge s a = 2 := by unfold t_merge at h0 ⊢; exact tb_2 h0
    rcases ht with ht | ht
    · have hX : X = "java/lang/IllegalArgumentException" := by rw [hX, ht]; rfl
      subst hX
      refine ⟨12, Or.inl ⟨0, 9, 19, [(0, 9, 15, 31)], rfl, by omega, by omega, by decide, xw_in mw_496 rfl⟩, fun a0 => ?_⟩
      refine XX.astore_n (lv2 := [(3, .ref a0), (0, .ref (q 0)), (1, .int a), (2, .ref o)]) dd_L_merge_12 rfl (by decide) rfl ?_
      refine XX.iconst (v := nI 1) dd_L_merge_13 (by decide) ?_
      exact XX.iret dd_L_merge_14 rfl ⟨xn_le rfl, xn_le rfl⟩ ⟨by rw [ht], n, gg, by omega, fun z => absurd z h0, by rw [sel_1 h0]; exact CW.of hc⟩
    · have hX : X = "java/lang/UnsupportedOperationException" := by rw [hX, ht]; rfl
      subst hX
      refine ⟨15, Or.inr ⟨rfl, 0, 9, 12, 19, 0, 9, 31, [], rfl, ⟨by omega, by omega, by omega, by omega⟩, ⟨by decide, by decide⟩, xw_in mw_496 rfl, xw_in mw_540 rfl⟩, fun a0 => ?_⟩
      refine XX.astore_n (lv2 := [(3, .ref a0), (0, .ref (q 0)), (1, .int a), (2, .ref o)]) dd_L_merge_15 rfl (by decide) rfl ?_
      refine XX.iconst (v := nI 2) dd_L_merge_16 (by decide) ?_
      exact XX.iret dd_L_merge_17 rfl ⟨xn_le rfl, xn_le rfl⟩ ⟨by rw [ht], n, gg, by omega, fun z => absurd z h0, by rw [sel_1 h0]; exact CW.of hc⟩

theorem mz_L_about : xx_mw m_L_about [(0, 9, 12, 19)] 3 := ⟨xw_in mw_688 rfl, xw_in mw_0 rfl, ⟨by decide, by decide⟩, by decide +kernel⟩
theorem ms_L_about : Cond.static m_L_about.1 ∈ xw_g := xw_in mw_687 rfl
set_option maxRecDepth 100000 in
set_option maxHeartbeats 4000000 in
theorem c_L_about {G : XG} {q : Nat → Nat} {x : Nat → Int32} {n : Nat → Nat} {f : Nat → Nat → Int32} {kf : Nat → Option Nat} {ks T : va_W} {s : SS} {bc : Nat} {br ka : Nat → Nat} (hc : CI s x n f kf ks bc br ka) (htr : ∀ e : Env, G.2.2.2.admits e → e.platform.stackTraces = false) {o : Nat} {gg : Nat → Int64} {a : Int32} : MW G m_L_about [(0, 9, 12, 19)] (xr 7 1 6) [.ref (q 0), .int a, .ref o] (wC G q x n f kf (ks ++ (o, .inl (G.2.1 2, 1, .inr (.inl gg))) :: T)) (LI G q n (0) o T (t_about a) (sel (t_about a) (s) s) (v_about s a)) := by
  refine MW.of rfl (xn_le rfl) ?_
  refine (?_ : XX G m_L_about (xr 7 1 6) (xx_F G (LI G q n (0) o T (t_about a) (sel (t_about a) (s) s) (v_about s a)) (xr 7 1 6)) 0 0 (wC G q x n f kf (ks ++ (o, .inl (G.2.1 2, 1, .inr (.inl gg))) :: T)) 0 [(0, .ref (q 0)), (1, .int a), (2, .ref o)] [])
  refine XX.aload_n dd_L_about_0 rfl 2 rfl ?_
  refine XX.iconst (v := nI 0) dd_L_about_1 (by decide) ?_
  refine XX.aload_n dd_L_about_2 rfl 0 rfl ?_
  refine XX.iload_n dd_L_about_3 rfl 1 rfl ?_
  refine XX.callVT (Mk := m_S_about) (q0 := 0) (ci := 0) (n := 1) (As := [.int a]) (rest := [.int (nI 0), .ref o]) (hh := [(0, 9, 12, 19)]) (c_S_about (T := (o, .inl (G.2.1 2, 1, .inr (.inl gg))) :: T) hc htr (a := a)) mt_S_about mi_S_about (xw_in mw_689 rfl) rfl dd_L_about_4 rfl rfl rfl ⟨xn_le rfl, xn_le rfl⟩ ⟨xn_le rfl, xn_le rfl⟩ (xn_le rfl) rfl mz_L_about.1 (by decide) (fun r w1 hp => ?_) (fun X w1 hE => ?_)
  · obtain ⟨ht, rfl, q2, x2, f2, kf2, ks2, bc2, br2, ka2, rfl, hq, hci⟩ := hp
    refine XX.i2l (v := (v_about s a).toInt64) dd_L_about_7 rfl ?_
    refine XX.perm (ws2 := (o, .inl (G.2.1 2, 1, .inr (.inl gg))) :: wC G q2 x2 n f2 kf2 (ks2 ++ T)) wC_out ?_
    refine XX.last (q0 := 0) (n := 1) (j := 0) (f := gg) (ws2 := (o, .inl (G.2.1 2, 1, .inr (.inl (vp_updL gg 0 (v_about s a).toInt64)))) :: wC G q2 x2 n f2 kf2 (ks2 ++ T)) dd_L_about_8 rfl (by decide) (by decide) rfl ?_
    refine XX.perm (ws2 := wC G q2 x2 n f2 kf2 (ks2 ++ (o, .inl (G.2.1 2, 1, .inr (.inl (vp_updL gg 0 (v_about s a).toInt64)))) :: T)) wC_out.symm ?_
    refine XX.goto (tgt := 15) dd_L_about_9 (by decide) ?_
    refine XX.iconst (v := nI 0) dd_L_about_15 (by decide) ?_
    exact XX.iret dd_L_about_16 rfl ⟨xn_le rfl, xn_le rfl⟩ ⟨by rw [ht], n, _, by omega, fun _ => rfl, ⟨q2, x2, f2, kf2, ks2, bc2, br2, ka2, rfl, hq, by rw [sel_0 ht]; exact hci⟩⟩
  · obtain ⟨h0, hX, rfl⟩ := hE
    have ht : t_about a = 1 := by unfold t_about at h0 ⊢; exact tb_1 h0
    subst hX
    refine ⟨12, Or.inl ⟨0, 9, 19, [], rfl, by omega, by omega, by decide, xw_in mw_496 rfl⟩, fun a0 => ?_⟩
    refine XX.astore_n (lv2 := [(3, .ref a0), (0, .ref (q 0)), (1, .int a), (2, .ref o)]) dd_L_about_12 rfl (by decide) rfl ?_
    refine XX.iconst (v := nI 1) dd_L_about_13 (by decide) ?_
    exact XX.iret dd_L_about_14 rfl ⟨xn_le rfl, xn_le rfl⟩ ⟨by rw [ht], n, gg, by omega, fun z => absurd z h0, by rw [sel_1 h0]; exact CW.of hc⟩

