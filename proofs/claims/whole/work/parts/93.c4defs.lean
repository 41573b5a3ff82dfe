/-! feed, sort and merge of the class: what their calls leave, with rows told apart by number -/
theorem fd_4 {B : Nat → Int32} {len : Nat} {w : Nat → Int32} {v : Int32} {m : Nat} (hw : ∀ k, k < 4 → w (m + k) = v) (hm : m % 4 = 0) : fd B len w (m + 4) = ap_ (fd B len w m) (len + m) v 4 := by
  have hb : ∀ k, k < 4 → fd_b w (m + k) = ap_b v k := by
    intro k hk
    unfold fd_b ap_b
    rw [hw k hk, show (m + k) % 4 = k % 4 by omega]
  show fd B len w (m + 3 + 1) = _
  rw [fd_s, show m + 3 = m + 2 + 1 from rfl, fd_s, show m + 2 = m + 1 + 1 from rfl, fd_s, fd_s, ap_s, ap_s, ap_s, ap_s, show m + 1 + 1 = m + 2 from rfl, show m + 2 + 1 = m + 3 from rfl, hb 1 (by omega), hb 2 (by omega), hb 3 (by omega), ← hb 0 (by omega)]
  rfl
theorem fd_20 (B : Nat → Int32) (len : Nat) (a b c d e : Int32) : fd B len (fd_w a b c d e) 20 = ap_ (ap_ (ap_ (ap_ (ap_ B len a 4) (len + 4) b 4) (len + 4 + 4) c 4) (len + 4 + 4 + 4) d 4) (len + 4 + 4 + 4 + 4) e 4 := by
  have w0 : ∀ k, k < 4 → fd_w a b c d e (0 + k) = a := fun k hk => by unfold fd_w; rw [if_pos (by omega)]
  have w1 : ∀ k, k < 4 → fd_w a b c d e (4 + k) = b := fun k hk => by unfold fd_w; rw [if_neg (by omega), if_pos (by omega)]
  have w2 : ∀ k, k < 4 → fd_w a b c d e (8 + k) = c := fun k hk => by unfold fd_w; rw [if_neg (by omega), if_neg (by omega), if_pos (by omega)]
  have w3 : ∀ k, k < 4 → fd_w a b c d e (12 + k) = d := fun k hk => by unfold fd_w; rw [if_neg (by omega), if_neg (by omega), if_neg (by omega), if_pos (by omega)]
  have w4 : ∀ k, k < 4 → fd_w a b c d e (16 + k) = e := fun k hk => by unfold fd_w; rw [if_neg (by omega), if_neg (by omega), if_neg (by omega), if_neg (by omega)]
  have e0 := fd_4 (B := B) (len := len) w0 rfl
  have e1 := fd_4 (B := B) (len := len) w1 rfl
  have e2 := fd_4 (B := B) (len := len) w2 rfl
  have e3 := fd_4 (B := B) (len := len) w3 rfl
  have e4 := fd_4 (B := B) (len := len) w4 rfl
  rw [show (20 : Nat) = 16 + 4 from rfl, e4, show (16 : Nat) = 12 + 4 from rfl, e3, show (12 : Nat) = 8 + 4 from rfl, e2, show (8 : Nat) = 4 + 4 from rfl, e1, show (4 : Nat) = 0 + 4 from rfl, e0]
  rfl
/-- the text and its line ends -/
abbrev FI (x : Nat → Int32) (n : Nat → Nat) (f : Nat → Nat → Int32) (len bc : Nat) (br : Nat → Nat) (B : Nat → Int32) : Prop := txt x n f len bc br B ∧ brk B len bc br ∧ (∀ i, fits .byte (.int (f 0 i)) = true) ∧ (4 ≤ n 0 ∧ n 0 ≤ 40000 ∧ 4 ≤ n 1 ∧ n 1 ≤ 40000)
theorem gn_ge (len bc : Nat) (n : Nat → Nat) : n 0 ≤ gn len bc n 0 ∧ n 1 ≤ gn len bc n 1 := ⟨gr_ge len (n 0), gr_ge bc (n 1)⟩
section
variable {G : XG} {q : Nat → Nat} {x : Nat → Int32} {n : Nat → Nat} {f : Nat → Nat → Int32} {kf : Nat → Option Nat} {kl : va_W}
theorem c_app {len bc : Nat} {br : Nat → Nat} {B : Nat → Int32} (h : FI x n f len bc br B) (hle : len + 4 ≤ 20000) {w : Int32} : MM G m_T_append (xr 3 2 (2 * (gn len bc n 0 - n 0) + 2 * (gn len bc n 1 - n 1))) [.ref (q 1), .int w] (wC G q x n f kf kl) (fun r v => r = none ∧ ∃ (q2 : Nat → Nat) (x2 : Nat → Int32) (f2 : Nat → Nat → Int32) (br2 : Nat → Nat), v = wC G q2 x2 (gn len bc n) f2 kf kl ∧ q2 0 = q 0 ∧ (∀ i, i ≠ 3 → i ≠ 4 → x2 i = x i) ∧ (∀ j, 2 ≤ j → f2 j = f j) ∧ FI x2 (gn len bc n) f2 (len + 4) (bc + nbw w 4) br2 (ap_ B len w 4)) := by
  obtain ⟨h1, h2, h3, h4⟩ := h
  refine MM.mono (c_T_append h1 h3 h4 hle h2 (w := w)) (fun r v hp => ?_)
  obtain ⟨a1, q2, x2, f2, br2, a2, a3, a4, a5, a6, a7, a8⟩ := hp
  have hb := brk_bc h2
  refine ⟨a1, q2, x2, f2, br2, a2, a3 0 (by omega) (by omega), a4, a5, a7, a8, a6, Nat.le_trans h4.1 (gr_ge len (n 0)), gr_le hle h4.2.1, Nat.le_trans h4.2.2.1 (gr_ge bc (n 1)), gr_le (by omega) h4.2.2.2⟩
variable {s : SS} {bc : Nat} {br ka : Nat → Nat}
theorem crank2 (h : CJ s x n f kf kl bc br ka) (hl : lnc s.B s.len ≤ 1000) : MM G m_R_rankFirst (xr 5 0 0) [.ref (q 10), .int (nI (lnc s.B s.len))] (wC G q x n f kf kl) (fun r w => r = none ∧ ∃ (x2 : Nat → Int32) (f2 : Nat → Nat → Int32), w = wC G q x2 n f2 kf kl ∧ agN x x2 ∧ (∀ j, j ≠ 2 → j ≠ 3 → f2 j = f j) ∧ (∀ i, i < lnc s.B s.len → f2 3 i = nI (rk (sa_o s) (lnc s.B s.len) i)) ∧ ∀ l, l < lnc s.B s.len → f2 2 l = nI (rr_ (sa_o s) (lnc s.B s.len) l)) := by
  refine MM.mono (crank h hl) (fun r w hp => ?_)
  obtain ⟨h1, x2, g3, g2, h2, a1, a2, a3⟩ := hp
  exact ⟨h1, x2, _, h2, a1, fun j z2 z3 => by unfold fup; rw [if_neg z2, if_neg z3], fun i hi => a2 i hi, fun l hl => a3 l hl⟩
theorem cruns2 {cnt mem : Nat} {rr : Nat → Nat} (hm : 2 ≤ mem) (hm2 : mem ≤ 500) (hc : cnt ≤ 1000) (hrr : ∀ i, i < cnt → f 2 i = nI (rr i) ∧ rr i < 1000) : MM G m_U_makeRuns (xr 2 0 0) [.ref (q 15), .int (nI cnt), .int (nI mem)] (wC G q x n f kf kl) (fun r w => r = none ∧ ∃ (x2 : Nat → Int32) (f2 : Nat → Nat → Int32), w = wC G q x2 n f2 kf kl ∧ agU x x2 ∧ (∀ j, j ≠ 4 → j ≠ 5 → f2 j = f j) ∧ x2 21 = nI (mr rr cnt (min cnt mem) cnt).2.2.2 ∧ (mr rr cnt (min cnt mem) cnt).2.2.2 ≤ cnt ∧ ∀ i, i < (mr rr cnt (min cnt mem) cnt).2.2.2 → f2 5 i = nI ((mr rr cnt (min cnt mem) cnt).2.2.1 i)) := by
  refine MM.mono (c_U_makeRuns hm hm2 hc hrr) (fun r w hp => ?_)
  obtain ⟨h1, x2, g4, g5, h2, a1, a2, a3, a4⟩ := hp
  exact ⟨h1, x2, _, h2, a1, fun j z2 z3 => by unfold fup; rw [if_neg z3, if_neg z2], a2, a3, fun i hi => a4 i hi⟩
theorem cmerges2 {w rc : Nat} {ln : Nat → Nat} (hx21 : x 21 = nI rc) (hrc : rc ≤ 1000) (hw : 2 ≤ w) (hw2 : w ≤ 16) (hl : ∀ i, i < rc → f 5 i = nI (ln i)) : MM G m_U_countMerges (xr 1 0 0) [.ref (q 15), .int (nI w)] (wC G q x n f kf kl) (fun r w2 => r = none ∧ ∃ (x2 : Nat → Int32) (f2 : Nat → Nat → Int32), w2 = wC G q x2 n f2 kf kl ∧ (∀ i, i ≠ 22 → i ≠ 23 → x2 i = x i) ∧ (∀ j, j ≠ 6 → f2 j = f j) ∧ x2 22 = nI (cm w 0 rc ln 0 0).1 ∧ x2 23 = nI (cm w 0 rc ln 0 0).2) := by
  refine MM.mono (c_U_countMerges hx21 hrc hw hw2 hl) (fun r w hp => ?_)
  obtain ⟨h1, x2, g6, h2, a1, a2, a3⟩ := hp
  exact ⟨h1, x2, _, h2, a1, fun j z2 => by unfold fup; rw [if_neg z2], a2, a3⟩
theorem cadd2 (hj : CJ s x n f kf kl bc br ka) {sq : Nat → Nat} {k : Nat} (hx0 : x 0 = nI (og_ (s_c s) sq k).1) (hk : k < 1000) (hsq : ∀ i, i ≤ k → sq i < lnc s.B s.len) (hrl : ∀ i, i < (og_ (s_c s) sq k).1 → f 7 i = nI ((og_ (s_c s) sq k).2 i)) : MM G m_S_addToResult (xr 4 0 0) [.ref (q 0), .int (nI (sq k))] (wC G q x n f kf kl) (fun r v => r = none ∧ ∃ (x2 : Nat → Int32) (f2 : Nat → Nat → Int32), v = wC G q x2 n f2 kf kl ∧ (∀ i, i ≠ 0 → i < 10 ∨ 19 < i → x2 i = x i) ∧ (∀ j, j ≠ 7 → f2 j = f j) ∧ x2 0 = nI (og_ (s_c s) sq (k + 1)).1 ∧ ∀ i, i < (og_ (s_c s) sq (k + 1)).1 → f2 7 i = nI ((og_ (s_c s) sq (k + 1)).2 i)) := by
  have hle := og_le (s_c s) sq k
  have hlt := og_lt (c := s_c s) (sq := sq) (n := lnc s.B s.len) k (fun i hi => hsq i (by omega))
  refine MM.mono (c_S_addToResult (c := (og_ (s_c s) sq k).1) (rl := (og_ (s_c s) sq k).2) hj hx0 (by omega) (hsq k (Nat.le_refl _)) (fun i hi => ⟨hrl i hi, hlt i hi⟩)) (fun r w hp => ?_)
  obtain ⟨h1, x2, g, h2, a1, a2, a3⟩ := hp
  rw [og_ad]
  exact ⟨h1, x2, _, h2, a1, fun j z2 => by unfold fup; rw [if_neg z2], a2, fun i hi => a3 i hi⟩
theorem cput2 {cnt : Nat} {h : Nat → Nat} {v : Nat} (hx20 : x 20 = nI cnt) (hc : cnt < 1000) (hh : hq (f 4) h cnt) (hv : v < 2 ^ 31) : MM G m_H_put (xr 0 0 0) [.ref (q 13), .int (nI v)] (wC G q x n f kf kl) (fun r w => r = none ∧ ∃ (x2 : Nat → Int32) (f2 : Nat → Nat → Int32), w = wC G q x2 n f2 kf kl ∧ x2 20 = nI (cnt + 1) ∧ (∀ i, i ≠ 20 → x2 i = x i) ∧ (∀ j, j ≠ 4 → f2 j = f j) ∧ hq (f2 4) (hp_up v cnt h) (cnt + 1)) := by
  refine MM.mono (c_H_put hx20 hc hh hv) (fun r w hp => ?_)
  obtain ⟨h1, g, h2, a1⟩ := hp
  exact ⟨h1, _, _, h2, rfl, fun i hi => pk_un hi, fun j z2 => by unfold fup; rw [if_neg z2], a1⟩
theorem ctake2 {cnt : Nat} {h : Nat → Nat} (hx20 : x 20 = nI cnt) (h0 : 0 < cnt) (hc : cnt ≤ 1000) (hh : hq (f 4) h cnt) : MM G m_H_takeLeast (xr 1 0 0) [.ref (q 13)] (wC G q x n f kf kl) (fun r w => r = some (.int (nI (h 0))) ∧ ∃ (x2 : Nat → Int32) (f2 : Nat → Nat → Int32), w = wC G q x2 n f2 kf kl ∧ x2 20 = nI (cnt - 1) ∧ (∀ i, i ≠ 20 → x2 i = x i) ∧ (∀ j, j ≠ 4 → f2 j = f j) ∧ hq (f2 4) (hp_dn (h (cnt - 1)) (cnt - 1) 0 1 h) (cnt - 1)) := by
  obtain ⟨c, rfl⟩ : ∃ c, cnt = c + 1 := ⟨cnt - 1, by omega⟩
  refine MM.mono (c_H_takeLeast hx20 (by omega) hh) (fun r w hp => ?_)
  obtain ⟨h1, g, h2, a1⟩ := hp
  refine ⟨h1, _, _, h2, rfl, fun i hi => pk_un hi, fun j z2 => by unfold fup; rw [if_neg z2], ?_⟩
  rcases Nat.eq_zero_or_pos c with e | e
  · subst e; intro i hi; exact absurd hi (by omega)
  · exact a1 e
end
theorem SG.res {s : SS} (h : SG s) {s2 : SS} (e : s2 = SS.mk s.len s.B s.sep s.all s.bs s.bo s.kc s.kd s.kg s.mem s.wy s2.rc s2.rl s2.un s2.ul s2.mg s2.mv s2.gn) (h1 : s2.rc ≤ 1000) (h2 : ∀ i, i < s2.rc → s2.rl i < lnc s.B s.len) (h3 : s2.un ≤ 1000) : SG s2 := by
  rw [e]
  exact ⟨h.len, h.bb, h.kc, h.kb, h.m1, h.m2, h.w1, h.w2, h1, h2, h3⟩
theorem SG.sort {s : SS} (h : SG s) (hl : lnc s.B s.len ≤ 1000) : SG (o_sort s) := by
  refine h.res rfl ?_ ?_ ?_
  · exact Nat.le_trans (og_le _ _ _) hl
  · exact og_lt _ (fun i hi => rk_lt _ _ i hi)
  · exact Nat.le_trans (mr_rc _) hl
theorem sq_lt {s : SS} {m : Nat} (hm : 1 ≤ m) : ∀ k, k < lnc s.B s.len → (s_sq s m (lnc s.B s.len)).2 k < lnc s.B s.len := by
  have hpa := pcz_all (ln := lnc s.B s.len) hm
  exact (mf_inv (o := sa_o s) (ro := fun i => i) (sz := pcz (lnc s.B s.len) m) (n := pcz_n (lnc s.B s.len) m) (ln := lnc s.B s.len) (fun i hi => hi) (by omega) (lnc s.B s.len) (by omega)).2
theorem SG.merge {s : SS} (h : SG s) {a : Int32} (hm : 1 ≤ iN a) (hl : lnc s.B s.len ≤ 1000) : SG (q_merge s a) := by
  refine h.res rfl ?_ ?_ h.un
  · exact Nat.le_trans (og_le _ _ _) hl
  · exact og_lt _ (sq_lt hm)
/-- the class's heap, as lines go out -/
def s_hm (s : SS) (m k : Nat) : (Nat → Nat) × Nat := hm_f (rr_ (sa_o s) (lnc s.B s.len)) m k
def s_hg (s : SS) (m k : Nat) : (Nat → Nat) × Nat := hg_ (rr_ (sa_o s) (lnc s.B s.len)) (rk (sa_o s) (lnc s.B s.len)) m (lnc s.B s.len) k
theorem hg_le0 {rr rf : Nat → Nat} {m ln : Nat} : ∀ k, k ≤ ln → (hg_ rr rf m ln k).2 ≤ ln := by
  intro k
  induction k with
  | zero => intro _; exact hm_f_le rr m ln
  | succ k ih =>
    intro hk
    have h1 := ih (by omega)
    show (hg_st rr rf m ln (hg_ rr rf m ln k)).2 ≤ ln
    unfold hg_st
    split
    · show (hg_ rr rf m ln k).2 - 1 + 1 ≤ ln; omega
    · show (hg_ rr rf m ln k).2 - 1 ≤ ln; omega
theorem hg_sim2 {o : Nat → Nat → Ordering} (hg : gc o) {ln m k : Nat} (hm : 1 ≤ m) (hk : k < ln) : 0 < (hg_ (rr_ o ln) (rk o ln) m ln k).2 ∧ (hg_ (rr_ o ln) (rk o ln) m ln k).1 0 < ln ∧ rk o ln ((hg_ (rr_ o ln) (rk o ln) m ln k).1 0) = (mf o (fun i => i) (pcz ln m) (pcz_n ln m) ln).2 k := by
  obtain ⟨h1, h2⟩ := hg_sim hg (ln := ln) hm k (by omega)
  obtain ⟨h3, h4⟩ := h2 hk
  have h5 : 0 < (hg_ (rr_ o ln) (rk o ln) m ln k).2 := h3
  refine ⟨h5, ?_, ?_⟩
  · obtain ⟨i, hi1, hi2, hi3⟩ := (h1.least h3).1
    have hin := pf_in (pcz ln m) hi1 hi2
    have hpa := pcz_all (ln := ln) hm
    have e : (hg_ (rr_ o ln) (rk o ln) m ln k).1 0 = rx (rk o ln) ln (pf (pcz ln m) i + (mf o (fun i => i) (pcz ln m) (pcz_n ln m) k).1 i) := hi3.symm
    rw [e]
    exact (rx_ok o (fun _ => 0) (by omega)).2.1
  · have e := mf_old (o := o) (ro := fun i => i) (sz := pcz ln m) (n := pcz_n ln m) (d := k + 1) (k := k) (by omega) (ln - (k + 1))
    rw [show k + 1 + (ln - (k + 1)) = ln by omega] at e
    rw [e]; exact h4
theorem s_hg_0 (s : SS) (m : Nat) : s_hg s m 0 = s_hm s m (lnc s.B s.len) := rfl
theorem s_hg_ok {s : SS} {m k : Nat} (hm : 1 ≤ m) (hk : k < lnc s.B s.len) : 0 < (s_hg s m k).2 ∧ (s_hg s m k).1 0 < lnc s.B s.len ∧ rk (sa_o s) (lnc s.B s.len) ((s_hg s m k).1 0) = (s_sq s m (lnc s.B s.len)).2 k := hg_sim2 (gc_sa s) hm hk
theorem s_hg_le {s : SS} {m k : Nat} (hk : k ≤ lnc s.B s.len) : (s_hg s m k).2 ≤ lnc s.B s.len := hg_le0 k hk
theorem s_hg_t {s : SS} {m k : Nat} (hm : 1 ≤ m) (hk : k < lnc s.B s.len) (h1 : (s_sq s m (lnc s.B s.len)).2 k + 1 < lnc s.B s.len) (h2 : ¬ ((s_sq s m (lnc s.B s.len)).2 k + 1) % m = 0) : s_hg s m (k + 1) = (hp_up (rr_ (sa_o s) (lnc s.B s.len) ((s_sq s m (lnc s.B s.len)).2 k + 1)) ((s_hg s m k).2 - 1) (hp_dn ((s_hg s m k).1 ((s_hg s m k).2 - 1)) ((s_hg s m k).2 - 1) 0 1 (s_hg s m k).1), (s_hg s m k).2 - 1 + 1) := by
  have e := (s_hg_ok hm hk).2.2
  show hg_st _ _ _ _ (s_hg s m k) = _
  unfold hg_st
  rw [e, if_pos ⟨h1, h2⟩]
theorem s_hg_f {s : SS} {m k : Nat} (hm : 1 ≤ m) (hk : k < lnc s.B s.len) (h : ¬ ((s_sq s m (lnc s.B s.len)).2 k + 1 < lnc s.B s.len ∧ ¬ ((s_sq s m (lnc s.B s.len)).2 k + 1) % m = 0)) : s_hg s m (k + 1) = (hp_dn ((s_hg s m k).1 ((s_hg s m k).2 - 1)) ((s_hg s m k).2 - 1) 0 1 (s_hg s m k).1, (s_hg s m k).2 - 1) := by
  have e := (s_hg_ok hm hk).2.2
  show hg_st _ _ _ _ (s_hg s m k) = _
  unfold hg_st
  rw [e, if_neg h]
theorem s_hm_t {s : SS} {m k : Nat} (h : k % m = 0) : s_hm s m (k + 1) = (hp_up (rr_ (sa_o s) (lnc s.B s.len) k) (s_hm s m k).2 (s_hm s m k).1, (s_hm s m k).2 + 1) := hm_f_t h
theorem s_hm_f {s : SS} {m k : Nat} (h : ¬ k % m = 0) : s_hm s m (k + 1) = s_hm s m k := hm_f_f h
theorem s_hm_le (s : SS) (m k : Nat) : (s_hm s m k).2 ≤ k := hm_f_le _ _ _
