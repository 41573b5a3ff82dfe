/-! what comparing needs of the class's world -/
abbrev CJ (s : SS) (x : Nat → Int32) (n : Nat → Nat) (f : Nat → Nat → Int32) (kf : Nat → Option Nat) (kl : va_W) (bc : Nat) (br ka : Nat → Nat) : Prop := SG s ∧ txt x n f s.len bc br s.B ∧ brk s.B s.len bc br ∧ x 5 = s.sep ∧ x 6 = nI s.kc ∧ x 7 = s.all ∧ x 8 = bI s.bs ∧ x 9 = bI s.bo ∧ kys s.kc kf kl ka s.kd s.kg ∧ x 1 = nI s.mem ∧ x 2 = nI s.wy
theorem CI.j {s : SS} {x : Nat → Int32} {n : Nat → Nat} {f : Nat → Nat → Int32} {kf : Nat → Option Nat} {ks : va_W} {bc : Nat} {br ka : Nat → Nat} (h : CI s x n f kf ks bc br ka) (T : va_W) : CJ s x n f kf (ks ++ T) bc br ka := ⟨h.g, h.t, h.b, h.x5, h.x6, h.x7, h.x8, h.x9, kys_app h.k T, h.x1, h.x2⟩
theorem CJ.mv {s : SS} {x x2 : Nat → Int32} {n : Nat → Nat} {f f2 : Nat → Nat → Int32} {kf : Nat → Option Nat} {kl : va_W} {bc : Nat} {br ka : Nat → Nat} (h : CJ s x n f kf kl bc br ka) (ha : ∀ i, 1 ≤ i → i < 10 → x2 i = x i) (e0 : f2 0 = f 0) (e1 : f2 1 = f 1) : CJ s x2 n f2 kf kl bc br ka := by
  obtain ⟨g, t, b, h5, h6, h7, h8, h9, k, h1, h2⟩ := h
  refine ⟨g, ?_, b, (ha 5 (by omega) (by omega)).trans h5, (ha 6 (by omega) (by omega)).trans h6, (ha 7 (by omega) (by omega)).trans h7, (ha 8 (by omega) (by omega)).trans h8, (ha 9 (by omega) (by omega)).trans h9, k, (ha 1 (by omega) (by omega)).trans h1, (ha 2 (by omega) (by omega)).trans h2⟩
  obtain ⟨t1, t2, t3, t4, t5, t6, t7, t8⟩ := t
  exact ⟨(ha 3 (by omega) (by omega)).trans t1, (ha 4 (by omega) (by omega)).trans t2, t3, t4, t5, t6, by rw [e1]; exact t7, by rw [e0]; exact t8⟩
theorem rk_v_cg {r r2 : Nat → Nat} {g : Nat → Int32} : ∀ m, (∀ i, i < m → r i = r2 i) → rk_v r g m = rk_v r2 g m := by
  intro m
  induction m with
  | zero => intro _; rfl
  | succ m ih =>
    intro h
    have e1 := ih (fun i hi => h i (Nat.lt_succ_of_lt hi))
    have e2 := h m (Nat.lt_succ_self m)
    show upd (rk_v r g m) (r m) (nI m) = upd (rk_v r2 g m) (r2 m) (nI m)
    rw [e1, e2]
theorem rk_v_ext {o o2 : Nat → Nat → Ordering} {n : Nat} {g : Nat → Int32} (h : ∀ a b, a < n → b < n → o a b = o2 a b) : rk_v (rk o n) g n = rk_v (rk o2 n) g n :=
  rk_v_cg n (fun i hi => rk_ext h n (Nat.le_refl n) i hi)
theorem crank0 {G : XG} {q : Nat → Nat} {x : Nat → Int32} {n : Nat → Nat} {f : Nat → Nat → Int32} {kf : Nat → Option Nat} {kl : va_W} {o o2 : Nat → Nat → Ordering} {ln : Nat} (h : MM G m_R_rankFirst (xr 5 0 0) [.ref (q 10), .int (nI ln)] (wC G q x n f kf kl) (fun r w => r = none ∧ ∃ (x2 : Nat → Int32) (g : Nat → Int32), w = wC G q x2 n (fup (fup f 3 g) 2 (rk_v (rk o ln) (f 2) ln)) kf kl ∧ agN x x2 ∧ ∀ i, i < ln → g i = nI (rk o ln i))) (e : ∀ a b, a < ln → b < ln → o a b = o2 a b) : MM G m_R_rankFirst (xr 5 0 0) [.ref (q 10), .int (nI ln)] (wC G q x n f kf kl) (fun r w => r = none ∧ ∃ (x2 : Nat → Int32) (g3 g2 : Nat → Int32), w = wC G q x2 n (fup (fup f 3 g3) 2 g2) kf kl ∧ agN x x2 ∧ (∀ i, i < ln → g3 i = nI (rk o2 ln i)) ∧ ∀ l, l < ln → g2 l = nI (rr_ o2 ln l)) := by
  refine MM.mono h (fun r w hp => ?_)
  obtain ⟨h1, x2, g3, h2, a1, a2⟩ := hp
  refine ⟨h1, x2, g3, rk_v (rk o ln) (f 2) ln, h2, a1, fun i hi => ?_, fun l hl => ?_⟩
  · rw [a2 i hi, rk_ext e ln (Nat.le_refl _) i hi]
  · rw [rk_v_ext e]
    exact (rx_ok o2 (f 2) hl).1
section
variable {G : XG} {q : Nat → Nat} {s : SS} {x : Nat → Int32} {n : Nat → Nat} {f : Nat → Nat → Int32} {kf : Nat → Option Nat} {kl : va_W} {bc : Nat} {br ka : Nat → Nat}
theorem cmpK (h : CJ s x n f kf kl bc br ka) {la lb : Nat} (ha : la < lnc s.B s.len) (hb : lb < lnc s.B s.len) : MM G m_O_comparedByKeys (xr 3 0 0) [.ref (q 5), .int (nI la), .int (nI lb)] (wC G q x n f kf kl) (fun r w => r = some (.int (oI (sk_o s la lb))) ∧ ∃ x2 : Nat → Int32, w = wC G q x2 n f kf kl ∧ agN x x2) := by
  obtain ⟨g, t, b, h5, h6, h7, h8, h9, k, h1, h2⟩ := h
  have hle := (brk_le b).2
  have z := c_O_comparedByKeys (G := G) (q := q) (f := f) t h5 h6 h7 k (la := la) (lb := lb) (by omega) (by omega) (brk_se b ha) (brk_se b hb)
  rw [brk_st b ha, brk_st b hb, brk_en b ha, brk_en b hb] at z
  exact z
theorem cmpA (h : CJ s x n f kf kl bc br ka) {la lb : Nat} (ha : la < lnc s.B s.len) (hb : lb < lnc s.B s.len) : MM G m_O_comparedNumbersAside (xr 4 0 0) [.ref (q 5), .int (nI la), .int (nI lb)] (wC G q x n f kf kl) (fun r w => r = some (.int (oI (sa_o s la lb))) ∧ ∃ x2 : Nat → Int32, w = wC G q x2 n f kf kl ∧ agN x x2) := by
  obtain ⟨g, t, b, h5, h6, h7, h8, h9, k, h1, h2⟩ := h
  have hle := (brk_le b).2
  have z := c_O_comparedNumbersAside (G := G) (q := q) (f := f) t h5 h6 h7 k h8 h9 (la := la) (lb := lb) (by omega) (by omega) (brk_se b ha) (brk_se b hb)
  rw [brk_st b ha, brk_st b hb, brk_en b ha, brk_en b hb] at z
  exact z
theorem crank (h : CJ s x n f kf kl bc br ka) (hl : lnc s.B s.len ≤ 1000) : MM G m_R_rankFirst (xr 5 0 0) [.ref (q 10), .int (nI (lnc s.B s.len))] (wC G q x n f kf kl) (fun r w => r = none ∧ ∃ (x2 : Nat → Int32) (g3 g2 : Nat → Int32), w = wC G q x2 n (fup (fup f 3 g3) 2 g2) kf kl ∧ agN x x2 ∧ (∀ i, i < lnc s.B s.len → g3 i = nI (rk (sa_o s) (lnc s.B s.len) i)) ∧ ∀ l, l < lnc s.B s.len → g2 l = nI (rr_ (sa_o s) (lnc s.B s.len) l)) := by
  obtain ⟨g, t, b, h5, h6, h7, h8, h9, k, h1, h2⟩ := h
  have e0 : ∀ a c, a < lnc s.B s.len → c < lnc s.B s.len → oln s.B s.sep s.all s.kc s.kd s.kg s.bs s.bo s.len bc br a c = sa_o s a c := fun a c ha hc => brk_oln b ha hc
  exact crank0 (c_R_rankFirst (G := G) (q := q) (f := f) t h5 h6 h7 k h8 h9 (cnt := lnc s.B s.len) hl (brk_le b).2 (fun i hi => brk_se b hi)) e0
end
def ad_ (c : Nat → Nat → Bool) (S : Nat × (Nat → Nat)) (l : Nat) : Nat × (Nat → Nat) := if (decide (0 < S.1) && c (S.2 (S.1 - 1)) l) = true then S else (S.1 + 1, updN S.2 S.1 l)
theorem og_ad (c : Nat → Nat → Bool) (sq : Nat → Nat) (k : Nat) : og_ c sq (k + 1) = ad_ c (og_ c sq k) (sq k) := rfl
theorem ad_t {c : Nat → Nat → Bool} {m l : Nat} {rl : Nat → Nat} (h1 : 0 < m) (h2 : c (rl (m - 1)) l = true) : ad_ c (m, rl) l = (m, rl) := by unfold ad_; rw [if_pos (by simp [h1, h2])]
theorem ad_f {c : Nat → Nat → Bool} {m l : Nat} {rl : Nat → Nat} (h : 0 < m → c (rl (m - 1)) l = false) : ad_ c (m, rl) l = (m + 1, updN rl m l) := by
  unfold ad_
  rw [if_neg]
  intro z
  rw [Bool.and_eq_true] at z
  have z1 : 0 < m := of_decide_eq_true z.1
  have z2 : c (rl (m - 1)) l = true := z.2
  rw [h z1] at z2; cases z2
theorem oi_i : Cond.instanceMethod objectInit ∈ xw_g := xw_in mw_28 rfl
theorem oi_c : Cond.code objectInit ⟨#[0xb1]⟩ 1 none ∈ xw_g := xw_in mw_29 rfl
