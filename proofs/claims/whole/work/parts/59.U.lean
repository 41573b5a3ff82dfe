/-! runs and merges: what is computed -/
def hb_ (h : Nat → Nat) (n i K : Nat) : Prop := ∀ j, j < n → j ≠ i → h j < K
theorem hb_move {h : Nat → Nat} {n i p K : Nat} (hb : hb_ h n i K) (hp : p < n) (hne : p ≠ i) : hb_ (updN h i (h p)) n p K := by
  intro j hj e2
  by_cases e : j = i
  · subst e; rw [updN_s]; exact hb p hp hne
  · rw [updN_n e]; exact hb j hj e
theorem hb_put {h : Nat → Nat} {n i v K : Nat} (hb : hb_ h n i K) (hv : v < K) : ∀ j, j < n → updN h i v j < K := by
  intro j hj
  by_cases e : j = i
  · subst e; rw [updN_s]; exact hv
  · rw [updN_n e]; exact hb j hj e
theorem hp_up_b {v n K : Nat} (hv : v < K) : ∀ (i : Nat) (h : Nat → Nat), i < n → hb_ h n i K → ∀ j, j < n → hp_up v i h j < K := by
  intro i
  induction i using Nat.strongRecOn with
  | _ i ih =>
    intro h hi hb
    by_cases hc : 0 < i ∧ v < h ((i - 1) / 2)
    · rw [hp_up_t hc.1 hc.2]
      exact ih _ (by omega) _ (by omega) (hb_move hb (by omega) (by omega))
    · rw [hp_up_f (fun z => by omega)]
      exact hb_put hb hv
theorem hp_dn_b {v n K : Nat} (hv : v < K) : ∀ (k b i : Nat) (h : Nat → Nat), n - b = k → i < b → i < n → hb_ h n i K → ∀ j, j < n → hp_dn v n i b h j < K := by
  intro k
  induction k using Nat.strongRecOn with
  | _ k ih =>
    intro b i h hk hib hi hb
    by_cases hc : b < n ∧ h (hp_ch h n b) < v
    · have h1 := hp_ch_lt (h := h) hc.1
      have h2 := hp_ch_ge h n b
      rw [hp_dn_t hc.1 hc.2]
      exact ih _ (by omega) _ _ _ rfl (by omega) h1 (hb_move hb h1 (by omega))
    · rw [hp_dn_f (fun z => by omega)]
      exact hb_put hb hv
def al_rc (cur rc : Nat) : Nat := if cur = rc then rc + 1 else rc
def al_l0 (ln : Nat → Nat) (cur rc : Nat) : Nat → Nat := if cur = rc then updN ln rc 0 else ln
def al_ln (ln : Nat → Nat) (cur rc : Nat) : Nat → Nat := updN (al_l0 ln cur rc) cur (al_l0 ln cur rc cur + 1)
/-- the heap with the first ranks -/
def mr_f (rr : Nat → Nat) : Nat → Nat → Nat
  | 0 => fun _ => 0
  | k + 1 => hp_up (rr k) k (mr_f rr k)
def mr_run (rr : Nat → Nat) (le nx : Nat) : Nat := if le % 1000 < rr nx then le / 1000 else le / 1000 + 1
/-- one line goes out: heap, the next line to come, lengths, how many runs -/
def mr_s (rr : Nat → Nat) (cnt k : Nat) (S : (Nat → Nat) × Nat × (Nat → Nat) × Nat) : (Nat → Nat) × Nat × (Nat → Nat) × Nat :=
  let h := S.1
  let nx := S.2.1
  let h1 := hp_dn (h (nx - k - 1)) (nx - k - 1) 0 1 h
  let cur := h 0 / 1000
  if nx < cnt then (hp_up (mr_run rr (h 0) nx * 1000 + rr nx) (nx - k - 1) h1, nx + 1, al_ln S.2.2.1 cur S.2.2.2, al_rc cur S.2.2.2)
  else (h1, nx, al_ln S.2.2.1 cur S.2.2.2, al_rc cur S.2.2.2)
def mr (rr : Nat → Nat) (cnt n0 : Nat) : Nat → (Nat → Nat) × Nat × (Nat → Nat) × Nat
  | 0 => (mr_f rr n0, n0, fun _ => 0, 0)
  | k + 1 => mr_s rr cnt k (mr rr cnt n0 k)
def agU (x x2 : Nat → Int32) : Prop := ∀ i, i ≠ 20 → i ≠ 21 → x2 i = x i
def sr (qu : Nat → Nat) : Nat → Nat → Nat
  | 0, _ => 0
  | n + 1, a => qu a + sr qu n (a + 1)
theorem sr_0 {qu : Nat → Nat} {a b : Nat} (h : b ≤ a) : sr qu (b - a) a = 0 := by rw [show b - a = 0 by omega]; rfl
theorem sr_s {qu : Nat → Nat} {a b : Nat} (h : a < b) : sr qu (b - a) a = qu a + sr qu (b - (a + 1)) (a + 1) := by rw [show b - a = (b - (a + 1)) + 1 by omega]; rfl
def cm (w a b : Nat) (qu : Nat → Nat) (mc lm : Nat) : Nat × Nat :=
  if h : 1 < b - a ∧ mc < 1000 ∧ 2 ≤ w then cm w (min b (a + w)) (b + 1) (updN qu b (sr qu (min b (a + w) - a) a)) (mc + 1) (lm + sr qu (min b (a + w) - a) a) else (mc, lm)
termination_by b - a
decreasing_by omega
theorem cm_t {w a b : Nat} {qu : Nat → Nat} {mc lm : Nat} (h1 : 1 < b - a) (h2 : mc < 1000) (h3 : 2 ≤ w) : cm w a b qu mc lm = cm w (min b (a + w)) (b + 1) (updN qu b (sr qu (min b (a + w) - a) a)) (mc + 1) (lm + sr qu (min b (a + w) - a) a) := by rw [cm, dif_pos ⟨h1, h2, h3⟩]
theorem cm_f {w a b : Nat} {qu : Nat → Nat} {mc lm : Nat} (h : ¬ (1 < b - a ∧ mc < 1000)) : cm w a b qu mc lm = (mc, lm) := by rw [cm, dif_neg (fun z => h ⟨z.1, z.2.1⟩)]

set_option maxRecDepth 100000 in
set_option maxHeartbeats 4000000 in
theorem c_U_addLineToRun {G : XG} {q : Nat → Nat} {x : Nat → Int32} {n : Nat → Nat} {f : Nat → Nat → Int32} {kf : Nat → Option Nat} {kl : va_W} {cur rc : Nat} {ln : Nat → Nat} (hx21 : x 21 = nI rc) (hc : cur ≤ rc) (hrc : rc < 1000) (hl : ∀ i, i < rc → f 5 i = nI (ln i)) : MM G m_U_addLineToRun (xr 0 0 0) [.ref (q 15), .int (nI cur)] (wC G q x n f kf kl) (fun r w => r = none ∧ ∃ (x2 g : Nat → Int32), w = wC G q x2 n (fup f 5 g) kf kl ∧ (∀ i, i ≠ 21 → x2 i = x i) ∧ x2 21 = nI (al_rc cur rc) ∧ ∀ i, i < al_rc cur rc → g i = nI (al_ln ln cur rc i)) := by
  refine MM.of rfl (xn_le rfl) ?_
  refine (?_ : XX G m_U_addLineToRun (xr 0 0 0) (xx_F G (fun r w => r = none ∧ ∃ (x2 g : Nat → Int32), w = wC G q x2 n (fup f 5 g) kf kl ∧ (∀ i, i ≠ 21 → x2 i = x i) ∧ x2 21 = nI (al_rc cur rc) ∧ ∀ i, i < al_rc cur rc → g i = nI (al_ln ln cur rc i)) (xr 0 0 0)) 0 0 (wC G q x n f kf kl) 0 [(0, .ref (q 15)), (1, .int (nI cur))] [])
  refine XX.iload_n dd_U_addLineToRun_0 rfl 1 rfl ?_
  refine XX.aload_n dd_U_addLineToRun_1 rfl 0 rfl ?_
  refine XX.get (q0 := 15) (v := .int (x 21)) fl_U_26 dd_U_addLineToRun_2 rfl rfl ?_
  refine XX.tp (y := nI rc) (hx21) ?_
  refine XX.ncmp_ne (tgt := 38) dd_U_addLineToRun_5 (by decide) (by omega) (by omega) (fun h5 => ?_) (fun h5 => ?_)
  ·
    refine XX.aload_n dd_U_addLineToRun_38 rfl 0 rfl ?_
    refine XX.get (q0 := 15) (v := .ref (q 16)) fl_U_19 dd_U_addLineToRun_39 rfl rfl ?_
    refine XX.iload_n dd_U_addLineToRun_42 rfl 1 rfl ?_
    refine XX.dup2 dd_U_addLineToRun_43 rfl rfl ?_
    refine XX.iald (q0 := 16) (n := 1000) (j := cur) (f := f 5) dd_U_addLineToRun_44 rfl (by omega) (by decide) ?_
    refine XX.tp (y := nI (ln cur)) (hl cur (by omega)) ?_
    refine XX.iconst (v := nI 1) dd_U_addLineToRun_45 (by decide) ?_
    refine XX.iadd dd_U_addLineToRun_46 ?_
    refine XX.tp (y := nI (al_l0 ln cur rc cur + 1)) (by rw [nI_add, al_l0, if_neg (by omega)]) ?_
    refine XX.iast (q0 := 16) (n := 1000) (j := cur) (f := f 5) (ws2 := wC G q x n (fup f 5 (upd (f 5) cur (nI (al_l0 ln cur rc cur + 1)))) kf kl) dd_U_addLineToRun_47 rfl (by omega) (by decide) rfl ?_
    exact XX.vret dd_U_addLineToRun_48 rfl ⟨xn_le rfl, xn_le rfl⟩ ⟨rfl, x, _, rfl, fun _ _ => rfl, by rw [hx21, al_rc, if_neg (by omega)], fun i hi => by
      rw [al_rc, if_neg (by omega)] at hi
      rw [al_ln, al_l0, if_neg (by omega)]
      by_cases e : i = cur
      · rw [e, pk_us, updN_s]
      · rw [pk_un e, updN_n e]; exact hl i hi⟩
  ·
    refine XX.aload_n dd_U_addLineToRun_8 rfl 0 rfl ?_
    refine XX.get (q0 := 15) (v := .int (x 21)) fl_U_26 dd_U_addLineToRun_9 rfl rfl ?_
    refine XX.tp (y := nI rc) (hx21) ?_
    refine XX.sipush (v := nI 1000) dd_U_addLineToRun_12 (by decide) ?_
    refine XX.ncmp_ge (tgt := 38) dd_U_addLineToRun_15 (by decide) (by omega) (by omega) (fun h15 => ?_) (fun h15 => ?_)
    ·
      refine XX.aload_n dd_U_addLineToRun_38 rfl 0 rfl ?_
      refine XX.get (q0 := 15) (v := .ref (q 16)) fl_U_19 dd_U_addLineToRun_39 rfl rfl ?_
      refine XX.iload_n dd_U_addLineToRun_42 rfl 1 rfl ?_
      refine XX.dup2 dd_U_addLineToRun_43 rfl rfl ?_
      refine XX.iald (q0 := 16) (n := 1000) (j := cur) (f := f 5) dd_U_addLineToRun_44 rfl (by omega) (by decide) ?_
      refine XX.tp (y := nI (ln cur)) (hl cur (by omega)) ?_
      refine XX.iconst (v := nI 1) dd_U_addLineToRun_45 (by decide) ?_
      refine XX.iadd dd_U_addLineToRun_46 ?_
      refine XX.tp (y := nI (al_l0 ln cur rc cur + 1)) (by rw [nI_add, al_l0, if_neg (by omega)]) ?_
      refine XX.iast (q0 := 16) (n := 1000) (j := cur) (f := f 5) (ws2 := wC G q x n (fup f 5 (upd (f 5) cur (nI (al_l0 ln cur rc cur + 1)))) kf kl) dd_U_addLineToRun_47 rfl (by omega) (by decide) rfl ?_
      exact XX.vret dd_U_addLineToRun_48 rfl ⟨xn_le rfl, xn_le rfl⟩ ⟨rfl, x, _, rfl, fun _ _ => rfl, by rw [hx21, al_rc, if_neg (by omega)], fun i hi => by
        rw [al_rc, if_neg (by omega)] at hi
        rw [al_ln, al_l0, if_neg (by omega)]
        by_cases e : i = cur
        · rw [e, pk_us, updN_s]
        · rw [pk_un e, updN_n e]; exact hl i hi⟩
    ·
      refine XX.aload_n dd_U_addLineToRun_18 rfl 0 rfl ?_
      refine XX.get (q0 := 15) (v := .ref (q 16)) fl_U_19 dd_U_addLineToRun_19 rfl rfl ?_
      refine XX.aload_n dd_U_addLineToRun_22 rfl 0 rfl ?_
      refine XX.get (q0 := 15) (v := .int (x 21)) fl_U_26 dd_U_addLineToRun_23 rfl rfl ?_
      refine XX.tp (y := nI rc) (hx21) ?_
      refine XX.iconst (v := nI 0) dd_U_addLineToRun_26 (by decide) ?_
      refine XX.iast (q0 := 16) (n := 1000) (j := rc) (f := f 5) (ws2 := wC G q x n (fup f 5 (upd (f 5) rc (nI 0))) kf kl) dd_U_addLineToRun_27 rfl (by omega) (by decide) rfl ?_
      refine XX.aload_n dd_U_addLineToRun_28 rfl 0 rfl ?_
      refine XX.dup dd_U_addLineToRun_29 rfl ?_
      refine XX.get (q0 := 15) (v := .int (x 21)) fl_U_26 dd_U_addLineToRun_30 rfl rfl ?_
      refine XX.tp (y := nI rc) (hx21) ?_
      refine XX.iconst (v := nI 1) dd_U_addLineToRun_33 (by decide) ?_
      refine XX.iadd dd_U_addLineToRun_34 ?_
      refine XX.tp (y := nI (rc + 1)) (nI_add _ _) ?_
      refine XX.put (q0 := 15) (ws2 := wC G q (upd x 21 (nI (rc + 1))) n (fup f 5 (upd (f 5) rc (nI 0))) kf kl) fp_U_26 dd_U_addLineToRun_35 rfl rfl rfl (xn_le rfl) rfl ?_
      refine XX.aload_n dd_U_addLineToRun_38 rfl 0 rfl ?_
      refine XX.get (q0 := 15) (v := .ref (q 16)) fl_U_19 dd_U_addLineToRun_39 rfl rfl ?_
      refine XX.iload_n dd_U_addLineToRun_42 rfl 1 rfl ?_
      refine XX.dup2 dd_U_addLineToRun_43 rfl rfl ?_
      refine XX.iald (q0 := 16) (n := 1000) (j := cur) (f := upd (f 5) rc (nI 0)) dd_U_addLineToRun_44 rfl (by omega) (by decide) ?_
      refine XX.tp (y := nI 0) (by rw [show cur = rc by omega, pk_us]) ?_
      refine XX.iconst (v := nI 1) dd_U_addLineToRun_45 (by decide) ?_
      refine XX.iadd dd_U_addLineToRun_46 ?_
      refine XX.tp (y := nI (al_l0 ln cur rc cur + 1)) (by rw [nI_add, al_l0, if_pos (by omega)]; rw [show cur = rc by omega, updN_s]) ?_
      refine XX.iast (q0 := 16) (n := 1000) (j := cur) (f := upd (f 5) rc (nI 0)) (ws2 := wC G q (upd x 21 (nI (rc + 1))) n (fup (fup f 5 (upd (f 5) rc (nI 0))) 5 (upd (upd (f 5) rc (nI 0)) cur (nI (al_l0 ln cur rc cur + 1)))) kf kl) dd_U_addLineToRun_47 rfl (by omega) (by decide) rfl ?_
      exact XX.vret dd_U_addLineToRun_48 rfl ⟨xn_le rfl, xn_le rfl⟩ ⟨rfl, _, _, by rw [fup_fup], fun i hi => by simp [upd, hi], by rw [pk_us, al_rc, if_pos (by omega)], fun i hi => by
        rw [al_rc, if_pos (by omega)] at hi
        rw [al_ln, al_l0, if_pos (by omega)]
        by_cases e : i = cur
        · rw [e, pk_us, updN_s]
        · rw [pk_un e, updN_n e, updN_n (by omega), pk_un (by omega)]; exact hl i (by omega)⟩

set_option maxRecDepth 100000 in
set_option maxHeartbeats 4000000 in
theorem c_U_makeRuns {G : XG} {q : Nat → Nat} {x : Nat → Int32} {n : Nat → Nat} {f : Nat → Nat → Int32} {kf : Nat → Option Nat} {kl : va_W} {cnt mem : Nat} {rr : Nat → Nat} (hm : 2 ≤ mem) (hm2 : mem ≤ 500) (hc : cnt ≤ 1000) (hrr : ∀ i, i < cnt → f 2 i = nI (rr i) ∧ rr i < 1000) : MM G m_U_makeRuns (xr 2 0 0) [.ref (q 15), .int (nI cnt), .int (nI mem)] (wC G q x n f kf kl) (fun r w => r = none ∧ ∃ (x2 g4 g5 : Nat → Int32), w = wC G q x2 n (fup (fup f 4 g4) 5 g5) kf kl ∧ agU x x2 ∧ x2 21 = nI (mr rr cnt (min cnt mem) cnt).2.2.2 ∧ (mr rr cnt (min cnt mem) cnt).2.2.2 ≤ cnt ∧ ∀ i, i < (mr rr cnt (min cnt mem) cnt).2.2.2 → g5 i = nI ((mr rr cnt (min cnt mem) cnt).2.2.1 i)) := by
  refine MM.of rfl (xn_le rfl) ?_
  refine (?_ : XX G m_U_makeRuns (xr 2 0 0) (xx_F G (fun r w => r = none ∧ ∃ (x2 g4 g5 : Nat → Int32), w = wC G q x2 n (fup (fup f 4 g4) 5 g5) kf kl ∧ agU x x2 ∧ x2 21 = nI (mr rr cnt (min cnt mem) cnt).2.2.2 ∧ (mr rr cnt (min cnt mem) cnt).2.2.2 ≤ cnt ∧ ∀ i, i < (mr rr cnt (min cnt mem) cnt).2.2.2 → g5 i = nI ((mr rr cnt (min cnt mem) cnt).2.2.1 i)) (xr 2 0 0)) 0 0 (wC G q x n f kf kl) 0 [(0, .ref (q 15)), (1, .int (nI cnt)), (2, .int (nI mem))] [])
  have loop2 : ∀ (kk k nx rc : Nat) (h ln : Nat → Nat) (xx g4 g5 : Nat → Int32), cnt - k = kk → k ≤ cnt → mr rr cnt (min cnt mem) k = (h, nx, ln, rc) → nx = min cnt (min cnt mem + k) → rc ≤ k → agU x xx → xx 20 = nI (nx - k) → xx 21 = nI rc → hq g4 h (nx - k) → (∀ i, i < nx - k → h i < (rc + 1) * 1000) → (∀ i, i < rc → g5 i = nI (ln i)) → XX G m_U_makeRuns (xr 2 0 0) (xx_F G (fun r w => r = none ∧ ∃ (x2 g4 g5 : Nat → Int32), w = wC G q x2 n (fup (fup f 4 g4) 5 g5) kf kl ∧ agU x x2 ∧ x2 21 = nI (mr rr cnt (min cnt mem) cnt).2.2.2 ∧ (mr rr cnt (min cnt mem) cnt).2.2.2 ≤ cnt ∧ ∀ i, i < (mr rr cnt (min cnt mem) cnt).2.2.2 → g5 i = nI ((mr rr cnt (min cnt mem) cnt).2.2.1 i)) (xr 2 0 0)) 0 0 (wC G q xx n (fup (fup f 4 g4) 5 g5) kf kl) 52 [(0, .ref (q 15)), (1, .int (nI cnt)), (2, .int (nI mem)), (3, .int (nI nx)), (4, .int (nI k))] [] := by
    intro kk
    induction kk using Nat.strongRecOn with
    | _ kk ih =>
      intro k nx rc h ln xx g4 g5 hk hkc hS hnx hrk hag hx20 hx21 hg4 hbd hg5
      refine XX.iload dd_U_makeRuns_52 4 rfl ?_
      refine XX.iload_n dd_U_makeRuns_54 rfl 1 rfl ?_
      refine XX.ncmp_ge (tgt := 143) dd_U_makeRuns_55 (by decide) (by omega) (by omega) (fun h55 => ?_) (fun h55 => ?_)
      ·
        obtain rfl : k = cnt := by omega
        exact XX.vret dd_U_makeRuns_143 rfl ⟨xn_le rfl, xn_le rfl⟩ ⟨rfl, xx, g4, g5, rfl, hag, by rw [hS]; exact hx21, by rw [hS]; exact hrk, by rw [hS]; exact hg5⟩
      ·
        refine XX.aload_n dd_U_makeRuns_58 rfl 0 rfl ?_
        refine XX.get (q0 := 15) (v := .ref (q 13)) fl_U_15 dd_U_makeRuns_59 rfl rfl ?_
        have h0b := (hg4 0 (by omega)).2
        have h0c := hbd 0 (by omega)
        have hcur : h 0 / 1000 ≤ rc := by omega
        refine XX.callV (Mk := m_H_takeLeast) (n := 0) (As := []) (rest := []) (q0 := 13) (ci := 7) (c_H_takeLeast (x := xx) (f := fup (fup f 4 g4) 5 g5) (cnt := nx - k - 1) (h := h) (by rw [hx20]; congr 1; omega) (by omega) (fun i hi => hg4 i (by omega))) mt_H_takeLeast mi_H_takeLeast ml_U_60 rfl dd_U_makeRuns_62 (rfl) rfl rfl ⟨xn_le rfl, xn_le rfl⟩ ⟨xn_le rfl, xn_le rfl⟩ (xn_le rfl) rfl (fun r1 w1 hp1 => ?_)
        obtain ⟨rfl, ga, rfl, hga⟩ := hp1
        refine XX.cg (ws2 := wC G q (upd xx 20 (nI (nx - k - 1))) n (fup (fup f 4 ga) 5 g5) kf kl) (by rw [fup_sw]) rfl rfl ?_
        refine (?_ : XX G m_U_makeRuns (xr 2 0 0) (xx_F G (fun r w => r = none ∧ ∃ (x2 g4 g5 : Nat → Int32), w = wC G q x2 n (fup (fup f 4 g4) 5 g5) kf kl ∧ agU x x2 ∧ x2 21 = nI (mr rr cnt (min cnt mem) cnt).2.2.2 ∧ (mr rr cnt (min cnt mem) cnt).2.2.2 ≤ cnt ∧ ∀ i, i < (mr rr cnt (min cnt mem) cnt).2.2.2 → g5 i = nI ((mr rr cnt (min cnt mem) cnt).2.2.1 i)) (xr 2 0 0)) 0 0 (wC G q (upd xx 20 (nI (nx - k - 1))) n (fup (fup f 4 ga) 5 g5) kf kl) 65 [(0, .ref (q 15)), (1, .int (nI cnt)), (2, .int (nI mem)), (3, .int (nI nx)), (4, .int (nI k))] [.int (nI (h 0))])
        refine XX.istore (lv2 := [(5, .int (nI (h 0))), (0, .ref (q 15)), (1, .int (nI cnt)), (2, .int (nI mem)), (3, .int (nI nx)), (4, .int (nI k))]) dd_U_makeRuns_65 (by decide) rfl ?_
        refine XX.iload dd_U_makeRuns_67 0 rfl ?_
        refine XX.sipush (v := nI 1000) dd_U_makeRuns_69 (by decide) ?_
        refine XX.idiv dd_U_makeRuns_72 (xn_ne0 (by omega) (by omega)) ?_
        refine XX.tp (y := nI ((h 0) / 1000)) (pk_div (by omega) (by omega) (by omega)) ?_
        refine XX.istore (lv2 := [(6, .int (nI ((h 0) / 1000))), (5, .int (nI (h 0))), (0, .ref (q 15)), (1, .int (nI cnt)), (2, .int (nI mem)), (3, .int (nI nx)), (4, .int (nI k))]) dd_U_makeRuns_73 (by decide) rfl ?_
        refine XX.aload_n dd_U_makeRuns_75 rfl 2 rfl ?_
        refine XX.iload dd_U_makeRuns_76 0 rfl ?_
        refine XX.callV (Mk := m_U_addLineToRun) (n := 1) (As := [.int (nI ((h 0) / 1000))]) (rest := []) (q0 := 15) (ci := 8) (c_U_addLineToRun (x := upd xx 20 (nI (nx - k - 1))) (f := fup (fup f 4 ga) 5 g5) (cur := h 0 / 1000) (rc := rc) (ln := ln) hx21 hcur (by omega) hg5) mt_U_addLineToRun mi_U_addLineToRun ml_U_64 rfl dd_U_makeRuns_78 (rfl) rfl rfl ⟨xn_le rfl, xn_le rfl⟩ ⟨xn_le rfl, xn_le rfl⟩ (xn_le rfl) rfl (fun r1 w1 hp1 => ?_)
        obtain ⟨rfl, xa, gb, rfl, hxa, hxa21, hgb⟩ := hp1
        refine XX.cg (ws2 := wC G q xa n (fup (fup f 4 ga) 5 gb) kf kl) (by rw [fup_fup]) rfl rfl ?_
        have hal1 : al_rc (h 0 / 1000) rc ≤ k + 1 := by unfold al_rc; split <;> omega
        have hal2 : h 0 / 1000 < al_rc (h 0 / 1000) rc := by unfold al_rc; split <;> omega
        have hal3 : rc ≤ al_rc (h 0 / 1000) rc := by unfold al_rc; split <;> omega
        refine (?_ : XX G m_U_makeRuns (xr 2 0 0) (xx_F G (fun r w => r = none ∧ ∃ (x2 g4 g5 : Nat → Int32), w = wC G q x2 n (fup (fup f 4 g4) 5 g5) kf kl ∧ agU x x2 ∧ x2 21 = nI (mr rr cnt (min cnt mem) cnt).2.2.2 ∧ (mr rr cnt (min cnt mem) cnt).2.2.2 ≤ cnt ∧ ∀ i, i < (mr rr cnt (min cnt mem) cnt).2.2.2 → g5 i = nI ((mr rr cnt (min cnt mem) cnt).2.2.1 i)) (xr 2 0 0)) 0 0 (wC G q xa n (fup (fup f 4 ga) 5 gb) kf kl) 81 [(6, .int (nI ((h 0) / 1000))), (5, .int (nI (h 0))), (0, .ref (q 15)), (1, .int (nI cnt)), (2, .int (nI mem)), (3, .int (nI nx)), (4, .int (nI k))] [])
        refine XX.iload_n dd_U_makeRuns_81 rfl 5 rfl ?_
        refine XX.iload_n dd_U_makeRuns_82 rfl 3 rfl ?_
        refine XX.ncmp_ge (tgt := 137) dd_U_makeRuns_83 (by decide) (by omega) (by omega) (fun h83 => ?_) (fun h83 => ?_)
        ·
          refine XX.iinc (z := 6) (v := nI (k + 1)) (lv2 := [(4, .int (nI (k + 1))), (6, .int (nI ((h 0) / 1000))), (5, .int (nI (h 0))), (0, .ref (q 15)), (1, .int (nI cnt)), (2, .int (nI mem)), (3, .int (nI nx))]) dd_U_makeRuns_137 rfl ((nI_succ _).symm) (by decide) rfl ?_
          refine XX.goto (tgt := 52) dd_U_makeRuns_140 (by decide) ?_
          refine XX.lvs [3, 4, 5, 6, 0] rfl ?_
          exact ih _ (by omega) (k + 1) nx _ _ _ xa ga gb rfl (by omega) (by rw [show mr rr cnt (min cnt mem) (k + 1) = mr_s rr cnt k (mr rr cnt (min cnt mem) k) from rfl, hS]; simp only [mr_s]; rw [if_neg (by omega)]) (by omega) hal1 (fun i h1 h2 => by rw [hxa i h2]; simp [upd, h1]; exact hag i h1 h2) (by rw [hxa 20 (by omega)]; show nI (nx - k - 1) = _; congr 1) hxa21 (fun i hi => hga (by omega) i (by omega)) (fun i hi => by
            have z := hp_dn_b (v := h (nx - k - 1)) (n := nx - k - 1) (K := (rc + 1) * 1000) (hbd _ (by omega)) _ 1 0 h rfl (by omega) (by omega) (fun j hj _ => hbd j (by omega)) i (by omega)
            omega) hgb
        ·
          refine XX.aload_n dd_U_makeRuns_86 rfl 2 rfl ?_
          refine XX.get (q0 := 15) (v := .ref (q 10)) fl_U_9 dd_U_makeRuns_87 rfl rfl ?_
          refine XX.iload_n dd_U_makeRuns_90 rfl 5 rfl ?_
          refine XX.callVr (Mk := m_R_rankOf) (n := 1) (As := [.int (nI nx)]) (rest := []) (q0 := 10) (ci := 6) (c_R_rankOf (f := (fup (fup f 4 ga) 5 gb)) (l := nx) (by omega)) mt_R_rankOf mi_R_rankOf ml_U_50 rfl dd_U_makeRuns_91 (rfl) rfl rfl ⟨xn_le rfl, xn_le rfl⟩ ⟨xn_le rfl, xn_le rfl⟩ (xn_le rfl) rfl ?_
          refine XX.tp (y := nI (rr nx)) ((hrr nx (by omega)).1) ?_
          have hrn := (hrr nx (by omega)).2
          refine XX.istore (lv2 := [(7, .int (nI (rr nx))), (6, .int (nI ((h 0) / 1000))), (5, .int (nI (h 0))), (0, .ref (q 15)), (1, .int (nI cnt)), (2, .int (nI mem)), (3, .int (nI nx)), (4, .int (nI k))]) dd_U_makeRuns_94 (by decide) rfl ?_
          have j116 : XX G m_U_makeRuns (xr 2 0 0) (xx_F G (fun r w => r = none ∧ ∃ (x2 g4 g5 : Nat → Int32), w = wC G q x2 n (fup (fup f 4 g4) 5 g5) kf kl ∧ agU x x2 ∧ x2 21 = nI (mr rr cnt (min cnt mem) cnt).2.2.2 ∧ (mr rr cnt (min cnt mem) cnt).2.2.2 ≤ cnt ∧ ∀ i, i < (mr rr cnt (min cnt mem) cnt).2.2.2 → g5 i = nI ((mr rr cnt (min cnt mem) cnt).2.2.1 i)) (xr 2 0 0)) 0 0 (wC G q xa n (fup (fup f 4 ga) 5 gb) kf kl) 116 [(7, .int (nI (rr nx))), (6, .int (nI ((h 0) / 1000))), (5, .int (nI (h 0))), (0, .ref (q 15)), (1, .int (nI cnt)), (2, .int (nI mem)), (3, .int (nI nx)), (4, .int (nI k))] [.int (nI (mr_run rr (h 0) nx))] := by
            have hRUN : mr_run rr (h 0) nx ≤ h 0 / 1000 + 1 := by unfold mr_run; split <;> omega
            refine XX.istore (lv2 := [(8, .int (nI (mr_run rr (h 0) nx))), (7, .int (nI (rr nx))), (6, .int (nI ((h 0) / 1000))), (5, .int (nI (h 0))), (0, .ref (q 15)), (1, .int (nI cnt)), (2, .int (nI mem)), (3, .int (nI nx)), (4, .int (nI k))]) dd_U_makeRuns_116 (by decide) rfl ?_
            refine XX.aload_n dd_U_makeRuns_118 rfl 4 rfl ?_
            refine XX.get (q0 := 15) (v := .ref (q 13)) fl_U_15 dd_U_makeRuns_119 rfl rfl ?_
            refine XX.iload dd_U_makeRuns_122 0 rfl ?_
            refine XX.sipush (v := nI 1000) dd_U_makeRuns_124 (by decide) ?_
            refine XX.imul dd_U_makeRuns_127 ?_
            refine XX.tp (y := nI ((mr_run rr (h 0) nx) * 1000)) (pk_mul _ _) ?_
            refine XX.iload dd_U_makeRuns_128 1 rfl ?_
            refine XX.iadd dd_U_makeRuns_130 ?_
            refine XX.tp (y := nI ((mr_run rr (h 0) nx) * 1000 + rr nx)) (nI_add _ _) ?_
            refine XX.callV (Mk := m_H_put) (n := 1) (As := [.int (nI ((mr_run rr (h 0) nx) * 1000 + rr nx))]) (rest := []) (q0 := 13) (ci := 7) (c_H_put (x := xa) (f := fup (fup f 4 ga) 5 gb) (cnt := nx - k - 1) (h := hp_dn (h (nx - k - 1)) (nx - k - 1) 0 1 h) (v := (mr_run rr (h 0) nx) * 1000 + rr nx) (by rw [hxa 20 (by omega)]; rfl) (by omega) (fun i hi => hga (by omega) i hi) (by omega)) mt_H_put mi_H_put ml_U_56 rfl dd_U_makeRuns_131 (rfl) rfl rfl ⟨xn_le rfl, xn_le rfl⟩ ⟨xn_le rfl, xn_le rfl⟩ (xn_le rfl) rfl (fun r1 w1 hp1 => ?_)
            obtain ⟨rfl, gc, rfl, hgc⟩ := hp1
            refine XX.cg (ws2 := wC G q (upd xa 20 (nI (nx - k - 1 + 1))) n (fup (fup f 4 gc) 5 gb) kf kl) (by rw [fup_sw]) rfl rfl ?_
            refine (?_ : XX G m_U_makeRuns (xr 2 0 0) (xx_F G (fun r w => r = none ∧ ∃ (x2 g4 g5 : Nat → Int32), w = wC G q x2 n (fup (fup f 4 g4) 5 g5) kf kl ∧ agU x x2 ∧ x2 21 = nI (mr rr cnt (min cnt mem) cnt).2.2.2 ∧ (mr rr cnt (min cnt mem) cnt).2.2.2 ≤ cnt ∧ ∀ i, i < (mr rr cnt (min cnt mem) cnt).2.2.2 → g5 i = nI ((mr rr cnt (min cnt mem) cnt).2.2.1 i)) (xr 2 0 0)) 0 0 (wC G q (upd xa 20 (nI (nx - k - 1 + 1))) n (fup (fup f 4 gc) 5 gb) kf kl) 134 [(8, .int (nI (mr_run rr (h 0) nx))), (7, .int (nI (rr nx))), (6, .int (nI ((h 0) / 1000))), (5, .int (nI (h 0))), (0, .ref (q 15)), (1, .int (nI cnt)), (2, .int (nI mem)), (3, .int (nI nx)), (4, .int (nI k))] [])
            refine XX.iinc (z := 7) (v := nI (nx + 1)) (lv2 := [(3, .int (nI (nx + 1))), (8, .int (nI (mr_run rr (h 0) nx))), (7, .int (nI (rr nx))), (6, .int (nI ((h 0) / 1000))), (5, .int (nI (h 0))), (0, .ref (q 15)), (1, .int (nI cnt)), (2, .int (nI mem)), (4, .int (nI k))]) dd_U_makeRuns_134 rfl ((nI_succ _).symm) (by decide) rfl ?_
            refine XX.iinc (z := 8) (v := nI (k + 1)) (lv2 := [(4, .int (nI (k + 1))), (3, .int (nI (nx + 1))), (8, .int (nI (mr_run rr (h 0) nx))), (7, .int (nI (rr nx))), (6, .int (nI ((h 0) / 1000))), (5, .int (nI (h 0))), (0, .ref (q 15)), (1, .int (nI cnt)), (2, .int (nI mem))]) dd_U_makeRuns_137 rfl ((nI_succ _).symm) (by decide) rfl ?_
            refine XX.goto (tgt := 52) dd_U_makeRuns_140 (by decide) ?_
            refine XX.lvs [6, 7, 8, 1, 0] rfl ?_
            exact ih _ (by omega) (k + 1) (nx + 1) _ _ _ _ gc gb rfl (by omega) (by rw [show mr rr cnt (min cnt mem) (k + 1) = mr_s rr cnt k (mr rr cnt (min cnt mem) k) from rfl, hS]; simp only [mr_s]; rw [if_pos (by omega)]) (by omega) hal1 (fun i h1 h2 => by simp [upd, h1]; rw [hxa i h2]; simp [upd, h1]; exact hag i h1 h2) (by show nI (nx - k - 1 + 1) = _; congr 1; omega) (by show xa 21 = _; exact hxa21) (fun i hi => hgc i (by omega)) (fun i hi => by
              refine hp_up_b (K := (al_rc (h 0 / 1000) rc + 1) * 1000) (n := nx - k - 1 + 1) (by omega) _ _ (by omega) (fun j hj e => ?_) i (by omega)
              have z := hp_dn_b (v := h (nx - k - 1)) (n := nx - k - 1) (K := (rc + 1) * 1000) (hbd _ (by omega)) _ 1 0 h rfl (by omega) (by omega) (fun j hj _ => hbd j (by omega)) j (by omega)
              omega) hgb
          refine XX.iload dd_U_makeRuns_96 0 rfl ?_
          refine XX.iload dd_U_makeRuns_98 2 rfl ?_
          refine XX.sipush (v := nI 1000) dd_U_makeRuns_100 (by decide) ?_
          refine XX.irem dd_U_makeRuns_103 (xn_ne0 (by omega) (by omega)) ?_
          refine XX.tp (y := nI ((h 0) % 1000)) (pk_rem (by omega) (by omega) (by omega)) ?_
          refine XX.ncmp_le (tgt := 112) dd_U_makeRuns_104 (by decide) (by omega) (by omega) (fun h104 => ?_) (fun h104 => ?_)
          ·
            refine XX.iload dd_U_makeRuns_112 1 rfl ?_
            refine XX.iconst (v := nI 1) dd_U_makeRuns_114 (by decide) ?_
            refine XX.iadd dd_U_makeRuns_115 ?_
            refine XX.tp (y := nI ((h 0) / 1000 + 1)) (nI_add _ _) ?_
            exact XX.tp (by rw [mr_run, if_neg (by omega)]) j116
          ·
            refine XX.iload dd_U_makeRuns_107 1 rfl ?_
            refine XX.goto (tgt := 116) dd_U_makeRuns_109 (by decide) ?_
            exact XX.tp (by rw [mr_run, if_pos (by omega)]) j116
  have loop1 : ∀ (kk j : Nat) (xx g4 : Nat → Int32), min cnt mem - j = kk → j ≤ min cnt mem → (∀ i, i ≠ 20 → xx i = x i) → xx 20 = nI j → hq g4 (mr_f rr j) j → (∀ i, i < j → mr_f rr j i < 1000) → XX G m_U_makeRuns (xr 2 0 0) (xx_F G (fun r w => r = none ∧ ∃ (x2 g4 g5 : Nat → Int32), w = wC G q x2 n (fup (fup f 4 g4) 5 g5) kf kl ∧ agU x x2 ∧ x2 21 = nI (mr rr cnt (min cnt mem) cnt).2.2.2 ∧ (mr rr cnt (min cnt mem) cnt).2.2.2 ≤ cnt ∧ ∀ i, i < (mr rr cnt (min cnt mem) cnt).2.2.2 → g5 i = nI ((mr rr cnt (min cnt mem) cnt).2.2.1 i)) (xr 2 0 0)) 0 0 (wC G q xx n (fup f 4 g4) kf kl) 16 [(0, .ref (q 15)), (1, .int (nI cnt)), (2, .int (nI mem)), (3, .int (nI (min cnt mem))), (4, .int (nI j))] [] := by
    intro kk
    induction kk using Nat.strongRecOn with
    | _ kk ih =>
      intro j xx g4 hk hj hag hx20 hg4 hbd
      refine XX.iload dd_U_makeRuns_16 4 rfl ?_
      refine XX.iload_n dd_U_makeRuns_18 rfl 3 rfl ?_
      refine XX.ncmp_ge (tgt := 44) dd_U_makeRuns_19 (by decide) (by omega) (by omega) (fun h19 => ?_) (fun h19 => ?_)
      ·
        refine XX.aload_n dd_U_makeRuns_44 rfl 0 rfl ?_
        refine XX.iconst (v := nI 0) dd_U_makeRuns_45 (by decide) ?_
        refine XX.put (q0 := 15) (ws2 := wC G q (upd xx 21 (nI 0)) n (fup f 4 g4) kf kl) fp_U_26 dd_U_makeRuns_46 rfl rfl rfl (xn_le rfl) rfl ?_
        refine XX.iconst (v := nI 0) dd_U_makeRuns_49 (by decide) ?_
        refine XX.istore (lv2 := [(4, .int (nI 0)), (0, .ref (q 15)), (1, .int (nI cnt)), (2, .int (nI mem)), (3, .int (nI (min cnt mem)))]) dd_U_makeRuns_50 (by decide) rfl ?_
        refine XX.lvs [1, 2, 3, 4, 0] rfl ?_
        refine XX.cg (ws2 := wC G q (upd xx 21 (nI 0)) n (fup (fup f 4 g4) 5 (f 5)) kf kl) (by show wC G q (upd xx 21 (nI 0)) n (fup f 4 g4) kf kl = wC G q (upd xx 21 (nI 0)) n (fup (fup f 4 g4) 5 ((fup f 4 g4) 5)) kf kl; rw [fup_self]) rfl rfl ?_
        obtain rfl : j = min cnt mem := by omega
        exact loop2 _ 0 (min cnt mem) 0 _ _ _ g4 (f 5) rfl (by omega) rfl (by omega) (by omega) (fun i h1 h2 => by simp [upd, h2]; exact hag i h1) (by show xx 20 = _; exact hx20) rfl hg4 (fun i hi => by have := hbd i (by omega); omega) (fun i hi => absurd hi (by omega))
      ·
        refine XX.aload_n dd_U_makeRuns_22 rfl 0 rfl ?_
        refine XX.get (q0 := 15) (v := .ref (q 13)) fl_U_15 dd_U_makeRuns_23 rfl rfl ?_
        refine XX.aload_n dd_U_makeRuns_26 rfl 0 rfl ?_
        refine XX.get (q0 := 15) (v := .ref (q 10)) fl_U_9 dd_U_makeRuns_27 rfl rfl ?_
        refine XX.iload dd_U_makeRuns_30 4 rfl ?_
        refine XX.callVr (Mk := m_R_rankOf) (n := 1) (As := [.int (nI j)]) (rest := [.ref (q 13)]) (q0 := 10) (ci := 6) (c_R_rankOf (f := (fup f 4 g4)) (l := j) (by omega)) mt_R_rankOf mi_R_rankOf ml_U_50 rfl dd_U_makeRuns_32 (rfl) rfl rfl ⟨xn_le rfl, xn_le rfl⟩ ⟨xn_le rfl, xn_le rfl⟩ (xn_le rfl) rfl ?_
        refine XX.tp (y := nI (rr j)) ((hrr j (by omega)).1) ?_
        have hrj := (hrr j (by omega)).2
        refine XX.callV (Mk := m_H_put) (n := 1) (As := [.int (nI (rr j))]) (rest := []) (q0 := 13) (ci := 7) (c_H_put (x := xx) (f := fup f 4 g4) (cnt := j) (h := mr_f rr j) (v := rr j) hx20 (by omega) hg4 (by omega)) mt_H_put mi_H_put ml_U_56 rfl dd_U_makeRuns_35 (rfl) rfl rfl ⟨xn_le rfl, xn_le rfl⟩ ⟨xn_le rfl, xn_le rfl⟩ (xn_le rfl) rfl (fun r1 w1 hp1 => ?_)
        obtain ⟨rfl, gc, rfl, hgc⟩ := hp1
        refine XX.cg (ws2 := wC G q (upd xx 20 (nI (j + 1))) n (fup f 4 gc) kf kl) (by rw [fup_fup]) rfl rfl ?_
        refine (?_ : XX G m_U_makeRuns (xr 2 0 0) (xx_F G (fun r w => r = none ∧ ∃ (x2 g4 g5 : Nat → Int32), w = wC G q x2 n (fup (fup f 4 g4) 5 g5) kf kl ∧ agU x x2 ∧ x2 21 = nI (mr rr cnt (min cnt mem) cnt).2.2.2 ∧ (mr rr cnt (min cnt mem) cnt).2.2.2 ≤ cnt ∧ ∀ i, i < (mr rr cnt (min cnt mem) cnt).2.2.2 → g5 i = nI ((mr rr cnt (min cnt mem) cnt).2.2.1 i)) (xr 2 0 0)) 0 0 (wC G q (upd xx 20 (nI (j + 1))) n (fup f 4 gc) kf kl) 38 [(0, .ref (q 15)), (1, .int (nI cnt)), (2, .int (nI mem)), (3, .int (nI (min cnt mem))), (4, .int (nI j))] [])
        refine XX.iinc (z := 4) (v := nI (j + 1)) (lv2 := [(4, .int (nI (j + 1))), (0, .ref (q 15)), (1, .int (nI cnt)), (2, .int (nI mem)), (3, .int (nI (min cnt mem)))]) dd_U_makeRuns_38 rfl ((nI_succ _).symm) (by decide) rfl ?_
        refine XX.goto (tgt := 16) dd_U_makeRuns_41 (by decide) ?_
        refine XX.lvs [1, 2, 3, 4, 0] rfl ?_
        exact ih _ (by omega) (j + 1) _ gc rfl (by omega) (fun i h1 => by simp [upd, h1]; exact hag i h1) rfl hgc (fun i hi => hp_up_b (K := 1000) (n := j + 1) hrj _ _ (by omega) (fun z hz e => hbd z (by omega)) i hi)
  refine XX.iload_n dd_U_makeRuns_0 rfl 1 rfl ?_
  refine XX.iload_n dd_U_makeRuns_1 rfl 2 rfl ?_
  refine XX.mmin dd_U_makeRuns_2 ml_U_39 jm_min_s jm_i jm_min_c (xn_le rfl) (xn_le rfl) ⟨xn_le rfl, xn_le rfl⟩ ?_
  refine XX.tp (y := nI (min cnt mem)) (xn_min (by omega) (by omega)) ?_
  refine XX.istore_n (lv2 := [(3, .int (nI (min cnt mem))), (0, .ref (q 15)), (1, .int (nI cnt)), (2, .int (nI mem))]) dd_U_makeRuns_5 rfl (by decide) rfl ?_
  refine XX.aload_n dd_U_makeRuns_6 rfl 1 rfl ?_
  refine XX.get (q0 := 15) (v := .ref (q 13)) fl_U_15 dd_U_makeRuns_7 rfl rfl ?_
  refine XX.callVx (Mk := m_H_clear) (n := 0) (As := []) (rest := []) (q0 := 13) (ci := 7) (c_H_clear) mt_H_clear mi_H_clear ml_U_45 rfl dd_U_makeRuns_10 (rfl) rfl rfl ⟨xn_le rfl, xn_le rfl⟩ ⟨xn_le rfl, xn_le rfl⟩ (xn_le rfl) rfl ?_
  refine XX.iconst (v := nI 0) dd_U_makeRuns_13 (by decide) ?_
  refine XX.istore (lv2 := [(4, .int (nI 0)), (3, .int (nI (min cnt mem))), (0, .ref (q 15)), (1, .int (nI cnt)), (2, .int (nI mem))]) dd_U_makeRuns_14 (by decide) rfl ?_
  refine XX.lvs [2, 3, 4, 1, 0] rfl ?_
  refine XX.cg (ws2 := wC G q (upd x 20 (nI 0)) n (fup f 4 (f 4)) kf kl) (by rw [fup_self]) rfl rfl ?_
  exact loop1 _ 0 _ (f 4) rfl (by omega) (fun i h1 => by simp [upd, h1]) rfl (fun i hi => absurd hi (by omega)) (fun i hi => absurd hi (by omega))

set_option maxRecDepth 100000 in
set_option maxHeartbeats 4000000 in
theorem c_U_countMerges {G : XG} {q : Nat → Nat} {x : Nat → Int32} {n : Nat → Nat} {f : Nat → Nat → Int32} {kf : Nat → Option Nat} {kl : va_W} {w rc : Nat} {ln : Nat → Nat} (hx21 : x 21 = nI rc) (hrc : rc ≤ 1000) (hw : 2 ≤ w) (hw2 : w ≤ 16) (hl : ∀ i, i < rc → f 5 i = nI (ln i)) : MM G m_U_countMerges (xr 1 0 0) [.ref (q 15), .int (nI w)] (wC G q x n f kf kl) (fun r w2 => r = none ∧ ∃ (x2 g6 : Nat → Int32), w2 = wC G q x2 n (fup f 6 g6) kf kl ∧ (∀ i, i ≠ 22 → i ≠ 23 → x2 i = x i) ∧ x2 22 = nI (cm w 0 rc ln 0 0).1 ∧ x2 23 = nI (cm w 0 rc ln 0 0).2) := by
  refine MM.of rfl (xn_le rfl) ?_
  refine (?_ : XX G m_U_countMerges (xr 1 0 0) (xx_F G (fun r w2 => r = none ∧ ∃ (x2 g6 : Nat → Int32), w2 = wC G q x2 n (fup f 6 g6) kf kl ∧ (∀ i, i ≠ 22 → i ≠ 23 → x2 i = x i) ∧ x2 22 = nI (cm w 0 rc ln 0 0).1 ∧ x2 23 = nI (cm w 0 rc ln 0 0).2) (xr 1 0 0)) 0 0 (wC G q x n f kf kl) 0 [(0, .ref (q 15)), (1, .int (nI w))] [])
  have loop : ∀ (kk a b mc lm : Nat) (qu : Nat → Nat) (xx g6 : Nat → Int32), b - a = kk → a ≤ b → b = rc + mc → mc ≤ 1000 → (∀ i, i ≠ 22 → i ≠ 23 → xx i = x i) → xx 22 = nI mc → xx 23 = nI lm → (∀ i, i < b → g6 i = nI (qu i)) → cm w a b qu mc lm = cm w 0 rc ln 0 0 → XX G m_U_countMerges (xr 1 0 0) (xx_F G (fun r w2 => r = none ∧ ∃ (x2 g6 : Nat → Int32), w2 = wC G q x2 n (fup f 6 g6) kf kl ∧ (∀ i, i ≠ 22 → i ≠ 23 → x2 i = x i) ∧ x2 22 = nI (cm w 0 rc ln 0 0).1 ∧ x2 23 = nI (cm w 0 rc ln 0 0).2) (xr 1 0 0)) 0 0 (wC G q xx n (fup f 6 g6) kf kl) 34 [(0, .ref (q 15)), (1, .int (nI w)), (2, .int (nI a)), (3, .int (nI b))] [] := by
    intro kk
    induction kk using Nat.strongRecOn with
    | _ kk ih =>
      intro a b mc lm qu xx g6 hk hab hb hmc hag h22 h23 hg6 hr
      have inner : 1 < b - a → mc < 1000 → ∀ (k2 i le : Nat), min b (a + w) - i = k2 → a ≤ i → i ≤ min b (a + w) → le + sr qu (min b (a + w) - i) i = sr qu (min b (a + w) - a) a → XX G m_U_countMerges (xr 1 0 0) (xx_F G (fun r w2 => r = none ∧ ∃ (x2 g6 : Nat → Int32), w2 = wC G q x2 n (fup f 6 g6) kf kl ∧ (∀ i, i ≠ 22 → i ≠ 23 → x2 i = x i) ∧ x2 22 = nI (cm w 0 rc ln 0 0).1 ∧ x2 23 = nI (cm w 0 rc ln 0 0).2) (xr 1 0 0)) 0 0 (wC G q xx n (fup f 6 g6) kf kl) 66 [(0, .ref (q 15)), (1, .int (nI w)), (2, .int (nI a)), (3, .int (nI b)), (4, .int (nI (min b (a + w)))), (5, .int (nI le)), (6, .int (nI i))] [] := by
        intro hba hmc2 k2
        induction k2 using Nat.strongRecOn with
        | _ k2 ih2 =>
          intro i le hk2 hi1 hi2 hs
          refine XX.iload dd_U_countMerges_66 6 rfl ?_
          refine XX.iload dd_U_countMerges_68 4 rfl ?_
          refine XX.ncmp_ge (tgt := 91) dd_U_countMerges_70 (by decide) (by omega) (by omega) (fun h70 => ?_) (fun h70 => ?_)
          ·
            refine XX.iload dd_U_countMerges_91 4 rfl ?_
            refine XX.istore_n (lv2 := [(2, .int (nI (min b (a + w)))), (0, .ref (q 15)), (1, .int (nI w)), (3, .int (nI b)), (4, .int (nI (min b (a + w)))), (5, .int (nI le)), (6, .int (nI i))]) dd_U_countMerges_93 rfl (by decide) rfl ?_
            refine XX.aload_n dd_U_countMerges_94 rfl 1 rfl ?_
            refine XX.get (q0 := 15) (v := .ref (q 17)) fl_U_23 dd_U_countMerges_95 rfl rfl ?_
            refine XX.iload_n dd_U_countMerges_98 rfl 3 rfl ?_
            refine XX.iload dd_U_countMerges_99 5 rfl ?_
            refine XX.iast (q0 := 17) (n := 2000) (j := b) (f := g6) (ws2 := wC G q xx n (fup (fup f 6 g6) 6 (upd g6 b (nI le))) kf kl) dd_U_countMerges_101 rfl (by omega) (by decide) rfl ?_
            refine XX.iinc (z := 3) (v := nI (b + 1)) (lv2 := [(3, .int (nI (b + 1))), (2, .int (nI (min b (a + w)))), (0, .ref (q 15)), (1, .int (nI w)), (4, .int (nI (min b (a + w)))), (5, .int (nI le)), (6, .int (nI i))]) dd_U_countMerges_102 rfl ((nI_succ _).symm) (by decide) rfl ?_
            refine XX.aload_n dd_U_countMerges_105 rfl 2 rfl ?_
            refine XX.dup dd_U_countMerges_106 rfl ?_
            refine XX.get (q0 := 15) (v := .int (xx 22)) fl_U_30 dd_U_countMerges_107 rfl rfl ?_
            refine XX.tp (y := nI mc) (h22) ?_
            refine XX.iconst (v := nI 1) dd_U_countMerges_110 (by decide) ?_
            refine XX.iadd dd_U_countMerges_111 ?_
            refine XX.tp (y := nI (mc + 1)) (nI_add _ _) ?_
            refine XX.put (q0 := 15) (ws2 := wC G q (upd xx 22 (nI (mc + 1))) n (fup (fup f 6 g6) 6 (upd g6 b (nI le))) kf kl) fp_U_30 dd_U_countMerges_112 rfl rfl rfl (xn_le rfl) rfl ?_
            refine XX.aload_n dd_U_countMerges_115 rfl 2 rfl ?_
            refine XX.dup dd_U_countMerges_116 rfl ?_
            refine XX.get (q0 := 15) (v := .int ((upd xx 22 (nI (mc + 1))) 23)) fl_U_33 dd_U_countMerges_117 rfl rfl ?_
            refine XX.tp (y := nI lm) (h23) ?_
            refine XX.iload dd_U_countMerges_120 5 rfl ?_
            refine XX.iadd dd_U_countMerges_122 ?_
            refine XX.tp (y := nI (lm + le)) (nI_add _ _) ?_
            refine XX.put (q0 := 15) (ws2 := wC G q (upd (upd xx 22 (nI (mc + 1))) 23 (nI (lm + le))) n (fup (fup f 6 g6) 6 (upd g6 b (nI le))) kf kl) fp_U_33 dd_U_countMerges_123 rfl rfl rfl (xn_le rfl) rfl ?_
            refine XX.goto (tgt := 34) dd_U_countMerges_126 (by decide) ?_
            refine XX.lvs [2, 3, 1, 0] rfl ?_
            obtain rfl : le = sr qu (min b (a + w) - a) a := by rw [← hs, sr_0 (by omega)]; omega
            refine XX.cg (ws2 := wC G q (upd (upd xx 22 (nI (mc + 1))) 23 (nI (lm + sr qu (min b (a + w) - a) a))) n (fup f 6 (upd g6 b (nI (sr qu (min b (a + w) - a) a)))) kf kl) (by rw [fup_fup]) rfl rfl ?_
            exact ih _ (by omega) (min b (a + w)) (b + 1) (mc + 1) (lm + sr qu (min b (a + w) - a) a) (updN qu b (sr qu (min b (a + w) - a) a)) _ _ rfl (by omega) (by omega) (by omega) (fun j h1 h2 => by simp [upd, h1, h2]; exact hag j h1 h2) rfl rfl (fun j hj => by
              by_cases e : j = b
              · rw [e, pk_us, updN_s]
              · rw [pk_un e, updN_n e]; exact hg6 j (by omega)) (by rw [← hr]; exact (cm_t hba hmc2 hw).symm)
          ·
            refine XX.iload dd_U_countMerges_73 5 rfl ?_
            refine XX.aload_n dd_U_countMerges_75 rfl 0 rfl ?_
            refine XX.get (q0 := 15) (v := .ref (q 17)) fl_U_23 dd_U_countMerges_76 rfl rfl ?_
            refine XX.iload dd_U_countMerges_79 6 rfl ?_
            refine XX.iald (q0 := 17) (n := 2000) (j := i) (f := g6) dd_U_countMerges_81 rfl (by omega) (by decide) ?_
            refine XX.tp (y := nI (qu i)) (hg6 i (by omega)) ?_
            refine XX.iadd dd_U_countMerges_82 ?_
            refine XX.tp (y := nI (le + qu i)) (nI_add _ _) ?_
            refine XX.istore (lv2 := [(5, .int (nI (le + qu i))), (0, .ref (q 15)), (1, .int (nI w)), (2, .int (nI a)), (3, .int (nI b)), (4, .int (nI (min b (a + w)))), (6, .int (nI i))]) dd_U_countMerges_83 (by decide) rfl ?_
            refine XX.iinc (z := 6) (v := nI (i + 1)) (lv2 := [(6, .int (nI (i + 1))), (5, .int (nI (le + qu i))), (0, .ref (q 15)), (1, .int (nI w)), (2, .int (nI a)), (3, .int (nI b)), (4, .int (nI (min b (a + w))))]) dd_U_countMerges_85 rfl ((nI_succ _).symm) (by decide) rfl ?_
            refine XX.goto (tgt := 66) dd_U_countMerges_88 (by decide) ?_
            refine XX.lvs [2, 3, 4, 5, 6, 1, 0] rfl ?_
            exact ih2 _ (by omega) (i + 1) (le + qu i) rfl (by omega) (by omega) (by rw [← hs, sr_s (a := i) (by omega)]; omega)
      refine XX.iload_n dd_U_countMerges_34 rfl 3 rfl ?_
      refine XX.iload_n dd_U_countMerges_35 rfl 2 rfl ?_
      refine XX.isub dd_U_countMerges_36 ?_
      refine XX.tp (y := nI (b - a)) (pk_sub (by omega)) ?_
      refine XX.iconst (v := nI 1) dd_U_countMerges_37 (by decide) ?_
      refine XX.ncmp_le (tgt := 129) dd_U_countMerges_38 (by decide) (by omega) (by omega) (fun h38 => ?_) (fun h38 => ?_)
      ·
        exact XX.vret dd_U_countMerges_129 rfl ⟨xn_le rfl, xn_le rfl⟩ ⟨rfl, xx, g6, rfl, hag, by rw [h22, ← hr, cm_f (by omega)], by rw [h23, ← hr, cm_f (by omega)]⟩
      ·
        refine XX.aload_n dd_U_countMerges_41 rfl 0 rfl ?_
        refine XX.get (q0 := 15) (v := .int (xx 22)) fl_U_30 dd_U_countMerges_42 rfl rfl ?_
        refine XX.tp (y := nI mc) (h22) ?_
        refine XX.sipush (v := nI 1000) dd_U_countMerges_45 (by decide) ?_
        refine XX.ncmp_ge (tgt := 129) dd_U_countMerges_48 (by decide) (by omega) (by omega) (fun h48 => ?_) (fun h48 => ?_)
        ·
          exact XX.vret dd_U_countMerges_129 rfl ⟨xn_le rfl, xn_le rfl⟩ ⟨rfl, xx, g6, rfl, hag, by rw [h22, ← hr, cm_f (by omega)], by rw [h23, ← hr, cm_f (by omega)]⟩
        ·
          refine XX.iload_n dd_U_countMerges_51 rfl 3 rfl ?_
          refine XX.iload_n dd_U_countMerges_52 rfl 2 rfl ?_
          refine XX.iload_n dd_U_countMerges_53 rfl 1 rfl ?_
          refine XX.iadd dd_U_countMerges_54 ?_
          refine XX.tp (y := nI (a + w)) (nI_add _ _) ?_
          refine XX.mmin dd_U_countMerges_55 ml_U_39 jm_min_s jm_i jm_min_c (xn_le rfl) (xn_le rfl) ⟨xn_le rfl, xn_le rfl⟩ ?_
          refine XX.tp (y := nI (min b (a + w))) (xn_min (by omega) (by omega)) ?_
          refine XX.istore (lv2 := [(4, .int (nI (min b (a + w)))), (0, .ref (q 15)), (1, .int (nI w)), (2, .int (nI a)), (3, .int (nI b))]) dd_U_countMerges_58 (by decide) rfl ?_
          refine XX.iconst (v := nI 0) dd_U_countMerges_60 (by decide) ?_
          refine XX.istore (lv2 := [(5, .int (nI 0)), (4, .int (nI (min b (a + w)))), (0, .ref (q 15)), (1, .int (nI w)), (2, .int (nI a)), (3, .int (nI b))]) dd_U_countMerges_61 (by decide) rfl ?_
          refine XX.iload_n dd_U_countMerges_63 rfl 4 rfl ?_
          refine XX.istore (lv2 := [(6, .int (nI a)), (5, .int (nI 0)), (4, .int (nI (min b (a + w)))), (0, .ref (q 15)), (1, .int (nI w)), (2, .int (nI a)), (3, .int (nI b))]) dd_U_countMerges_64 (by decide) rfl ?_
          refine XX.lvs [3, 4, 5, 6, 2, 1, 0] rfl ?_
          exact inner (by omega) (by omega) _ a 0 rfl (by omega) (by omega) (by omega)
  refine XX.aload_n dd_U_countMerges_0 rfl 0 rfl ?_
  refine XX.get (q0 := 15) (v := .ref (q 16)) fl_U_19 dd_U_countMerges_1 rfl rfl ?_
  refine XX.iconst (v := nI 0) dd_U_countMerges_4 (by decide) ?_
  refine XX.aload_n dd_U_countMerges_5 rfl 0 rfl ?_
  refine XX.get (q0 := 15) (v := .ref (q 17)) fl_U_23 dd_U_countMerges_6 rfl rfl ?_
  refine XX.iconst (v := nI 0) dd_U_countMerges_9 (by decide) ?_
  refine XX.aload_n dd_U_countMerges_10 rfl 0 rfl ?_
  refine XX.get (q0 := 15) (v := .int (x 21)) fl_U_26 dd_U_countMerges_11 rfl rfl ?_
  refine XX.tp (y := nI rc) (hx21) ?_
  refine XX.copy (q0 := 16) (q1 := 17) (t := 1) (n0 := 1000) (n1 := 2000) (f := f 5) (g := f 6) (ws2 := wC G q x n (fup f 6 (va_cpy (f 5) (f 6) 0 0 rc)) kf kl) dd_U_countMerges_14 ml_U_67 rfl rfl rfl rfl (by omega) (by omega) (by decide) (by decide) (fun _ _ => rfl) (xn_le rfl) (xn_le rfl) rfl ?_
  refine XX.iconst (v := nI 0) dd_U_countMerges_17 (by decide) ?_
  refine XX.istore_n (lv2 := [(2, .int (nI 0)), (0, .ref (q 15)), (1, .int (nI w))]) dd_U_countMerges_18 rfl (by decide) rfl ?_
  refine XX.aload_n dd_U_countMerges_19 rfl 1 rfl ?_
  refine XX.get (q0 := 15) (v := .int (x 21)) fl_U_26 dd_U_countMerges_20 rfl rfl ?_
  refine XX.tp (y := nI rc) (hx21) ?_
  refine XX.istore_n (lv2 := [(3, .int (nI rc)), (2, .int (nI 0)), (0, .ref (q 15)), (1, .int (nI w))]) dd_U_countMerges_23 rfl (by decide) rfl ?_
  refine XX.aload_n dd_U_countMerges_24 rfl 2 rfl ?_
  refine XX.iconst (v := nI 0) dd_U_countMerges_25 (by decide) ?_
  refine XX.put (q0 := 15) (ws2 := wC G q (upd x 22 (nI 0)) n (fup f 6 (va_cpy (f 5) (f 6) 0 0 rc)) kf kl) fp_U_30 dd_U_countMerges_26 rfl rfl rfl (xn_le rfl) rfl ?_
  refine XX.aload_n dd_U_countMerges_29 rfl 2 rfl ?_
  refine XX.iconst (v := nI 0) dd_U_countMerges_30 (by decide) ?_
  refine XX.put (q0 := 15) (ws2 := wC G q (upd (upd x 22 (nI 0)) 23 (nI 0)) n (fup f 6 (va_cpy (f 5) (f 6) 0 0 rc)) kf kl) fp_U_33 dd_U_countMerges_31 rfl rfl rfl (xn_le rfl) rfl ?_
  refine XX.lvs [2, 3, 1, 0] rfl ?_
  exact loop _ 0 rc 0 0 ln _ _ rfl (by omega) (by omega) (by omega) (fun i h1 h2 => by simp [upd, h1, h2]) rfl rfl (fun i hi => by rw [va_cpy, if_pos (by omega)]; simp; exact hl i hi) rfl

