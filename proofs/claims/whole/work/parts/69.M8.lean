/-! merging the first runs -/
def f4 (f : Nat → Nat → Int32) (gr gs go gt : Nat → Int32) : Nat → Nat → Int32 := fun i => if i = 6 then gr else if i = 7 then gs else if i = 8 then go else if i = 11 then gt else f i
theorem f4_6 (f : Nat → Nat → Int32) (gr gs go gt u : Nat → Int32) : fup (f4 f gr gs go gt) 6 u = f4 f u gs go gt := by
  funext j; unfold fup f4; by_cases h1 : j = 6 <;> simp [h1]
theorem f4_7 (f : Nat → Nat → Int32) (gr gs go gt u : Nat → Int32) : fup (f4 f gr gs go gt) 7 u = f4 f gr u go gt := by
  funext j; unfold fup f4; by_cases h1 : j = 7 <;> by_cases h2 : j = 6 <;> simp_all
theorem f4_8 (f : Nat → Nat → Int32) (gr gs go gt u : Nat → Int32) : fup (f4 f gr gs go gt) 8 u = f4 f gr gs u gt := by
  funext j; unfold fup f4; by_cases h1 : j = 8 <;> by_cases h2 : j = 6 <;> by_cases h3 : j = 7 <;> simp_all
theorem f4_11 (f : Nat → Nat → Int32) (gr gs go gt u : Nat → Int32) : fup (f4 f gr gs go gt) 11 u = f4 f gr gs go u := by
  funext j; unfold fup f4; by_cases h1 : j = 11 <;> by_cases h2 : j = 6 <;> by_cases h3 : j = 7 <;> by_cases h4 : j = 8 <;> simp_all
theorem f4_self (f : Nat → Nat → Int32) : f4 f (f 6) (f 7) (f 8) (f 11) = f := by
  funext j; unfold f4; by_cases h2 : j = 6 <;> by_cases h3 : j = 7 <;> by_cases h4 : j = 8 <;> by_cases h1 : j = 11 <;> simp_all
/-- where run i begins -/
def pf (sz : Nat → Nat) (i : Nat) : Nat := sr sz (i - 0) 0
theorem pf_0 (sz : Nat → Nat) : pf sz 0 = 0 := rfl
theorem sr_snoc (sz : Nat → Nat) : ∀ n a, sr sz (n + 1) a = sr sz n a + sz (a + n) := by
  intro n
  induction n with
  | zero => intro a; simp [sr]
  | succ n ih =>
    intro a
    have h1 : sr sz (n + 1 + 1) a = sz a + sr sz (n + 1) (a + 1) := rfl
    have h2 : sr sz (n + 1) a = sz a + sr sz n (a + 1) := rfl
    rw [h1, ih (a + 1), h2, show a + 1 + n = a + (n + 1) by omega]; omega
theorem pf_s (sz : Nat → Nat) (i : Nat) : pf sz (i + 1) = pf sz i + sz i := by
  unfold pf
  rw [Nat.sub_zero, Nat.sub_zero, sr_snoc, Nat.zero_add]
theorem pf_mono (sz : Nat → Nat) {i n : Nat} (h : i ≤ n) : pf sz i ≤ pf sz n := by
  induction n with
  | zero => rw [show i = 0 by omega]; exact Nat.le_refl _
  | succ n ih =>
    by_cases e : i = n + 1
    · rw [e]; exact Nat.le_refl _
    · have := ih (by omega); rw [pf_s]; omega
theorem pf_in (sz : Nat → Nat) {i n t : Nat} (h : i < n) (ht : t < sz i) : pf sz i + t < pf sz n := by
  have h1 := pf_s sz i
  have h2 := pf_mono sz (show i + 1 ≤ n by omega)
  omega
def mf_sel (o : Nat → Nat → Ordering) (ro sz tk : Nat → Nat) : Nat → Option Nat
  | 0 => none
  | i + 1 => if tk i < sz i then (match mf_sel o ro sz tk i with
      | none => some i
      | some b => if bf o (ro (pf sz i + tk i)) (ro (pf sz b + tk b)) = true then some i else some b) else mf_sel o ro sz tk i
theorem mf_sel_lt {o : Nat → Nat → Ordering} {ro sz tk : Nat → Nat} : ∀ {i b : Nat}, mf_sel o ro sz tk i = some b → b < i ∧ tk b < sz b := by
  intro i
  induction i with
  | zero => intro b h; cases h
  | succ i ih =>
    intro b h
    rw [mf_sel] at h
    split at h
    · rename_i h1
      split at h
      · cases h; exact ⟨by omega, h1⟩
      · rename_i b2 hb2
        split at h
        · cases h; exact ⟨by omega, h1⟩
        · cases h; have := ih hb2; exact ⟨by omega, this.2⟩
    · have := ih h; exact ⟨by omega, this.2⟩
theorem mf_sel_no {o : Nat → Nat → Ordering} {ro sz tk : Nat → Nat} : ∀ {n : Nat}, mf_sel o ro sz tk n = none → pf sz n ≤ pf tk n := by
  intro n
  induction n with
  | zero => intro _; exact Nat.le_refl _
  | succ n ih =>
    intro h
    rw [mf_sel] at h
    split at h
    · split at h
      · cases h
      · split at h <;> cases h
    · have := ih h; rw [pf_s, pf_s]; omega
theorem mf_s1 {o : Nat → Nat → Ordering} {ro sz tk : Nat → Nat} {i : Nat} (h : sz i ≤ tk i) : mf_sel o ro sz tk (i + 1) = mf_sel o ro sz tk i := by rw [mf_sel, if_neg (by omega)]
theorem mf_s2 {o : Nat → Nat → Ordering} {ro sz tk : Nat → Nat} {i : Nat} (h : tk i < sz i) (h2 : mf_sel o ro sz tk i = none) : mf_sel o ro sz tk (i + 1) = some i := by rw [mf_sel, if_pos h, h2]
theorem mf_s3 {o : Nat → Nat → Ordering} {ro sz tk : Nat → Nat} {i b : Nat} (h : tk i < sz i) (h2 : mf_sel o ro sz tk i = some b) (h3 : bf o (ro (pf sz i + tk i)) (ro (pf sz b + tk b)) = true) : mf_sel o ro sz tk (i + 1) = some i := by rw [mf_sel, if_pos h, h2]; simp [h3]
theorem mf_s4 {o : Nat → Nat → Ordering} {ro sz tk : Nat → Nat} {i b : Nat} (h : tk i < sz i) (h2 : mf_sel o ro sz tk i = some b) (h3 : bf o (ro (pf sz i + tk i)) (ro (pf sz b + tk b)) = false) : mf_sel o ro sz tk (i + 1) = some b := by rw [mf_sel, if_pos h, h2]; simp [h3]
def mf_st (o : Nat → Nat → Ordering) (ro sz : Nat → Nat) (n d : Nat) (S : (Nat → Nat) × (Nat → Nat)) : (Nat → Nat) × (Nat → Nat) :=
  match mf_sel o ro sz S.1 n with
  | none => S
  | some b => (updN S.1 b (S.1 b + 1), updN S.2 d (ro (pf sz b + S.1 b)))
/-- d lines have been merged: how many of each run, and the lines -/
def mf (o : Nat → Nat → Ordering) (ro sz : Nat → Nat) (n : Nat) : Nat → (Nat → Nat) × (Nat → Nat)
  | 0 => (fun _ => 0, fun _ => 0)
  | d + 1 => mf_st o ro sz n d (mf o ro sz n d)
theorem pf_upd {tk : Nat → Nat} {b n : Nat} (h : b < n) : pf (updN tk b (tk b + 1)) n = pf tk n + 1 := by
  induction n with
  | zero => omega
  | succ n ih =>
    rw [pf_s, pf_s]
    by_cases e : b = n
    · subst e
      have : ∀ m, m ≤ b → pf (updN tk b (tk b + 1)) m = pf tk m := by
        intro m
        induction m with
        | zero => intro _; rfl
        | succ m ih2 => intro hm; rw [pf_s, pf_s, ih2 (by omega), updN_n (by omega)]
      rw [this b (Nat.le_refl _), updN_s]; omega
    · rw [ih (by omega), updN_n (fun z => e z.symm)]; omega
def mm_n (w rn : Nat) : Nat := if w < rn then w else rn
def mm_ro (o : Nat → Nat → Ordering) (ln w rn : Nat) (ro sz : Nat → Nat) : Nat → Nat := fun k => if k < ln - pf sz (mm_n w rn) then ro (pf sz (mm_n w rn) + k) else (mf o ro sz (mm_n w rn) (pf sz (mm_n w rn))).2 (k - (ln - pf sz (mm_n w rn)))
def mm_sz (w rn : Nat) (sz : Nat → Nat) : Nat → Nat := updN (fun i => sz (i + mm_n w rn)) (rn - mm_n w rn) (pf sz (mm_n w rn))

set_option maxRecDepth 100000 in
set_option maxHeartbeats 4000000 in
theorem c_M_mergeFirst {G : XG} {q : Nat → Nat} {x : Nat → Int32} {f : Nat → Nat → Int32} {kl : va_W} {len ln : Nat} {st : Nat → Nat} {B : Nat → Int32} (ht : mtx x f len ln st B) (hby : bfit B len) {sep : Int32} (hx6 : x 6 = sep) {kc : Nat} {kd : Nat → Nat → Nat} {kg : Nat → Int32} {all : Int32} (hk : mky x f kc kd kg) (hx3 : x 3 = all) {bs bo : Bool} (hx4 : x 4 = bI bs) (hx5 : x 5 = bI bo) {hd : Bool} (hx10 : x 10 = bI hd) (hhd : hd = true → ln ≤ 1000 ∧ ∀ l k, l < ln → k < max 1 kc → f 3 (6 * l + k) = nI (ky_begin B sep (ky_fl (kgu kc kg k) all) (kdu kc kd k 0) (kdu kc kd k 1) (st l) (men len st l)) ∧ f 4 (6 * l + k) = nI (ky_end B sep (ky_fl (kgu kc kg k) all) (kdu kc kd k 2) (kdu kc kd k 3) (st l) (men len st l))) {wy rn mg mv : Nat} {ro sz : Nat → Nat} (hx1 : x 1 = nI ln) (hln1 : ln ≤ 1000) (hx9 : x 9 = nI wy) (hw : 2 ≤ wy) (hw2 : wy ≤ 16) (hx12 : x 12 = nI rn) (hrn : rn ≤ ln) (hrn2 : 2 ≤ rn) (hx14 : x 14 = nI mg) (hx15 : x 15 = nI mv) (hro : ∀ i, i < ln → f 6 i = nI (ro i) ∧ ro i < ln) (hsz : ∀ i, i < rn → f 7 i = nI (sz i)) (hsum : pf sz rn = ln) (htk : ∀ i, i < 1000 → f 11 i = nI 0) : MM G m_M_mergeFirst (xr 9 0 0) [.ref (q 0)] (wM G q x f kl) (fun r w => r = none ∧ ∃ x2 gr gs go gt : Nat → Int32, w = wM G q x2 (f4 f gr gs go gt) kl ∧ (∀ i, i ≠ 12 → i ≠ 14 → i ≠ 15 → i ≠ 17 → i ≠ 18 → x2 i = x i) ∧ x2 12 = nI (rn - mm_n wy rn + 1) ∧ x2 14 = nI (mg + 1) ∧ x2 15 = nI (mv + pf sz (mm_n wy rn)) ∧ (∀ i, i < ln → gr i = nI (mm_ro (oml B sep all kc kd kg bs bo len st) ln wy rn ro sz i)) ∧ (∀ i, i < rn - mm_n wy rn + 1 → gs i = nI (mm_sz wy rn sz i)) ∧ ∀ i, i < 1000 → gt i = nI 0) := by
  obtain ⟨hx0, hl0, hln, hst, hse, hB⟩ := id ht
  have hn1 : mm_n wy rn ≤ rn := by unfold mm_n; split <;> omega
  have hn16 : mm_n wy rn ≤ 1000 := by omega
  have hn0 : 2 ≤ mm_n wy rn := by unfold mm_n; split <;> omega
  have htot : pf sz (mm_n wy rn) ≤ ln := by have := pf_mono sz hn1; omega
  refine MM.of rfl (xn_le rfl) ?_
  refine (?_ : XX G m_M_mergeFirst (xr 9 0 0) (xx_F G (fun r w => r = none ∧ ∃ x2 gr gs go gt : Nat → Int32, w = wM G q x2 (f4 f gr gs go gt) kl ∧ (∀ i, i ≠ 12 → i ≠ 14 → i ≠ 15 → i ≠ 17 → i ≠ 18 → x2 i = x i) ∧ x2 12 = nI (rn - mm_n wy rn + 1) ∧ x2 14 = nI (mg + 1) ∧ x2 15 = nI (mv + pf sz (mm_n wy rn)) ∧ (∀ i, i < ln → gr i = nI (mm_ro (oml B sep all kc kd kg bs bo len st) ln wy rn ro sz i)) ∧ (∀ i, i < rn - mm_n wy rn + 1 → gs i = nI (mm_sz wy rn sz i)) ∧ ∀ i, i < 1000 → gt i = nI 0) (xr 9 0 0)) 0 0 (wM G q x f kl) 0 [(0, .ref (q 0))] [])
  have l286 : ∀ (kk i : Nat) (xx gr gs go gt : Nat → Int32), rn - i = kk → mm_n wy rn ≤ i → i ≤ rn → agF x xx → (∀ k, k < ln → gr k = nI (mm_ro (oml B sep all kc kd kg bs bo len st) ln wy rn ro sz k)) → (∀ k, k < i - mm_n wy rn → gs k = nI (sz (k + mm_n wy rn))) → (∀ k, i - mm_n wy rn ≤ k → k < rn → gs k = nI (sz k)) → (∀ k, k < 1000 → gt k = nI 0) → XX G m_M_mergeFirst (xr 9 0 0) (xx_F G (fun r w => r = none ∧ ∃ x2 gr gs go gt : Nat → Int32, w = wM G q x2 (f4 f gr gs go gt) kl ∧ (∀ i, i ≠ 12 → i ≠ 14 → i ≠ 15 → i ≠ 17 → i ≠ 18 → x2 i = x i) ∧ x2 12 = nI (rn - mm_n wy rn + 1) ∧ x2 14 = nI (mg + 1) ∧ x2 15 = nI (mv + pf sz (mm_n wy rn)) ∧ (∀ i, i < ln → gr i = nI (mm_ro (oml B sep all kc kd kg bs bo len st) ln wy rn ro sz i)) ∧ (∀ i, i < rn - mm_n wy rn + 1 → gs i = nI (mm_sz wy rn sz i)) ∧ ∀ i, i < 1000 → gt i = nI 0) (xr 9 0 0)) 0 0 (wM G q xx (f4 f gr gs go gt) kl) 286 [(0, .ref (q 0)), (1, .int (nI (mm_n wy rn))), (2, .int (nI (pf sz (mm_n wy rn)))), (3, .int (nI (ln - pf sz (mm_n wy rn)))), (4, .int (nI (pf sz (mm_n wy rn)))), (5, .int (nI i))] [] := by
    intro kk
    induction kk using Nat.strongRecOn with
    | _ kk ih =>
      intro i xx gr gs go gt hkk hi1 hi2 hg hgr hgs1 hgs2 hgt
      have hta : mtx xx f len ln st B := mtx_mv ht (hg 0 (by omega) (by omega))
      have hka : mky xx f kc kd kg := mky_mv hk (hg 7 (by omega) (by omega))
      have h1a : xx 1 = _ := (hg 1 (by omega) (by omega)).trans hx1
      have h3a : xx 3 = _ := (hg 3 (by omega) (by omega)).trans hx3
      have h4a : xx 4 = _ := (hg 4 (by omega) (by omega)).trans hx4
      have h5a : xx 5 = _ := (hg 5 (by omega) (by omega)).trans hx5
      have h6a : xx 6 = _ := (hg 6 (by omega) (by omega)).trans hx6
      have h9a : xx 9 = _ := (hg 9 (by omega) (by omega)).trans hx9
      have h10a : xx 10 = _ := (hg 10 (by omega) (by omega)).trans hx10
      have h12a : xx 12 = _ := (hg 12 (by omega) (by omega)).trans hx12
      have h14a : xx 14 = _ := (hg 14 (by omega) (by omega)).trans hx14
      have h15a : xx 15 = _ := (hg 15 (by omega) (by omega)).trans hx15
      refine XX.iload dd_M_mergeFirst_286 5 rfl ?_
      refine XX.aload_n dd_M_mergeFirst_288 rfl 0 rfl ?_
      refine XX.get (q0 := 0) (v := .int (xx 12)) fl_M_194 dd_M_mergeFirst_289 rfl rfl ?_
      refine XX.tp (y := nI rn) (h12a) ?_
      refine XX.ncmp_ge (tgt := 317) dd_M_mergeFirst_292 (by decide) (by omega) (by omega) (fun h292 => ?_) (fun h292 => ?_)
      ·
        refine XX.aload_n dd_M_mergeFirst_317 rfl 0 rfl ?_
        refine XX.dup dd_M_mergeFirst_318 rfl ?_
        refine XX.get (q0 := 0) (v := .int (xx 12)) fl_M_194 dd_M_mergeFirst_319 rfl rfl ?_
        refine XX.tp (y := nI rn) (h12a) ?_
        refine XX.iload_n dd_M_mergeFirst_322 rfl 1 rfl ?_
        refine XX.isub dd_M_mergeFirst_323 ?_
        refine XX.tp (y := nI (rn - (mm_n wy rn))) (pk_sub (by omega)) ?_
        refine XX.put (q0 := 0) (ws2 := wM G q (upd xx 12 (nI (rn - (mm_n wy rn)))) (f4 f gr gs go gt) kl) fp_M_194 dd_M_mergeFirst_324 rfl rfl rfl (xn_le rfl) rfl ?_
        refine XX.aload_n dd_M_mergeFirst_327 rfl 0 rfl ?_
        refine XX.get (q0 := 0) (v := .ref (q 8)) fl_M_42 dd_M_mergeFirst_328 rfl rfl ?_
        refine XX.aload_n dd_M_mergeFirst_331 rfl 0 rfl ?_
        refine XX.get (q0 := 0) (v := .int (nI (rn - (mm_n wy rn)))) fl_M_194 dd_M_mergeFirst_332 rfl rfl ?_
        refine XX.iload_n dd_M_mergeFirst_335 rfl 2 rfl ?_
        refine XX.iast (q0 := 8) (n := 1000) (j := rn - (mm_n wy rn)) (f := gs) (ws2 := wM G q (upd xx 12 (nI (rn - (mm_n wy rn)))) (fup (f4 f gr gs go gt) 7 (upd gs (rn - (mm_n wy rn)) (nI (pf sz (mm_n wy rn))))) kl) dd_M_mergeFirst_336 rfl (by omega) (by decide) rfl ?_
        refine XX.cg (ws2 := wM G q (upd xx 12 (nI (rn - (mm_n wy rn)))) (f4 f gr (upd gs (rn - (mm_n wy rn)) (nI (pf sz (mm_n wy rn)))) go gt) kl) (by first | rw [f4_6] | rw [f4_7] | rw [f4_8] | rw [f4_11]) rfl rfl ?_
        refine XX.aload_n dd_M_mergeFirst_337 rfl 0 rfl ?_
        refine XX.dup dd_M_mergeFirst_338 rfl ?_
        refine XX.get (q0 := 0) (v := .int (nI (rn - (mm_n wy rn)))) fl_M_194 dd_M_mergeFirst_339 rfl rfl ?_
        refine XX.iconst (v := nI 1) dd_M_mergeFirst_342 (by decide) ?_
        refine XX.iadd dd_M_mergeFirst_343 ?_
        refine XX.tp (y := nI (rn - (mm_n wy rn) + 1)) (nI_add _ _) ?_
        refine XX.put (q0 := 0) (ws2 := wM G q (upd (upd xx 12 (nI (rn - (mm_n wy rn)))) 12 (nI (rn - (mm_n wy rn) + 1))) (f4 f gr (upd gs (rn - (mm_n wy rn)) (nI (pf sz (mm_n wy rn)))) go gt) kl) fp_M_194 dd_M_mergeFirst_344 rfl rfl rfl (xn_le rfl) rfl ?_
        refine XX.aload_n dd_M_mergeFirst_347 rfl 0 rfl ?_
        refine XX.dup dd_M_mergeFirst_348 rfl ?_
        refine XX.get (q0 := 0) (v := .int ((upd (upd xx 12 (nI (rn - (mm_n wy rn)))) 12 (nI (rn - (mm_n wy rn) + 1))) 14)) fl_M_203 dd_M_mergeFirst_349 rfl rfl ?_
        refine XX.tp (y := nI mg) (h14a) ?_
        refine XX.iconst (v := nI 1) dd_M_mergeFirst_352 (by decide) ?_
        refine XX.iadd dd_M_mergeFirst_353 ?_
        refine XX.tp (y := nI (mg + 1)) (nI_add _ _) ?_
        refine XX.put (q0 := 0) (ws2 := wM G q (upd (upd (upd xx 12 (nI (rn - (mm_n wy rn)))) 12 (nI (rn - (mm_n wy rn) + 1))) 14 (nI (mg + 1))) (f4 f gr (upd gs (rn - (mm_n wy rn)) (nI (pf sz (mm_n wy rn)))) go gt) kl) fp_M_203 dd_M_mergeFirst_354 rfl rfl rfl (xn_le rfl) rfl ?_
        refine XX.aload_n dd_M_mergeFirst_357 rfl 0 rfl ?_
        refine XX.dup dd_M_mergeFirst_358 rfl ?_
        refine XX.get (q0 := 0) (v := .int ((upd (upd (upd xx 12 (nI (rn - (mm_n wy rn)))) 12 (nI (rn - (mm_n wy rn) + 1))) 14 (nI (mg + 1))) 15)) fl_M_206 dd_M_mergeFirst_359 rfl rfl ?_
        refine XX.tp (y := nI mv) (h15a) ?_
        refine XX.iload_n dd_M_mergeFirst_362 rfl 2 rfl ?_
        refine XX.iadd dd_M_mergeFirst_363 ?_
        refine XX.tp (y := nI (mv + pf sz (mm_n wy rn))) (nI_add _ _) ?_
        refine XX.put (q0 := 0) (ws2 := wM G q (upd (upd (upd (upd xx 12 (nI (rn - (mm_n wy rn)))) 12 (nI (rn - (mm_n wy rn) + 1))) 14 (nI (mg + 1))) 15 (nI (mv + pf sz (mm_n wy rn)))) (f4 f gr (upd gs (rn - (mm_n wy rn)) (nI (pf sz (mm_n wy rn)))) go gt) kl) fp_M_206 dd_M_mergeFirst_364 rfl rfl rfl (xn_le rfl) rfl ?_
        obtain rfl : rn = i := by omega
        exact XX.vret dd_M_mergeFirst_367 rfl ⟨xn_le rfl, xn_le rfl⟩ ⟨rfl, _, gr, _, go, gt, rfl, fun z a1 a2 a3 a4 a5 => by simp [upd, a1, a2, a3]; exact hg z a4 a5, rfl, rfl, rfl, hgr, fun z hz => by
          rw [mm_sz]
          by_cases e : z = rn - mm_n wy rn
          · rw [e, pk_us, updN_s]
          · rw [pk_un e, updN_n e]; exact hgs1 z (by omega), hgt⟩
      ·
        refine XX.aload_n dd_M_mergeFirst_295 rfl 0 rfl ?_
        refine XX.get (q0 := 0) (v := .ref (q 8)) fl_M_42 dd_M_mergeFirst_296 rfl rfl ?_
        refine XX.iload dd_M_mergeFirst_299 5 rfl ?_
        refine XX.iload_n dd_M_mergeFirst_301 rfl 1 rfl ?_
        refine XX.isub dd_M_mergeFirst_302 ?_
        refine XX.tp (y := nI (i - (mm_n wy rn))) (pk_sub (by omega)) ?_
        refine XX.aload_n dd_M_mergeFirst_303 rfl 0 rfl ?_
        refine XX.get (q0 := 0) (v := .ref (q 8)) fl_M_42 dd_M_mergeFirst_304 rfl rfl ?_
        refine XX.iload dd_M_mergeFirst_307 5 rfl ?_
        refine XX.iald (q0 := 8) (n := 1000) (j := i) (f := gs) dd_M_mergeFirst_309 rfl (by omega) (by decide) ?_
        refine XX.tp (y := nI (sz i)) (hgs2 i (by omega) (by omega)) ?_
        refine XX.iast (q0 := 8) (n := 1000) (j := i - (mm_n wy rn)) (f := gs) (ws2 := wM G q xx (fup (f4 f gr gs go gt) 7 (upd gs (i - (mm_n wy rn)) (nI (sz i)))) kl) dd_M_mergeFirst_310 rfl (by omega) (by decide) rfl ?_
        refine XX.cg (ws2 := wM G q xx (f4 f gr (upd gs (i - (mm_n wy rn)) (nI (sz i))) go gt) kl) (by first | rw [f4_6] | rw [f4_7] | rw [f4_8] | rw [f4_11]) rfl rfl ?_
        refine XX.iinc (z := 5) (v := nI (i + 1)) (lv2 := [(5, .int (nI (i + 1))), (0, .ref (q 0)), (1, .int (nI (mm_n wy rn))), (2, .int (nI (pf sz (mm_n wy rn)))), (3, .int (nI (ln - pf sz (mm_n wy rn)))), (4, .int (nI (pf sz (mm_n wy rn))))]) dd_M_mergeFirst_311 rfl ((nI_succ _).symm) (by decide) rfl ?_
        refine XX.goto (tgt := 286) dd_M_mergeFirst_314 (by decide) ?_
        refine XX.lvs [1, 2, 3, 4, 5, 0] rfl ?_
        exact ih _ (by omega) (i + 1) xx gr _ go gt rfl (by omega) (by omega) hg hgr (fun k hk3 => by
          by_cases e : k = i - mm_n wy rn
          · rw [e, pk_us, show i - mm_n wy rn + mm_n wy rn = i by omega]
          · rw [pk_un e]; exact hgs1 k (by omega)) (fun k hk3 hk4 => by rw [pk_un (by omega)]; exact hgs2 k (by omega) hk4) hgt
  have l254 : ∀ (kk i : Nat) (xx gr gs go gt : Nat → Int32), ln - i = kk → i ≤ ln → agF x xx → (∀ k, k < i → gr k = nI (mm_ro (oml B sep all kc kd kg bs bo len st) ln wy rn ro sz k)) → (∀ k, k < ln → go k = nI (mm_ro (oml B sep all kc kd kg bs bo len st) ln wy rn ro sz k)) → (∀ k, k < rn → gs k = nI (sz k)) → (∀ k, k < 1000 → gt k = nI 0) → XX G m_M_mergeFirst (xr 9 0 0) (xx_F G (fun r w => r = none ∧ ∃ x2 gr gs go gt : Nat → Int32, w = wM G q x2 (f4 f gr gs go gt) kl ∧ (∀ i, i ≠ 12 → i ≠ 14 → i ≠ 15 → i ≠ 17 → i ≠ 18 → x2 i = x i) ∧ x2 12 = nI (rn - mm_n wy rn + 1) ∧ x2 14 = nI (mg + 1) ∧ x2 15 = nI (mv + pf sz (mm_n wy rn)) ∧ (∀ i, i < ln → gr i = nI (mm_ro (oml B sep all kc kd kg bs bo len st) ln wy rn ro sz i)) ∧ (∀ i, i < rn - mm_n wy rn + 1 → gs i = nI (mm_sz wy rn sz i)) ∧ ∀ i, i < 1000 → gt i = nI 0) (xr 9 0 0)) 0 0 (wM G q xx (f4 f gr gs go gt) kl) 254 [(0, .ref (q 0)), (1, .int (nI (mm_n wy rn))), (2, .int (nI (pf sz (mm_n wy rn)))), (3, .int (nI (ln - pf sz (mm_n wy rn)))), (4, .int (nI (pf sz (mm_n wy rn)))), (5, .int (nI i))] [] := by
    intro kk
    induction kk using Nat.strongRecOn with
    | _ kk ih =>
      intro i xx gr gs go gt hkk hi hg hgr hgo hgs hgt
      have hta : mtx xx f len ln st B := mtx_mv ht (hg 0 (by omega) (by omega))
      have hka : mky xx f kc kd kg := mky_mv hk (hg 7 (by omega) (by omega))
      have h1a : xx 1 = _ := (hg 1 (by omega) (by omega)).trans hx1
      have h3a : xx 3 = _ := (hg 3 (by omega) (by omega)).trans hx3
      have h4a : xx 4 = _ := (hg 4 (by omega) (by omega)).trans hx4
      have h5a : xx 5 = _ := (hg 5 (by omega) (by omega)).trans hx5
      have h6a : xx 6 = _ := (hg 6 (by omega) (by omega)).trans hx6
      have h9a : xx 9 = _ := (hg 9 (by omega) (by omega)).trans hx9
      have h10a : xx 10 = _ := (hg 10 (by omega) (by omega)).trans hx10
      have h12a : xx 12 = _ := (hg 12 (by omega) (by omega)).trans hx12
      have h14a : xx 14 = _ := (hg 14 (by omega) (by omega)).trans hx14
      have h15a : xx 15 = _ := (hg 15 (by omega) (by omega)).trans hx15
      refine XX.iload dd_M_mergeFirst_254 5 rfl ?_
      refine XX.aload_n dd_M_mergeFirst_256 rfl 0 rfl ?_
      refine XX.get (q0 := 0) (v := .int (xx 1)) fl_M_78 dd_M_mergeFirst_257 rfl rfl ?_
      refine XX.tp (y := nI ln) (h1a) ?_
      refine XX.ncmp_ge (tgt := 283) dd_M_mergeFirst_260 (by decide) (by omega) (by omega) (fun h260 => ?_) (fun h260 => ?_)
      ·
        refine XX.iload_n dd_M_mergeFirst_283 rfl 1 rfl ?_
        refine XX.istore (lv2 := [(5, .int (nI (mm_n wy rn))), (0, .ref (q 0)), (1, .int (nI (mm_n wy rn))), (2, .int (nI (pf sz (mm_n wy rn)))), (3, .int (nI (ln - pf sz (mm_n wy rn)))), (4, .int (nI (pf sz (mm_n wy rn))))]) dd_M_mergeFirst_284 (by decide) rfl ?_
        refine XX.lvs [1, 2, 3, 4, 5, 0] rfl ?_
        exact l286 _ (mm_n wy rn) xx gr gs go gt rfl (by omega) hn1 hg (fun k hk3 => hgr k (by omega)) (fun k hk3 => absurd hk3 (by omega)) (fun k _ hk3 => hgs k hk3) hgt
      ·
        refine XX.aload_n dd_M_mergeFirst_263 rfl 0 rfl ?_
        refine XX.get (q0 := 0) (v := .ref (q 7)) fl_M_39 dd_M_mergeFirst_264 rfl rfl ?_
        refine XX.iload dd_M_mergeFirst_267 5 rfl ?_
        refine XX.aload_n dd_M_mergeFirst_269 rfl 0 rfl ?_
        refine XX.get (q0 := 0) (v := .ref (q 9)) fl_M_45 dd_M_mergeFirst_270 rfl rfl ?_
        refine XX.iload dd_M_mergeFirst_273 5 rfl ?_
        refine XX.iald (q0 := 9) (n := 1000) (j := i) (f := go) dd_M_mergeFirst_275 rfl (by omega) (by decide) ?_
        refine XX.tp (y := nI (mm_ro (oml B sep all kc kd kg bs bo len st) ln wy rn ro sz i)) (hgo i (by omega)) ?_
        refine XX.iast (q0 := 7) (n := 1000) (j := i) (f := gr) (ws2 := wM G q xx (fup (f4 f gr gs go gt) 6 (upd gr i (nI (mm_ro (oml B sep all kc kd kg bs bo len st) ln wy rn ro sz i)))) kl) dd_M_mergeFirst_276 rfl (by omega) (by decide) rfl ?_
        refine XX.cg (ws2 := wM G q xx (f4 f (upd gr i (nI (mm_ro (oml B sep all kc kd kg bs bo len st) ln wy rn ro sz i))) gs go gt) kl) (by first | rw [f4_6] | rw [f4_7] | rw [f4_8] | rw [f4_11]) rfl rfl ?_
        refine XX.iinc (z := 5) (v := nI (i + 1)) (lv2 := [(5, .int (nI (i + 1))), (0, .ref (q 0)), (1, .int (nI (mm_n wy rn))), (2, .int (nI (pf sz (mm_n wy rn)))), (3, .int (nI (ln - pf sz (mm_n wy rn)))), (4, .int (nI (pf sz (mm_n wy rn))))]) dd_M_mergeFirst_277 rfl ((nI_succ _).symm) (by decide) rfl ?_
        refine XX.goto (tgt := 254) dd_M_mergeFirst_280 (by decide) ?_
        refine XX.lvs [1, 2, 3, 4, 5, 0] rfl ?_
        exact ih _ (by omega) (i + 1) xx _ gs go gt rfl (by omega) hg (fun k hk3 => by
          by_cases e : k = i
          · rw [e, pk_us]
          · rw [pk_un e]; exact hgr k (by omega)) hgo hgs hgt
  have l231 : ∀ (kk i : Nat) (xx gr gs go gt : Nat → Int32), mm_n wy rn - i = kk → i ≤ mm_n wy rn → agF x xx → (∀ k, k < ln → go k = nI (mm_ro (oml B sep all kc kd kg bs bo len st) ln wy rn ro sz k)) → (∀ k, k < rn → gs k = nI (sz k)) → (∀ k, k < i → gt k = nI 0) → (∀ k, mm_n wy rn ≤ k → k < 1000 → gt k = nI 0) → XX G m_M_mergeFirst (xr 9 0 0) (xx_F G (fun r w => r = none ∧ ∃ x2 gr gs go gt : Nat → Int32, w = wM G q x2 (f4 f gr gs go gt) kl ∧ (∀ i, i ≠ 12 → i ≠ 14 → i ≠ 15 → i ≠ 17 → i ≠ 18 → x2 i = x i) ∧ x2 12 = nI (rn - mm_n wy rn + 1) ∧ x2 14 = nI (mg + 1) ∧ x2 15 = nI (mv + pf sz (mm_n wy rn)) ∧ (∀ i, i < ln → gr i = nI (mm_ro (oml B sep all kc kd kg bs bo len st) ln wy rn ro sz i)) ∧ (∀ i, i < rn - mm_n wy rn + 1 → gs i = nI (mm_sz wy rn sz i)) ∧ ∀ i, i < 1000 → gt i = nI 0) (xr 9 0 0)) 0 0 (wM G q xx (f4 f gr gs go gt) kl) 231 [(0, .ref (q 0)), (1, .int (nI (mm_n wy rn))), (2, .int (nI (pf sz (mm_n wy rn)))), (3, .int (nI (ln - pf sz (mm_n wy rn)))), (4, .int (nI (pf sz (mm_n wy rn)))), (5, .int (nI i))] [] := by
    intro kk
    induction kk using Nat.strongRecOn with
    | _ kk ih =>
      intro i xx gr gs go gt hkk hi hg hgo hgs hgt1 hgt2
      have hta : mtx xx f len ln st B := mtx_mv ht (hg 0 (by omega) (by omega))
      have hka : mky xx f kc kd kg := mky_mv hk (hg 7 (by omega) (by omega))
      have h1a : xx 1 = _ := (hg 1 (by omega) (by omega)).trans hx1
      have h3a : xx 3 = _ := (hg 3 (by omega) (by omega)).trans hx3
      have h4a : xx 4 = _ := (hg 4 (by omega) (by omega)).trans hx4
      have h5a : xx 5 = _ := (hg 5 (by omega) (by omega)).trans hx5
      have h6a : xx 6 = _ := (hg 6 (by omega) (by omega)).trans hx6
      have h9a : xx 9 = _ := (hg 9 (by omega) (by omega)).trans hx9
      have h10a : xx 10 = _ := (hg 10 (by omega) (by omega)).trans hx10
      have h12a : xx 12 = _ := (hg 12 (by omega) (by omega)).trans hx12
      have h14a : xx 14 = _ := (hg 14 (by omega) (by omega)).trans hx14
      have h15a : xx 15 = _ := (hg 15 (by omega) (by omega)).trans hx15
      refine XX.iload dd_M_mergeFirst_231 5 rfl ?_
      refine XX.iload_n dd_M_mergeFirst_233 rfl 1 rfl ?_
      refine XX.ncmp_ge (tgt := 251) dd_M_mergeFirst_234 (by decide) (by omega) (by omega) (fun h234 => ?_) (fun h234 => ?_)
      ·
        refine XX.iconst (v := nI 0) dd_M_mergeFirst_251 (by decide) ?_
        refine XX.istore (lv2 := [(5, .int (nI 0)), (0, .ref (q 0)), (1, .int (nI (mm_n wy rn))), (2, .int (nI (pf sz (mm_n wy rn)))), (3, .int (nI (ln - pf sz (mm_n wy rn)))), (4, .int (nI (pf sz (mm_n wy rn))))]) dd_M_mergeFirst_252 (by decide) rfl ?_
        refine XX.lvs [1, 2, 3, 4, 5, 0] rfl ?_
        exact l254 _ 0 xx gr gs go gt rfl (by omega) hg (fun k hk3 => absurd hk3 (by omega)) hgo hgs (fun k hk3 => by
          by_cases e : k < mm_n wy rn
          · exact hgt1 k (by omega)
          · exact hgt2 k (by omega) hk3)
      ·
        refine XX.aload_n dd_M_mergeFirst_237 rfl 0 rfl ?_
        refine XX.get (q0 := 0) (v := .ref (q 12)) fl_M_54 dd_M_mergeFirst_238 rfl rfl ?_
        refine XX.iload dd_M_mergeFirst_241 5 rfl ?_
        refine XX.iconst (v := nI 0) dd_M_mergeFirst_243 (by decide) ?_
        refine XX.iast (q0 := 12) (n := 1000) (j := i) (f := gt) (ws2 := wM G q xx (fup (f4 f gr gs go gt) 11 (upd gt i (nI 0))) kl) dd_M_mergeFirst_244 rfl (by omega) (by decide) rfl ?_
        refine XX.cg (ws2 := wM G q xx (f4 f gr gs go (upd gt i (nI 0))) kl) (by first | rw [f4_6] | rw [f4_7] | rw [f4_8] | rw [f4_11]) rfl rfl ?_
        refine XX.iinc (z := 5) (v := nI (i + 1)) (lv2 := [(5, .int (nI (i + 1))), (0, .ref (q 0)), (1, .int (nI (mm_n wy rn))), (2, .int (nI (pf sz (mm_n wy rn)))), (3, .int (nI (ln - pf sz (mm_n wy rn)))), (4, .int (nI (pf sz (mm_n wy rn))))]) dd_M_mergeFirst_245 rfl ((nI_succ _).symm) (by decide) rfl ?_
        refine XX.goto (tgt := 231) dd_M_mergeFirst_248 (by decide) ?_
        refine XX.lvs [1, 2, 3, 4, 5, 0] rfl ?_
        exact ih _ (by omega) (i + 1) xx gr gs go _ rfl (by omega) hg hgo hgs (fun k hk3 => by
          by_cases e : k = i
          · rw [e, pk_us]
          · rw [pk_un e]; exact hgt1 k (by omega)) (fun k hk3 hk4 => by rw [pk_un (by omega)]; exact hgt2 k hk3 hk4)
  have l88 : ∀ (kk d : Nat) (xx go gt : Nat → Int32), pf sz (mm_n wy rn) - d = kk → d ≤ pf sz (mm_n wy rn) → agF x xx → (∀ k, k < ln - pf sz (mm_n wy rn) → go k = nI (ro (pf sz (mm_n wy rn) + k))) → (∀ k, k < d → go (ln - pf sz (mm_n wy rn) + k) = nI ((mf (oml B sep all kc kd kg bs bo len st) ro sz (mm_n wy rn) d).2 k)) → (∀ k, k < mm_n wy rn → gt k = nI ((mf (oml B sep all kc kd kg bs bo len st) ro sz (mm_n wy rn) d).1 k)) → (∀ k, mm_n wy rn ≤ k → k < 1000 → gt k = nI 0) → pf (mf (oml B sep all kc kd kg bs bo len st) ro sz (mm_n wy rn) d).1 (mm_n wy rn) = d → XX G m_M_mergeFirst (xr 9 0 0) (xx_F G (fun r w => r = none ∧ ∃ x2 gr gs go gt : Nat → Int32, w = wM G q x2 (f4 f gr gs go gt) kl ∧ (∀ i, i ≠ 12 → i ≠ 14 → i ≠ 15 → i ≠ 17 → i ≠ 18 → x2 i = x i) ∧ x2 12 = nI (rn - mm_n wy rn + 1) ∧ x2 14 = nI (mg + 1) ∧ x2 15 = nI (mv + pf sz (mm_n wy rn)) ∧ (∀ i, i < ln → gr i = nI (mm_ro (oml B sep all kc kd kg bs bo len st) ln wy rn ro sz i)) ∧ (∀ i, i < rn - mm_n wy rn + 1 → gs i = nI (mm_sz wy rn sz i)) ∧ ∀ i, i < 1000 → gt i = nI 0) (xr 9 0 0)) 0 0 (wM G q xx (f4 f (f 6) (f 7) go gt) kl) 88 [(0, .ref (q 0)), (1, .int (nI (mm_n wy rn))), (2, .int (nI (pf sz (mm_n wy rn)))), (3, .int (nI (ln - pf sz (mm_n wy rn)))), (4, .int (nI d))] [] := by
    intro kk
    induction kk using Nat.strongRecOn with
    | _ kk ih =>
      intro d xx go gt hkk hd hg hgo1 hgo2 hgt1 hgt2 hsd
      have hta : mtx xx f len ln st B := mtx_mv ht (hg 0 (by omega) (by omega))
      have hka : mky xx f kc kd kg := mky_mv hk (hg 7 (by omega) (by omega))
      have h1a : xx 1 = _ := (hg 1 (by omega) (by omega)).trans hx1
      have h3a : xx 3 = _ := (hg 3 (by omega) (by omega)).trans hx3
      have h4a : xx 4 = _ := (hg 4 (by omega) (by omega)).trans hx4
      have h5a : xx 5 = _ := (hg 5 (by omega) (by omega)).trans hx5
      have h6a : xx 6 = _ := (hg 6 (by omega) (by omega)).trans hx6
      have h9a : xx 9 = _ := (hg 9 (by omega) (by omega)).trans hx9
      have h10a : xx 10 = _ := (hg 10 (by omega) (by omega)).trans hx10
      have h12a : xx 12 = _ := (hg 12 (by omega) (by omega)).trans hx12
      have h14a : xx 14 = _ := (hg 14 (by omega) (by omega)).trans hx14
      have h15a : xx 15 = _ := (hg 15 (by omega) (by omega)).trans hx15
      generalize hS : mf (oml B sep all kc kd kg bs bo len st) ro sz (mm_n wy rn) d = S at hgo2 hgt1 hsd
      obtain ⟨tk, ot⟩ := S
      have j191 : ∀ (xy : Nat → Int32) (b : Nat), agF x xy → d < pf sz (mm_n wy rn) → mf_sel (oml B sep all kc kd kg bs bo len st) ro sz tk (mm_n wy rn) = some b → XX G m_M_mergeFirst (xr 9 0 0) (xx_F G (fun r w => r = none ∧ ∃ x2 gr gs go gt : Nat → Int32, w = wM G q x2 (f4 f gr gs go gt) kl ∧ (∀ i, i ≠ 12 → i ≠ 14 → i ≠ 15 → i ≠ 17 → i ≠ 18 → x2 i = x i) ∧ x2 12 = nI (rn - mm_n wy rn + 1) ∧ x2 14 = nI (mg + 1) ∧ x2 15 = nI (mv + pf sz (mm_n wy rn)) ∧ (∀ i, i < ln → gr i = nI (mm_ro (oml B sep all kc kd kg bs bo len st) ln wy rn ro sz i)) ∧ (∀ i, i < rn - mm_n wy rn + 1 → gs i = nI (mm_sz wy rn sz i)) ∧ ∀ i, i < 1000 → gt i = nI 0) (xr 9 0 0)) 0 0 (wM G q xy (f4 f (f 6) (f 7) go gt) kl) 191 [(0, .ref (q 0)), (1, .int (nI (mm_n wy rn))), (2, .int (nI (pf sz (mm_n wy rn)))), (3, .int (nI (ln - pf sz (mm_n wy rn)))), (4, .int (nI d)), (5, .int (nI b)), (6, .int (nI (pf sz (mm_n wy rn)))), (7, .int (nI (mm_n wy rn)))] [] := by
        intro xy b hgy hdt hsel
        obtain ⟨hb1, hb2⟩ := mf_sel_lt hsel
        have hin := pf_in sz hb1 hb2
        have htb : gt b = nI (tk b) := hgt1 b hb1
        refine XX.aload_n dd_M_mergeFirst_191 rfl 0 rfl ?_
        refine XX.get (q0 := 0) (v := .ref (q 9)) fl_M_45 dd_M_mergeFirst_192 rfl rfl ?_
        refine XX.iload_n dd_M_mergeFirst_195 rfl 3 rfl ?_
        refine XX.iload dd_M_mergeFirst_196 4 rfl ?_
        refine XX.iadd dd_M_mergeFirst_198 ?_
        refine XX.tp (y := nI (ln - pf sz (mm_n wy rn) + d)) (nI_add _ _) ?_
        refine XX.aload_n dd_M_mergeFirst_199 rfl 0 rfl ?_
        refine XX.get (q0 := 0) (v := .ref (q 7)) fl_M_39 dd_M_mergeFirst_200 rfl rfl ?_
        refine XX.aload_n dd_M_mergeFirst_203 rfl 0 rfl ?_
        refine XX.iload dd_M_mergeFirst_204 5 rfl ?_
        refine XX.callVr (Mk := m_M_headOf) (n := 1) (As := [.int (nI b)]) (rest := [.ref (q 7), .int (nI (ln - pf sz (mm_n wy rn) + d)), .ref (q 9)]) (q0 := 0) (ci := 9) (c_M_headOf (x := xy) (f := f4 f (f 6) (f 7) go gt) (rn := b) (sz := sz) (tk := tk) (by omega) (fun z hz => hsz z (by omega)) (hgt1 b (by omega))) mt_M_headOf mi_M_headOf ml_M_200 rfl dd_M_mergeFirst_206 (rfl) rfl rfl ⟨xn_le rfl, xn_le rfl⟩ ⟨xn_le rfl, xn_le rfl⟩ (xn_le rfl) rfl ?_
        refine XX.iald (q0 := 7) (n := 1000) (j := pf sz b + tk b) (f := f 6) dd_M_mergeFirst_209 rfl (by omega) (by decide) ?_
        refine XX.tp (y := nI (ro (pf sz b + tk b))) ((hro _ (by omega)).1) ?_
        refine XX.iast (q0 := 9) (n := 1000) (j := ln - pf sz (mm_n wy rn) + d) (f := go) (ws2 := wM G q xy (fup (f4 f (f 6) (f 7) go gt) 8 (upd go (ln - pf sz (mm_n wy rn) + d) (nI (ro (pf sz b + tk b))))) kl) dd_M_mergeFirst_210 rfl (by omega) (by decide) rfl ?_
        refine XX.cg (ws2 := wM G q xy (f4 f (f 6) (f 7) (upd go (ln - pf sz (mm_n wy rn) + d) (nI (ro (pf sz b + tk b)))) gt) kl) (by first | rw [f4_6] | rw [f4_7] | rw [f4_8] | rw [f4_11]) rfl rfl ?_
        refine XX.aload_n dd_M_mergeFirst_211 rfl 0 rfl ?_
        refine XX.get (q0 := 0) (v := .ref (q 12)) fl_M_54 dd_M_mergeFirst_212 rfl rfl ?_
        refine XX.iload dd_M_mergeFirst_215 5 rfl ?_
        refine XX.dup2 dd_M_mergeFirst_217 rfl rfl ?_
        refine XX.iald (q0 := 12) (n := 1000) (j := b) (f := gt) dd_M_mergeFirst_218 rfl (by omega) (by decide) ?_
        refine XX.tp (y := nI (tk b)) (htb) ?_
        refine XX.iconst (v := nI 1) dd_M_mergeFirst_219 (by decide) ?_
        refine XX.iadd dd_M_mergeFirst_220 ?_
        refine XX.tp (y := nI (tk b + 1)) (nI_add _ _) ?_
        refine XX.iast (q0 := 12) (n := 1000) (j := b) (f := gt) (ws2 := wM G q xy (fup (f4 f (f 6) (f 7) (upd go (ln - pf sz (mm_n wy rn) + d) (nI (ro (pf sz b + tk b)))) gt) 11 (upd gt b (nI (tk b + 1)))) kl) dd_M_mergeFirst_221 rfl (by omega) (by decide) rfl ?_
        refine XX.cg (ws2 := wM G q xy (f4 f (f 6) (f 7) (upd go (ln - pf sz (mm_n wy rn) + d) (nI (ro (pf sz b + tk b)))) (upd gt b (nI (tk b + 1)))) kl) (by first | rw [f4_6] | rw [f4_7] | rw [f4_8] | rw [f4_11]) rfl rfl ?_
        refine XX.iinc (z := 4) (v := nI (d + 1)) (lv2 := [(4, .int (nI (d + 1))), (0, .ref (q 0)), (1, .int (nI (mm_n wy rn))), (2, .int (nI (pf sz (mm_n wy rn)))), (3, .int (nI (ln - pf sz (mm_n wy rn)))), (5, .int (nI b)), (6, .int (nI (pf sz (mm_n wy rn)))), (7, .int (nI (mm_n wy rn)))]) dd_M_mergeFirst_222 rfl ((nI_succ _).symm) (by decide) rfl ?_
        refine XX.goto (tgt := 88) dd_M_mergeFirst_225 (by decide) ?_
        refine XX.lvs [1, 2, 3, 4, 0] rfl ?_
        have hst : mf (oml B sep all kc kd kg bs bo len st) ro sz (mm_n wy rn) (d + 1) = (updN tk b (tk b + 1), updN ot d (ro (pf sz b + tk b))) := by show mf_st _ _ _ _ _ (mf (oml B sep all kc kd kg bs bo len st) ro sz (mm_n wy rn) d) = _; rw [hS]; simp only [mf_st]; rw [hsel]
        exact ih _ (by omega) (d + 1) xy _ _ rfl (by omega) hgy (fun k hk3 => by rw [pk_un (by omega)]; exact hgo1 k hk3) (fun k hk3 => by
          rw [hst]
          show _ = nI (updN ot d (ro (pf sz b + tk b)) k)
          by_cases e : k = d
          · rw [e, pk_us, updN_s]
          · rw [pk_un (by omega), updN_n e]; exact hgo2 k (by omega)) (fun k hk3 => by
          rw [hst]
          show _ = nI (updN tk b (tk b + 1) k)
          by_cases e : k = b
          · rw [e, pk_us, updN_s]
          · rw [pk_un e, updN_n e]; exact hgt1 k hk3) (fun k hk3 hk4 => by rw [pk_un (by omega)]; exact hgt2 k hk3 hk4) (by rw [hst]; show pf (updN tk b (tk b + 1)) _ = _; rw [pf_upd hb1, show pf tk (mm_n wy rn) = d from hsd])
      have l103 : d < pf sz (mm_n wy rn) → ∀ (k2 i : Nat) (xy : Nat → Int32), mm_n wy rn - i = k2 → i ≤ mm_n wy rn → agF x xy → XX G m_M_mergeFirst (xr 9 0 0) (xx_F G (fun r w => r = none ∧ ∃ x2 gr gs go gt : Nat → Int32, w = wM G q x2 (f4 f gr gs go gt) kl ∧ (∀ i, i ≠ 12 → i ≠ 14 → i ≠ 15 → i ≠ 17 → i ≠ 18 → x2 i = x i) ∧ x2 12 = nI (rn - mm_n wy rn + 1) ∧ x2 14 = nI (mg + 1) ∧ x2 15 = nI (mv + pf sz (mm_n wy rn)) ∧ (∀ i, i < ln → gr i = nI (mm_ro (oml B sep all kc kd kg bs bo len st) ln wy rn ro sz i)) ∧ (∀ i, i < rn - mm_n wy rn + 1 → gs i = nI (mm_sz wy rn sz i)) ∧ ∀ i, i < 1000 → gt i = nI 0) (xr 9 0 0)) 0 0 (wM G q xy (f4 f (f 6) (f 7) go gt) kl) 103 [(0, .ref (q 0)), (1, .int (nI (mm_n wy rn))), (2, .int (nI (pf sz (mm_n wy rn)))), (3, .int (nI (ln - pf sz (mm_n wy rn)))), (4, .int (nI d)), (5, .int (oN (mf_sel (oml B sep all kc kd kg bs bo len st) ro sz tk i))), (6, .int (nI (pf sz i))), (7, .int (nI i))] [] := by
        intro hdt k2
        induction k2 using Nat.strongRecOn with
        | _ k2 ih2 =>
          intro i xy hk2 hi hgy
          have hty : mtx xy f len ln st B := mtx_mv ht (hgy 0 (by omega) (by omega))
          have hky : mky xy f kc kd kg := mky_mv hk (hgy 7 (by omega) (by omega))
          have h1y : xy 1 = _ := (hgy 1 (by omega) (by omega)).trans hx1
          have h3y : xy 3 = _ := (hgy 3 (by omega) (by omega)).trans hx3
          have h4y : xy 4 = _ := (hgy 4 (by omega) (by omega)).trans hx4
          have h5y : xy 5 = _ := (hgy 5 (by omega) (by omega)).trans hx5
          have h6y : xy 6 = _ := (hgy 6 (by omega) (by omega)).trans hx6
          have h9y : xy 9 = _ := (hgy 9 (by omega) (by omega)).trans hx9
          have h10y : xy 10 = _ := (hgy 10 (by omega) (by omega)).trans hx10
          have h12y : xy 12 = _ := (hgy 12 (by omega) (by omega)).trans hx12
          have h14y : xy 14 = _ := (hgy 14 (by omega) (by omega)).trans hx14
          have h15y : xy 15 = _ := (hgy 15 (by omega) (by omega)).trans hx15
          have j173 : i < mm_n wy rn → ∀ xz : Nat → Int32, agF x xz → XX G m_M_mergeFirst (xr 9 0 0) (xx_F G (fun r w => r = none ∧ ∃ x2 gr gs go gt : Nat → Int32, w = wM G q x2 (f4 f gr gs go gt) kl ∧ (∀ i, i ≠ 12 → i ≠ 14 → i ≠ 15 → i ≠ 17 → i ≠ 18 → x2 i = x i) ∧ x2 12 = nI (rn - mm_n wy rn + 1) ∧ x2 14 = nI (mg + 1) ∧ x2 15 = nI (mv + pf sz (mm_n wy rn)) ∧ (∀ i, i < ln → gr i = nI (mm_ro (oml B sep all kc kd kg bs bo len st) ln wy rn ro sz i)) ∧ (∀ i, i < rn - mm_n wy rn + 1 → gs i = nI (mm_sz wy rn sz i)) ∧ ∀ i, i < 1000 → gt i = nI 0) (xr 9 0 0)) 0 0 (wM G q xz (f4 f (f 6) (f 7) go gt) kl) 173 [(0, .ref (q 0)), (1, .int (nI (mm_n wy rn))), (2, .int (nI (pf sz (mm_n wy rn)))), (3, .int (nI (ln - pf sz (mm_n wy rn)))), (4, .int (nI d)), (5, .int (oN (mf_sel (oml B sep all kc kd kg bs bo len st) ro sz tk (i + 1)))), (6, .int (nI (pf sz i))), (7, .int (nI i))] [] := by
            intro hit xz hgz
            refine XX.iload dd_M_mergeFirst_173 6 rfl ?_
            refine XX.aload_n dd_M_mergeFirst_175 rfl 0 rfl ?_
            refine XX.get (q0 := 0) (v := .ref (q 8)) fl_M_42 dd_M_mergeFirst_176 rfl rfl ?_
            refine XX.iload dd_M_mergeFirst_179 7 rfl ?_
            refine XX.iald (q0 := 8) (n := 1000) (j := i) (f := f 7) dd_M_mergeFirst_181 rfl (by omega) (by decide) ?_
            refine XX.tp (y := nI (sz i)) (hsz i (by omega)) ?_
            refine XX.iadd dd_M_mergeFirst_182 ?_
            refine XX.tp (y := nI (pf sz (i + 1))) (by rw [nI_add, pf_s]) ?_
            refine XX.istore (lv2 := [(6, .int (nI (pf sz (i + 1)))), (0, .ref (q 0)), (1, .int (nI (mm_n wy rn))), (2, .int (nI (pf sz (mm_n wy rn)))), (3, .int (nI (ln - pf sz (mm_n wy rn)))), (4, .int (nI d)), (5, .int (oN (mf_sel (oml B sep all kc kd kg bs bo len st) ro sz tk (i + 1)))), (7, .int (nI i))]) dd_M_mergeFirst_183 (by decide) rfl ?_
            refine XX.iinc (z := 7) (v := nI (i + 1)) (lv2 := [(7, .int (nI (i + 1))), (6, .int (nI (pf sz (i + 1)))), (0, .ref (q 0)), (1, .int (nI (mm_n wy rn))), (2, .int (nI (pf sz (mm_n wy rn)))), (3, .int (nI (ln - pf sz (mm_n wy rn)))), (4, .int (nI d)), (5, .int (oN (mf_sel (oml B sep all kc kd kg bs bo len st) ro sz tk (i + 1))))]) dd_M_mergeFirst_185 rfl ((nI_succ _).symm) (by decide) rfl ?_
            refine XX.goto (tgt := 103) dd_M_mergeFirst_188 (by decide) ?_
            refine XX.lvs [2, 3, 4, 5, 6, 7, 1, 0] rfl ?_
            exact ih2 _ (by omega) (i + 1) xz rfl (by omega) hgz
          refine XX.iload dd_M_mergeFirst_103 7 rfl ?_
          refine XX.iload_n dd_M_mergeFirst_105 rfl 1 rfl ?_
          refine XX.ncmp_ge (tgt := 191) dd_M_mergeFirst_106 (by decide) (by omega) (by omega) (fun h106 => ?_) (fun h106 => ?_)
          ·
            obtain rfl : i = mm_n wy rn := by omega
            have hns : ¬ mf_sel (oml B sep all kc kd kg bs bo len st) ro sz tk (mm_n wy rn) = none := fun z => by have a1 := mf_sel_no z; have a2 : pf tk (mm_n wy rn) = d := hsd; omega
            obtain ⟨b, hsel⟩ := Option.ne_none_iff_exists'.mp hns
            refine XX.cg (ws2 := wM G q xy (f4 f (f 6) (f 7) go gt) kl) (lv2 := [(0, .ref (q 0)), (1, .int (nI (mm_n wy rn))), (2, .int (nI (pf sz (mm_n wy rn)))), (3, .int (nI (ln - pf sz (mm_n wy rn)))), (4, .int (nI d)), (5, .int (nI b)), (6, .int (nI (pf sz (mm_n wy rn)))), (7, .int (nI (mm_n wy rn)))]) rfl (by rw [hsel]; rfl) rfl ?_
            exact j191 xy b hgy hdt hsel
          ·
            refine XX.iload dd_M_mergeFirst_109 6 rfl ?_
            refine XX.aload_n dd_M_mergeFirst_111 rfl 0 rfl ?_
            refine XX.get (q0 := 0) (v := .ref (q 12)) fl_M_54 dd_M_mergeFirst_112 rfl rfl ?_
            refine XX.iload dd_M_mergeFirst_115 7 rfl ?_
            refine XX.iald (q0 := 12) (n := 1000) (j := i) (f := gt) dd_M_mergeFirst_117 rfl (by omega) (by decide) ?_
            refine XX.tp (y := nI (tk i)) (hgt1 i (by omega)) ?_
            refine XX.iadd dd_M_mergeFirst_118 ?_
            refine XX.tp (y := nI (pf sz i + tk i)) (nI_add _ _) ?_
            refine XX.istore (lv2 := [(8, .int (nI (pf sz i + tk i))), (0, .ref (q 0)), (1, .int (nI (mm_n wy rn))), (2, .int (nI (pf sz (mm_n wy rn)))), (3, .int (nI (ln - pf sz (mm_n wy rn)))), (4, .int (nI d)), (5, .int (oN (mf_sel (oml B sep all kc kd kg bs bo len st) ro sz tk i))), (6, .int (nI (pf sz i))), (7, .int (nI i))]) dd_M_mergeFirst_119 (by decide) rfl ?_
            refine XX.aload_n dd_M_mergeFirst_121 rfl 1 rfl ?_
            refine XX.get (q0 := 0) (v := .ref (q 12)) fl_M_54 dd_M_mergeFirst_122 rfl rfl ?_
            refine XX.iload dd_M_mergeFirst_125 8 rfl ?_
            refine XX.iald (q0 := 12) (n := 1000) (j := i) (f := gt) dd_M_mergeFirst_127 rfl (by omega) (by decide) ?_
            refine XX.tp (y := nI (tk i)) (hgt1 i (by omega)) ?_
            refine XX.aload_n dd_M_mergeFirst_128 rfl 1 rfl ?_
            refine XX.get (q0 := 0) (v := .ref (q 8)) fl_M_42 dd_M_mergeFirst_129 rfl rfl ?_
            refine XX.iload dd_M_mergeFirst_132 8 rfl ?_
            refine XX.iald (q0 := 8) (n := 1000) (j := i) (f := f 7) dd_M_mergeFirst_134 rfl (by omega) (by decide) ?_
            refine XX.tp (y := nI (sz i)) (hsz i (by omega)) ?_
            have hti : tk i < 2 ^ 31 ∧ sz i < 2 ^ 31 := by
              have a1 := pf_s sz i
              have a2 := pf_mono sz (show i + 1 ≤ mm_n wy rn by omega)
              have a3 := pf_s tk i
              have a4 := pf_mono tk (show i + 1 ≤ mm_n wy rn by omega)
              have a5 : pf tk (mm_n wy rn) = d := hsd
              omega
            refine XX.ncmp_ge (tgt := 173) dd_M_mergeFirst_135 (by decide) (by omega) (by omega) (fun h135 => ?_) (fun h135 => ?_)
            ·
              refine XX.cg (ws2 := wM G q xy (f4 f (f 6) (f 7) go gt) kl) (lv2 := [(8, .int (nI (pf sz i + tk i))), (0, .ref (q 0)), (1, .int (nI (mm_n wy rn))), (2, .int (nI (pf sz (mm_n wy rn)))), (3, .int (nI (ln - pf sz (mm_n wy rn)))), (4, .int (nI d)), (5, .int (oN (mf_sel (oml B sep all kc kd kg bs bo len st) ro sz tk (i + 1)))), (6, .int (nI (pf sz i))), (7, .int (nI i))]) rfl (by rw [mf_s1 (by omega)]) rfl ?_
              refine XX.lvs [1, 2, 3, 4, 5, 6, 7, 8] rfl ?_
              exact j173 (by omega) xy hgy
            ·
              refine XX.iload dd_M_mergeFirst_138 6 rfl ?_
              refine XX.iconst (v := -1) dd_M_mergeFirst_140 (by decide) ?_
              refine XX.icmp_eq (tgt := 169) dd_M_mergeFirst_141 (by decide) (fun h141 => ?_) (fun h141 => ?_)
              ·
                refine XX.iload dd_M_mergeFirst_169 8 rfl ?_
                refine XX.istore (lv2 := [(5, .int (nI i)), (8, .int (nI (pf sz i + tk i))), (0, .ref (q 0)), (1, .int (nI (mm_n wy rn))), (2, .int (nI (pf sz (mm_n wy rn)))), (3, .int (nI (ln - pf sz (mm_n wy rn)))), (4, .int (nI d)), (6, .int (nI (pf sz i))), (7, .int (nI i))]) dd_M_mergeFirst_171 (by decide) rfl ?_
                refine XX.cg (ws2 := wM G q xy (f4 f (f 6) (f 7) go gt) kl) (lv2 := [(5, .int (oN (mf_sel (oml B sep all kc kd kg bs bo len st) ro sz tk (i + 1)))), (8, .int (nI (pf sz i + tk i))), (0, .ref (q 0)), (1, .int (nI (mm_n wy rn))), (2, .int (nI (pf sz (mm_n wy rn)))), (3, .int (nI (ln - pf sz (mm_n wy rn)))), (4, .int (nI d)), (6, .int (nI (pf sz i))), (7, .int (nI i))]) rfl (by rw [mf_s2 (by omega) (oN_none h141 (fun z hz => by have := (mf_sel_lt hz).1; omega))]; rfl) rfl ?_
                refine XX.lvs [2, 3, 4, 5, 6, 0, 7, 8] rfl ?_
                exact j173 (by omega) xy hgy
              ·
                obtain ⟨b, hsb⟩ := oN_some h141
                obtain ⟨hb1, hb2⟩ := mf_sel_lt hsb
                have hin := pf_in sz (show b < mm_n wy rn by omega) hb2
                have hin2 := pf_in sz (show i < mm_n wy rn by omega) (show tk i < sz i by omega)
                refine XX.cg (ws2 := wM G q xy (f4 f (f 6) (f 7) go gt) kl) (lv2 := [(8, .int (nI (pf sz i + tk i))), (0, .ref (q 0)), (1, .int (nI (mm_n wy rn))), (2, .int (nI (pf sz (mm_n wy rn)))), (3, .int (nI (ln - pf sz (mm_n wy rn)))), (4, .int (nI d)), (5, .int (nI b)), (6, .int (nI (pf sz i))), (7, .int (nI i))]) rfl (by rw [hsb]; rfl) rfl ?_
                refine XX.aload_n dd_M_mergeFirst_144 rfl 1 rfl ?_
                refine XX.aload_n dd_M_mergeFirst_145 rfl 1 rfl ?_
                refine XX.get (q0 := 0) (v := .ref (q 7)) fl_M_39 dd_M_mergeFirst_146 rfl rfl ?_
                refine XX.iload dd_M_mergeFirst_149 0 rfl ?_
                refine XX.iald (q0 := 7) (n := 1000) (j := pf sz i + tk i) (f := f 6) dd_M_mergeFirst_151 rfl (by omega) (by decide) ?_
                refine XX.tp (y := nI (ro (pf sz i + tk i))) ((hro _ (by omega)).1) ?_
                refine XX.aload_n dd_M_mergeFirst_152 rfl 1 rfl ?_
                refine XX.get (q0 := 0) (v := .ref (q 7)) fl_M_39 dd_M_mergeFirst_153 rfl rfl ?_
                refine XX.aload_n dd_M_mergeFirst_156 rfl 1 rfl ?_
                refine XX.iload dd_M_mergeFirst_157 6 rfl ?_
                refine XX.callVr (Mk := m_M_headOf) (n := 1) (As := [.int (nI b)]) (rest := [.ref (q 7), .int (nI (ro (pf sz i + tk i))), .ref (q 0)]) (q0 := 0) (ci := 9) (c_M_headOf (x := xy) (f := f4 f (f 6) (f 7) go gt) (rn := b) (sz := sz) (tk := tk) (by omega) (fun z hz => hsz z (by omega)) (hgt1 b (by omega))) mt_M_headOf mi_M_headOf ml_M_200 rfl dd_M_mergeFirst_159 (rfl) rfl rfl ⟨xn_le rfl, xn_le rfl⟩ ⟨xn_le rfl, xn_le rfl⟩ (xn_le rfl) rfl ?_
                refine XX.iald (q0 := 7) (n := 1000) (j := pf sz b + tk b) (f := f 6) dd_M_mergeFirst_162 rfl (by omega) (by decide) ?_
                refine XX.tp (y := nI (ro (pf sz b + tk b))) ((hro _ (by omega)).1) ?_
                refine XX.callV (Mk := m_M_isBefore) (n := 2) (As := [.int (nI (ro (pf sz i + tk i))), .int (nI (ro (pf sz b + tk b)))]) (rest := []) (q0 := 0) (ci := 9) (c_M_isBefore (f := f4 f (f 6) (f 7) go gt) hty hby h6y hky h3y h4y h5y h10y hhd (la := ro (pf sz i + tk i)) (lb := ro (pf sz b + tk b)) (hro _ (by omega)).2 (hro _ (by omega)).2) mt_M_isBefore mi_M_isBefore ml_M_197 rfl dd_M_mergeFirst_163 (rfl) rfl rfl ⟨xn_le rfl, xn_le rfl⟩ ⟨xn_le rfl, xn_le rfl⟩ (xn_le rfl) rfl (fun r1 w1 hp1 => ?_)
                obtain ⟨rfl, xw, rfl, hq1⟩ := hp1
                have hgw : agF x xw := fun i h2 h3 => (hq1 i h2 h3).trans (hgy i h2 h3)
                refine (?_ : XX G m_M_mergeFirst (xr 9 0 0) (xx_F G (fun r w => r = none ∧ ∃ x2 gr gs go gt : Nat → Int32, w = wM G q x2 (f4 f gr gs go gt) kl ∧ (∀ i, i ≠ 12 → i ≠ 14 → i ≠ 15 → i ≠ 17 → i ≠ 18 → x2 i = x i) ∧ x2 12 = nI (rn - mm_n wy rn + 1) ∧ x2 14 = nI (mg + 1) ∧ x2 15 = nI (mv + pf sz (mm_n wy rn)) ∧ (∀ i, i < ln → gr i = nI (mm_ro (oml B sep all kc kd kg bs bo len st) ln wy rn ro sz i)) ∧ (∀ i, i < rn - mm_n wy rn + 1 → gs i = nI (mm_sz wy rn sz i)) ∧ ∀ i, i < 1000 → gt i = nI 0) (xr 9 0 0)) 0 0 (wM G q xw (f4 f (f 6) (f 7) go gt) kl) 166 [(8, .int (nI (pf sz i + tk i))), (0, .ref (q 0)), (1, .int (nI (mm_n wy rn))), (2, .int (nI (pf sz (mm_n wy rn)))), (3, .int (nI (ln - pf sz (mm_n wy rn)))), (4, .int (nI d)), (5, .int (nI b)), (6, .int (nI (pf sz i))), (7, .int (nI i))] [.int (bI (bf (oml B sep all kc kd kg bs bo len st) (ro (pf sz i + tk i)) (ro (pf sz b + tk b))))])
                refine XX.bif_eq (tgt := 173) dd_M_mergeFirst_166 (by decide) (fun h166 => ?_) (fun h166 => ?_)
                ·
                  refine XX.cg (ws2 := wM G q xw (f4 f (f 6) (f 7) go gt) kl) (lv2 := [(8, .int (nI (pf sz i + tk i))), (0, .ref (q 0)), (1, .int (nI (mm_n wy rn))), (2, .int (nI (pf sz (mm_n wy rn)))), (3, .int (nI (ln - pf sz (mm_n wy rn)))), (4, .int (nI d)), (5, .int (oN (mf_sel (oml B sep all kc kd kg bs bo len st) ro sz tk (i + 1)))), (6, .int (nI (pf sz i))), (7, .int (nI i))]) rfl (by rw [mf_s4 (by omega) hsb h166]; rfl) rfl ?_
                  refine XX.lvs [1, 2, 3, 4, 5, 6, 7, 8] rfl ?_
                  exact j173 (by omega) xw hgw
                ·
                  refine XX.iload dd_M_mergeFirst_169 8 rfl ?_
                  refine XX.istore (lv2 := [(5, .int (nI i)), (8, .int (nI (pf sz i + tk i))), (0, .ref (q 0)), (1, .int (nI (mm_n wy rn))), (2, .int (nI (pf sz (mm_n wy rn)))), (3, .int (nI (ln - pf sz (mm_n wy rn)))), (4, .int (nI d)), (6, .int (nI (pf sz i))), (7, .int (nI i))]) dd_M_mergeFirst_171 (by decide) rfl ?_
                  refine XX.cg (ws2 := wM G q xw (f4 f (f 6) (f 7) go gt) kl) (lv2 := [(5, .int (oN (mf_sel (oml B sep all kc kd kg bs bo len st) ro sz tk (i + 1)))), (8, .int (nI (pf sz i + tk i))), (0, .ref (q 0)), (1, .int (nI (mm_n wy rn))), (2, .int (nI (pf sz (mm_n wy rn)))), (3, .int (nI (ln - pf sz (mm_n wy rn)))), (4, .int (nI d)), (6, .int (nI (pf sz i))), (7, .int (nI i))]) rfl (by rw [mf_s3 (by omega) hsb h166]; rfl) rfl ?_
                  refine XX.lvs [2, 3, 4, 5, 6, 0, 7, 8] rfl ?_
                  exact j173 (by omega) xw hgw
      refine XX.iload dd_M_mergeFirst_88 4 rfl ?_
      refine XX.iload_n dd_M_mergeFirst_90 rfl 2 rfl ?_
      refine XX.ncmp_ge (tgt := 228) dd_M_mergeFirst_91 (by decide) (by omega) (by omega) (fun h91 => ?_) (fun h91 => ?_)
      ·
        refine XX.iconst (v := nI 0) dd_M_mergeFirst_228 (by decide) ?_
        refine XX.istore (lv2 := [(5, .int (nI 0)), (0, .ref (q 0)), (1, .int (nI (mm_n wy rn))), (2, .int (nI (pf sz (mm_n wy rn)))), (3, .int (nI (ln - pf sz (mm_n wy rn)))), (4, .int (nI d))]) dd_M_mergeFirst_229 (by decide) rfl ?_
        obtain rfl : d = pf sz (mm_n wy rn) := by omega
        refine XX.lvs [1, 2, 3, 4, 5, 0] rfl ?_
        exact l231 _ 0 xx _ _ go gt rfl (by omega) hg (fun k hk3 => by
          unfold mm_ro
          by_cases e : k < ln - pf sz (mm_n wy rn)
          · rw [if_pos e]; exact hgo1 k e
          · rw [if_neg e, hS]
            have z := hgo2 (k - (ln - pf sz (mm_n wy rn))) (by omega)
            rw [show ln - pf sz (mm_n wy rn) + (k - (ln - pf sz (mm_n wy rn))) = k by omega] at z
            exact z) hsz (fun k hk3 => absurd hk3 (by omega)) hgt2
      ·
        refine XX.iconst (v := -1) dd_M_mergeFirst_94 (by decide) ?_
        refine XX.istore (lv2 := [(5, .int (-1)), (0, .ref (q 0)), (1, .int (nI (mm_n wy rn))), (2, .int (nI (pf sz (mm_n wy rn)))), (3, .int (nI (ln - pf sz (mm_n wy rn)))), (4, .int (nI d))]) dd_M_mergeFirst_95 (by decide) rfl ?_
        refine XX.iconst (v := nI 0) dd_M_mergeFirst_97 (by decide) ?_
        refine XX.istore (lv2 := [(6, .int (nI 0)), (5, .int (-1)), (0, .ref (q 0)), (1, .int (nI (mm_n wy rn))), (2, .int (nI (pf sz (mm_n wy rn)))), (3, .int (nI (ln - pf sz (mm_n wy rn)))), (4, .int (nI d))]) dd_M_mergeFirst_98 (by decide) rfl ?_
        refine XX.iconst (v := nI 0) dd_M_mergeFirst_100 (by decide) ?_
        refine XX.istore (lv2 := [(7, .int (nI 0)), (6, .int (nI 0)), (5, .int (-1)), (0, .ref (q 0)), (1, .int (nI (mm_n wy rn))), (2, .int (nI (pf sz (mm_n wy rn)))), (3, .int (nI (ln - pf sz (mm_n wy rn)))), (4, .int (nI d))]) dd_M_mergeFirst_101 (by decide) rfl ?_
        refine XX.lvs [3, 4, 5, 6, 7, 2, 1, 0] rfl ?_
        exact l103 (by omega) _ 0 xx rfl (by omega) hg
  have l57 : ∀ (kk k : Nat) (go : Nat → Int32), ln - pf sz (mm_n wy rn) - k = kk → k ≤ ln - pf sz (mm_n wy rn) → (∀ z, z < k → go z = nI (ro (pf sz (mm_n wy rn) + z))) → XX G m_M_mergeFirst (xr 9 0 0) (xx_F G (fun r w => r = none ∧ ∃ x2 gr gs go gt : Nat → Int32, w = wM G q x2 (f4 f gr gs go gt) kl ∧ (∀ i, i ≠ 12 → i ≠ 14 → i ≠ 15 → i ≠ 17 → i ≠ 18 → x2 i = x i) ∧ x2 12 = nI (rn - mm_n wy rn + 1) ∧ x2 14 = nI (mg + 1) ∧ x2 15 = nI (mv + pf sz (mm_n wy rn)) ∧ (∀ i, i < ln → gr i = nI (mm_ro (oml B sep all kc kd kg bs bo len st) ln wy rn ro sz i)) ∧ (∀ i, i < rn - mm_n wy rn + 1 → gs i = nI (mm_sz wy rn sz i)) ∧ ∀ i, i < 1000 → gt i = nI 0) (xr 9 0 0)) 0 0 (wM G q x (f4 f (f 6) (f 7) go (f 11)) kl) 57 [(0, .ref (q 0)), (1, .int (nI (mm_n wy rn))), (2, .int (nI (pf sz (mm_n wy rn)))), (3, .int (nI (ln - pf sz (mm_n wy rn)))), (4, .int (nI k))] [] := by
    intro kk
    induction kk using Nat.strongRecOn with
    | _ kk ih =>
      intro k go hkk hk2 hgo
      refine XX.iload dd_M_mergeFirst_57 4 rfl ?_
      refine XX.iload_n dd_M_mergeFirst_59 rfl 3 rfl ?_
      refine XX.ncmp_ge (tgt := 85) dd_M_mergeFirst_60 (by decide) (by omega) (by omega) (fun h60 => ?_) (fun h60 => ?_)
      ·
        refine XX.iconst (v := nI 0) dd_M_mergeFirst_85 (by decide) ?_
        refine XX.istore (lv2 := [(4, .int (nI 0)), (0, .ref (q 0)), (1, .int (nI (mm_n wy rn))), (2, .int (nI (pf sz (mm_n wy rn)))), (3, .int (nI (ln - pf sz (mm_n wy rn))))]) dd_M_mergeFirst_86 (by decide) rfl ?_
        refine XX.lvs [1, 2, 3, 4, 0] rfl ?_
        exact l88 _ 0 x go (f 11) rfl (by omega) (fun _ _ _ => rfl) (fun z hz => hgo z (by omega)) (fun z hz => absurd hz (by omega)) (fun z hz => htk z (by omega)) (fun z _ hz => htk z hz) (by show pf (fun _ => 0) _ = 0; generalize mm_n wy rn = m; induction m with | zero => rfl | succ m ihm => rw [pf_s, ihm])
      ·
        refine XX.aload_n dd_M_mergeFirst_63 rfl 0 rfl ?_
        refine XX.get (q0 := 0) (v := .ref (q 9)) fl_M_45 dd_M_mergeFirst_64 rfl rfl ?_
        refine XX.iload dd_M_mergeFirst_67 4 rfl ?_
        refine XX.aload_n dd_M_mergeFirst_69 rfl 0 rfl ?_
        refine XX.get (q0 := 0) (v := .ref (q 7)) fl_M_39 dd_M_mergeFirst_70 rfl rfl ?_
        refine XX.iload_n dd_M_mergeFirst_73 rfl 2 rfl ?_
        refine XX.iload dd_M_mergeFirst_74 4 rfl ?_
        refine XX.iadd dd_M_mergeFirst_76 ?_
        refine XX.tp (y := nI (pf sz (mm_n wy rn) + k)) (nI_add _ _) ?_
        refine XX.iald (q0 := 7) (n := 1000) (j := pf sz (mm_n wy rn) + k) (f := f 6) dd_M_mergeFirst_77 rfl (by omega) (by decide) ?_
        refine XX.tp (y := nI (ro (pf sz (mm_n wy rn) + k))) ((hro _ (by omega)).1) ?_
        refine XX.iast (q0 := 9) (n := 1000) (j := k) (f := go) (ws2 := wM G q x (fup (f4 f (f 6) (f 7) go (f 11)) 8 (upd go k (nI (ro (pf sz (mm_n wy rn) + k))))) kl) dd_M_mergeFirst_78 rfl (by omega) (by decide) rfl ?_
        refine XX.cg (ws2 := wM G q x (f4 f (f 6) (f 7) (upd go k (nI (ro (pf sz (mm_n wy rn) + k)))) (f 11)) kl) (by first | rw [f4_6] | rw [f4_7] | rw [f4_8] | rw [f4_11]) rfl rfl ?_
        refine XX.iinc (z := 4) (v := nI (k + 1)) (lv2 := [(4, .int (nI (k + 1))), (0, .ref (q 0)), (1, .int (nI (mm_n wy rn))), (2, .int (nI (pf sz (mm_n wy rn)))), (3, .int (nI (ln - pf sz (mm_n wy rn))))]) dd_M_mergeFirst_79 rfl ((nI_succ _).symm) (by decide) rfl ?_
        refine XX.goto (tgt := 57) dd_M_mergeFirst_82 (by decide) ?_
        refine XX.lvs [1, 2, 3, 4, 0] rfl ?_
        exact ih _ (by omega) (k + 1) _ rfl (by omega) (fun z hz => by
          by_cases e : z = k
          · rw [e, pk_us]
          · rw [pk_un e]; exact hgo z (by omega))
  have l27 : ∀ (kk i : Nat), mm_n wy rn - i = kk → i ≤ mm_n wy rn → XX G m_M_mergeFirst (xr 9 0 0) (xx_F G (fun r w => r = none ∧ ∃ x2 gr gs go gt : Nat → Int32, w = wM G q x2 (f4 f gr gs go gt) kl ∧ (∀ i, i ≠ 12 → i ≠ 14 → i ≠ 15 → i ≠ 17 → i ≠ 18 → x2 i = x i) ∧ x2 12 = nI (rn - mm_n wy rn + 1) ∧ x2 14 = nI (mg + 1) ∧ x2 15 = nI (mv + pf sz (mm_n wy rn)) ∧ (∀ i, i < ln → gr i = nI (mm_ro (oml B sep all kc kd kg bs bo len st) ln wy rn ro sz i)) ∧ (∀ i, i < rn - mm_n wy rn + 1 → gs i = nI (mm_sz wy rn sz i)) ∧ ∀ i, i < 1000 → gt i = nI 0) (xr 9 0 0)) 0 0 (wM G q x f kl) 27 [(0, .ref (q 0)), (1, .int (nI (mm_n wy rn))), (2, .int (nI (pf sz i))), (3, .int (nI i))] [] := by
    intro kk
    induction kk using Nat.strongRecOn with
    | _ kk ih =>
      intro i hkk hi
      refine XX.iload_n dd_M_mergeFirst_27 rfl 3 rfl ?_
      refine XX.iload_n dd_M_mergeFirst_28 rfl 1 rfl ?_
      refine XX.ncmp_ge (tgt := 47) dd_M_mergeFirst_29 (by decide) (by omega) (by omega) (fun h29 => ?_) (fun h29 => ?_)
      ·
        obtain rfl : i = mm_n wy rn := by omega
        refine XX.aload_n dd_M_mergeFirst_47 rfl 0 rfl ?_
        refine XX.get (q0 := 0) (v := .int (x 1)) fl_M_78 dd_M_mergeFirst_48 rfl rfl ?_
        refine XX.tp (y := nI ln) (hx1) ?_
        refine XX.iload_n dd_M_mergeFirst_51 rfl 2 rfl ?_
        refine XX.isub dd_M_mergeFirst_52 ?_
        refine XX.tp (y := nI (ln - (pf sz (mm_n wy rn)))) (pk_sub (by omega)) ?_
        refine XX.istore_n (lv2 := [(3, .int (nI (ln - (pf sz (mm_n wy rn))))), (0, .ref (q 0)), (1, .int (nI (mm_n wy rn))), (2, .int (nI (pf sz (mm_n wy rn))))]) dd_M_mergeFirst_53 rfl (by decide) rfl ?_
        refine XX.iconst (v := nI 0) dd_M_mergeFirst_54 (by decide) ?_
        refine XX.istore (lv2 := [(4, .int (nI 0)), (3, .int (nI (ln - (pf sz (mm_n wy rn))))), (0, .ref (q 0)), (1, .int (nI (mm_n wy rn))), (2, .int (nI (pf sz (mm_n wy rn))))]) dd_M_mergeFirst_55 (by decide) rfl ?_
        refine XX.lvs [2, 3, 4, 1, 0] rfl ?_
        refine XX.cg (ws2 := wM G q x (f4 f (f 6) (f 7) (f 8) (f 11)) kl) (by rw [f4_self]) rfl rfl ?_
        exact l57 _ 0 (f 8) rfl (by omega) (fun z hz => absurd hz (by omega))
      ·
        refine XX.iload_n dd_M_mergeFirst_32 rfl 2 rfl ?_
        refine XX.aload_n dd_M_mergeFirst_33 rfl 0 rfl ?_
        refine XX.get (q0 := 0) (v := .ref (q 8)) fl_M_42 dd_M_mergeFirst_34 rfl rfl ?_
        refine XX.iload_n dd_M_mergeFirst_37 rfl 3 rfl ?_
        refine XX.iald (q0 := 8) (n := 1000) (j := i) (f := f 7) dd_M_mergeFirst_38 rfl (by omega) (by decide) ?_
        refine XX.tp (y := nI (sz i)) (hsz i (by omega)) ?_
        refine XX.iadd dd_M_mergeFirst_39 ?_
        refine XX.tp (y := nI (pf sz (i + 1))) (by rw [nI_add, pf_s]) ?_
        refine XX.istore_n (lv2 := [(2, .int (nI (pf sz (i + 1)))), (0, .ref (q 0)), (1, .int (nI (mm_n wy rn))), (3, .int (nI i))]) dd_M_mergeFirst_40 rfl (by decide) rfl ?_
        refine XX.iinc (z := 3) (v := nI (i + 1)) (lv2 := [(3, .int (nI (i + 1))), (2, .int (nI (pf sz (i + 1)))), (0, .ref (q 0)), (1, .int (nI (mm_n wy rn)))]) dd_M_mergeFirst_41 rfl ((nI_succ _).symm) (by decide) rfl ?_
        refine XX.goto (tgt := 27) dd_M_mergeFirst_44 (by decide) ?_
        refine XX.lvs [2, 3, 1, 0] rfl ?_
        exact ih _ (by omega) (i + 1) rfl (by omega)
  have j22 : XX G m_M_mergeFirst (xr 9 0 0) (xx_F G (fun r w => r = none ∧ ∃ x2 gr gs go gt : Nat → Int32, w = wM G q x2 (f4 f gr gs go gt) kl ∧ (∀ i, i ≠ 12 → i ≠ 14 → i ≠ 15 → i ≠ 17 → i ≠ 18 → x2 i = x i) ∧ x2 12 = nI (rn - mm_n wy rn + 1) ∧ x2 14 = nI (mg + 1) ∧ x2 15 = nI (mv + pf sz (mm_n wy rn)) ∧ (∀ i, i < ln → gr i = nI (mm_ro (oml B sep all kc kd kg bs bo len st) ln wy rn ro sz i)) ∧ (∀ i, i < rn - mm_n wy rn + 1 → gs i = nI (mm_sz wy rn sz i)) ∧ ∀ i, i < 1000 → gt i = nI 0) (xr 9 0 0)) 0 0 (wM G q x f kl) 22 [(0, .ref (q 0))] [.int (nI (mm_n wy rn))] := by
    refine XX.istore_n (lv2 := [(1, .int (nI (mm_n wy rn))), (0, .ref (q 0))]) dd_M_mergeFirst_22 rfl (by decide) rfl ?_
    refine XX.iconst (v := nI 0) dd_M_mergeFirst_23 (by decide) ?_
    refine XX.istore_n (lv2 := [(2, .int (nI 0)), (1, .int (nI (mm_n wy rn))), (0, .ref (q 0))]) dd_M_mergeFirst_24 rfl (by decide) rfl ?_
    refine XX.iconst (v := nI 0) dd_M_mergeFirst_25 (by decide) ?_
    refine XX.istore_n (lv2 := [(3, .int (nI 0)), (2, .int (nI 0)), (1, .int (nI (mm_n wy rn))), (0, .ref (q 0))]) dd_M_mergeFirst_26 rfl (by decide) rfl ?_
    refine XX.lvs [3, 2, 1, 0] rfl ?_
    exact l27 _ 0 rfl (by omega)
  refine XX.aload_n dd_M_mergeFirst_0 rfl 0 rfl ?_
  refine XX.get (q0 := 0) (v := .int (x 9)) fl_M_27 dd_M_mergeFirst_1 rfl rfl ?_
  refine XX.tp (y := nI wy) (hx9) ?_
  refine XX.aload_n dd_M_mergeFirst_4 rfl 0 rfl ?_
  refine XX.get (q0 := 0) (v := .int (x 12)) fl_M_194 dd_M_mergeFirst_5 rfl rfl ?_
  refine XX.tp (y := nI rn) (hx12) ?_
  refine XX.ncmp_ge (tgt := 18) dd_M_mergeFirst_8 (by decide) (by omega) (by omega) (fun h8 => ?_) (fun h8 => ?_)
  ·
    refine XX.aload_n dd_M_mergeFirst_18 rfl 0 rfl ?_
    refine XX.get (q0 := 0) (v := .int (x 12)) fl_M_194 dd_M_mergeFirst_19 rfl rfl ?_
    refine XX.tp (y := nI rn) (hx12) ?_
    exact XX.tp (by rw [mm_n, if_neg (by omega)]) j22
  ·
    refine XX.aload_n dd_M_mergeFirst_11 rfl 0 rfl ?_
    refine XX.get (q0 := 0) (v := .int (x 9)) fl_M_27 dd_M_mergeFirst_12 rfl rfl ?_
    refine XX.tp (y := nI wy) (hx9) ?_
    refine XX.goto (tgt := 22) dd_M_mergeFirst_15 (by decide) ?_
    exact XX.tp (by rw [mm_n, if_pos (by omega)]) j22

