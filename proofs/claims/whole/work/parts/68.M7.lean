/-! runs as the reference makes them -/
def f3 (f : Nat → Nat → Int32) (ga gr gs : Nat → Int32) : Nat → Nat → Int32 := fun i => if i = 10 then ga else if i = 6 then gr else if i = 7 then gs else f i
theorem f3_10 (f : Nat → Nat → Int32) (ga gr gs u : Nat → Int32) : fup (f3 f ga gr gs) 10 u = f3 f u gr gs := by
  funext j; unfold fup f3
  by_cases h : j = 10
  · rw [if_pos h, if_pos h]
  · rw [if_neg h, if_neg h, if_neg h]
theorem f3_6 (f : Nat → Nat → Int32) (ga gr gs u : Nat → Int32) : fup (f3 f ga gr gs) 6 u = f3 f ga u gs := by
  funext j; unfold fup f3
  by_cases h : j = 6
  · rw [if_pos h, if_neg (by omega), if_pos h]
  · by_cases h2 : j = 10
    · rw [if_neg h, if_pos h2, if_pos h2]
    · rw [if_neg h, if_neg h2, if_neg h, if_neg h2, if_neg h]
theorem f3_7 (f : Nat → Nat → Int32) (ga gr gs u : Nat → Int32) : fup (f3 f ga gr gs) 7 u = f3 f ga gr u := by
  funext j; unfold fup f3
  by_cases h : j = 7
  · rw [if_pos h, if_neg (by omega), if_neg (by omega), if_pos h]
  · by_cases h2 : j = 10
    · rw [if_neg h, if_pos h2, if_pos h2]
    · by_cases h3 : j = 6
      · rw [if_neg h, if_neg h2, if_pos h3, if_neg h2, if_pos h3]
      · rw [if_neg h, if_neg h2, if_neg h3, if_neg h, if_neg h2, if_neg h3, if_neg h]
theorem f3_self (f : Nat → Nat → Int32) : f3 f (f 10) (f 6) (f 7) = f := by
  funext j; unfold f3
  by_cases h2 : j = 10
  · rw [if_pos h2, h2]
  · by_cases h3 : j = 6
    · rw [if_neg h2, if_pos h3, h3]
    · by_cases h : j = 7
      · rw [if_neg h2, if_neg h3, if_pos h, h]
      · rw [if_neg h2, if_neg h3, if_neg h]
def agR (x x2 : Nat → Int32) : Prop := ∀ i, i ≠ 12 → i ≠ 17 → i ≠ 18 → x2 i = x i
def rs_out (o : Nat → Nat → Ordering) (lt : Option Nat) (v : Nat) : Bool := match lt with
  | none => false
  | some t => bf o v t
def rs_sel (o : Nat → Nat → Ordering) (im : Nat → Nat) (lt : Option Nat) : Nat → Option Nat
  | 0 => none
  | i + 1 => if rs_out o lt (im i) = true then rs_sel o im lt i else match rs_sel o im lt i with
    | none => some i
    | some b => if bf o (im i) (im b) = true then some i else some b
theorem rs_sel_lt {o : Nat → Nat → Ordering} {im : Nat → Nat} {lt : Option Nat} : ∀ {i b : Nat}, rs_sel o im lt i = some b → b < i := by
  intro i
  induction i with
  | zero => intro b h; cases h
  | succ i ih =>
    intro b h
    rw [rs_sel] at h
    split at h
    · have := ih h; omega
    · split at h
      · cases h; omega
      · rename_i b2 hb2
        split at h
        · cases h; omega
        · cases h; have := ih hb2; omega
theorem rs_sel_no {o : Nat → Nat → Ordering} {im : Nat → Nat} {i : Nat} (h : 0 < i) : ¬ rs_sel o im none i = none := by
  cases i with
  | zero => omega
  | succ i =>
    rw [rs_sel, if_neg (by simp [rs_out])]
    split
    · intro z; cases z
    · split <;> (intro z; cases z)
theorem rs_s1 {o : Nat → Nat → Ordering} {im : Nat → Nat} {lt : Option Nat} {i : Nat} (h : rs_out o lt (im i) = true) : rs_sel o im lt (i + 1) = rs_sel o im lt i := by rw [rs_sel, if_pos h]
theorem rs_s2 {o : Nat → Nat → Ordering} {im : Nat → Nat} {lt : Option Nat} {i : Nat} (h : rs_out o lt (im i) = false) (h2 : rs_sel o im lt i = none) : rs_sel o im lt (i + 1) = some i := by rw [rs_sel, if_neg (by rw [h]; decide), h2]
theorem rs_s3 {o : Nat → Nat → Ordering} {im : Nat → Nat} {lt : Option Nat} {i b : Nat} (h : rs_out o lt (im i) = false) (h2 : rs_sel o im lt i = some b) (h3 : bf o (im i) (im b) = true) : rs_sel o im lt (i + 1) = some i := by rw [rs_sel, if_neg (by rw [h]; decide), h2]; simp [h3]
theorem rs_s4 {o : Nat → Nat → Ordering} {im : Nat → Nat} {lt : Option Nat} {i b : Nat} (h : rs_out o lt (im i) = false) (h2 : rs_sel o im lt i = some b) (h3 : bf o (im i) (im b) = false) : rs_sel o im lt (i + 1) = some b := by rw [rs_sel, if_neg (by rw [h]; decide), h2]; simp [h3]
abbrev RS : Type := (Nat → Nat) × Nat × Nat × Option Nat × Nat × (Nat → Nat) × (Nat → Nat) × Nat
def rs_rn (lt : Option Nat) (rn : Nat) : Nat := if lt = none then rn + 1 else rn
def rs_s0 (lt : Option Nat) (sz : Nat → Nat) (rn : Nat) : Nat → Nat := if lt = none then updN sz rn 0 else sz
def rs_sz (lt : Option Nat) (sz : Nat → Nat) (rn : Nat) : Nat → Nat := updN (rs_s0 lt sz rn) (rs_rn lt rn - 1) (rs_s0 lt sz rn (rs_rn lt rn - 1) + 1)
/-- one turn: lines in memory, how many, the next, the latest, how many are out, rows, lengths, runs -/
def rs_st (o : Nat → Nat → Ordering) (ln : Nat) (S : RS) : RS :=
  match S with
  | (im, th, nx, lt, ou, ro, sz, rn) =>
    match rs_sel o im lt th with
    | none => (im, th, nx, none, ou, ro, sz, rn)
    | some b => if nx < ln then (updN im b nx, th, nx + 1, some (im b), ou + 1, updN ro ou (im b), rs_sz lt sz rn, rs_rn lt rn)
      else (updN im b (im (th - 1)), th - 1, nx, some (im b), ou + 1, updN ro ou (im b), rs_sz lt sz rn, rs_rn lt rn)
def rs_run (o : Nat → Nat → Ordering) (ln : Nat) : Nat → RS → RS
  | 0, S => S
  | k + 1, S => if S.2.1 = 0 then S else rs_run o ln k (rs_st o ln S)
theorem rs_run0 {o : Nat → Nat → Ordering} {ln k : Nat} {S : RS} (h : S.2.1 = 0) : rs_run o ln k S = S := by
  cases k with
  | zero => rfl
  | succ k => rw [rs_run, if_pos h]
def rs_0 (ln mem : Nat) : RS := (fun i => i, min ln mem, min ln mem, none, 0, fun _ => 0, fun _ => 0, 0)

set_option maxRecDepth 100000 in
set_option maxHeartbeats 4000000 in
theorem c_M_makeRuns {G : XG} {q : Nat → Nat} {x : Nat → Int32} {f : Nat → Nat → Int32} {kl : va_W} {len ln : Nat} {st : Nat → Nat} {B : Nat → Int32} (ht : mtx x f len ln st B) (hby : bfit B len) {sep : Int32} (hx6 : x 6 = sep) {kc : Nat} {kd : Nat → Nat → Nat} {kg : Nat → Int32} {all : Int32} (hk : mky x f kc kd kg) (hx3 : x 3 = all) {bs bo : Bool} (hx4 : x 4 = bI bs) (hx5 : x 5 = bI bo) {hd : Bool} (hx10 : x 10 = bI hd) (hhd : hd = true → ln ≤ 1000 ∧ ∀ l k, l < ln → k < max 1 kc → f 3 (6 * l + k) = nI (ky_begin B sep (ky_fl (kgu kc kg k) all) (kdu kc kd k 0) (kdu kc kd k 1) (st l) (men len st l)) ∧ f 4 (6 * l + k) = nI (ky_end B sep (ky_fl (kgu kc kg k) all) (kdu kc kd k 2) (kdu kc kd k 3) (st l) (men len st l))) {mem : Nat} (hx1 : x 1 = nI ln) (hln1 : ln ≤ 1000) (hx8 : x 8 = nI mem) (hm : 2 ≤ mem) (hm2 : mem ≤ 500) : MM G m_M_makeRuns (xr 9 0 0) [.ref (q 0)] (wM G q x f kl) (fun r w => r = none ∧ ∃ (x2 ga gr gs : Nat → Int32) (im ro sz : Nat → Nat) (lt : Option Nat) (rn : Nat), rs_run (oml B sep all kc kd kg bs bo len st) ln (2 * ln + 1) (rs_0 ln mem) = (im, 0, ln, lt, ln, ro, sz, rn) ∧ w = wM G q x2 (f3 f ga gr gs) kl ∧ agR x x2 ∧ x2 12 = nI rn ∧ rn ≤ ln ∧ (∀ i, i < ln → gr i = nI (ro i) ∧ ro i < ln) ∧ ∀ i, i < rn → gs i = nI (sz i)) := by
  obtain ⟨hx0, hl0, hln, hst, hse, hB⟩ := id ht
  refine MM.of rfl (xn_le rfl) ?_
  refine (?_ : XX G m_M_makeRuns (xr 9 0 0) (xx_F G (fun r w => r = none ∧ ∃ (x2 ga gr gs : Nat → Int32) (im ro sz : Nat → Nat) (lt : Option Nat) (rn : Nat), rs_run (oml B sep all kc kd kg bs bo len st) ln (2 * ln + 1) (rs_0 ln mem) = (im, 0, ln, lt, ln, ro, sz, rn) ∧ w = wM G q x2 (f3 f ga gr gs) kl ∧ agR x x2 ∧ x2 12 = nI rn ∧ rn ≤ ln ∧ (∀ i, i < ln → gr i = nI (ro i) ∧ ro i < ln) ∧ ∀ i, i < rn → gs i = nI (sz i)) (xr 9 0 0)) 0 0 (wM G q x f kl) 0 [(0, .ref (q 0))] [])
  have loop : ∀ (fu : Nat) (th nx ou rn : Nat) (lt : Option Nat) (im ro sz : Nat → Nat) (xx ga gr gs : Nat → Int32), agR x xx → xx 12 = nI rn → 2 * (ln - ou) + (if lt = none then 0 else 1) ≤ fu → rs_run (oml B sep all kc kd kg bs bo len st) ln fu (im, th, nx, lt, ou, ro, sz, rn) = rs_run (oml B sep all kc kd kg bs bo len st) ln (2 * ln + 1) (rs_0 ln mem) → nx ≤ ln → ou + th + (ln - nx) = ln → (nx < ln → 0 < th) → th ≤ 500 → rn ≤ ou → (lt = none ∨ 1 ≤ rn) → (∀ t, lt = some t → t < ln) → (∀ i, i < th → ga i = nI (im i) ∧ im i < ln) → (∀ i, i < ou → gr i = nI (ro i) ∧ ro i < ln) → (∀ i, i < rn → gs i = nI (sz i)) → XX G m_M_makeRuns (xr 9 0 0) (xx_F G (fun r w => r = none ∧ ∃ (x2 ga gr gs : Nat → Int32) (im ro sz : Nat → Nat) (lt : Option Nat) (rn : Nat), rs_run (oml B sep all kc kd kg bs bo len st) ln (2 * ln + 1) (rs_0 ln mem) = (im, 0, ln, lt, ln, ro, sz, rn) ∧ w = wM G q x2 (f3 f ga gr gs) kl ∧ agR x x2 ∧ x2 12 = nI rn ∧ rn ≤ ln ∧ (∀ i, i < ln → gr i = nI (ro i) ∧ ro i < ln) ∧ ∀ i, i < rn → gs i = nI (sz i)) (xr 9 0 0)) 0 0 (wM G q xx (f3 f ga gr gs) kl) 46 [(0, .ref (q 0)), (1, .int (nI nx)), (2, .int (nI th)), (3, .int (nI ou)), (4, .int (oN lt))] [] := by
    intro fu
    induction fu with
    | zero =>
      intro th nx ou rn lt im ro sz xx ga gr gs hg h12 hmu hr hnx hsum hth hth5 hrn hlt1 hltb him hro hsz
      have hth0 : th = 0 := by omega
      have hta : mtx xx f len ln st B := mtx_mv ht (hg 0 (by omega) (by omega) (by omega))
      have hka : mky xx f kc kd kg := mky_mv hk (hg 7 (by omega) (by omega) (by omega))
      have h1a : xx 1 = _ := (hg 1 (by omega) (by omega) (by omega)).trans hx1
      have h3a : xx 3 = _ := (hg 3 (by omega) (by omega) (by omega)).trans hx3
      have h4a : xx 4 = _ := (hg 4 (by omega) (by omega) (by omega)).trans hx4
      have h5a : xx 5 = _ := (hg 5 (by omega) (by omega) (by omega)).trans hx5
      have h6a : xx 6 = _ := (hg 6 (by omega) (by omega) (by omega)).trans hx6
      have h8a : xx 8 = _ := (hg 8 (by omega) (by omega) (by omega)).trans hx8
      have h10a : xx 10 = _ := (hg 10 (by omega) (by omega) (by omega)).trans hx10
      refine XX.iload_n dd_M_makeRuns_46 rfl 2 rfl ?_
      refine XX.nif_le (tgt := 237) dd_M_makeRuns_47 (by decide) (by omega) (fun h47 => ?_) (fun h47 => ?_)
      ·
        have e1 : nx = ln := by omega
        have e2 : ou = ln := by omega
        rw [rs_run0 (by show th = 0; omega)] at hr
        exact XX.vret dd_M_makeRuns_237 rfl ⟨xn_le rfl, xn_le rfl⟩ ⟨rfl, xx, ga, gr, gs, im, ro, sz, lt, rn, by rw [← hr, e1, e2, show th = 0 by omega], rfl, hg, h12, by omega, fun i hi => hro i (by omega), hsz⟩
      ·
        exfalso; omega
    | succ fu ih =>
      intro th nx ou rn lt im ro sz xx ga gr gs hg h12 hmu hr hnx hsum hth hth5 hrn hlt1 hltb him hro hsz
      have hta : mtx xx f len ln st B := mtx_mv ht (hg 0 (by omega) (by omega) (by omega))
      have hka : mky xx f kc kd kg := mky_mv hk (hg 7 (by omega) (by omega) (by omega))
      have h1a : xx 1 = _ := (hg 1 (by omega) (by omega) (by omega)).trans hx1
      have h3a : xx 3 = _ := (hg 3 (by omega) (by omega) (by omega)).trans hx3
      have h4a : xx 4 = _ := (hg 4 (by omega) (by omega) (by omega)).trans hx4
      have h5a : xx 5 = _ := (hg 5 (by omega) (by omega) (by omega)).trans hx5
      have h6a : xx 6 = _ := (hg 6 (by omega) (by omega) (by omega)).trans hx6
      have h8a : xx 8 = _ := (hg 8 (by omega) (by omega) (by omega)).trans hx8
      have h10a : xx 10 = _ := (hg 10 (by omega) (by omega) (by omega)).trans hx10
      have j161n : lt = none → ∀ (xy : Nat → Int32) (b : Nat), agR x xy → xy 12 = nI rn → 0 < th → rs_sel (oml B sep all kc kd kg bs bo len st) im lt th = some b → b < th → XX G m_M_makeRuns (xr 9 0 0) (xx_F G (fun r w => r = none ∧ ∃ (x2 ga gr gs : Nat → Int32) (im ro sz : Nat → Nat) (lt : Option Nat) (rn : Nat), rs_run (oml B sep all kc kd kg bs bo len st) ln (2 * ln + 1) (rs_0 ln mem) = (im, 0, ln, lt, ln, ro, sz, rn) ∧ w = wM G q x2 (f3 f ga gr gs) kl ∧ agR x x2 ∧ x2 12 = nI rn ∧ rn ≤ ln ∧ (∀ i, i < ln → gr i = nI (ro i) ∧ ro i < ln) ∧ ∀ i, i < rn → gs i = nI (sz i)) (xr 9 0 0)) 0 0 (wM G q (upd xy 12 (nI (rn + 1))) (f3 f ga gr (upd gs rn (nI 0))) kl) 161 [(0, .ref (q 0)), (1, .int (nI nx)), (2, .int (nI th)), (3, .int (nI ou)), (4, .int (oN lt)), (5, .int (nI b)), (6, .int (nI th))] [] := by
        intro hlt xy b hgy h12y hth0 hsel hb
        have h1y : xy 1 = nI ln := (hgy 1 (by omega) (by omega) (by omega)).trans hx1
        obtain ⟨hib1, hib2⟩ := him b hb
        have hrs : rs_run (oml B sep all kc kd kg bs bo len st) ln fu (rs_st (oml B sep all kc kd kg bs bo len st) ln (im, th, nx, lt, ou, ro, sz, rn)) = rs_run (oml B sep all kc kd kg bs bo len st) ln (2 * ln + 1) (rs_0 ln mem) := by rw [← hr, rs_run, if_neg (by show ¬ th = 0; omega)]
        have hrnn : rs_rn lt rn = rn + 1 := by rw [rs_rn, if_pos hlt]
        have hs0 : rs_s0 lt sz rn = updN sz rn 0 := by rw [rs_s0, if_pos hlt]
        refine XX.aload_n dd_M_makeRuns_161 rfl 0 rfl ?_
        refine XX.get (q0 := 0) (v := .ref (q 11)) fl_M_51 dd_M_makeRuns_162 rfl rfl ?_
        refine XX.iload dd_M_makeRuns_165 5 rfl ?_
        refine XX.iald (q0 := 11) (n := 500) (j := b) (f := ga) dd_M_makeRuns_167 rfl (by omega) (by decide) ?_
        refine XX.tp (y := nI (im b)) (hib1) ?_
        refine XX.istore (lv2 := [(4, .int (nI (im b))), (0, .ref (q 0)), (1, .int (nI nx)), (2, .int (nI th)), (3, .int (nI ou)), (5, .int (nI b)), (6, .int (nI th))]) dd_M_makeRuns_168 (by decide) rfl ?_
        refine XX.aload_n dd_M_makeRuns_170 rfl 1 rfl ?_
        refine XX.get (q0 := 0) (v := .ref (q 7)) fl_M_39 dd_M_makeRuns_171 rfl rfl ?_
        refine XX.iload_n dd_M_makeRuns_174 rfl 4 rfl ?_
        refine XX.iload dd_M_makeRuns_175 0 rfl ?_
        refine XX.iast (q0 := 7) (n := 1000) (j := ou) (f := gr) (ws2 := wM G q (upd xy 12 (nI (rn + 1))) (fup (f3 f ga gr (upd gs rn (nI 0))) 6 (upd gr ou (nI (im b)))) kl) dd_M_makeRuns_177 rfl (by omega) (by decide) rfl ?_
        refine XX.cg (ws2 := wM G q (upd xy 12 (nI (rn + 1))) (f3 f ga (upd gr ou (nI (im b))) (upd gs rn (nI 0))) kl) (by first | rw [f3_10] | rw [f3_6] | rw [f3_7]) rfl rfl ?_
        refine XX.iinc (z := 4) (v := nI (ou + 1)) (lv2 := [(3, .int (nI (ou + 1))), (4, .int (nI (im b))), (0, .ref (q 0)), (1, .int (nI nx)), (2, .int (nI th)), (5, .int (nI b)), (6, .int (nI th))]) dd_M_makeRuns_178 rfl ((nI_succ _).symm) (by decide) rfl ?_
        refine XX.aload_n dd_M_makeRuns_181 rfl 2 rfl ?_
        refine XX.get (q0 := 0) (v := .ref (q 8)) fl_M_42 dd_M_makeRuns_182 rfl rfl ?_
        refine XX.aload_n dd_M_makeRuns_185 rfl 2 rfl ?_
        refine XX.get (q0 := 0) (v := .int (nI (rn + 1))) fl_M_194 dd_M_makeRuns_186 rfl rfl ?_
        refine XX.iconst (v := nI 1) dd_M_makeRuns_189 (by decide) ?_
        refine XX.isub dd_M_makeRuns_190 ?_
        refine XX.tp (y := nI rn) (by rw [pk_sub (by omega)]; rfl) ?_
        refine XX.dup2 dd_M_makeRuns_191 rfl rfl ?_
        refine XX.iald (q0 := 8) (n := 1000) (j := rn) (f := upd gs rn (nI 0)) dd_M_makeRuns_192 rfl (by omega) (by decide) ?_
        refine XX.tp (y := nI 0) (pk_us) ?_
        refine XX.iconst (v := nI 1) dd_M_makeRuns_193 (by decide) ?_
        refine XX.iadd dd_M_makeRuns_194 ?_
        refine XX.tp (y := nI (0 + 1)) (nI_add _ _) ?_
        refine XX.iast (q0 := 8) (n := 1000) (j := rn) (f := upd gs rn (nI 0)) (ws2 := wM G q (upd xy 12 (nI (rn + 1))) (fup (f3 f ga (upd gr ou (nI (im b))) (upd gs rn (nI 0))) 7 (upd (upd gs rn (nI 0)) rn (nI (0 + 1)))) kl) dd_M_makeRuns_195 rfl (by omega) (by decide) rfl ?_
        refine XX.cg (ws2 := wM G q (upd xy 12 (nI (rn + 1))) (f3 f ga (upd gr ou (nI (im b))) (upd (upd gs rn (nI 0)) rn (nI (0 + 1)))) kl) (by first | rw [f3_10] | rw [f3_6] | rw [f3_7]) rfl rfl ?_
        refine XX.iload_n dd_M_makeRuns_196 rfl 3 rfl ?_
        refine XX.aload_n dd_M_makeRuns_197 rfl 2 rfl ?_
        refine XX.get (q0 := 0) (v := .int ((upd xy 12 (nI (rn + 1))) 1)) fl_M_78 dd_M_makeRuns_198 rfl rfl ?_
        refine XX.tp (y := nI ln) (h1y) ?_
        refine XX.ncmp_ge (tgt := 218) dd_M_makeRuns_201 (by decide) (by omega) (by omega) (fun h201 => ?_) (fun h201 => ?_)
        ·
          refine XX.iinc (z := 4) (v := nI (th - 1)) (lv2 := [(2, .int (nI (th - 1))), (3, .int (nI (ou + 1))), (4, .int (nI (im b))), (0, .ref (q 0)), (1, .int (nI nx)), (5, .int (nI b)), (6, .int (nI th))]) dd_M_makeRuns_218 rfl (xn_dec (by omega)) (by decide) rfl ?_
          refine XX.aload_n dd_M_makeRuns_221 rfl 3 rfl ?_
          refine XX.get (q0 := 0) (v := .ref (q 11)) fl_M_51 dd_M_makeRuns_222 rfl rfl ?_
          refine XX.iload dd_M_makeRuns_225 5 rfl ?_
          refine XX.aload_n dd_M_makeRuns_227 rfl 3 rfl ?_
          refine XX.get (q0 := 0) (v := .ref (q 11)) fl_M_51 dd_M_makeRuns_228 rfl rfl ?_
          refine XX.iload_n dd_M_makeRuns_231 rfl 0 rfl ?_
          refine XX.iald (q0 := 11) (n := 500) (j := th - 1) (f := ga) dd_M_makeRuns_232 rfl (by omega) (by decide) ?_
          refine XX.tp (y := nI (im (th - 1))) ((him (th - 1) (by omega)).1) ?_
          refine XX.iast (q0 := 11) (n := 500) (j := b) (f := ga) (ws2 := wM G q (upd xy 12 (nI (rn + 1))) (fup (f3 f ga (upd gr ou (nI (im b))) (upd (upd gs rn (nI 0)) rn (nI (0 + 1)))) 10 (upd ga b (nI (im (th - 1))))) kl) dd_M_makeRuns_233 rfl (by omega) (by decide) rfl ?_
          refine XX.cg (ws2 := wM G q (upd xy 12 (nI (rn + 1))) (f3 f (upd ga b (nI (im (th - 1)))) (upd gr ou (nI (im b))) (upd (upd gs rn (nI 0)) rn (nI (0 + 1)))) kl) (by first | rw [f3_10] | rw [f3_6] | rw [f3_7]) rfl rfl ?_
          refine XX.goto (tgt := 46) dd_M_makeRuns_234 (by decide) ?_
          refine XX.lvs [3, 4, 0, 1, 2] rfl ?_
          have hst : rs_st (oml B sep all kc kd kg bs bo len st) ln (im, th, nx, lt, ou, ro, sz, rn) = (updN im b (im (th - 1)), (th - 1), nx, some (im b), ou + 1, updN ro ou (im b), rs_sz lt sz rn, rs_rn lt rn) := by simp only [rs_st]; rw [hsel]; simp only []; rw [if_neg (by omega)]
          rw [hst] at hrs
          exact ih _ _ _ _ (some (im b)) _ _ _ _ _ _ _ (fun i h1 h2 h3 => by simp [upd, h1]; exact hgy i h1 h2 h3) (by rw [hrnn]; rfl) (by simp; split at hmu <;> omega) hrs (by omega) (by omega) (by omega) (by omega) (by rw [hrnn]; omega) (Or.inr (by rw [hrnn]; omega)) (fun t h => by cases h; exact hib2) (fun i hi => by
            by_cases e : i = b
            · rw [e, pk_us, updN_s]; exact ⟨rfl, (him (th - 1) (by omega)).2⟩
            · rw [pk_un e, updN_n e]; exact him i (by omega)) (fun i hi => by
            by_cases e : i = ou
            · rw [e, pk_us, updN_s]; exact ⟨rfl, hib2⟩
            · rw [pk_un e, updN_n e]; exact hro i (by omega)) (fun i hi => by
            rw [hrnn] at hi
            rw [rs_sz, hs0, hrnn, show rn + 1 - 1 = rn by omega]
            by_cases e : i = rn
            · rw [e, pk_us, updN_s, updN_s]
            · rw [pk_un e, pk_un e, updN_n e, updN_n e]; exact hsz i (by omega))
        ·
          refine XX.aload_n dd_M_makeRuns_204 rfl 2 rfl ?_
          refine XX.get (q0 := 0) (v := .ref (q 11)) fl_M_51 dd_M_makeRuns_205 rfl rfl ?_
          refine XX.iload dd_M_makeRuns_208 5 rfl ?_
          refine XX.iload_n dd_M_makeRuns_210 rfl 3 rfl ?_
          refine XX.iast (q0 := 11) (n := 500) (j := b) (f := ga) (ws2 := wM G q (upd xy 12 (nI (rn + 1))) (fup (f3 f ga (upd gr ou (nI (im b))) (upd (upd gs rn (nI 0)) rn (nI (0 + 1)))) 10 (upd ga b (nI nx))) kl) dd_M_makeRuns_211 rfl (by omega) (by decide) rfl ?_
          refine XX.cg (ws2 := wM G q (upd xy 12 (nI (rn + 1))) (f3 f (upd ga b (nI nx)) (upd gr ou (nI (im b))) (upd (upd gs rn (nI 0)) rn (nI (0 + 1)))) kl) (by first | rw [f3_10] | rw [f3_6] | rw [f3_7]) rfl rfl ?_
          refine XX.iinc (z := 3) (v := nI (nx + 1)) (lv2 := [(1, .int (nI (nx + 1))), (3, .int (nI (ou + 1))), (4, .int (nI (im b))), (0, .ref (q 0)), (2, .int (nI th)), (5, .int (nI b)), (6, .int (nI th))]) dd_M_makeRuns_212 rfl ((nI_succ _).symm) (by decide) rfl ?_
          refine XX.goto (tgt := 234) dd_M_makeRuns_215 (by decide) ?_
          refine XX.goto (tgt := 46) dd_M_makeRuns_234 (by decide) ?_
          refine XX.lvs [3, 0, 4, 1, 2] rfl ?_
          have hst : rs_st (oml B sep all kc kd kg bs bo len st) ln (im, th, nx, lt, ou, ro, sz, rn) = (updN im b nx, th, (nx + 1), some (im b), ou + 1, updN ro ou (im b), rs_sz lt sz rn, rs_rn lt rn) := by simp only [rs_st]; rw [hsel]; simp only []; rw [if_pos (by omega)]
          rw [hst] at hrs
          exact ih _ _ _ _ (some (im b)) _ _ _ _ _ _ _ (fun i h1 h2 h3 => by simp [upd, h1]; exact hgy i h1 h2 h3) (by rw [hrnn]; rfl) (by simp; split at hmu <;> omega) hrs (by omega) (by omega) (by omega) (by omega) (by rw [hrnn]; omega) (Or.inr (by rw [hrnn]; omega)) (fun t h => by cases h; exact hib2) (fun i hi => by
            by_cases e : i = b
            · rw [e, pk_us, updN_s]; exact ⟨rfl, by omega⟩
            · rw [pk_un e, updN_n e]; exact him i (by omega)) (fun i hi => by
            by_cases e : i = ou
            · rw [e, pk_us, updN_s]; exact ⟨rfl, hib2⟩
            · rw [pk_un e, updN_n e]; exact hro i (by omega)) (fun i hi => by
            rw [hrnn] at hi
            rw [rs_sz, hs0, hrnn, show rn + 1 - 1 = rn by omega]
            by_cases e : i = rn
            · rw [e, pk_us, updN_s, updN_s]
            · rw [pk_un e, pk_un e, updN_n e, updN_n e]; exact hsz i (by omega))
      have j161s : ¬ lt = none → ∀ (xy : Nat → Int32) (b : Nat), agR x xy → xy 12 = nI rn → 0 < th → rs_sel (oml B sep all kc kd kg bs bo len st) im lt th = some b → b < th → XX G m_M_makeRuns (xr 9 0 0) (xx_F G (fun r w => r = none ∧ ∃ (x2 ga gr gs : Nat → Int32) (im ro sz : Nat → Nat) (lt : Option Nat) (rn : Nat), rs_run (oml B sep all kc kd kg bs bo len st) ln (2 * ln + 1) (rs_0 ln mem) = (im, 0, ln, lt, ln, ro, sz, rn) ∧ w = wM G q x2 (f3 f ga gr gs) kl ∧ agR x x2 ∧ x2 12 = nI rn ∧ rn ≤ ln ∧ (∀ i, i < ln → gr i = nI (ro i) ∧ ro i < ln) ∧ ∀ i, i < rn → gs i = nI (sz i)) (xr 9 0 0)) 0 0 (wM G q xy (f3 f ga gr gs) kl) 161 [(0, .ref (q 0)), (1, .int (nI nx)), (2, .int (nI th)), (3, .int (nI ou)), (4, .int (oN lt)), (5, .int (nI b)), (6, .int (nI th))] [] := by
        intro hlt xy b hgy h12y hth0 hsel hb
        have h1y : xy 1 = nI ln := (hgy 1 (by omega) (by omega) (by omega)).trans hx1
        obtain ⟨hib1, hib2⟩ := him b hb
        have hrs : rs_run (oml B sep all kc kd kg bs bo len st) ln fu (rs_st (oml B sep all kc kd kg bs bo len st) ln (im, th, nx, lt, ou, ro, sz, rn)) = rs_run (oml B sep all kc kd kg bs bo len st) ln (2 * ln + 1) (rs_0 ln mem) := by rw [← hr, rs_run, if_neg (by show ¬ th = 0; omega)]
        have hrnn : rs_rn lt rn = rn := by rw [rs_rn, if_neg hlt]
        have hs0 : rs_s0 lt sz rn = sz := by rw [rs_s0, if_neg hlt]
        have hrn1 : 1 ≤ rn := by rcases hlt1 with h | h; exact absurd h hlt; exact h
        refine XX.aload_n dd_M_makeRuns_161 rfl 0 rfl ?_
        refine XX.get (q0 := 0) (v := .ref (q 11)) fl_M_51 dd_M_makeRuns_162 rfl rfl ?_
        refine XX.iload dd_M_makeRuns_165 5 rfl ?_
        refine XX.iald (q0 := 11) (n := 500) (j := b) (f := ga) dd_M_makeRuns_167 rfl (by omega) (by decide) ?_
        refine XX.tp (y := nI (im b)) (hib1) ?_
        refine XX.istore (lv2 := [(4, .int (nI (im b))), (0, .ref (q 0)), (1, .int (nI nx)), (2, .int (nI th)), (3, .int (nI ou)), (5, .int (nI b)), (6, .int (nI th))]) dd_M_makeRuns_168 (by decide) rfl ?_
        refine XX.aload_n dd_M_makeRuns_170 rfl 1 rfl ?_
        refine XX.get (q0 := 0) (v := .ref (q 7)) fl_M_39 dd_M_makeRuns_171 rfl rfl ?_
        refine XX.iload_n dd_M_makeRuns_174 rfl 4 rfl ?_
        refine XX.iload dd_M_makeRuns_175 0 rfl ?_
        refine XX.iast (q0 := 7) (n := 1000) (j := ou) (f := gr) (ws2 := wM G q xy (fup (f3 f ga gr gs) 6 (upd gr ou (nI (im b)))) kl) dd_M_makeRuns_177 rfl (by omega) (by decide) rfl ?_
        refine XX.cg (ws2 := wM G q xy (f3 f ga (upd gr ou (nI (im b))) gs) kl) (by first | rw [f3_10] | rw [f3_6] | rw [f3_7]) rfl rfl ?_
        refine XX.iinc (z := 4) (v := nI (ou + 1)) (lv2 := [(3, .int (nI (ou + 1))), (4, .int (nI (im b))), (0, .ref (q 0)), (1, .int (nI nx)), (2, .int (nI th)), (5, .int (nI b)), (6, .int (nI th))]) dd_M_makeRuns_178 rfl ((nI_succ _).symm) (by decide) rfl ?_
        refine XX.aload_n dd_M_makeRuns_181 rfl 2 rfl ?_
        refine XX.get (q0 := 0) (v := .ref (q 8)) fl_M_42 dd_M_makeRuns_182 rfl rfl ?_
        refine XX.aload_n dd_M_makeRuns_185 rfl 2 rfl ?_
        refine XX.get (q0 := 0) (v := .int (xy 12)) fl_M_194 dd_M_makeRuns_186 rfl rfl ?_
        refine XX.tp (y := nI rn) (h12y) ?_
        refine XX.iconst (v := nI 1) dd_M_makeRuns_189 (by decide) ?_
        refine XX.isub dd_M_makeRuns_190 ?_
        refine XX.tp (y := nI (rn - 1)) (pk_sub (by omega)) ?_
        refine XX.dup2 dd_M_makeRuns_191 rfl rfl ?_
        refine XX.iald (q0 := 8) (n := 1000) (j := rn - 1) (f := gs) dd_M_makeRuns_192 rfl (by omega) (by decide) ?_
        refine XX.tp (y := nI (sz (rn - 1))) (hsz (rn - 1) (by omega)) ?_
        refine XX.iconst (v := nI 1) dd_M_makeRuns_193 (by decide) ?_
        refine XX.iadd dd_M_makeRuns_194 ?_
        refine XX.tp (y := nI (sz (rn - 1) + 1)) (nI_add _ _) ?_
        refine XX.iast (q0 := 8) (n := 1000) (j := rn - 1) (f := gs) (ws2 := wM G q xy (fup (f3 f ga (upd gr ou (nI (im b))) gs) 7 (upd gs (rn - 1) (nI (sz (rn - 1) + 1)))) kl) dd_M_makeRuns_195 rfl (by omega) (by decide) rfl ?_
        refine XX.cg (ws2 := wM G q xy (f3 f ga (upd gr ou (nI (im b))) (upd gs (rn - 1) (nI (sz (rn - 1) + 1)))) kl) (by first | rw [f3_10] | rw [f3_6] | rw [f3_7]) rfl rfl ?_
        refine XX.iload_n dd_M_makeRuns_196 rfl 3 rfl ?_
        refine XX.aload_n dd_M_makeRuns_197 rfl 2 rfl ?_
        refine XX.get (q0 := 0) (v := .int (xy 1)) fl_M_78 dd_M_makeRuns_198 rfl rfl ?_
        refine XX.tp (y := nI ln) (h1y) ?_
        refine XX.ncmp_ge (tgt := 218) dd_M_makeRuns_201 (by decide) (by omega) (by omega) (fun h201 => ?_) (fun h201 => ?_)
        ·
          refine XX.iinc (z := 4) (v := nI (th - 1)) (lv2 := [(2, .int (nI (th - 1))), (3, .int (nI (ou + 1))), (4, .int (nI (im b))), (0, .ref (q 0)), (1, .int (nI nx)), (5, .int (nI b)), (6, .int (nI th))]) dd_M_makeRuns_218 rfl (xn_dec (by omega)) (by decide) rfl ?_
          refine XX.aload_n dd_M_makeRuns_221 rfl 3 rfl ?_
          refine XX.get (q0 := 0) (v := .ref (q 11)) fl_M_51 dd_M_makeRuns_222 rfl rfl ?_
          refine XX.iload dd_M_makeRuns_225 5 rfl ?_
          refine XX.aload_n dd_M_makeRuns_227 rfl 3 rfl ?_
          refine XX.get (q0 := 0) (v := .ref (q 11)) fl_M_51 dd_M_makeRuns_228 rfl rfl ?_
          refine XX.iload_n dd_M_makeRuns_231 rfl 0 rfl ?_
          refine XX.iald (q0 := 11) (n := 500) (j := th - 1) (f := ga) dd_M_makeRuns_232 rfl (by omega) (by decide) ?_
          refine XX.tp (y := nI (im (th - 1))) ((him (th - 1) (by omega)).1) ?_
          refine XX.iast (q0 := 11) (n := 500) (j := b) (f := ga) (ws2 := wM G q xy (fup (f3 f ga (upd gr ou (nI (im b))) (upd gs (rn - 1) (nI (sz (rn - 1) + 1)))) 10 (upd ga b (nI (im (th - 1))))) kl) dd_M_makeRuns_233 rfl (by omega) (by decide) rfl ?_
          refine XX.cg (ws2 := wM G q xy (f3 f (upd ga b (nI (im (th - 1)))) (upd gr ou (nI (im b))) (upd gs (rn - 1) (nI (sz (rn - 1) + 1)))) kl) (by first | rw [f3_10] | rw [f3_6] | rw [f3_7]) rfl rfl ?_
          refine XX.goto (tgt := 46) dd_M_makeRuns_234 (by decide) ?_
          refine XX.lvs [3, 4, 0, 1, 2] rfl ?_
          have hst : rs_st (oml B sep all kc kd kg bs bo len st) ln (im, th, nx, lt, ou, ro, sz, rn) = (updN im b (im (th - 1)), (th - 1), nx, some (im b), ou + 1, updN ro ou (im b), rs_sz lt sz rn, rs_rn lt rn) := by simp only [rs_st]; rw [hsel]; simp only []; rw [if_neg (by omega)]
          rw [hst] at hrs
          exact ih _ _ _ _ (some (im b)) _ _ _ _ _ _ _ hgy (by rw [hrnn]; exact h12y) (by simp; split at hmu <;> omega) hrs (by omega) (by omega) (by omega) (by omega) (by rw [hrnn]; omega) (Or.inr (by rw [hrnn]; omega)) (fun t h => by cases h; exact hib2) (fun i hi => by
            by_cases e : i = b
            · rw [e, pk_us, updN_s]; exact ⟨rfl, (him (th - 1) (by omega)).2⟩
            · rw [pk_un e, updN_n e]; exact him i (by omega)) (fun i hi => by
            by_cases e : i = ou
            · rw [e, pk_us, updN_s]; exact ⟨rfl, hib2⟩
            · rw [pk_un e, updN_n e]; exact hro i (by omega)) (fun i hi => by
            rw [hrnn] at hi
            rw [rs_sz, hs0, hrnn]
            by_cases e : i = rn - 1
            · rw [e, pk_us, updN_s]
            · rw [pk_un e, updN_n e]; exact hsz i (by omega))
        ·
          refine XX.aload_n dd_M_makeRuns_204 rfl 2 rfl ?_
          refine XX.get (q0 := 0) (v := .ref (q 11)) fl_M_51 dd_M_makeRuns_205 rfl rfl ?_
          refine XX.iload dd_M_makeRuns_208 5 rfl ?_
          refine XX.iload_n dd_M_makeRuns_210 rfl 3 rfl ?_
          refine XX.iast (q0 := 11) (n := 500) (j := b) (f := ga) (ws2 := wM G q xy (fup (f3 f ga (upd gr ou (nI (im b))) (upd gs (rn - 1) (nI (sz (rn - 1) + 1)))) 10 (upd ga b (nI nx))) kl) dd_M_makeRuns_211 rfl (by omega) (by decide) rfl ?_
          refine XX.cg (ws2 := wM G q xy (f3 f (upd ga b (nI nx)) (upd gr ou (nI (im b))) (upd gs (rn - 1) (nI (sz (rn - 1) + 1)))) kl) (by first | rw [f3_10] | rw [f3_6] | rw [f3_7]) rfl rfl ?_
          refine XX.iinc (z := 3) (v := nI (nx + 1)) (lv2 := [(1, .int (nI (nx + 1))), (3, .int (nI (ou + 1))), (4, .int (nI (im b))), (0, .ref (q 0)), (2, .int (nI th)), (5, .int (nI b)), (6, .int (nI th))]) dd_M_makeRuns_212 rfl ((nI_succ _).symm) (by decide) rfl ?_
          refine XX.goto (tgt := 234) dd_M_makeRuns_215 (by decide) ?_
          refine XX.goto (tgt := 46) dd_M_makeRuns_234 (by decide) ?_
          refine XX.lvs [3, 0, 4, 1, 2] rfl ?_
          have hst : rs_st (oml B sep all kc kd kg bs bo len st) ln (im, th, nx, lt, ou, ro, sz, rn) = (updN im b nx, th, (nx + 1), some (im b), ou + 1, updN ro ou (im b), rs_sz lt sz rn, rs_rn lt rn) := by simp only [rs_st]; rw [hsel]; simp only []; rw [if_pos (by omega)]
          rw [hst] at hrs
          exact ih _ _ _ _ (some (im b)) _ _ _ _ _ _ _ hgy (by rw [hrnn]; exact h12y) (by simp; split at hmu <;> omega) hrs (by omega) (by omega) (by omega) (by omega) (by rw [hrnn]; omega) (Or.inr (by rw [hrnn]; omega)) (fun t h => by cases h; exact hib2) (fun i hi => by
            by_cases e : i = b
            · rw [e, pk_us, updN_s]; exact ⟨rfl, by omega⟩
            · rw [pk_un e, updN_n e]; exact him i (by omega)) (fun i hi => by
            by_cases e : i = ou
            · rw [e, pk_us, updN_s]; exact ⟨rfl, hib2⟩
            · rw [pk_un e, updN_n e]; exact hro i (by omega)) (fun i hi => by
            rw [hrnn] at hi
            rw [rs_sz, hs0, hrnn]
            by_cases e : i = rn - 1
            · rw [e, pk_us, updN_s]
            · rw [pk_un e, updN_n e]; exact hsz i (by omega))
      have j123 : ∀ xy : Nat → Int32, agR x xy → xy 12 = nI rn → 0 < th → XX G m_M_makeRuns (xr 9 0 0) (xx_F G (fun r w => r = none ∧ ∃ (x2 ga gr gs : Nat → Int32) (im ro sz : Nat → Nat) (lt : Option Nat) (rn : Nat), rs_run (oml B sep all kc kd kg bs bo len st) ln (2 * ln + 1) (rs_0 ln mem) = (im, 0, ln, lt, ln, ro, sz, rn) ∧ w = wM G q x2 (f3 f ga gr gs) kl ∧ agR x x2 ∧ x2 12 = nI rn ∧ rn ≤ ln ∧ (∀ i, i < ln → gr i = nI (ro i) ∧ ro i < ln) ∧ ∀ i, i < rn → gs i = nI (sz i)) (xr 9 0 0)) 0 0 (wM G q xy (f3 f ga gr gs) kl) 123 [(0, .ref (q 0)), (1, .int (nI nx)), (2, .int (nI th)), (3, .int (nI ou)), (4, .int (oN lt)), (5, .int (oN (rs_sel (oml B sep all kc kd kg bs bo len st) im lt th))), (6, .int (nI th))] [] := by
        intro xy hgy h12y hth0
        have h1y : xy 1 = nI ln := (hgy 1 (by omega) (by omega) (by omega)).trans hx1
        refine XX.iload dd_M_makeRuns_123 5 rfl ?_
        refine XX.iconst (v := -1) dd_M_makeRuns_125 (by decide) ?_
        refine XX.icmp_ne (tgt := 135) dd_M_makeRuns_126 (by decide) (fun h126 => ?_) (fun h126 => ?_)
        ·
          obtain ⟨b, hsel⟩ := oN_some h126
          have hbl := rs_sel_lt hsel
          refine XX.cg (ws2 := wM G q xy (f3 f ga gr gs) kl) (lv2 := [(0, .ref (q 0)), (1, .int (nI nx)), (2, .int (nI th)), (3, .int (nI ou)), (4, .int (oN lt)), (5, .int (nI b)), (6, .int (nI th))]) rfl (by rw [hsel]; rfl) rfl ?_
          refine XX.iload dd_M_makeRuns_135 4 rfl ?_
          refine XX.iconst (v := -1) dd_M_makeRuns_137 (by decide) ?_
          refine XX.icmp_ne (tgt := 161) dd_M_makeRuns_138 (by decide) (fun h138 => ?_) (fun h138 => ?_)
          ·
            exact j161s (fun z => h138 (by rw [z]; rfl)) xy b hgy h12y hth0 hsel hbl
          ·
            refine XX.aload_n dd_M_makeRuns_141 rfl 0 rfl ?_
            refine XX.get (q0 := 0) (v := .ref (q 8)) fl_M_42 dd_M_makeRuns_142 rfl rfl ?_
            refine XX.aload_n dd_M_makeRuns_145 rfl 0 rfl ?_
            refine XX.get (q0 := 0) (v := .int (xy 12)) fl_M_194 dd_M_makeRuns_146 rfl rfl ?_
            refine XX.tp (y := nI rn) (h12y) ?_
            refine XX.iconst (v := nI 0) dd_M_makeRuns_149 (by decide) ?_
            refine XX.iast (q0 := 8) (n := 1000) (j := rn) (f := gs) (ws2 := wM G q xy (fup (f3 f ga gr gs) 7 (upd gs rn (nI 0))) kl) dd_M_makeRuns_150 rfl (by omega) (by decide) rfl ?_
            refine XX.aload_n dd_M_makeRuns_151 rfl 0 rfl ?_
            refine XX.dup dd_M_makeRuns_152 rfl ?_
            refine XX.get (q0 := 0) (v := .int (xy 12)) fl_M_194 dd_M_makeRuns_153 rfl rfl ?_
            refine XX.tp (y := nI rn) (h12y) ?_
            refine XX.iconst (v := nI 1) dd_M_makeRuns_156 (by decide) ?_
            refine XX.iadd dd_M_makeRuns_157 ?_
            refine XX.tp (y := nI (rn + 1)) (nI_add _ _) ?_
            refine XX.put (q0 := 0) (ws2 := wM G q (upd xy 12 (nI (rn + 1))) (fup (f3 f ga gr gs) 7 (upd gs rn (nI 0))) kl) fp_M_194 dd_M_makeRuns_158 rfl rfl rfl (xn_le rfl) rfl ?_
            refine XX.cg (ws2 := wM G q (upd xy 12 (nI (rn + 1))) (f3 f ga gr (upd gs rn (nI 0))) kl) (by first | rw [f3_10] | rw [f3_6] | rw [f3_7]) rfl rfl ?_
            exact j161n (oN_none h138 (fun z hz => by have := hltb z hz; omega)) xy b hgy h12y hth0 hsel hbl
        ·
          refine XX.iconst (v := -1) dd_M_makeRuns_129 (by decide) ?_
          refine XX.istore (lv2 := [(4, .int (-1)), (0, .ref (q 0)), (1, .int (nI nx)), (2, .int (nI th)), (3, .int (nI ou)), (5, .int (oN (rs_sel (oml B sep all kc kd kg bs bo len st) im lt th))), (6, .int (nI th))]) dd_M_makeRuns_130 (by decide) rfl ?_
          refine XX.goto (tgt := 46) dd_M_makeRuns_132 (by decide) ?_
          refine XX.lvs [1, 2, 3, 4, 0] rfl ?_
          have hsel := oN_none h126 (fun z hz => by have := rs_sel_lt hz; omega)
          have hlt : ¬ lt = none := fun z => by rw [z] at hsel; exact rs_sel_no hth0 hsel
          have hst : rs_st (oml B sep all kc kd kg bs bo len st) ln (im, th, nx, lt, ou, ro, sz, rn) = (im, th, nx, none, ou, ro, sz, rn) := by simp only [rs_st]; rw [hsel]
          exact ih _ _ _ _ none _ _ _ _ _ _ _ hgy h12y (by rw [if_neg hlt] at hmu; simp; omega) (by rw [← hst, ← hr, rs_run, if_neg (by show ¬ th = 0; omega)]) hnx hsum hth hth5 hrn (Or.inl rfl) (fun t h => by cases h) him hro hsz
      have inner : 0 < th → ∀ (k2 i : Nat) (xy : Nat → Int32), th - i = k2 → i ≤ th → agR x xy → xy 12 = nI rn → XX G m_M_makeRuns (xr 9 0 0) (xx_F G (fun r w => r = none ∧ ∃ (x2 ga gr gs : Nat → Int32) (im ro sz : Nat → Nat) (lt : Option Nat) (rn : Nat), rs_run (oml B sep all kc kd kg bs bo len st) ln (2 * ln + 1) (rs_0 ln mem) = (im, 0, ln, lt, ln, ro, sz, rn) ∧ w = wM G q x2 (f3 f ga gr gs) kl ∧ agR x x2 ∧ x2 12 = nI rn ∧ rn ≤ ln ∧ (∀ i, i < ln → gr i = nI (ro i) ∧ ro i < ln) ∧ ∀ i, i < rn → gs i = nI (sz i)) (xr 9 0 0)) 0 0 (wM G q xy (f3 f ga gr gs) kl) 56 [(0, .ref (q 0)), (1, .int (nI nx)), (2, .int (nI th)), (3, .int (nI ou)), (4, .int (oN lt)), (5, .int (oN (rs_sel (oml B sep all kc kd kg bs bo len st) im lt i))), (6, .int (nI i))] [] := by
        intro hth0 k2
        induction k2 using Nat.strongRecOn with
        | _ k2 ih2 =>
          intro i xy hk2 hi hgy h12y
          have hty : mtx xy f len ln st B := mtx_mv ht (hgy 0 (by omega) (by omega) (by omega))
          have hky : mky xy f kc kd kg := mky_mv hk (hgy 7 (by omega) (by omega) (by omega))
          have h1y : xy 1 = _ := (hgy 1 (by omega) (by omega) (by omega)).trans hx1
          have h3y : xy 3 = _ := (hgy 3 (by omega) (by omega) (by omega)).trans hx3
          have h4y : xy 4 = _ := (hgy 4 (by omega) (by omega) (by omega)).trans hx4
          have h5y : xy 5 = _ := (hgy 5 (by omega) (by omega) (by omega)).trans hx5
          have h6y : xy 6 = _ := (hgy 6 (by omega) (by omega) (by omega)).trans hx6
          have h8y : xy 8 = _ := (hgy 8 (by omega) (by omega) (by omega)).trans hx8
          have h10y : xy 10 = _ := (hgy 10 (by omega) (by omega) (by omega)).trans hx10
          have j117 : i < th → ∀ xz : Nat → Int32, agR x xz → xz 12 = nI rn → XX G m_M_makeRuns (xr 9 0 0) (xx_F G (fun r w => r = none ∧ ∃ (x2 ga gr gs : Nat → Int32) (im ro sz : Nat → Nat) (lt : Option Nat) (rn : Nat), rs_run (oml B sep all kc kd kg bs bo len st) ln (2 * ln + 1) (rs_0 ln mem) = (im, 0, ln, lt, ln, ro, sz, rn) ∧ w = wM G q x2 (f3 f ga gr gs) kl ∧ agR x x2 ∧ x2 12 = nI rn ∧ rn ≤ ln ∧ (∀ i, i < ln → gr i = nI (ro i) ∧ ro i < ln) ∧ ∀ i, i < rn → gs i = nI (sz i)) (xr 9 0 0)) 0 0 (wM G q xz (f3 f ga gr gs) kl) 117 [(0, .ref (q 0)), (1, .int (nI nx)), (2, .int (nI th)), (3, .int (nI ou)), (4, .int (oN lt)), (5, .int (oN (rs_sel (oml B sep all kc kd kg bs bo len st) im lt (i + 1)))), (6, .int (nI i))] [] := by
            intro hit xz hgz h12z
            refine XX.iinc (z := 6) (v := nI (i + 1)) (lv2 := [(6, .int (nI (i + 1))), (0, .ref (q 0)), (1, .int (nI nx)), (2, .int (nI th)), (3, .int (nI ou)), (4, .int (oN lt)), (5, .int (oN (rs_sel (oml B sep all kc kd kg bs bo len st) im lt (i + 1))))]) dd_M_makeRuns_117 rfl ((nI_succ _).symm) (by decide) rfl ?_
            refine XX.goto (tgt := 56) dd_M_makeRuns_120 (by decide) ?_
            refine XX.lvs [1, 2, 3, 4, 5, 6, 0] rfl ?_
            exact ih2 _ (by omega) (i + 1) xz rfl (by omega) hgz h12z
          have j91 : i < th → rs_out (oml B sep all kc kd kg bs bo len st) lt (im i) = false → ∀ xz : Nat → Int32, agR x xz → xz 12 = nI rn → XX G m_M_makeRuns (xr 9 0 0) (xx_F G (fun r w => r = none ∧ ∃ (x2 ga gr gs : Nat → Int32) (im ro sz : Nat → Nat) (lt : Option Nat) (rn : Nat), rs_run (oml B sep all kc kd kg bs bo len st) ln (2 * ln + 1) (rs_0 ln mem) = (im, 0, ln, lt, ln, ro, sz, rn) ∧ w = wM G q x2 (f3 f ga gr gs) kl ∧ agR x x2 ∧ x2 12 = nI rn ∧ rn ≤ ln ∧ (∀ i, i < ln → gr i = nI (ro i) ∧ ro i < ln) ∧ ∀ i, i < rn → gs i = nI (sz i)) (xr 9 0 0)) 0 0 (wM G q xz (f3 f ga gr gs) kl) 91 [(0, .ref (q 0)), (1, .int (nI nx)), (2, .int (nI th)), (3, .int (nI ou)), (4, .int (oN lt)), (5, .int (oN (rs_sel (oml B sep all kc kd kg bs bo len st) im lt i))), (6, .int (nI i)), (7, .int (nI (im i)))] [] := by
            intro hit hout xz hgz h12z
            have htz : mtx xz f len ln st B := mtx_mv ht (hgz 0 (by omega) (by omega) (by omega))
            have hkz : mky xz f kc kd kg := mky_mv hk (hgz 7 (by omega) (by omega) (by omega))
            have h1z : xz 1 = _ := (hgz 1 (by omega) (by omega) (by omega)).trans hx1
            have h3z : xz 3 = _ := (hgz 3 (by omega) (by omega) (by omega)).trans hx3
            have h4z : xz 4 = _ := (hgz 4 (by omega) (by omega) (by omega)).trans hx4
            have h5z : xz 5 = _ := (hgz 5 (by omega) (by omega) (by omega)).trans hx5
            have h6z : xz 6 = _ := (hgz 6 (by omega) (by omega) (by omega)).trans hx6
            have h8z : xz 8 = _ := (hgz 8 (by omega) (by omega) (by omega)).trans hx8
            have h10z : xz 10 = _ := (hgz 10 (by omega) (by omega) (by omega)).trans hx10
            refine XX.iload dd_M_makeRuns_91 5 rfl ?_
            refine XX.iconst (v := -1) dd_M_makeRuns_93 (by decide) ?_
            refine XX.icmp_eq (tgt := 113) dd_M_makeRuns_94 (by decide) (fun h94 => ?_) (fun h94 => ?_)
            ·
              refine XX.iload dd_M_makeRuns_113 6 rfl ?_
              refine XX.istore (lv2 := [(5, .int (nI i)), (0, .ref (q 0)), (1, .int (nI nx)), (2, .int (nI th)), (3, .int (nI ou)), (4, .int (oN lt)), (6, .int (nI i)), (7, .int (nI (im i)))]) dd_M_makeRuns_115 (by decide) rfl ?_
              refine XX.cg (ws2 := wM G q xz (f3 f ga gr gs) kl) (lv2 := [(5, .int (oN (rs_sel (oml B sep all kc kd kg bs bo len st) im lt (i + 1)))), (0, .ref (q 0)), (1, .int (nI nx)), (2, .int (nI th)), (3, .int (nI ou)), (4, .int (oN lt)), (6, .int (nI i)), (7, .int (nI (im i)))]) rfl (by rw [rs_s2 hout (oN_none h94 (fun z hz => by have := rs_sel_lt hz; omega))]; rfl) rfl ?_
              refine XX.lvs [1, 2, 3, 4, 5, 0, 6] rfl ?_
              exact j117 (by omega) xz hgz h12z
            ·
              obtain ⟨b, hsb⟩ := oN_some h94
              have hbl := rs_sel_lt hsb
              refine XX.cg (ws2 := wM G q xz (f3 f ga gr gs) kl) (lv2 := [(0, .ref (q 0)), (1, .int (nI nx)), (2, .int (nI th)), (3, .int (nI ou)), (4, .int (oN lt)), (5, .int (nI b)), (6, .int (nI i)), (7, .int (nI (im i)))]) rfl (by rw [hsb]; rfl) rfl ?_
              refine XX.aload_n dd_M_makeRuns_97 rfl 0 rfl ?_
              refine XX.iload dd_M_makeRuns_98 7 rfl ?_
              refine XX.aload_n dd_M_makeRuns_100 rfl 0 rfl ?_
              refine XX.get (q0 := 0) (v := .ref (q 11)) fl_M_51 dd_M_makeRuns_101 rfl rfl ?_
              refine XX.iload dd_M_makeRuns_104 5 rfl ?_
              refine XX.iald (q0 := 11) (n := 500) (j := b) (f := ga) dd_M_makeRuns_106 rfl (by omega) (by decide) ?_
              refine XX.tp (y := nI (im b)) ((him b (by omega)).1) ?_
              refine XX.callV (Mk := m_M_isBefore) (n := 2) (As := [.int (nI (im i)), .int (nI (im b))]) (rest := []) (q0 := 0) (ci := 9) (c_M_isBefore (f := f3 f ga gr gs) htz hby h6z hkz h3z h4z h5z h10z hhd (la := im i) (lb := im b) ((him i (by omega)).2) ((him b (by omega)).2)) mt_M_isBefore mi_M_isBefore ml_M_197 rfl dd_M_makeRuns_107 (rfl) rfl rfl ⟨xn_le rfl, xn_le rfl⟩ ⟨xn_le rfl, xn_le rfl⟩ (xn_le rfl) rfl (fun r1 w1 hp1 => ?_)
              obtain ⟨rfl, xw, rfl, hq1⟩ := hp1
              have hgw : agR x xw := fun i h1 h2 h3 => (hq1 i h2 h3).trans (hgz i h1 h2 h3)
              refine (?_ : XX G m_M_makeRuns (xr 9 0 0) (xx_F G (fun r w => r = none ∧ ∃ (x2 ga gr gs : Nat → Int32) (im ro sz : Nat → Nat) (lt : Option Nat) (rn : Nat), rs_run (oml B sep all kc kd kg bs bo len st) ln (2 * ln + 1) (rs_0 ln mem) = (im, 0, ln, lt, ln, ro, sz, rn) ∧ w = wM G q x2 (f3 f ga gr gs) kl ∧ agR x x2 ∧ x2 12 = nI rn ∧ rn ≤ ln ∧ (∀ i, i < ln → gr i = nI (ro i) ∧ ro i < ln) ∧ ∀ i, i < rn → gs i = nI (sz i)) (xr 9 0 0)) 0 0 (wM G q xw (f3 f ga gr gs) kl) 110 [(0, .ref (q 0)), (1, .int (nI nx)), (2, .int (nI th)), (3, .int (nI ou)), (4, .int (oN lt)), (5, .int (nI b)), (6, .int (nI i)), (7, .int (nI (im i)))] [.int (bI (bf (oml B sep all kc kd kg bs bo len st) (im i) (im b)))])
              refine XX.bif_eq (tgt := 117) dd_M_makeRuns_110 (by decide) (fun h110 => ?_) (fun h110 => ?_)
              ·
                refine XX.cg (ws2 := wM G q xw (f3 f ga gr gs) kl) (lv2 := [(0, .ref (q 0)), (1, .int (nI nx)), (2, .int (nI th)), (3, .int (nI ou)), (4, .int (oN lt)), (5, .int (oN (rs_sel (oml B sep all kc kd kg bs bo len st) im lt (i + 1)))), (6, .int (nI i)), (7, .int (nI (im i)))]) rfl (by rw [rs_s4 hout hsb h110]; rfl) rfl ?_
                refine XX.lvs [0, 1, 2, 3, 4, 5, 6] rfl ?_
                exact j117 (by omega) xw hgw ((hq1 12 (by omega) (by omega)).trans h12z)
              ·
                refine XX.iload dd_M_makeRuns_113 6 rfl ?_
                refine XX.istore (lv2 := [(5, .int (nI i)), (0, .ref (q 0)), (1, .int (nI nx)), (2, .int (nI th)), (3, .int (nI ou)), (4, .int (oN lt)), (6, .int (nI i)), (7, .int (nI (im i)))]) dd_M_makeRuns_115 (by decide) rfl ?_
                refine XX.cg (ws2 := wM G q xw (f3 f ga gr gs) kl) (lv2 := [(5, .int (oN (rs_sel (oml B sep all kc kd kg bs bo len st) im lt (i + 1)))), (0, .ref (q 0)), (1, .int (nI nx)), (2, .int (nI th)), (3, .int (nI ou)), (4, .int (oN lt)), (6, .int (nI i)), (7, .int (nI (im i)))]) rfl (by rw [rs_s3 hout hsb h110]; rfl) rfl ?_
                refine XX.lvs [1, 2, 3, 4, 5, 0, 6] rfl ?_
                exact j117 (by omega) xw hgw ((hq1 12 (by omega) (by omega)).trans h12z)
          refine XX.iload dd_M_makeRuns_56 6 rfl ?_
          refine XX.iload_n dd_M_makeRuns_58 rfl 2 rfl ?_
          refine XX.ncmp_ge (tgt := 123) dd_M_makeRuns_59 (by decide) (by omega) (by omega) (fun h59 => ?_) (fun h59 => ?_)
          ·
            obtain rfl : i = th := by omega
            exact j123 xy hgy h12y hth0
          ·
            refine XX.aload_n dd_M_makeRuns_62 rfl 0 rfl ?_
            refine XX.get (q0 := 0) (v := .ref (q 11)) fl_M_51 dd_M_makeRuns_63 rfl rfl ?_
            refine XX.iload dd_M_makeRuns_66 6 rfl ?_
            refine XX.iald (q0 := 11) (n := 500) (j := i) (f := ga) dd_M_makeRuns_68 rfl (by omega) (by decide) ?_
            refine XX.tp (y := nI (im i)) ((him i (by omega)).1) ?_
            refine XX.istore (lv2 := [(7, .int (nI (im i))), (0, .ref (q 0)), (1, .int (nI nx)), (2, .int (nI th)), (3, .int (nI ou)), (4, .int (oN lt)), (5, .int (oN (rs_sel (oml B sep all kc kd kg bs bo len st) im lt i))), (6, .int (nI i))]) dd_M_makeRuns_69 (by decide) rfl ?_
            refine XX.iload dd_M_makeRuns_71 5 rfl ?_
            refine XX.iconst (v := -1) dd_M_makeRuns_73 (by decide) ?_
            refine XX.icmp_eq (tgt := 91) dd_M_makeRuns_74 (by decide) (fun h74 => ?_) (fun h74 => ?_)
            ·
              refine XX.lvs [1, 2, 3, 4, 5, 6, 7, 0] rfl ?_
              exact j91 (by omega) (by rw [oN_none h74 (fun z hz => by have := hltb z hz; omega)]; rfl) xy hgy h12y
            ·
              obtain ⟨t, ht0⟩ := oN_some h74
              have htl := hltb t ht0
              refine XX.cg (ws2 := wM G q xy (f3 f ga gr gs) kl) (lv2 := [(7, .int (nI (im i))), (0, .ref (q 0)), (1, .int (nI nx)), (2, .int (nI th)), (3, .int (nI ou)), (4, .int (nI t)), (5, .int (oN (rs_sel (oml B sep all kc kd kg bs bo len st) im lt i))), (6, .int (nI i))]) rfl (by rw [ht0]; rfl) rfl ?_
              refine XX.aload_n dd_M_makeRuns_77 rfl 1 rfl ?_
              refine XX.iload dd_M_makeRuns_78 0 rfl ?_
              refine XX.iload dd_M_makeRuns_80 5 rfl ?_
              refine XX.callV (Mk := m_M_isBefore) (n := 2) (As := [.int (nI (im i)), .int (nI t)]) (rest := []) (q0 := 0) (ci := 9) (c_M_isBefore (f := f3 f ga gr gs) hty hby h6y hky h3y h4y h5y h10y hhd (la := im i) (lb := t) ((him i (by omega)).2) (htl)) mt_M_isBefore mi_M_isBefore ml_M_197 rfl dd_M_makeRuns_82 (rfl) rfl rfl ⟨xn_le rfl, xn_le rfl⟩ ⟨xn_le rfl, xn_le rfl⟩ (xn_le rfl) rfl (fun r1 w1 hp1 => ?_)
              obtain ⟨rfl, xw, rfl, hq1⟩ := hp1
              have hgw : agR x xw := fun i h1 h2 h3 => (hq1 i h2 h3).trans (hgy i h1 h2 h3)
              refine (?_ : XX G m_M_makeRuns (xr 9 0 0) (xx_F G (fun r w => r = none ∧ ∃ (x2 ga gr gs : Nat → Int32) (im ro sz : Nat → Nat) (lt : Option Nat) (rn : Nat), rs_run (oml B sep all kc kd kg bs bo len st) ln (2 * ln + 1) (rs_0 ln mem) = (im, 0, ln, lt, ln, ro, sz, rn) ∧ w = wM G q x2 (f3 f ga gr gs) kl ∧ agR x x2 ∧ x2 12 = nI rn ∧ rn ≤ ln ∧ (∀ i, i < ln → gr i = nI (ro i) ∧ ro i < ln) ∧ ∀ i, i < rn → gs i = nI (sz i)) (xr 9 0 0)) 0 0 (wM G q xw (f3 f ga gr gs) kl) 85 [(7, .int (nI (im i))), (0, .ref (q 0)), (1, .int (nI nx)), (2, .int (nI th)), (3, .int (nI ou)), (4, .int (nI t)), (5, .int (oN (rs_sel (oml B sep all kc kd kg bs bo len st) im lt i))), (6, .int (nI i))] [.int (bI (bf (oml B sep all kc kd kg bs bo len st) (im i) t))])
              refine XX.bif_eq (tgt := 91) dd_M_makeRuns_85 (by decide) (fun h85 => ?_) (fun h85 => ?_)
              ·
                refine XX.cg (ws2 := wM G q xw (f3 f ga gr gs) kl) (lv2 := [(7, .int (nI (im i))), (0, .ref (q 0)), (1, .int (nI nx)), (2, .int (nI th)), (3, .int (nI ou)), (4, .int (oN lt)), (5, .int (oN (rs_sel (oml B sep all kc kd kg bs bo len st) im lt i))), (6, .int (nI i))]) rfl (by rw [ht0]; rfl) rfl ?_
                refine XX.lvs [1, 2, 3, 4, 5, 6, 7, 0] rfl ?_
                exact j91 (by omega) (by rw [ht0]; exact h85) xw hgw ((hq1 12 (by omega) (by omega)).trans h12y)
              ·
                refine XX.goto (tgt := 117) dd_M_makeRuns_88 (by decide) ?_
                refine XX.cg (ws2 := wM G q xw (f3 f ga gr gs) kl) (lv2 := [(7, .int (nI (im i))), (0, .ref (q 0)), (1, .int (nI nx)), (2, .int (nI th)), (3, .int (nI ou)), (4, .int (oN lt)), (5, .int (oN (rs_sel (oml B sep all kc kd kg bs bo len st) im lt (i + 1)))), (6, .int (nI i))]) rfl (by rw [rs_s1 (show rs_out (oml B sep all kc kd kg bs bo len st) lt (im i) = true by rw [ht0]; exact h85), ht0]; rfl) rfl ?_
                refine XX.lvs [1, 2, 3, 4, 5, 6, 7] rfl ?_
                exact j117 (by omega) xw hgw ((hq1 12 (by omega) (by omega)).trans h12y)
      refine XX.iload_n dd_M_makeRuns_46 rfl 2 rfl ?_
      refine XX.nif_le (tgt := 237) dd_M_makeRuns_47 (by decide) (by omega) (fun h47 => ?_) (fun h47 => ?_)
      ·
        have e1 : nx = ln := by omega
        have e2 : ou = ln := by omega
        rw [rs_run0 (by show th = 0; omega)] at hr
        exact XX.vret dd_M_makeRuns_237 rfl ⟨xn_le rfl, xn_le rfl⟩ ⟨rfl, xx, ga, gr, gs, im, ro, sz, lt, rn, by rw [← hr, e1, e2, show th = 0 by omega], rfl, hg, h12, by omega, fun i hi => hro i (by omega), hsz⟩
      ·
        refine XX.iconst (v := -1) dd_M_makeRuns_50 (by decide) ?_
        refine XX.istore (lv2 := [(5, .int (-1)), (0, .ref (q 0)), (1, .int (nI nx)), (2, .int (nI th)), (3, .int (nI ou)), (4, .int (oN lt))]) dd_M_makeRuns_51 (by decide) rfl ?_
        refine XX.iconst (v := nI 0) dd_M_makeRuns_53 (by decide) ?_
        refine XX.istore (lv2 := [(6, .int (nI 0)), (5, .int (-1)), (0, .ref (q 0)), (1, .int (nI nx)), (2, .int (nI th)), (3, .int (nI ou)), (4, .int (oN lt))]) dd_M_makeRuns_54 (by decide) rfl ?_
        refine XX.lvs [2, 3, 4, 5, 6, 1, 0] rfl ?_
        exact inner (by omega) _ 0 xx rfl (by omega) hg h12
  have fill : ∀ (kk j : Nat) (ga : Nat → Int32), min ln mem - j = kk → j ≤ min ln mem → (∀ i, i < j → ga i = nI i) → XX G m_M_makeRuns (xr 9 0 0) (xx_F G (fun r w => r = none ∧ ∃ (x2 ga gr gs : Nat → Int32) (im ro sz : Nat → Nat) (lt : Option Nat) (rn : Nat), rs_run (oml B sep all kc kd kg bs bo len st) ln (2 * ln + 1) (rs_0 ln mem) = (im, 0, ln, lt, ln, ro, sz, rn) ∧ w = wM G q x2 (f3 f ga gr gs) kl ∧ agR x x2 ∧ x2 12 = nI rn ∧ rn ≤ ln ∧ (∀ i, i < ln → gr i = nI (ro i) ∧ ro i < ln) ∧ ∀ i, i < rn → gs i = nI (sz i)) (xr 9 0 0)) 0 0 (wM G q (upd x 12 (nI 0)) (f3 f ga (f 6) (f 7)) kl) 11 [(0, .ref (q 0)), (1, .int (nI j)), (2, .int (nI j)), (3, .int (nI 0))] [] := by
    intro kk
    induction kk using Nat.strongRecOn with
    | _ kk ih =>
      intro j ga hk hj hga
      refine XX.iload_n dd_M_makeRuns_11 rfl 1 rfl ?_
      refine XX.aload_n dd_M_makeRuns_12 rfl 0 rfl ?_
      refine XX.get (q0 := 0) (v := .int ((upd x 12 (nI 0)) 1)) fl_M_78 dd_M_makeRuns_13 rfl rfl ?_
      refine XX.tp (y := nI ln) (hx1) ?_
      refine XX.ncmp_ge (tgt := 43) dd_M_makeRuns_16 (by decide) (by omega) (by omega) (fun h16 => ?_) (fun h16 => ?_)
      ·
        refine XX.iconst (v := oN none) dd_M_makeRuns_43 (by decide) ?_
        refine XX.istore (lv2 := [(4, .int (oN none)), (0, .ref (q 0)), (1, .int (nI j)), (2, .int (nI j)), (3, .int (nI 0))]) dd_M_makeRuns_44 (by decide) rfl ?_
        refine XX.lvs [1, 2, 3, 4, 0] rfl ?_
        obtain rfl : j = min ln mem := by omega
        exact loop (2 * ln + 1) (min ln mem) (min ln mem) 0 0 none (fun i => i) (fun _ => 0) (fun _ => 0) _ ga (f 6) (f 7) (fun i h1 h2 h3 => by simp [upd, h1]) rfl (by simp) rfl (by omega) (by omega) (by omega) (by omega) (by omega) (Or.inl rfl) (fun t h => by cases h) (fun i hi => ⟨hga i hi, by omega⟩) (fun i hi => absurd hi (by omega)) (fun i hi => absurd hi (by omega))
      ·
        refine XX.iload_n dd_M_makeRuns_19 rfl 2 rfl ?_
        refine XX.aload_n dd_M_makeRuns_20 rfl 0 rfl ?_
        refine XX.get (q0 := 0) (v := .int ((upd x 12 (nI 0)) 8)) fl_M_24 dd_M_makeRuns_21 rfl rfl ?_
        refine XX.tp (y := nI mem) (hx8) ?_
        refine XX.ncmp_ge (tgt := 43) dd_M_makeRuns_24 (by decide) (by omega) (by omega) (fun h24 => ?_) (fun h24 => ?_)
        ·
          refine XX.iconst (v := oN none) dd_M_makeRuns_43 (by decide) ?_
          refine XX.istore (lv2 := [(4, .int (oN none)), (0, .ref (q 0)), (1, .int (nI j)), (2, .int (nI j)), (3, .int (nI 0))]) dd_M_makeRuns_44 (by decide) rfl ?_
          refine XX.lvs [1, 2, 3, 4, 0] rfl ?_
          obtain rfl : j = min ln mem := by omega
          exact loop (2 * ln + 1) (min ln mem) (min ln mem) 0 0 none (fun i => i) (fun _ => 0) (fun _ => 0) _ ga (f 6) (f 7) (fun i h1 h2 h3 => by simp [upd, h1]) rfl (by simp) rfl (by omega) (by omega) (by omega) (by omega) (by omega) (Or.inl rfl) (fun t h => by cases h) (fun i hi => ⟨hga i hi, by omega⟩) (fun i hi => absurd hi (by omega)) (fun i hi => absurd hi (by omega))
        ·
          refine XX.aload_n dd_M_makeRuns_27 rfl 0 rfl ?_
          refine XX.get (q0 := 0) (v := .ref (q 11)) fl_M_51 dd_M_makeRuns_28 rfl rfl ?_
          refine XX.iload_n dd_M_makeRuns_31 rfl 2 rfl ?_
          refine XX.iload_n dd_M_makeRuns_32 rfl 1 rfl ?_
          refine XX.iast (q0 := 11) (n := 500) (j := j) (f := ga) (ws2 := wM G q (upd x 12 (nI 0)) (fup (f3 f ga (f 6) (f 7)) 10 (upd ga j (nI j))) kl) dd_M_makeRuns_33 rfl (by omega) (by decide) rfl ?_
          refine XX.cg (ws2 := wM G q (upd x 12 (nI 0)) (f3 f (upd ga j (nI j)) (f 6) (f 7)) kl) (by first | rw [f3_10] | rw [f3_6] | rw [f3_7]) rfl rfl ?_
          refine XX.iinc (z := 2) (v := nI (j + 1)) (lv2 := [(2, .int (nI (j + 1))), (0, .ref (q 0)), (1, .int (nI j)), (3, .int (nI 0))]) dd_M_makeRuns_34 rfl ((nI_succ _).symm) (by decide) rfl ?_
          refine XX.iinc (z := 2) (v := nI (j + 1)) (lv2 := [(1, .int (nI (j + 1))), (2, .int (nI (j + 1))), (0, .ref (q 0)), (3, .int (nI 0))]) dd_M_makeRuns_37 rfl ((nI_succ _).symm) (by decide) rfl ?_
          refine XX.goto (tgt := 11) dd_M_makeRuns_40 (by decide) ?_
          refine XX.lvs [2, 0, 1, 3] rfl ?_
          exact ih _ (by omega) (j + 1) _ rfl (by omega) (fun i hi => by
            by_cases e : i = j
            · rw [e, pk_us]
            · rw [pk_un e]; exact hga i (by omega))
  refine XX.iconst (v := nI 0) dd_M_makeRuns_0 (by decide) ?_
  refine XX.istore_n (lv2 := [(1, .int (nI 0)), (0, .ref (q 0))]) dd_M_makeRuns_1 rfl (by decide) rfl ?_
  refine XX.iconst (v := nI 0) dd_M_makeRuns_2 (by decide) ?_
  refine XX.istore_n (lv2 := [(2, .int (nI 0)), (1, .int (nI 0)), (0, .ref (q 0))]) dd_M_makeRuns_3 rfl (by decide) rfl ?_
  refine XX.aload_n dd_M_makeRuns_4 rfl 2 rfl ?_
  refine XX.iconst (v := nI 0) dd_M_makeRuns_5 (by decide) ?_
  refine XX.put (q0 := 0) (ws2 := wM G q (upd x 12 (nI 0)) f kl) fp_M_194 dd_M_makeRuns_6 rfl rfl rfl (xn_le rfl) rfl ?_
  refine XX.iconst (v := nI 0) dd_M_makeRuns_9 (by decide) ?_
  refine XX.istore_n (lv2 := [(3, .int (nI 0)), (2, .int (nI 0)), (1, .int (nI 0)), (0, .ref (q 0))]) dd_M_makeRuns_10 rfl (by decide) rfl ?_
  refine XX.lvs [3, 2, 1, 0] rfl ?_
  refine XX.cg (ws2 := wM G q (upd x 12 (nI 0)) (f3 f (f 10) (f 6) (f 7)) kl) (by rw [f3_self]) rfl rfl ?_
  exact fill _ 0 (f 10) rfl (by omega) (fun i hi => absurd hi (by omega))

