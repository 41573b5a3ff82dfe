/-! the heap: numbers by their places -/
def updN (h : Nat → Nat) (k v : Nat) : Nat → Nat := fun i => if i = k then v else h i
theorem updN_s {h : Nat → Nat} {k v : Nat} : updN h k v k = v := by simp [updN]
theorem updN_n {h : Nat → Nat} {k v i : Nat} (hi : i ≠ k) : updN h k v i = h i := by simp [updN, hi]
theorem fup_fup (f : Nat → Nat → Int32) (k : Nat) (a b : Nat → Int32) : fup (fup f k a) k b = fup f k b := by
  funext j
  unfold fup
  by_cases h : j = k
  · rw [if_pos h, if_pos h]
  · rw [if_neg h, if_neg h, if_neg h]
theorem fup_self (f : Nat → Nat → Int32) (k : Nat) : fup f k (f k) = f := by
  funext j
  unfold fup
  by_cases h : j = k
  · rw [if_pos h, h]
  · rw [if_neg h]
/-- the first cnt of g are the numbers h -/
def hq (g : Nat → Int32) (h : Nat → Nat) (cnt : Nat) : Prop := ∀ i, i < cnt → g i = nI (h i) ∧ h i < 2 ^ 31
def hp_up (v : Nat) (at_ : Nat) (h : Nat → Nat) : Nat → Nat :=
  if hc : 0 < at_ ∧ v < h ((at_ - 1) / 2) then hp_up v ((at_ - 1) / 2) (updN h at_ (h ((at_ - 1) / 2))) else updN h at_ v
termination_by at_
decreasing_by omega
theorem hp_up_t {v i : Nat} {h : Nat → Nat} (h1 : 0 < i) (h2 : v < h ((i - 1) / 2)) : hp_up v i h = hp_up v ((i - 1) / 2) (updN h i (h ((i - 1) / 2))) := by rw [hp_up, dif_pos ⟨h1, h2⟩]
theorem hp_up_f {v i : Nat} {h : Nat → Nat} (h1 : 0 < i → h ((i - 1) / 2) ≤ v) : hp_up v i h = updN h i v := by
  rw [hp_up, dif_neg]; rintro ⟨a, b⟩; have := h1 a; omega
/-- the smaller one of the two below -/
def hp_ch (h : Nat → Nat) (cnt b : Nat) : Nat := if b + 1 < cnt ∧ h (b + 1) < h b then b + 1 else b
theorem hp_ch_lt {h : Nat → Nat} {cnt b : Nat} (hb : b < cnt) : hp_ch h cnt b < cnt := by
  unfold hp_ch
  split
  · rename_i h1; exact h1.1
  · exact hb
theorem hp_ch_ge (h : Nat → Nat) (cnt b : Nat) : b ≤ hp_ch h cnt b := by unfold hp_ch; split <;> omega
def hp_dn (v cnt : Nat) (at_ b : Nat) (h : Nat → Nat) : Nat → Nat :=
  if hc : b < cnt ∧ h (hp_ch h cnt b) < v then hp_dn v cnt (hp_ch h cnt b) (2 * hp_ch h cnt b + 1) (updN h at_ (h (hp_ch h cnt b))) else updN h at_ v
termination_by cnt - b
decreasing_by
  have := hp_ch_ge h cnt b
  omega
theorem hp_dn_t {v cnt i b : Nat} {h : Nat → Nat} (h1 : b < cnt) (h2 : h (hp_ch h cnt b) < v) : hp_dn v cnt i b h = hp_dn v cnt (hp_ch h cnt b) (2 * hp_ch h cnt b + 1) (updN h i (h (hp_ch h cnt b))) := by rw [hp_dn, dif_pos ⟨h1, h2⟩]
theorem hp_dn_f {v cnt i b : Nat} {h : Nat → Nat} (h1 : b < cnt → v ≤ h (hp_ch h cnt b)) : hp_dn v cnt i b h = updN h i v := by
  rw [hp_dn, dif_neg]; rintro ⟨a, b⟩; have := h1 a; omega
/-- all but the place i -/
def hh_ (g : Nat → Int32) (h : Nat → Nat) (cnt i : Nat) : Prop := ∀ j, j < cnt → j ≠ i → g j = nI (h j) ∧ h j < 2 ^ 31
theorem hh_put {g : Nat → Int32} {h : Nat → Nat} {cnt i v : Nat} (hh : hh_ g h cnt i) (hv : v < 2 ^ 31) : hq (upd g i (nI v)) (updN h i v) cnt := by
  intro j hj
  by_cases e : j = i
  · subst e; rw [pk_us, updN_s]; exact ⟨rfl, hv⟩
  · rw [pk_un e, updN_n e]; exact hh j hj e
theorem hh_move {g : Nat → Int32} {h : Nat → Nat} {cnt i p : Nat} (hh : hh_ g h cnt i) (hp : p < cnt) (hne : p ≠ i) : hh_ (upd g i (nI (h p))) (updN h i (h p)) cnt p := by
  intro j hj e2
  by_cases e : j = i
  · subst e; rw [pk_us, updN_s]; exact ⟨rfl, (hh p hp hne).2⟩
  · rw [pk_un e, updN_n e]; exact hh j hj e
theorem fup_sw (f : Nat → Nat → Int32) (a b c : Nat → Int32) : fup (fup (fup f 4 a) 5 b) 4 c = fup (fup f 4 c) 5 b := by
  funext j
  unfold fup
  by_cases h4 : j = 4
  · subst h4; simp
  · by_cases h5 : j = 5
    · subst h5; simp
    · simp [h4, h5]

set_option maxRecDepth 100000 in
set_option maxHeartbeats 4000000 in
theorem c_H_clear {G : XG} {q : Nat → Nat} {x : Nat → Int32} {n : Nat → Nat} {f : Nat → Nat → Int32} {kf : Nat → Option Nat} {kl : va_W}  : MM G m_H_clear (xr 0 0 0) [.ref (q 13)] (wC G q x n f kf kl) (RX none (wC G q (upd x 20 (nI 0)) n f kf kl)) := by
  refine MM.of rfl (xn_le rfl) ?_
  refine (?_ : XX G m_H_clear (xr 0 0 0) (xx_F G (RX none (wC G q (upd x 20 (nI 0)) n f kf kl)) (xr 0 0 0)) 0 0 (wC G q x n f kf kl) 0 [(0, .ref (q 13))] [])
  refine XX.aload_n dd_H_clear_0 rfl 0 rfl ?_
  refine XX.iconst (v := nI 0) dd_H_clear_1 (by decide) ?_
  refine XX.put (q0 := 13) (ws2 := wC G q (upd x 20 (nI 0)) n f kf kl) fp_H_15 dd_H_clear_2 rfl rfl rfl (xn_le rfl) rfl ?_
  exact XX.vret dd_H_clear_5 rfl ⟨xn_le rfl, xn_le rfl⟩ (⟨rfl, rfl⟩)

set_option maxRecDepth 100000 in
set_option maxHeartbeats 4000000 in
theorem c_H_put {G : XG} {q : Nat → Nat} {x : Nat → Int32} {n : Nat → Nat} {f : Nat → Nat → Int32} {kf : Nat → Option Nat} {kl : va_W} {cnt : Nat} {h : Nat → Nat} {v : Nat} (hx20 : x 20 = nI cnt) (hc : cnt < 1000) (hh : hq (f 4) h cnt) (hv : v < 2 ^ 31) : MM G m_H_put (xr 0 0 0) [.ref (q 13), .int (nI v)] (wC G q x n f kf kl) (fun r w => r = none ∧ ∃ g : Nat → Int32, w = wC G q (upd x 20 (nI (cnt + 1))) n (fup f 4 g) kf kl ∧ hq g (hp_up v cnt h) (cnt + 1)) := by
  refine MM.of rfl (xn_le rfl) ?_
  refine (?_ : XX G m_H_put (xr 0 0 0) (xx_F G (fun r w => r = none ∧ ∃ g : Nat → Int32, w = wC G q (upd x 20 (nI (cnt + 1))) n (fup f 4 g) kf kl ∧ hq g (hp_up v cnt h) (cnt + 1)) (xr 0 0 0)) 0 0 (wC G q x n f kf kl) 0 [(0, .ref (q 13)), (1, .int (nI v))] [])
  have loop : ∀ (kk i : Nat) (g : Nat → Int32) (h2 : Nat → Nat), i = kk → i ≤ cnt → hh_ g h2 (cnt + 1) i → hp_up v i h2 = hp_up v cnt h → XX G m_H_put (xr 0 0 0) (xx_F G (fun r w => r = none ∧ ∃ g : Nat → Int32, w = wC G q (upd x 20 (nI (cnt + 1))) n (fup f 4 g) kf kl ∧ hq g (hp_up v cnt h) (cnt + 1)) (xr 0 0 0)) 0 0 (wC G q (upd x 20 (nI (cnt + 1))) n (fup f 4 g) kf kl) 26 [(0, .ref (q 13)), (1, .int (nI v)), (2, .int (nI i))] [] := by
    intro kk
    induction kk using Nat.strongRecOn with
    | _ kk ih =>
      intro i g h2 hk hi hg hr
      refine XX.iload_n dd_H_put_26 rfl 2 rfl ?_
      refine XX.nif_le (tgt := 69) dd_H_put_27 (by decide) (by omega) (fun h27 => ?_) (fun h27 => ?_)
      ·
        refine XX.aload_n dd_H_put_69 rfl 0 rfl ?_
        refine XX.get (q0 := 13) (v := .ref (q 14)) fl_H_9 dd_H_put_70 rfl rfl ?_
        refine XX.iload_n dd_H_put_73 rfl 2 rfl ?_
        refine XX.iload_n dd_H_put_74 rfl 1 rfl ?_
        refine XX.iast (q0 := 14) (n := 1000) (j := i) (f := g) (ws2 := wC G q (upd x 20 (nI (cnt + 1))) n (fup (fup f 4 g) 4 (upd g i (nI v))) kf kl) dd_H_put_75 rfl (by omega) (by decide) rfl ?_
        exact XX.vret dd_H_put_76 rfl ⟨xn_le rfl, xn_le rfl⟩ ⟨rfl, _, by rw [fup_fup], by rw [← hr, hp_up_f (fun z => by first | (exfalso; omega) | exact h41)]; exact hh_put hg hv⟩
      ·
        have hb2 := (hg ((i - 1) / 2) (by omega) (by omega)).2
        refine XX.aload_n dd_H_put_30 rfl 0 rfl ?_
        refine XX.get (q0 := 13) (v := .ref (q 14)) fl_H_9 dd_H_put_31 rfl rfl ?_
        refine XX.iload_n dd_H_put_34 rfl 2 rfl ?_
        refine XX.iconst (v := nI 1) dd_H_put_35 (by decide) ?_
        refine XX.isub dd_H_put_36 ?_
        refine XX.tp (y := nI (i - 1)) (pk_sub (by omega)) ?_
        refine XX.iconst (v := nI 2) dd_H_put_37 (by decide) ?_
        refine XX.idiv dd_H_put_38 (xn_ne0 (by omega) (by omega)) ?_
        refine XX.tp (y := nI ((i - 1) / 2)) (pk_div (by omega) (by omega) (by omega)) ?_
        refine XX.iald (q0 := 14) (n := 1000) (j := (i - 1) / 2) (f := g) dd_H_put_39 rfl (by omega) (by decide) ?_
        refine XX.tp (y := nI (h2 ((i - 1) / 2))) ((hg _ (by omega) (by omega)).1) ?_
        refine XX.iload_n dd_H_put_40 rfl 1 rfl ?_
        refine XX.ncmp_le (tgt := 69) dd_H_put_41 (by decide) (by omega) (by omega) (fun h41 => ?_) (fun h41 => ?_)
        ·
          refine XX.aload_n dd_H_put_69 rfl 0 rfl ?_
          refine XX.get (q0 := 13) (v := .ref (q 14)) fl_H_9 dd_H_put_70 rfl rfl ?_
          refine XX.iload_n dd_H_put_73 rfl 2 rfl ?_
          refine XX.iload_n dd_H_put_74 rfl 1 rfl ?_
          refine XX.iast (q0 := 14) (n := 1000) (j := i) (f := g) (ws2 := wC G q (upd x 20 (nI (cnt + 1))) n (fup (fup f 4 g) 4 (upd g i (nI v))) kf kl) dd_H_put_75 rfl (by omega) (by decide) rfl ?_
          exact XX.vret dd_H_put_76 rfl ⟨xn_le rfl, xn_le rfl⟩ ⟨rfl, _, by rw [fup_fup], by rw [← hr, hp_up_f (fun z => by first | (exfalso; omega) | exact h41)]; exact hh_put hg hv⟩
        ·
          refine XX.aload_n dd_H_put_44 rfl 0 rfl ?_
          refine XX.get (q0 := 13) (v := .ref (q 14)) fl_H_9 dd_H_put_45 rfl rfl ?_
          refine XX.iload_n dd_H_put_48 rfl 2 rfl ?_
          refine XX.aload_n dd_H_put_49 rfl 0 rfl ?_
          refine XX.get (q0 := 13) (v := .ref (q 14)) fl_H_9 dd_H_put_50 rfl rfl ?_
          refine XX.iload_n dd_H_put_53 rfl 2 rfl ?_
          refine XX.iconst (v := nI 1) dd_H_put_54 (by decide) ?_
          refine XX.isub dd_H_put_55 ?_
          refine XX.tp (y := nI (i - 1)) (pk_sub (by omega)) ?_
          refine XX.iconst (v := nI 2) dd_H_put_56 (by decide) ?_
          refine XX.idiv dd_H_put_57 (xn_ne0 (by omega) (by omega)) ?_
          refine XX.tp (y := nI ((i - 1) / 2)) (pk_div (by omega) (by omega) (by omega)) ?_
          refine XX.iald (q0 := 14) (n := 1000) (j := (i - 1) / 2) (f := g) dd_H_put_58 rfl (by omega) (by decide) ?_
          refine XX.tp (y := nI (h2 ((i - 1) / 2))) ((hg _ (by omega) (by omega)).1) ?_
          refine XX.iast (q0 := 14) (n := 1000) (j := i) (f := g) (ws2 := wC G q (upd x 20 (nI (cnt + 1))) n (fup (fup f 4 g) 4 (upd g i (nI (h2 ((i - 1) / 2))))) kf kl) dd_H_put_59 rfl (by omega) (by decide) rfl ?_
          refine XX.iload_n dd_H_put_60 rfl 2 rfl ?_
          refine XX.iconst (v := nI 1) dd_H_put_61 (by decide) ?_
          refine XX.isub dd_H_put_62 ?_
          refine XX.tp (y := nI (i - 1)) (pk_sub (by omega)) ?_
          refine XX.iconst (v := nI 2) dd_H_put_63 (by decide) ?_
          refine XX.idiv dd_H_put_64 (xn_ne0 (by omega) (by omega)) ?_
          refine XX.tp (y := nI ((i - 1) / 2)) (pk_div (by omega) (by omega) (by omega)) ?_
          refine XX.istore_n (lv2 := [(2, .int (nI ((i - 1) / 2))), (0, .ref (q 13)), (1, .int (nI v))]) dd_H_put_65 rfl (by decide) rfl ?_
          refine XX.goto (tgt := 26) dd_H_put_66 (by decide) ?_
          refine XX.lvs [1, 2, 0] rfl ?_
          refine XX.cg (ws2 := wC G q (upd x 20 (nI (cnt + 1))) n (fup f 4 (upd g i (nI (h2 ((i - 1) / 2))))) kf kl) (by rw [fup_fup]) rfl rfl ?_
          exact ih _ (by omega) _ _ _ rfl (by omega) (hh_move hg (by omega) (by omega)) (by rw [← hr, hp_up_t (i := i) (h := h2) (by omega) (by omega)])
  refine XX.aload_n dd_H_put_0 rfl 0 rfl ?_
  refine XX.get (q0 := 13) (v := .int (x 20)) fl_H_15 dd_H_put_1 rfl rfl ?_
  refine XX.tp (y := nI cnt) (hx20) ?_
  refine XX.sipush (v := nI 1000) dd_H_put_4 (by decide) ?_
  refine XX.ncmp_ne (tgt := 11) dd_H_put_7 (by decide) (by omega) (by omega) (fun h7 => ?_) (fun h7 => ?_)
  ·
    refine XX.aload_n dd_H_put_11 rfl 0 rfl ?_
    refine XX.get (q0 := 13) (v := .int (x 20)) fl_H_15 dd_H_put_12 rfl rfl ?_
    refine XX.tp (y := nI cnt) (hx20) ?_
    refine XX.istore_n (lv2 := [(2, .int (nI cnt)), (0, .ref (q 13)), (1, .int (nI v))]) dd_H_put_15 rfl (by decide) rfl ?_
    refine XX.aload_n dd_H_put_16 rfl 1 rfl ?_
    refine XX.dup dd_H_put_17 rfl ?_
    refine XX.get (q0 := 13) (v := .int (x 20)) fl_H_15 dd_H_put_18 rfl rfl ?_
    refine XX.tp (y := nI cnt) (hx20) ?_
    refine XX.iconst (v := nI 1) dd_H_put_21 (by decide) ?_
    refine XX.iadd dd_H_put_22 ?_
    refine XX.tp (y := nI (cnt + 1)) (nI_add _ _) ?_
    refine XX.put (q0 := 13) (ws2 := wC G q (upd x 20 (nI (cnt + 1))) n f kf kl) fp_H_15 dd_H_put_23 rfl rfl rfl (xn_le rfl) rfl ?_
    refine XX.lvs [1, 2, 0] rfl ?_
    refine XX.cg (ws2 := wC G q (upd x 20 (nI (cnt + 1))) n (fup f 4 (f 4)) kf kl) (by rw [fup_self]) rfl rfl ?_
    exact loop _ cnt _ h rfl (by omega) (fun j hj e => hh j (by omega)) rfl
  ·
    exfalso; omega

set_option maxRecDepth 100000 in
set_option maxHeartbeats 4000000 in
theorem c_H_sinkFromTop {G : XG} {q : Nat → Nat} {x : Nat → Int32} {n : Nat → Nat} {f : Nat → Nat → Int32} {kf : Nat → Option Nat} {kl : va_W} {cnt : Nat} {h : Nat → Nat} {v : Nat} (hx20 : x 20 = nI cnt) (hc : cnt < 1000) (hh : hq (f 4) h cnt) (hv : v < 2 ^ 31) : MM G m_H_sinkFromTop (xr 0 0 0) [.ref (q 13), .int (nI v)] (wC G q x n f kf kl) (fun r w => r = none ∧ ∃ g : Nat → Int32, w = wC G q x n (fup f 4 g) kf kl ∧ (0 < cnt → hq g (hp_dn v cnt 0 1 h) cnt)) := by
  refine MM.of rfl (xn_le rfl) ?_
  refine (?_ : XX G m_H_sinkFromTop (xr 0 0 0) (xx_F G (fun r w => r = none ∧ ∃ g : Nat → Int32, w = wC G q x n (fup f 4 g) kf kl ∧ (0 < cnt → hq g (hp_dn v cnt 0 1 h) cnt)) (xr 0 0 0)) 0 0 (wC G q x n f kf kl) 0 [(0, .ref (q 13)), (1, .int (nI v))] [])
  have loop : ∀ (kk i b : Nat) (g : Nat → Int32) (h2 : Nat → Nat), cnt - b = kk → i < b → b ≤ 2 * cnt + 1 → (i < cnt ∨ cnt = 0 ∧ i = 0) → hh_ g h2 cnt i → hp_dn v cnt i b h2 = hp_dn v cnt 0 1 h → XX G m_H_sinkFromTop (xr 0 0 0) (xx_F G (fun r w => r = none ∧ ∃ g : Nat → Int32, w = wC G q x n (fup f 4 g) kf kl ∧ (0 < cnt → hq g (hp_dn v cnt 0 1 h) cnt)) (xr 0 0 0)) 0 0 (wC G q x n (fup f 4 g) kf kl) 4 [(0, .ref (q 13)), (1, .int (nI v)), (2, .int (nI i)), (3, .int (nI b))] [] := by
    intro kk
    induction kk using Nat.strongRecOn with
    | _ kk ih =>
      intro i b g h2 hk hib hb2 hi hg hr
      have j42 : b < cnt → XX G m_H_sinkFromTop (xr 0 0 0) (xx_F G (fun r w => r = none ∧ ∃ g : Nat → Int32, w = wC G q x n (fup f 4 g) kf kl ∧ (0 < cnt → hq g (hp_dn v cnt 0 1 h) cnt)) (xr 0 0 0)) 0 0 (wC G q x n (fup f 4 g) kf kl) 42 [(0, .ref (q 13)), (1, .int (nI v)), (2, .int (nI i)), (3, .int (nI (hp_ch h2 cnt b)))] [] := by
        intro h9
        have hlt := hp_ch_lt (h := h2) h9
        have hge := hp_ch_ge h2 cnt b
        have hb3 := (hg (hp_ch h2 cnt b) hlt (by omega)).2
        refine XX.aload_n dd_H_sinkFromTop_42 rfl 0 rfl ?_
        refine XX.get (q0 := 13) (v := .ref (q 14)) fl_H_9 dd_H_sinkFromTop_43 rfl rfl ?_
        refine XX.iload_n dd_H_sinkFromTop_46 rfl 3 rfl ?_
        refine XX.iald (q0 := 14) (n := 1000) (j := hp_ch h2 cnt b) (f := g) dd_H_sinkFromTop_47 rfl (by omega) (by decide) ?_
        refine XX.tp (y := nI (h2 (hp_ch h2 cnt b))) ((hg _ (by omega) (by omega)).1) ?_
        refine XX.iload_n dd_H_sinkFromTop_48 rfl 1 rfl ?_
        refine XX.ncmp_lt (tgt := 55) dd_H_sinkFromTop_49 (by decide) (by omega) (by omega) (fun h49 => ?_) (fun h49 => ?_)
        ·
          refine XX.aload_n dd_H_sinkFromTop_55 rfl 0 rfl ?_
          refine XX.get (q0 := 13) (v := .ref (q 14)) fl_H_9 dd_H_sinkFromTop_56 rfl rfl ?_
          refine XX.iload_n dd_H_sinkFromTop_59 rfl 2 rfl ?_
          refine XX.aload_n dd_H_sinkFromTop_60 rfl 0 rfl ?_
          refine XX.get (q0 := 13) (v := .ref (q 14)) fl_H_9 dd_H_sinkFromTop_61 rfl rfl ?_
          refine XX.iload_n dd_H_sinkFromTop_64 rfl 3 rfl ?_
          refine XX.iald (q0 := 14) (n := 1000) (j := hp_ch h2 cnt b) (f := g) dd_H_sinkFromTop_65 rfl (by omega) (by decide) ?_
          refine XX.tp (y := nI (h2 (hp_ch h2 cnt b))) ((hg _ (by omega) (by omega)).1) ?_
          refine XX.iast (q0 := 14) (n := 1000) (j := i) (f := g) (ws2 := wC G q x n (fup (fup f 4 g) 4 (upd g i (nI (h2 (hp_ch h2 cnt b))))) kf kl) dd_H_sinkFromTop_66 rfl (by omega) (by decide) rfl ?_
          refine XX.iload_n dd_H_sinkFromTop_67 rfl 3 rfl ?_
          refine XX.istore_n (lv2 := [(2, .int (nI (hp_ch h2 cnt b))), (0, .ref (q 13)), (1, .int (nI v)), (3, .int (nI (hp_ch h2 cnt b)))]) dd_H_sinkFromTop_68 rfl (by decide) rfl ?_
          refine XX.iconst (v := nI 2) dd_H_sinkFromTop_69 (by decide) ?_
          refine XX.iload_n dd_H_sinkFromTop_70 rfl 0 rfl ?_
          refine XX.imul dd_H_sinkFromTop_71 ?_
          refine XX.tp (y := nI (2 * (hp_ch h2 cnt b))) (pk_mul _ _) ?_
          refine XX.iconst (v := nI 1) dd_H_sinkFromTop_72 (by decide) ?_
          refine XX.iadd dd_H_sinkFromTop_73 ?_
          refine XX.tp (y := nI (2 * (hp_ch h2 cnt b) + 1)) (nI_add _ _) ?_
          refine XX.istore_n (lv2 := [(3, .int (nI (2 * (hp_ch h2 cnt b) + 1))), (2, .int (nI (hp_ch h2 cnt b))), (0, .ref (q 13)), (1, .int (nI v))]) dd_H_sinkFromTop_74 rfl (by decide) rfl ?_
          refine XX.goto (tgt := 4) dd_H_sinkFromTop_75 (by decide) ?_
          refine XX.lvs [2, 3, 1, 0] rfl ?_
          refine XX.cg (ws2 := wC G q x n (fup f 4 (upd g i (nI (h2 (hp_ch h2 cnt b))))) kf kl) (by rw [fup_fup]) rfl rfl ?_
          exact ih _ (by omega) _ _ _ _ rfl (by omega) (by omega) (by omega) (hh_move hg hlt (by omega)) (by rw [← hr, hp_dn_t (i := i) (b := b) (h := h2) h9 (by omega)])
        ·
          refine XX.goto (tgt := 78) dd_H_sinkFromTop_52 (by decide) ?_
          refine XX.aload_n dd_H_sinkFromTop_78 rfl 0 rfl ?_
          refine XX.get (q0 := 13) (v := .ref (q 14)) fl_H_9 dd_H_sinkFromTop_79 rfl rfl ?_
          refine XX.iload_n dd_H_sinkFromTop_82 rfl 2 rfl ?_
          refine XX.iload_n dd_H_sinkFromTop_83 rfl 1 rfl ?_
          refine XX.iast (q0 := 14) (n := 1000) (j := i) (f := g) (ws2 := wC G q x n (fup (fup f 4 g) 4 (upd g i (nI v))) kf kl) dd_H_sinkFromTop_84 rfl (by omega) (by decide) rfl ?_
          exact XX.vret dd_H_sinkFromTop_85 rfl ⟨xn_le rfl, xn_le rfl⟩ ⟨rfl, _, by rw [fup_fup], fun _ => by rw [← hr, hp_dn_f (fun z => by omega)]; exact hh_put hg hv⟩
      refine XX.iload_n dd_H_sinkFromTop_4 rfl 3 rfl ?_
      refine XX.aload_n dd_H_sinkFromTop_5 rfl 0 rfl ?_
      refine XX.get (q0 := 13) (v := .int (x 20)) fl_H_15 dd_H_sinkFromTop_6 rfl rfl ?_
      refine XX.tp (y := nI cnt) (hx20) ?_
      refine XX.ncmp_ge (tgt := 78) dd_H_sinkFromTop_9 (by decide) (by omega) (by omega) (fun h9 => ?_) (fun h9 => ?_)
      ·
        refine XX.aload_n dd_H_sinkFromTop_78 rfl 0 rfl ?_
        refine XX.get (q0 := 13) (v := .ref (q 14)) fl_H_9 dd_H_sinkFromTop_79 rfl rfl ?_
        refine XX.iload_n dd_H_sinkFromTop_82 rfl 2 rfl ?_
        refine XX.iload_n dd_H_sinkFromTop_83 rfl 1 rfl ?_
        refine XX.iast (q0 := 14) (n := 1000) (j := i) (f := g) (ws2 := wC G q x n (fup (fup f 4 g) 4 (upd g i (nI v))) kf kl) dd_H_sinkFromTop_84 rfl (by omega) (by decide) rfl ?_
        exact XX.vret dd_H_sinkFromTop_85 rfl ⟨xn_le rfl, xn_le rfl⟩ ⟨rfl, _, by rw [fup_fup], fun _ => by rw [← hr, hp_dn_f (fun z => by omega)]; exact hh_put hg hv⟩
      ·
        refine XX.iload_n dd_H_sinkFromTop_12 rfl 3 rfl ?_
        refine XX.iconst (v := nI 1) dd_H_sinkFromTop_13 (by decide) ?_
        refine XX.iadd dd_H_sinkFromTop_14 ?_
        refine XX.tp (y := nI (b + 1)) (nI_add _ _) ?_
        refine XX.aload_n dd_H_sinkFromTop_15 rfl 0 rfl ?_
        refine XX.get (q0 := 13) (v := .int (x 20)) fl_H_15 dd_H_sinkFromTop_16 rfl rfl ?_
        refine XX.tp (y := nI cnt) (hx20) ?_
        refine XX.ncmp_ge (tgt := 42) dd_H_sinkFromTop_19 (by decide) (by omega) (by omega) (fun h19 => ?_) (fun h19 => ?_)
        ·
          refine XX.cg (ws2 := wC G q x n (fup f 4 g) kf kl) (lv2 := [(0, .ref (q 13)), (1, .int (nI v)), (2, .int (nI i)), (3, .int (nI (hp_ch h2 cnt b)))]) rfl (by rw [hp_ch, if_neg (by omega)]) rfl ?_
          exact j42 (by omega)
        ·
          refine XX.aload_n dd_H_sinkFromTop_22 rfl 0 rfl ?_
          refine XX.get (q0 := 13) (v := .ref (q 14)) fl_H_9 dd_H_sinkFromTop_23 rfl rfl ?_
          refine XX.iload_n dd_H_sinkFromTop_26 rfl 3 rfl ?_
          refine XX.iconst (v := nI 1) dd_H_sinkFromTop_27 (by decide) ?_
          refine XX.iadd dd_H_sinkFromTop_28 ?_
          refine XX.tp (y := nI (b + 1)) (nI_add _ _) ?_
          refine XX.iald (q0 := 14) (n := 1000) (j := b + 1) (f := g) dd_H_sinkFromTop_29 rfl (by omega) (by decide) ?_
          refine XX.tp (y := nI (h2 (b + 1))) ((hg _ (by omega) (by omega)).1) ?_
          refine XX.aload_n dd_H_sinkFromTop_30 rfl 0 rfl ?_
          refine XX.get (q0 := 13) (v := .ref (q 14)) fl_H_9 dd_H_sinkFromTop_31 rfl rfl ?_
          refine XX.iload_n dd_H_sinkFromTop_34 rfl 3 rfl ?_
          refine XX.iald (q0 := 14) (n := 1000) (j := b) (f := g) dd_H_sinkFromTop_35 rfl (by omega) (by decide) ?_
          refine XX.tp (y := nI (h2 b)) ((hg _ (by omega) (by omega)).1) ?_
          have hb4 := (hg b (by omega) (by omega)).2
          have hb5 := (hg (b + 1) (by omega) (by omega)).2
          refine XX.ncmp_ge (tgt := 42) dd_H_sinkFromTop_36 (by decide) (by omega) (by omega) (fun h36 => ?_) (fun h36 => ?_)
          ·
            refine XX.cg (ws2 := wC G q x n (fup f 4 g) kf kl) (lv2 := [(0, .ref (q 13)), (1, .int (nI v)), (2, .int (nI i)), (3, .int (nI (hp_ch h2 cnt b)))]) rfl (by rw [hp_ch, if_neg (by omega)]) rfl ?_
            exact j42 (by omega)
          ·
            refine XX.iinc (z := 3) (v := nI (b + 1)) (lv2 := [(3, .int (nI (b + 1))), (0, .ref (q 13)), (1, .int (nI v)), (2, .int (nI i))]) dd_H_sinkFromTop_39 rfl ((nI_succ _).symm) (by decide) rfl ?_
            refine XX.cg (ws2 := wC G q x n (fup f 4 g) kf kl) (lv2 := [(3, .int (nI (hp_ch h2 cnt b))), (0, .ref (q 13)), (1, .int (nI v)), (2, .int (nI i))]) rfl (by rw [hp_ch, if_pos (by omega)]) rfl ?_
            refine XX.lvs [1, 2, 3, 0] rfl ?_
            exact j42 (by omega)
  refine XX.iconst (v := nI 0) dd_H_sinkFromTop_0 (by decide) ?_
  refine XX.istore_n (lv2 := [(2, .int (nI 0)), (0, .ref (q 13)), (1, .int (nI v))]) dd_H_sinkFromTop_1 rfl (by decide) rfl ?_
  refine XX.iconst (v := nI 1) dd_H_sinkFromTop_2 (by decide) ?_
  refine XX.istore_n (lv2 := [(3, .int (nI 1)), (2, .int (nI 0)), (0, .ref (q 13)), (1, .int (nI v))]) dd_H_sinkFromTop_3 rfl (by decide) rfl ?_
  refine XX.lvs [2, 3, 1, 0] rfl ?_
  refine XX.cg (ws2 := wC G q x n (fup f 4 (f 4)) kf kl) (by rw [fup_self]) rfl rfl ?_
  exact loop _ 0 1 _ h rfl (by omega) (by omega) (by omega) (fun j hj e => hh j hj) rfl

set_option maxRecDepth 100000 in
set_option maxHeartbeats 4000000 in
theorem c_H_takeLeast {G : XG} {q : Nat → Nat} {x : Nat → Int32} {n : Nat → Nat} {f : Nat → Nat → Int32} {kf : Nat → Option Nat} {kl : va_W} {cnt : Nat} {h : Nat → Nat} (hx20 : x 20 = nI (cnt + 1)) (hc : cnt < 1000) (hh : hq (f 4) h (cnt + 1)) : MM G m_H_takeLeast (xr 1 0 0) [.ref (q 13)] (wC G q x n f kf kl) (fun r w => r = some (.int (nI (h 0))) ∧ ∃ g : Nat → Int32, w = wC G q (upd x 20 (nI cnt)) n (fup f 4 g) kf kl ∧ (0 < cnt → hq g (hp_dn (h cnt) cnt 0 1 h) cnt)) := by
  refine MM.of rfl (xn_le rfl) ?_
  refine (?_ : XX G m_H_takeLeast (xr 1 0 0) (xx_F G (fun r w => r = some (.int (nI (h 0))) ∧ ∃ g : Nat → Int32, w = wC G q (upd x 20 (nI cnt)) n (fup f 4 g) kf kl ∧ (0 < cnt → hq g (hp_dn (h cnt) cnt 0 1 h) cnt)) (xr 1 0 0)) 0 0 (wC G q x n f kf kl) 0 [(0, .ref (q 13))] [])
  refine XX.aload_n dd_H_takeLeast_0 rfl 0 rfl ?_
  refine XX.get (q0 := 13) (v := .ref (q 14)) fl_H_9 dd_H_takeLeast_1 rfl rfl ?_
  refine XX.iconst (v := nI 0) dd_H_takeLeast_4 (by decide) ?_
  refine XX.iald (q0 := 14) (n := 1000) (j := 0) (f := f 4) dd_H_takeLeast_5 rfl (by omega) (by decide) ?_
  refine XX.tp (y := nI (h 0)) ((hh _ (by omega)).1) ?_
  refine XX.istore_n (lv2 := [(1, .int (nI (h 0))), (0, .ref (q 13))]) dd_H_takeLeast_6 rfl (by decide) rfl ?_
  refine XX.aload_n dd_H_takeLeast_7 rfl 1 rfl ?_
  refine XX.get (q0 := 13) (v := .int (x 20)) fl_H_15 dd_H_takeLeast_8 rfl rfl ?_
  refine XX.tp (y := nI (cnt + 1)) (hx20) ?_
  refine XX.nif_le (tgt := 37) dd_H_takeLeast_11 (by decide) (by omega) (fun h11 => ?_) (fun h11 => ?_)
  ·
    exfalso; omega
  ·
    refine XX.aload_n dd_H_takeLeast_14 rfl 1 rfl ?_
    refine XX.dup dd_H_takeLeast_15 rfl ?_
    refine XX.get (q0 := 13) (v := .int (x 20)) fl_H_15 dd_H_takeLeast_16 rfl rfl ?_
    refine XX.tp (y := nI (cnt + 1)) (hx20) ?_
    refine XX.iconst (v := nI 1) dd_H_takeLeast_19 (by decide) ?_
    refine XX.isub dd_H_takeLeast_20 ?_
    refine XX.tp (y := nI cnt) (by rw [pk_sub (by omega)]; rfl) ?_
    refine XX.put (q0 := 13) (ws2 := wC G q (upd x 20 (nI cnt)) n f kf kl) fp_H_15 dd_H_takeLeast_21 rfl rfl rfl (xn_le rfl) rfl ?_
    refine XX.aload_n dd_H_takeLeast_24 rfl 1 rfl ?_
    refine XX.aload_n dd_H_takeLeast_25 rfl 1 rfl ?_
    refine XX.get (q0 := 13) (v := .ref (q 14)) fl_H_9 dd_H_takeLeast_26 rfl rfl ?_
    refine XX.aload_n dd_H_takeLeast_29 rfl 1 rfl ?_
    refine XX.get (q0 := 13) (v := .int (nI cnt)) fl_H_15 dd_H_takeLeast_30 rfl rfl ?_
    refine XX.iald (q0 := 14) (n := 1000) (j := cnt) (f := f 4) dd_H_takeLeast_33 rfl (by omega) (by decide) ?_
    refine XX.tp (y := nI (h cnt)) ((hh _ (by omega)).1) ?_
    refine XX.callV (Mk := m_H_sinkFromTop) (n := 1) (As := [.int (nI (h cnt))]) (rest := []) (q0 := 13) (ci := 7) (c_H_sinkFromTop (x := (upd x 20 (nI cnt))) (cnt := cnt) (h := h) (v := h cnt) rfl hc (fun i hi => hh i (by omega)) (hh cnt (by omega)).2) mt_H_sinkFromTop mi_H_sinkFromTop ml_H_19 rfl dd_H_takeLeast_34 (rfl) rfl rfl ⟨xn_le rfl, xn_le rfl⟩ ⟨xn_le rfl, xn_le rfl⟩ (xn_le rfl) rfl (fun r1 w1 hp1 => ?_)
    obtain ⟨rfl, g, rfl, hg⟩ := hp1
    refine (?_ : XX G m_H_takeLeast (xr 1 0 0) (xx_F G (fun r w => r = some (.int (nI (h 0))) ∧ ∃ g : Nat → Int32, w = wC G q (upd x 20 (nI cnt)) n (fup f 4 g) kf kl ∧ (0 < cnt → hq g (hp_dn (h cnt) cnt 0 1 h) cnt)) (xr 1 0 0)) 0 0 (wC G q (upd x 20 (nI cnt)) n (fup f 4 g) kf kl) 37 [(1, .int (nI (h 0))), (0, .ref (q 13))] [])
    refine XX.iload_n dd_H_takeLeast_37 rfl 0 rfl ?_
    exact XX.iret dd_H_takeLeast_38 rfl ⟨xn_le rfl, xn_le rfl⟩ ⟨rfl, g, rfl, hg⟩

