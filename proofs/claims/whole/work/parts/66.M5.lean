/-! the lines of a text -/
def pb_nl (B : Nat → Int32) (i : Nat) : Bool := !decide (B i = nI 10)
def lst (B : Nat → Int32) (len : Nat) : Nat → Nat
  | 0 => 0
  | i + 1 => sk (pb_nl B) len (lst B len i) + 1
theorem lst_lt {B : Nat → Int32} {len : Nat} (i : Nat) : lst B len i < lst B len (i + 1) := by
  have := sk_ge (pb_nl B) len (lst B len i)
  show _ < sk (pb_nl B) len (lst B len i) + 1
  omega
theorem lst_mono {B : Nat → Int32} {len : Nat} {i j : Nat} (h : i < j) : lst B len i < lst B len j := by
  induction j with
  | zero => omega
  | succ j ih =>
    have := lst_lt (B := B) (len := len) j
    by_cases e : i = j
    · subst e; exact this
    · have := ih (by omega); omega
theorem lst_ge {B : Nat → Int32} {len : Nat} (i : Nat) : i ≤ lst B len i := by
  induction i with
  | zero => exact Nat.zero_le _
  | succ i ih => have := lst_lt (B := B) (len := len) i; omega
def lnf (B : Nat → Int32) (len : Nat) : Nat → Nat → Nat
  | 0, i => i
  | k + 1, i => if lst B len i < len then lnf B len k (i + 1) else i
/-- how many lines -/
def lnc (B : Nat → Int32) (len : Nat) : Nat := lnf B len len 0
theorem lnf_spec {B : Nat → Int32} {len : Nat} : ∀ k i, len ≤ k + i → (∀ j, j < i → lst B len j < len) → (∀ j, j < lnf B len k i → lst B len j < len) ∧ len ≤ lst B len (lnf B len k i) := by
  intro k
  induction k with
  | zero => intro i h1 h2; exact ⟨h2, Nat.le_trans (by omega) (lst_ge i)⟩
  | succ k ih =>
    intro i h1 h2
    rw [lnf]
    split
    · rename_i h
      refine ih (i + 1) (by omega) (fun j hj => ?_)
      by_cases e : j = i
      · rw [e]; exact h
      · exact h2 j (by omega)
    · rename_i h
      exact ⟨h2, by omega⟩
theorem lnc_lt {B : Nat → Int32} {len j : Nat} (h : j < lnc B len) : lst B len j < len := (lnf_spec len 0 (by omega) (fun j hj => absurd hj (by omega))).1 j h
theorem lnc_ge {B : Nat → Int32} {len : Nat} : len ≤ lst B len (lnc B len) := (lnf_spec len 0 (by omega) (fun j hj => absurd hj (by omega))).2
theorem lnc_eq {B : Nat → Int32} {len j : Nat} (h1 : ∀ i, i < j → lst B len i < len) (h2 : len ≤ lst B len j) : j = lnc B len := by
  rcases Nat.lt_trichotomy j (lnc B len) with h | h | h
  · have := lnc_lt h; omega
  · exact h
  · have := h1 _ h; have := lnc_ge (B := B) (len := len); omega
theorem lnc_le {B : Nat → Int32} {len : Nat} : lnc B len ≤ len := by
  rcases Nat.lt_or_ge len (lnc B len) with h | h
  · have h1 := lnc_lt h; have := lst_ge (B := B) (len := len) len; omega
  · exact h
theorem lst_le {B : Nat → Int32} {len : Nat} : ∀ i, i ≤ lnc B len → lst B len i ≤ len + 1 := by
  intro i hi
  cases i with
  | zero => exact Nat.zero_le _
  | succ i =>
    have h1 := lnc_lt (B := B) (len := len) (j := i) (by omega)
    have h2 := sk_le (p := pb_nl B) (to := len) (a := lst B len i) (by omega)
    show sk (pb_nl B) len (lst B len i) + 1 ≤ _
    omega
theorem men_lst {B : Nat → Int32} {len i : Nat} (h : i < lnc B len) : men len (lst B len) i = sk (pb_nl B) len (lst B len i) := by
  have h1 := lnc_lt h
  have h2 := sk_le (p := pb_nl B) (to := len) (a := lst B len i) (by omega)
  unfold men
  show (if sk (pb_nl B) len (lst B len i) + 1 - 1 < len then sk (pb_nl B) len (lst B len i) + 1 - 1 else len) = _
  rw [Nat.add_sub_cancel]
  split <;> omega
theorem mtx_of {x : Nat → Int32} {f : Nat → Nat → Int32} {len : Nat} {B : Nat → Int32} (h0 : x 0 = nI len) (hl : len ≤ 20000) (hs : ∀ i, i ≤ lnc B len → f 1 i = nI (lst B len i)) (hB : ∀ i, i < len → f 0 i = B i) : mtx x f len (lnc B len) (lst B len) B := by
  refine ⟨h0, hl, Nat.le_trans lnc_le hl, fun i hi => ⟨hs i hi, Nat.le_trans (lst_le i hi) (by omega)⟩, fun i hi => ⟨?_, ?_⟩, hB⟩
  · show 1 ≤ sk (pb_nl B) len (lst B len i) + 1; omega
  · rw [men_lst hi]; exact sk_ge _ _ _

set_option maxRecDepth 100000 in
set_option maxHeartbeats 4000000 in
theorem c_M_thrown {G : XG} {q : Nat → Nat} {x : Nat → Int32} {f : Nat → Nat → Int32} {kl : va_W}  : MR G m_M_thrown (xr 0 0 0) [.ref (q 0)] (wM G q x f kl) (some (.int (x 19))) := by
  refine MR.of rfl (xn_le rfl) ?_
  refine (?_ : XR G m_M_thrown (xr 0 0 0) (xr_F (some (.int (x 19)))) (wM G q x f kl) 0 [(0, .ref (q 0))] [])
  refine XR.aload_n dd_M_thrown_0 rfl 0 rfl ?_
  refine XR.get (q0 := 0) (v := .int (x 19)) fl_M_57 dd_M_thrown_1 rfl rfl ?_
  exact XR.iret dd_M_thrown_4 rfl

set_option maxRecDepth 100000 in
set_option maxHeartbeats 4000000 in
theorem c_M_fails {G : XG} {q : Nat → Nat} {x : Nat → Int32} {f : Nat → Nat → Int32} {kl : va_W} {so : Bool} {kd : Int32} : MM G m_M_fails (xr 0 0 0) [.ref (q 0), .int (bI so), .int kd] (wM G q x f kl) (RX (some (.int (bI so))) (wM G q (upd x 19 (if so = true then kd else nI 0)) f kl)) := by
  refine MM.of rfl (xn_le rfl) ?_
  refine (?_ : XX G m_M_fails (xr 0 0 0) (xx_F G (RX (some (.int (bI so))) (wM G q (upd x 19 (if so = true then kd else nI 0)) f kl)) (xr 0 0 0)) 0 0 (wM G q x f kl) 0 [(0, .ref (q 0)), (1, .int (bI so)), (2, .int kd)] [])
  refine XX.aload_n dd_M_fails_0 rfl 0 rfl ?_
  have j10 : XX G m_M_fails (xr 0 0 0) (xx_F G (RX (some (.int (bI so))) (wM G q (upd x 19 (if so = true then kd else nI 0)) f kl)) (xr 0 0 0)) 0 0 (wM G q x f kl) 10 [(0, .ref (q 0)), (1, .int (bI so)), (2, .int kd)] [.int (if so = true then kd else nI 0), .ref (q 0)] := by
    refine XX.put (q0 := 0) (ws2 := wM G q (upd x 19 (if so = true then kd else nI 0)) f kl) fp_M_57 dd_M_fails_10 rfl rfl rfl (xn_le rfl) rfl ?_
    refine XX.iload_n dd_M_fails_13 rfl 1 rfl ?_
    exact XX.zret dd_M_fails_14 rfl (bI_nar _) ⟨xn_le rfl, xn_le rfl⟩ ⟨rfl, rfl⟩
  refine XX.iload_n dd_M_fails_1 rfl 1 rfl ?_
  refine XX.bif_eq (tgt := 9) dd_M_fails_2 (by decide) (fun h2 => ?_) (fun h2 => ?_)
  ·
    refine XX.iconst (v := nI 0) dd_M_fails_9 (by decide) ?_
    exact XX.tp (by simp [h2]) j10
  ·
    refine XX.iload_n dd_M_fails_5 rfl 2 rfl ?_
    refine XX.goto (tgt := 10) dd_M_fails_6 (by decide) ?_
    exact XX.tp (by simp [h2]) j10

set_option maxRecDepth 100000 in
set_option maxHeartbeats 4000000 in
theorem c_M_change {G : XG} {q : Nat → Nat} {x : Nat → Int32} {f : Nat → Nat → Int32} {kl : va_W} {u : Int32} : MM G m_M_change (xr 0 0 0) [.ref (q 0), .int u] (wM G q x f kl) (RX none (wM G q (upd (upd (upd x 0 u) 2 (nI 0)) 11 (nI 0)) f kl)) := by
  refine MM.of rfl (xn_le rfl) ?_
  refine (?_ : XX G m_M_change (xr 0 0 0) (xx_F G (RX none (wM G q (upd (upd (upd x 0 u) 2 (nI 0)) 11 (nI 0)) f kl)) (xr 0 0 0)) 0 0 (wM G q x f kl) 0 [(0, .ref (q 0)), (1, .int u)] [])
  refine XX.aload_n dd_M_change_0 rfl 0 rfl ?_
  refine XX.iload_n dd_M_change_1 rfl 1 rfl ?_
  refine XX.put (q0 := 0) (ws2 := wM G q (upd x 0 u) f kl) fp_M_60 dd_M_change_2 rfl rfl rfl (xn_le rfl) rfl ?_
  refine XX.aload_n dd_M_change_5 rfl 0 rfl ?_
  refine XX.iconst (v := nI 0) dd_M_change_6 (by decide) ?_
  refine XX.put (q0 := 0) (ws2 := wM G q (upd (upd x 0 u) 2 (nI 0)) f kl) fp_M_63 dd_M_change_7 rfl rfl rfl (xn_le rfl) rfl ?_
  refine XX.aload_n dd_M_change_10 rfl 0 rfl ?_
  refine XX.iconst (v := nI 0) dd_M_change_11 (by decide) ?_
  refine XX.put (q0 := 0) (ws2 := wM G q (upd (upd (upd x 0 u) 2 (nI 0)) 11 (nI 0)) f kl) fp_M_67 dd_M_change_12 rfl rfl rfl (xn_le rfl) rfl ?_
  exact XX.vret dd_M_change_15 rfl ⟨xn_le rfl, xn_le rfl⟩ (⟨rfl, rfl⟩)

set_option maxRecDepth 100000 in
set_option maxHeartbeats 4000000 in
theorem c_M_findLines {G : XG} {q : Nat → Nat} {x : Nat → Int32} {f : Nat → Nat → Int32} {kl : va_W} {len : Nat} {B : Nat → Int32} {sp : Bool} (hx0 : x 0 = nI len) (hlen : len ≤ 20000) (hB : ∀ i, i < len → f 0 i = B i) (hx2 : x 2 = bI sp) (hsp : sp = true → x 1 = nI (lnc B len) ∧ ∀ i, i ≤ lnc B len → f 1 i = nI (lst B len i))  : MM G m_M_findLines (xr 0 0 0) [.ref (q 0)] (wM G q x f kl) (fun r w => r = none ∧ ∃ x2 g : Nat → Int32, w = wM G q x2 (fup f 1 g) kl ∧ (∀ i, i ≠ 1 → i ≠ 2 → x2 i = x i) ∧ x2 1 = nI (lnc B len) ∧ x2 2 = bI true ∧ ∀ i, i ≤ lnc B len → g i = nI (lst B len i)) := by
  refine MM.of rfl (xn_le rfl) ?_
  refine (?_ : XX G m_M_findLines (xr 0 0 0) (xx_F G (fun r w => r = none ∧ ∃ x2 g : Nat → Int32, w = wM G q x2 (fup f 1 g) kl ∧ (∀ i, i ≠ 1 → i ≠ 2 → x2 i = x i) ∧ x2 1 = nI (lnc B len) ∧ x2 2 = bI true ∧ ∀ i, i ≤ lnc B len → g i = nI (lst B len i)) (xr 0 0 0)) 0 0 (wM G q x f kl) 0 [(0, .ref (q 0))] [])
  have loop : ∀ (kk j : Nat) (xx g : Nat → Int32), len + 1 - lst B len j = kk → (∀ i, i ≠ 1 → i ≠ 2 → xx i = x i) → xx 1 = nI j → xx 2 = bI true → (∀ i, i < j → lst B len i < len) → lst B len j ≤ len + 1 → (∀ i, i < j → g i = nI (lst B len i)) → XX G m_M_findLines (xr 0 0 0) (xx_F G (fun r w => r = none ∧ ∃ x2 g : Nat → Int32, w = wM G q x2 (fup f 1 g) kl ∧ (∀ i, i ≠ 1 → i ≠ 2 → x2 i = x i) ∧ x2 1 = nI (lnc B len) ∧ x2 2 = bI true ∧ ∀ i, i ≤ lnc B len → g i = nI (lst B len i)) (xr 0 0 0)) 0 0 (wM G q xx (fup f 1 g) kl) 20 [(0, .ref (q 0)), (1, .int (nI (lst B len j)))] [] := by
    intro kk
    induction kk using Nat.strongRecOn with
    | _ kk ih =>
      intro j xx g hk hag g1 g2 hlt hle hg
      have g0 : xx 0 = nI len := (hag 0 (by omega) (by omega)).trans hx0
      have hjl : j ≤ len := by
        rcases Nat.eq_zero_or_pos j with h | h
        · omega
        · have a1 := hlt (j - 1) (by omega)
          have a2 := lst_ge (B := B) (len := len) (j - 1)
          omega
      have inner : lst B len j < len → ∀ (k2 i : Nat), len - i = k2 → i ≤ len → sk (pb_nl B) len i = sk (pb_nl B) len (lst B len j) → XX G m_M_findLines (xr 0 0 0) (xx_F G (fun r w => r = none ∧ ∃ x2 g : Nat → Int32, w = wM G q x2 (fup f 1 g) kl ∧ (∀ i, i ≠ 1 → i ≠ 2 → x2 i = x i) ∧ x2 1 = nI (lnc B len) ∧ x2 2 = bI true ∧ ∀ i, i ≤ lnc B len → g i = nI (lst B len i)) (xr 0 0 0)) 0 0 (wM G q (upd xx 1 (nI (j + 1))) (fup f 1 (upd g j (nI (lst B len j)))) kl) 48 [(0, .ref (q 0)), (1, .int (nI i))] [] := by
        intro hjn k2
        induction k2 using Nat.strongRecOn with
        | _ k2 ih2 =>
          intro i hk2 hi hr
          refine XX.iload_n dd_M_findLines_48 rfl 1 rfl ?_
          refine XX.aload_n dd_M_findLines_49 rfl 0 rfl ?_
          refine XX.get (q0 := 0) (v := .int ((upd xx 1 (nI (j + 1))) 0)) fl_M_60 dd_M_findLines_50 rfl rfl ?_
          refine XX.tp (y := nI len) (g0) ?_
          refine XX.ncmp_ge (tgt := 73) dd_M_findLines_53 (by decide) (by omega) (by omega) (fun h53 => ?_) (fun h53 => ?_)
          ·
            refine XX.iinc (z := 1) (v := nI (i + 1)) (lv2 := [(1, .int (nI (i + 1))), (0, .ref (q 0))]) dd_M_findLines_73 rfl ((nI_succ _).symm) (by decide) rfl ?_
            refine XX.goto (tgt := 20) dd_M_findLines_76 (by decide) ?_
            refine XX.lvs [1, 0] rfl ?_
            have e0 : i + 1 = lst B len (j + 1) := by show i + 1 = sk (pb_nl B) len (lst B len j) + 1; rw [← hr, sk_stop (fun hz => by first | (exfalso; omega) | simp [pb_nl, h53])]
            have hjj := lst_lt (B := B) (len := len) j
            rw [e0]
            exact ih _ (by omega) (j + 1) _ _ rfl (fun z h1 h2 => by simp [upd, h1]; exact hag z h1 h2) rfl (by show xx 2 = _; exact g2) (fun z hz => by
              by_cases e : z = j
              · rw [e]; exact hjn
              · exact hlt z (by omega)) (by omega) (fun z hz => by
              by_cases e : z = j
              · rw [e, pk_us]
              · rw [pk_un e]; exact hg z (by omega))
          ·
            refine XX.aload_n dd_M_findLines_56 rfl 0 rfl ?_
            refine XX.get (q0 := 0) (v := .ref (q 1)) fl_M_7 dd_M_findLines_57 rfl rfl ?_
            refine XX.iload_n dd_M_findLines_60 rfl 1 rfl ?_
            refine XX.bald (q0 := 1) (n := 20000) (j := i) (f := (fup f 1 (upd g j (nI (lst B len j)))) 0) dd_M_findLines_61 rfl (by omega) (by decide) ?_
            refine XX.tp (y := B i) (hB _ (by omega)) ?_
            refine XX.bipush (v := nI 10) dd_M_findLines_62 (by decide) ?_
            refine XX.icmp_eq (tgt := 73) dd_M_findLines_64 (by decide) (fun h64 => ?_) (fun h64 => ?_)
            ·
              refine XX.iinc (z := 1) (v := nI (i + 1)) (lv2 := [(1, .int (nI (i + 1))), (0, .ref (q 0))]) dd_M_findLines_73 rfl ((nI_succ _).symm) (by decide) rfl ?_
              refine XX.goto (tgt := 20) dd_M_findLines_76 (by decide) ?_
              refine XX.lvs [1, 0] rfl ?_
              have e0 : i + 1 = lst B len (j + 1) := by show i + 1 = sk (pb_nl B) len (lst B len j) + 1; rw [← hr, sk_stop (fun hz => by first | (exfalso; omega) | simp [pb_nl, h53, h64])]
              have hjj := lst_lt (B := B) (len := len) j
              rw [e0]
              exact ih _ (by omega) (j + 1) _ _ rfl (fun z h1 h2 => by simp [upd, h1]; exact hag z h1 h2) rfl (by show xx 2 = _; exact g2) (fun z hz => by
                by_cases e : z = j
                · rw [e]; exact hjn
                · exact hlt z (by omega)) (by omega) (fun z hz => by
                by_cases e : z = j
                · rw [e, pk_us]
                · rw [pk_un e]; exact hg z (by omega))
            ·
              refine XX.iinc (z := 1) (v := nI (i + 1)) (lv2 := [(1, .int (nI (i + 1))), (0, .ref (q 0))]) dd_M_findLines_67 rfl ((nI_succ _).symm) (by decide) rfl ?_
              refine XX.goto (tgt := 48) dd_M_findLines_70 (by decide) ?_
              refine XX.lvs [1, 0] rfl ?_
              exact ih2 _ (by omega) (i + 1) rfl (by omega) (by rw [← hr, sk_step (a := i) (by omega) (by simp [pb_nl, h64])])
      refine XX.iload_n dd_M_findLines_20 rfl 1 rfl ?_
      refine XX.aload_n dd_M_findLines_21 rfl 0 rfl ?_
      refine XX.get (q0 := 0) (v := .int (xx 0)) fl_M_60 dd_M_findLines_22 rfl rfl ?_
      refine XX.tp (y := nI len) (g0) ?_
      refine XX.ncmp_ge (tgt := 79) dd_M_findLines_25 (by decide) (by omega) (by omega) (fun h25 => ?_) (fun h25 => ?_)
      ·
        refine XX.aload_n dd_M_findLines_79 rfl 0 rfl ?_
        refine XX.get (q0 := 0) (v := .ref (q 2)) fl_M_13 dd_M_findLines_80 rfl rfl ?_
        refine XX.aload_n dd_M_findLines_83 rfl 0 rfl ?_
        refine XX.get (q0 := 0) (v := .int (xx 1)) fl_M_78 dd_M_findLines_84 rfl rfl ?_
        refine XX.tp (y := nI j) (g1) ?_
        refine XX.iload_n dd_M_findLines_87 rfl 1 rfl ?_
        refine XX.iast (q0 := 2) (n := 20001) (j := j) (f := g) (ws2 := wM G q xx (fup (fup f 1 g) 1 (upd g j (nI (lst B len j)))) kl) dd_M_findLines_88 rfl (by omega) (by decide) rfl ?_
        have ej := lnc_eq hlt (by omega)
        exact XX.vret dd_M_findLines_89 rfl ⟨xn_le rfl, xn_le rfl⟩ ⟨rfl, xx, _, by rw [fup_fup], hag, by rw [g1, ej], g2, fun z hz => by
          by_cases e : z = j
          · rw [e, pk_us]
          · rw [pk_un e]; exact hg z (by omega)⟩
      ·
        refine XX.aload_n dd_M_findLines_28 rfl 0 rfl ?_
        refine XX.get (q0 := 0) (v := .ref (q 2)) fl_M_13 dd_M_findLines_29 rfl rfl ?_
        refine XX.aload_n dd_M_findLines_32 rfl 0 rfl ?_
        refine XX.get (q0 := 0) (v := .int (xx 1)) fl_M_78 dd_M_findLines_33 rfl rfl ?_
        refine XX.tp (y := nI j) (g1) ?_
        refine XX.iload_n dd_M_findLines_36 rfl 1 rfl ?_
        refine XX.iast (q0 := 2) (n := 20001) (j := j) (f := g) (ws2 := wM G q xx (fup (fup f 1 g) 1 (upd g j (nI (lst B len j)))) kl) dd_M_findLines_37 rfl (by omega) (by decide) rfl ?_
        refine XX.aload_n dd_M_findLines_38 rfl 0 rfl ?_
        refine XX.dup dd_M_findLines_39 rfl ?_
        refine XX.get (q0 := 0) (v := .int (xx 1)) fl_M_78 dd_M_findLines_40 rfl rfl ?_
        refine XX.tp (y := nI j) (g1) ?_
        refine XX.iconst (v := nI 1) dd_M_findLines_43 (by decide) ?_
        refine XX.iadd dd_M_findLines_44 ?_
        refine XX.tp (y := nI (j + 1)) (nI_add _ _) ?_
        refine XX.put (q0 := 0) (ws2 := wM G q (upd xx 1 (nI (j + 1))) (fup (fup f 1 g) 1 (upd g j (nI (lst B len j)))) kl) fp_M_78 dd_M_findLines_45 rfl rfl rfl (xn_le rfl) rfl ?_
        refine XX.cg (ws2 := wM G q (upd xx 1 (nI (j + 1))) (fup f 1 (upd g j (nI (lst B len j)))) kl) (by rw [fup_fup]) rfl rfl ?_
        exact inner (by omega) _ _ rfl (by omega) rfl
  refine XX.aload_n dd_M_findLines_0 rfl 0 rfl ?_
  refine XX.get (q0 := 0) (v := .int (x 2)) fl_M_63 dd_M_findLines_1 rfl rfl ?_
  refine XX.tp (y := bI sp) (hx2) ?_
  refine XX.bif_eq (tgt := 8) dd_M_findLines_4 (by decide) (fun h4 => ?_) (fun h4 => ?_)
  ·
    refine XX.aload_n dd_M_findLines_8 rfl 0 rfl ?_
    refine XX.iconst (v := nI 1) dd_M_findLines_9 (by decide) ?_
    refine XX.put (q0 := 0) (ws2 := wM G q (upd x 2 (nI 1)) f kl) fp_M_63 dd_M_findLines_10 rfl rfl rfl (xn_le rfl) rfl ?_
    refine XX.aload_n dd_M_findLines_13 rfl 0 rfl ?_
    refine XX.iconst (v := nI 0) dd_M_findLines_14 (by decide) ?_
    refine XX.put (q0 := 0) (ws2 := wM G q (upd (upd x 2 (nI 1)) 1 (nI 0)) f kl) fp_M_78 dd_M_findLines_15 rfl rfl rfl (xn_le rfl) rfl ?_
    refine XX.iconst (v := nI 0) dd_M_findLines_18 (by decide) ?_
    refine XX.istore_n (lv2 := [(1, .int (nI 0)), (0, .ref (q 0))]) dd_M_findLines_19 rfl (by decide) rfl ?_
    refine XX.cg (ws2 := wM G q (upd (upd x 2 (nI 1)) 1 (nI 0)) (fup f 1 (f 1)) kl) (by rw [fup_self]) rfl rfl ?_
    refine XX.lvs [1, 0] rfl ?_
    exact loop _ 0 _ (f 1) rfl (fun i h1 h2 => by simp [upd, h1, h2]) rfl rfl (fun i hi => absurd hi (by omega)) (by show 0 ≤ _; omega) (fun i hi => absurd hi (by omega))
  ·
    exact XX.vret dd_M_findLines_7 rfl ⟨xn_le rfl, xn_le rfl⟩ ⟨rfl, x, f 1, by rw [fup_self], fun _ _ _ => rfl, (hsp h4).1, by rw [hx2, h4], (hsp h4).2⟩

