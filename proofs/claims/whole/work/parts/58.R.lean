/-! the lines in order: what is computed -/
def oln (B : Nat → Int32) (sep all : Int32) (kc : Nat) (kd : Nat → Nat → Nat) (kg : Nat → Int32) (bs bo : Bool) (len bc : Nat) (br : Nat → Nat) (a b : Nat) : Ordering := oal B sep all kc kd kg bs bo (tx_start br a) (tx_stop len bc br a) (tx_start br b) (tx_stop len bc br b)
def rk_bs (p : Nat → Bool) (lo hi : Nat) : Nat :=
  if h : lo < hi then (if p ((lo + hi) / 2) = true then rk_bs p ((lo + hi) / 2 + 1) hi else rk_bs p lo ((lo + hi) / 2)) else lo
termination_by hi - lo
decreasing_by all_goals omega
theorem rk_bs_t {p : Nat → Bool} {lo hi : Nat} (h : lo < hi) (hp : p ((lo + hi) / 2) = true) : rk_bs p lo hi = rk_bs p ((lo + hi) / 2 + 1) hi := by rw [rk_bs, dif_pos h, if_pos hp]
theorem rk_bs_f {p : Nat → Bool} {lo hi : Nat} (h : lo < hi) (hp : p ((lo + hi) / 2) = false) : rk_bs p lo hi = rk_bs p lo ((lo + hi) / 2) := by rw [rk_bs, dif_pos h, if_neg (by rw [hp]; decide)]
theorem rk_bs_e {p : Nat → Bool} {lo hi : Nat} (h : hi ≤ lo) : rk_bs p lo hi = lo := by rw [rk_bs, dif_neg (by omega)]
theorem rk_bs_le (p : Nat → Bool) : ∀ (k lo hi : Nat), hi - lo = k → lo ≤ hi → lo ≤ rk_bs p lo hi ∧ rk_bs p lo hi ≤ hi := by
  intro k
  induction k using Nat.strongRecOn with
  | _ k ih =>
    intro lo hi hk h
    by_cases h1 : lo < hi
    · cases hp : p ((lo + hi) / 2) with
      | true => rw [rk_bs_t h1 hp]; have := ih _ (by omega) ((lo + hi) / 2 + 1) hi rfl (by omega); omega
      | false => rw [rk_bs_f h1 hp]; have := ih _ (by omega) lo ((lo + hi) / 2) rfl (by omega); omega
    · rw [rk_bs_e (by omega)]; omega
def rk_ins (r : Nat → Nat) (lo n : Nat) : Nat → Nat := fun i => if i < lo then r i else if i = lo then n else r (i - 1)
def rk_p (o : Nat → Nat → Ordering) (r : Nat → Nat) (n m : Nat) : Bool := !decide (0 < oI (o (r m) n))
def rk (o : Nat → Nat → Ordering) : Nat → Nat → Nat
  | 0 => fun i => i
  | n + 1 => rk_ins (rk o n) (rk_bs (rk_p o (rk o n) n) 0 n) n
theorem rk_lt (o : Nat → Nat → Ordering) : ∀ n i, i < n → rk o n i < n := by
  intro n
  induction n with
  | zero => intro i h; omega
  | succ n ih =>
    intro i h
    have hb := (rk_bs_le (rk_p o (rk o n) n) _ 0 n rfl (by omega)).2
    show rk_ins _ _ _ i < _
    unfold rk_ins
    split
    · have := ih i (by omega); omega
    · split
      · omega
      · have := ih (i - 1) (by omega); omega
def rk_v (r : Nat → Nat) (g : Nat → Int32) : Nat → Nat → Int32
  | 0 => g
  | j + 1 => upd (rk_v r g j) (r j) (nI j)
/-- the row of numbers behind an insertion -/
theorem rk_row {o : Nat → Nat → Ordering} {g : Nat → Int32} {l lo : Nat} (h : ∀ i, i < l → g i = nI (rk o l i)) (hlo : lo = rk_bs (rk_p o (rk o l) l) 0 l) (hle : lo ≤ l) : ∀ i, i < l + 1 → upd (va_cpy g g lo (lo + 1) (l - lo)) lo (nI l) i = nI (rk o (l + 1) i) := by
  intro i hi
  show _ = nI (rk_ins _ _ _ i)
  rw [← hlo]
  unfold rk_ins
  by_cases e : i = lo
  · rw [e, pk_us, if_neg (by omega), if_pos rfl]
  · rw [pk_un e]
    unfold va_cpy
    by_cases h1 : i < lo
    · rw [if_neg (by omega), if_pos h1]; exact h i (by omega)
    · rw [if_pos (by omega), if_neg h1, if_neg e, show lo + (i - (lo + 1)) = i - 1 by omega]; exact h (i - 1) (by omega)

set_option maxRecDepth 100000 in
set_option maxHeartbeats 4000000 in
theorem c_R_rankOf {G : XG} {q : Nat → Nat} {x : Nat → Int32} {n : Nat → Nat} {f : Nat → Nat → Int32} {kf : Nat → Option Nat} {kl : va_W} {l : Nat} (hl : l < 1000) : MR G m_R_rankOf (xr 0 0 0) [.ref (q 10), .int (nI l)] (wC G q x n f kf kl) (some (.int (f 2 l))) := by
  refine MR.of rfl (xn_le rfl) ?_
  refine (?_ : XR G m_R_rankOf (xr 0 0 0) (xr_F (some (.int (f 2 l)))) (wC G q x n f kf kl) 0 [(0, .ref (q 10)), (1, .int (nI l))] [])
  refine XR.aload_n dd_R_rankOf_0 rfl 0 rfl ?_
  refine XR.get (q0 := 10) (v := .ref (q 11)) fl_R_15 dd_R_rankOf_1 rfl rfl ?_
  refine XR.iload_n dd_R_rankOf_4 rfl 1 rfl ?_
  refine XR.iald (q0 := 11) (n := 1000) (j := l) (f := f 2) dd_R_rankOf_5 rfl (by omega) (by decide) ?_
  exact XR.iret dd_R_rankOf_6 rfl

set_option maxRecDepth 100000 in
set_option maxHeartbeats 4000000 in
theorem c_R_lineAt {G : XG} {q : Nat → Nat} {x : Nat → Int32} {n : Nat → Nat} {f : Nat → Nat → Int32} {kf : Nat → Option Nat} {kl : va_W} {l : Nat} (hl : l < 1000) : MR G m_R_lineAt (xr 0 0 0) [.ref (q 10), .int (nI l)] (wC G q x n f kf kl) (some (.int (f 3 l))) := by
  refine MR.of rfl (xn_le rfl) ?_
  refine (?_ : XR G m_R_lineAt (xr 0 0 0) (xr_F (some (.int (f 3 l)))) (wC G q x n f kf kl) 0 [(0, .ref (q 10)), (1, .int (nI l))] [])
  refine XR.aload_n dd_R_lineAt_0 rfl 0 rfl ?_
  refine XR.get (q0 := 10) (v := .ref (q 12)) fl_R_19 dd_R_lineAt_1 rfl rfl ?_
  refine XR.iload_n dd_R_lineAt_4 rfl 1 rfl ?_
  refine XR.iald (q0 := 12) (n := 1000) (j := l) (f := f 3) dd_R_lineAt_5 rfl (by omega) (by decide) ?_
  exact XR.iret dd_R_lineAt_6 rfl

set_option maxRecDepth 100000 in
set_option maxHeartbeats 4000000 in
theorem c_R_rankFirst {G : XG} {q : Nat → Nat} {x : Nat → Int32} {n : Nat → Nat} {f : Nat → Nat → Int32} {kf : Nat → Option Nat} {kl : va_W} {len bc : Nat} {br : Nat → Nat} {B : Nat → Int32} (ht : txt x n f len bc br B) {sep all : Int32} (hx5 : x 5 = sep) {kc : Nat} {ka : Nat → Nat} {kd : Nat → Nat → Nat} {kg : Nat → Int32} (hx6 : x 6 = nI kc) (hx7 : x 7 = all) (hk : kys kc kf kl ka kd kg) {bs bo : Bool} (hx8 : x 8 = bI bs) (hx9 : x 9 = bI bo) {cnt : Nat} (hc : cnt ≤ 1000) (hcb : cnt ≤ bc + 1) (hss : ∀ i, i < cnt → tx_start br i ≤ tx_stop len bc br i) : MM G m_R_rankFirst (xr 5 0 0) [.ref (q 10), .int (nI cnt)] (wC G q x n f kf kl) (fun r w => r = none ∧ ∃ (x2 : Nat → Int32) (g : Nat → Int32), w = wC G q x2 n (fup (fup f 3 g) 2 (rk_v (rk (oln B sep all kc kd kg bs bo len bc br) cnt) (f 2) cnt)) kf kl ∧ agN x x2 ∧ ∀ i, i < cnt → g i = nI (rk (oln B sep all kc kd kg bs bo len bc br) cnt i)) := by
  have hk0 := hk
  obtain ⟨hx3, hx4, hl0, hn0, hb1, hn1, hbr, hB⟩ := id ht
  have hbc : bc ≤ 40960 := by omega
  refine MM.of rfl (xn_le rfl) ?_
  refine (?_ : XX G m_R_rankFirst (xr 5 0 0) (xx_F G (fun r w => r = none ∧ ∃ (x2 : Nat → Int32) (g : Nat → Int32), w = wC G q x2 n (fup (fup f 3 g) 2 (rk_v (rk (oln B sep all kc kd kg bs bo len bc br) cnt) (f 2) cnt)) kf kl ∧ agN x x2 ∧ ∀ i, i < cnt → g i = nI (rk (oln B sep all kc kd kg bs bo len bc br) cnt i)) (xr 5 0 0)) 0 0 (wC G q x n f kf kl) 0 [(0, .ref (q 10)), (1, .int (nI cnt))] [])
  have loop2 : ∀ (kk j : Nat) (xx g : Nat → Int32), cnt - j = kk → j ≤ cnt → agN x xx → (∀ i, i < cnt → g i = nI (rk (oln B sep all kc kd kg bs bo len bc br) cnt i)) → XX G m_R_rankFirst (xr 5 0 0) (xx_F G (fun r w => r = none ∧ ∃ (x2 : Nat → Int32) (g : Nat → Int32), w = wC G q x2 n (fup (fup f 3 g) 2 (rk_v (rk (oln B sep all kc kd kg bs bo len bc br) cnt) (f 2) cnt)) kf kl ∧ agN x x2 ∧ ∀ i, i < cnt → g i = nI (rk (oln B sep all kc kd kg bs bo len bc br) cnt i)) (xr 5 0 0)) 0 0 (wC G q xx n (fup (fup f 3 g) 2 (rk_v (rk (oln B sep all kc kd kg bs bo len bc br) cnt) (f 2) j)) kf kl) 92 [(0, .ref (q 10)), (1, .int (nI cnt)), (2, .int (nI j))] [] := by
    intro kk
    induction kk using Nat.strongRecOn with
    | _ kk ih =>
      intro j xx g hk hj hg hrow
      refine XX.iload_n dd_R_rankFirst_92 rfl 2 rfl ?_
      refine XX.iload_n dd_R_rankFirst_93 rfl 1 rfl ?_
      refine XX.ncmp_ge (tgt := 115) dd_R_rankFirst_94 (by decide) (by omega) (by omega) (fun h94 => ?_) (fun h94 => ?_)
      ·
        obtain rfl : j = cnt := by omega
        exact XX.vret dd_R_rankFirst_115 rfl ⟨xn_le rfl, xn_le rfl⟩ ⟨rfl, xx, g, rfl, hg, hrow⟩
      ·
        refine XX.aload_n dd_R_rankFirst_97 rfl 0 rfl ?_
        refine XX.get (q0 := 10) (v := .ref (q 11)) fl_R_15 dd_R_rankFirst_98 rfl rfl ?_
        refine XX.aload_n dd_R_rankFirst_101 rfl 0 rfl ?_
        refine XX.get (q0 := 10) (v := .ref (q 12)) fl_R_19 dd_R_rankFirst_102 rfl rfl ?_
        refine XX.iload_n dd_R_rankFirst_105 rfl 2 rfl ?_
        refine XX.iald (q0 := 12) (n := 1000) (j := j) (f := g) dd_R_rankFirst_106 rfl (by omega) (by decide) ?_
        refine XX.tp (y := nI (rk (oln B sep all kc kd kg bs bo len bc br) cnt j)) (hrow j (by omega)) ?_
        have hrl := rk_lt (oln B sep all kc kd kg bs bo len bc br) cnt j (by omega)
        refine XX.iload_n dd_R_rankFirst_107 rfl 2 rfl ?_
        refine XX.iast (q0 := 11) (n := 1000) (j := rk (oln B sep all kc kd kg bs bo len bc br) cnt j) (f := rk_v (rk (oln B sep all kc kd kg bs bo len bc br) cnt) (f 2) j) (ws2 := wC G q xx n (fup (fup (fup f 3 g) 2 (rk_v (rk (oln B sep all kc kd kg bs bo len bc br) cnt) (f 2) j)) 2 (upd (rk_v (rk (oln B sep all kc kd kg bs bo len bc br) cnt) (f 2) j) (rk (oln B sep all kc kd kg bs bo len bc br) cnt j) (nI j))) kf kl) dd_R_rankFirst_108 rfl (by omega) (by decide) rfl ?_
        refine XX.iinc (z := 2) (v := nI (j + 1)) (lv2 := [(2, .int (nI (j + 1))), (0, .ref (q 10)), (1, .int (nI cnt))]) dd_R_rankFirst_109 rfl ((nI_succ _).symm) (by decide) rfl ?_
        refine XX.goto (tgt := 92) dd_R_rankFirst_112 (by decide) ?_
        refine XX.lvs [1, 2, 0] rfl ?_
        refine XX.cg (ws2 := wC G q xx n (fup (fup f 3 g) 2 (rk_v (rk (oln B sep all kc kd kg bs bo len bc br) cnt) (f 2) (j + 1))) kf kl) (by rw [fup_fup]; rfl) rfl rfl ?_
        exact ih _ (by omega) (j + 1) xx g rfl (by omega) hg hrow
  have loop1 : ∀ (kk l : Nat) (xx g : Nat → Int32), cnt - l = kk → l ≤ cnt → agN x xx → (∀ i, i < l → g i = nI (rk (oln B sep all kc kd kg bs bo len bc br) l i)) → XX G m_R_rankFirst (xr 5 0 0) (xx_F G (fun r w => r = none ∧ ∃ (x2 : Nat → Int32) (g : Nat → Int32), w = wC G q x2 n (fup (fup f 3 g) 2 (rk_v (rk (oln B sep all kc kd kg bs bo len bc br) cnt) (f 2) cnt)) kf kl ∧ agN x x2 ∧ ∀ i, i < cnt → g i = nI (rk (oln B sep all kc kd kg bs bo len bc br) cnt i)) (xr 5 0 0)) 0 0 (wC G q xx n (fup f 3 g) kf kl) 2 [(0, .ref (q 10)), (1, .int (nI cnt)), (2, .int (nI l))] [] := by
    intro kk
    induction kk using Nat.strongRecOn with
    | _ kk ih =>
      intro l xx g hk hl hg hrow
      have inner : l < cnt → ∀ (k2 lo hi : Nat) (xy : Nat → Int32), hi - lo = k2 → lo ≤ hi → hi ≤ l → agN x xy → rk_bs (rk_p (oln B sep all kc kd kg bs bo len bc br) (rk (oln B sep all kc kd kg bs bo len bc br) l) l) lo hi = rk_bs (rk_p (oln B sep all kc kd kg bs bo len bc br) (rk (oln B sep all kc kd kg bs bo len bc br) l) l) 0 l → XX G m_R_rankFirst (xr 5 0 0) (xx_F G (fun r w => r = none ∧ ∃ (x2 : Nat → Int32) (g : Nat → Int32), w = wC G q x2 n (fup (fup f 3 g) 2 (rk_v (rk (oln B sep all kc kd kg bs bo len bc br) cnt) (f 2) cnt)) kf kl ∧ agN x x2 ∧ ∀ i, i < cnt → g i = nI (rk (oln B sep all kc kd kg bs bo len bc br) cnt i)) (xr 5 0 0)) 0 0 (wC G q xy n (fup f 3 g) kf kl) 12 [(0, .ref (q 10)), (1, .int (nI cnt)), (2, .int (nI l)), (3, .int (nI lo)), (4, .int (nI hi))] [] := by
        intro hlc k2
        induction k2 using Nat.strongRecOn with
        | _ k2 ih2 =>
          intro lo hi xy hk2 hlh hhl hgy hr
          have hty : txt xy n f len bc br B := txt_mv ht (hgy 3 (by omega)) (hgy 4 (by omega))
          have gy5 : xy 5 = _ := (hgy 5 (by omega)).trans hx5
          have gy6 : xy 6 = _ := (hgy 6 (by omega)).trans hx6
          have gy7 : xy 7 = _ := (hgy 7 (by omega)).trans hx7
          have gy8 : xy 8 = _ := (hgy 8 (by omega)).trans hx8
          have gy9 : xy 9 = _ := (hgy 9 (by omega)).trans hx9
          refine XX.iload_n dd_R_rankFirst_12 rfl 3 rfl ?_
          refine XX.iload dd_R_rankFirst_13 4 rfl ?_
          refine XX.ncmp_ge (tgt := 59) dd_R_rankFirst_15 (by decide) (by omega) (by omega) (fun h15 => ?_) (fun h15 => ?_)
          ·
            refine XX.aload_n dd_R_rankFirst_59 rfl 0 rfl ?_
            refine XX.get (q0 := 10) (v := .ref (q 12)) fl_R_19 dd_R_rankFirst_60 rfl rfl ?_
            refine XX.iload_n dd_R_rankFirst_63 rfl 3 rfl ?_
            refine XX.aload_n dd_R_rankFirst_64 rfl 0 rfl ?_
            refine XX.get (q0 := 10) (v := .ref (q 12)) fl_R_19 dd_R_rankFirst_65 rfl rfl ?_
            refine XX.iload_n dd_R_rankFirst_68 rfl 3 rfl ?_
            refine XX.iconst (v := nI 1) dd_R_rankFirst_69 (by decide) ?_
            refine XX.iadd dd_R_rankFirst_70 ?_
            refine XX.tp (y := nI (lo + 1)) (nI_add _ _) ?_
            refine XX.iload_n dd_R_rankFirst_71 rfl 2 rfl ?_
            refine XX.iload_n dd_R_rankFirst_72 rfl 3 rfl ?_
            refine XX.isub dd_R_rankFirst_73 ?_
            refine XX.tp (y := nI (l - lo)) (pk_sub (by omega)) ?_
            refine XX.copy (q0 := 12) (q1 := 12) (t := 1) (n0 := 1000) (n1 := 1000) (f := g) (g := g) (ws2 := wC G q xy n (fup (fup f 3 g) 3 (va_cpy g g lo (lo + 1) (l - lo))) kf kl) dd_R_rankFirst_74 ml_R_28 rfl rfl rfl rfl (by omega) (by omega) (by decide) (by decide) (fun _ _ => rfl) (xn_le rfl) (xn_le rfl) rfl ?_
            refine XX.aload_n dd_R_rankFirst_77 rfl 0 rfl ?_
            refine XX.get (q0 := 10) (v := .ref (q 12)) fl_R_19 dd_R_rankFirst_78 rfl rfl ?_
            refine XX.iload_n dd_R_rankFirst_81 rfl 3 rfl ?_
            refine XX.iload_n dd_R_rankFirst_82 rfl 2 rfl ?_
            refine XX.iast (q0 := 12) (n := 1000) (j := lo) (f := va_cpy g g lo (lo + 1) (l - lo)) (ws2 := wC G q xy n (fup (fup (fup f 3 g) 3 (va_cpy g g lo (lo + 1) (l - lo))) 3 (upd (va_cpy g g lo (lo + 1) (l - lo)) lo (nI l))) kf kl) dd_R_rankFirst_83 rfl (by omega) (by decide) rfl ?_
            refine XX.iinc (z := 2) (v := nI (l + 1)) (lv2 := [(2, .int (nI (l + 1))), (0, .ref (q 10)), (1, .int (nI cnt)), (3, .int (nI lo)), (4, .int (nI hi))]) dd_R_rankFirst_84 rfl ((nI_succ _).symm) (by decide) rfl ?_
            refine XX.goto (tgt := 2) dd_R_rankFirst_87 (by decide) ?_
            refine XX.lvs [1, 2, 0] rfl ?_
            refine XX.cg (ws2 := wC G q xy n (fup f 3 (upd (va_cpy g g lo (lo + 1) (l - lo)) lo (nI l))) kf kl) (by rw [fup_fup, fup_fup]) rfl rfl ?_
            exact ih _ (by omega) (l + 1) xy _ rfl (by omega) hgy (rk_row hrow (by rw [← hr, rk_bs_e (by omega)]) (by omega))
          ·
            refine XX.iload_n dd_R_rankFirst_18 rfl 3 rfl ?_
            refine XX.iload dd_R_rankFirst_19 4 rfl ?_
            refine XX.iadd dd_R_rankFirst_21 ?_
            refine XX.tp (y := nI (lo + hi)) (nI_add _ _) ?_
            refine XX.iconst (v := nI 2) dd_R_rankFirst_22 (by decide) ?_
            refine XX.idiv dd_R_rankFirst_23 (xn_ne0 (by omega) (by omega)) ?_
            refine XX.tp (y := nI ((lo + hi) / 2)) (pk_div (by omega) (by omega) (by omega)) ?_
            refine XX.istore (lv2 := [(5, .int (nI ((lo + hi) / 2))), (0, .ref (q 10)), (1, .int (nI cnt)), (2, .int (nI l)), (3, .int (nI lo)), (4, .int (nI hi))]) dd_R_rankFirst_24 (by decide) rfl ?_
            refine XX.aload_n dd_R_rankFirst_26 rfl 1 rfl ?_
            refine XX.get (q0 := 10) (v := .ref (q 5)) fl_R_9 dd_R_rankFirst_27 rfl rfl ?_
            refine XX.aload_n dd_R_rankFirst_30 rfl 1 rfl ?_
            refine XX.get (q0 := 10) (v := .ref (q 12)) fl_R_19 dd_R_rankFirst_31 rfl rfl ?_
            refine XX.iload dd_R_rankFirst_34 0 rfl ?_
            refine XX.iald (q0 := 12) (n := 1000) (j := (lo + hi) / 2) (f := g) dd_R_rankFirst_36 rfl (by omega) (by decide) ?_
            refine XX.tp (y := nI (rk (oln B sep all kc kd kg bs bo len bc br) l ((lo + hi) / 2))) (hrow _ (by omega)) ?_
            have hrl := rk_lt (oln B sep all kc kd kg bs bo len bc br) l ((lo + hi) / 2) (by omega)
            refine XX.iload_n dd_R_rankFirst_37 rfl 3 rfl ?_
            refine XX.callV (Mk := m_O_comparedNumbersAside) (n := 2) (As := [.int (nI (rk (oln B sep all kc kd kg bs bo len bc br) l ((lo + hi) / 2))), .int (nI l)]) (rest := []) (q0 := 5) (ci := 3) (c_O_comparedNumbersAside (f := fup f 3 g) hty gy5 gy6 gy7 hk0 gy8 gy9 (la := rk (oln B sep all kc kd kg bs bo len bc br) l ((lo + hi) / 2)) (lb := l) (by omega) (by omega) (hss _ (by omega)) (hss _ (by omega))) mt_O_comparedNumbersAside mi_O_comparedNumbersAside ml_R_22 rfl dd_R_rankFirst_38 (rfl) rfl rfl ⟨xn_le rfl, xn_le rfl⟩ ⟨xn_le rfl, xn_le rfl⟩ (xn_le rfl) rfl (fun r1 w1 hp1 => ?_)
            obtain ⟨rfl, x4, rfl, hg4⟩ := hp1
            have hg5 : agN x x4 := fun i h => (hg4 i h).trans (hgy i h)
            refine (?_ : XX G m_R_rankFirst (xr 5 0 0) (xx_F G (fun r w => r = none ∧ ∃ (x2 : Nat → Int32) (g : Nat → Int32), w = wC G q x2 n (fup (fup f 3 g) 2 (rk_v (rk (oln B sep all kc kd kg bs bo len bc br) cnt) (f 2) cnt)) kf kl ∧ agN x x2 ∧ ∀ i, i < cnt → g i = nI (rk (oln B sep all kc kd kg bs bo len bc br) cnt i)) (xr 5 0 0)) 0 0 (wC G q x4 n (fup f 3 g) kf kl) 41 [(5, .int (nI ((lo + hi) / 2))), (0, .ref (q 10)), (1, .int (nI cnt)), (2, .int (nI l)), (3, .int (nI lo)), (4, .int (nI hi))] [.int (oI (oln B sep all kc kd kg bs bo len bc br (rk (oln B sep all kc kd kg bs bo len bc br) l ((lo + hi) / 2)) l))])
            refine XX.if_gt (tgt := 52) dd_R_rankFirst_41 (by decide) (fun h41 => ?_) (fun h41 => ?_)
            ·
              refine XX.iload dd_R_rankFirst_52 0 rfl ?_
              refine XX.istore (lv2 := [(4, .int (nI ((lo + hi) / 2))), (5, .int (nI ((lo + hi) / 2))), (0, .ref (q 10)), (1, .int (nI cnt)), (2, .int (nI l)), (3, .int (nI lo))]) dd_R_rankFirst_54 (by decide) rfl ?_
              refine XX.goto (tgt := 12) dd_R_rankFirst_56 (by decide) ?_
              refine XX.lvs [2, 3, 4, 5, 0] rfl ?_
              exact ih2 _ (by omega) _ _ x4 rfl (by omega) (by omega) hg5 (by rw [← hr, rk_bs_f (lo := lo) (hi := hi) (by omega) (by simp only [rk_p]; rw [decide_eq_true h41]; rfl)])
            ·
              refine XX.iload dd_R_rankFirst_44 0 rfl ?_
              refine XX.iconst (v := nI 1) dd_R_rankFirst_46 (by decide) ?_
              refine XX.iadd dd_R_rankFirst_47 ?_
              refine XX.tp (y := nI ((lo + hi) / 2 + 1)) (nI_add _ _) ?_
              refine XX.istore_n (lv2 := [(3, .int (nI ((lo + hi) / 2 + 1))), (5, .int (nI ((lo + hi) / 2))), (0, .ref (q 10)), (1, .int (nI cnt)), (2, .int (nI l)), (4, .int (nI hi))]) dd_R_rankFirst_48 rfl (by decide) rfl ?_
              refine XX.goto (tgt := 56) dd_R_rankFirst_49 (by decide) ?_
              refine XX.goto (tgt := 12) dd_R_rankFirst_56 (by decide) ?_
              refine XX.lvs [2, 3, 4, 0, 5] rfl ?_
              exact ih2 _ (by omega) _ _ x4 rfl (by omega) (by omega) hg5 (by rw [← hr, rk_bs_t (lo := lo) (hi := hi) (by omega) (by simp only [rk_p]; rw [decide_eq_false h41]; rfl)])
      refine XX.iload_n dd_R_rankFirst_2 rfl 2 rfl ?_
      refine XX.iload_n dd_R_rankFirst_3 rfl 1 rfl ?_
      refine XX.ncmp_ge (tgt := 90) dd_R_rankFirst_4 (by decide) (by omega) (by omega) (fun h4 => ?_) (fun h4 => ?_)
      ·
        refine XX.iconst (v := nI 0) dd_R_rankFirst_90 (by decide) ?_
        refine XX.istore_n (lv2 := [(2, .int (nI 0)), (0, .ref (q 10)), (1, .int (nI cnt))]) dd_R_rankFirst_91 rfl (by decide) rfl ?_
        refine XX.lvs [1, 2, 0] rfl ?_
        obtain rfl : l = cnt := by omega
        refine XX.cg (ws2 := wC G q xx n (fup (fup f 3 g) 2 (rk_v (rk (oln B sep all kc kd kg bs bo len bc br) l) (f 2) 0)) kf kl) (by show wC G q xx n (fup f 3 g) kf kl = wC G q xx n (fup (fup f 3 g) 2 ((fup f 3 g) 2)) kf kl; rw [fup_self]) rfl rfl ?_
        exact loop2 _ 0 xx g rfl (by omega) hg hrow
      ·
        refine XX.iconst (v := nI 0) dd_R_rankFirst_7 (by decide) ?_
        refine XX.istore_n (lv2 := [(3, .int (nI 0)), (0, .ref (q 10)), (1, .int (nI cnt)), (2, .int (nI l))]) dd_R_rankFirst_8 rfl (by decide) rfl ?_
        refine XX.iload_n dd_R_rankFirst_9 rfl 3 rfl ?_
        refine XX.istore (lv2 := [(4, .int (nI l)), (3, .int (nI 0)), (0, .ref (q 10)), (1, .int (nI cnt)), (2, .int (nI l))]) dd_R_rankFirst_10 (by decide) rfl ?_
        refine XX.lvs [2, 3, 4, 1, 0] rfl ?_
        exact inner (by omega) _ 0 l xx rfl (by omega) (by omega) hg rfl
  refine XX.iconst (v := nI 0) dd_R_rankFirst_0 (by decide) ?_
  refine XX.istore_n (lv2 := [(2, .int (nI 0)), (0, .ref (q 10)), (1, .int (nI cnt))]) dd_R_rankFirst_1 rfl (by decide) rfl ?_
  refine XX.lvs [1, 2, 0] rfl ?_
  refine XX.cg (ws2 := wC G q x n (fup f 3 (f 3)) kf kl) (by rw [fup_self]) rfl rfl ?_
  exact loop1 _ 0 x (f 3) rfl (by omega) (fun _ _ => rfl) (fun i h => absurd h (by omega))

