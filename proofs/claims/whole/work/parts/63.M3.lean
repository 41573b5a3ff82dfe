/-! numbers as the reference reads and compares them -/
def bfit (B : Nat → Int32) (len : Nat) : Prop := ∀ i, i < len → -128 ≤ (B i).toInt ∧ (B i).toInt ≤ 127
theorem by_eq {x : Int32} (h : -128 ≤ x.toInt ∧ x.toInt ≤ 127) {c : Nat} (hc : c < 128) : (x &&& nI 255 = nI c) ↔ x = nI c := by
  have e := pk_and x (m := nI 255) 8 (by decide)
  rw [e]
  have h2 := BitVec.toInt_eq_toNat_cond x.toBitVec
  have h3 : x.toInt = x.toBitVec.toInt := rfl
  have hl := x.toBitVec.isLt
  rw [xn_inj (Nat.lt_of_lt_of_le (Nat.mod_lt _ (by decide)) (by decide)) (by omega)]
  constructor
  · intro h4
    apply Int32.toInt_inj.mp
    rw [nI_toInt (by omega)]
    split at h2 <;> omega
  · intro h4
    have h5 : x.toInt = (c : Int) := by rw [h4, nI_toInt (by omega)]
    split at h2 <;> omega
def md (B : Nat → Int32) (e i : Nat) : Bool := decide (i < e) && pb_dig B i
def mm_min (B : Nat → Int32) (e i : Nat) : Bool := decide (i < e) && decide (B i = nI 45)
theorem mm_nm {B : Nat → Int32} {e a len : Nat} (hb : bfit B len) (he : e ≤ len) : mm_min B e (sk (pb_blk B) e a) = nm_min B e a := by
  unfold mm_min nm_min
  by_cases h : sk (pb_blk B) e a < e
  · rw [decide_eq_true h, Bool.true_and, Bool.true_and]
    exact decide_eq_decide.mpr (by_eq (hb _ (by omega)) (by decide)).symm
  · rw [decide_eq_false h, Bool.false_and, Bool.false_and]
def mp (B : Nat → Int32) (e w : Nat) : Nat := if sk (pb_dig B) e w < e ∧ B (sk (pb_dig B) e w) = nI 46 then sk (pb_dig B) e w + 1 else e
theorem mp_le {B : Nat → Int32} {e w len : Nat} (he : e ≤ len) : mp B e w ≤ len := by unfold mp; split <;> omega
/-- the digits from i on -/
def dl_n (B : Nat → Int32) : Nat → Nat → List Int32
  | 0, _ => []
  | n + 1, i => if pb_dig B i = true then B i :: dl_n B n (i + 1) else []
def dl (B : Nat → Int32) (e i : Nat) : List Int32 := dl_n B (e - i) i
theorem dl_t {B : Nat → Int32} {e i : Nat} (h : md B e i = true) : dl B e i = B i :: dl B e (i + 1) := by
  simp only [md, Bool.and_eq_true, decide_eq_true_eq] at h
  unfold dl
  rw [show e - i = (e - (i + 1)) + 1 by omega, dl_n, if_pos h.2]
theorem dl_f {B : Nat → Int32} {e i : Nat} (h : md B e i = false) : dl B e i = [] := by
  unfold dl
  by_cases h1 : i < e
  · rw [show e - i = (e - (i + 1)) + 1 by omega, dl_n, if_neg]
    intro z
    simp [md, h1, z] at h
  · rw [show e - i = 0 by omega]; rfl
theorem md_lt {B : Nat → Int32} {e i : Nat} (h : md B e i = true) : i < e := by
  simp only [md, Bool.and_eq_true, decide_eq_true_eq] at h; exact h.1
/-- rows with zeros behind them -/
def pz : List Int32 → List Int32 → Ordering
  | [], [] => .eq
  | x :: xs, [] => (oi x (nI 48)).then (pz xs [])
  | [], y :: ys => (oi (nI 48) y).then (pz [] ys)
  | x :: xs, y :: ys => (oi x y).then (pz xs ys)
def rl (g : Nat → Int32) : Nat → Nat → List Int32
  | 0, _ => []
  | n + 1, a => g a :: rl g n (a + 1)
def msz (B : Nat → Int32) (a a2 b b2 : Nat) : Ordering := (on (sk (pb_dig B) a2 a - a) (sk (pb_dig B) b2 b - b)).then ((lx (rl B (sk (pb_dig B) a2 a - a) a) (rl B (sk (pb_dig B) a2 a - a) b)).then (pz (dl B a2 (mp B a2 a)) (dl B b2 (mp B b2 b))))
theorem rl_s {g : Nat → Int32} {n k a : Nat} (h : k < n) : rl g (n - k) (a + k) = g (a + k) :: rl g (n - (k + 1)) (a + (k + 1)) := by
  rw [show n - k = (n - (k + 1)) + 1 by omega, rl]; rfl
theorem rl_0 {g : Nat → Int32} {n k a : Nat} (h : n ≤ k) : rl g (n - k) (a + k) = [] := by rw [show n - k = 0 by omega]; rfl
/-- all digits from i on are zeros -/
def allz (l : List Int32) : Bool := l.all (fun v => decide (v = nI 48))
theorem on_ge {x y : Nat} (h : x ≠ y) (h2 : y ≤ x) : oI (on x y) = nI 1 := by unfold on; rw [if_neg h, if_neg (by omega)]; rfl
theorem on_lt {x y : Nat} (h2 : x < y) : oI (on x y) = -1 := by unfold on; rw [if_neg (by omega), if_pos h2]; rfl
theorem on_ne {x y : Nat} (h : x ≠ y) : ¬ oI (on x y) = 0 := by rw [oI_0]; unfold on; rw [if_neg h]; split <;> (intro z; cases z)
theorem on_eq {x y : Nat} (h : x = y) : on x y = .eq := by unfold on; rw [if_pos h]
theorem oi_eq {x y : Int32} (h : x = y) : oi x y = .eq := by unfold oi; rw [if_pos h]
theorem eq_then (o : Ordering) : Ordering.eq.then o = o := rfl

set_option maxRecDepth 100000 in
set_option maxHeartbeats 4000000 in
theorem c_M_isDigit {G : XG} {q : Nat → Nat} {x : Nat → Int32} {f : Nat → Nat → Int32} {kl : va_W} {len ln : Nat} {st : Nat → Nat} {B : Nat → Int32} (ht : mtx x f len ln st B) {i e : Nat} (he : e ≤ len) (hi : i ≤ len) : MR G m_M_isDigit (xr 0 0 0) [.ref (q 0), .int (nI i), .int (nI e)] (wM G q x f kl) (some (.int (bI (md B e i)))) := by
  obtain ⟨hx0, hl0, hln, hst, hse, hB⟩ := id ht
  refine MR.of rfl (xn_le rfl) ?_
  refine (?_ : XR G m_M_isDigit (xr 0 0 0) (xr_F (some (.int (bI (md B e i))))) (wM G q x f kl) 0 [(0, .ref (q 0)), (1, .int (nI i)), (2, .int (nI e))] [])
  refine XR.iload_n dd_M_isDigit_0 rfl 1 rfl ?_
  refine XR.iload_n dd_M_isDigit_1 rfl 2 rfl ?_
  refine XR.ncmp_ge (tgt := 31) dd_M_isDigit_2 (by decide) (by omega) (by omega) (fun h2 => ?_) (fun h2 => ?_)
  ·
    refine XR.iconst (v := nI 0) dd_M_isDigit_31 (by decide) ?_
    refine XR.tp (y := bI (md B e i)) (by first | (simp [bI, md, pb_dig, h2]; done) | (rw [md, decide_eq_false (by omega)]; rfl)) ?_
    exact XR.zret dd_M_isDigit_32 rfl (bI_nar _)
  ·
    refine XR.aload_n dd_M_isDigit_5 rfl 0 rfl ?_
    refine XR.get (q0 := 0) (v := .ref (q 1)) fl_M_7 dd_M_isDigit_6 rfl rfl ?_
    refine XR.iload_n dd_M_isDigit_9 rfl 1 rfl ?_
    refine XR.bald (q0 := 1) (n := 20000) (j := i) (f := f 0) dd_M_isDigit_10 rfl (by omega) (by decide) ?_
    refine XR.tp (y := B i) (hB _ (by omega)) ?_
    refine XR.bipush (v := nI 48) dd_M_isDigit_11 (by decide) ?_
    refine XR.icmp_lt (tgt := 31) dd_M_isDigit_13 (by decide) (fun h13 => ?_) (fun h13 => ?_)
    ·
      refine XR.iconst (v := nI 0) dd_M_isDigit_31 (by decide) ?_
      refine XR.tp (y := bI (md B e i)) (by first | (simp [bI, md, pb_dig, h2, h13]; done) | (rw [md, decide_eq_false (by omega)]; rfl)) ?_
      exact XR.zret dd_M_isDigit_32 rfl (bI_nar _)
    ·
      refine XR.aload_n dd_M_isDigit_16 rfl 0 rfl ?_
      refine XR.get (q0 := 0) (v := .ref (q 1)) fl_M_7 dd_M_isDigit_17 rfl rfl ?_
      refine XR.iload_n dd_M_isDigit_20 rfl 1 rfl ?_
      refine XR.bald (q0 := 1) (n := 20000) (j := i) (f := f 0) dd_M_isDigit_21 rfl (by omega) (by decide) ?_
      refine XR.tp (y := B i) (hB _ (by omega)) ?_
      refine XR.bipush (v := nI 57) dd_M_isDigit_22 (by decide) ?_
      refine XR.icmp_gt (tgt := 31) dd_M_isDigit_24 (by decide) (fun h24 => ?_) (fun h24 => ?_)
      ·
        refine XR.iconst (v := nI 0) dd_M_isDigit_31 (by decide) ?_
        refine XR.tp (y := bI (md B e i)) (by first | (simp [bI, md, pb_dig, h2, h13, h24]; done) | (rw [md, decide_eq_false (by omega)]; rfl)) ?_
        exact XR.zret dd_M_isDigit_32 rfl (bI_nar _)
      ·
        refine XR.iconst (v := nI 1) dd_M_isDigit_27 (by decide) ?_
        refine XR.goto (tgt := 32) dd_M_isDigit_28 (by decide) ?_
        refine XR.tp (y := bI (md B e i)) (by first | (simp [bI, md, pb_dig, h2, h13, h24]; done) | (rw [md, decide_eq_false (by omega)]; rfl)) ?_
        exact XR.zret dd_M_isDigit_32 rfl (bI_nar _)

set_option maxRecDepth 100000 in
set_option maxHeartbeats 4000000 in
theorem c_M_isMinus {G : XG} {q : Nat → Nat} {x : Nat → Int32} {f : Nat → Nat → Int32} {kl : va_W} {len ln : Nat} {st : Nat → Nat} {B : Nat → Int32} (ht : mtx x f len ln st B) {i e : Nat} (he : e ≤ len) (hi : i ≤ len) : MR G m_M_isMinus (xr 0 0 0) [.ref (q 0), .int (nI i), .int (nI e)] (wM G q x f kl) (some (.int (bI (mm_min B e i)))) := by
  obtain ⟨hx0, hl0, hln, hst, hse, hB⟩ := id ht
  refine MR.of rfl (xn_le rfl) ?_
  refine (?_ : XR G m_M_isMinus (xr 0 0 0) (xr_F (some (.int (bI (mm_min B e i))))) (wM G q x f kl) 0 [(0, .ref (q 0)), (1, .int (nI i)), (2, .int (nI e))] [])
  refine XR.iload_n dd_M_isMinus_0 rfl 1 rfl ?_
  refine XR.iload_n dd_M_isMinus_1 rfl 2 rfl ?_
  refine XR.ncmp_ge (tgt := 20) dd_M_isMinus_2 (by decide) (by omega) (by omega) (fun h2 => ?_) (fun h2 => ?_)
  ·
    refine XR.iconst (v := nI 0) dd_M_isMinus_20 (by decide) ?_
    refine XR.tp (y := bI (mm_min B e i)) (by first | (simp [bI, mm_min, h2]; done) | (rw [mm_min, decide_eq_false (by omega)]; rfl)) ?_
    exact XR.zret dd_M_isMinus_21 rfl (bI_nar _)
  ·
    refine XR.aload_n dd_M_isMinus_5 rfl 0 rfl ?_
    refine XR.get (q0 := 0) (v := .ref (q 1)) fl_M_7 dd_M_isMinus_6 rfl rfl ?_
    refine XR.iload_n dd_M_isMinus_9 rfl 1 rfl ?_
    refine XR.bald (q0 := 1) (n := 20000) (j := i) (f := f 0) dd_M_isMinus_10 rfl (by omega) (by decide) ?_
    refine XR.tp (y := B i) (hB _ (by omega)) ?_
    refine XR.bipush (v := nI 45) dd_M_isMinus_11 (by decide) ?_
    refine XR.icmp_ne (tgt := 20) dd_M_isMinus_13 (by decide) (fun h13 => ?_) (fun h13 => ?_)
    ·
      refine XR.iconst (v := nI 0) dd_M_isMinus_20 (by decide) ?_
      refine XR.tp (y := bI (mm_min B e i)) (by first | (simp [bI, mm_min, h2, h13]; done) | (rw [mm_min, decide_eq_false (by omega)]; rfl)) ?_
      exact XR.zret dd_M_isMinus_21 rfl (bI_nar _)
    ·
      refine XR.iconst (v := nI 1) dd_M_isMinus_16 (by decide) ?_
      refine XR.goto (tgt := 21) dd_M_isMinus_17 (by decide) ?_
      refine XR.tp (y := bI (mm_min B e i)) (by first | (simp [bI, mm_min, h2, h13]; done) | (rw [mm_min, decide_eq_false (by omega)]; rfl)) ?_
      exact XR.zret dd_M_isMinus_21 rfl (bI_nar _)

set_option maxRecDepth 100000 in
set_option maxHeartbeats 4000000 in
theorem c_M_behindBlanks {G : XG} {q : Nat → Nat} {x : Nat → Int32} {f : Nat → Nat → Int32} {kl : va_W} {len ln : Nat} {st : Nat → Nat} {B : Nat → Int32} (ht : mtx x f len ln st B) {a e : Nat} (ha : a ≤ len) (he : e ≤ len) : MR G m_M_behindBlanks (xr 1 0 0) [.ref (q 0), .int (nI a), .int (nI e)] (wM G q x f kl) (some (.int (nI (sk (pb_blk B) e a)))) := by
  obtain ⟨hx0, hl0, hln, hst, hse, hB⟩ := id ht
  refine MR.of rfl (xn_le rfl) ?_
  refine (?_ : XR G m_M_behindBlanks (xr 1 0 0) (xr_F (some (.int (nI (sk (pb_blk B) e a))))) (wM G q x f kl) 0 [(0, .ref (q 0)), (1, .int (nI a)), (2, .int (nI e))] [])
  have loop : ∀ (kk i : Nat), e - i = kk → i ≤ len → sk (pb_blk B) e i = sk (pb_blk B) e a → XR G m_M_behindBlanks (xr 1 0 0) (xr_F (some (.int (nI (sk (pb_blk B) e a))))) (wM G q x f kl) 2 [(0, .ref (q 0)), (1, .int (nI a)), (2, .int (nI e)), (3, .int (nI i))] [] := by
    intro kk
    induction kk using Nat.strongRecOn with
    | _ kk ih =>
      intro i hk hi hr
      refine XR.iload_n dd_M_behindBlanks_2 rfl 3 rfl ?_
      refine XR.iload_n dd_M_behindBlanks_3 rfl 2 rfl ?_
      refine XR.ncmp_ge (tgt := 21) dd_M_behindBlanks_4 (by decide) (by omega) (by omega) (fun h4 => ?_) (fun h4 => ?_)
      ·
        refine XR.iload_n dd_M_behindBlanks_21 rfl 3 rfl ?_
        refine XR.tp (y := nI (sk (pb_blk B) e a)) (by rw [← hr, sk_stop (fun hz => by first | (exfalso; omega) | simp [h4])]) ?_
        exact XR.iret dd_M_behindBlanks_22 rfl
      ·
        refine XR.aload_n dd_M_behindBlanks_7 rfl 0 rfl ?_
        refine XR.iload_n dd_M_behindBlanks_8 rfl 3 rfl ?_
        refine XR.callV (Mk := m_M_isBlank) (n := 1) (As := [.int (nI i)]) (rest := []) (q0 := 0) (ci := 9) (c_M_isBlank ht (i := i) (by omega)) mt_M_isBlank mi_M_isBlank ml_M_110 rfl dd_M_behindBlanks_9 (rfl) rfl rfl ⟨xn_le rfl, xn_le rfl⟩ (xn_le rfl) rfl ?_
        refine XR.bif_eq (tgt := 21) dd_M_behindBlanks_12 (by decide) (fun h12 => ?_) (fun h12 => ?_)
        ·
          refine XR.iload_n dd_M_behindBlanks_21 rfl 3 rfl ?_
          refine XR.tp (y := nI (sk (pb_blk B) e a)) (by rw [← hr, sk_stop (fun hz => by first | (exfalso; omega) | simp [h4, h12])]) ?_
          exact XR.iret dd_M_behindBlanks_22 rfl
        ·
          refine XR.iinc (z := 3) (v := nI (i + 1)) (lv2 := [(3, .int (nI (i + 1))), (0, .ref (q 0)), (1, .int (nI a)), (2, .int (nI e))]) dd_M_behindBlanks_15 rfl ((nI_succ _).symm) (by decide) rfl ?_
          refine XR.goto (tgt := 2) dd_M_behindBlanks_18 (by decide) ?_
          refine XR.lvs [1, 2, 3, 0] rfl ?_
          exact ih _ (by omega) (i + 1) rfl (by omega) (by rw [← hr, sk_step (a := i) (by omega) h12])
  refine XR.iload_n dd_M_behindBlanks_0 rfl 1 rfl ?_
  refine XR.istore_n (lv2 := [(3, .int (nI a)), (0, .ref (q 0)), (1, .int (nI a)), (2, .int (nI e))]) dd_M_behindBlanks_1 rfl (by decide) rfl ?_
  refine XR.lvs [1, 2, 3, 0] rfl ?_
  exact loop _ a rfl ha rfl

set_option maxRecDepth 100000 in
set_option maxHeartbeats 4000000 in
theorem c_M_behindDigits {G : XG} {q : Nat → Nat} {x : Nat → Int32} {f : Nat → Nat → Int32} {kl : va_W} {len ln : Nat} {st : Nat → Nat} {B : Nat → Int32} (ht : mtx x f len ln st B) {a e : Nat} (ha : a ≤ len) (he : e ≤ len) : MR G m_M_behindDigits (xr 1 0 0) [.ref (q 0), .int (nI a), .int (nI e)] (wM G q x f kl) (some (.int (nI (sk (pb_dig B) e a)))) := by
  obtain ⟨hx0, hl0, hln, hst, hse, hB⟩ := id ht
  refine MR.of rfl (xn_le rfl) ?_
  refine (?_ : XR G m_M_behindDigits (xr 1 0 0) (xr_F (some (.int (nI (sk (pb_dig B) e a))))) (wM G q x f kl) 0 [(0, .ref (q 0)), (1, .int (nI a)), (2, .int (nI e))] [])
  have loop : ∀ (kk i : Nat), e - i = kk → i ≤ len → sk (pb_dig B) e i = sk (pb_dig B) e a → XR G m_M_behindDigits (xr 1 0 0) (xr_F (some (.int (nI (sk (pb_dig B) e a))))) (wM G q x f kl) 2 [(0, .ref (q 0)), (1, .int (nI a)), (2, .int (nI e)), (3, .int (nI i))] [] := by
    intro kk
    induction kk using Nat.strongRecOn with
    | _ kk ih =>
      intro i hk hi hr
      refine XR.aload_n dd_M_behindDigits_2 rfl 0 rfl ?_
      refine XR.iload_n dd_M_behindDigits_3 rfl 3 rfl ?_
      refine XR.iload_n dd_M_behindDigits_4 rfl 2 rfl ?_
      refine XR.callV (Mk := m_M_isDigit) (n := 2) (As := [.int (nI i), .int (nI e)]) (rest := []) (q0 := 0) (ci := 9) (c_M_isDigit ht (i := i) (e := e) (by omega) (by omega)) mt_M_isDigit mi_M_isDigit ml_M_147 rfl dd_M_behindDigits_5 (rfl) rfl rfl ⟨xn_le rfl, xn_le rfl⟩ (xn_le rfl) rfl ?_
      refine XR.bif_eq (tgt := 17) dd_M_behindDigits_8 (by decide) (fun h8 => ?_) (fun h8 => ?_)
      ·
        refine XR.iload_n dd_M_behindDigits_17 rfl 3 rfl ?_
        refine XR.tp (y := nI (sk (pb_dig B) e a)) (by rw [← hr, sk_stop (fun hz => by simp [md, hz] at h8; exact h8)]) ?_
        exact XR.iret dd_M_behindDigits_18 rfl
      ·
        refine XR.iinc (z := 3) (v := nI (i + 1)) (lv2 := [(3, .int (nI (i + 1))), (0, .ref (q 0)), (1, .int (nI a)), (2, .int (nI e))]) dd_M_behindDigits_11 rfl ((nI_succ _).symm) (by decide) rfl ?_
        refine XR.goto (tgt := 2) dd_M_behindDigits_14 (by decide) ?_
        refine XR.lvs [1, 2, 3, 0] rfl ?_
        have hlt := md_lt h8
        exact ih _ (by omega) (i + 1) rfl (by omega) (by rw [← hr, sk_step (a := i) hlt (by simp [md, hlt] at h8; exact h8)])
  refine XR.iload_n dd_M_behindDigits_0 rfl 1 rfl ?_
  refine XR.istore_n (lv2 := [(3, .int (nI a)), (0, .ref (q 0)), (1, .int (nI a)), (2, .int (nI e))]) dd_M_behindDigits_1 rfl (by decide) rfl ?_
  refine XR.lvs [1, 2, 3, 0] rfl ?_
  exact loop _ a rfl ha rfl

set_option maxRecDepth 100000 in
set_option maxHeartbeats 4000000 in
theorem c_M_wholeAt {G : XG} {q : Nat → Nat} {x : Nat → Int32} {f : Nat → Nat → Int32} {kl : va_W} {len ln : Nat} {st : Nat → Nat} {B : Nat → Int32} (ht : mtx x f len ln st B) (hby : bfit B len) {a e : Nat} (ha : a ≤ len) (he : e ≤ len) : MR G m_M_wholeAt (xr 2 0 0) [.ref (q 0), .int (nI a), .int (nI e)] (wM G q x f kl) (some (.int (nI (nm_whole B e a)))) := by
  obtain ⟨hx0, hl0, hln, hst, hse, hB⟩ := id ht
  have z1 := nm_a_le (B := B) ha he
  refine MR.of rfl (xn_le rfl) ?_
  refine (?_ : XR G m_M_wholeAt (xr 2 0 0) (xr_F (some (.int (nI (nm_whole B e a))))) (wM G q x f kl) 0 [(0, .ref (q 0)), (1, .int (nI a)), (2, .int (nI e))] [])
  have loop : ∀ (kk i : Nat), e - i = kk → i ≤ len → sk (pb_zero B) e i = nm_whole B e a → XR G m_M_wholeAt (xr 2 0 0) (xr_F (some (.int (nI (nm_whole B e a))))) (wM G q x f kl) 24 [(0, .ref (q 0)), (1, .int (nI a)), (2, .int (nI e)), (3, .int (nI i))] [] := by
    intro kk
    induction kk using Nat.strongRecOn with
    | _ kk ih =>
      intro i hk hi hr
      refine XR.iload_n dd_M_wholeAt_24 rfl 3 rfl ?_
      refine XR.iload_n dd_M_wholeAt_25 rfl 2 rfl ?_
      refine XR.ncmp_ge (tgt := 46) dd_M_wholeAt_26 (by decide) (by omega) (by omega) (fun h26 => ?_) (fun h26 => ?_)
      ·
        refine XR.iload_n dd_M_wholeAt_46 rfl 3 rfl ?_
        refine XR.tp (y := nI (nm_whole B e a)) (by rw [← hr, sk_stop (fun hz => by first | (exfalso; omega) | (rw [pb_zero]; exact decide_eq_false (fun z => h37 ((by_eq (hby i (by omega)) (by decide)).mp z))))]) ?_
        exact XR.iret dd_M_wholeAt_47 rfl
      ·
        refine XR.aload_n dd_M_wholeAt_29 rfl 0 rfl ?_
        refine XR.get (q0 := 0) (v := .ref (q 1)) fl_M_7 dd_M_wholeAt_30 rfl rfl ?_
        refine XR.iload_n dd_M_wholeAt_33 rfl 3 rfl ?_
        refine XR.bald (q0 := 1) (n := 20000) (j := i) (f := f 0) dd_M_wholeAt_34 rfl (by omega) (by decide) ?_
        refine XR.tp (y := B i) (hB _ (by omega)) ?_
        refine XR.bipush (v := nI 48) dd_M_wholeAt_35 (by decide) ?_
        refine XR.icmp_ne (tgt := 46) dd_M_wholeAt_37 (by decide) (fun h37 => ?_) (fun h37 => ?_)
        ·
          refine XR.iload_n dd_M_wholeAt_46 rfl 3 rfl ?_
          refine XR.tp (y := nI (nm_whole B e a)) (by rw [← hr, sk_stop (fun hz => by first | (exfalso; omega) | (rw [pb_zero]; exact decide_eq_false (fun z => h37 ((by_eq (hby i (by omega)) (by decide)).mp z))))]) ?_
          exact XR.iret dd_M_wholeAt_47 rfl
        ·
          refine XR.iinc (z := 3) (v := nI (i + 1)) (lv2 := [(3, .int (nI (i + 1))), (0, .ref (q 0)), (1, .int (nI a)), (2, .int (nI e))]) dd_M_wholeAt_40 rfl ((nI_succ _).symm) (by decide) rfl ?_
          refine XR.goto (tgt := 24) dd_M_wholeAt_43 (by decide) ?_
          refine XR.lvs [1, 2, 3, 0] rfl ?_
          exact ih _ (by omega) (i + 1) rfl (by omega) (by rw [← hr, sk_step (a := i) (by omega) (by rw [pb_zero]; exact decide_eq_true ((by_eq (hby i (by omega)) (by decide)).mpr h37))])
  refine XR.aload_n dd_M_wholeAt_0 rfl 0 rfl ?_
  refine XR.iload_n dd_M_wholeAt_1 rfl 1 rfl ?_
  refine XR.iload_n dd_M_wholeAt_2 rfl 2 rfl ?_
  refine XR.callV (Mk := m_M_behindBlanks) (n := 2) (As := [.int (nI a), .int (nI e)]) (rest := []) (q0 := 0) (ci := 9) (c_M_behindBlanks ht (a := a) (e := e) (by omega) (by omega)) mt_M_behindBlanks mi_M_behindBlanks ml_M_141 rfl dd_M_wholeAt_3 (rfl) rfl rfl ⟨xn_le rfl, xn_le rfl⟩ (xn_le rfl) rfl ?_
  refine XR.istore_n (lv2 := [(3, .int (nI (sk (pb_blk B) e a))), (0, .ref (q 0)), (1, .int (nI a)), (2, .int (nI e))]) dd_M_wholeAt_6 rfl (by decide) rfl ?_
  refine XR.iload_n dd_M_wholeAt_7 rfl 0 rfl ?_
  refine XR.aload_n dd_M_wholeAt_8 rfl 1 rfl ?_
  refine XR.iload_n dd_M_wholeAt_9 rfl 0 rfl ?_
  refine XR.iload_n dd_M_wholeAt_10 rfl 3 rfl ?_
  refine XR.callV (Mk := m_M_isMinus) (n := 2) (As := [.int (nI (sk (pb_blk B) e a)), .int (nI e)]) (rest := [.int (nI (sk (pb_blk B) e a))]) (q0 := 0) (ci := 9) (c_M_isMinus ht (i := sk (pb_blk B) e a) (e := e) (by omega) (by omega)) mt_M_isMinus mi_M_isMinus ml_M_144 rfl dd_M_wholeAt_11 (rfl) rfl rfl ⟨xn_le rfl, xn_le rfl⟩ (xn_le rfl) rfl ?_
  refine XR.bif_eq (tgt := 21) dd_M_wholeAt_14 (by decide) (fun h14 => ?_) (fun h14 => ?_)
  ·
    refine XR.iconst (v := nI 0) dd_M_wholeAt_21 (by decide) ?_
    refine XR.iadd dd_M_wholeAt_22 ?_
    refine XR.tp (y := nI (sk (pb_blk B) e a)) (nI_add _ _) ?_
    refine XR.istore_n (lv2 := [(3, .int (nI (sk (pb_blk B) e a))), (0, .ref (q 0)), (1, .int (nI a)), (2, .int (nI e))]) dd_M_wholeAt_23 rfl (by decide) rfl ?_
    refine XR.lvs [1, 2, 3, 0] rfl ?_
    have hm := mm_nm (a := a) hby he
    rw [h14] at hm
    exact loop _ _ rfl (by omega) (by rw [nm_whole, if_neg (by rw [← hm]; decide)])
  ·
    refine XR.iconst (v := nI 1) dd_M_wholeAt_17 (by decide) ?_
    refine XR.goto (tgt := 22) dd_M_wholeAt_18 (by decide) ?_
    refine XR.iadd dd_M_wholeAt_22 ?_
    refine XR.tp (y := nI (sk (pb_blk B) e a + 1)) (nI_add _ _) ?_
    refine XR.istore_n (lv2 := [(3, .int (nI (sk (pb_blk B) e a + 1))), (0, .ref (q 0)), (1, .int (nI a)), (2, .int (nI e))]) dd_M_wholeAt_23 rfl (by decide) rfl ?_
    refine XR.lvs [1, 2, 3, 0] rfl ?_
    have hm := mm_nm (a := a) hby he
    rw [h14] at hm
    have hlt : sk (pb_blk B) e a < e := by simp only [mm_min, Bool.and_eq_true, decide_eq_true_eq] at h14; exact h14.1
    exact loop _ _ rfl (by omega) (by rw [nm_whole, if_pos hm.symm])

set_option maxRecDepth 100000 in
set_option maxHeartbeats 4000000 in
theorem c_M_partAt {G : XG} {q : Nat → Nat} {x : Nat → Int32} {f : Nat → Nat → Int32} {kl : va_W} {len ln : Nat} {st : Nat → Nat} {B : Nat → Int32} (ht : mtx x f len ln st B) {a e : Nat} (ha : a ≤ len) (he : e ≤ len) : MR G m_M_partAt (xr 2 0 0) [.ref (q 0), .int (nI a), .int (nI e)] (wM G q x f kl) (some (.int (nI (mp B e a)))) := by
  obtain ⟨hx0, hl0, hln, hst, hse, hB⟩ := id ht
  have z1 := sk_le2 (p := pb_dig B) ha he
  refine MR.of rfl (xn_le rfl) ?_
  refine (?_ : XR G m_M_partAt (xr 2 0 0) (xr_F (some (.int (nI (mp B e a))))) (wM G q x f kl) 0 [(0, .ref (q 0)), (1, .int (nI a)), (2, .int (nI e))] [])
  refine XR.aload_n dd_M_partAt_0 rfl 0 rfl ?_
  refine XR.iload_n dd_M_partAt_1 rfl 1 rfl ?_
  refine XR.iload_n dd_M_partAt_2 rfl 2 rfl ?_
  refine XR.callV (Mk := m_M_behindDigits) (n := 2) (As := [.int (nI a), .int (nI e)]) (rest := []) (q0 := 0) (ci := 9) (c_M_behindDigits ht (a := a) (e := e) (by omega) (by omega)) mt_M_behindDigits mi_M_behindDigits ml_M_150 rfl dd_M_partAt_3 (rfl) rfl rfl ⟨xn_le rfl, xn_le rfl⟩ (xn_le rfl) rfl ?_
  refine XR.istore_n (lv2 := [(3, .int (nI (sk (pb_dig B) e a))), (0, .ref (q 0)), (1, .int (nI a)), (2, .int (nI e))]) dd_M_partAt_6 rfl (by decide) rfl ?_
  refine XR.iload_n dd_M_partAt_7 rfl 0 rfl ?_
  refine XR.iload_n dd_M_partAt_8 rfl 3 rfl ?_
  refine XR.ncmp_ge (tgt := 29) dd_M_partAt_9 (by decide) (by omega) (by omega) (fun h9 => ?_) (fun h9 => ?_)
  ·
    refine XR.iload_n dd_M_partAt_29 rfl 3 rfl ?_
    refine XR.tp (y := nI (mp B e a)) (by rw [mp, if_neg (by rintro ⟨z1, z2⟩; first | omega | exact h20 z2)]) ?_
    exact XR.iret dd_M_partAt_30 rfl
  ·
    refine XR.aload_n dd_M_partAt_12 rfl 1 rfl ?_
    refine XR.get (q0 := 0) (v := .ref (q 1)) fl_M_7 dd_M_partAt_13 rfl rfl ?_
    refine XR.iload_n dd_M_partAt_16 rfl 0 rfl ?_
    refine XR.bald (q0 := 1) (n := 20000) (j := sk (pb_dig B) e a) (f := f 0) dd_M_partAt_17 rfl (by omega) (by decide) ?_
    refine XR.tp (y := B (sk (pb_dig B) e a)) (hB _ (by omega)) ?_
    refine XR.bipush (v := nI 46) dd_M_partAt_18 (by decide) ?_
    refine XR.icmp_ne (tgt := 29) dd_M_partAt_20 (by decide) (fun h20 => ?_) (fun h20 => ?_)
    ·
      refine XR.iload_n dd_M_partAt_29 rfl 3 rfl ?_
      refine XR.tp (y := nI (mp B e a)) (by rw [mp, if_neg (by rintro ⟨z1, z2⟩; first | omega | exact h20 z2)]) ?_
      exact XR.iret dd_M_partAt_30 rfl
    ·
      refine XR.iload_n dd_M_partAt_23 rfl 0 rfl ?_
      refine XR.iconst (v := nI 1) dd_M_partAt_24 (by decide) ?_
      refine XR.iadd dd_M_partAt_25 ?_
      refine XR.tp (y := nI (sk (pb_dig B) e a + 1)) (nI_add _ _) ?_
      refine XR.goto (tgt := 30) dd_M_partAt_26 (by decide) ?_
      refine XR.tp (y := nI (mp B e a)) (by rw [mp, if_pos ⟨by omega, h20⟩]) ?_
      exact XR.iret dd_M_partAt_30 rfl

def mz (B : Nat → Int32) (e a : Nat) : Bool := !md B e a && allz (dl B e (mp B e a))
def ms_g (B : Nat → Int32) (e a : Nat) : Int32 := if mz B e (nm_whole B e a) = true then nI 0 else if nm_min B e a = true then -1 else nI 1
set_option maxRecDepth 100000 in
set_option maxHeartbeats 4000000 in
theorem c_M_isZero {G : XG} {q : Nat → Nat} {x : Nat → Int32} {f : Nat → Nat → Int32} {kl : va_W} {len ln : Nat} {st : Nat → Nat} {B : Nat → Int32} (ht : mtx x f len ln st B) {a e : Nat} (ha : a ≤ len) (he : e ≤ len) : MR G m_M_isZero (xr 3 0 0) [.ref (q 0), .int (nI a), .int (nI e)] (wM G q x f kl) (some (.int (bI (mz B e a)))) := by
  obtain ⟨hx0, hl0, hln, hst, hse, hB⟩ := id ht
  have z1 := mp_le (B := B) (w := a) he
  refine MR.of rfl (xn_le rfl) ?_
  refine (?_ : XR G m_M_isZero (xr 3 0 0) (xr_F (some (.int (bI (mz B e a))))) (wM G q x f kl) 0 [(0, .ref (q 0)), (1, .int (nI a)), (2, .int (nI e))] [])
  have loop : md B e a = false → ∀ (kk i : Nat), e - i = kk → i ≤ len → allz (dl B e i) = allz (dl B e (mp B e a)) → XR G m_M_isZero (xr 3 0 0) (xr_F (some (.int (bI (mz B e a))))) (wM G q x f kl) 18 [(0, .ref (q 0)), (1, .int (nI a)), (2, .int (nI e)), (3, .int (nI i))] [] := by
    intro hd0 kk
    induction kk using Nat.strongRecOn with
    | _ kk ih =>
      intro i hk hi hr
      refine XR.aload_n dd_M_isZero_18 rfl 0 rfl ?_
      refine XR.iload_n dd_M_isZero_19 rfl 3 rfl ?_
      refine XR.iload_n dd_M_isZero_20 rfl 2 rfl ?_
      refine XR.callV (Mk := m_M_isDigit) (n := 2) (As := [.int (nI i), .int (nI e)]) (rest := []) (q0 := 0) (ci := 9) (c_M_isDigit ht (i := i) (e := e) (by omega) (by omega)) mt_M_isDigit mi_M_isDigit ml_M_147 rfl dd_M_isZero_21 (rfl) rfl rfl ⟨xn_le rfl, xn_le rfl⟩ (xn_le rfl) rfl ?_
      refine XR.bif_eq (tgt := 46) dd_M_isZero_24 (by decide) (fun h24 => ?_) (fun h24 => ?_)
      ·
        refine XR.iconst (v := nI 1) dd_M_isZero_46 (by decide) ?_
        refine XR.tp (y := bI (mz B e a)) (by rw [mz, hd0, ← hr, dl_f h24]; simp [allz, bI]) ?_
        exact XR.zret dd_M_isZero_47 rfl (bI_nar _)
      ·
        have hlt := md_lt h24
        refine XR.aload_n dd_M_isZero_27 rfl 0 rfl ?_
        refine XR.get (q0 := 0) (v := .ref (q 1)) fl_M_7 dd_M_isZero_28 rfl rfl ?_
        refine XR.iload_n dd_M_isZero_31 rfl 3 rfl ?_
        refine XR.bald (q0 := 1) (n := 20000) (j := i) (f := f 0) dd_M_isZero_32 rfl (by omega) (by decide) ?_
        refine XR.tp (y := B i) (hB _ (by omega)) ?_
        refine XR.bipush (v := nI 48) dd_M_isZero_33 (by decide) ?_
        refine XR.icmp_eq (tgt := 40) dd_M_isZero_35 (by decide) (fun h35 => ?_) (fun h35 => ?_)
        ·
          refine XR.iinc (z := 3) (v := nI (i + 1)) (lv2 := [(3, .int (nI (i + 1))), (0, .ref (q 0)), (1, .int (nI a)), (2, .int (nI e))]) dd_M_isZero_40 rfl ((nI_succ _).symm) (by decide) rfl ?_
          refine XR.goto (tgt := 18) dd_M_isZero_43 (by decide) ?_
          refine XR.lvs [1, 2, 3, 0] rfl ?_
          exact ih _ (by omega) (i + 1) rfl (by omega) (by rw [← hr, dl_t h24]; simp [allz, h35])
        ·
          refine XR.iconst (v := nI 0) dd_M_isZero_38 (by decide) ?_
          refine XR.tp (y := bI (mz B e a)) (by rw [mz, hd0, ← hr, dl_t h24]; simp [allz, h35, bI]) ?_
          exact XR.zret dd_M_isZero_39 rfl (bI_nar _)
  refine XR.aload_n dd_M_isZero_0 rfl 0 rfl ?_
  refine XR.iload_n dd_M_isZero_1 rfl 1 rfl ?_
  refine XR.iload_n dd_M_isZero_2 rfl 2 rfl ?_
  refine XR.callV (Mk := m_M_isDigit) (n := 2) (As := [.int (nI a), .int (nI e)]) (rest := []) (q0 := 0) (ci := 9) (c_M_isDigit ht (i := a) (e := e) (by omega) (by omega)) mt_M_isDigit mi_M_isDigit ml_M_147 rfl dd_M_isZero_3 (rfl) rfl rfl ⟨xn_le rfl, xn_le rfl⟩ (xn_le rfl) rfl ?_
  refine XR.bif_eq (tgt := 11) dd_M_isZero_6 (by decide) (fun h6 => ?_) (fun h6 => ?_)
  ·
    refine XR.aload_n dd_M_isZero_11 rfl 0 rfl ?_
    refine XR.iload_n dd_M_isZero_12 rfl 1 rfl ?_
    refine XR.iload_n dd_M_isZero_13 rfl 2 rfl ?_
    refine XR.callV (Mk := m_M_partAt) (n := 2) (As := [.int (nI a), .int (nI e)]) (rest := []) (q0 := 0) (ci := 9) (c_M_partAt ht (a := a) (e := e) (by omega) (by omega)) mt_M_partAt mi_M_partAt ml_M_153 rfl dd_M_isZero_14 (rfl) rfl rfl ⟨xn_le rfl, xn_le rfl⟩ (xn_le rfl) rfl ?_
    refine XR.istore_n (lv2 := [(3, .int (nI (mp B e a))), (0, .ref (q 0)), (1, .int (nI a)), (2, .int (nI e))]) dd_M_isZero_17 rfl (by decide) rfl ?_
    refine XR.lvs [1, 2, 3, 0] rfl ?_
    exact loop h6 _ _ rfl (by omega) rfl
  ·
    refine XR.iconst (v := nI 0) dd_M_isZero_9 (by decide) ?_
    refine XR.tp (y := bI (mz B e a)) (by rw [mz, h6]; rfl) ?_
    exact XR.zret dd_M_isZero_10 rfl (bI_nar _)

set_option maxRecDepth 100000 in
set_option maxHeartbeats 4000000 in
theorem c_M_sign {G : XG} {q : Nat → Nat} {x : Nat → Int32} {f : Nat → Nat → Int32} {kl : va_W} {len ln : Nat} {st : Nat → Nat} {B : Nat → Int32} (ht : mtx x f len ln st B) (hby : bfit B len) {a e : Nat} (ha : a ≤ len) (he : e ≤ len) : MR G m_M_sign (xr 4 0 0) [.ref (q 0), .int (nI a), .int (nI e)] (wM G q x f kl) (some (.int (ms_g B e a))) := by
  obtain ⟨hx0, hl0, hln, hst, hse, hB⟩ := id ht
  have z1 := nm_whole_le (B := B) ha he
  have z2 := nm_a_le (B := B) ha he
  have hm := mm_nm (a := a) hby he
  refine MR.of rfl (xn_le rfl) ?_
  refine (?_ : XR G m_M_sign (xr 4 0 0) (xr_F (some (.int (ms_g B e a)))) (wM G q x f kl) 0 [(0, .ref (q 0)), (1, .int (nI a)), (2, .int (nI e))] [])
  refine XR.aload_n dd_M_sign_0 rfl 0 rfl ?_
  refine XR.aload_n dd_M_sign_1 rfl 0 rfl ?_
  refine XR.iload_n dd_M_sign_2 rfl 1 rfl ?_
  refine XR.iload_n dd_M_sign_3 rfl 2 rfl ?_
  refine XR.callV (Mk := m_M_wholeAt) (n := 2) (As := [.int (nI a), .int (nI e)]) (rest := [.ref (q 0)]) (q0 := 0) (ci := 9) (c_M_wholeAt ht hby (a := a) (e := e) (by omega) (by omega)) mt_M_wholeAt mi_M_wholeAt ml_M_156 rfl dd_M_sign_4 (rfl) rfl rfl ⟨xn_le rfl, xn_le rfl⟩ (xn_le rfl) rfl ?_
  refine XR.iload_n dd_M_sign_7 rfl 2 rfl ?_
  refine XR.callV (Mk := m_M_isZero) (n := 2) (As := [.int (nI (nm_whole B e a)), .int (nI e)]) (rest := []) (q0 := 0) (ci := 9) (c_M_isZero ht (a := nm_whole B e a) (e := e) (by omega) (by omega)) mt_M_isZero mi_M_isZero ml_M_159 rfl dd_M_sign_8 (rfl) rfl rfl ⟨xn_le rfl, xn_le rfl⟩ (xn_le rfl) rfl ?_
  refine XR.bif_eq (tgt := 16) dd_M_sign_11 (by decide) (fun h11 => ?_) (fun h11 => ?_)
  ·
    refine XR.aload_n dd_M_sign_16 rfl 0 rfl ?_
    refine XR.aload_n dd_M_sign_17 rfl 0 rfl ?_
    refine XR.iload_n dd_M_sign_18 rfl 1 rfl ?_
    refine XR.iload_n dd_M_sign_19 rfl 2 rfl ?_
    refine XR.callV (Mk := m_M_behindBlanks) (n := 2) (As := [.int (nI a), .int (nI e)]) (rest := [.ref (q 0)]) (q0 := 0) (ci := 9) (c_M_behindBlanks ht (a := a) (e := e) (by omega) (by omega)) mt_M_behindBlanks mi_M_behindBlanks ml_M_141 rfl dd_M_sign_20 (rfl) rfl rfl ⟨xn_le rfl, xn_le rfl⟩ (xn_le rfl) rfl ?_
    refine XR.iload_n dd_M_sign_23 rfl 2 rfl ?_
    refine XR.callV (Mk := m_M_isMinus) (n := 2) (As := [.int (nI (sk (pb_blk B) e a)), .int (nI e)]) (rest := []) (q0 := 0) (ci := 9) (c_M_isMinus ht (i := sk (pb_blk B) e a) (e := e) (by omega) (by omega)) mt_M_isMinus mi_M_isMinus ml_M_144 rfl dd_M_sign_24 (rfl) rfl rfl ⟨xn_le rfl, xn_le rfl⟩ (xn_le rfl) rfl ?_
    refine XR.bif_eq (tgt := 34) dd_M_sign_27 (by decide) (fun h27 => ?_) (fun h27 => ?_)
    ·
      refine XR.iconst (v := nI 1) dd_M_sign_34 (by decide) ?_
      refine XR.tp (y := ms_g B e a) (by rw [hm] at h27; rw [ms_g, if_neg (by rw [h11]; decide)]; simp [h27]) ?_
      exact XR.iret dd_M_sign_35 rfl
    ·
      refine XR.iconst (v := -1) dd_M_sign_30 (by decide) ?_
      refine XR.goto (tgt := 35) dd_M_sign_31 (by decide) ?_
      refine XR.tp (y := ms_g B e a) (by rw [hm] at h27; rw [ms_g, if_neg (by rw [h11]; decide)]; simp [h27]) ?_
      exact XR.iret dd_M_sign_35 rfl
  ·
    refine XR.iconst (v := nI 0) dd_M_sign_14 (by decide) ?_
    refine XR.tp (y := ms_g B e a) (by rw [ms_g, if_pos h11]) ?_
    exact XR.iret dd_M_sign_15 rfl

set_option maxRecDepth 100000 in
set_option maxHeartbeats 4000000 in
theorem c_M_sizes {G : XG} {q : Nat → Nat} {x : Nat → Int32} {f : Nat → Nat → Int32} {kl : va_W} {len ln : Nat} {st : Nat → Nat} {B : Nat → Int32} (ht : mtx x f len ln st B) {a a2 b b2 : Nat} (ha : a ≤ len) (ha2 : a2 ≤ len) (hb : b ≤ len) (hb2 : b2 ≤ len) : MR G m_M_sizes (xr 3 0 0) [.ref (q 0), .int (nI a), .int (nI a2), .int (nI b), .int (nI b2)] (wM G q x f kl) (some (.int (oI (msz B a a2 b b2)))) := by
  obtain ⟨hx0, hl0, hln, hst, hse, hB⟩ := id ht
  have z1 := sk_le2 (p := pb_dig B) ha ha2
  have z2 := sk_le2 (p := pb_dig B) hb hb2
  have z3 := sk_ge (pb_dig B) a2 a
  have z4 := sk_ge (pb_dig B) b2 b
  have z5 := mp_le (B := B) (w := a) ha2
  have z6 := mp_le (B := B) (w := b) hb2
  refine MR.of rfl (xn_le rfl) ?_
  refine (?_ : XR G m_M_sizes (xr 3 0 0) (xr_F (some (.int (oI (msz B a a2 b b2))))) (wM G q x f kl) 0 [(0, .ref (q 0)), (1, .int (nI a)), (2, .int (nI a2)), (3, .int (nI b)), (4, .int (nI b2))] [])
  have loop2 : (sk (pb_dig B) a2 a - a) = (sk (pb_dig B) b2 b - b) → lx (rl B (sk (pb_dig B) a2 a - a) a) (rl B (sk (pb_dig B) a2 a - a) b) = .eq → ∀ (kk i j : Nat), (a2 - i) + (b2 - j) = kk → i ≤ len → j ≤ len → pz (dl B a2 i) (dl B b2 j) = pz (dl B a2 (mp B a2 a)) (dl B b2 (mp B b2 b)) → XR G m_M_sizes (xr 3 0 0) (xr_F (some (.int (oI (msz B a a2 b b2))))) (wM G q x f kl) 122 [(0, .ref (q 0)), (1, .int (nI a)), (2, .int (nI a2)), (3, .int (nI b)), (4, .int (nI b2)), (5, .int (nI (sk (pb_dig B) a2 a - a))), (6, .int (nI (sk (pb_dig B) b2 b - b))), (7, .int (nI i)), (8, .int (nI j))] [] := by
    intro hn hw kk
    induction kk using Nat.strongRecOn with
    | _ kk ih =>
      intro i j hk hi hj hr
      have hR : msz B a a2 b b2 = pz (dl B a2 i) (dl B b2 j) := by rw [msz, on_eq hn, hw, hr]; rfl
      have j143 : (md B a2 i = true ∨ md B b2 j = true) → XR G m_M_sizes (xr 3 0 0) (xr_F (some (.int (oI (msz B a a2 b b2))))) (wM G q x f kl) 143 [(0, .ref (q 0)), (1, .int (nI a)), (2, .int (nI a2)), (3, .int (nI b)), (4, .int (nI b2)), (5, .int (nI (sk (pb_dig B) a2 a - a))), (6, .int (nI (sk (pb_dig B) b2 b - b))), (7, .int (nI i)), (8, .int (nI j))] [] := by
        intro ho
        have hia : md B a2 i = true → i < a2 := md_lt
        have hjb : md B b2 j = true → j < b2 := md_lt
        have hstep : pz (dl B a2 i) (dl B b2 j) = (oi (if md B a2 i = true then B i else nI 48) (if md B b2 j = true then B j else nI 48)).then (pz (dl B a2 (if md B a2 i = true then i + 1 else i)) (dl B b2 (if md B b2 j = true then j + 1 else j))) := by
          cases h1 : md B a2 i with
          | true =>
            cases h2 : md B b2 j with
            | true => rw [dl_t h1, dl_t h2]; simp [pz]
            | false => rw [dl_t h1, dl_f h2]; simp [pz, dl_f h2]
          | false =>
            cases h2 : md B b2 j with
            | true => rw [dl_f h1, dl_t h2]; simp [pz, dl_f h1]
            | false => rcases ho with z | z
                       · rw [h1] at z; cases z
                       · rw [h2] at z; cases z
        have j165 : XR G m_M_sizes (xr 3 0 0) (xr_F (some (.int (oI (msz B a a2 b b2))))) (wM G q x f kl) 165 [(0, .ref (q 0)), (1, .int (nI a)), (2, .int (nI a2)), (3, .int (nI b)), (4, .int (nI b2)), (5, .int (nI (sk (pb_dig B) a2 a - a))), (6, .int (nI (sk (pb_dig B) b2 b - b))), (7, .int (nI i)), (8, .int (nI j))] [.int (if md B a2 i = true then B i else nI 48)] := by
          refine XR.istore (lv2 := [(9, .int (if md B a2 i = true then B i else nI 48)), (0, .ref (q 0)), (1, .int (nI a)), (2, .int (nI a2)), (3, .int (nI b)), (4, .int (nI b2)), (5, .int (nI (sk (pb_dig B) a2 a - a))), (6, .int (nI (sk (pb_dig B) b2 b - b))), (7, .int (nI i)), (8, .int (nI j))]) dd_M_sizes_165 (by decide) rfl ?_
          have j190 : XR G m_M_sizes (xr 3 0 0) (xr_F (some (.int (oI (msz B a a2 b b2))))) (wM G q x f kl) 190 [(9, .int (if md B a2 i = true then B i else nI 48)), (0, .ref (q 0)), (1, .int (nI a)), (2, .int (nI a2)), (3, .int (nI b)), (4, .int (nI b2)), (5, .int (nI (sk (pb_dig B) a2 a - a))), (6, .int (nI (sk (pb_dig B) b2 b - b))), (7, .int (nI i)), (8, .int (nI j))] [.int (if md B b2 j = true then B j else nI 48)] := by
            refine XR.istore (lv2 := [(10, .int (if md B b2 j = true then B j else nI 48)), (9, .int (if md B a2 i = true then B i else nI 48)), (0, .ref (q 0)), (1, .int (nI a)), (2, .int (nI a2)), (3, .int (nI b)), (4, .int (nI b2)), (5, .int (nI (sk (pb_dig B) a2 a - a))), (6, .int (nI (sk (pb_dig B) b2 b - b))), (7, .int (nI i)), (8, .int (nI j))]) dd_M_sizes_190 (by decide) rfl ?_
            refine XR.iload dd_M_sizes_192 1 rfl ?_
            refine XR.iload dd_M_sizes_194 0 rfl ?_
            refine XR.icmp_eq (tgt := 212) dd_M_sizes_196 (by decide) (fun h196 => ?_) (fun h196 => ?_)
            ·
              have j230 : XR G m_M_sizes (xr 3 0 0) (xr_F (some (.int (oI (msz B a a2 b b2))))) (wM G q x f kl) 230 [(10, .int (if md B b2 j = true then B j else nI 48)), (9, .int (if md B a2 i = true then B i else nI 48)), (0, .ref (q 0)), (1, .int (nI a)), (2, .int (nI a2)), (3, .int (nI b)), (4, .int (nI b2)), (5, .int (nI (sk (pb_dig B) a2 a - a))), (6, .int (nI (sk (pb_dig B) b2 b - b))), (7, .int (nI i)), (8, .int (nI j))] [.int (nI (if md B a2 i = true then i + 1 else i))] := by
                refine XR.istore (lv2 := [(7, .int (nI (if md B a2 i = true then i + 1 else i))), (10, .int (if md B b2 j = true then B j else nI 48)), (9, .int (if md B a2 i = true then B i else nI 48)), (0, .ref (q 0)), (1, .int (nI a)), (2, .int (nI a2)), (3, .int (nI b)), (4, .int (nI b2)), (5, .int (nI (sk (pb_dig B) a2 a - a))), (6, .int (nI (sk (pb_dig B) b2 b - b))), (8, .int (nI j))]) dd_M_sizes_230 (by decide) rfl ?_
                have j251 : XR G m_M_sizes (xr 3 0 0) (xr_F (some (.int (oI (msz B a a2 b b2))))) (wM G q x f kl) 251 [(7, .int (nI (if md B a2 i = true then i + 1 else i))), (10, .int (if md B b2 j = true then B j else nI 48)), (9, .int (if md B a2 i = true then B i else nI 48)), (0, .ref (q 0)), (1, .int (nI a)), (2, .int (nI a2)), (3, .int (nI b)), (4, .int (nI b2)), (5, .int (nI (sk (pb_dig B) a2 a - a))), (6, .int (nI (sk (pb_dig B) b2 b - b))), (8, .int (nI j))] [.int (nI (if md B b2 j = true then j + 1 else j))] := by
                  refine XR.istore (lv2 := [(8, .int (nI (if md B b2 j = true then j + 1 else j))), (7, .int (nI (if md B a2 i = true then i + 1 else i))), (10, .int (if md B b2 j = true then B j else nI 48)), (9, .int (if md B a2 i = true then B i else nI 48)), (0, .ref (q 0)), (1, .int (nI a)), (2, .int (nI a2)), (3, .int (nI b)), (4, .int (nI b2)), (5, .int (nI (sk (pb_dig B) a2 a - a))), (6, .int (nI (sk (pb_dig B) b2 b - b)))]) dd_M_sizes_251 (by decide) rfl ?_
                  refine XR.goto (tgt := 122) dd_M_sizes_253 (by decide) ?_
                  refine XR.lvs [4, 5, 6, 7, 8, 9, 10, 1, 0] rfl ?_
                  exact ih _ (by rcases ho with z | z; (have := hia z; rw [if_pos z]; split <;> omega); (have := hjb z; rw [if_pos z]; split <;> omega)) _ _ rfl (by split <;> first | omega | (have := hia (by assumption); omega)) (by split <;> first | omega | (have := hjb (by assumption); omega)) (by rw [← hr, hstep, oi_eq h196]; rfl)
                refine XR.iload dd_M_sizes_232 10 rfl ?_
                refine XR.aload_n dd_M_sizes_234 rfl 3 rfl ?_
                refine XR.iload dd_M_sizes_235 10 rfl ?_
                refine XR.iload dd_M_sizes_237 7 rfl ?_
                refine XR.callV (Mk := m_M_isDigit) (n := 2) (As := [.int (nI j), .int (nI b2)]) (rest := [.int (nI j)]) (q0 := 0) (ci := 9) (c_M_isDigit ht (i := j) (e := b2) (by omega) (by omega)) mt_M_isDigit mi_M_isDigit ml_M_147 rfl dd_M_sizes_239 (rfl) rfl rfl ⟨xn_le rfl, xn_le rfl⟩ (xn_le rfl) rfl ?_
                refine XR.bif_eq (tgt := 249) dd_M_sizes_242 (by decide) (fun h242 => ?_) (fun h242 => ?_)
                ·
                  refine XR.iconst (v := nI 0) dd_M_sizes_249 (by decide) ?_
                  refine XR.iadd dd_M_sizes_250 ?_
                  refine XR.tp (y := nI j) (nI_add _ _) ?_
                  exact XR.tp (by simp [h242]) j251
                ·
                  refine XR.iconst (v := nI 1) dd_M_sizes_245 (by decide) ?_
                  refine XR.goto (tgt := 250) dd_M_sizes_246 (by decide) ?_
                  refine XR.iadd dd_M_sizes_250 ?_
                  refine XR.tp (y := nI (j + 1)) (nI_add _ _) ?_
                  exact XR.tp (by simp [h242]) j251
              refine XR.iload dd_M_sizes_212 9 rfl ?_
              refine XR.aload_n dd_M_sizes_214 rfl 2 rfl ?_
              refine XR.iload dd_M_sizes_215 9 rfl ?_
              refine XR.iload_n dd_M_sizes_217 rfl 4 rfl ?_
              refine XR.callV (Mk := m_M_isDigit) (n := 2) (As := [.int (nI i), .int (nI a2)]) (rest := [.int (nI i)]) (q0 := 0) (ci := 9) (c_M_isDigit ht (i := i) (e := a2) (by omega) (by omega)) mt_M_isDigit mi_M_isDigit ml_M_147 rfl dd_M_sizes_218 (rfl) rfl rfl ⟨xn_le rfl, xn_le rfl⟩ (xn_le rfl) rfl ?_
              refine XR.bif_eq (tgt := 228) dd_M_sizes_221 (by decide) (fun h221 => ?_) (fun h221 => ?_)
              ·
                refine XR.iconst (v := nI 0) dd_M_sizes_228 (by decide) ?_
                refine XR.iadd dd_M_sizes_229 ?_
                refine XR.tp (y := nI i) (nI_add _ _) ?_
                exact XR.tp (by simp [h221]) j230
              ·
                refine XR.iconst (v := nI 1) dd_M_sizes_224 (by decide) ?_
                refine XR.goto (tgt := 229) dd_M_sizes_225 (by decide) ?_
                refine XR.iadd dd_M_sizes_229 ?_
                refine XR.tp (y := nI (i + 1)) (nI_add _ _) ?_
                exact XR.tp (by simp [h221]) j230
            ·
              refine XR.iload dd_M_sizes_199 1 rfl ?_
              refine XR.iload dd_M_sizes_201 0 rfl ?_
              refine XR.icmp_ge (tgt := 210) dd_M_sizes_203 (by decide) (fun h203 => ?_) (fun h203 => ?_)
              ·
                refine XR.iconst (v := nI 1) dd_M_sizes_210 (by decide) ?_
                refine XR.tp (y := oI (msz B a a2 b b2)) (by rw [hR, hstep, then_ne (oi_ne h196), oi_ge h196 h203]) ?_
                exact XR.iret dd_M_sizes_211 rfl
              ·
                refine XR.iconst (v := -1) dd_M_sizes_206 (by decide) ?_
                refine XR.goto (tgt := 211) dd_M_sizes_207 (by decide) ?_
                refine XR.tp (y := oI (msz B a a2 b b2)) (by rw [hR, hstep, then_ne (oi_ne h196), oi_lt h203]) ?_
                exact XR.iret dd_M_sizes_211 rfl
          refine XR.aload_n dd_M_sizes_167 rfl 1 rfl ?_
          refine XR.iload dd_M_sizes_168 9 rfl ?_
          refine XR.iload dd_M_sizes_170 5 rfl ?_
          refine XR.callV (Mk := m_M_isDigit) (n := 2) (As := [.int (nI j), .int (nI b2)]) (rest := []) (q0 := 0) (ci := 9) (c_M_isDigit ht (i := j) (e := b2) (by omega) (by omega)) mt_M_isDigit mi_M_isDigit ml_M_147 rfl dd_M_sizes_172 (rfl) rfl rfl ⟨xn_le rfl, xn_le rfl⟩ (xn_le rfl) rfl ?_
          refine XR.bif_eq (tgt := 188) dd_M_sizes_175 (by decide) (fun h175 => ?_) (fun h175 => ?_)
          ·
            refine XR.bipush (v := nI 48) dd_M_sizes_188 (by decide) ?_
            exact XR.tp (by simp [h175]) j190
          ·
            refine XR.aload_n dd_M_sizes_178 rfl 1 rfl ?_
            refine XR.get (q0 := 0) (v := .ref (q 1)) fl_M_7 dd_M_sizes_179 rfl rfl ?_
            refine XR.iload dd_M_sizes_182 9 rfl ?_
            have hlt := hjb h175
            refine XR.bald (q0 := 1) (n := 20000) (j := j) (f := f 0) dd_M_sizes_184 rfl (by omega) (by decide) ?_
            refine XR.tp (y := B j) (hB _ (by omega)) ?_
            refine XR.goto (tgt := 190) dd_M_sizes_185 (by decide) ?_
            exact XR.tp (by simp [h175]) j190
        refine XR.aload_n dd_M_sizes_143 rfl 0 rfl ?_
        refine XR.iload dd_M_sizes_144 7 rfl ?_
        refine XR.iload_n dd_M_sizes_146 rfl 2 rfl ?_
        refine XR.callV (Mk := m_M_isDigit) (n := 2) (As := [.int (nI i), .int (nI a2)]) (rest := []) (q0 := 0) (ci := 9) (c_M_isDigit ht (i := i) (e := a2) (by omega) (by omega)) mt_M_isDigit mi_M_isDigit ml_M_147 rfl dd_M_sizes_147 (rfl) rfl rfl ⟨xn_le rfl, xn_le rfl⟩ (xn_le rfl) rfl ?_
        refine XR.bif_eq (tgt := 163) dd_M_sizes_150 (by decide) (fun h150 => ?_) (fun h150 => ?_)
        ·
          refine XR.bipush (v := nI 48) dd_M_sizes_163 (by decide) ?_
          exact XR.tp (by simp [h150]) j165
        ·
          refine XR.aload_n dd_M_sizes_153 rfl 0 rfl ?_
          refine XR.get (q0 := 0) (v := .ref (q 1)) fl_M_7 dd_M_sizes_154 rfl rfl ?_
          refine XR.iload dd_M_sizes_157 7 rfl ?_
          have hlt := hia h150
          refine XR.bald (q0 := 1) (n := 20000) (j := i) (f := f 0) dd_M_sizes_159 rfl (by omega) (by decide) ?_
          refine XR.tp (y := B i) (hB _ (by omega)) ?_
          refine XR.goto (tgt := 165) dd_M_sizes_160 (by decide) ?_
          exact XR.tp (by simp [h150]) j165
      refine XR.aload_n dd_M_sizes_122 rfl 0 rfl ?_
      refine XR.iload dd_M_sizes_123 7 rfl ?_
      refine XR.iload_n dd_M_sizes_125 rfl 2 rfl ?_
      refine XR.callV (Mk := m_M_isDigit) (n := 2) (As := [.int (nI i), .int (nI a2)]) (rest := []) (q0 := 0) (ci := 9) (c_M_isDigit ht (i := i) (e := a2) (by omega) (by omega)) mt_M_isDigit mi_M_isDigit ml_M_147 rfl dd_M_sizes_126 (rfl) rfl rfl ⟨xn_le rfl, xn_le rfl⟩ (xn_le rfl) rfl ?_
      refine XR.bif_ne (tgt := 143) dd_M_sizes_129 (by decide) (fun h129 => ?_) (fun h129 => ?_)
      ·
        exact j143 (Or.inl h129)
      ·
        refine XR.aload_n dd_M_sizes_132 rfl 0 rfl ?_
        refine XR.iload dd_M_sizes_133 8 rfl ?_
        refine XR.iload dd_M_sizes_135 4 rfl ?_
        refine XR.callV (Mk := m_M_isDigit) (n := 2) (As := [.int (nI j), .int (nI b2)]) (rest := []) (q0 := 0) (ci := 9) (c_M_isDigit ht (i := j) (e := b2) (by omega) (by omega)) mt_M_isDigit mi_M_isDigit ml_M_147 rfl dd_M_sizes_137 (rfl) rfl rfl ⟨xn_le rfl, xn_le rfl⟩ (xn_le rfl) rfl ?_
        refine XR.bif_eq (tgt := 256) dd_M_sizes_140 (by decide) (fun h140 => ?_) (fun h140 => ?_)
        ·
          refine XR.iconst (v := nI 0) dd_M_sizes_256 (by decide) ?_
          refine XR.tp (y := oI (msz B a a2 b b2)) (by rw [hR, dl_f h129, dl_f h140, pz]; rfl) ?_
          exact XR.iret dd_M_sizes_257 rfl
        ·
          exact j143 (Or.inr h140)
  have loop1 : (sk (pb_dig B) a2 a - a) = (sk (pb_dig B) b2 b - b) → ∀ (kk k : Nat), (sk (pb_dig B) a2 a - a) - k = kk → k ≤ (sk (pb_dig B) a2 a - a) → lx (rl B (sk (pb_dig B) a2 a - a - k) (a + k)) (rl B (sk (pb_dig B) a2 a - a - k) (b + k)) = lx (rl B (sk (pb_dig B) a2 a - a) a) (rl B (sk (pb_dig B) a2 a - a) b) → XR G m_M_sizes (xr 3 0 0) (xr_F (some (.int (oI (msz B a a2 b b2))))) (wM G q x f kl) 44 [(0, .ref (q 0)), (1, .int (nI a)), (2, .int (nI a2)), (3, .int (nI b)), (4, .int (nI b2)), (5, .int (nI (sk (pb_dig B) a2 a - a))), (6, .int (nI (sk (pb_dig B) b2 b - b))), (7, .int (nI k))] [] := by
    intro hn kk
    induction kk using Nat.strongRecOn with
    | _ kk ih =>
      intro k hk hk2 hr
      refine XR.iload dd_M_sizes_44 7 rfl ?_
      refine XR.iload dd_M_sizes_46 5 rfl ?_
      refine XR.ncmp_ge (tgt := 105) dd_M_sizes_48 (by decide) (by omega) (by omega) (fun h48 => ?_) (fun h48 => ?_)
      ·
        refine XR.aload_n dd_M_sizes_105 rfl 0 rfl ?_
        refine XR.iload_n dd_M_sizes_106 rfl 1 rfl ?_
        refine XR.iload_n dd_M_sizes_107 rfl 2 rfl ?_
        refine XR.callV (Mk := m_M_partAt) (n := 2) (As := [.int (nI a), .int (nI a2)]) (rest := []) (q0 := 0) (ci := 9) (c_M_partAt ht (a := a) (e := a2) (by omega) (by omega)) mt_M_partAt mi_M_partAt ml_M_153 rfl dd_M_sizes_108 (rfl) rfl rfl ⟨xn_le rfl, xn_le rfl⟩ (xn_le rfl) rfl ?_
        refine XR.istore (lv2 := [(7, .int (nI (mp B a2 a))), (0, .ref (q 0)), (1, .int (nI a)), (2, .int (nI a2)), (3, .int (nI b)), (4, .int (nI b2)), (5, .int (nI (sk (pb_dig B) a2 a - a))), (6, .int (nI (sk (pb_dig B) b2 b - b)))]) dd_M_sizes_111 (by decide) rfl ?_
        refine XR.aload_n dd_M_sizes_113 rfl 1 rfl ?_
        refine XR.iload_n dd_M_sizes_114 rfl 4 rfl ?_
        refine XR.iload dd_M_sizes_115 5 rfl ?_
        refine XR.callV (Mk := m_M_partAt) (n := 2) (As := [.int (nI b), .int (nI b2)]) (rest := []) (q0 := 0) (ci := 9) (c_M_partAt ht (a := b) (e := b2) (by omega) (by omega)) mt_M_partAt mi_M_partAt ml_M_153 rfl dd_M_sizes_117 (rfl) rfl rfl ⟨xn_le rfl, xn_le rfl⟩ (xn_le rfl) rfl ?_
        refine XR.istore (lv2 := [(8, .int (nI (mp B b2 b))), (7, .int (nI (mp B a2 a))), (0, .ref (q 0)), (1, .int (nI a)), (2, .int (nI a2)), (3, .int (nI b)), (4, .int (nI b2)), (5, .int (nI (sk (pb_dig B) a2 a - a))), (6, .int (nI (sk (pb_dig B) b2 b - b)))]) dd_M_sizes_120 (by decide) rfl ?_
        refine XR.lvs [2, 3, 4, 5, 6, 7, 8, 1, 0] rfl ?_
        exact loop2 hn (by rw [← hr, rl_0 (by omega), rl_0 (by omega)]; rfl) _ _ _ rfl (by omega) (by omega) rfl
      ·
        refine XR.aload_n dd_M_sizes_51 rfl 0 rfl ?_
        refine XR.get (q0 := 0) (v := .ref (q 1)) fl_M_7 dd_M_sizes_52 rfl rfl ?_
        refine XR.iload_n dd_M_sizes_55 rfl 1 rfl ?_
        refine XR.iload dd_M_sizes_56 7 rfl ?_
        refine XR.iadd dd_M_sizes_58 ?_
        refine XR.tp (y := nI (a + k)) (nI_add _ _) ?_
        refine XR.bald (q0 := 1) (n := 20000) (j := a + k) (f := f 0) dd_M_sizes_59 rfl (by omega) (by decide) ?_
        refine XR.tp (y := B (a + k)) (hB _ (by omega)) ?_
        refine XR.aload_n dd_M_sizes_60 rfl 0 rfl ?_
        refine XR.get (q0 := 0) (v := .ref (q 1)) fl_M_7 dd_M_sizes_61 rfl rfl ?_
        refine XR.iload_n dd_M_sizes_64 rfl 3 rfl ?_
        refine XR.iload dd_M_sizes_65 7 rfl ?_
        refine XR.iadd dd_M_sizes_67 ?_
        refine XR.tp (y := nI (b + k)) (nI_add _ _) ?_
        refine XR.bald (q0 := 1) (n := 20000) (j := b + k) (f := f 0) dd_M_sizes_68 rfl (by omega) (by decide) ?_
        refine XR.tp (y := B (b + k)) (hB _ (by omega)) ?_
        refine XR.icmp_eq (tgt := 99) dd_M_sizes_69 (by decide) (fun h69 => ?_) (fun h69 => ?_)
        ·
          refine XR.iinc (z := 7) (v := nI (k + 1)) (lv2 := [(7, .int (nI (k + 1))), (0, .ref (q 0)), (1, .int (nI a)), (2, .int (nI a2)), (3, .int (nI b)), (4, .int (nI b2)), (5, .int (nI (sk (pb_dig B) a2 a - a))), (6, .int (nI (sk (pb_dig B) b2 b - b)))]) dd_M_sizes_99 rfl ((nI_succ _).symm) (by decide) rfl ?_
          refine XR.goto (tgt := 44) dd_M_sizes_102 (by decide) ?_
          refine XR.lvs [1, 2, 3, 4, 5, 6, 7, 0] rfl ?_
          exact ih _ (by omega) (k + 1) rfl (by omega) (by rw [← hr, rl_s (k := k) (by omega), rl_s (g := B) (a := b) (k := k) (by omega), lx_cons, oi_eq h69]; rfl)
        ·
          refine XR.aload_n dd_M_sizes_72 rfl 0 rfl ?_
          refine XR.get (q0 := 0) (v := .ref (q 1)) fl_M_7 dd_M_sizes_73 rfl rfl ?_
          refine XR.iload_n dd_M_sizes_76 rfl 1 rfl ?_
          refine XR.iload dd_M_sizes_77 7 rfl ?_
          refine XR.iadd dd_M_sizes_79 ?_
          refine XR.tp (y := nI (a + k)) (nI_add _ _) ?_
          refine XR.bald (q0 := 1) (n := 20000) (j := a + k) (f := f 0) dd_M_sizes_80 rfl (by omega) (by decide) ?_
          refine XR.tp (y := B (a + k)) (hB _ (by omega)) ?_
          refine XR.aload_n dd_M_sizes_81 rfl 0 rfl ?_
          refine XR.get (q0 := 0) (v := .ref (q 1)) fl_M_7 dd_M_sizes_82 rfl rfl ?_
          refine XR.iload_n dd_M_sizes_85 rfl 3 rfl ?_
          refine XR.iload dd_M_sizes_86 7 rfl ?_
          refine XR.iadd dd_M_sizes_88 ?_
          refine XR.tp (y := nI (b + k)) (nI_add _ _) ?_
          refine XR.bald (q0 := 1) (n := 20000) (j := b + k) (f := f 0) dd_M_sizes_89 rfl (by omega) (by decide) ?_
          refine XR.tp (y := B (b + k)) (hB _ (by omega)) ?_
          refine XR.icmp_ge (tgt := 97) dd_M_sizes_90 (by decide) (fun h90 => ?_) (fun h90 => ?_)
          ·
            refine XR.iconst (v := nI 1) dd_M_sizes_97 (by decide) ?_
            refine XR.tp (y := oI (msz B a a2 b b2)) (by
              rw [msz, on_eq hn, eq_then, ← hr, rl_s (k := k) (by omega), rl_s (g := B) (a := b) (k := k) (by omega), lx_cons, then_ne (oi_ne h69), then_ne (oi_ne h69), oi_ge h69 h90]) ?_
            exact XR.iret dd_M_sizes_98 rfl
          ·
            refine XR.iconst (v := -1) dd_M_sizes_93 (by decide) ?_
            refine XR.goto (tgt := 98) dd_M_sizes_94 (by decide) ?_
            refine XR.tp (y := oI (msz B a a2 b b2)) (by
              rw [msz, on_eq hn, eq_then, ← hr, rl_s (k := k) (by omega), rl_s (g := B) (a := b) (k := k) (by omega), lx_cons, then_ne (oi_ne h69), then_ne (oi_ne h69), oi_lt h90]) ?_
            exact XR.iret dd_M_sizes_98 rfl
  refine XR.aload_n dd_M_sizes_0 rfl 0 rfl ?_
  refine XR.iload_n dd_M_sizes_1 rfl 1 rfl ?_
  refine XR.iload_n dd_M_sizes_2 rfl 2 rfl ?_
  refine XR.callV (Mk := m_M_behindDigits) (n := 2) (As := [.int (nI a), .int (nI a2)]) (rest := []) (q0 := 0) (ci := 9) (c_M_behindDigits ht (a := a) (e := a2) (by omega) (by omega)) mt_M_behindDigits mi_M_behindDigits ml_M_150 rfl dd_M_sizes_3 (rfl) rfl rfl ⟨xn_le rfl, xn_le rfl⟩ (xn_le rfl) rfl ?_
  refine XR.iload_n dd_M_sizes_6 rfl 1 rfl ?_
  refine XR.isub dd_M_sizes_7 ?_
  refine XR.tp (y := nI (sk (pb_dig B) a2 a - a)) (pk_sub (by omega)) ?_
  refine XR.istore (lv2 := [(5, .int (nI (sk (pb_dig B) a2 a - a))), (0, .ref (q 0)), (1, .int (nI a)), (2, .int (nI a2)), (3, .int (nI b)), (4, .int (nI b2))]) dd_M_sizes_8 (by decide) rfl ?_
  refine XR.aload_n dd_M_sizes_10 rfl 1 rfl ?_
  refine XR.iload_n dd_M_sizes_11 rfl 4 rfl ?_
  refine XR.iload dd_M_sizes_12 5 rfl ?_
  refine XR.callV (Mk := m_M_behindDigits) (n := 2) (As := [.int (nI b), .int (nI b2)]) (rest := []) (q0 := 0) (ci := 9) (c_M_behindDigits ht (a := b) (e := b2) (by omega) (by omega)) mt_M_behindDigits mi_M_behindDigits ml_M_150 rfl dd_M_sizes_14 (rfl) rfl rfl ⟨xn_le rfl, xn_le rfl⟩ (xn_le rfl) rfl ?_
  refine XR.iload_n dd_M_sizes_17 rfl 4 rfl ?_
  refine XR.isub dd_M_sizes_18 ?_
  refine XR.tp (y := nI (sk (pb_dig B) b2 b - b)) (pk_sub (by omega)) ?_
  refine XR.istore (lv2 := [(6, .int (nI (sk (pb_dig B) b2 b - b))), (5, .int (nI (sk (pb_dig B) a2 a - a))), (0, .ref (q 0)), (1, .int (nI a)), (2, .int (nI a2)), (3, .int (nI b)), (4, .int (nI b2))]) dd_M_sizes_19 (by decide) rfl ?_
  refine XR.iload dd_M_sizes_21 1 rfl ?_
  refine XR.iload dd_M_sizes_23 0 rfl ?_
  refine XR.ncmp_eq (tgt := 41) dd_M_sizes_25 (by decide) (by omega) (by omega) (fun h25 => ?_) (fun h25 => ?_)
  ·
    refine XR.iconst (v := nI 0) dd_M_sizes_41 (by decide) ?_
    refine XR.istore (lv2 := [(7, .int (nI 0)), (6, .int (nI (sk (pb_dig B) b2 b - b))), (5, .int (nI (sk (pb_dig B) a2 a - a))), (0, .ref (q 0)), (1, .int (nI a)), (2, .int (nI a2)), (3, .int (nI b)), (4, .int (nI b2))]) dd_M_sizes_42 (by decide) rfl ?_
    refine XR.lvs [3, 4, 5, 6, 7, 2, 1, 0] rfl ?_
    exact loop1 h25 _ 0 rfl (by omega) rfl
  ·
    refine XR.iload dd_M_sizes_28 1 rfl ?_
    refine XR.iload dd_M_sizes_30 0 rfl ?_
    refine XR.ncmp_ge (tgt := 39) dd_M_sizes_32 (by decide) (by omega) (by omega) (fun h32 => ?_) (fun h32 => ?_)
    ·
      refine XR.iconst (v := nI 1) dd_M_sizes_39 (by decide) ?_
      refine XR.tp (y := oI (msz B a a2 b b2)) (by rw [msz, then_ne (on_ne h25), on_ge h25 (by omega)]) ?_
      exact XR.iret dd_M_sizes_40 rfl
    ·
      refine XR.iconst (v := -1) dd_M_sizes_35 (by decide) ?_
      refine XR.goto (tgt := 40) dd_M_sizes_36 (by decide) ?_
      refine XR.tp (y := oI (msz B a a2 b b2)) (by rw [msz, then_ne (on_ne h25), on_lt (by omega)]) ?_
      exact XR.iret dd_M_sizes_40 rfl

