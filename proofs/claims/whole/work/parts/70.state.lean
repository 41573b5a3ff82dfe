/-! the state of a sorter, as both sides hold it -/
def SS : Type := (Nat × (Nat → Int32)) × (Int32 × Int32 × Bool × Bool) × (Nat × (Nat → Nat → Nat) × (Nat → Int32)) × (Nat × Nat) × (Nat × (Nat → Nat)) × (Nat × (Nat → Nat)) × (Nat × Nat × Nat)
def SS.len (s : SS) : Nat := s.1.1
def SS.B (s : SS) : Nat → Int32 := s.1.2
def SS.sep (s : SS) : Int32 := s.2.1.1
def SS.all (s : SS) : Int32 := s.2.1.2.1
def SS.bs (s : SS) : Bool := s.2.1.2.2.1
def SS.bo (s : SS) : Bool := s.2.1.2.2.2
def SS.kc (s : SS) : Nat := s.2.2.1.1
def SS.kd (s : SS) : Nat → Nat → Nat := s.2.2.1.2.1
def SS.kg (s : SS) : Nat → Int32 := s.2.2.1.2.2
def SS.mem (s : SS) : Nat := s.2.2.2.1.1
def SS.wy (s : SS) : Nat := s.2.2.2.1.2
def SS.rc (s : SS) : Nat := s.2.2.2.2.1.1
def SS.rl (s : SS) : Nat → Nat := s.2.2.2.2.1.2
def SS.un (s : SS) : Nat := s.2.2.2.2.2.1.1
def SS.ul (s : SS) : Nat → Nat := s.2.2.2.2.2.1.2
def SS.mg (s : SS) : Nat := s.2.2.2.2.2.2.1
def SS.mv (s : SS) : Nat := s.2.2.2.2.2.2.2.1
def SS.gn (s : SS) : Nat := s.2.2.2.2.2.2.2.2
def SS.mk (len : Nat) (B : Nat → Int32) (sep all : Int32) (bs bo : Bool) (kc : Nat) (kd : Nat → Nat → Nat) (kg : Nat → Int32) (mem wy rc : Nat) (rl : Nat → Nat) (un : Nat) (ul : Nat → Nat) (mg mv gn : Nat) : SS := ((len, B), (sep, all, bs, bo), (kc, kd, kg), (mem, wy), (rc, rl), (un, ul), (mg, mv, gn))
abbrev SG (s : SS) : Prop := (s.len ≤ 20000) ∧ (bfit s.B s.len) ∧ (s.kc ≤ 6) ∧ (∀ k, k < s.kc → 1 ≤ s.kd k 0 ∧ s.kd k 0 ≤ 1000 ∧ 1 ≤ s.kd k 1 ∧ s.kd k 1 ≤ 1000 ∧ s.kd k 2 ≤ 1000 ∧ s.kd k 3 ≤ 1000) ∧ (2 ≤ s.mem) ∧ (s.mem ≤ 500) ∧ (2 ≤ s.wy) ∧ (s.wy ≤ 16) ∧ (s.rc ≤ 1000) ∧ (∀ i, i < s.rc → s.rl i < lnc s.B s.len) ∧ (s.un ≤ 1000)
theorem SG.len {s : SS} (h : SG s) : s.len ≤ 20000 := h.1
theorem SG.bb {s : SS} (h : SG s) : bfit s.B s.len := h.2.1
theorem SG.kc {s : SS} (h : SG s) : s.kc ≤ 6 := h.2.2.1
theorem SG.kb {s : SS} (h : SG s) : ∀ k, k < s.kc → 1 ≤ s.kd k 0 ∧ s.kd k 0 ≤ 1000 ∧ 1 ≤ s.kd k 1 ∧ s.kd k 1 ≤ 1000 ∧ s.kd k 2 ≤ 1000 ∧ s.kd k 3 ≤ 1000 := h.2.2.2.1
theorem SG.m1 {s : SS} (h : SG s) : 2 ≤ s.mem := h.2.2.2.2.1
theorem SG.m2 {s : SS} (h : SG s) : s.mem ≤ 500 := h.2.2.2.2.2.1
theorem SG.w1 {s : SS} (h : SG s) : 2 ≤ s.wy := h.2.2.2.2.2.2.1
theorem SG.w2 {s : SS} (h : SG s) : s.wy ≤ 16 := h.2.2.2.2.2.2.2.1
theorem SG.rc {s : SS} (h : SG s) : s.rc ≤ 1000 := h.2.2.2.2.2.2.2.2.1
theorem SG.rl {s : SS} (h : SG s) : ∀ i, i < s.rc → s.rl i < lnc s.B s.len := h.2.2.2.2.2.2.2.2.2.1
theorem SG.un {s : SS} (h : SG s) : s.un ≤ 1000 := h.2.2.2.2.2.2.2.2.2.2
/-- the reference's fields and rows hold the state -/
abbrev MI (s : SS) (x : Nat → Int32) (f : Nat → Nat → Int32) : Prop := (SG s) ∧ (x 0 = nI s.len) ∧ (∀ i, i < s.len → f 0 i = s.B i) ∧ (∃ sp, x 2 = bI sp ∧ (0 < s.rc → sp = true) ∧ (sp = true → x 1 = nI (lnc s.B s.len) ∧ ∀ i, i ≤ lnc s.B s.len → f 1 i = nI (lst s.B s.len i))) ∧ (x 3 = s.all) ∧ (x 4 = bI s.bs) ∧ (x 5 = bI s.bo) ∧ (x 6 = s.sep) ∧ (mky x f s.kc s.kd s.kg) ∧ (x 8 = nI s.mem) ∧ (x 9 = nI s.wy) ∧ (x 10 = bI false) ∧ (x 11 = nI s.rc) ∧ (∀ i, i < s.rc → f 5 i = nI (s.rl i)) ∧ (x 13 = nI s.un) ∧ (∀ i, i < s.un → f 9 i = nI (s.ul i)) ∧ (x 14 = nI s.mg) ∧ (x 15 = nI s.mv) ∧ (x 16 = nI s.gn) ∧ (∀ i, i < 1000 → f 11 i = nI 0)
theorem MI.g {s : SS} {x : Nat → Int32} {f : Nat → Nat → Int32}  (h : MI s x f) : SG s := h.1
theorem MI.x0 {s : SS} {x : Nat → Int32} {f : Nat → Nat → Int32}  (h : MI s x f) : x 0 = nI s.len := h.2.1
theorem MI.b {s : SS} {x : Nat → Int32} {f : Nat → Nat → Int32}  (h : MI s x f) : ∀ i, i < s.len → f 0 i = s.B i := h.2.2.1
theorem MI.sp {s : SS} {x : Nat → Int32} {f : Nat → Nat → Int32}  (h : MI s x f) : ∃ sp, x 2 = bI sp ∧ (0 < s.rc → sp = true) ∧ (sp = true → x 1 = nI (lnc s.B s.len) ∧ ∀ i, i ≤ lnc s.B s.len → f 1 i = nI (lst s.B s.len i)) := h.2.2.2.1
theorem MI.x3 {s : SS} {x : Nat → Int32} {f : Nat → Nat → Int32}  (h : MI s x f) : x 3 = s.all := h.2.2.2.2.1
theorem MI.x4 {s : SS} {x : Nat → Int32} {f : Nat → Nat → Int32}  (h : MI s x f) : x 4 = bI s.bs := h.2.2.2.2.2.1
theorem MI.x5 {s : SS} {x : Nat → Int32} {f : Nat → Nat → Int32}  (h : MI s x f) : x 5 = bI s.bo := h.2.2.2.2.2.2.1
theorem MI.x6 {s : SS} {x : Nat → Int32} {f : Nat → Nat → Int32}  (h : MI s x f) : x 6 = s.sep := h.2.2.2.2.2.2.2.1
theorem MI.k {s : SS} {x : Nat → Int32} {f : Nat → Nat → Int32}  (h : MI s x f) : mky x f s.kc s.kd s.kg := h.2.2.2.2.2.2.2.2.1
theorem MI.x8 {s : SS} {x : Nat → Int32} {f : Nat → Nat → Int32}  (h : MI s x f) : x 8 = nI s.mem := h.2.2.2.2.2.2.2.2.2.1
theorem MI.x9 {s : SS} {x : Nat → Int32} {f : Nat → Nat → Int32}  (h : MI s x f) : x 9 = nI s.wy := h.2.2.2.2.2.2.2.2.2.2.1
theorem MI.x10 {s : SS} {x : Nat → Int32} {f : Nat → Nat → Int32}  (h : MI s x f) : x 10 = bI false := h.2.2.2.2.2.2.2.2.2.2.2.1
theorem MI.x11 {s : SS} {x : Nat → Int32} {f : Nat → Nat → Int32}  (h : MI s x f) : x 11 = nI s.rc := h.2.2.2.2.2.2.2.2.2.2.2.2.1
theorem MI.r {s : SS} {x : Nat → Int32} {f : Nat → Nat → Int32}  (h : MI s x f) : ∀ i, i < s.rc → f 5 i = nI (s.rl i) := h.2.2.2.2.2.2.2.2.2.2.2.2.2.1
theorem MI.x13 {s : SS} {x : Nat → Int32} {f : Nat → Nat → Int32}  (h : MI s x f) : x 13 = nI s.un := h.2.2.2.2.2.2.2.2.2.2.2.2.2.2.1
theorem MI.u {s : SS} {x : Nat → Int32} {f : Nat → Nat → Int32}  (h : MI s x f) : ∀ i, i < s.un → f 9 i = nI (s.ul i) := h.2.2.2.2.2.2.2.2.2.2.2.2.2.2.2.1
theorem MI.x14 {s : SS} {x : Nat → Int32} {f : Nat → Nat → Int32}  (h : MI s x f) : x 14 = nI s.mg := h.2.2.2.2.2.2.2.2.2.2.2.2.2.2.2.2.1
theorem MI.x15 {s : SS} {x : Nat → Int32} {f : Nat → Nat → Int32}  (h : MI s x f) : x 15 = nI s.mv := h.2.2.2.2.2.2.2.2.2.2.2.2.2.2.2.2.2.1
theorem MI.x16 {s : SS} {x : Nat → Int32} {f : Nat → Nat → Int32}  (h : MI s x f) : x 16 = nI s.gn := h.2.2.2.2.2.2.2.2.2.2.2.2.2.2.2.2.2.2.1
theorem MI.tk {s : SS} {x : Nat → Int32} {f : Nat → Nat → Int32}  (h : MI s x f) : ∀ i, i < 1000 → f 11 i = nI 0 := h.2.2.2.2.2.2.2.2.2.2.2.2.2.2.2.2.2.2.2
theorem MI.ag {s : SS} {x x2 : Nat → Int32} {f : Nat → Nat → Int32} (h : MI s x f) (ha : ∀ i, i ≠ 12 → i ≠ 17 → i ≠ 18 → i ≠ 19 → x2 i = x i) : MI s x2 f := by
  have e : ∀ i, i < 12 ∨ (12 < i ∧ i < 17) → x2 i = x i := fun i hi => ha i (by omega) (by omega) (by omega) (by omega)
  obtain ⟨sp, s1, s3, s2⟩ := h.sp
  exact ⟨h.g, (e 0 (by omega)).trans h.x0, h.b, ⟨sp, (e 2 (by omega)).trans s1, s3, fun z => ⟨(e 1 (by omega)).trans (s2 z).1, (s2 z).2⟩⟩, (e 3 (by omega)).trans h.x3, (e 4 (by omega)).trans h.x4, (e 5 (by omega)).trans h.x5, (e 6 (by omega)).trans h.x6, mky_mv h.k (e 7 (by omega)), (e 8 (by omega)).trans h.x8, (e 9 (by omega)).trans h.x9, (e 10 (by omega)).trans h.x10, (e 11 (by omega)).trans h.x11, h.r, (e 13 (by omega)).trans h.x13, h.u, (e 14 (by omega)).trans h.x14, (e 15 (by omega)).trans h.x15, (e 16 (by omega)).trans h.x16, h.tk⟩
theorem MI.t19 {s : SS} {x : Nat → Int32} {f : Nat → Nat → Int32} (h : MI s x f) (v : Int32) : MI s (upd x 19 v) f := h.ag (fun i _ _ _ h4 => pk_un h4)
theorem MI.agf {s : SS} {x x2 : Nat → Int32} {f : Nat → Nat → Int32} (h : MI s x f) (ha : agF x x2) : MI s x2 f := h.ag (fun i _ h2 h3 _ => ha i h2 h3)
/-- with the lines found -/
abbrev ML (s : SS) (x : Nat → Int32) (f : Nat → Nat → Int32) : Prop := (MI s x f) ∧ (x 1 = nI (lnc s.B s.len)) ∧ (x 2 = bI true) ∧ (∀ i, i ≤ lnc s.B s.len → f 1 i = nI (lst s.B s.len i))
theorem ML.i {s : SS} {x : Nat → Int32} {f : Nat → Nat → Int32}  (h : ML s x f) : MI s x f := h.1
theorem ML.x1 {s : SS} {x : Nat → Int32} {f : Nat → Nat → Int32}  (h : ML s x f) : x 1 = nI (lnc s.B s.len) := h.2.1
theorem ML.x2 {s : SS} {x : Nat → Int32} {f : Nat → Nat → Int32}  (h : ML s x f) : x 2 = bI true := h.2.2.1
theorem ML.st {s : SS} {x : Nat → Int32} {f : Nat → Nat → Int32}  (h : ML s x f) : ∀ i, i ≤ lnc s.B s.len → f 1 i = nI (lst s.B s.len i) := h.2.2.2
theorem ML.mtx {s : SS} {x : Nat → Int32} {f : Nat → Nat → Int32} (h : ML s x f) : mtx x f s.len (lnc s.B s.len) (lst s.B s.len) s.B := mtx_of h.i.x0 h.i.g.len h.st h.i.b
theorem ML.t19 {s : SS} {x : Nat → Int32} {f : Nat → Nat → Int32} (h : ML s x f) (v : Int32) : ML s (upd x 19 v) f := ⟨h.i.t19 v, h.x1, h.x2, h.st⟩
theorem ML.agf {s : SS} {x x2 : Nat → Int32} {f : Nat → Nat → Int32} (h : ML s x f) (ha : agF x x2) : ML s x2 f := ⟨h.i.agf ha, (ha 1 (by omega) (by omega)).trans h.x1, (ha 2 (by omega) (by omega)).trans h.x2, h.st⟩
theorem ML.of {s : SS} {x x2 g : Nat → Int32} {f : Nat → Nat → Int32} (h : MI s x f) (ha : ∀ i, i ≠ 1 → i ≠ 2 → x2 i = x i) (h1 : x2 1 = nI (lnc s.B s.len)) (h2 : x2 2 = bI true) (hg : ∀ i, i ≤ lnc s.B s.len → g i = nI (lst s.B s.len i)) : ML s x2 (fup f 1 g) := by
  have e : ∀ i, 2 < i ∨ i = 0 → x2 i = x i := fun i hi => ha i (by omega) (by omega)
  refine ⟨?_, h1, h2, hg⟩
  exact ⟨h.g, (e 0 (by omega)).trans h.x0, h.b, ⟨true, h2, fun _ => rfl, fun z => ⟨h1, hg⟩⟩, (e 3 (by omega)).trans h.x3, (e 4 (by omega)).trans h.x4, (e 5 (by omega)).trans h.x5, (e 6 (by omega)).trans h.x6, mky_mv h.k (e 7 (by omega)), (e 8 (by omega)).trans h.x8, (e 9 (by omega)).trans h.x9, (e 10 (by omega)).trans h.x10, (e 11 (by omega)).trans h.x11, h.r, (e 13 (by omega)).trans h.x13, h.u, (e 14 (by omega)).trans h.x14, (e 15 (by omega)).trans h.x15, (e 16 (by omega)).trans h.x16, h.tk⟩
theorem MI.ml {s : SS} {x : Nat → Int32} {f : Nat → Nat → Int32} (h : MI s x f) (hr : 0 < s.rc) : ML s x f := by
  obtain ⟨sp, s1, s3, s2⟩ := h.sp
  have e := s3 hr
  subst e
  exact ⟨h, (s2 rfl).1, s1, (s2 rfl).2⟩
/-- what a call of the reference leaves: the state, what it notes as thrown, its answer where nothing is thrown -/
def MQI (G : XG) (q : Nat → Nat) (kl : va_W) (s : SS) (t : Nat) (v : Int32) : Option Value → va_W → Prop := fun r w => (∃ v2 : Int32, r = some (.int v2) ∧ (t = 0 → v2 = v)) ∧ ∃ (x2 : Nat → Int32) (f2 : Nat → Nat → Int32), w = wM G q x2 f2 kl ∧ x2 19 = nI t ∧ MI s x2 f2
def MQV (G : XG) (q : Nat → Nat) (kl : va_W) (s : SS) (t : Nat) : Option Value → va_W → Prop := fun r w => r = none ∧ ∃ (x2 : Nat → Int32) (f2 : Nat → Nat → Int32), w = wM G q x2 f2 kl ∧ x2 19 = nI t ∧ MI s x2 f2
/-- the state where nothing is thrown, and else -/
def sel (t : Nat) (s1 s : SS) : SS := if t = 0 then s1 else s
theorem MQI.ok {G : XG} {q : Nat → Nat} {kl : va_W} {s1 s : SS} {t : Nat} {v : Int32} {x2 : Nat → Int32} {f2 : Nat → Nat → Int32} (ht : t = 0) (h19 : x2 19 = nI 0) (h : MI s1 x2 f2) : MQI G q kl (sel t s1 s) t v (some (.int v)) (wM G q x2 f2 kl) := by
  subst ht; exact ⟨⟨v, rfl, fun _ => rfl⟩, x2, f2, rfl, h19, h⟩
theorem MQI.no {G : XG} {q : Nat → Nat} {kl : va_W} {s1 s : SS} {t : Nat} {v v2 : Int32} {x2 : Nat → Int32} {f2 : Nat → Nat → Int32} (ht : t ≠ 0) (h19 : x2 19 = nI t) (h : MI s x2 f2) : MQI G q kl (sel t s1 s) t v (some (.int v2)) (wM G q x2 f2 kl) :=
  ⟨⟨v2, rfl, fun z => absurd z ht⟩, x2, f2, rfl, h19, by unfold sel; rw [if_neg ht]; exact h⟩
theorem MQV.ok {G : XG} {q : Nat → Nat} {kl : va_W} {s1 s : SS} {t : Nat} {x2 : Nat → Int32} {f2 : Nat → Nat → Int32} (ht : t = 0) (h19 : x2 19 = nI 0) (h : MI s1 x2 f2) : MQV G q kl (sel t s1 s) t none (wM G q x2 f2 kl) := by
  subst ht; exact ⟨rfl, x2, f2, rfl, h19, h⟩
theorem MQV.no {G : XG} {q : Nat → Nat} {kl : va_W} {s1 s : SS} {t : Nat} {x2 : Nat → Int32} {f2 : Nat → Nat → Int32} (ht : t ≠ 0) (h19 : x2 19 = nI t) (h : MI s x2 f2) : MQV G q kl (sel t s1 s) t none (wM G q x2 f2 kl) :=
  ⟨rfl, x2, f2, rfl, h19, by unfold sel; rw [if_neg ht]; exact h⟩
def tb (c : Bool) (k r : Nat) : Nat := if c = true then k else r
/-- an int as a number; whether it is one below n -/
def iN (a : Int32) : Nat := a.toInt.toNat
def inr (a : Int32) (n : Nat) : Bool := !decide (a < 0) && decide (a < nI n)
theorem iN_nI {n : Nat} (h : n < 2 ^ 31) : iN (nI n) = n := by unfold iN; rw [nI_toInt h]; rfl
theorem nI_iN {a : Int32} (h : 0 ≤ a.toInt) : a = nI (iN a) ∧ iN a < 2 ^ 31 := by
  have h2 := Int32.toInt_lt a
  have h3 : iN a < 2 ^ 31 := by unfold iN; omega
  refine ⟨Int32.toInt_inj.mp ?_, h3⟩
  rw [nI_toInt h3]; unfold iN; omega
theorem inr_t {a : Int32} {n : Nat} (h : inr a n = true) (hn : n < 2 ^ 31) : ∃ l, a = nI l ∧ l < n := by
  unfold inr at h
  simp [Int32.lt_iff_toInt_lt, nI_toInt hn] at h
  obtain ⟨h1, h2⟩ := nI_iN (a := a) h.1
  exact ⟨iN a, h1, by have := h.2; unfold iN at *; omega⟩
theorem wi_t {a : Int32} {u v : Nat} (h : wi a (nI u) (nI v) = true) (hu : u < 2 ^ 31) (hv : v < 2 ^ 31) : ∃ l, a = nI l ∧ u ≤ l ∧ l ≤ v := by
  unfold wi at h
  simp only [Int32.lt_iff_toInt_lt, nI_toInt hu, nI_toInt hv, Bool.and_eq_true, Bool.not_eq_true', decide_eq_false_iff_not] at h
  obtain ⟨h1, h2⟩ := nI_iN (a := a) (by omega)
  have h4 : (iN a : Int) = a.toInt := by unfold iN; omega
  exact ⟨iN a, h1, by omega, by omega⟩
theorem inr_nI {l n : Nat} (hl : l < 2 ^ 31) (hn : n < 2 ^ 31) : inr (nI l) n = decide (l < n) := by
  unfold inr
  have h0 : ¬ nI l < 0 := by rw [Int32.lt_iff_toInt_lt, nI_toInt hl]; show ¬ (l : Int) < 0; omega
  simp [h0, xn_lt hl hn]
/-- the bytes that are fed -/
def fd_w (a b c d e : Int32) (k : Nat) : Int32 := if k < 4 then a else if k < 8 then b else if k < 12 then c else if k < 16 then d else e
def fd_b (w : Nat → Int32) (k : Nat) : Int32 := ((w k) >>> (nI (24 - 8 * (k % 4)) &&& 31)).toInt8.toInt32
def fd (B : Nat → Int32) (len : Nat) (w : Nat → Int32) : Nat → Nat → Int32
  | 0 => B
  | k + 1 => upd (fd B len w k) (len + k) (fd_b w k)
theorem fd_s (B : Nat → Int32) (len : Nat) (w : Nat → Int32) (k : Nat) : fd B len w (k + 1) = upd (fd B len w k) (len + k) (fd_b w k) := rfl
theorem i8_b (x : Int8) : -128 ≤ x.toInt32.toInt ∧ x.toInt32.toInt ≤ 127 := by
  rw [Int8.toInt_toInt32]
  have h1 := Int8.le_toInt x
  have h2 := Int8.toInt_lt x
  constructor <;> omega
theorem fd_fit {B : Nat → Int32} {len : Nat} {w : Nat → Int32} (h : bfit B len) : ∀ k, bfit (fd B len w k) (len + k) := by
  intro k
  induction k with
  | zero => exact h
  | succ k ih =>
    intro i hi
    rw [fd_s]
    by_cases e : i = len + k
    · rw [e, pk_us]; exact i8_b _
    · rw [pk_un e]; exact ih i (by omega)
def t_feed (s : SS) : Nat := tb (decide (20000 < s.len + 20)) 1 0
def o_feed (s : SS) (a b c d e : Int32) : SS := SS.mk (s.len + 20) (fd s.B s.len (fd_w a b c d e) 20) s.sep s.all s.bs s.bo s.kc s.kd s.kg s.mem s.wy (0) s.rl s.un s.ul s.mg s.mv s.gn
def t_end (s : SS) (n : Int32) : Nat := tb (!wi n (nI 0) (nI s.len)) 1 0
def o_end (s : SS) (n : Int32) : SS := SS.mk (iN n) s.B s.sep s.all s.bs s.bo s.kc s.kd s.kg s.mem s.wy (0) s.rl s.un s.ul s.mg s.mv s.gn
def t_ways (g : Int32) : Nat := tb (!wi g (nI 0) (nI 127)) 1 0
def o_ways (s : SS) (g : Int32) (b1 b2 : Bool) : SS := SS.mk s.len s.B s.sep (g) (b1) (b2) s.kc s.kd s.kg s.mem s.wy s.rc s.rl s.un s.ul s.mg s.mv s.gn
def t_separator (c : Int32) : Nat := tb (!wi c (-1) (nI 255) || decide (c = nI 10)) 1 0
def o_separator (s : SS) (c : Int32) : SS := SS.mk s.len s.B (c) s.all s.bs s.bo s.kc s.kd s.kg s.mem s.wy s.rc s.rl s.un s.ul s.mg s.mv s.gn
def c_key (f c e d g : Int32) : Bool := wi f (nI 1) (nI 1000) && wi c (nI 1) (nI 1000) && wi e (nI 0) (nI 1000) && wi d (nI 0) (nI 1000) && wi g (nI 0) (nI 127)
def t_key (s : SS) (f c e d g : Int32) : Nat := tb (!c_key f c e d g) 1 (tb (decide (s.kc = 6)) 2 0)
def kd_a (kd : Nat → Nat → Nat) (kc : Nat) (f c e d : Int32) : Nat → Nat → Nat := fun k i => if k = kc then (if i = 0 then iN f else if i = 1 then iN c else if i = 2 then iN e else iN d) else kd k i
theorem kd_a_n {kd : Nat → Nat → Nat} {kc : Nat} {f c e d : Int32} {k i : Nat} (h : k ≠ kc) : kd_a kd kc f c e d k i = kd k i := by unfold kd_a; rw [if_neg h]
theorem kd_a_0 {kd : Nat → Nat → Nat} {kc : Nat} {f c e d : Int32} : kd_a kd kc f c e d kc 0 = iN f ∧ kd_a kd kc f c e d kc 1 = iN c ∧ kd_a kd kc f c e d kc 2 = iN e ∧ kd_a kd kc f c e d kc 3 = iN d := by unfold kd_a; simp
def o_key (s : SS) (f c e d g : Int32) : SS := SS.mk s.len s.B s.sep s.all s.bs s.bo (s.kc + 1) (kd_a s.kd s.kc f c e d) (upd s.kg s.kc g) s.mem s.wy s.rc s.rl s.un s.ul s.mg s.mv s.gn
def o_keyless (s : SS) : SS := SS.mk s.len s.B s.sep s.all s.bs s.bo (0) s.kd s.kg s.mem s.wy s.rc s.rl s.un s.ul s.mg s.mv s.gn
def t_memory (m w : Int32) : Nat := tb (!(wi m (nI 2) (nI 500) && wi w (nI 2) (nI 16))) 1 0
def o_memory (s : SS) (m w : Int32) : SS := SS.mk s.len s.B s.sep s.all s.bs s.bo s.kc s.kd s.kg (iN m) (iN w) s.rc s.rl s.un s.ul s.mg s.mv s.gn
def t_place (s : SS) (a b : Int32) : Nat := tb (!(inr a (lnc s.B s.len) && inr b (max 1 s.kc))) 1 0
def sp_begin (s : SS) (l k : Nat) : Nat := ky_begin s.B s.sep (ky_fl (kgu s.kc s.kg k) s.all) (kdu s.kc s.kd k 0) (kdu s.kc s.kd k 1) (lst s.B s.len l) (men s.len (lst s.B s.len) l)
def sp_end (s : SS) (l k : Nat) : Nat := ky_end s.B s.sep (ky_fl (kgu s.kc s.kg k) s.all) (kdu s.kc s.kd k 2) (kdu s.kc s.kd k 3) (lst s.B s.len l) (men s.len (lst s.B s.len) l)
def v_place (s : SS) (a b : Int32) (e : Bool) : Int32 := (if e = true then nI (sp_end s (iN a) (iN b)) else nI (sp_begin s (iN a) (iN b))) - nI (lst s.B s.len (iN a))
def t_compare (s : SS) (a b : Int32) : Nat := tb (!(inr a (lnc s.B s.len) && inr b (lnc s.B s.len))) 1 0
/-- two lines by the keys; by all, numbers aside -/
def sk_o (s : SS) (a b : Nat) : Ordering := oks s.B s.sep s.all s.kc s.kd s.kg (lst s.B s.len a) (men s.len (lst s.B s.len) a) (lst s.B s.len b) (men s.len (lst s.B s.len) b)
def sa_o (s : SS) : Nat → Nat → Ordering := oml s.B s.sep s.all s.kc s.kd s.kg s.bs s.bo s.len (lst s.B s.len)
def v_compare (s : SS) (a b : Int32) : Int32 := oI (sk_o s (iN a) (iN b))
def v_result (s : SS) (a : Int32) : Int32 := if inr a s.rc = true then nI (s.rl (iN a)) else -1
def v_run (s : SS) (a : Int32) : Int32 := if inr a s.un = true then nI (s.ul (iN a)) else -1
def v_byteAt (s : SS) (a b : Int32) : Int32 := if (inr a s.rc && inr b (men s.len (lst s.B s.len) (s.rl (iN a)) - lst s.B s.len (s.rl (iN a)))) = true then s.B (lst s.B s.len (s.rl (iN a)) + iN b) &&& nI 255 else -1
def t_about (a : Int32) : Nat := tb (!wi a (nI 0) (nI 6)) 1 0
def v_about (s : SS) (a : Int32) : Int32 := if iN a = 0 then nI s.un else if iN a = 1 then nI s.mg else if iN a = 2 then nI s.mv else if iN a = 3 then nI s.gn else if iN a = 4 then nI s.len else if iN a = 5 then nI s.kc else nI s.rc
/-- the first line out of order among m of them from i on -/
def ck (o : Nat → Nat → Ordering) (bo : Bool) : Nat → Nat → Option Nat
  | 0, _ => none
  | m + 1, i => if (decide (0 < oI (o (i - 1) i)) || (decide (oI (o (i - 1) i) = 0) && bo)) = true then some i else ck o bo m (i + 1)
theorem ck_0 {o : Nat → Nat → Ordering} {bo : Bool} {n i : Nat} (h : n ≤ i) : ck o bo (n - i) i = none := by rw [show n - i = 0 by omega]; rfl
theorem ck_s {o : Nat → Nat → Ordering} {bo : Bool} {n i : Nat} (h : i < n) : ck o bo (n - i) i = if (decide (0 < oI (o (i - 1) i)) || (decide (oI (o (i - 1) i) = 0) && bo)) = true then some i else ck o bo (n - (i + 1)) (i + 1) := by rw [show n - i = (n - (i + 1)) + 1 by omega]; rfl
def v_check (s : SS) : Int32 := oN (ck (sa_o s) s.bo (lnc s.B s.len - 1) 1)
theorem SG.feed {s : SS} (h : SG s) {a b c d e : Int32} (ht : t_feed s = 0) : SG (o_feed s a b c d e) := by
  have h1 : s.len + 20 ≤ 20000 := by
    unfold t_feed tb at ht
    rcases Nat.lt_or_ge 20000 (s.len + 20) with z | z
    · rw [if_pos (decide_eq_true z)] at ht; omega
    · exact z
  exact ⟨h1, fd_fit h.bb 20, h.kc, h.kb, h.m1, h.m2, h.w1, h.w2, Nat.zero_le _, fun i hi => absurd hi (Nat.not_lt_zero _), h.un⟩
theorem SG.end_ {s : SS} (h : SG s) {n : Int32} (ht : t_end s n = 0) : SG (o_end s n) ∧ n = nI (iN n) ∧ iN n ≤ s.len := by
  have hl := h.len
  have h1 : wi n (nI 0) (nI s.len) = true := by
    unfold t_end tb at ht
    cases e : wi n (nI 0) (nI s.len) with
    | true => rfl
    | false => rw [e] at ht; cases ht
  obtain ⟨l, rfl, h2, h3⟩ := wi_t h1 (by omega) (by omega)
  rw [show iN (nI l) = l from iN_nI (by omega)]
  refine ⟨?_, rfl, h3⟩
  refine ⟨?_, ?_, h.kc, h.kb, h.m1, h.m2, h.w1, h.w2, Nat.zero_le _, fun i hi => absurd hi (Nat.not_lt_zero _), h.un⟩
  · show iN (nI l) ≤ _; rw [iN_nI (by omega)]; omega
  · intro i hi
    have : i < iN (nI l) := hi
    rw [iN_nI (by omega)] at this
    exact h.bb i (by omega)
theorem tb_0 {c : Bool} {k r : Nat} (h : tb c k r = 0) (hk : k ≠ 0) : c = false ∧ r = 0 := by
  cases c with
  | true => exact absurd h hk
  | false => exact ⟨rfl, h⟩
theorem SG.ways {s : SS} (h : SG s) (g : Int32) (b1 b2 : Bool) : SG (o_ways s g b1 b2) := ⟨h.len, h.bb, h.kc, h.kb, h.m1, h.m2, h.w1, h.w2, h.rc, h.rl, h.un⟩
theorem SG.separator {s : SS} (h : SG s) (c : Int32) : SG (o_separator s c) := ⟨h.len, h.bb, h.kc, h.kb, h.m1, h.m2, h.w1, h.w2, h.rc, h.rl, h.un⟩
theorem SG.keyless {s : SS} (h : SG s) : SG (o_keyless s) := ⟨h.len, h.bb, Nat.zero_le _, fun k hk => absurd hk (Nat.not_lt_zero _), h.m1, h.m2, h.w1, h.w2, h.rc, h.rl, h.un⟩
theorem memory_n {m w : Int32} (ht : t_memory m w = 0) : m = nI (iN m) ∧ w = nI (iN w) ∧ 2 ≤ iN m ∧ iN m ≤ 500 ∧ 2 ≤ iN w ∧ iN w ≤ 16 := by
  have h1 := (tb_0 ht (by omega)).1
  simp only [Bool.not_eq_false', Bool.and_eq_true] at h1
  obtain ⟨a, rfl, h2, h3⟩ := wi_t h1.1 (by omega) (by omega)
  obtain ⟨b, rfl, h4, h5⟩ := wi_t h1.2 (by omega) (by omega)
  rw [iN_nI (by omega), iN_nI (by omega)]
  exact ⟨rfl, rfl, h2, h3, h4, h5⟩
theorem SG.memory {s : SS} (h : SG s) {m w : Int32} (ht : t_memory m w = 0) : SG (o_memory s m w) := by
  obtain ⟨_, _, h2, h3, h4, h5⟩ := memory_n ht
  exact ⟨h.len, h.bb, h.kc, h.kb, h2, h3, h4, h5, h.rc, h.rl, h.un⟩
theorem key_n {s : SS} {f c e d g : Int32} (ht : t_key s f c e d g = 0) : (f = nI (iN f) ∧ c = nI (iN c) ∧ e = nI (iN e) ∧ d = nI (iN d)) ∧ 1 ≤ iN f ∧ iN f ≤ 1000 ∧ 1 ≤ iN c ∧ iN c ≤ 1000 ∧ iN e ≤ 1000 ∧ iN d ≤ 1000 ∧ s.kc ≠ 6 := by
  obtain ⟨h1, h6⟩ := tb_0 ht (by omega)
  have h7 := (tb_0 h6 (by omega)).1
  simp only [c_key, Bool.not_eq_false', Bool.and_eq_true] at h1
  obtain ⟨⟨⟨⟨a1, a2⟩, a3⟩, a4⟩, a5⟩ := h1
  obtain ⟨f, rfl, b1, b2⟩ := wi_t a1 (by omega) (by omega)
  obtain ⟨c, rfl, c1, c2⟩ := wi_t a2 (by omega) (by omega)
  obtain ⟨e, rfl, d1, d2⟩ := wi_t a3 (by omega) (by omega)
  obtain ⟨d, rfl, e1, e2⟩ := wi_t a4 (by omega) (by omega)
  rw [iN_nI (by omega), iN_nI (by omega), iN_nI (by omega), iN_nI (by omega)]
  exact ⟨⟨rfl, rfl, rfl, rfl⟩, b1, b2, c1, c2, d2, e2, of_decide_eq_false h7⟩
theorem SG.key {s : SS} (h : SG s) {f c e d g : Int32} (ht : t_key s f c e d g = 0) : SG (o_key s f c e d g) := by
  obtain ⟨_, h1, h2, h3, h4, h5, h6, h7⟩ := key_n ht
  have hk := h.kc
  refine ⟨h.len, h.bb, ?_, fun k hk2 => ?_, h.m1, h.m2, h.w1, h.w2, h.rc, h.rl, h.un⟩
  · show s.kc + 1 ≤ 6; omega
  · have hk3 : k < s.kc + 1 := hk2
    show 1 ≤ kd_a s.kd s.kc f c e d k 0 ∧ kd_a s.kd s.kc f c e d k 0 ≤ 1000 ∧ 1 ≤ kd_a s.kd s.kc f c e d k 1 ∧ kd_a s.kd s.kc f c e d k 1 ≤ 1000 ∧ kd_a s.kd s.kc f c e d k 2 ≤ 1000 ∧ kd_a s.kd s.kc f c e d k 3 ≤ 1000
    by_cases e : k = s.kc
    · subst e
      obtain ⟨z0, z1, z2, z3⟩ := kd_a_0 (kd := s.kd) (kc := s.kc) (f := f) (c := c) (e := e) (d := d)
      rw [z0, z1, z2, z3]; exact ⟨h1, h2, h3, h4, h5, h6⟩
    · rw [kd_a_n e, kd_a_n e, kd_a_n e, kd_a_n e]; exact h.kb k (by omega)
