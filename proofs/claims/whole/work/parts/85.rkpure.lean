/-! the order of lines is one, and the ranking follows it -/
theorem gc_kc_r {α : Type} {c : α → α → Ordering} (h : gc c) (fl : Int32) : gc (fun a b => kc_r fl (c a b)) := by
  unfold kc_r
  by_cases e : fl &&& nI 32 = 0
  · simp only [e, if_true]; exact h
  · simp only [e, if_false]; exact h.sw
theorem gc_nc_m {B : Nat → Int32} : gc (fun a b : Nat × Nat => nc_m B a.1 a.2 b.1 b.2) :=
  ((gc_on.map (fun a : Nat × Nat => nm_wstop B a.2 a.1 - nm_whole B a.2 a.1)).thn (gc_lx.map (fun a : Nat × Nat => wb B (nI 0) (nm_whole B a.2 a.1) (nm_wstop B a.2 a.1)))).thn (gc_lx.map (fun a : Nat × Nat => wb B (nI 0) (nm_frac B a.2 a.1) (nm_fstop B a.2 a.1)))
theorem oi_same {x y : Int32} (h : oi x y = .eq) : x = y := by
  unfold oi at h
  split at h
  · assumption
  · split at h <;> cases h
theorem gc_nc {B : Nat → Int32} : gc (fun a b : Nat × Nat => nc B a.1 a.2 b.1 b.2) :=
  gc.dep (p := fun a : Nat × Nat => decide (nm_sign B a.2 a.1 < 0)) (gc_oi.map (fun a : Nat × Nat => nm_sign B a.2 a.1)) gc_nc_m.sw gc_nc_m (fun a b h => by rw [oi_same h])
theorem gc_kc_b {B : Nat → Int32} {sep fl : Int32} {d0 d1 d2 d3 : Nat} : gc (fun a b : Nat × Nat => kc_b B sep fl d0 d1 d2 d3 a.1 a.2 b.1 b.2) := by
  unfold kc_b
  by_cases e : fl &&& nI 16 = 0
  · simp only [e, if_true]
    exact gc_lx.map (fun a : Nat × Nat => wb B fl (ky_begin B sep fl d0 d1 a.1 a.2) (ky_end B sep fl d2 d3 a.1 a.2))
  · simp only [e, if_false]
    exact gc_nc.map (fun a : Nat × Nat => (ky_begin B sep fl d0 d1 a.1 a.2, ky_end B sep fl d2 d3 a.1 a.2))
theorem gc_okf {α : Type} {c : α → α → Nat → Ordering} (h : ∀ k, gc (fun a b => c a b k)) : ∀ m k, gc (fun a b => okf (c a b) m k) := by
  intro m
  induction m with
  | zero => intro k; exact gc.const
  | succ m ih => intro k; exact (h k).thn (ih (k + 1))
theorem gc_oks {B : Nat → Int32} {sep all : Int32} {kc : Nat} {kd : Nat → Nat → Nat} {kg : Nat → Int32} : gc (fun a b : Nat × Nat => oks B sep all kc kd kg a.1 a.2 b.1 b.2) :=
  gc_okf (c := fun a b : Nat × Nat => oky B sep all kc kd kg a.1 a.2 b.1 b.2) (fun k => gc_kc_r gc_kc_b _) _ _
theorem gc_oal {B : Nat → Int32} {sep all : Int32} {kc : Nat} {kd : Nat → Nat → Nat} {kg : Nat → Int32} {bs bo : Bool} : gc (fun a b : Nat × Nat => oal B sep all kc kd kg bs bo a.1 a.2 b.1 b.2) := by
  by_cases h : (bs || bo) = true
  · have e : (fun a b : Nat × Nat => oal B sep all kc kd kg bs bo a.1 a.2 b.1 b.2) = fun a b : Nat × Nat => oks B sep all kc kd kg a.1 a.2 b.1 b.2 := by
      funext a b
      unfold oal
      rw [if_pos (by rw [Bool.or_assoc, h, Bool.or_true])]
    rw [e]; exact gc_oks
  · have e : (fun a b : Nat × Nat => oal B sep all kc kd kg bs bo a.1 a.2 b.1 b.2) = fun a b : Nat × Nat => (oks B sep all kc kd kg a.1 a.2 b.1 b.2).then (kc_r all (lx (wb B (nI 0) a.1 a.2) (wb B (nI 0) b.1 b.2))) := by
      funext a b
      unfold oal
      have h2 : (bs || bo) = false := by cases z : (bs || bo) <;> simp_all
      rw [Bool.or_assoc, h2, Bool.or_false]
      by_cases z : oI (oks B sep all kc kd kg a.1 a.2 b.1 b.2) = 0
      · rw [if_neg (by simp [z]), then_eq z]
      · rw [if_pos (by simp [z]), then_ne z]
    rw [e]
    exact gc_oks.thn (gc_kc_r (gc_lx.map (fun a : Nat × Nat => wb B (nI 0) a.1 a.2)) all)
theorem gc_sa (s : SS) : gc (sa_o s) := gc_oal.map (fun l => (lst s.B s.len l, men s.len (lst s.B s.len) l))
theorem gc_sk (s : SS) : gc (sk_o s) := gc_oks.map (fun l => (lst s.B s.len l, men s.len (lst s.B s.len) l))
/-- once: the order is by keys alone -/
theorem sa_once {s : SS} (h : s.bo = true) (a b : Nat) : sa_o s a b = sk_o s a b := by
  unfold sa_o oml oal sk_o
  rw [if_pos (by rw [h, Bool.or_true])]
/-- searching by halves -/
theorem rk_bs_ok {p : Nat → Bool} {n : Nat} (hm : ∀ i j, i < j → j < n → p j = true → p i = true) : ∀ (k lo hi : Nat), hi - lo = k → lo ≤ hi → hi ≤ n → (∀ i, i < lo → p i = true) → (∀ i, hi ≤ i → i < n → p i = false) → (∀ i, i < rk_bs p lo hi → p i = true) ∧ ∀ i, rk_bs p lo hi ≤ i → i < n → p i = false := by
  intro k
  induction k using Nat.strongRecOn with
  | _ k ih =>
    intro lo hi hk h1 h2 h3 h4
    by_cases c : lo < hi
    · cases e : p ((lo + hi) / 2) with
      | true =>
        rw [rk_bs_t c e]
        refine ih _ (by omega) ((lo + hi) / 2 + 1) hi rfl (by omega) h2 (fun i hi2 => ?_) h4
        by_cases e2 : i = (lo + hi) / 2
        · rw [e2]; exact e
        · exact hm i ((lo + hi) / 2) (by omega) (by omega) e
      | false =>
        rw [rk_bs_f c e]
        refine ih _ (by omega) lo ((lo + hi) / 2) rfl (by omega) (by omega) h3 (fun i hi2 hi3 => ?_)
        by_cases e2 : i = (lo + hi) / 2
        · rw [e2]; exact e
        · cases e3 : p i with
          | false => rfl
          | true => have := hm ((lo + hi) / 2) i (by omega) hi3 e3; rw [e] at this; cases this
    · rw [rk_bs_e (by omega)]
      exact ⟨h3, fun i hi2 hi3 => h4 i (by omega) hi3⟩
theorem bf_le {o : Nat → Nat → Ordering} {a b : Nat} (h : bf o a b = true) : o a b ≠ .gt := by
  unfold bf at h
  intro e
  rw [e] at h; cases h
theorem rk_so {o : Nat → Nat → Ordering} (h : gc o) : ∀ n i j, i < j → j < n → bf o (rk o n i) (rk o n j) = true := by
  intro n
  induction n with
  | zero => intro i j _ hj; omega
  | succ n ih =>
    obtain ⟨b1, b2⟩ := rk_bs_ok (p := rk_p o (rk o n) n) (n := n) (fun i j hij hj hp => by
      unfold rk_p at *
      simp only [Bool.not_eq_true', decide_eq_false_iff_not, oI_gt] at *
      exact h.2 _ _ _ (bf_le (ih i j hij hj)) hp) _ 0 n rfl (by omega) (Nat.le_refl _) (fun i hi => absurd hi (by omega)) (fun i h1 h2 => absurd h2 (by omega))
    have hle := (rk_bs_le (rk_p o (rk o n) n) _ 0 n rfl (by omega)).2
    generalize hlo : rk_bs (rk_p o (rk o n) n) 0 n = lo at b1 b2 hle
    have e : ∀ i, rk o (n + 1) i = rk_ins (rk o n) lo n i := fun i => by show rk_ins _ _ _ i = _; rw [hlo]
    have p1 : ∀ i, i < lo → bf o (rk o n i) n = true := fun i hi => by
      have z := b1 i hi
      unfold rk_p at z
      simp only [Bool.not_eq_true', decide_eq_false_iff_not, oI_gt] at z
      have z2 := rk_lt o n i (by omega)
      unfold bf
      cases e2 : o (rk o n i) n with
      | lt => rfl
      | eq => exact decide_eq_true z2
      | gt => exact absurd e2 z
    have p2 : ∀ i, lo ≤ i → i < n → bf o n (rk o n i) = true := fun i hi hi2 => by
      have z := b2 i hi hi2
      unfold rk_p at z
      simp only [Bool.not_eq_false', decide_eq_true_eq, oI_gt] at z
      unfold bf
      rw [h.1 (rk o n i) n, z]; rfl
    intro i j hij hj
    rw [e, e]
    unfold rk_ins
    by_cases c1 : j < lo
    · rw [if_pos (by omega), if_pos c1]; exact ih i j hij (by omega)
    · rw [if_neg c1]
      by_cases c2 : j = lo
      · rw [if_pos c2, if_pos (by omega)]; exact p1 i (by omega)
      · rw [if_neg c2]
        by_cases c3 : i < lo
        · rw [if_pos c3]
          by_cases c4 : i = j - 1
          · omega
          · exact ih i (j - 1) (by omega) (by omega)
        · rw [if_neg c3]
          by_cases c4 : i = lo
          · rw [if_pos c4]; exact p2 (j - 1) (by omega) (by omega)
          · rw [if_neg c4]; exact ih (i - 1) (j - 1) (by omega) (by omega)
theorem rk_sur (o : Nat → Nat → Ordering) : ∀ n l, l < n → ∃ i, i < n ∧ rk o n i = l := by
  intro n
  induction n with
  | zero => intro l h; omega
  | succ n ih =>
    intro l hl
    have hle := (rk_bs_le (rk_p o (rk o n) n) _ 0 n rfl (by omega)).2
    by_cases e : l = n
    · refine ⟨rk_bs (rk_p o (rk o n) n) 0 n, by omega, ?_⟩
      show rk_ins _ _ _ _ = _
      unfold rk_ins
      rw [if_neg (by omega), if_pos rfl, e]
    · obtain ⟨i, h1, h2⟩ := ih l (by omega)
      by_cases c : i < rk_bs (rk_p o (rk o n) n) 0 n
      · refine ⟨i, by omega, ?_⟩
        show rk_ins _ _ _ _ = _
        unfold rk_ins
        rw [if_pos c]; exact h2
      · refine ⟨i + 1, by omega, ?_⟩
        show rk_ins _ _ _ _ = _
        unfold rk_ins
        rw [if_neg (by omega), if_neg (by omega), Nat.add_sub_cancel]; exact h2
theorem rk_inj {o : Nat → Nat → Ordering} (h : gc o) {n i j : Nat} (hi : i < n) (hj : j < n) (e : rk o n i = rk o n j) : i = j := by
  rcases Nat.lt_trichotomy i j with c | c | c
  · have := rk_so h n i j c hj; rw [e, bf_irr h] at this; cases this
  · exact c
  · have := rk_so h n j i c hi; rw [e, bf_irr h] at this; cases this
/-- the rank of a line -/
def rx (r : Nat → Nat) : Nat → Nat → Nat
  | 0, _ => 0
  | j + 1, l => if l = r j then j else rx r j l
theorem rx_v {r : Nat → Nat} {g : Nat → Int32} {l : Nat} : ∀ n, (∃ i, i < n ∧ r i = l) → rk_v r g n l = nI (rx r n l) ∧ rx r n l < n ∧ r (rx r n l) = l := by
  intro n
  induction n with
  | zero => intro ⟨i, h, _⟩; omega
  | succ n ih =>
    intro ⟨i, h1, h2⟩
    show upd (rk_v r g n) (r n) (nI n) l = _ ∧ _
    rw [rx]
    by_cases e : l = r n
    · rw [if_pos e]; refine ⟨?_, by omega, e.symm⟩; rw [e, pk_us]
    · rw [if_neg e, pk_un e]
      obtain ⟨a, b, c⟩ := ih ⟨i, by rcases Nat.lt_or_ge i n with z | z; exact z; exact absurd (by rw [← h2, show i = n by omega]) e, h2⟩
      exact ⟨a, by omega, c⟩
/-- ranks are as the lines are -/
theorem rx_ok (o : Nat → Nat → Ordering) (g : Nat → Int32) {n l : Nat} (hl : l < n) : rk_v (rk o n) g n l = nI (rx (rk o n) n l) ∧ rx (rk o n) n l < n ∧ rk o n (rx (rk o n) n l) = l := rx_v n (rk_sur o n l hl)
theorem rx_lt {o : Nat → Nat → Ordering} (h : gc o) {n a b : Nat} (ha : a < n) (hb : b < n) : bf o a b = true ↔ rx (rk o n) n a < rx (rk o n) n b := by
  obtain ⟨_, a1, a2⟩ := rx_ok o (fun _ => 0) ha
  obtain ⟨_, b1, b2⟩ := rx_ok o (fun _ => 0) hb
  constructor
  · intro hbf
    rcases Nat.lt_trichotomy (rx (rk o n) n a) (rx (rk o n) n b) with c | c | c
    · exact c
    · rw [c, b2] at a2; rw [a2, bf_irr h] at hbf; cases hbf
    · have := rk_so h n _ _ c a1; rw [a2, b2] at this; rw [bf_as h this] at hbf; cases hbf
  · intro c
    have := rk_so h n _ _ c b1; rw [a2, b2] at this; exact this
theorem rx_rk {o : Nat → Nat → Ordering} (h : gc o) {n i : Nat} (hi : i < n) : rx (rk o n) n (rk o n i) = i := by
  obtain ⟨_, a1, a2⟩ := rx_ok o (fun _ => 0) (rk_lt o n i hi)
  exact rk_inj h a1 hi a2
theorem rx_inj {o : Nat → Nat → Ordering} {n a b : Nat} (ha : a < n) (hb : b < n) (e : rx (rk o n) n a = rx (rk o n) n b) : a = b := by
  obtain ⟨_, a1, a2⟩ := rx_ok o (fun _ => 0) ha
  obtain ⟨_, b1, b2⟩ := rx_ok o (fun _ => 0) hb
  rw [e, b2] at a2; exact a2.symm
theorem rk_ext {o o2 : Nat → Nat → Ordering} {n : Nat} (h : ∀ a b, a < n → b < n → o a b = o2 a b) : ∀ m, m ≤ n → ∀ i, i < m → rk o m i = rk o2 m i := by
  intro m
  induction m with
  | zero => intro _ i hi; omega
  | succ m ih =>
    intro hm i hi
    have hbs : ∀ (k lo hi : Nat), hi - lo = k → lo ≤ hi → hi ≤ m → rk_bs (rk_p o (rk o m) m) lo hi = rk_bs (rk_p o2 (rk o2 m) m) lo hi := by
      intro k
      induction k using Nat.strongRecOn with
      | _ k ih2 =>
        intro lo hi hk h1 h2
        by_cases c : lo < hi
        · have e : rk_p o (rk o m) m ((lo + hi) / 2) = rk_p o2 (rk o2 m) m ((lo + hi) / 2) := by
            unfold rk_p
            have z := rk_lt o m ((lo + hi) / 2) (by omega)
            rw [h _ _ (by omega) (by omega), ih (by omega) _ (by omega)]
          cases e2 : rk_p o (rk o m) m ((lo + hi) / 2) with
          | true => rw [rk_bs_t c e2, rk_bs_t c (by rw [← e]; exact e2)]; exact ih2 _ (by omega) _ _ rfl (by omega) h2
          | false => rw [rk_bs_f c e2, rk_bs_f c (by rw [← e]; exact e2)]; exact ih2 _ (by omega) _ _ rfl (by omega) (by omega)
        · rw [rk_bs_e (by omega), rk_bs_e (by omega)]
    have hle := (rk_bs_le (rk_p o2 (rk o2 m) m) _ 0 m rfl (by omega)).2
    show rk_ins _ _ _ i = rk_ins _ _ _ i
    rw [hbs _ 0 m rfl (by omega) (Nat.le_refl _)]
    unfold rk_ins
    split
    · exact ih (by omega) i (by omega)
    · split
      · rfl
      · exact ih (by omega) (i - 1) (by omega)
