/-! both ways of reading and comparing numbers are one -/
theorem sk_all {p : Nat → Bool} {to : Nat} : ∀ (k a : Nat), to - a = k → ∀ j, a ≤ j → j < sk p to a → p j = true := by
  intro k
  induction k using Nat.strongRecOn with
  | _ k ih =>
    intro a hk j h1 h2
    by_cases h : a < to ∧ p a = true
    · rw [sk_step h.1 h.2] at h2
      by_cases e : j = a
      · rw [e]; exact h.2
      · exact ih _ (by omega) (a + 1) rfl j (by omega) h2
    · rw [sk_stop (fun z => by cases hp : p a with | false => rfl | true => exact absurd ⟨z, hp⟩ h)] at h2
      omega
theorem rl_cong {g g2 : Nat → Int32} : ∀ (n a : Nat), (∀ i, a ≤ i → i < a + n → g i = g2 i) → rl g n a = rl g2 n a := by
  intro n
  induction n with
  | zero => intro a _; rfl
  | succ n ih => intro a h; rw [rl, rl, h a (by omega) (by omega), ih (a + 1) (fun i h1 h2 => h i (by omega) (by omega))]
theorem rl_len (g : Nat → Int32) : ∀ (n a : Nat), (rl g n a).length = n := by
  intro n
  induction n with
  | zero => intro a; rfl
  | succ n ih => intro a; rw [rl, List.length_cons, ih]
theorem rl_app {g : Nat → Int32} : ∀ (n a : Nat), rl g (n + 1) a = rl g n a ++ [g (a + n)] := by
  intro n
  induction n with
  | zero => intro a; rfl
  | succ n ih => intro a; rw [rl, ih (a + 1), rl, List.cons_append, show a + 1 + n = a + (n + 1) by omega]
theorem wb_rl {B : Nat → Int32} {a e : Nat} : wb B (nI 0) a e = rl (fun i => B i &&& nI 255) (e - a) a := by
  unfold wb
  generalize e - a = n
  induction n generalizing a with
  | zero => rfl
  | succ n ih =>
    have h : wgB B (nI 0) a = B a &&& nI 255 := by
      unfold wgB wg_t
      rw [show nI 0 &&& nI 8 = 0 by decide, show nI 0 &&& nI 2 = 0 by decide, show nI 0 &&& nI 4 = 0 by decide]
      simp
    rw [wl, rl, if_neg, h, ih]
    rw [h]
    obtain ⟨k, hk, e⟩ := b255 (B a)
    rw [e]
    intro z
    have := congrArg Int32.toInt z
    rw [nI_toInt (by omega)] at this
    have e2 : (-2 : Int32).toInt = -2 := by decide
    omega
theorem dig_val {B : Nat → Int32} {i : Nat} (h : pb_dig B i = true) : ∃ c : Nat, 48 ≤ c ∧ c ≤ 57 ∧ B i = nI c := by
  simp only [pb_dig, Bool.and_eq_true, Bool.not_eq_true', decide_eq_false_iff_not] at h
  obtain ⟨h1, h2⟩ := h
  rw [Int32.lt_iff_toInt_lt] at h1 h2
  have e1 : (nI 48).toInt = 48 := by decide
  have e2 : (nI 57).toInt = 57 := by decide
  refine ⟨(B i).toInt.toNat, by omega, by omega, ?_⟩
  apply Int32.toInt_inj.mp
  rw [nI_toInt (by omega)]
  omega
theorem dig_255 {B : Nat → Int32} {i : Nat} (h : pb_dig B i = true) : B i &&& nI 255 = B i := by
  obtain ⟨c, h1, h2, e⟩ := dig_val h
  rw [e, pk_and _ 8 (by decide), pk_tn (by omega)]
  congr 1
  omega
theorem zero_eq {B : Nat → Int32} {i : Nat} (h : pb_dig B i = true) : pb_zero B i = decide (B i = nI 48) := by
  unfold pb_zero; rw [dig_255 h]
theorem dl_rl {B : Nat → Int32} {e : Nat} : ∀ (k i : Nat), e - i = k → dl B e i = rl B (sk (pb_dig B) e i - i) i := by
  intro k
  induction k using Nat.strongRecOn with
  | _ k ih =>
    intro i hk
    cases h : md B e i with
    | true =>
      have h1 := md_lt h
      have h2 : pb_dig B i = true := by simp [md, h1] at h; exact h
      rw [dl_t h, sk_step h1 h2, ih _ (by omega) (i + 1) rfl]
      have h3 := sk_ge (pb_dig B) e (i + 1)
      rw [show sk (pb_dig B) e (i + 1) - i = (sk (pb_dig B) e (i + 1) - (i + 1)) + 1 by omega, rl]
    | false =>
      rw [dl_f h, sk_stop (fun z => by simp [md, z] at h; exact h)]
      simp [rl]
/-- a row without the zeros at its end -/
def stz : List Int32 → List Int32
  | [] => []
  | x :: xs => if (stz xs).isEmpty && decide (x = nI 48) then [] else x :: stz xs
theorem stz_app (l : List Int32) (x : Int32) : stz (l ++ [x]) = if x = nI 48 then stz l else l ++ [x] := by
  induction l with
  | nil =>
    show (if (stz []).isEmpty && decide (x = nI 48) then [] else x :: stz []) = _
    by_cases h : x = nI 48
    · simp [stz, h]
    · simp [stz, h]
  | cons y ys ih =>
    rw [List.cons_append, stz, ih]
    by_cases h : x = nI 48
    · rw [if_pos h, if_pos h, stz]
    · rw [if_neg h, if_neg h]
      simp
theorem stz_rl {B : Nat → Int32} {lo : Nat} : ∀ n, (∀ i, lo ≤ i → i < lo + n → pb_dig B i = true) → stz (rl B n lo) = rl B (nm_strip B lo (lo + n) - lo) lo := by
  intro n
  induction n with
  | zero =>
    intro _
    have : nm_strip B lo (lo + 0) ≤ lo := Nat.le_trans (nm_strip_le _) (by omega)
    rw [show nm_strip B lo (lo + 0) - lo = 0 by omega]; rfl
  | succ n ih =>
    intro h
    rw [rl_app, stz_app, show lo + (n + 1) = (lo + n) + 1 by omega, nm_strip, zero_eq (h (lo + n) (by omega) (by omega))]
    by_cases e : B (lo + n) = nI 48
    · rw [if_pos e, if_pos ⟨by omega, decide_eq_true e⟩]
      exact ih (fun i h1 h2 => h i h1 (by omega))
    · rw [if_neg e, if_neg (fun z => e (of_decide_eq_true z.2)), ← rl_app]
      congr 1
      omega
theorem stz_nil (l : List Int32) : (stz l).isEmpty = allz l := by
  induction l with
  | nil => rfl
  | cons x xs ih =>
    rw [stz]
    have : allz (x :: xs) = (decide (x = nI 48) && allz xs) := rfl
    rw [this, ← ih]
    cases h1 : (stz xs).isEmpty <;> cases h2 : decide (x = nI 48) <;> simp
def ge48 (v : Int32) : Prop := ∃ c : Nat, 48 ≤ c ∧ c ≤ 57 ∧ v = nI c
theorem oi_48 {v : Int32} (h : ge48 v) : oi (nI 48) v = if v = nI 48 then .eq else .lt := by
  obtain ⟨c, h1, h2, rfl⟩ := h
  rw [oi_nI (by decide) (by omega)]
  unfold on
  by_cases e : c = 48
  · subst e; simp
  · rw [if_neg (by omega), if_pos (by omega), if_neg (fun z => e ((xn_inj (by omega) (by decide)).mp z))]
theorem pz_l : ∀ (ys : List Int32), (∀ v ∈ ys, ge48 v) → pz [] ys = lx [] (stz ys) := by
  intro ys
  induction ys with
  | nil => intro _; rw [pz]; rfl
  | cons y ys ih =>
    intro h
    rw [pz, oi_48 (h y List.mem_cons_self), ih (fun v hv => h v (List.mem_cons_of_mem _ hv)), stz]
    by_cases e : y = nI 48
    · rw [if_pos e]
      cases h1 : stz ys with
      | nil => simp [e, Ordering.then]
      | cons z zs => simp [lx, Ordering.then]
    · rw [if_neg e]
      simp [e, lx, Ordering.then]
theorem pz_sw : ∀ (xs ys : List Int32), pz ys xs = (pz xs ys).swap := by
  intro xs
  induction xs with
  | nil =>
    intro ys
    induction ys with
    | nil => rw [pz]; rfl
    | cons y ys ih =>
      rw [pz, pz, ih, gc_oi.1 (nI 48) y]
      cases oi (nI 48) y <;> rfl
  | cons x xs ih =>
    intro ys
    cases ys with
    | nil =>
      rw [pz, pz, ih [], gc_oi.1 x (nI 48)]
      cases oi x (nI 48) <;> rfl
    | cons y ys =>
      rw [pz, pz, ih ys, gc_oi.1 x y]
      cases oi x y <;> rfl
theorem pz_stz : ∀ (xs ys : List Int32), (∀ v ∈ xs, ge48 v) → (∀ v ∈ ys, ge48 v) → pz xs ys = lx (stz xs) (stz ys) := by
  intro xs
  induction xs with
  | nil => intro ys _ h; exact pz_l ys h
  | cons x xs ih =>
    intro ys h1 h2
    cases ys with
    | nil => rw [pz_sw [] (x :: xs), pz_l _ h1, ← gc_lx.1]; rfl
    | cons y ys =>
      have g1 := h1 x List.mem_cons_self
      have g2 := h2 y List.mem_cons_self
      have hi := ih ys (fun v hv => h1 v (List.mem_cons_of_mem _ hv)) (fun v hv => h2 v (List.mem_cons_of_mem _ hv))
      rw [pz, hi, stz, stz]
      by_cases e : x = y
      · subst e
        rw [oi_eq rfl, eq_then]
        by_cases e2 : x = nI 48
        · cases s1 : stz xs with
          | nil =>
            cases s2 : stz ys with
            | nil => simp [e2]
            | cons b bs => simp [e2, lx]
          | cons a as =>
            cases s2 : stz ys with
            | nil => simp [e2, lx]
            | cons b bs => simp [lx]
        · simp [e2, lx]
      · have ne : ∀ o : Ordering, (oi x y).then o = oi x y := fun o => then_ne (oi_ne e)
        rw [ne]
        by_cases e1 : x = nI 48
        · have e2 : ¬ y = nI 48 := fun z => e (e1.trans z.symm)
          rw [e1, oi_48 g2, if_neg e2]
          cases s1 : stz xs with
          | nil => simp [e2, lx]
          | cons a as =>
            simp [e2]
            rw [lx_cons, then_ne (oi_ne (fun z => e2 z.symm)), oi_48 g2, if_neg e2]
        · by_cases e2 : y = nI 48
          · have hs : oi x (nI 48) = .gt := by rw [gc_oi.1 (nI 48) x, oi_48 g1, if_neg e1]; rfl
            rw [e2, hs]
            cases s2 : stz ys with
            | nil => simp [e1, lx]
            | cons b bs =>
              simp [e1]
              rw [lx_cons, hs]; rfl
          · simp [e1, e2]
            rw [lx_cons, ne]
/-- the fraction, both ways -/
theorem fr_eq {B : Nat → Int32} {e a len : Nat} (hb : bfit B len) (he : e ≤ len) : wb B (nI 0) (nm_frac B e a) (nm_fstop B e a) = stz (dl B e (mp B e (nm_whole B e a))) := by
  by_cases hp : nm_point B e a = true
  · have hp2 := hp
    simp only [nm_point, Bool.and_eq_true, decide_eq_true_eq] at hp2
    have h1 : mp B e (nm_whole B e a) = nm_frac B e a := by
      unfold mp nm_frac
      rw [if_pos hp, if_pos ⟨hp2.1, (by_eq (hb _ (by have := hp2.1; unfold nm_wstop at this; omega)) (by decide)).mp hp2.2⟩]; rfl
    have h2 : nm_fend B e a = sk (pb_dig B) e (nm_frac B e a) := by unfold nm_fend; rw [if_pos hp]
    have h3 := sk_ge (pb_dig B) e (nm_frac B e a)
    have hall := sk_all (p := pb_dig B) (to := e) _ (nm_frac B e a) rfl
    rw [h1, dl_rl _ _ rfl, stz_rl _ (fun i g1 g2 => hall i g1 (by omega)), wb_rl, nm_fstop, h2, show nm_frac B e a + (sk (pb_dig B) e (nm_frac B e a) - nm_frac B e a) = sk (pb_dig B) e (nm_frac B e a) by omega]
    refine rl_cong _ _ (fun i g1 g2 => dig_255 (hall i g1 ?_))
    have := nm_strip_le (B := B) (lo := nm_frac B e a) (sk (pb_dig B) e (nm_frac B e a))
    omega
  · have hp' : nm_point B e a = false := by simpa using hp
    have h1 : mp B e (nm_whole B e a) = e := by
      unfold mp
      rw [if_neg]
      rintro ⟨g1, g2⟩
      apply hp
      unfold nm_point
      have g3 : B (nm_wstop B e a) &&& nI 255 = nI 46 := (by_eq (hb (sk (pb_dig B) e (nm_whole B e a)) (by omega)) (by decide)).mpr g2
      rw [decide_eq_true (show nm_wstop B e a < e from g1), decide_eq_true g3]; rfl
    have h2 : nm_fend B e a = nm_frac B e a := by unfold nm_fend; rw [if_neg hp]
    have h3 : nm_fstop B e a ≤ nm_frac B e a := by unfold nm_fstop; rw [h2]; exact nm_strip_le _
    rw [h1, dl_f (by simp [md]), wb_nil h3]; rfl
theorem dl_ge {B : Nat → Int32} {e i : Nat} : ∀ v ∈ dl B e i, ge48 v := by
  have : ∀ n i, ∀ v ∈ dl_n B n i, ge48 v := by
    intro n
    induction n with
    | zero => intro i v hv; cases hv
    | succ n ih =>
      intro i v hv
      rw [dl_n] at hv
      split at hv
      · rename_i h
        rcases List.mem_cons.mp hv with h1 | h1
        · rw [h1]; exact dig_val h
        · exact ih _ v h1
      · cases hv
  exact this _ _
theorem wh_eq {B : Nat → Int32} {e a : Nat} : wb B (nI 0) (nm_whole B e a) (nm_wstop B e a) = rl B (nm_wstop B e a - nm_whole B e a) (nm_whole B e a) := by
  rw [wb_rl]
  have h3 : nm_whole B e a ≤ nm_wstop B e a := sk_ge (pb_dig B) e (nm_whole B e a)
  refine rl_cong _ _ (fun i g1 g2 => dig_255 (sk_all (p := pb_dig B) (to := e) _ (nm_whole B e a) rfl i g1 ?_))
  show i < nm_wstop B e a
  omega
theorem frac_le_fstop {B : Nat → Int32} {e a : Nat} : nm_frac B e a ≤ nm_fstop B e a := by
  have h1 : nm_frac B e a ≤ nm_fend B e a := by unfold nm_fend; split; exact sk_ge _ _ _; exact Nat.le_refl _
  unfold nm_fstop
  have : ∀ k lo, lo ≤ k → lo ≤ nm_strip B lo k := by
    intro k
    induction k with
    | zero => intro lo h; simpa [nm_strip] using h
    | succ k ih => intro lo h; rw [nm_strip]; split; (rename_i h2; exact ih lo (by omega)); exact h
  exact this _ _ h1
theorem mz_eq {B : Nat → Int32} {e a len : Nat} (hb : bfit B len) (he : e ≤ len) : mz B e (nm_whole B e a) = nm_zero B e a := by
  unfold mz nm_zero
  congr 1
  · cases h : md B e (nm_whole B e a) with
    | true =>
      have h1 := md_lt h
      have h2 : pb_dig B (nm_whole B e a) = true := by simp [md, h1] at h; exact h
      have h3 := sk_ge (pb_dig B) e (nm_whole B e a + 1)
      have h4 : nm_wstop B e a = sk (pb_dig B) e (nm_whole B e a + 1) := sk_step h1 h2
      rw [decide_eq_false (by omega)]; rfl
    | false =>
      have h4 : nm_wstop B e a = nm_whole B e a := sk_stop (fun z => by simp [md, z] at h; exact h)
      rw [decide_eq_true h4.symm]; rfl
  · rw [← stz_nil, ← fr_eq hb he, wb_rl]
    have h1 := rl_len (fun i => B i &&& nI 255) (nm_fstop B e a - nm_frac B e a) (nm_frac B e a)
    have h2 := frac_le_fstop (B := B) (e := e) (a := a)
    by_cases e0 : nm_frac B e a = nm_fstop B e a
    · rw [decide_eq_true e0, show nm_fstop B e a - nm_frac B e a = 0 by omega]; rfl
    · rw [decide_eq_false e0]
      cases hl : rl (fun i => B i &&& nI 255) (nm_fstop B e a - nm_frac B e a) (nm_frac B e a) with
      | nil => rw [hl] at h1; simp at h1; omega
      | cons _ _ => rfl
theorem msg_eq {B : Nat → Int32} {e a len : Nat} (hb : bfit B len) (he : e ≤ len) : ms_g B e a = nm_sign B e a := by
  unfold ms_g nm_sign
  rw [mz_eq hb he]
theorem msz_eq {B : Nat → Int32} {a a2 b b2 len : Nat} (hb : bfit B len) (h2 : a2 ≤ len) (h4 : b2 ≤ len) : msz B (nm_whole B a2 a) a2 (nm_whole B b2 b) b2 = nc_m B a a2 b b2 := by
  unfold msz nc_m
  rw [wh_eq, wh_eq, fr_eq hb h2, fr_eq hb h4, pz_stz _ _ dl_ge dl_ge]
  show (on (nm_wstop B a2 a - nm_whole B a2 a) (nm_wstop B b2 b - nm_whole B b2 b)).then _ = _
  by_cases e : nm_wstop B a2 a - nm_whole B a2 a = nm_wstop B b2 b - nm_whole B b2 b
  · rw [on_eq e, eq_then, eq_then]
    show (lx (rl B (nm_wstop B a2 a - nm_whole B a2 a) _) (rl B (nm_wstop B a2 a - nm_whole B a2 a) _)).then _ = _
    rw [e]
  · rw [then_ne (on_ne e), then_ne (on_ne e), then_ne (on_ne e)]
theorem nc_0 {B : Nat → Int32} {a a2 b b2 : Nat} (h1 : nm_sign B a2 a = nI 0) (h2 : nm_sign B b2 b = nI 0) : nc B a a2 b b2 = .eq := by
  rw [nc_eq (h1.trans h2.symm), h1, if_neg (by decide)]
  have z : ∀ {c d : Nat}, nm_sign B d c = nI 0 → nm_zero B d c = true := by
    intro c d h
    unfold nm_sign at h
    cases hz : nm_zero B d c with
    | true => rfl
    | false =>
      rw [hz, if_neg (by decide)] at h
      split at h <;> exact absurd h (by decide)
  have z1 := z h1
  have z2 := z h2
  simp only [nm_zero, Bool.and_eq_true, decide_eq_true_eq] at z1 z2
  unfold nc_m
  rw [← z1.1, ← z1.2, ← z2.1, ← z2.2, wb_nil (Nat.le_refl _), wb_nil (Nat.le_refl _), wb_nil (Nat.le_refl _), wb_nil (Nat.le_refl _), Nat.sub_self, Nat.sub_self]
  rfl
theorem nc_mul {B : Nat → Int32} {a a2 b b2 : Nat} (h : nm_sign B a2 a = nm_sign B b2 b) (h0 : ¬ nm_sign B a2 a = 0) : nm_sign B a2 a * oI (nc_m B a a2 b b2) = oI (nc B a a2 b b2) := by
  rw [nc_eq h]
  have hs : nm_sign B a2 a = -1 ∨ nm_sign B a2 a = nI 1 := by
    unfold nm_sign at *
    split at h0
    · exact absurd rfl h0
    · rename_i hz
      rw [if_neg hz]
      split
      · exact Or.inl rfl
      · exact Or.inr rfl
  rcases hs with hs | hs
  · rw [hs, if_pos (by decide)]
    cases nc_m B a a2 b b2 <;> decide
  · rw [hs, if_neg (by decide)]
    cases nc_m B a a2 b b2 <;> decide
