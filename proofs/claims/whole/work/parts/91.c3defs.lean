/-! what a call of the class that may throw leaves -/
def PT (t : Nat) (Q : Option Value → va_W → Prop) : Option Value → va_W → Prop := fun r w => t = 0 ∧ Q r w
def ET (t : Nat) (c : Nat → String) (w0 : va_W) : String → va_W → Prop := fun X w => t ≠ 0 ∧ X = c t ∧ w = w0
theorem ET.of {t k : Nat} {c : Nat → String} {w0 : va_W} {X : String} (h : t = k) (hk : k ≠ 0) (hc : X = c k) : ET t c w0 X w0 := by subst h; exact ⟨hk, hc, rfl⟩
def xIS : Nat → String := fun _ => "java/lang/IllegalStateException"
def xIA : Nat → String := fun _ => "java/lang/IllegalArgumentException"
def xUO : Nat → String := fun _ => "java/lang/UnsupportedOperationException"
def xIO : Nat → String := fun _ => "java/lang/IndexOutOfBoundsException"
def xAU : Nat → String := fun t => if t = 1 then "java/lang/IllegalArgumentException" else "java/lang/UnsupportedOperationException"
theorem kys_add {kc : Nat} {kf : Nat → Option Nat} {ks : va_W} {ka : Nat → Nat} {kd : Nat → Nat → Nat} {kg : Nat → Int32} (h : kys kc kf ks ka kd kg) (hk : kc < 6) {a : Nat} {f c e d g : Int32} (hn : f = nI (iN f) ∧ c = nI (iN c) ∧ e = nI (iN e) ∧ d = nI (iN d)) (h1 : 1 ≤ iN f) (h2 : iN f ≤ 1000) (h3 : 1 ≤ iN c) (h4 : iN c ≤ 1000) (h5 : iN e ≤ 1000) (h6 : iN d ≤ 1000) :
    kys (kc + 1) (va_up kf kc (some a)) (ks.take kc ++ (a, .inr (4, [.int f, .int c, .int e, .int d, .int g])) :: ks.drop kc) (updN ka kc a) (kd_a kd kc f c e d) (upd kg kc g) := by
  have hlen : kc ≤ ks.length := by
    rcases Nat.lt_or_ge ks.length kc with z | z
    · have := (h.2 ks.length z).2.1
      rw [List.getElem?_eq_none (Nat.le_refl _)] at this; cases this
    · exact z
  have htk : (ks.take kc).length = kc := by rw [List.length_take]; omega
  refine ⟨by omega, fun k hk2 => ?_⟩
  by_cases e1 : k = kc
  · subst e1
    obtain ⟨z0, z1, z2, z3⟩ := kd_a_0 (kd := kd) (kc := k) (f := f) (c := c) (e := e) (d := d)
    rw [z0, z1, z2, z3, updN_s, pk_us]
    refine ⟨by unfold va_up; rw [if_pos rfl], ?_, h1, h2, h3, h4, h5, h6⟩
    rw [List.getElem?_append_right (by omega), htk, Nat.sub_self, ← hn.1, ← hn.2.1, ← hn.2.2.1, ← hn.2.2.2]; rfl
  · have hk3 : k < kc := by omega
    obtain ⟨a1, a2, a3⟩ := h.2 k hk3
    rw [kd_a_n e1, kd_a_n e1, kd_a_n e1, kd_a_n e1, updN_n e1, pk_un e1]
    refine ⟨by unfold va_up; rw [if_neg e1]; exact a1, ?_, a3⟩
    rw [List.getElem?_append_left (by omega), List.getElem?_take_of_lt hk3]; exact a2
section
variable {G : XG} {q : Nat → Nat} {x : Nat → Int32} {n : Nat → Nat} {f : Nat → Nat → Int32} {kf : Nat → Option Nat} {kl : va_W}
theorem wC_new {c : Nat × va_E} : (wC G q x n f kf kl ++ [c]).Perm (c :: wC G q x n f kf kl) := List.perm_append_singleton _ _
theorem wC_in {c : Nat × va_E} : (c :: wC G q x n f kf kl).Perm (wC G q x n f kf (c :: kl)) := (List.perm_middle (l₁ := [_, _, _, _, _, _, _, _, _, _, _, _, _, _, _, _, _, _, _])).symm
theorem wC_kl {kl2 : va_W} (h : kl.Perm kl2) : (wC G q x n f kf kl).Perm (wC G q x n f kf kl2) := h.append_left [_, _, _, _, _, _, _, _, _, _, _, _, _, _, _, _, _, _, _]
theorem ks_in {ks T : va_W} {c : Nat × va_E} (k : Nat) : (c :: (ks ++ T)).Perm ((ks.take k ++ c :: ks.drop k) ++ T) := by
  have h : (ks.take k ++ c :: ks.drop k).Perm (c :: ks) := by
    have := List.perm_middle (a := c) (l₁ := ks.take k) (l₂ := ks.drop k)
    rw [List.take_append_drop] at this; exact this
  exact (h.append_right T).symm
end
theorem CI.rc0 {s : SS} {x : Nat → Int32} {n : Nat → Nat} {f : Nat → Nat → Int32} {kf : Nat → Option Nat} {ks : va_W} {bc : Nat} {br ka : Nat → Nat} (h : CI s x n f kf ks bc br ka) {s2 : SS} {x2 : Nat → Int32} {n2 : Nat → Nat} {f2 : Nat → Nat → Int32} {bc2 : Nat} {br2 : Nat → Nat} (hg : SG s2) (ht : txt x2 n2 f2 s2.len bc2 br2 s2.B) (hb : brk s2.B s2.len bc2 br2) (hfit : ∀ i, fits .byte (.int (f2 0 i)) = true) (hn : 4 ≤ n2 0 ∧ n2 0 ≤ 40000 ∧ 4 ≤ n2 1 ∧ n2 1 ≤ 40000) (hx : ∀ i, i ≠ 0 → i ≠ 3 → i ≠ 4 → x2 i = x i) (hx0 : x2 0 = nI 0) (hf : ∀ j, 2 ≤ j → f2 j = f j) (e : s2 = SS.mk s2.len s2.B s.sep s.all s.bs s.bo s.kc s.kd s.kg s.mem s.wy 0 s.rl s.un s.ul s.mg s.mv s.gn) : CI s2 x2 n2 f2 kf ks bc2 br2 ka := by
  have e2 : ∀ (p : SS → Prop), p (SS.mk s2.len s2.B s.sep s.all s.bs s.bo s.kc s.kd s.kg s.mem s.wy 0 s.rl s.un s.ul s.mg s.mv s.gn) → p s2 := fun p hp => by rw [e]; exact hp
  refine ⟨hg, ht, hb, hfit, hn, ?_⟩
  refine e2 (fun s2 => x2 5 = s2.sep ∧ x2 6 = nI s2.kc ∧ x2 7 = s2.all ∧ x2 8 = bI s2.bs ∧ x2 9 = bI s2.bo ∧ kys s2.kc kf ks ka s2.kd s2.kg ∧ x2 1 = nI s2.mem ∧ x2 2 = nI s2.wy ∧ x2 0 = nI s2.rc ∧ (∀ i, i < s2.rc → f2 7 i = nI (s2.rl i)) ∧ x2 21 = nI s2.un ∧ (∀ i, i < s2.un → f2 5 i = nI (s2.ul i)) ∧ x2 22 = nI s2.mg ∧ x2 23 = nI s2.mv ∧ x2 24 = nI s2.gn) ?_
  exact ⟨(hx 5 (by omega) (by omega) (by omega)).trans h.x5, (hx 6 (by omega) (by omega) (by omega)).trans h.x6, (hx 7 (by omega) (by omega) (by omega)).trans h.x7, (hx 8 (by omega) (by omega) (by omega)).trans h.x8, (hx 9 (by omega) (by omega) (by omega)).trans h.x9, h.k, (hx 1 (by omega) (by omega) (by omega)).trans h.x1, (hx 2 (by omega) (by omega) (by omega)).trans h.x2, hx0, fun i hi => absurd hi (Nat.not_lt_zero _), (hx 21 (by omega) (by omega) (by omega)).trans h.x21, fun i hi => by rw [hf 5 (by omega)]; exact h.u i hi, (hx 22 (by omega) (by omega) (by omega)).trans h.x22, (hx 23 (by omega) (by omega) (by omega)).trans h.x23, (hx 24 (by omega) (by omega) (by omega)).trans h.x24⟩
