set_option maxRecDepth 100000 in
set_option maxHeartbeats 4000000 in
theorem c_T_makeRoom {G : XG} {q : Nat → Nat} {x : Nat → Int32} {n : Nat → Nat} {f : Nat → Nat → Int32} {kf : Nat → Option Nat} {kl : va_W} {len bc : Nat} {br : Nat → Nat} {B : Nat → Int32} (ht : txt x n f len bc br B) (hfit : ∀ i, fits .byte (.int (f 0 i)) = true) (hn : 4 ≤ n 0 ∧ n 0 ≤ 40000 ∧ 4 ≤ n 1 ∧ n 1 ≤ 40000) (hle : len + 4 ≤ 20000) : MM G m_T_makeRoom (xr 2 2 (2 * (gr len (n 0) - n 0) + 2 * (gr bc (n 1) - n 1))) [.ref (q 1), .int (nI 4)] (wC G q x n f kf kl) (fun r w => r = none ∧ ∃ (q2 : Nat → Nat) (f2 : Nat → Nat → Int32), w = wC G q2 x (gn len bc n) f2 kf kl ∧ (∀ i, i ≠ 2 → i ≠ 3 → q2 i = q i) ∧ (∀ i, i < len → f2 0 i = f 0 i) ∧ (∀ i, i < bc → f2 1 i = f 1 i) ∧ (∀ j, 2 ≤ j → f2 j = f j) ∧ ∀ i, fits .byte (.int (f2 0 i)) = true) := by
  obtain ⟨hx3, hx4, hl0, hn0, hb1, hn1, hbr, hB⟩ := id ht
  refine MM.of rfl (xn_le rfl) ?_
  refine (?_ : XX G m_T_makeRoom (xr 2 2 (2 * (gr len (n 0) - n 0) + 2 * (gr bc (n 1) - n 1))) (xx_F G (fun r w => r = none ∧ ∃ (q2 : Nat → Nat) (f2 : Nat → Nat → Int32), w = wC G q2 x (gn len bc n) f2 kf kl ∧ (∀ i, i ≠ 2 → i ≠ 3 → q2 i = q i) ∧ (∀ i, i < len → f2 0 i = f 0 i) ∧ (∀ i, i < bc → f2 1 i = f 1 i) ∧ (∀ j, 2 ≤ j → f2 j = f j) ∧ ∀ i, fits .byte (.int (f2 0 i)) = true) (xr 2 2 (2 * (gr len (n 0) - n 0) + 2 * (gr bc (n 1) - n 1)))) 0 0 (wC G q x n f kf kl) 0 [(0, .ref (q 1)), (1, .int (nI 4))] [])
  have j64 : ∀ (q2 : Nat → Nat) (f2 : Nat → Nat → Int32), (∀ i, i ≠ 2 → i ≠ 3 → q2 i = q i) → (∀ i, i < len → f2 0 i = f 0 i) → (∀ i, i < bc → f2 1 i = f 1 i) → (∀ j, 2 ≤ j → f2 j = f j) → (∀ i, fits .byte (.int (f2 0 i)) = true) → XX G m_T_makeRoom (xr 2 2 (2 * (gr len (n 0) - n 0) + 2 * (gr bc (n 1) - n 1))) (xx_F G (fun r w => r = none ∧ ∃ (q2 : Nat → Nat) (f2 : Nat → Nat → Int32), w = wC G q2 x (gn len bc n) f2 kf kl ∧ (∀ i, i ≠ 2 → i ≠ 3 → q2 i = q i) ∧ (∀ i, i < len → f2 0 i = f 0 i) ∧ (∀ i, i < bc → f2 1 i = f 1 i) ∧ (∀ j, 2 ≤ j → f2 j = f j) ∧ ∀ i, fits .byte (.int (f2 0 i)) = true) (xr 2 2 (2 * (gr len (n 0) - n 0) + 2 * (gr bc (n 1) - n 1)))) 2 (2 * (gr len (n 0) - n 0) + 2 * (gr bc (n 1) - n 1)) (wC G q2 x (gn len bc n) f2 kf kl) 64 [(0, .ref (q 1))] [] := by
    intro q2 f2 a1 a2 a3 a4 a5
    exact XX.vret dd_T_makeRoom_64 rfl ⟨xr_c (Nat.le_refl _), xr_s (Nat.le_refl _)⟩ ⟨rfl, q2, f2, rfl, a1, a2, a3, a4, a5⟩
  have j32 : ∀ (q1 : Nat → Nat) (f1 : Nat → Nat → Int32), (∀ i, i ≠ 2 → q1 i = q i) → (∀ i, i < len → f1 0 i = f 0 i) → (∀ j, 1 ≤ j → f1 j = f j) → (∀ i, fits .byte (.int (f1 0 i)) = true) → XX G m_T_makeRoom (xr 2 2 (2 * (gr len (n 0) - n 0) + 2 * (gr bc (n 1) - n 1))) (xx_F G (fun r w => r = none ∧ ∃ (q2 : Nat → Nat) (f2 : Nat → Nat → Int32), w = wC G q2 x (gn len bc n) f2 kf kl ∧ (∀ i, i ≠ 2 → i ≠ 3 → q2 i = q i) ∧ (∀ i, i < len → f2 0 i = f 0 i) ∧ (∀ i, i < bc → f2 1 i = f 1 i) ∧ (∀ j, 2 ≤ j → f2 j = f j) ∧ ∀ i, fits .byte (.int (f2 0 i)) = true) (xr 2 2 (2 * (gr len (n 0) - n 0) + 2 * (gr bc (n 1) - n 1)))) 1 (2 * (gr len (n 0) - n 0)) (wC G q1 x (updN n 0 (gr len (n 0))) f1 kf kl) 32 [(0, .ref (q1 1)), (1, .int (nI 4))] [] := by
    intro q1 f1 b1 b2 b3 b4
    have hgl := gr_ge len (n 0)
    have hgb := gr_ge bc (n 1)
    refine XX.aload_n dd_T_makeRoom_32 rfl 0 rfl ?_
    refine XX.get (q0 := 1) (v := .int (x 4)) fl_T_23 dd_T_makeRoom_33 rfl rfl ?_
    refine XX.tp (y := nI bc) (hx4) ?_
    refine XX.iload_n dd_T_makeRoom_36 rfl 1 rfl ?_
    refine XX.iadd dd_T_makeRoom_37 ?_
    refine XX.tp (y := nI (bc + 4)) (nI_add _ _) ?_
    refine XX.aload_n dd_T_makeRoom_38 rfl 0 rfl ?_
    refine XX.get (q0 := 1) (v := .ref (q1 3)) fl_T_19 dd_T_makeRoom_39 rfl rfl ?_
    refine XX.alen (q0 := 3) (t0 := 1) (x := (n 1, .inl (f1 1))) dd_T_makeRoom_42 rfl rfl ?_
    refine XX.ncmp_le (tgt := 64) dd_T_makeRoom_43 (by decide) (by omega) (by omega) (fun h43 => ?_) (fun h43 => ?_)
    ·
      have e2 : gn len bc n = updN n 0 (gr len (n 0)) := by unfold gn; rw [gr_f h43]; exact updN_self (updN n 0 (gr len (n 0))) 1
      refine XX.widen (c2 := 2) (s2 := (2 * (gr len (n 0) - n 0) + 2 * (gr bc (n 1) - n 1))) (by omega) (by omega) ?_
      refine XX.cg (ws2 := wC G q1 x (gn len bc n) f1 kf kl) (lv2 := [(0, .ref (q1 1)), (1, .int (nI 4))]) (by rw [e2]) rfl rfl ?_
      refine XX.cg (ws2 := wC G q1 x (gn len bc n) f1 kf kl) (lv2 := [(0, .ref (q 1)), (1, .int (nI 4))]) rfl (by rw [b1 1 (by omega)]) rfl ?_
      refine XX.lvs [0] rfl ?_
      exact j64 q1 f1 (fun i h2 _ => b1 i h2) b2 (fun i hi => by rw [b3 1 (by omega)]) (fun j hj => b3 j (by omega)) b4
    ·
      refine XX.aload_n dd_T_makeRoom_46 rfl 0 rfl ?_
      refine XX.aload_n dd_T_makeRoom_47 rfl 0 rfl ?_
      refine XX.get (q0 := 1) (v := .ref (q1 3)) fl_T_19 dd_T_makeRoom_48 rfl rfl ?_
      refine XX.aload_n dd_T_makeRoom_51 rfl 0 rfl ?_
      refine XX.get (q0 := 1) (v := .ref (q1 3)) fl_T_19 dd_T_makeRoom_52 rfl rfl ?_
      refine XX.alen (q0 := 3) (t0 := 1) (x := (n 1, .inl (f1 1))) dd_T_makeRoom_55 rfl rfl ?_
      refine XX.iconst (v := nI 2) dd_T_makeRoom_56 (by decide) ?_
      refine XX.imul dd_T_makeRoom_57 ?_
      refine XX.tp (y := nI ((n 1) * 2)) (pk_mul _ _) ?_
      have hg1 : gr bc (n 1) = 2 * n 1 := gr_t h43
      refine XX.perm (ws2 := (q1 3, .inl (G.2.1 1, n 1, .inl (f1 1))) :: wC3 G q1 x (updN n 0 (gr len (n 0))) f1 kf kl) wC_3 ?_
      refine XX.callS (Mk := m_J_copyI) (n := 2) (As := [.ref (q1 3), .int (nI ((n 1) * 2))]) (rest := [.ref (q1 1)]) (c_J_copyI (G := G) (a := q1 3) (n1 := n 1) (n2 := n 1 * 2) (g := f1 1) (W0 := wC3 G q1 x (updN n 0 (gr len (n 0))) f1 kf kl) (by omega) (by omega)) mt_J_copyI ms_J_copyI ml_T_36 rfl dd_T_makeRoom_58 ⟨xn_le rfl, xn_le rfl⟩ ⟨xr_c (by show 1 + 1 ≤ 2; omega), xr_s (by show 2 * (gr len (n 0) - n 0) + n 1 * 2 ≤ (2 * (gr len (n 0) - n 0) + 2 * (gr bc (n 1) - n 1)); omega)⟩ (xn_le rfl) rfl (fun r1 w1 hp1 => ?_)
      obtain ⟨b, rfl, rfl⟩ := hp1
      refine XX.put (q0 := 3) (ws2 := (q1 3, .inl (G.2.1 1, n 1, .inl (f1 1))) :: (b, .inl (G.2.1 1, n 1 * 2, .inl (va_cpy (f1 1) (fun _ => 0) 0 0 (n 1)))) :: wC3 G (updN q1 3 b) x (updN n 0 (gr len (n 0))) f1 kf kl) fp_T_19 dd_T_makeRoom_61 rfl rfl rfl (xn_le rfl) rfl ?_
      refine XX.pm (l := [(q1 3, .inl (G.2.1 1, n 1, .inl (f1 1)))]) (ws2 := wC G (updN q1 3 b) x (updN (updN n 0 (gr len (n 0))) 1 (n 1 * 2)) (fup f1 1 (va_cpy (f1 1) (fun _ => 0) 0 0 (n 1))) kf kl) (List.Perm.cons _ (wC_3 (q := updN q1 3 b) (n := updN (updN n 0 (gr len (n 0))) 1 (n 1 * 2)) (f := fup f1 1 (va_cpy (f1 1) (fun _ => 0) 0 0 (n 1)))).symm) ?_
      refine XX.widen (c2 := 2) (s2 := (2 * (gr len (n 0) - n 0) + 2 * (gr bc (n 1) - n 1))) (by show 1 + 1 ≤ 2; omega) (by show 2 * (gr len (n 0) - n 0) + n 1 * 2 ≤ (2 * (gr len (n 0) - n 0) + 2 * (gr bc (n 1) - n 1)); omega) ?_
      have e2 : gn len bc n = updN (updN n 0 (gr len (n 0))) 1 (n 1 * 2) := by unfold gn; rw [hg1, Nat.mul_comm]
      refine XX.cg (ws2 := wC G (updN q1 3 b) x (gn len bc n) (fup f1 1 (va_cpy (f1 1) (fun _ => 0) 0 0 (n 1))) kf kl) (lv2 := [(0, .ref (q 1)), (1, .int (nI 4))]) (by rw [e2]) (by rw [b1 1 (by omega)]) rfl ?_
      refine XX.lvs [0] rfl ?_
      exact j64 _ _ (fun i h2 h3 => by rw [updN_n h3]; exact b1 i h2) b2 (fun i hi => by show va_cpy (f1 1) (fun _ => 0) 0 0 (n 1) i = _; rw [cpy_00 (by omega), b3 1 (by omega)]) (fun j hj => by unfold fup; rw [if_neg (by omega)]; exact b3 j (by omega)) b4
  refine XX.aload_n dd_T_makeRoom_0 rfl 0 rfl ?_
  refine XX.get (q0 := 1) (v := .int (x 3)) fl_T_15 dd_T_makeRoom_1 rfl rfl ?_
  refine XX.tp (y := nI len) (hx3) ?_
  refine XX.iload_n dd_T_makeRoom_4 rfl 1 rfl ?_
  refine XX.iadd dd_T_makeRoom_5 ?_
  refine XX.tp (y := nI (len + 4)) (nI_add _ _) ?_
  refine XX.aload_n dd_T_makeRoom_6 rfl 0 rfl ?_
  refine XX.get (q0 := 1) (v := .ref (q 2)) fl_T_11 dd_T_makeRoom_7 rfl rfl ?_
  refine XX.alen (q0 := 2) (t0 := 0) (x := (n 0, .inl (f 0))) dd_T_makeRoom_10 rfl rfl ?_
  refine XX.ncmp_le (tgt := 32) dd_T_makeRoom_11 (by decide) (by omega) (by omega) (fun h11 => ?_) (fun h11 => ?_)
  ·
    have e2 : updN n 0 (gr len (n 0)) = n := by rw [gr_f h11]; exact updN_self n 0
    refine XX.widen (c2 := 1) (s2 := 2 * (gr len (n 0) - n 0)) (by omega) (by omega) ?_
    refine XX.cg (ws2 := wC G q x (updN n 0 (gr len (n 0))) f kf kl) (lv2 := [(0, .ref (q 1)), (1, .int (nI 4))]) (by rw [e2]) rfl rfl ?_
    exact j32 q f (fun _ _ => rfl) (fun _ _ => rfl) (fun _ _ => rfl) hfit
  ·
    refine XX.aload_n dd_T_makeRoom_14 rfl 0 rfl ?_
    refine XX.aload_n dd_T_makeRoom_15 rfl 0 rfl ?_
    refine XX.get (q0 := 1) (v := .ref (q 2)) fl_T_11 dd_T_makeRoom_16 rfl rfl ?_
    refine XX.aload_n dd_T_makeRoom_19 rfl 0 rfl ?_
    refine XX.get (q0 := 1) (v := .ref (q 2)) fl_T_11 dd_T_makeRoom_20 rfl rfl ?_
    refine XX.alen (q0 := 2) (t0 := 0) (x := (n 0, .inl (f 0))) dd_T_makeRoom_23 rfl rfl ?_
    refine XX.iconst (v := nI 2) dd_T_makeRoom_24 (by decide) ?_
    refine XX.imul dd_T_makeRoom_25 ?_
    refine XX.tp (y := nI ((n 0) * 2)) (pk_mul _ _) ?_
    have hg0 : gr len (n 0) = 2 * n 0 := gr_t h11
    have hgb := gr_ge bc (n 1)
    refine XX.perm (ws2 := (q 2, .inl (G.2.1 0, n 0, .inl (f 0))) :: wC2 G q x n f kf kl) wC_2 ?_
    refine XX.callS (Mk := m_J_copyB) (n := 2) (As := [.ref (q 2), .int (nI ((n 0) * 2))]) (rest := [.ref (q 1)]) (c_J_copyB (G := G) (a := q 2) (n1 := n 0) (n2 := n 0 * 2) (g := f 0) (W0 := wC2 G q x n f kf kl) (by omega) (by omega) hfit) mt_J_copyB ms_J_copyB ml_T_30 rfl dd_T_makeRoom_26 ⟨xn_le rfl, xn_le rfl⟩ ⟨xr_c (by show 0 + 1 ≤ 2; omega), xr_s (by show 0 + n 0 * 2 ≤ (2 * (gr len (n 0) - n 0) + 2 * (gr bc (n 1) - n 1)); omega)⟩ (xn_le rfl) rfl (fun r1 w1 hp1 => ?_)
    obtain ⟨b, rfl, rfl⟩ := hp1
    refine XX.put (q0 := 3) (ws2 := (q 2, .inl (G.2.1 0, n 0, .inl (f 0))) :: (b, .inl (G.2.1 0, n 0 * 2, .inl (va_cpy (f 0) (fun _ => 0) 0 0 (n 0)))) :: wC2 G (updN q 2 b) x n f kf kl) fp_T_11 dd_T_makeRoom_29 rfl rfl rfl (xn_le rfl) rfl ?_
    refine XX.pm (l := [(q 2, .inl (G.2.1 0, n 0, .inl (f 0)))]) (ws2 := wC G (updN q 2 b) x (updN n 0 (n 0 * 2)) (fup f 0 (va_cpy (f 0) (fun _ => 0) 0 0 (n 0))) kf kl) (List.Perm.cons _ (wC_2 (q := updN q 2 b) (n := updN n 0 (n 0 * 2)) (f := fup f 0 (va_cpy (f 0) (fun _ => 0) 0 0 (n 0)))).symm) ?_
    refine XX.widen (c2 := 1) (s2 := 2 * (gr len (n 0) - n 0)) (by show 0 + 1 ≤ 1; omega) (by show 0 + n 0 * 2 ≤ 2 * (gr len (n 0) - n 0); omega) ?_
    refine XX.cg (ws2 := wC G (updN q 2 b) x (updN n 0 (gr len (n 0))) (fup f 0 (va_cpy (f 0) (fun _ => 0) 0 0 (n 0))) kf kl) (lv2 := [(0, .ref (updN q 2 b 1)), (1, .int (nI 4))]) (by rw [hg0, Nat.mul_comm]) rfl rfl ?_
    exact j32 _ _ (fun i h2 => updN_n h2) (fun i hi => by show va_cpy (f 0) (fun _ => 0) 0 0 (n 0) i = _; rw [cpy_00 (by omega)]) (fun j hj => by unfold fup; rw [if_neg (by omega)]) (cpy_fit hfit (fun _ => rfl))

set_option maxRecDepth 100000 in
set_option maxHeartbeats 4000000 in
theorem c_T_append {G : XG} {q : Nat → Nat} {x : Nat → Int32} {n : Nat → Nat} {f : Nat → Nat → Int32} {kf : Nat → Option Nat} {kl : va_W} {len bc : Nat} {br : Nat → Nat} {B : Nat → Int32} (ht : txt x n f len bc br B) (hfit : ∀ i, fits .byte (.int (f 0 i)) = true) (hn : 4 ≤ n 0 ∧ n 0 ≤ 40000 ∧ 4 ≤ n 1 ∧ n 1 ≤ 40000) (hle : len + 4 ≤ 20000) (hbk : brk B len bc br) {w : Int32} : MM G m_T_append (xr 3 2 (2 * (gr len (n 0) - n 0) + 2 * (gr bc (n 1) - n 1))) [.ref (q 1), .int w] (wC G q x n f kf kl) (fun r v => r = none ∧ ∃ (q2 : Nat → Nat) (x2 : Nat → Int32) (f2 : Nat → Nat → Int32) (br2 : Nat → Nat), v = wC G q2 x2 (gn len bc n) f2 kf kl ∧ (∀ i, i ≠ 2 → i ≠ 3 → q2 i = q i) ∧ (∀ i, i ≠ 3 → i ≠ 4 → x2 i = x i) ∧ (∀ j, 2 ≤ j → f2 j = f j) ∧ (∀ i, fits .byte (.int (f2 0 i)) = true) ∧ txt x2 (gn len bc n) f2 (len + 4) (bc + nbw w 4) br2 (ap_ B len w 4) ∧ brk (ap_ B len w 4) (len + 4) (bc + nbw w 4) br2) := by
  obtain ⟨hx3, hx4, hl0, hn0, hb1, hn1, hbr, hB⟩ := id ht
  have hb2 : bc + 4 ≤ gr bc (n 1) := gr_in hb1 hn.2.2.1
  have hl2 : len + 4 ≤ gr len (n 0) := gr_in hl0 hn.1
  have hg4 := gr_le hle hn.2.1
  have hbl : bc ≤ len := brk_bc hbk
  have hg5 : gr bc (n 1) ≤ 40000 := gr_le (by omega) hn.2.2.2
  refine MM.of rfl (xn_le rfl) ?_
  refine (?_ : XX G m_T_append (xr 3 2 (2 * (gr len (n 0) - n 0) + 2 * (gr bc (n 1) - n 1))) (xx_F G (fun r v => r = none ∧ ∃ (q2 : Nat → Nat) (x2 : Nat → Int32) (f2 : Nat → Nat → Int32) (br2 : Nat → Nat), v = wC G q2 x2 (gn len bc n) f2 kf kl ∧ (∀ i, i ≠ 2 → i ≠ 3 → q2 i = q i) ∧ (∀ i, i ≠ 3 → i ≠ 4 → x2 i = x i) ∧ (∀ j, 2 ≤ j → f2 j = f j) ∧ (∀ i, fits .byte (.int (f2 0 i)) = true) ∧ txt x2 (gn len bc n) f2 (len + 4) (bc + nbw w 4) br2 (ap_ B len w 4) ∧ brk (ap_ B len w 4) (len + 4) (bc + nbw w 4) br2) (xr 3 2 (2 * (gr len (n 0) - n 0) + 2 * (gr bc (n 1) - n 1)))) 0 0 (wC G q x n f kf kl) 0 [(0, .ref (q 1)), (1, .int w)] [])
  have l8 : ∀ (q1 : Nat → Nat) (f1 : Nat → Nat → Int32), (∀ i, i ≠ 2 → i ≠ 3 → q1 i = q i) → (∀ j, 2 ≤ j → f1 j = f j) → ∀ (kk k : Nat) (xx g0 g1 : Nat → Int32) (bb : Nat → Nat), 4 - k = kk → k ≤ 4 → (∀ i, i ≠ 3 → i ≠ 4 → xx i = x i) → xx 3 = nI (len + k) → xx 4 = nI (bc + nbw w k) → (∀ i, i < bc + nbw w k → g1 i = nI (bb i)) → (∀ i, i < len + k → g0 i = ap_ B len w k i) → (∀ i, fits .byte (.int (g0 i)) = true) → brk (ap_ B len w k) (len + k) (bc + nbw w k) bb → XX G m_T_append (xr 3 2 (2 * (gr len (n 0) - n 0) + 2 * (gr bc (n 1) - n 1))) (xx_F G (fun r v => r = none ∧ ∃ (q2 : Nat → Nat) (x2 : Nat → Int32) (f2 : Nat → Nat → Int32) (br2 : Nat → Nat), v = wC G q2 x2 (gn len bc n) f2 kf kl ∧ (∀ i, i ≠ 2 → i ≠ 3 → q2 i = q i) ∧ (∀ i, i ≠ 3 → i ≠ 4 → x2 i = x i) ∧ (∀ j, 2 ≤ j → f2 j = f j) ∧ (∀ i, fits .byte (.int (f2 0 i)) = true) ∧ txt x2 (gn len bc n) f2 (len + 4) (bc + nbw w 4) br2 (ap_ B len w 4) ∧ brk (ap_ B len w 4) (len + 4) (bc + nbw w 4) br2) (xr 3 2 (2 * (gr len (n 0) - n 0) + 2 * (gr bc (n 1) - n 1)))) 2 (2 * (gr len (n 0) - n 0) + 2 * (gr bc (n 1) - n 1)) (wC G q1 xx (gn len bc n) (f01 f1 g0 g1) kf kl) 8 [(0, .ref (q1 1)), (1, .int w), (2, .int (shv k))] [] := by
    intro q1 f1 hq1 hf1 kk
    induction kk using Nat.strongRecOn with
    | _ kk ih =>
      intro k xx g0 g1 bb hkk hk hxx h3 h4 hg1 hg0 hft hbb
      have hnk := nbw_le w k
      refine XX.iload_n dd_T_append_8 rfl 2 rfl ?_
      refine XX.if_lt (tgt := 76) dd_T_append_9 (by decide) (fun h9 => ?_) (fun h9 => ?_)
      ·
        obtain rfl : 4 = k := (shv_lt hk h9).symm
        exact XX.vret dd_T_append_76 rfl ⟨xr_c (by omega), xr_s (by omega)⟩ ⟨rfl, q1, xx, _, bb, rfl, hq1, hxx, fun j hj => by rw [f01_g _ _ _ hj]; exact hf1 j hj, hft, ⟨h3, h4, hl2, Nat.le_trans hg4 (by omega), Nat.le_trans (by omega) hb2, by show gr bc (n 1) ≤ 40960; omega, fun i hi => ⟨hg1 i hi, (hbb.1 i hi).1⟩, hg0⟩, hbb⟩
      ·
        have hk4 : k < 4 := shv_ge hk h9
        refine XX.iload_n dd_T_append_12 rfl 1 rfl ?_
        refine XX.iload_n dd_T_append_13 rfl 2 rfl ?_
        refine XX.ishr dd_T_append_14 ?_
        refine XX.sipush (v := nI 255) dd_T_append_15 (by decide) ?_
        refine XX.iand dd_T_append_18 ?_
        refine XX.istore_n (lv2 := [(3, .int ((w >>> ((shv k) &&& 31)) &&& (nI 255))), (0, .ref (q1 1)), (1, .int w), (2, .int (shv k))]) dd_T_append_19 rfl (by decide) rfl ?_
        refine XX.iload_n dd_T_append_20 rfl 0 rfl ?_
        refine XX.bipush (v := nI 10) dd_T_append_21 (by decide) ?_
        refine XX.icmp_ne (tgt := 49) dd_T_append_23 (by decide) (fun h23 => ?_) (fun h23 => ?_)
        ·
          refine XX.aload_n dd_T_append_49 rfl 1 rfl ?_
          refine XX.get (q0 := 1) (v := .ref (q1 2)) fl_T_11 dd_T_append_50 rfl rfl ?_
          refine XX.aload_n dd_T_append_53 rfl 1 rfl ?_
          refine XX.get (q0 := 1) (v := .int (xx 3)) fl_T_15 dd_T_append_54 rfl rfl ?_
          refine XX.tp (y := nI (len + k)) (h3) ?_
          refine XX.iload_n dd_T_append_57 rfl 0 rfl ?_
          refine XX.i2b (v := ((w >>> ((shv k) &&& 31)) &&& (nI 255)).toInt8.toInt32) dd_T_append_58 (rfl) ?_
          refine XX.bast (q0 := 2) (n := (gr len (n 0))) (j := len + k) (f := g0) (ws2 := wC G q1 xx (gn len bc n) (fup (f01 f1 g0 g1) 0 (upd g0 (len + k) (vp_nar .byte (((w >>> ((shv k) &&& 31)) &&& (nI 255)).toInt8.toInt32)))) kf kl) dd_T_append_59 rfl (by omega) (by omega) rfl ?_
          refine XX.cg (ws2 := wC G q1 xx (gn len bc n) (f01 f1 (upd g0 (len + k) (vp_nar .byte (((w >>> ((shv k) &&& 31)) &&& (nI 255)).toInt8.toInt32))) g1) kf kl) (by rw [f01_0]) rfl rfl ?_
          refine XX.aload_n dd_T_append_60 rfl 1 rfl ?_
          refine XX.dup dd_T_append_61 rfl ?_
          refine XX.get (q0 := 1) (v := .int (xx 3)) fl_T_15 dd_T_append_62 rfl rfl ?_
          refine XX.tp (y := nI (len + k)) (h3) ?_
          refine XX.iconst (v := nI 1) dd_T_append_65 (by decide) ?_
          refine XX.iadd dd_T_append_66 ?_
          refine XX.tp (y := nI (len + k + 1)) (nI_add _ _) ?_
          refine XX.put (q0 := 1) (ws2 := wC G q1 (upd xx 3 (nI (len + k + 1))) (gn len bc n) (f01 f1 (upd g0 (len + k) (vp_nar .byte (((w >>> ((shv k) &&& 31)) &&& (nI 255)).toInt8.toInt32))) g1) kf kl) fp_T_15 dd_T_append_67 rfl rfl rfl (xn_le rfl) rfl ?_
          refine XX.iinc (z := 3) (v := shv (k + 1)) (lv2 := [(2, .int (shv (k + 1))), (3, .int ((w >>> ((shv k) &&& 31)) &&& (nI 255))), (0, .ref (q1 1)), (1, .int w)]) dd_T_append_70 rfl ((shv_s hk4).1) (by decide) rfl ?_
          refine XX.goto (tgt := 8) dd_T_append_73 (by decide) ?_
          have eb : ap_b w k = (w >>> (shv k &&& 31)).toInt8.toInt32 := by unfold ap_b; rw [(shv_s hk4).2]
          have ey : ¬ ap_b w k = nI 10 := by rw [eb]; exact fun z => h23 ((i8_32 _).mpr z)
          have en : nbw w (k + 1) = nbw w k := by rw [nbw, if_neg ey]
          refine XX.lvs [2, 3, 0] rfl ?_
          exact ih _ (by omega) (k + 1) _ _ _ bb rfl (by omega) (fun i h1 h2 => by rw [pk_un h1]; exact hxx i h1 h2) rfl (by rw [en]; exact h4) (by rw [en]; exact hg1) (fun i hi => by
            rw [ap_s]
            by_cases e : i = len + k
            · rw [e, pk_us, pk_us, eb, i8_and, vp_nar_b]
            · rw [pk_un e, pk_un e]; exact hg0 i (by omega)) (fun i => by
            by_cases e : i = len + k
            · rw [e, pk_us]; exact vp_fit _
            · rw [pk_un e]; exact hft i) (by rw [en, ap_s]; exact brk_n hbb ey)
        ·
          refine XX.aload_n dd_T_append_26 rfl 1 rfl ?_
          refine XX.get (q0 := 1) (v := .ref (q1 3)) fl_T_19 dd_T_append_27 rfl rfl ?_
          refine XX.aload_n dd_T_append_30 rfl 1 rfl ?_
          refine XX.get (q0 := 1) (v := .int (xx 4)) fl_T_23 dd_T_append_31 rfl rfl ?_
          refine XX.tp (y := nI (bc + nbw w k)) (h4) ?_
          refine XX.aload_n dd_T_append_34 rfl 1 rfl ?_
          refine XX.get (q0 := 1) (v := .int (xx 3)) fl_T_15 dd_T_append_35 rfl rfl ?_
          refine XX.tp (y := nI (len + k)) (h3) ?_
          refine XX.iast (q0 := 3) (n := (gr bc (n 1))) (j := bc + nbw w k) (f := g1) (ws2 := wC G q1 xx (gn len bc n) (fup (f01 f1 g0 g1) 1 (upd g1 (bc + nbw w k) (nI (len + k)))) kf kl) dd_T_append_38 rfl (by omega) (by omega) rfl ?_
          refine XX.cg (ws2 := wC G q1 xx (gn len bc n) (f01 f1 g0 (upd g1 (bc + nbw w k) (nI (len + k)))) kf kl) (by rw [f01_1]) rfl rfl ?_
          refine XX.aload_n dd_T_append_39 rfl 1 rfl ?_
          refine XX.dup dd_T_append_40 rfl ?_
          refine XX.get (q0 := 1) (v := .int (xx 4)) fl_T_23 dd_T_append_41 rfl rfl ?_
          refine XX.tp (y := nI (bc + nbw w k)) (h4) ?_
          refine XX.iconst (v := nI 1) dd_T_append_44 (by decide) ?_
          refine XX.iadd dd_T_append_45 ?_
          refine XX.tp (y := nI (bc + nbw w k + 1)) (nI_add _ _) ?_
          refine XX.put (q0 := 1) (ws2 := wC G q1 (upd xx 4 (nI (bc + nbw w k + 1))) (gn len bc n) (f01 f1 g0 (upd g1 (bc + nbw w k) (nI (len + k)))) kf kl) fp_T_23 dd_T_append_46 rfl rfl rfl (xn_le rfl) rfl ?_
          refine XX.aload_n dd_T_append_49 rfl 1 rfl ?_
          refine XX.get (q0 := 1) (v := .ref (q1 2)) fl_T_11 dd_T_append_50 rfl rfl ?_
          refine XX.aload_n dd_T_append_53 rfl 1 rfl ?_
          refine XX.get (q0 := 1) (v := .int ((upd xx 4 (nI (bc + nbw w k + 1))) 3)) fl_T_15 dd_T_append_54 rfl rfl ?_
          refine XX.tp (y := nI (len + k)) (h3) ?_
          refine XX.iload_n dd_T_append_57 rfl 0 rfl ?_
          refine XX.i2b (v := ((w >>> ((shv k) &&& 31)) &&& (nI 255)).toInt8.toInt32) dd_T_append_58 (rfl) ?_
          refine XX.bast (q0 := 2) (n := (gr len (n 0))) (j := len + k) (f := g0) (ws2 := wC G q1 (upd xx 4 (nI (bc + nbw w k + 1))) (gn len bc n) (fup (f01 f1 g0 (upd g1 (bc + nbw w k) (nI (len + k)))) 0 (upd g0 (len + k) (vp_nar .byte (((w >>> ((shv k) &&& 31)) &&& (nI 255)).toInt8.toInt32)))) kf kl) dd_T_append_59 rfl (by omega) (by omega) rfl ?_
          refine XX.cg (ws2 := wC G q1 (upd xx 4 (nI (bc + nbw w k + 1))) (gn len bc n) (f01 f1 (upd g0 (len + k) (vp_nar .byte (((w >>> ((shv k) &&& 31)) &&& (nI 255)).toInt8.toInt32))) (upd g1 (bc + nbw w k) (nI (len + k)))) kf kl) (by rw [f01_0]) rfl rfl ?_
          refine XX.aload_n dd_T_append_60 rfl 1 rfl ?_
          refine XX.dup dd_T_append_61 rfl ?_
          refine XX.get (q0 := 1) (v := .int ((upd xx 4 (nI (bc + nbw w k + 1))) 3)) fl_T_15 dd_T_append_62 rfl rfl ?_
          refine XX.tp (y := nI (len + k)) (h3) ?_
          refine XX.iconst (v := nI 1) dd_T_append_65 (by decide) ?_
          refine XX.iadd dd_T_append_66 ?_
          refine XX.tp (y := nI (len + k + 1)) (nI_add _ _) ?_
          refine XX.put (q0 := 1) (ws2 := wC G q1 (upd (upd xx 4 (nI (bc + nbw w k + 1))) 3 (nI (len + k + 1))) (gn len bc n) (f01 f1 (upd g0 (len + k) (vp_nar .byte (((w >>> ((shv k) &&& 31)) &&& (nI 255)).toInt8.toInt32))) (upd g1 (bc + nbw w k) (nI (len + k)))) kf kl) fp_T_15 dd_T_append_67 rfl rfl rfl (xn_le rfl) rfl ?_
          refine XX.iinc (z := 3) (v := shv (k + 1)) (lv2 := [(2, .int (shv (k + 1))), (3, .int ((w >>> ((shv k) &&& 31)) &&& (nI 255))), (0, .ref (q1 1)), (1, .int w)]) dd_T_append_70 rfl ((shv_s hk4).1) (by decide) rfl ?_
          refine XX.goto (tgt := 8) dd_T_append_73 (by decide) ?_
          have eb : ap_b w k = (w >>> (shv k &&& 31)).toInt8.toInt32 := by unfold ap_b; rw [(shv_s hk4).2]
          have ey : ap_b w k = nI 10 := by rw [eb]; exact (i8_32 _).mp h23
          have en : nbw w (k + 1) = nbw w k + 1 := by rw [nbw, if_pos ey]
          refine XX.lvs [2, 3, 0] rfl ?_
          exact ih _ (by omega) (k + 1) _ _ _ (updN bb (bc + nbw w k) (len + k)) rfl (by omega) (fun i h1 h2 => by rw [pk_un h1, pk_un h2]; exact hxx i h1 h2) rfl (by rw [en]; rfl) (fun i hi => by
            rw [en] at hi
            by_cases e : i = bc + nbw w k
            · rw [e, pk_us, updN_s]
            · rw [pk_un e, updN_n e]; exact hg1 i (by omega)) (fun i hi => by
            rw [ap_s]
            by_cases e : i = len + k
            · rw [e, pk_us, pk_us, eb, i8_and, vp_nar_b]
            · rw [pk_un e, pk_un e]; exact hg0 i (by omega)) (fun i => by
            by_cases e : i = len + k
            · rw [e, pk_us]; exact vp_fit _
            · rw [pk_un e]; exact hft i) (by rw [en, ap_s]; exact brk_y hbb ey)
  refine XX.aload_n dd_T_append_0 rfl 0 rfl ?_
  refine XX.iconst (v := nI 4) dd_T_append_1 (by decide) ?_
  refine XX.callV (Mk := m_T_makeRoom) (n := 1) (As := [.int (nI 4)]) (rest := []) (q0 := 1) (ci := 1) (c_T_makeRoom ht hfit hn hle) mt_T_makeRoom mi_T_makeRoom ml_T_26 rfl dd_T_append_2 (rfl) rfl rfl ⟨xn_le rfl, xn_le rfl⟩ ⟨xr_c (by show 0 + 2 ≤ 2; omega), xr_s (by show 0 + (2 * (gr len (n 0) - n 0) + 2 * (gr bc (n 1) - n 1)) ≤ (2 * (gr len (n 0) - n 0) + 2 * (gr bc (n 1) - n 1)); omega)⟩ (xn_le rfl) rfl (fun r1 w1 hp1 => ?_)
  obtain ⟨rfl, q1, f1, rfl, a1, a2, a3, a4, a5⟩ := hp1
  refine XX.widen (c2 := 2) (s2 := (2 * (gr len (n 0) - n 0) + 2 * (gr bc (n 1) - n 1))) (by show 0 + 2 ≤ 2; omega) (by show 0 + (2 * (gr len (n 0) - n 0) + 2 * (gr bc (n 1) - n 1)) ≤ (2 * (gr len (n 0) - n 0) + 2 * (gr bc (n 1) - n 1)); omega) ?_
  refine XX.cg (ws2 := wC G q1 x (gn len bc n) f1 kf kl) (lv2 := [(0, .ref (q1 1)), (1, .int w)]) rfl (by rw [a1 1 (by omega) (by omega)]) rfl ?_
  refine XX.bipush (v := nI 24) dd_T_append_5 (by decide) ?_
  refine XX.istore_n (lv2 := [(2, .int (nI 24)), (0, .ref (q1 1)), (1, .int w)]) dd_T_append_7 rfl (by decide) rfl ?_
  refine XX.cg (ws2 := wC G q1 x (gn len bc n) (f01 f1 (f1 0) (f1 1)) kf kl) (lv2 := [(2, .int (shv 0)), (0, .ref (q1 1)), (1, .int w)]) (by rw [f01_self]) rfl rfl ?_
  refine XX.lvs [1, 2, 0] rfl ?_
  exact l8 q1 f1 a1 a4 _ 0 x _ _ br rfl (by omega) (fun _ _ _ => rfl) hx3 hx4 (fun i hi => (a3 i hi).trans (hbr i hi).1) (fun i hi => (a2 i hi).trans (hB i hi)) a5 hbk

set_option maxRecDepth 100000 in
set_option maxHeartbeats 4000000 in
theorem c_T_keepFirst {G : XG} {q : Nat → Nat} {x : Nat → Int32} {n : Nat → Nat} {f : Nat → Nat → Int32} {kf : Nat → Option Nat} {kl : va_W} {len bc : Nat} {br : Nat → Nat} {B : Nat → Int32} (ht : txt x n f len bc br B) (hbk : brk B len bc br) {m : Nat} (hm : m ≤ len) : MM G m_T_keepFirst (xr 0 0 0) [.ref (q 1), .int (nI m)] (wC G q x n f kf kl) (fun r v => r = none ∧ ∃ (x2 : Nat → Int32) (bc2 : Nat), v = wC G q x2 n f kf kl ∧ (∀ i, i ≠ 3 → i ≠ 4 → x2 i = x i) ∧ txt x2 n f m bc2 br B ∧ brk B m bc2 br) := by
  obtain ⟨hx3, hx4, hl0, hn0, hb1, hn1, hbr, hB⟩ := id ht
  refine MM.of rfl (xn_le rfl) ?_
  refine (?_ : XX G m_T_keepFirst (xr 0 0 0) (xx_F G (fun r v => r = none ∧ ∃ (x2 : Nat → Int32) (bc2 : Nat), v = wC G q x2 n f kf kl ∧ (∀ i, i ≠ 3 → i ≠ 4 → x2 i = x i) ∧ txt x2 n f m bc2 br B ∧ brk B m bc2 br) (xr 0 0 0)) 0 0 (wC G q x n f kf kl) 0 [(0, .ref (q 1)), (1, .int (nI m))] [])
  have l5 : ∀ (c : Nat) (xx : Nat → Int32), c ≤ bc → (∀ i, i ≠ 3 → i ≠ 4 → xx i = x i) → xx 3 = nI m → xx 4 = nI c → (∀ i, c ≤ i → i < bc → m ≤ br i) → XX G m_T_keepFirst (xr 0 0 0) (xx_F G (fun r v => r = none ∧ ∃ (x2 : Nat → Int32) (bc2 : Nat), v = wC G q x2 n f kf kl ∧ (∀ i, i ≠ 3 → i ≠ 4 → x2 i = x i) ∧ txt x2 n f m bc2 br B ∧ brk B m bc2 br) (xr 0 0 0)) 0 0 (wC G q xx n f kf kl) 5 [(0, .ref (q 1)), (1, .int (nI m))] [] := by
    intro c
    induction c with
    | zero =>
      intro xx hc hxx h3 h4 hge
      refine XX.aload_n dd_T_keepFirst_5 rfl 0 rfl ?_
      refine XX.get (q0 := 1) (v := .int (xx 4)) fl_T_23 dd_T_keepFirst_6 rfl rfl ?_
      refine XX.tp (y := nI 0) (h4) ?_
      refine XX.nif_le (tgt := 40) dd_T_keepFirst_9 (by decide) (by omega) (fun h9 => ?_) (fun h9 => ?_)
      ·
        have hlt : ∀ i, i < 0 → br i < m := fun i hi => absurd hi (by omega)
        exact XX.vret dd_T_keepFirst_40 rfl ⟨xn_le rfl, xn_le rfl⟩ ⟨rfl, xx, 0, rfl, hxx, ⟨h3, h4, by omega, hn0, by omega, hn1, fun i hi => ⟨(hbr i (by omega)).1, hlt i hi⟩, fun i hi => hB i (by omega)⟩, fun i hi => ⟨hlt i hi, (hbk.1 i (by omega)).2⟩, fun i j hi hj => hbk.2.1 i j hi (by omega), fun j hj hBj => by
          obtain ⟨i, hi1, hi2⟩ := hbk.2.2 j (by omega) hBj
          refine ⟨i, ?_, hi2⟩
          rcases Nat.lt_or_ge i (0) with z | z
          · exact z
          · have := hge i z hi1; omega⟩
      ·
        exact absurd h9 (by decide)
    | succ c ih =>
      intro xx hc hxx h3 h4 hge
      refine XX.aload_n dd_T_keepFirst_5 rfl 0 rfl ?_
      refine XX.get (q0 := 1) (v := .int (xx 4)) fl_T_23 dd_T_keepFirst_6 rfl rfl ?_
      refine XX.tp (y := nI (c + 1)) (h4) ?_
      refine XX.nif_le (tgt := 40) dd_T_keepFirst_9 (by decide) (by omega) (fun h9 => ?_) (fun h9 => ?_)
      ·
        exact absurd h9 (by omega)
      ·
        refine XX.aload_n dd_T_keepFirst_12 rfl 0 rfl ?_
        refine XX.get (q0 := 1) (v := .ref (q 3)) fl_T_19 dd_T_keepFirst_13 rfl rfl ?_
        refine XX.aload_n dd_T_keepFirst_16 rfl 0 rfl ?_
        refine XX.get (q0 := 1) (v := .int (xx 4)) fl_T_23 dd_T_keepFirst_17 rfl rfl ?_
        refine XX.tp (y := nI (c + 1)) (h4) ?_
        refine XX.iconst (v := nI 1) dd_T_keepFirst_20 (by decide) ?_
        refine XX.isub dd_T_keepFirst_21 ?_
        refine XX.tp (y := nI c) (pk_sub (b := 1) (by omega)) ?_
        refine XX.iald (q0 := 3) (n := n 1) (j := c) (f := f 1) dd_T_keepFirst_22 rfl (by omega) (by omega) ?_
        refine XX.tp (y := nI (br c)) ((hbr c (by omega)).1) ?_
        have hbc := (hbr c (by omega)).2
        refine XX.iload_n dd_T_keepFirst_23 rfl 1 rfl ?_
        refine XX.ncmp_lt (tgt := 40) dd_T_keepFirst_24 (by decide) (by omega) (by omega) (fun h24 => ?_) (fun h24 => ?_)
        ·
          have hlt : ∀ i, i < c + 1 → br i < m := fun i hi => by
            by_cases e : i = c
            · rw [e]; exact h24
            · have := hbk.2.1 i c (by omega) (by omega); omega
          exact XX.vret dd_T_keepFirst_40 rfl ⟨xn_le rfl, xn_le rfl⟩ ⟨rfl, xx, c + 1, rfl, hxx, ⟨h3, h4, by omega, hn0, by omega, hn1, fun i hi => ⟨(hbr i (by omega)).1, hlt i hi⟩, fun i hi => hB i (by omega)⟩, fun i hi => ⟨hlt i hi, (hbk.1 i (by omega)).2⟩, fun i j hi hj => hbk.2.1 i j hi (by omega), fun j hj hBj => by
            obtain ⟨i, hi1, hi2⟩ := hbk.2.2 j (by omega) hBj
            refine ⟨i, ?_, hi2⟩
            rcases Nat.lt_or_ge i (c + 1) with z | z
            · exact z
            · have := hge i z hi1; omega⟩
        ·
          refine XX.aload_n dd_T_keepFirst_27 rfl 0 rfl ?_
          refine XX.dup dd_T_keepFirst_28 rfl ?_
          refine XX.get (q0 := 1) (v := .int (xx 4)) fl_T_23 dd_T_keepFirst_29 rfl rfl ?_
          refine XX.tp (y := nI (c + 1)) (h4) ?_
          refine XX.iconst (v := nI 1) dd_T_keepFirst_32 (by decide) ?_
          refine XX.isub dd_T_keepFirst_33 ?_
          refine XX.tp (y := nI c) (pk_sub (b := 1) (by omega)) ?_
          refine XX.put (q0 := 1) (ws2 := wC G q (upd xx 4 (nI c)) n f kf kl) fp_T_23 dd_T_keepFirst_34 rfl rfl rfl (xn_le rfl) rfl ?_
          refine XX.goto (tgt := 5) dd_T_keepFirst_37 (by decide) ?_
          exact ih _ (by omega) (fun i h1 h2 => by rw [pk_un h2]; exact hxx i h1 h2) h3 rfl (fun i h1 h2 => by
            by_cases e : i = c
            · rw [e]; exact h24
            · exact hge i (by omega) h2)
  refine XX.aload_n dd_T_keepFirst_0 rfl 0 rfl ?_
  refine XX.iload_n dd_T_keepFirst_1 rfl 1 rfl ?_
  refine XX.put (q0 := 1) (ws2 := wC G q (upd x 3 (nI m)) n f kf kl) fp_T_15 dd_T_keepFirst_2 rfl rfl rfl (xn_le rfl) rfl ?_
  exact l5 bc _ (Nat.le_refl _) (fun i h1 h2 => pk_un h1) rfl hx4 (fun i h1 h2 => absurd h2 (by omega))

