/-! Arrays.copyOf to a longer array -/
theorem xr_c {a d c s : Nat} (h : a ≤ c) : a ≤ (xr d c s).cells := h
theorem xr_s {a d c s : Nat} (h : a ≤ s) : a ≤ (xr d c s).slots := h
theorem wa_B : Cond.arrayClass .byte ∈ xw_g := xw_in mw_51 rfl
theorem wa_I : Cond.arrayClass .int ∈ xw_g := xw_in mw_52 rfl
theorem wa_L : Cond.arrayClass .long ∈ xw_g := xw_in mw_1008 rfl
theorem c_J_copyB {G : XG} {a n1 n2 : Nat} {g : Nat → Int32} {W0 : va_W} (hn : n1 < n2) (hn2 : n2 < 60000000) (hfit : ∀ i, fits .byte (.int (g i)) = true) : MM G m_J_copyB (xr 1 1 n2) [.ref a, .int (nI n2)] ((a, .inl (G.2.1 0, n1, .inl g)) :: W0) (fun r w => ∃ b : Nat, r = some (.ref b) ∧ w = (a, .inl (G.2.1 0, n1, .inl g)) :: (b, .inl (G.2.1 0, n2, .inl (va_cpy g (fun _ => 0) 0 0 n1))) :: W0) := by
  refine MM.of rfl (xn_le rfl) ?_
  refine (?_ : XX G m_J_copyB (xr 1 1 n2) (xx_F G (fun r w => ∃ b : Nat, r = some (.ref b) ∧ w = (a, .inl (G.2.1 0, n1, .inl g)) :: (b, .inl (G.2.1 0, n2, .inl (va_cpy g (fun _ => 0) 0 0 n1))) :: W0) (xr 1 1 n2)) 0 0 ((a, .inl (G.2.1 0, n1, .inl g)) :: W0) 0 [(0, .ref a), (1, .int (nI n2))] [])
  refine XX.iload_n dd_J_copyB_0 rfl 1 rfl ?_
  refine XX.aload_n dd_J_copyB_1 rfl 0 rfl ?_
  refine XX.alen (q0 := 0) (t0 := 0) (x := (n1, .inl g)) dd_J_copyB_2 rfl rfl ?_
  refine XX.ncmp_ne (tgt := 14) dd_J_copyB_3 (by decide) (by omega) (by omega) (fun h3 => ?_) (fun h3 => absurd h3 (by omega))
  refine XX.iload_n dd_J_copyB_14 rfl 1 rfl ?_
  refine XX.newB dd_J_copyB_15 wa_B hn2 ⟨xr_c (by omega), xr_s (by omega)⟩ (fun b => ?_)
  refine XX.perm (ws2 := (a, .inl (G.2.1 0, n1, .inl g)) :: (b, .inl (G.2.1 0, n2, .inl (fun _ => 0))) :: W0) (List.Perm.cons _ (List.perm_append_singleton _ _)) ?_
  refine XX.astore_n (lv2 := [(2, .ref b), (0, .ref a), (1, .int (nI n2))]) dd_J_copyB_17 rfl (by decide) rfl ?_
  refine XX.aload_n dd_J_copyB_18 rfl 1 rfl ?_
  refine XX.iconst (v := nI 0) dd_J_copyB_19 (by decide) ?_
  refine XX.aload_n dd_J_copyB_20 rfl 0 rfl ?_
  refine XX.iconst (v := nI 0) dd_J_copyB_21 (by decide) ?_
  refine XX.aload_n dd_J_copyB_22 rfl 1 rfl ?_
  refine XX.alen (q0 := 0) (t0 := 0) (x := (n1, .inl g)) dd_J_copyB_23 rfl rfl ?_
  refine XX.iload_n dd_J_copyB_24 rfl 2 rfl ?_
  refine XX.mmin dd_J_copyB_25 ml_J_304 jm_min_s jm_i jm_min_c (xn_le rfl) (xn_le rfl) ⟨xr_c (by omega), xr_s (by omega)⟩ ?_
  refine XX.tp (y := nI n1) (by rw [xn_min (by omega) (by omega), Nat.min_eq_left (by omega)]) ?_
  refine XX.copy (q0 := 0) (q1 := 1) (t := 0) (n0 := n1) (n1 := n2) (f := g) (g := fun _ => 0) (ws2 := (a, .inl (G.2.1 0, n1, .inl g)) :: (b, .inl (G.2.1 0, n2, .inl (va_cpy g (fun _ => 0) 0 0 n1))) :: W0) dd_J_copyB_28 ml_J_150 rfl rfl rfl rfl (by omega) (by omega) (by omega) (by omega) (fun i _ => hfit _) (xn_le rfl) (xn_le rfl) rfl ?_
  refine XX.aload_n dd_J_copyB_31 rfl 0 rfl ?_
  exact XX.aret dd_J_copyB_32 rfl (Or.inr ⟨_, rfl⟩) ⟨xr_c (by omega), xr_s (by omega)⟩ ⟨b, rfl, rfl⟩
theorem c_J_copyI {G : XG} {a n1 n2 : Nat} {g : Nat → Int32} {W0 : va_W} (hn : n1 < n2) (hn2 : n2 < 60000000) : MM G m_J_copyI (xr 1 1 n2) [.ref a, .int (nI n2)] ((a, .inl (G.2.1 1, n1, .inl g)) :: W0) (fun r w => ∃ b : Nat, r = some (.ref b) ∧ w = (a, .inl (G.2.1 1, n1, .inl g)) :: (b, .inl (G.2.1 1, n2, .inl (va_cpy g (fun _ => 0) 0 0 n1))) :: W0) := by
  refine MM.of rfl (xn_le rfl) ?_
  refine (?_ : XX G m_J_copyI (xr 1 1 n2) (xx_F G (fun r w => ∃ b : Nat, r = some (.ref b) ∧ w = (a, .inl (G.2.1 1, n1, .inl g)) :: (b, .inl (G.2.1 1, n2, .inl (va_cpy g (fun _ => 0) 0 0 n1))) :: W0) (xr 1 1 n2)) 0 0 ((a, .inl (G.2.1 1, n1, .inl g)) :: W0) 0 [(0, .ref a), (1, .int (nI n2))] [])
  refine XX.iload_n dd_J_copyI_0 rfl 1 rfl ?_
  refine XX.aload_n dd_J_copyI_1 rfl 0 rfl ?_
  refine XX.alen (q0 := 0) (t0 := 1) (x := (n1, .inl g)) dd_J_copyI_2 rfl rfl ?_
  refine XX.ncmp_ne (tgt := 14) dd_J_copyI_3 (by decide) (by omega) (by omega) (fun h3 => ?_) (fun h3 => absurd h3 (by omega))
  refine XX.iload_n dd_J_copyI_14 rfl 1 rfl ?_
  refine XX.newI dd_J_copyI_15 wa_I hn2 ⟨xr_c (by omega), xr_s (by omega)⟩ (fun b => ?_)
  refine XX.perm (ws2 := (a, .inl (G.2.1 1, n1, .inl g)) :: (b, .inl (G.2.1 1, n2, .inl (fun _ => 0))) :: W0) (List.Perm.cons _ (List.perm_append_singleton _ _)) ?_
  refine XX.astore_n (lv2 := [(2, .ref b), (0, .ref a), (1, .int (nI n2))]) dd_J_copyI_17 rfl (by decide) rfl ?_
  refine XX.aload_n dd_J_copyI_18 rfl 1 rfl ?_
  refine XX.iconst (v := nI 0) dd_J_copyI_19 (by decide) ?_
  refine XX.aload_n dd_J_copyI_20 rfl 0 rfl ?_
  refine XX.iconst (v := nI 0) dd_J_copyI_21 (by decide) ?_
  refine XX.aload_n dd_J_copyI_22 rfl 1 rfl ?_
  refine XX.alen (q0 := 0) (t0 := 1) (x := (n1, .inl g)) dd_J_copyI_23 rfl rfl ?_
  refine XX.iload_n dd_J_copyI_24 rfl 2 rfl ?_
  refine XX.mmin dd_J_copyI_25 ml_J_304 jm_min_s jm_i jm_min_c (xn_le rfl) (xn_le rfl) ⟨xr_c (by omega), xr_s (by omega)⟩ ?_
  refine XX.tp (y := nI n1) (by rw [xn_min (by omega) (by omega), Nat.min_eq_left (by omega)]) ?_
  refine XX.copy (q0 := 0) (q1 := 1) (t := 1) (n0 := n1) (n1 := n2) (f := g) (g := fun _ => 0) (ws2 := (a, .inl (G.2.1 1, n1, .inl g)) :: (b, .inl (G.2.1 1, n2, .inl (va_cpy g (fun _ => 0) 0 0 n1))) :: W0) dd_J_copyI_28 ml_J_150 rfl rfl rfl rfl (by omega) (by omega) (by omega) (by omega) (fun _ _ => rfl) (xn_le rfl) (xn_le rfl) rfl ?_
  refine XX.aload_n dd_J_copyI_31 rfl 0 rfl ?_
  exact XX.aret dd_J_copyI_32 rfl (Or.inr ⟨_, rfl⟩) ⟨xr_c (by omega), xr_s (by omega)⟩ ⟨b, rfl, rfl⟩
