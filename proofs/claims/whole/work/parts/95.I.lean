/-! the constructors -/
theorem pm_ix {α : Type} {ws ws2 : List α} (is : List Nat) {n : Nat} (hn : ws.length = n) (hp : is.Perm (List.range n)) (h : is.map (fun i => ws[i]?) = ws2.map some) : ws.Perm ws2 := by
  subst hn
  have e1 : (List.range ws.length).map (fun i => ws[i]?) = ws.map some := by
    apply List.ext_getElem?
    intro i
    by_cases hi : i < ws.length
    · rw [List.getElem?_map, List.getElem?_range hi, List.getElem?_map, List.getElem?_eq_getElem hi]; simp
    · rw [List.getElem?_eq_none (by simp; omega), List.getElem?_eq_none (by simp; omega)]
  have e2 := (hp.map (fun i => ws[i]?)).filterMap id
  rw [h, e1] at e2
  simpa using e2.symm
def s_0 : SS := SS.mk 0 (fun _ => 0) (-1) 0 false false 0 (fun _ _ => 0) (fun _ => 0) 100 4 0 (fun _ => 0) 0 (fun _ => 0) 0 0 0
theorem SG_0 : SG s_0 := ⟨Nat.zero_le _, fun i hi => absurd hi (Nat.not_lt_zero _), Nat.zero_le _, fun k hk => absurd hk (Nat.not_lt_zero _), by decide, by decide, by decide, by decide, Nat.zero_le _, fun i hi => absurd hi (Nat.not_lt_zero _), Nat.zero_le _⟩

set_option maxRecDepth 100000 in
set_option maxHeartbeats 4000000 in
theorem c_N_init {G : XG} {a : Nat} {W0 : va_W} : MM G m_N_init (xr 1 0 0) [.ref a] ((a, .inr (5, [.int 0, .int 0, .int 0, .int 0, .int 0])) :: W0) (fun r w => r = none ∧ w = (a, .inr (5, [.int 0, .int 0, .int 0, .int 0, .int 0])) :: W0) := by
  refine MM.of rfl (xn_le rfl) ?_
  refine (?_ : XX G m_N_init (xr 1 0 0) (xx_F G (fun r w => r = none ∧ w = (a, .inr (5, [.int 0, .int 0, .int 0, .int 0, .int 0])) :: W0) (xr 1 0 0)) 0 0 ((a, .inr (5, [.int 0, .int 0, .int 0, .int 0, .int 0])) :: W0) 0 [(0, .ref a)] [])
  refine XX.aload_n dd_N_init_0 rfl 0 rfl ?_
  refine XX.objInit dd_N_init_1 ml_N_1 oi_i oi_c (xn_le rfl) (xn_le rfl) ?_
  exact XX.vret dd_N_init_4 rfl ⟨xn_le rfl, xn_le rfl⟩ ⟨rfl, rfl⟩

set_option maxRecDepth 100000 in
set_option maxHeartbeats 4000000 in
theorem c_T_init {G : XG} {a : Nat} {W0 : va_W} : MM G m_T_init (xr 1 2 1280) [.ref a] ((a, .inr (1, [.null, .int 0, .null, .int 0])) :: W0) (fun r w => r = none ∧ ∃ b0 : Nat, ∃ b1 : Nat, w = (b1, .inl (G.2.1 1, 640, .inl (fun _ => 0))) :: (b0, .inl (G.2.1 0, 640, .inl (fun _ => 0))) :: (a, .inr (1, [.ref b0, .int (nI 0), .ref b1, .int (nI 0)])) :: W0) := by
  refine MM.of rfl (xn_le rfl) ?_
  refine (?_ : XX G m_T_init (xr 1 2 1280) (xx_F G (fun r w => r = none ∧ ∃ b0 : Nat, ∃ b1 : Nat, w = (b1, .inl (G.2.1 1, 640, .inl (fun _ => 0))) :: (b0, .inl (G.2.1 0, 640, .inl (fun _ => 0))) :: (a, .inr (1, [.ref b0, .int (nI 0), .ref b1, .int (nI 0)])) :: W0) (xr 1 2 1280)) 0 0 ((a, .inr (1, [.null, .int 0, .null, .int 0])) :: W0) 0 [(0, .ref a)] [])
  refine XX.aload_n dd_T_init_0 rfl 0 rfl ?_
  refine XX.objInit dd_T_init_1 ml_T_3 oi_i oi_c (xn_le rfl) (xn_le rfl) ?_
  refine XX.aload_n dd_T_init_4 rfl 0 rfl ?_
  refine XX.sipush (v := nI 640) dd_T_init_5 (by decide) ?_
  refine XX.newB (n := 640) dd_T_init_8 wa_B (by decide) ⟨xn_le rfl, xn_le rfl⟩ (fun b0 => ?_)
  refine XX.perm (ws2 := (b0, .inl (G.2.1 0, 640, .inl (fun _ => 0))) :: (a, .inr (1, [.null, .int 0, .null, .int 0])) :: W0) (List.perm_append_singleton _ _) ?_
  refine XX.put (q0 := 1) (ws2 := (b0, .inl (G.2.1 0, 640, .inl (fun _ => 0))) :: (a, .inr (1, [.ref b0, .int 0, .null, .int 0])) :: W0) fp_T_11 dd_T_init_10 rfl rfl rfl (xn_le rfl) rfl ?_
  refine XX.aload_n dd_T_init_13 rfl 0 rfl ?_
  refine XX.iconst (v := nI 0) dd_T_init_14 (by decide) ?_
  refine XX.put (q0 := 1) (ws2 := (b0, .inl (G.2.1 0, 640, .inl (fun _ => 0))) :: (a, .inr (1, [.ref b0, .int (nI 0), .null, .int 0])) :: W0) fp_T_15 dd_T_init_15 rfl rfl rfl (xn_le rfl) rfl ?_
  refine XX.aload_n dd_T_init_18 rfl 0 rfl ?_
  refine XX.sipush (v := nI 640) dd_T_init_19 (by decide) ?_
  refine XX.newI (n := 640) dd_T_init_22 wa_I (by decide) ⟨xn_le rfl, xn_le rfl⟩ (fun b1 => ?_)
  refine XX.perm (ws2 := (b1, .inl (G.2.1 1, 640, .inl (fun _ => 0))) :: (b0, .inl (G.2.1 0, 640, .inl (fun _ => 0))) :: (a, .inr (1, [.ref b0, .int (nI 0), .null, .int 0])) :: W0) (List.perm_append_singleton _ _) ?_
  refine XX.put (q0 := 2) (ws2 := (b1, .inl (G.2.1 1, 640, .inl (fun _ => 0))) :: (b0, .inl (G.2.1 0, 640, .inl (fun _ => 0))) :: (a, .inr (1, [.ref b0, .int (nI 0), .ref b1, .int 0])) :: W0) fp_T_19 dd_T_init_24 rfl rfl rfl (xn_le rfl) rfl ?_
  refine XX.aload_n dd_T_init_27 rfl 0 rfl ?_
  refine XX.iconst (v := nI 0) dd_T_init_28 (by decide) ?_
  refine XX.put (q0 := 2) (ws2 := (b1, .inl (G.2.1 1, 640, .inl (fun _ => 0))) :: (b0, .inl (G.2.1 0, 640, .inl (fun _ => 0))) :: (a, .inr (1, [.ref b0, .int (nI 0), .ref b1, .int (nI 0)])) :: W0) fp_T_23 dd_T_init_29 rfl rfl rfl (xn_le rfl) rfl ?_
  exact XX.vret dd_T_init_32 rfl ⟨xn_le rfl, xn_le rfl⟩ ⟨rfl, b0, b1, rfl⟩

set_option maxRecDepth 100000 in
set_option maxHeartbeats 4000000 in
theorem c_P_init {G : XG} {a : Nat} {p0 : Nat} {W0 : va_W} : MM G m_P_init (xr 1 0 0) [.ref a, .ref p0] ((a, .inr (2, [.null, .int 0])) :: W0) (fun r w => r = none ∧ w = (a, .inr (2, [.ref p0, .int (-1)])) :: W0) := by
  refine MM.of rfl (xn_le rfl) ?_
  refine (?_ : XX G m_P_init (xr 1 0 0) (xx_F G (fun r w => r = none ∧ w = (a, .inr (2, [.ref p0, .int (-1)])) :: W0) (xr 1 0 0)) 0 0 ((a, .inr (2, [.null, .int 0])) :: W0) 0 [(0, .ref a), (1, .ref p0)] [])
  refine XX.aload_n dd_P_init_0 rfl 0 rfl ?_
  refine XX.objInit dd_P_init_1 ml_P_3 oi_i oi_c (xn_le rfl) (xn_le rfl) ?_
  refine XX.aload_n dd_P_init_4 rfl 0 rfl ?_
  refine XX.aload_n dd_P_init_5 rfl 1 rfl ?_
  refine XX.putF (q0 := 0) (ws2 := (a, .inr (2, [.ref p0, .int 0])) :: W0) ff_P_9 rfl dd_P_init_6 rfl rfl rfl (xn_le rfl) rfl ?_
  refine XX.aload_n dd_P_init_9 rfl 0 rfl ?_
  refine XX.iconst (v := -1) dd_P_init_10 (by decide) ?_
  refine XX.put (q0 := 0) (ws2 := (a, .inr (2, [.ref p0, .int (-1)])) :: W0) fp_P_15 dd_P_init_11 rfl rfl rfl (xn_le rfl) rfl ?_
  exact XX.vret dd_P_init_14 rfl ⟨xn_le rfl, xn_le rfl⟩ ⟨rfl, rfl⟩

set_option maxRecDepth 100000 in
set_option maxHeartbeats 4000000 in
theorem c_H_init {G : XG} {a : Nat} {W0 : va_W} : MM G m_H_init (xr 1 1 1000) [.ref a] ((a, .inr (7, [.null, .int 0])) :: W0) (fun r w => r = none ∧ ∃ b0 : Nat, w = (b0, .inl (G.2.1 1, 1000, .inl (fun _ => 0))) :: (a, .inr (7, [.ref b0, .int (nI 0)])) :: W0) := by
  refine MM.of rfl (xn_le rfl) ?_
  refine (?_ : XX G m_H_init (xr 1 1 1000) (xx_F G (fun r w => r = none ∧ ∃ b0 : Nat, w = (b0, .inl (G.2.1 1, 1000, .inl (fun _ => 0))) :: (a, .inr (7, [.ref b0, .int (nI 0)])) :: W0) (xr 1 1 1000)) 0 0 ((a, .inr (7, [.null, .int 0])) :: W0) 0 [(0, .ref a)] [])
  refine XX.aload_n dd_H_init_0 rfl 0 rfl ?_
  refine XX.objInit dd_H_init_1 ml_H_3 oi_i oi_c (xn_le rfl) (xn_le rfl) ?_
  refine XX.aload_n dd_H_init_4 rfl 0 rfl ?_
  refine XX.sipush (v := nI 1000) dd_H_init_5 (by decide) ?_
  refine XX.newI (n := 1000) dd_H_init_8 wa_I (by decide) ⟨xn_le rfl, xn_le rfl⟩ (fun b0 => ?_)
  refine XX.perm (ws2 := (b0, .inl (G.2.1 1, 1000, .inl (fun _ => 0))) :: (a, .inr (7, [.null, .int 0])) :: W0) (List.perm_append_singleton _ _) ?_
  refine XX.putF (q0 := 1) (ws2 := (b0, .inl (G.2.1 1, 1000, .inl (fun _ => 0))) :: (a, .inr (7, [.ref b0, .int 0])) :: W0) ff_H_9 rfl dd_H_init_10 rfl rfl rfl (xn_le rfl) rfl ?_
  refine XX.aload_n dd_H_init_13 rfl 0 rfl ?_
  refine XX.iconst (v := nI 0) dd_H_init_14 (by decide) ?_
  refine XX.put (q0 := 1) (ws2 := (b0, .inl (G.2.1 1, 1000, .inl (fun _ => 0))) :: (a, .inr (7, [.ref b0, .int (nI 0)])) :: W0) fp_H_15 dd_H_init_15 rfl rfl rfl (xn_le rfl) rfl ?_
  exact XX.vret dd_H_init_18 rfl ⟨xn_le rfl, xn_le rfl⟩ ⟨rfl, b0, rfl⟩

set_option maxRecDepth 100000 in
set_option maxHeartbeats 4000000 in
theorem c_R_init {G : XG} {a : Nat} {p0 : Nat} {W0 : va_W} : MM G m_R_init (xr 1 2 2000) [.ref a, .ref p0] ((a, .inr (6, [.null, .null, .null])) :: W0) (fun r w => r = none ∧ ∃ b0 : Nat, ∃ b1 : Nat, w = (b1, .inl (G.2.1 1, 1000, .inl (fun _ => 0))) :: (b0, .inl (G.2.1 1, 1000, .inl (fun _ => 0))) :: (a, .inr (6, [.ref p0, .ref b0, .ref b1])) :: W0) := by
  refine MM.of rfl (xn_le rfl) ?_
  refine (?_ : XX G m_R_init (xr 1 2 2000) (xx_F G (fun r w => r = none ∧ ∃ b0 : Nat, ∃ b1 : Nat, w = (b1, .inl (G.2.1 1, 1000, .inl (fun _ => 0))) :: (b0, .inl (G.2.1 1, 1000, .inl (fun _ => 0))) :: (a, .inr (6, [.ref p0, .ref b0, .ref b1])) :: W0) (xr 1 2 2000)) 0 0 ((a, .inr (6, [.null, .null, .null])) :: W0) 0 [(0, .ref a), (1, .ref p0)] [])
  refine XX.aload_n dd_R_init_0 rfl 0 rfl ?_
  refine XX.objInit dd_R_init_1 ml_R_3 oi_i oi_c (xn_le rfl) (xn_le rfl) ?_
  refine XX.aload_n dd_R_init_4 rfl 0 rfl ?_
  refine XX.aload_n dd_R_init_5 rfl 1 rfl ?_
  refine XX.putF (q0 := 0) (ws2 := (a, .inr (6, [.ref p0, .null, .null])) :: W0) ff_R_9 rfl dd_R_init_6 rfl rfl rfl (xn_le rfl) rfl ?_
  refine XX.aload_n dd_R_init_9 rfl 0 rfl ?_
  refine XX.sipush (v := nI 1000) dd_R_init_10 (by decide) ?_
  refine XX.newI (n := 1000) dd_R_init_13 wa_I (by decide) ⟨xn_le rfl, xn_le rfl⟩ (fun b0 => ?_)
  refine XX.perm (ws2 := (b0, .inl (G.2.1 1, 1000, .inl (fun _ => 0))) :: (a, .inr (6, [.ref p0, .null, .null])) :: W0) (List.perm_append_singleton _ _) ?_
  refine XX.putF (q0 := 1) (ws2 := (b0, .inl (G.2.1 1, 1000, .inl (fun _ => 0))) :: (a, .inr (6, [.ref p0, .ref b0, .null])) :: W0) ff_R_15 rfl dd_R_init_15 rfl rfl rfl (xn_le rfl) rfl ?_
  refine XX.aload_n dd_R_init_18 rfl 0 rfl ?_
  refine XX.sipush (v := nI 1000) dd_R_init_19 (by decide) ?_
  refine XX.newI (n := 1000) dd_R_init_22 wa_I (by decide) ⟨xn_le rfl, xn_le rfl⟩ (fun b1 => ?_)
  refine XX.perm (ws2 := (b1, .inl (G.2.1 1, 1000, .inl (fun _ => 0))) :: (b0, .inl (G.2.1 1, 1000, .inl (fun _ => 0))) :: (a, .inr (6, [.ref p0, .ref b0, .null])) :: W0) (List.perm_append_singleton _ _) ?_
  refine XX.putF (q0 := 2) (ws2 := (b1, .inl (G.2.1 1, 1000, .inl (fun _ => 0))) :: (b0, .inl (G.2.1 1, 1000, .inl (fun _ => 0))) :: (a, .inr (6, [.ref p0, .ref b0, .ref b1])) :: W0) ff_R_19 rfl dd_R_init_24 rfl rfl rfl (xn_le rfl) rfl ?_
  exact XX.vret dd_R_init_27 rfl ⟨xn_le rfl, xn_le rfl⟩ ⟨rfl, b0, b1, rfl⟩

set_option maxRecDepth 100000 in
set_option maxHeartbeats 4000000 in
theorem c_U_init {G : XG} {a : Nat} {p0 : Nat} {p1 : Nat} {W0 : va_W} : MM G m_U_init (xr 1 2 3000) [.ref a, .ref p0, .ref p1] ((a, .inr (8, [.null, .null, .null, .null, .int 0, .int 0, .int 0, .int 0])) :: W0) (fun r w => r = none ∧ ∃ b0 : Nat, ∃ b1 : Nat, w = (b1, .inl (G.2.1 1, 2000, .inl (fun _ => 0))) :: (b0, .inl (G.2.1 1, 1000, .inl (fun _ => 0))) :: (a, .inr (8, [.ref p0, .ref p1, .ref b0, .ref b1, .int (nI 0), .int (nI 0), .int (nI 0), .int (nI 0)])) :: W0) := by
  refine MM.of rfl (xn_le rfl) ?_
  refine (?_ : XX G m_U_init (xr 1 2 3000) (xx_F G (fun r w => r = none ∧ ∃ b0 : Nat, ∃ b1 : Nat, w = (b1, .inl (G.2.1 1, 2000, .inl (fun _ => 0))) :: (b0, .inl (G.2.1 1, 1000, .inl (fun _ => 0))) :: (a, .inr (8, [.ref p0, .ref p1, .ref b0, .ref b1, .int (nI 0), .int (nI 0), .int (nI 0), .int (nI 0)])) :: W0) (xr 1 2 3000)) 0 0 ((a, .inr (8, [.null, .null, .null, .null, .int 0, .int 0, .int 0, .int 0])) :: W0) 0 [(0, .ref a), (1, .ref p0), (2, .ref p1)] [])
  refine XX.aload_n dd_U_init_0 rfl 0 rfl ?_
  refine XX.objInit dd_U_init_1 ml_U_3 oi_i oi_c (xn_le rfl) (xn_le rfl) ?_
  refine XX.aload_n dd_U_init_4 rfl 0 rfl ?_
  refine XX.aload_n dd_U_init_5 rfl 1 rfl ?_
  refine XX.putF (q0 := 0) (ws2 := (a, .inr (8, [.ref p0, .null, .null, .null, .int 0, .int 0, .int 0, .int 0])) :: W0) ff_U_9 rfl dd_U_init_6 rfl rfl rfl (xn_le rfl) rfl ?_
  refine XX.aload_n dd_U_init_9 rfl 0 rfl ?_
  refine XX.aload_n dd_U_init_10 rfl 2 rfl ?_
  refine XX.putF (q0 := 0) (ws2 := (a, .inr (8, [.ref p0, .ref p1, .null, .null, .int 0, .int 0, .int 0, .int 0])) :: W0) ff_U_15 rfl dd_U_init_11 rfl rfl rfl (xn_le rfl) rfl ?_
  refine XX.aload_n dd_U_init_14 rfl 0 rfl ?_
  refine XX.sipush (v := nI 1000) dd_U_init_15 (by decide) ?_
  refine XX.newI (n := 1000) dd_U_init_18 wa_I (by decide) ⟨xn_le rfl, xn_le rfl⟩ (fun b0 => ?_)
  refine XX.perm (ws2 := (b0, .inl (G.2.1 1, 1000, .inl (fun _ => 0))) :: (a, .inr (8, [.ref p0, .ref p1, .null, .null, .int 0, .int 0, .int 0, .int 0])) :: W0) (List.perm_append_singleton _ _) ?_
  refine XX.putF (q0 := 1) (ws2 := (b0, .inl (G.2.1 1, 1000, .inl (fun _ => 0))) :: (a, .inr (8, [.ref p0, .ref p1, .ref b0, .null, .int 0, .int 0, .int 0, .int 0])) :: W0) ff_U_19 rfl dd_U_init_20 rfl rfl rfl (xn_le rfl) rfl ?_
  refine XX.aload_n dd_U_init_23 rfl 0 rfl ?_
  refine XX.sipush (v := nI 2000) dd_U_init_24 (by decide) ?_
  refine XX.newI (n := 2000) dd_U_init_27 wa_I (by decide) ⟨xn_le rfl, xn_le rfl⟩ (fun b1 => ?_)
  refine XX.perm (ws2 := (b1, .inl (G.2.1 1, 2000, .inl (fun _ => 0))) :: (b0, .inl (G.2.1 1, 1000, .inl (fun _ => 0))) :: (a, .inr (8, [.ref p0, .ref p1, .ref b0, .null, .int 0, .int 0, .int 0, .int 0])) :: W0) (List.perm_append_singleton _ _) ?_
  refine XX.putF (q0 := 2) (ws2 := (b1, .inl (G.2.1 1, 2000, .inl (fun _ => 0))) :: (b0, .inl (G.2.1 1, 1000, .inl (fun _ => 0))) :: (a, .inr (8, [.ref p0, .ref p1, .ref b0, .ref b1, .int 0, .int 0, .int 0, .int 0])) :: W0) ff_U_23 rfl dd_U_init_29 rfl rfl rfl (xn_le rfl) rfl ?_
  refine XX.aload_n dd_U_init_32 rfl 0 rfl ?_
  refine XX.iconst (v := nI 0) dd_U_init_33 (by decide) ?_
  refine XX.put (q0 := 2) (ws2 := (b1, .inl (G.2.1 1, 2000, .inl (fun _ => 0))) :: (b0, .inl (G.2.1 1, 1000, .inl (fun _ => 0))) :: (a, .inr (8, [.ref p0, .ref p1, .ref b0, .ref b1, .int (nI 0), .int 0, .int 0, .int 0])) :: W0) fp_U_26 dd_U_init_34 rfl rfl rfl (xn_le rfl) rfl ?_
  refine XX.aload_n dd_U_init_37 rfl 0 rfl ?_
  refine XX.iconst (v := nI 0) dd_U_init_38 (by decide) ?_
  refine XX.put (q0 := 2) (ws2 := (b1, .inl (G.2.1 1, 2000, .inl (fun _ => 0))) :: (b0, .inl (G.2.1 1, 1000, .inl (fun _ => 0))) :: (a, .inr (8, [.ref p0, .ref p1, .ref b0, .ref b1, .int (nI 0), .int (nI 0), .int 0, .int 0])) :: W0) fp_U_30 dd_U_init_39 rfl rfl rfl (xn_le rfl) rfl ?_
  refine XX.aload_n dd_U_init_42 rfl 0 rfl ?_
  refine XX.iconst (v := nI 0) dd_U_init_43 (by decide) ?_
  refine XX.put (q0 := 2) (ws2 := (b1, .inl (G.2.1 1, 2000, .inl (fun _ => 0))) :: (b0, .inl (G.2.1 1, 1000, .inl (fun _ => 0))) :: (a, .inr (8, [.ref p0, .ref p1, .ref b0, .ref b1, .int (nI 0), .int (nI 0), .int (nI 0), .int 0])) :: W0) fp_U_33 dd_U_init_44 rfl rfl rfl (xn_le rfl) rfl ?_
  refine XX.aload_n dd_U_init_47 rfl 0 rfl ?_
  refine XX.iconst (v := nI 0) dd_U_init_48 (by decide) ?_
  refine XX.put (q0 := 2) (ws2 := (b1, .inl (G.2.1 1, 2000, .inl (fun _ => 0))) :: (b0, .inl (G.2.1 1, 1000, .inl (fun _ => 0))) :: (a, .inr (8, [.ref p0, .ref p1, .ref b0, .ref b1, .int (nI 0), .int (nI 0), .int (nI 0), .int (nI 0)])) :: W0) fp_U_36 dd_U_init_49 rfl rfl rfl (xn_le rfl) rfl ?_
  exact XX.vret dd_U_init_52 rfl ⟨xn_le rfl, xn_le rfl⟩ ⟨rfl, b0, b1, rfl⟩

set_option maxRecDepth 100000 in
set_option maxHeartbeats 4000000 in
theorem c_O_init {G : XG} {a : Nat} {p0 : Nat} {p1 : Nat} {W0 : va_W} : MM G m_O_init (xr 2 4 21) [.ref a, .ref p0, .ref p1] ((a, .inr (3, [.null, .null, .null, .null, .null, .null, .int 0, .int 0, .int 0, .int 0])) :: W0) (fun r w => r = none ∧ ∃ b0 : Nat, ∃ b1 : Nat, ∃ b2 : Nat, ∃ b3 : Nat, w = (b3, .inr (5, [.int 0, .int 0, .int 0, .int 0, .int 0])) :: (b2, .inr (5, [.int 0, .int 0, .int 0, .int 0, .int 0])) :: (b1, .inl (G.2.1 3, 6, .inr (.inr (.inr (.inr (va_up (va_up (va_up (va_up (va_up (va_up (fun _ => none) 0 (some b0)) 1 (some b0)) 2 (some b0)) 3 (some b0)) 4 (some b0)) 5 (some b0))))))) :: (b0, .inr (4, [.int (nI 1), .int (nI 1), .int (nI 0), .int (nI 0), .int (nI 0)])) :: (a, .inr (3, [.ref p0, .ref p1, .ref b1, .ref b0, .ref b2, .ref b3, .int (nI 0), .int (nI 0), .int (nI 0), .int (nI 0)])) :: W0) := by
  refine MM.of rfl (xn_le rfl) ?_
  refine (?_ : XX G m_O_init (xr 2 4 21) (xx_F G (fun r w => r = none ∧ ∃ b0 : Nat, ∃ b1 : Nat, ∃ b2 : Nat, ∃ b3 : Nat, w = (b3, .inr (5, [.int 0, .int 0, .int 0, .int 0, .int 0])) :: (b2, .inr (5, [.int 0, .int 0, .int 0, .int 0, .int 0])) :: (b1, .inl (G.2.1 3, 6, .inr (.inr (.inr (.inr (va_up (va_up (va_up (va_up (va_up (va_up (fun _ => none) 0 (some b0)) 1 (some b0)) 2 (some b0)) 3 (some b0)) 4 (some b0)) 5 (some b0))))))) :: (b0, .inr (4, [.int (nI 1), .int (nI 1), .int (nI 0), .int (nI 0), .int (nI 0)])) :: (a, .inr (3, [.ref p0, .ref p1, .ref b1, .ref b0, .ref b2, .ref b3, .int (nI 0), .int (nI 0), .int (nI 0), .int (nI 0)])) :: W0) (xr 2 4 21)) 0 0 ((a, .inr (3, [.null, .null, .null, .null, .null, .null, .int 0, .int 0, .int 0, .int 0])) :: W0) 0 [(0, .ref a), (1, .ref p0), (2, .ref p1)] [])
  refine XX.aload_n dd_O_init_0 rfl 0 rfl ?_
  refine XX.objInit dd_O_init_1 ml_O_3 oi_i oi_c (xn_le rfl) (xn_le rfl) ?_
  refine XX.aload_n dd_O_init_4 rfl 0 rfl ?_
  refine XX.aload_n dd_O_init_5 rfl 1 rfl ?_
  refine XX.putF (q0 := 0) (ws2 := (a, .inr (3, [.ref p0, .null, .null, .null, .null, .null, .int 0, .int 0, .int 0, .int 0])) :: W0) ff_O_9 rfl dd_O_init_6 rfl rfl rfl (xn_le rfl) rfl ?_
  refine XX.aload_n dd_O_init_9 rfl 0 rfl ?_
  refine XX.aload_n dd_O_init_10 rfl 2 rfl ?_
  refine XX.putF (q0 := 0) (ws2 := (a, .inr (3, [.ref p0, .ref p1, .null, .null, .null, .null, .int 0, .int 0, .int 0, .int 0])) :: W0) ff_O_15 rfl dd_O_init_11 rfl rfl rfl (xn_le rfl) rfl ?_
  refine XX.aload_n dd_O_init_14 rfl 0 rfl ?_
  refine XX.new (N := 5) (ci := 4) (fs := [.int 0, .int 0, .int 0, .int 0, .int 0]) nw_O_19 dd_O_init_15 ⟨xn_le rfl, xn_le rfl⟩ (fun b0 => ?_)
  refine XX.perm (ws2 := (b0, .inr (4, [.int 0, .int 0, .int 0, .int 0, .int 0])) :: (a, .inr (3, [.ref p0, .ref p1, .null, .null, .null, .null, .int 0, .int 0, .int 0, .int 0])) :: W0) (List.perm_append_singleton _ _) ?_
  refine XX.dup dd_O_init_18 rfl ?_
  refine XX.iconst (v := nI 1) dd_O_init_19 (by decide) ?_
  refine XX.iconst (v := nI 1) dd_O_init_20 (by decide) ?_
  refine XX.iconst (v := nI 0) dd_O_init_21 (by decide) ?_
  refine XX.iconst (v := nI 0) dd_O_init_22 (by decide) ?_
  refine XX.iconst (v := nI 0) dd_O_init_23 (by decide) ?_
  refine XX.callI (yk := m_K_init.1) (bk := m_K_init.2.1) (lk := m_K_init.2.2.1) (n := 5) (As := [.int (nI 1), .int (nI 1), .int (nI 0), .int (nI 0), .int (nI 0)]) (rest := [.ref b0, .ref a]) (c_K_init) mt_K_init mi_K_init rfl ml_O_21 rfl dd_O_init_24 ⟨xn_le rfl, xn_le rfl⟩ ⟨xn_le rfl, xn_le rfl⟩ (xn_le rfl) rfl (fun r1 w1 hp1 => ?_)
  obtain ⟨rfl, rfl⟩ := hp1
  refine XX.putF (q0 := 1) (ws2 := (b0, .inr (4, [.int (nI 1), .int (nI 1), .int (nI 0), .int (nI 0), .int (nI 0)])) :: (a, .inr (3, [.ref p0, .ref p1, .null, .ref b0, .null, .null, .int 0, .int 0, .int 0, .int 0])) :: W0) ff_O_24 rfl dd_O_init_27 rfl rfl rfl (xn_le rfl) rfl ?_
  refine XX.aload_n dd_O_init_30 rfl 0 rfl ?_
  refine XX.bipush (v := nI 6) dd_O_init_31 (by decide) ?_
  refine XX.newK (n := 6) dd_O_init_33 (xw_in mw_73 rfl) (by decide) ⟨xn_le rfl, xn_le rfl⟩ (fun b1 => ?_)
  refine XX.perm (ws2 := (b1, .inl (G.2.1 3, 6, .inr (.inr (.inr (.inr (fun _ => none)))))) :: (b0, .inr (4, [.int (nI 1), .int (nI 1), .int (nI 0), .int (nI 0), .int (nI 0)])) :: (a, .inr (3, [.ref p0, .ref p1, .null, .ref b0, .null, .null, .int 0, .int 0, .int 0, .int 0])) :: W0) (List.perm_append_singleton _ _) ?_
  refine XX.putF (q0 := 2) (ws2 := (b1, .inl (G.2.1 3, 6, .inr (.inr (.inr (.inr (fun _ => none)))))) :: (b0, .inr (4, [.int (nI 1), .int (nI 1), .int (nI 0), .int (nI 0), .int (nI 0)])) :: (a, .inr (3, [.ref p0, .ref p1, .ref b1, .ref b0, .null, .null, .int 0, .int 0, .int 0, .int 0])) :: W0) ff_O_28 rfl dd_O_init_36 rfl rfl rfl (xn_le rfl) rfl ?_
  refine XX.iconst (v := nI 0) dd_O_init_39 (by decide) ?_
  refine XX.istore_n (lv2 := [(3, .int (nI 0)), (0, .ref a), (1, .ref p0), (2, .ref p1)]) dd_O_init_40 rfl (by decide) rfl ?_
  refine XX.iload_n dd_O_init_41 rfl 0 rfl ?_
  refine XX.bipush (v := nI 6) dd_O_init_42 (by decide) ?_
  refine XX.ncmp_ge (a := 0) (b := 6) (tgt := 63) dd_O_init_44 (by decide) (by omega) (by omega) (fun h => absurd h (by decide)) (fun _ => ?_)
  refine XX.aload_n dd_O_init_47 rfl 1 rfl ?_
  refine XX.get (q0 := 2) (v := .ref b1) fl_O_28 dd_O_init_48 rfl rfl ?_
  refine XX.iload_n dd_O_init_51 rfl 0 rfl ?_
  refine XX.aload_n dd_O_init_52 rfl 1 rfl ?_
  refine XX.get (q0 := 2) (v := .ref b0) fl_O_24 dd_O_init_53 rfl rfl ?_
  refine XX.aast (q0 := 0) (qk := 1) (n := 6) (j := 0) (f := fun _ => none) (ws2 := (b1, .inl (G.2.1 3, 6, .inr (.inr (.inr (.inr (va_up (fun _ => none) 0 (some b0))))))) :: (b0, .inr (4, [.int (nI 1), .int (nI 1), .int (nI 0), .int (nI 0), .int (nI 0)])) :: (a, .inr (3, [.ref p0, .ref p1, .ref b1, .ref b0, .null, .null, .int 0, .int 0, .int 0, .int 0])) :: W0) dd_O_init_56 rfl rfl rfl rfl (by decide) (by decide) rfl ?_
  refine XX.iinc (z := 0) (v := nI 1) (lv2 := [(3, .int (nI 1)), (0, .ref a), (1, .ref p0), (2, .ref p1)]) dd_O_init_57 rfl (by decide) (by decide) rfl ?_
  refine XX.goto (tgt := 41) dd_O_init_60 (by decide) ?_
  refine XX.iload_n dd_O_init_41 rfl 0 rfl ?_
  refine XX.bipush (v := nI 6) dd_O_init_42 (by decide) ?_
  refine XX.ncmp_ge (a := 1) (b := 6) (tgt := 63) dd_O_init_44 (by decide) (by omega) (by omega) (fun h => absurd h (by decide)) (fun _ => ?_)
  refine XX.aload_n dd_O_init_47 rfl 1 rfl ?_
  refine XX.get (q0 := 2) (v := .ref b1) fl_O_28 dd_O_init_48 rfl rfl ?_
  refine XX.iload_n dd_O_init_51 rfl 0 rfl ?_
  refine XX.aload_n dd_O_init_52 rfl 1 rfl ?_
  refine XX.get (q0 := 2) (v := .ref b0) fl_O_24 dd_O_init_53 rfl rfl ?_
  refine XX.aast (q0 := 0) (qk := 1) (n := 6) (j := 1) (f := va_up (fun _ => none) 0 (some b0)) (ws2 := (b1, .inl (G.2.1 3, 6, .inr (.inr (.inr (.inr (va_up (va_up (fun _ => none) 0 (some b0)) 1 (some b0))))))) :: (b0, .inr (4, [.int (nI 1), .int (nI 1), .int (nI 0), .int (nI 0), .int (nI 0)])) :: (a, .inr (3, [.ref p0, .ref p1, .ref b1, .ref b0, .null, .null, .int 0, .int 0, .int 0, .int 0])) :: W0) dd_O_init_56 rfl rfl rfl rfl (by decide) (by decide) rfl ?_
  refine XX.iinc (z := 0) (v := nI 2) (lv2 := [(3, .int (nI 2)), (0, .ref a), (1, .ref p0), (2, .ref p1)]) dd_O_init_57 rfl (by decide) (by decide) rfl ?_
  refine XX.goto (tgt := 41) dd_O_init_60 (by decide) ?_
  refine XX.iload_n dd_O_init_41 rfl 0 rfl ?_
  refine XX.bipush (v := nI 6) dd_O_init_42 (by decide) ?_
  refine XX.ncmp_ge (a := 2) (b := 6) (tgt := 63) dd_O_init_44 (by decide) (by omega) (by omega) (fun h => absurd h (by decide)) (fun _ => ?_)
  refine XX.aload_n dd_O_init_47 rfl 1 rfl ?_
  refine XX.get (q0 := 2) (v := .ref b1) fl_O_28 dd_O_init_48 rfl rfl ?_
  refine XX.iload_n dd_O_init_51 rfl 0 rfl ?_
  refine XX.aload_n dd_O_init_52 rfl 1 rfl ?_
  refine XX.get (q0 := 2) (v := .ref b0) fl_O_24 dd_O_init_53 rfl rfl ?_
  refine XX.aast (q0 := 0) (qk := 1) (n := 6) (j := 2) (f := va_up (va_up (fun _ => none) 0 (some b0)) 1 (some b0)) (ws2 := (b1, .inl (G.2.1 3, 6, .inr (.inr (.inr (.inr (va_up (va_up (va_up (fun _ => none) 0 (some b0)) 1 (some b0)) 2 (some b0))))))) :: (b0, .inr (4, [.int (nI 1), .int (nI 1), .int (nI 0), .int (nI 0), .int (nI 0)])) :: (a, .inr (3, [.ref p0, .ref p1, .ref b1, .ref b0, .null, .null, .int 0, .int 0, .int 0, .int 0])) :: W0) dd_O_init_56 rfl rfl rfl rfl (by decide) (by decide) rfl ?_
  refine XX.iinc (z := 0) (v := nI 3) (lv2 := [(3, .int (nI 3)), (0, .ref a), (1, .ref p0), (2, .ref p1)]) dd_O_init_57 rfl (by decide) (by decide) rfl ?_
  refine XX.goto (tgt := 41) dd_O_init_60 (by decide) ?_
  refine XX.iload_n dd_O_init_41 rfl 0 rfl ?_
  refine XX.bipush (v := nI 6) dd_O_init_42 (by decide) ?_
  refine XX.ncmp_ge (a := 3) (b := 6) (tgt := 63) dd_O_init_44 (by decide) (by omega) (by omega) (fun h => absurd h (by decide)) (fun _ => ?_)
  refine XX.aload_n dd_O_init_47 rfl 1 rfl ?_
  refine XX.get (q0 := 2) (v := .ref b1) fl_O_28 dd_O_init_48 rfl rfl ?_
  refine XX.iload_n dd_O_init_51 rfl 0 rfl ?_
  refine XX.aload_n dd_O_init_52 rfl 1 rfl ?_
  refine XX.get (q0 := 2) (v := .ref b0) fl_O_24 dd_O_init_53 rfl rfl ?_
  refine XX.aast (q0 := 0) (qk := 1) (n := 6) (j := 3) (f := va_up (va_up (va_up (fun _ => none) 0 (some b0)) 1 (some b0)) 2 (some b0)) (ws2 := (b1, .inl (G.2.1 3, 6, .inr (.inr (.inr (.inr (va_up (va_up (va_up (va_up (fun _ => none) 0 (some b0)) 1 (some b0)) 2 (some b0)) 3 (some b0))))))) :: (b0, .inr (4, [.int (nI 1), .int (nI 1), .int (nI 0), .int (nI 0), .int (nI 0)])) :: (a, .inr (3, [.ref p0, .ref p1, .ref b1, .ref b0, .null, .null, .int 0, .int 0, .int 0, .int 0])) :: W0) dd_O_init_56 rfl rfl rfl rfl (by decide) (by decide) rfl ?_
  refine XX.iinc (z := 0) (v := nI 4) (lv2 := [(3, .int (nI 4)), (0, .ref a), (1, .ref p0), (2, .ref p1)]) dd_O_init_57 rfl (by decide) (by decide) rfl ?_
  refine XX.goto (tgt := 41) dd_O_init_60 (by decide) ?_
  refine XX.iload_n dd_O_init_41 rfl 0 rfl ?_
  refine XX.bipush (v := nI 6) dd_O_init_42 (by decide) ?_
  refine XX.ncmp_ge (a := 4) (b := 6) (tgt := 63) dd_O_init_44 (by decide) (by omega) (by omega) (fun h => absurd h (by decide)) (fun _ => ?_)
  refine XX.aload_n dd_O_init_47 rfl 1 rfl ?_
  refine XX.get (q0 := 2) (v := .ref b1) fl_O_28 dd_O_init_48 rfl rfl ?_
  refine XX.iload_n dd_O_init_51 rfl 0 rfl ?_
  refine XX.aload_n dd_O_init_52 rfl 1 rfl ?_
  refine XX.get (q0 := 2) (v := .ref b0) fl_O_24 dd_O_init_53 rfl rfl ?_
  refine XX.aast (q0 := 0) (qk := 1) (n := 6) (j := 4) (f := va_up (va_up (va_up (va_up (fun _ => none) 0 (some b0)) 1 (some b0)) 2 (some b0)) 3 (some b0)) (ws2 := (b1, .inl (G.2.1 3, 6, .inr (.inr (.inr (.inr (va_up (va_up (va_up (va_up (va_up (fun _ => none) 0 (some b0)) 1 (some b0)) 2 (some b0)) 3 (some b0)) 4 (some b0))))))) :: (b0, .inr (4, [.int (nI 1), .int (nI 1), .int (nI 0), .int (nI 0), .int (nI 0)])) :: (a, .inr (3, [.ref p0, .ref p1, .ref b1, .ref b0, .null, .null, .int 0, .int 0, .int 0, .int 0])) :: W0) dd_O_init_56 rfl rfl rfl rfl (by decide) (by decide) rfl ?_
  refine XX.iinc (z := 0) (v := nI 5) (lv2 := [(3, .int (nI 5)), (0, .ref a), (1, .ref p0), (2, .ref p1)]) dd_O_init_57 rfl (by decide) (by decide) rfl ?_
  refine XX.goto (tgt := 41) dd_O_init_60 (by decide) ?_
  refine XX.iload_n dd_O_init_41 rfl 0 rfl ?_
  refine XX.bipush (v := nI 6) dd_O_init_42 (by decide) ?_
  refine XX.ncmp_ge (a := 5) (b := 6) (tgt := 63) dd_O_init_44 (by decide) (by omega) (by omega) (fun h => absurd h (by decide)) (fun _ => ?_)
  refine XX.aload_n dd_O_init_47 rfl 1 rfl ?_
  refine XX.get (q0 := 2) (v := .ref b1) fl_O_28 dd_O_init_48 rfl rfl ?_
  refine XX.iload_n dd_O_init_51 rfl 0 rfl ?_
  refine XX.aload_n dd_O_init_52 rfl 1 rfl ?_
  refine XX.get (q0 := 2) (v := .ref b0) fl_O_24 dd_O_init_53 rfl rfl ?_
  refine XX.aast (q0 := 0) (qk := 1) (n := 6) (j := 5) (f := va_up (va_up (va_up (va_up (va_up (fun _ => none) 0 (some b0)) 1 (some b0)) 2 (some b0)) 3 (some b0)) 4 (some b0)) (ws2 := (b1, .inl (G.2.1 3, 6, .inr (.inr (.inr (.inr (va_up (va_up (va_up (va_up (va_up (va_up (fun _ => none) 0 (some b0)) 1 (some b0)) 2 (some b0)) 3 (some b0)) 4 (some b0)) 5 (some b0))))))) :: (b0, .inr (4, [.int (nI 1), .int (nI 1), .int (nI 0), .int (nI 0), .int (nI 0)])) :: (a, .inr (3, [.ref p0, .ref p1, .ref b1, .ref b0, .null, .null, .int 0, .int 0, .int 0, .int 0])) :: W0) dd_O_init_56 rfl rfl rfl rfl (by decide) (by decide) rfl ?_
  refine XX.iinc (z := 0) (v := nI 6) (lv2 := [(3, .int (nI 6)), (0, .ref a), (1, .ref p0), (2, .ref p1)]) dd_O_init_57 rfl (by decide) (by decide) rfl ?_
  refine XX.goto (tgt := 41) dd_O_init_60 (by decide) ?_
  refine XX.iload_n dd_O_init_41 rfl 0 rfl ?_
  refine XX.bipush (v := nI 6) dd_O_init_42 (by decide) ?_
  refine XX.ncmp_ge (a := 6) (b := 6) (tgt := 63) dd_O_init_44 (by decide) (by omega) (by omega) (fun _ => ?_) (fun h => absurd h (by decide))
  refine XX.aload_n dd_O_init_63 rfl 1 rfl ?_
  refine XX.new (N := 5) (ci := 5) (fs := [.int 0, .int 0, .int 0, .int 0, .int 0]) nw_O_32 dd_O_init_64 ⟨xn_le rfl, xn_le rfl⟩ (fun b2 => ?_)
  refine XX.perm (ws2 := (b2, .inr (5, [.int 0, .int 0, .int 0, .int 0, .int 0])) :: (b1, .inl (G.2.1 3, 6, .inr (.inr (.inr (.inr (va_up (va_up (va_up (va_up (va_up (va_up (fun _ => none) 0 (some b0)) 1 (some b0)) 2 (some b0)) 3 (some b0)) 4 (some b0)) 5 (some b0))))))) :: (b0, .inr (4, [.int (nI 1), .int (nI 1), .int (nI 0), .int (nI 0), .int (nI 0)])) :: (a, .inr (3, [.ref p0, .ref p1, .ref b1, .ref b0, .null, .null, .int 0, .int 0, .int 0, .int 0])) :: W0) (List.perm_append_singleton _ _) ?_
  refine XX.dup dd_O_init_67 rfl ?_
  refine XX.callI (yk := m_N_init.1) (bk := m_N_init.2.1) (lk := m_N_init.2.2.1) (n := 0) (As := []) (rest := [.ref b2, .ref a]) (c_N_init) mt_N_init mi_N_init rfl ml_O_34 rfl dd_O_init_68 ⟨xn_le rfl, xn_le rfl⟩ ⟨xn_le rfl, xn_le rfl⟩ (xn_le rfl) rfl (fun r1 w1 hp1 => ?_)
  obtain ⟨rfl, rfl⟩ := hp1
  refine XX.putF (q0 := 3) (ws2 := (b2, .inr (5, [.int 0, .int 0, .int 0, .int 0, .int 0])) :: (b1, .inl (G.2.1 3, 6, .inr (.inr (.inr (.inr (va_up (va_up (va_up (va_up (va_up (va_up (fun _ => none) 0 (some b0)) 1 (some b0)) 2 (some b0)) 3 (some b0)) 4 (some b0)) 5 (some b0))))))) :: (b0, .inr (4, [.int (nI 1), .int (nI 1), .int (nI 0), .int (nI 0), .int (nI 0)])) :: (a, .inr (3, [.ref p0, .ref p1, .ref b1, .ref b0, .ref b2, .null, .int 0, .int 0, .int 0, .int 0])) :: W0) ff_O_35 rfl dd_O_init_71 rfl rfl rfl (xn_le rfl) rfl ?_
  refine XX.aload_n dd_O_init_74 rfl 1 rfl ?_
  refine XX.new (N := 5) (ci := 5) (fs := [.int 0, .int 0, .int 0, .int 0, .int 0]) nw_O_32 dd_O_init_75 ⟨xn_le rfl, xn_le rfl⟩ (fun b3 => ?_)
  refine XX.perm (ws2 := (b3, .inr (5, [.int 0, .int 0, .int 0, .int 0, .int 0])) :: (b2, .inr (5, [.int 0, .int 0, .int 0, .int 0, .int 0])) :: (b1, .inl (G.2.1 3, 6, .inr (.inr (.inr (.inr (va_up (va_up (va_up (va_up (va_up (va_up (fun _ => none) 0 (some b0)) 1 (some b0)) 2 (some b0)) 3 (some b0)) 4 (some b0)) 5 (some b0))))))) :: (b0, .inr (4, [.int (nI 1), .int (nI 1), .int (nI 0), .int (nI 0), .int (nI 0)])) :: (a, .inr (3, [.ref p0, .ref p1, .ref b1, .ref b0, .ref b2, .null, .int 0, .int 0, .int 0, .int 0])) :: W0) (List.perm_append_singleton _ _) ?_
  refine XX.dup dd_O_init_78 rfl ?_
  refine XX.callI (yk := m_N_init.1) (bk := m_N_init.2.1) (lk := m_N_init.2.2.1) (n := 0) (As := []) (rest := [.ref b3, .ref a]) (c_N_init) mt_N_init mi_N_init rfl ml_O_34 rfl dd_O_init_79 ⟨xn_le rfl, xn_le rfl⟩ ⟨xn_le rfl, xn_le rfl⟩ (xn_le rfl) rfl (fun r1 w1 hp1 => ?_)
  obtain ⟨rfl, rfl⟩ := hp1
  refine XX.putF (q0 := 4) (ws2 := (b3, .inr (5, [.int 0, .int 0, .int 0, .int 0, .int 0])) :: (b2, .inr (5, [.int 0, .int 0, .int 0, .int 0, .int 0])) :: (b1, .inl (G.2.1 3, 6, .inr (.inr (.inr (.inr (va_up (va_up (va_up (va_up (va_up (va_up (fun _ => none) 0 (some b0)) 1 (some b0)) 2 (some b0)) 3 (some b0)) 4 (some b0)) 5 (some b0))))))) :: (b0, .inr (4, [.int (nI 1), .int (nI 1), .int (nI 0), .int (nI 0), .int (nI 0)])) :: (a, .inr (3, [.ref p0, .ref p1, .ref b1, .ref b0, .ref b2, .ref b3, .int 0, .int 0, .int 0, .int 0])) :: W0) ff_O_39 rfl dd_O_init_82 rfl rfl rfl (xn_le rfl) rfl ?_
  refine XX.aload_n dd_O_init_85 rfl 1 rfl ?_
  refine XX.iconst (v := nI 0) dd_O_init_86 (by decide) ?_
  refine XX.put (q0 := 4) (ws2 := (b3, .inr (5, [.int 0, .int 0, .int 0, .int 0, .int 0])) :: (b2, .inr (5, [.int 0, .int 0, .int 0, .int 0, .int 0])) :: (b1, .inl (G.2.1 3, 6, .inr (.inr (.inr (.inr (va_up (va_up (va_up (va_up (va_up (va_up (fun _ => none) 0 (some b0)) 1 (some b0)) 2 (some b0)) 3 (some b0)) 4 (some b0)) 5 (some b0))))))) :: (b0, .inr (4, [.int (nI 1), .int (nI 1), .int (nI 0), .int (nI 0), .int (nI 0)])) :: (a, .inr (3, [.ref p0, .ref p1, .ref b1, .ref b0, .ref b2, .ref b3, .int (nI 0), .int 0, .int 0, .int 0])) :: W0) fp_O_42 dd_O_init_87 rfl rfl rfl (xn_le rfl) rfl ?_
  refine XX.aload_n dd_O_init_90 rfl 1 rfl ?_
  refine XX.iconst (v := nI 0) dd_O_init_91 (by decide) ?_
  refine XX.put (q0 := 4) (ws2 := (b3, .inr (5, [.int 0, .int 0, .int 0, .int 0, .int 0])) :: (b2, .inr (5, [.int 0, .int 0, .int 0, .int 0, .int 0])) :: (b1, .inl (G.2.1 3, 6, .inr (.inr (.inr (.inr (va_up (va_up (va_up (va_up (va_up (va_up (fun _ => none) 0 (some b0)) 1 (some b0)) 2 (some b0)) 3 (some b0)) 4 (some b0)) 5 (some b0))))))) :: (b0, .inr (4, [.int (nI 1), .int (nI 1), .int (nI 0), .int (nI 0), .int (nI 0)])) :: (a, .inr (3, [.ref p0, .ref p1, .ref b1, .ref b0, .ref b2, .ref b3, .int (nI 0), .int (nI 0), .int 0, .int 0])) :: W0) fp_O_46 dd_O_init_92 rfl rfl rfl (xn_le rfl) rfl ?_
  refine XX.aload_n dd_O_init_95 rfl 1 rfl ?_
  refine XX.iconst (v := nI 0) dd_O_init_96 (by decide) ?_
  refine XX.put (q0 := 4) (ws2 := (b3, .inr (5, [.int 0, .int 0, .int 0, .int 0, .int 0])) :: (b2, .inr (5, [.int 0, .int 0, .int 0, .int 0, .int 0])) :: (b1, .inl (G.2.1 3, 6, .inr (.inr (.inr (.inr (va_up (va_up (va_up (va_up (va_up (va_up (fun _ => none) 0 (some b0)) 1 (some b0)) 2 (some b0)) 3 (some b0)) 4 (some b0)) 5 (some b0))))))) :: (b0, .inr (4, [.int (nI 1), .int (nI 1), .int (nI 0), .int (nI 0), .int (nI 0)])) :: (a, .inr (3, [.ref p0, .ref p1, .ref b1, .ref b0, .ref b2, .ref b3, .int (nI 0), .int (nI 0), .int (nI 0), .int 0])) :: W0) fp_O_49 dd_O_init_97 rfl rfl rfl (xn_le rfl) rfl ?_
  refine XX.aload_n dd_O_init_100 rfl 1 rfl ?_
  refine XX.iconst (v := nI 0) dd_O_init_101 (by decide) ?_
  refine XX.put (q0 := 4) (ws2 := (b3, .inr (5, [.int 0, .int 0, .int 0, .int 0, .int 0])) :: (b2, .inr (5, [.int 0, .int 0, .int 0, .int 0, .int 0])) :: (b1, .inl (G.2.1 3, 6, .inr (.inr (.inr (.inr (va_up (va_up (va_up (va_up (va_up (va_up (fun _ => none) 0 (some b0)) 1 (some b0)) 2 (some b0)) 3 (some b0)) 4 (some b0)) 5 (some b0))))))) :: (b0, .inr (4, [.int (nI 1), .int (nI 1), .int (nI 0), .int (nI 0), .int (nI 0)])) :: (a, .inr (3, [.ref p0, .ref p1, .ref b1, .ref b0, .ref b2, .ref b3, .int (nI 0), .int (nI 0), .int (nI 0), .int (nI 0)])) :: W0) fp_O_53 dd_O_init_102 rfl rfl rfl (xn_le rfl) rfl ?_
  exact XX.vret dd_O_init_105 rfl ⟨xn_le rfl, xn_le rfl⟩ ⟨rfl, b0, b1, b2, b3, rfl⟩

set_option maxRecDepth 100000 in
set_option maxHeartbeats 4000000 in
theorem c_S_init {G : XG} {a : Nat} {W0 : va_W} : MM G m_S_init (xr 3 18 8330) [.ref a] ((a, .inr (0, [.null, .null, .null, .null, .null, .null, .null, .int 0, .int 0, .int 0])) :: W0) (CQV G (fun _ => a) (fun _ => 640) W0 s_0) := by
  refine MM.of rfl (xn_le rfl) ?_
  refine (?_ : XX G m_S_init (xr 3 18 8330) (xx_F G (CQV G (fun _ => a) (fun _ => 640) W0 s_0) (xr 3 18 8330)) 0 0 ((a, .inr (0, [.null, .null, .null, .null, .null, .null, .null, .int 0, .int 0, .int 0])) :: W0) 0 [(0, .ref a)] [])
  refine XX.aload_n dd_S_init_0 rfl 0 rfl ?_
  refine XX.objInit dd_S_init_1 ml_S_1 oi_i oi_c (xn_le rfl) (xn_le rfl) ?_
  refine XX.aload_n dd_S_init_4 rfl 0 rfl ?_
  refine XX.new (N := 4) (ci := 1) (fs := [.null, .int 0, .null, .int 0]) nw_S_7 dd_S_init_5 ⟨xn_le rfl, xn_le rfl⟩ (fun b0 => ?_)
  refine XX.perm (ws2 := (b0, .inr (1, [.null, .int 0, .null, .int 0])) :: (a, .inr (0, [.null, .null, .null, .null, .null, .null, .null, .int 0, .int 0, .int 0])) :: W0) (List.perm_append_singleton _ _) ?_
  refine XX.dup dd_S_init_8 rfl ?_
  refine XX.callI (yk := m_T_init.1) (bk := m_T_init.2.1) (lk := m_T_init.2.2.1) (n := 0) (As := []) (rest := [.ref b0, .ref a]) (c_T_init) mt_T_init mi_T_init rfl ml_S_9 rfl dd_S_init_9 ⟨xn_le rfl, xn_le rfl⟩ ⟨xn_le rfl, xn_le rfl⟩ (xn_le rfl) rfl (fun r1 w1 hp1 => ?_)
  obtain ⟨rfl, b1, b2, rfl⟩ := hp1
  refine XX.putF (q0 := 3) (ws2 := (b2, .inl (G.2.1 1, 640, .inl (fun _ => 0))) :: (b1, .inl (G.2.1 0, 640, .inl (fun _ => 0))) :: (b0, .inr (1, [.ref b1, .int (nI 0), .ref b2, .int (nI 0)])) :: (a, .inr (0, [.ref b0, .null, .null, .null, .null, .null, .null, .int 0, .int 0, .int 0])) :: W0) ff_S_10 rfl dd_S_init_12 rfl rfl rfl (xn_le rfl) rfl ?_
  refine XX.aload_n dd_S_init_15 rfl 0 rfl ?_
  refine XX.new (N := 2) (ci := 2) (fs := [.null, .int 0]) nw_S_16 dd_S_init_16 ⟨xn_le rfl, xn_le rfl⟩ (fun b3 => ?_)
  refine XX.perm (ws2 := (b3, .inr (2, [.null, .int 0])) :: (b2, .inl (G.2.1 1, 640, .inl (fun _ => 0))) :: (b1, .inl (G.2.1 0, 640, .inl (fun _ => 0))) :: (b0, .inr (1, [.ref b1, .int (nI 0), .ref b2, .int (nI 0)])) :: (a, .inr (0, [.ref b0, .null, .null, .null, .null, .null, .null, .int 0, .int 0, .int 0])) :: W0) (List.perm_append_singleton _ _) ?_
  refine XX.dup dd_S_init_19 rfl ?_
  refine XX.aload_n dd_S_init_20 rfl 0 rfl ?_
  refine XX.get (q0 := 4) (v := .ref b0) fl_S_10 dd_S_init_21 rfl rfl ?_
  refine XX.callI (yk := m_P_init.1) (bk := m_P_init.2.1) (lk := m_P_init.2.2.1) (n := 1) (As := [.ref b0]) (rest := [.ref b3, .ref a]) (c_P_init) mt_P_init mi_P_init rfl ml_S_18 rfl dd_S_init_24 ⟨xn_le rfl, xn_le rfl⟩ ⟨xn_le rfl, xn_le rfl⟩ (xn_le rfl) rfl (fun r1 w1 hp1 => ?_)
  obtain ⟨rfl, rfl⟩ := hp1
  refine XX.putF (q0 := 4) (ws2 := (b3, .inr (2, [.ref b0, .int (-1)])) :: (b2, .inl (G.2.1 1, 640, .inl (fun _ => 0))) :: (b1, .inl (G.2.1 0, 640, .inl (fun _ => 0))) :: (b0, .inr (1, [.ref b1, .int (nI 0), .ref b2, .int (nI 0)])) :: (a, .inr (0, [.ref b0, .ref b3, .null, .null, .null, .null, .null, .int 0, .int 0, .int 0])) :: W0) ff_S_21 rfl dd_S_init_27 rfl rfl rfl (xn_le rfl) rfl ?_
  refine XX.aload_n dd_S_init_30 rfl 0 rfl ?_
  refine XX.new (N := 10) (ci := 3) (fs := [.null, .null, .null, .null, .null, .null, .int 0, .int 0, .int 0, .int 0]) nw_S_25 dd_S_init_31 ⟨xn_le rfl, xn_le rfl⟩ (fun b4 => ?_)
  refine XX.perm (ws2 := (b4, .inr (3, [.null, .null, .null, .null, .null, .null, .int 0, .int 0, .int 0, .int 0])) :: (b3, .inr (2, [.ref b0, .int (-1)])) :: (b2, .inl (G.2.1 1, 640, .inl (fun _ => 0))) :: (b1, .inl (G.2.1 0, 640, .inl (fun _ => 0))) :: (b0, .inr (1, [.ref b1, .int (nI 0), .ref b2, .int (nI 0)])) :: (a, .inr (0, [.ref b0, .ref b3, .null, .null, .null, .null, .null, .int 0, .int 0, .int 0])) :: W0) (List.perm_append_singleton _ _) ?_
  refine XX.dup dd_S_init_34 rfl ?_
  refine XX.aload_n dd_S_init_35 rfl 0 rfl ?_
  refine XX.get (q0 := 5) (v := .ref b0) fl_S_10 dd_S_init_36 rfl rfl ?_
  refine XX.aload_n dd_S_init_39 rfl 0 rfl ?_
  refine XX.get (q0 := 5) (v := .ref b3) fl_S_21 dd_S_init_40 rfl rfl ?_
  refine XX.callI (yk := m_O_init.1) (bk := m_O_init.2.1) (lk := m_O_init.2.2.1) (n := 2) (As := [.ref b0, .ref b3]) (rest := [.ref b4, .ref a]) (c_O_init) mt_O_init mi_O_init rfl ml_S_27 rfl dd_S_init_43 ⟨xn_le rfl, xn_le rfl⟩ ⟨xn_le rfl, xn_le rfl⟩ (xn_le rfl) rfl (fun r1 w1 hp1 => ?_)
  obtain ⟨rfl, b5, b6, b7, b8, rfl⟩ := hp1
  refine XX.putF (q0 := 9) (ws2 := (b8, .inr (5, [.int 0, .int 0, .int 0, .int 0, .int 0])) :: (b7, .inr (5, [.int 0, .int 0, .int 0, .int 0, .int 0])) :: (b6, .inl (G.2.1 3, 6, .inr (.inr (.inr (.inr (va_up (va_up (va_up (va_up (va_up (va_up (fun _ => none) 0 (some b5)) 1 (some b5)) 2 (some b5)) 3 (some b5)) 4 (some b5)) 5 (some b5))))))) :: (b5, .inr (4, [.int (nI 1), .int (nI 1), .int (nI 0), .int (nI 0), .int (nI 0)])) :: (b4, .inr (3, [.ref b0, .ref b3, .ref b6, .ref b5, .ref b7, .ref b8, .int (nI 0), .int (nI 0), .int (nI 0), .int (nI 0)])) :: (b3, .inr (2, [.ref b0, .int (-1)])) :: (b2, .inl (G.2.1 1, 640, .inl (fun _ => 0))) :: (b1, .inl (G.2.1 0, 640, .inl (fun _ => 0))) :: (b0, .inr (1, [.ref b1, .int (nI 0), .ref b2, .int (nI 0)])) :: (a, .inr (0, [.ref b0, .ref b3, .ref b4, .null, .null, .null, .null, .int 0, .int 0, .int 0])) :: W0) ff_S_30 rfl dd_S_init_46 rfl rfl rfl (xn_le rfl) rfl ?_
  refine XX.aload_n dd_S_init_49 rfl 0 rfl ?_
  refine XX.new (N := 3) (ci := 6) (fs := [.null, .null, .null]) nw_S_34 dd_S_init_50 ⟨xn_le rfl, xn_le rfl⟩ (fun b9 => ?_)
  refine XX.perm (ws2 := (b9, .inr (6, [.null, .null, .null])) :: (b8, .inr (5, [.int 0, .int 0, .int 0, .int 0, .int 0])) :: (b7, .inr (5, [.int 0, .int 0, .int 0, .int 0, .int 0])) :: (b6, .inl (G.2.1 3, 6, .inr (.inr (.inr (.inr (va_up (va_up (va_up (va_up (va_up (va_up (fun _ => none) 0 (some b5)) 1 (some b5)) 2 (some b5)) 3 (some b5)) 4 (some b5)) 5 (some b5))))))) :: (b5, .inr (4, [.int (nI 1), .int (nI 1), .int (nI 0), .int (nI 0), .int (nI 0)])) :: (b4, .inr (3, [.ref b0, .ref b3, .ref b6, .ref b5, .ref b7, .ref b8, .int (nI 0), .int (nI 0), .int (nI 0), .int (nI 0)])) :: (b3, .inr (2, [.ref b0, .int (-1)])) :: (b2, .inl (G.2.1 1, 640, .inl (fun _ => 0))) :: (b1, .inl (G.2.1 0, 640, .inl (fun _ => 0))) :: (b0, .inr (1, [.ref b1, .int (nI 0), .ref b2, .int (nI 0)])) :: (a, .inr (0, [.ref b0, .ref b3, .ref b4, .null, .null, .null, .null, .int 0, .int 0, .int 0])) :: W0) (List.perm_append_singleton _ _) ?_
  refine XX.dup dd_S_init_53 rfl ?_
  refine XX.aload_n dd_S_init_54 rfl 0 rfl ?_
  refine XX.get (q0 := 10) (v := .ref b4) fl_S_30 dd_S_init_55 rfl rfl ?_
  refine XX.callI (yk := m_R_init.1) (bk := m_R_init.2.1) (lk := m_R_init.2.2.1) (n := 1) (As := [.ref b4]) (rest := [.ref b9, .ref a]) (c_R_init) mt_R_init mi_R_init rfl ml_S_36 rfl dd_S_init_58 ⟨xn_le rfl, xn_le rfl⟩ ⟨xn_le rfl, xn_le rfl⟩ (xn_le rfl) rfl (fun r1 w1 hp1 => ?_)
  obtain ⟨rfl, b10, b11, rfl⟩ := hp1
  refine XX.putF (q0 := 12) (ws2 := (b11, .inl (G.2.1 1, 1000, .inl (fun _ => 0))) :: (b10, .inl (G.2.1 1, 1000, .inl (fun _ => 0))) :: (b9, .inr (6, [.ref b4, .ref b10, .ref b11])) :: (b8, .inr (5, [.int 0, .int 0, .int 0, .int 0, .int 0])) :: (b7, .inr (5, [.int 0, .int 0, .int 0, .int 0, .int 0])) :: (b6, .inl (G.2.1 3, 6, .inr (.inr (.inr (.inr (va_up (va_up (va_up (va_up (va_up (va_up (fun _ => none) 0 (some b5)) 1 (some b5)) 2 (some b5)) 3 (some b5)) 4 (some b5)) 5 (some b5))))))) :: (b5, .inr (4, [.int (nI 1), .int (nI 1), .int (nI 0), .int (nI 0), .int (nI 0)])) :: (b4, .inr (3, [.ref b0, .ref b3, .ref b6, .ref b5, .ref b7, .ref b8, .int (nI 0), .int (nI 0), .int (nI 0), .int (nI 0)])) :: (b3, .inr (2, [.ref b0, .int (-1)])) :: (b2, .inl (G.2.1 1, 640, .inl (fun _ => 0))) :: (b1, .inl (G.2.1 0, 640, .inl (fun _ => 0))) :: (b0, .inr (1, [.ref b1, .int (nI 0), .ref b2, .int (nI 0)])) :: (a, .inr (0, [.ref b0, .ref b3, .ref b4, .ref b9, .null, .null, .null, .int 0, .int 0, .int 0])) :: W0) ff_S_39 rfl dd_S_init_61 rfl rfl rfl (xn_le rfl) rfl ?_
  refine XX.aload_n dd_S_init_64 rfl 0 rfl ?_
  refine XX.new (N := 2) (ci := 7) (fs := [.null, .int 0]) nw_S_43 dd_S_init_65 ⟨xn_le rfl, xn_le rfl⟩ (fun b12 => ?_)
  refine XX.perm (ws2 := (b12, .inr (7, [.null, .int 0])) :: (b11, .inl (G.2.1 1, 1000, .inl (fun _ => 0))) :: (b10, .inl (G.2.1 1, 1000, .inl (fun _ => 0))) :: (b9, .inr (6, [.ref b4, .ref b10, .ref b11])) :: (b8, .inr (5, [.int 0, .int 0, .int 0, .int 0, .int 0])) :: (b7, .inr (5, [.int 0, .int 0, .int 0, .int 0, .int 0])) :: (b6, .inl (G.2.1 3, 6, .inr (.inr (.inr (.inr (va_up (va_up (va_up (va_up (va_up (va_up (fun _ => none) 0 (some b5)) 1 (some b5)) 2 (some b5)) 3 (some b5)) 4 (some b5)) 5 (some b5))))))) :: (b5, .inr (4, [.int (nI 1), .int (nI 1), .int (nI 0), .int (nI 0), .int (nI 0)])) :: (b4, .inr (3, [.ref b0, .ref b3, .ref b6, .ref b5, .ref b7, .ref b8, .int (nI 0), .int (nI 0), .int (nI 0), .int (nI 0)])) :: (b3, .inr (2, [.ref b0, .int (-1)])) :: (b2, .inl (G.2.1 1, 640, .inl (fun _ => 0))) :: (b1, .inl (G.2.1 0, 640, .inl (fun _ => 0))) :: (b0, .inr (1, [.ref b1, .int (nI 0), .ref b2, .int (nI 0)])) :: (a, .inr (0, [.ref b0, .ref b3, .ref b4, .ref b9, .null, .null, .null, .int 0, .int 0, .int 0])) :: W0) (List.perm_append_singleton _ _) ?_
  refine XX.dup dd_S_init_68 rfl ?_
  refine XX.callI (yk := m_H_init.1) (bk := m_H_init.2.1) (lk := m_H_init.2.2.1) (n := 0) (As := []) (rest := [.ref b12, .ref a]) (c_H_init) mt_H_init mi_H_init rfl ml_S_45 rfl dd_S_init_69 ⟨xn_le rfl, xn_le rfl⟩ ⟨xn_le rfl, xn_le rfl⟩ (xn_le rfl) rfl (fun r1 w1 hp1 => ?_)
  obtain ⟨rfl, b13, rfl⟩ := hp1
  refine XX.putF (q0 := 14) (ws2 := (b13, .inl (G.2.1 1, 1000, .inl (fun _ => 0))) :: (b12, .inr (7, [.ref b13, .int (nI 0)])) :: (b11, .inl (G.2.1 1, 1000, .inl (fun _ => 0))) :: (b10, .inl (G.2.1 1, 1000, .inl (fun _ => 0))) :: (b9, .inr (6, [.ref b4, .ref b10, .ref b11])) :: (b8, .inr (5, [.int 0, .int 0, .int 0, .int 0, .int 0])) :: (b7, .inr (5, [.int 0, .int 0, .int 0, .int 0, .int 0])) :: (b6, .inl (G.2.1 3, 6, .inr (.inr (.inr (.inr (va_up (va_up (va_up (va_up (va_up (va_up (fun _ => none) 0 (some b5)) 1 (some b5)) 2 (some b5)) 3 (some b5)) 4 (some b5)) 5 (some b5))))))) :: (b5, .inr (4, [.int (nI 1), .int (nI 1), .int (nI 0), .int (nI 0), .int (nI 0)])) :: (b4, .inr (3, [.ref b0, .ref b3, .ref b6, .ref b5, .ref b7, .ref b8, .int (nI 0), .int (nI 0), .int (nI 0), .int (nI 0)])) :: (b3, .inr (2, [.ref b0, .int (-1)])) :: (b2, .inl (G.2.1 1, 640, .inl (fun _ => 0))) :: (b1, .inl (G.2.1 0, 640, .inl (fun _ => 0))) :: (b0, .inr (1, [.ref b1, .int (nI 0), .ref b2, .int (nI 0)])) :: (a, .inr (0, [.ref b0, .ref b3, .ref b4, .ref b9, .ref b12, .null, .null, .int 0, .int 0, .int 0])) :: W0) ff_S_46 rfl dd_S_init_72 rfl rfl rfl (xn_le rfl) rfl ?_
  refine XX.aload_n dd_S_init_75 rfl 0 rfl ?_
  refine XX.new (N := 8) (ci := 8) (fs := [.null, .null, .null, .null, .int 0, .int 0, .int 0, .int 0]) nw_S_50 dd_S_init_76 ⟨xn_le rfl, xn_le rfl⟩ (fun b14 => ?_)
  refine XX.perm (ws2 := (b14, .inr (8, [.null, .null, .null, .null, .int 0, .int 0, .int 0, .int 0])) :: (b13, .inl (G.2.1 1, 1000, .inl (fun _ => 0))) :: (b12, .inr (7, [.ref b13, .int (nI 0)])) :: (b11, .inl (G.2.1 1, 1000, .inl (fun _ => 0))) :: (b10, .inl (G.2.1 1, 1000, .inl (fun _ => 0))) :: (b9, .inr (6, [.ref b4, .ref b10, .ref b11])) :: (b8, .inr (5, [.int 0, .int 0, .int 0, .int 0, .int 0])) :: (b7, .inr (5, [.int 0, .int 0, .int 0, .int 0, .int 0])) :: (b6, .inl (G.2.1 3, 6, .inr (.inr (.inr (.inr (va_up (va_up (va_up (va_up (va_up (va_up (fun _ => none) 0 (some b5)) 1 (some b5)) 2 (some b5)) 3 (some b5)) 4 (some b5)) 5 (some b5))))))) :: (b5, .inr (4, [.int (nI 1), .int (nI 1), .int (nI 0), .int (nI 0), .int (nI 0)])) :: (b4, .inr (3, [.ref b0, .ref b3, .ref b6, .ref b5, .ref b7, .ref b8, .int (nI 0), .int (nI 0), .int (nI 0), .int (nI 0)])) :: (b3, .inr (2, [.ref b0, .int (-1)])) :: (b2, .inl (G.2.1 1, 640, .inl (fun _ => 0))) :: (b1, .inl (G.2.1 0, 640, .inl (fun _ => 0))) :: (b0, .inr (1, [.ref b1, .int (nI 0), .ref b2, .int (nI 0)])) :: (a, .inr (0, [.ref b0, .ref b3, .ref b4, .ref b9, .ref b12, .null, .null, .int 0, .int 0, .int 0])) :: W0) (List.perm_append_singleton _ _) ?_
  refine XX.dup dd_S_init_79 rfl ?_
  refine XX.aload_n dd_S_init_80 rfl 0 rfl ?_
  refine XX.get (q0 := 15) (v := .ref b9) fl_S_39 dd_S_init_81 rfl rfl ?_
  refine XX.aload_n dd_S_init_84 rfl 0 rfl ?_
  refine XX.get (q0 := 15) (v := .ref b12) fl_S_46 dd_S_init_85 rfl rfl ?_
  refine XX.callI (yk := m_U_init.1) (bk := m_U_init.2.1) (lk := m_U_init.2.2.1) (n := 2) (As := [.ref b9, .ref b12]) (rest := [.ref b14, .ref a]) (c_U_init) mt_U_init mi_U_init rfl ml_S_52 rfl dd_S_init_88 ⟨xn_le rfl, xn_le rfl⟩ ⟨xn_le rfl, xn_le rfl⟩ (xn_le rfl) rfl (fun r1 w1 hp1 => ?_)
  obtain ⟨rfl, b15, b16, rfl⟩ := hp1
  refine XX.putF (q0 := 17) (ws2 := (b16, .inl (G.2.1 1, 2000, .inl (fun _ => 0))) :: (b15, .inl (G.2.1 1, 1000, .inl (fun _ => 0))) :: (b14, .inr (8, [.ref b9, .ref b12, .ref b15, .ref b16, .int (nI 0), .int (nI 0), .int (nI 0), .int (nI 0)])) :: (b13, .inl (G.2.1 1, 1000, .inl (fun _ => 0))) :: (b12, .inr (7, [.ref b13, .int (nI 0)])) :: (b11, .inl (G.2.1 1, 1000, .inl (fun _ => 0))) :: (b10, .inl (G.2.1 1, 1000, .inl (fun _ => 0))) :: (b9, .inr (6, [.ref b4, .ref b10, .ref b11])) :: (b8, .inr (5, [.int 0, .int 0, .int 0, .int 0, .int 0])) :: (b7, .inr (5, [.int 0, .int 0, .int 0, .int 0, .int 0])) :: (b6, .inl (G.2.1 3, 6, .inr (.inr (.inr (.inr (va_up (va_up (va_up (va_up (va_up (va_up (fun _ => none) 0 (some b5)) 1 (some b5)) 2 (some b5)) 3 (some b5)) 4 (some b5)) 5 (some b5))))))) :: (b5, .inr (4, [.int (nI 1), .int (nI 1), .int (nI 0), .int (nI 0), .int (nI 0)])) :: (b4, .inr (3, [.ref b0, .ref b3, .ref b6, .ref b5, .ref b7, .ref b8, .int (nI 0), .int (nI 0), .int (nI 0), .int (nI 0)])) :: (b3, .inr (2, [.ref b0, .int (-1)])) :: (b2, .inl (G.2.1 1, 640, .inl (fun _ => 0))) :: (b1, .inl (G.2.1 0, 640, .inl (fun _ => 0))) :: (b0, .inr (1, [.ref b1, .int (nI 0), .ref b2, .int (nI 0)])) :: (a, .inr (0, [.ref b0, .ref b3, .ref b4, .ref b9, .ref b12, .ref b14, .null, .int 0, .int 0, .int 0])) :: W0) ff_S_55 rfl dd_S_init_91 rfl rfl rfl (xn_le rfl) rfl ?_
  refine XX.aload_n dd_S_init_94 rfl 0 rfl ?_
  refine XX.sipush (v := nI 1000) dd_S_init_95 (by decide) ?_
  refine XX.newI (n := 1000) dd_S_init_98 wa_I (by decide) ⟨xn_le rfl, xn_le rfl⟩ (fun b17 => ?_)
  refine XX.perm (ws2 := (b17, .inl (G.2.1 1, 1000, .inl (fun _ => 0))) :: (b16, .inl (G.2.1 1, 2000, .inl (fun _ => 0))) :: (b15, .inl (G.2.1 1, 1000, .inl (fun _ => 0))) :: (b14, .inr (8, [.ref b9, .ref b12, .ref b15, .ref b16, .int (nI 0), .int (nI 0), .int (nI 0), .int (nI 0)])) :: (b13, .inl (G.2.1 1, 1000, .inl (fun _ => 0))) :: (b12, .inr (7, [.ref b13, .int (nI 0)])) :: (b11, .inl (G.2.1 1, 1000, .inl (fun _ => 0))) :: (b10, .inl (G.2.1 1, 1000, .inl (fun _ => 0))) :: (b9, .inr (6, [.ref b4, .ref b10, .ref b11])) :: (b8, .inr (5, [.int 0, .int 0, .int 0, .int 0, .int 0])) :: (b7, .inr (5, [.int 0, .int 0, .int 0, .int 0, .int 0])) :: (b6, .inl (G.2.1 3, 6, .inr (.inr (.inr (.inr (va_up (va_up (va_up (va_up (va_up (va_up (fun _ => none) 0 (some b5)) 1 (some b5)) 2 (some b5)) 3 (some b5)) 4 (some b5)) 5 (some b5))))))) :: (b5, .inr (4, [.int (nI 1), .int (nI 1), .int (nI 0), .int (nI 0), .int (nI 0)])) :: (b4, .inr (3, [.ref b0, .ref b3, .ref b6, .ref b5, .ref b7, .ref b8, .int (nI 0), .int (nI 0), .int (nI 0), .int (nI 0)])) :: (b3, .inr (2, [.ref b0, .int (-1)])) :: (b2, .inl (G.2.1 1, 640, .inl (fun _ => 0))) :: (b1, .inl (G.2.1 0, 640, .inl (fun _ => 0))) :: (b0, .inr (1, [.ref b1, .int (nI 0), .ref b2, .int (nI 0)])) :: (a, .inr (0, [.ref b0, .ref b3, .ref b4, .ref b9, .ref b12, .ref b14, .null, .int 0, .int 0, .int 0])) :: W0) (List.perm_append_singleton _ _) ?_
  refine XX.putF (q0 := 18) (ws2 := (b17, .inl (G.2.1 1, 1000, .inl (fun _ => 0))) :: (b16, .inl (G.2.1 1, 2000, .inl (fun _ => 0))) :: (b15, .inl (G.2.1 1, 1000, .inl (fun _ => 0))) :: (b14, .inr (8, [.ref b9, .ref b12, .ref b15, .ref b16, .int (nI 0), .int (nI 0), .int (nI 0), .int (nI 0)])) :: (b13, .inl (G.2.1 1, 1000, .inl (fun _ => 0))) :: (b12, .inr (7, [.ref b13, .int (nI 0)])) :: (b11, .inl (G.2.1 1, 1000, .inl (fun _ => 0))) :: (b10, .inl (G.2.1 1, 1000, .inl (fun _ => 0))) :: (b9, .inr (6, [.ref b4, .ref b10, .ref b11])) :: (b8, .inr (5, [.int 0, .int 0, .int 0, .int 0, .int 0])) :: (b7, .inr (5, [.int 0, .int 0, .int 0, .int 0, .int 0])) :: (b6, .inl (G.2.1 3, 6, .inr (.inr (.inr (.inr (va_up (va_up (va_up (va_up (va_up (va_up (fun _ => none) 0 (some b5)) 1 (some b5)) 2 (some b5)) 3 (some b5)) 4 (some b5)) 5 (some b5))))))) :: (b5, .inr (4, [.int (nI 1), .int (nI 1), .int (nI 0), .int (nI 0), .int (nI 0)])) :: (b4, .inr (3, [.ref b0, .ref b3, .ref b6, .ref b5, .ref b7, .ref b8, .int (nI 0), .int (nI 0), .int (nI 0), .int (nI 0)])) :: (b3, .inr (2, [.ref b0, .int (-1)])) :: (b2, .inl (G.2.1 1, 640, .inl (fun _ => 0))) :: (b1, .inl (G.2.1 0, 640, .inl (fun _ => 0))) :: (b0, .inr (1, [.ref b1, .int (nI 0), .ref b2, .int (nI 0)])) :: (a, .inr (0, [.ref b0, .ref b3, .ref b4, .ref b9, .ref b12, .ref b14, .ref b17, .int 0, .int 0, .int 0])) :: W0) ff_S_59 rfl dd_S_init_100 rfl rfl rfl (xn_le rfl) rfl ?_
  refine XX.aload_n dd_S_init_103 rfl 0 rfl ?_
  refine XX.iconst (v := nI 0) dd_S_init_104 (by decide) ?_
  refine XX.put (q0 := 18) (ws2 := (b17, .inl (G.2.1 1, 1000, .inl (fun _ => 0))) :: (b16, .inl (G.2.1 1, 2000, .inl (fun _ => 0))) :: (b15, .inl (G.2.1 1, 1000, .inl (fun _ => 0))) :: (b14, .inr (8, [.ref b9, .ref b12, .ref b15, .ref b16, .int (nI 0), .int (nI 0), .int (nI 0), .int (nI 0)])) :: (b13, .inl (G.2.1 1, 1000, .inl (fun _ => 0))) :: (b12, .inr (7, [.ref b13, .int (nI 0)])) :: (b11, .inl (G.2.1 1, 1000, .inl (fun _ => 0))) :: (b10, .inl (G.2.1 1, 1000, .inl (fun _ => 0))) :: (b9, .inr (6, [.ref b4, .ref b10, .ref b11])) :: (b8, .inr (5, [.int 0, .int 0, .int 0, .int 0, .int 0])) :: (b7, .inr (5, [.int 0, .int 0, .int 0, .int 0, .int 0])) :: (b6, .inl (G.2.1 3, 6, .inr (.inr (.inr (.inr (va_up (va_up (va_up (va_up (va_up (va_up (fun _ => none) 0 (some b5)) 1 (some b5)) 2 (some b5)) 3 (some b5)) 4 (some b5)) 5 (some b5))))))) :: (b5, .inr (4, [.int (nI 1), .int (nI 1), .int (nI 0), .int (nI 0), .int (nI 0)])) :: (b4, .inr (3, [.ref b0, .ref b3, .ref b6, .ref b5, .ref b7, .ref b8, .int (nI 0), .int (nI 0), .int (nI 0), .int (nI 0)])) :: (b3, .inr (2, [.ref b0, .int (-1)])) :: (b2, .inl (G.2.1 1, 640, .inl (fun _ => 0))) :: (b1, .inl (G.2.1 0, 640, .inl (fun _ => 0))) :: (b0, .inr (1, [.ref b1, .int (nI 0), .ref b2, .int (nI 0)])) :: (a, .inr (0, [.ref b0, .ref b3, .ref b4, .ref b9, .ref b12, .ref b14, .ref b17, .int (nI 0), .int 0, .int 0])) :: W0) fp_S_63 dd_S_init_105 rfl rfl rfl (xn_le rfl) rfl ?_
  refine XX.aload_n dd_S_init_108 rfl 0 rfl ?_
  refine XX.bipush (v := nI 100) dd_S_init_109 (by decide) ?_
  refine XX.put (q0 := 18) (ws2 := (b17, .inl (G.2.1 1, 1000, .inl (fun _ => 0))) :: (b16, .inl (G.2.1 1, 2000, .inl (fun _ => 0))) :: (b15, .inl (G.2.1 1, 1000, .inl (fun _ => 0))) :: (b14, .inr (8, [.ref b9, .ref b12, .ref b15, .ref b16, .int (nI 0), .int (nI 0), .int (nI 0), .int (nI 0)])) :: (b13, .inl (G.2.1 1, 1000, .inl (fun _ => 0))) :: (b12, .inr (7, [.ref b13, .int (nI 0)])) :: (b11, .inl (G.2.1 1, 1000, .inl (fun _ => 0))) :: (b10, .inl (G.2.1 1, 1000, .inl (fun _ => 0))) :: (b9, .inr (6, [.ref b4, .ref b10, .ref b11])) :: (b8, .inr (5, [.int 0, .int 0, .int 0, .int 0, .int 0])) :: (b7, .inr (5, [.int 0, .int 0, .int 0, .int 0, .int 0])) :: (b6, .inl (G.2.1 3, 6, .inr (.inr (.inr (.inr (va_up (va_up (va_up (va_up (va_up (va_up (fun _ => none) 0 (some b5)) 1 (some b5)) 2 (some b5)) 3 (some b5)) 4 (some b5)) 5 (some b5))))))) :: (b5, .inr (4, [.int (nI 1), .int (nI 1), .int (nI 0), .int (nI 0), .int (nI 0)])) :: (b4, .inr (3, [.ref b0, .ref b3, .ref b6, .ref b5, .ref b7, .ref b8, .int (nI 0), .int (nI 0), .int (nI 0), .int (nI 0)])) :: (b3, .inr (2, [.ref b0, .int (-1)])) :: (b2, .inl (G.2.1 1, 640, .inl (fun _ => 0))) :: (b1, .inl (G.2.1 0, 640, .inl (fun _ => 0))) :: (b0, .inr (1, [.ref b1, .int (nI 0), .ref b2, .int (nI 0)])) :: (a, .inr (0, [.ref b0, .ref b3, .ref b4, .ref b9, .ref b12, .ref b14, .ref b17, .int (nI 0), .int (nI 100), .int 0])) :: W0) fp_S_67 dd_S_init_111 rfl rfl rfl (xn_le rfl) rfl ?_
  refine XX.aload_n dd_S_init_114 rfl 0 rfl ?_
  refine XX.iconst (v := nI 4) dd_S_init_115 (by decide) ?_
  refine XX.put (q0 := 18) (ws2 := (b17, .inl (G.2.1 1, 1000, .inl (fun _ => 0))) :: (b16, .inl (G.2.1 1, 2000, .inl (fun _ => 0))) :: (b15, .inl (G.2.1 1, 1000, .inl (fun _ => 0))) :: (b14, .inr (8, [.ref b9, .ref b12, .ref b15, .ref b16, .int (nI 0), .int (nI 0), .int (nI 0), .int (nI 0)])) :: (b13, .inl (G.2.1 1, 1000, .inl (fun _ => 0))) :: (b12, .inr (7, [.ref b13, .int (nI 0)])) :: (b11, .inl (G.2.1 1, 1000, .inl (fun _ => 0))) :: (b10, .inl (G.2.1 1, 1000, .inl (fun _ => 0))) :: (b9, .inr (6, [.ref b4, .ref b10, .ref b11])) :: (b8, .inr (5, [.int 0, .int 0, .int 0, .int 0, .int 0])) :: (b7, .inr (5, [.int 0, .int 0, .int 0, .int 0, .int 0])) :: (b6, .inl (G.2.1 3, 6, .inr (.inr (.inr (.inr (va_up (va_up (va_up (va_up (va_up (va_up (fun _ => none) 0 (some b5)) 1 (some b5)) 2 (some b5)) 3 (some b5)) 4 (some b5)) 5 (some b5))))))) :: (b5, .inr (4, [.int (nI 1), .int (nI 1), .int (nI 0), .int (nI 0), .int (nI 0)])) :: (b4, .inr (3, [.ref b0, .ref b3, .ref b6, .ref b5, .ref b7, .ref b8, .int (nI 0), .int (nI 0), .int (nI 0), .int (nI 0)])) :: (b3, .inr (2, [.ref b0, .int (-1)])) :: (b2, .inl (G.2.1 1, 640, .inl (fun _ => 0))) :: (b1, .inl (G.2.1 0, 640, .inl (fun _ => 0))) :: (b0, .inr (1, [.ref b1, .int (nI 0), .ref b2, .int (nI 0)])) :: (a, .inr (0, [.ref b0, .ref b3, .ref b4, .ref b9, .ref b12, .ref b14, .ref b17, .int (nI 0), .int (nI 100), .int (nI 4)])) :: W0) fp_S_70 dd_S_init_116 rfl rfl rfl (xn_le rfl) rfl ?_
  have hp : ([(b17, .inl (G.2.1 1, 1000, .inl (fun _ => 0))), (b16, .inl (G.2.1 1, 2000, .inl (fun _ => 0))), (b15, .inl (G.2.1 1, 1000, .inl (fun _ => 0))), (b14, .inr (8, [.ref b9, .ref b12, .ref b15, .ref b16, .int (nI 0), .int (nI 0), .int (nI 0), .int (nI 0)])), (b13, .inl (G.2.1 1, 1000, .inl (fun _ => 0))), (b12, .inr (7, [.ref b13, .int (nI 0)])), (b11, .inl (G.2.1 1, 1000, .inl (fun _ => 0))), (b10, .inl (G.2.1 1, 1000, .inl (fun _ => 0))), (b9, .inr (6, [.ref b4, .ref b10, .ref b11])), (b8, .inr (5, [.int 0, .int 0, .int 0, .int 0, .int 0])), (b7, .inr (5, [.int 0, .int 0, .int 0, .int 0, .int 0])), (b6, .inl (G.2.1 3, 6, .inr (.inr (.inr (.inr (va_up (va_up (va_up (va_up (va_up (va_up (fun _ => none) 0 (some b5)) 1 (some b5)) 2 (some b5)) 3 (some b5)) 4 (some b5)) 5 (some b5))))))), (b5, .inr (4, [.int (nI 1), .int (nI 1), .int (nI 0), .int (nI 0), .int (nI 0)])), (b4, .inr (3, [.ref b0, .ref b3, .ref b6, .ref b5, .ref b7, .ref b8, .int (nI 0), .int (nI 0), .int (nI 0), .int (nI 0)])), (b3, .inr (2, [.ref b0, .int (-1)])), (b2, .inl (G.2.1 1, 640, .inl (fun _ => 0))), (b1, .inl (G.2.1 0, 640, .inl (fun _ => 0))), (b0, .inr (1, [.ref b1, .int (nI 0), .ref b2, .int (nI 0)])), (a, .inr (0, [.ref b0, .ref b3, .ref b4, .ref b9, .ref b12, .ref b14, .ref b17, .int (nI 0), .int (nI 100), .int (nI 4)]))] : va_W).Perm (wC G (fun i => [a, b0, b1, b2, b3, b4, b6, b5, b7, b8, b9, b10, b11, b12, b13, b14, b15, b16, b17].getD i 0) (fun i => [(nI 0), (nI 100), (nI 4), (nI 0), (nI 0), (-1), (nI 0), (nI 0), (nI 0), (nI 0), 0, 0, 0, 0, 0, 0, 0, 0, 0, 0, (nI 0), (nI 0), (nI 0), (nI 0), (nI 0)].getD i 0) (fun _ => 640) (fun _ _ => 0) (va_up (va_up (va_up (va_up (va_up (va_up (fun _ => none) 0 (some b5)) 1 (some b5)) 2 (some b5)) 3 (some b5)) 4 (some b5)) 5 (some b5)) []) := pm_ix [18, 17, 16, 15, 14, 13, 11, 12, 10, 9, 8, 7, 6, 5, 4, 3, 2, 1, 0] (n := 19) rfl (by decide) rfl
  refine XX.perm (ws2 := wC G (fun i => [a, b0, b1, b2, b3, b4, b6, b5, b7, b8, b9, b10, b11, b12, b13, b14, b15, b16, b17].getD i 0) (fun i => [(nI 0), (nI 100), (nI 4), (nI 0), (nI 0), (-1), (nI 0), (nI 0), (nI 0), (nI 0), 0, 0, 0, 0, 0, 0, 0, 0, 0, 0, (nI 0), (nI 0), (nI 0), (nI 0), (nI 0)].getD i 0) (fun _ => 640) (fun _ _ => 0) (va_up (va_up (va_up (va_up (va_up (va_up (fun _ => none) 0 (some b5)) 1 (some b5)) 2 (some b5)) 3 (some b5)) 4 (some b5)) 5 (some b5)) W0) (hp.append_right W0) ?_
  exact XX.vret dd_S_init_119 rfl ⟨xn_le rfl, xn_le rfl⟩ ⟨rfl, fun i => [a, b0, b1, b2, b3, b4, b6, b5, b7, b8, b9, b10, b11, b12, b13, b14, b15, b16, b17].getD i 0, fun i => [(nI 0), (nI 100), (nI 4), (nI 0), (nI 0), (-1), (nI 0), (nI 0), (nI 0), (nI 0), 0, 0, 0, 0, 0, 0, 0, 0, 0, 0, (nI 0), (nI 0), (nI 0), (nI 0), (nI 0)].getD i 0, _, va_up (va_up (va_up (va_up (va_up (va_up (fun _ => none) 0 (some b5)) 1 (some b5)) 2 (some b5)) 3 (some b5)) 4 (some b5)) 5 (some b5), [], 0, fun _ => 0, fun _ => 0, rfl, rfl, SG_0, ⟨rfl, rfl, by decide, by decide, by decide, by decide, fun i hi => absurd hi (Nat.not_lt_zero _), fun i hi => absurd hi (Nat.not_lt_zero _)⟩, ⟨fun i hi => absurd hi (Nat.not_lt_zero _), fun i j _ hj => absurd hj (Nat.not_lt_zero _), fun j hj _ => absurd hj (Nat.not_lt_zero _)⟩, fun _ => rfl, by decide, rfl, rfl, rfl, rfl, rfl, ⟨Nat.zero_le _, fun k hk => absurd hk (Nat.not_lt_zero _)⟩, rfl, rfl, rfl, fun i hi => absurd hi (Nat.not_lt_zero _), rfl, fun i hi => absurd hi (Nat.not_lt_zero _), rfl, rfl, rfl⟩

set_option maxRecDepth 100000 in
set_option maxHeartbeats 4000000 in
theorem c_M_init {G : XG} {a : Nat} {W0 : va_W} : MM G m_M_init (xr 1 12 58531) [.ref a] ((a, .inr (9, [.null, .int 0, .null, .int 0, .int 0, .int 0, .int 0, .int 0, .int 0, .null, .int 0, .int 0, .int 0, .null, .null, .int 0, .null, .int 0, .null, .null, .null, .int 0, .null, .int 0, .int 0, .int 0, .int 0, .null, .int 0, .int 0, .int 0, .null])) :: W0) (fun r w => r = none ∧ ∃ (q : Nat → Nat) (x : Nat → Int32) (f : Nat → Nat → Int32), w = wM G q x f W0 ∧ q 0 = a ∧ MI s_0 x f) := by
  refine MM.of rfl (xn_le rfl) ?_
  refine (?_ : XX G m_M_init (xr 1 12 58531) (xx_F G (fun r w => r = none ∧ ∃ (q : Nat → Nat) (x : Nat → Int32) (f : Nat → Nat → Int32), w = wM G q x f W0 ∧ q 0 = a ∧ MI s_0 x f) (xr 1 12 58531)) 0 0 ((a, .inr (9, [.null, .int 0, .null, .int 0, .int 0, .int 0, .int 0, .int 0, .int 0, .null, .int 0, .int 0, .int 0, .null, .null, .int 0, .null, .int 0, .null, .null, .null, .int 0, .null, .int 0, .int 0, .int 0, .int 0, .null, .int 0, .int 0, .int 0, .null])) :: W0) 0 [(0, .ref a)] [])
  refine XX.aload_n dd_M_init_0 rfl 0 rfl ?_
  refine XX.objInit dd_M_init_1 ml_M_1 oi_i oi_c (xn_le rfl) (xn_le rfl) ?_
  refine XX.aload_n dd_M_init_4 rfl 0 rfl ?_
  refine XX.sipush (v := nI 20000) dd_M_init_5 (by decide) ?_
  refine XX.newB (n := 20000) dd_M_init_8 wa_B (by decide) ⟨xn_le rfl, xn_le rfl⟩ (fun b0 => ?_)
  refine XX.perm (ws2 := (b0, .inl (G.2.1 0, 20000, .inl (fun _ => 0))) :: (a, .inr (9, [.null, .int 0, .null, .int 0, .int 0, .int 0, .int 0, .int 0, .int 0, .null, .int 0, .int 0, .int 0, .null, .null, .int 0, .null, .int 0, .null, .null, .null, .int 0, .null, .int 0, .int 0, .int 0, .int 0, .null, .int 0, .int 0, .int 0, .null])) :: W0) (List.perm_append_singleton _ _) ?_
  refine XX.putF (q0 := 1) (ws2 := (b0, .inl (G.2.1 0, 20000, .inl (fun _ => 0))) :: (a, .inr (9, [.ref b0, .int 0, .null, .int 0, .int 0, .int 0, .int 0, .int 0, .int 0, .null, .int 0, .int 0, .int 0, .null, .null, .int 0, .null, .int 0, .null, .null, .null, .int 0, .null, .int 0, .int 0, .int 0, .int 0, .null, .int 0, .int 0, .int 0, .null])) :: W0) ff_M_7 rfl dd_M_init_10 rfl rfl rfl (xn_le rfl) rfl ?_
  refine XX.aload_n dd_M_init_13 rfl 0 rfl ?_
  refine XX.sipush (v := nI 20001) dd_M_init_14 (by decide) ?_
  refine XX.newI (n := 20001) dd_M_init_17 wa_I (by decide) ⟨xn_le rfl, xn_le rfl⟩ (fun b1 => ?_)
  refine XX.perm (ws2 := (b1, .inl (G.2.1 1, 20001, .inl (fun _ => 0))) :: (b0, .inl (G.2.1 0, 20000, .inl (fun _ => 0))) :: (a, .inr (9, [.ref b0, .int 0, .null, .int 0, .int 0, .int 0, .int 0, .int 0, .int 0, .null, .int 0, .int 0, .int 0, .null, .null, .int 0, .null, .int 0, .null, .null, .null, .int 0, .null, .int 0, .int 0, .int 0, .int 0, .null, .int 0, .int 0, .int 0, .null])) :: W0) (List.perm_append_singleton _ _) ?_
  refine XX.putF (q0 := 2) (ws2 := (b1, .inl (G.2.1 1, 20001, .inl (fun _ => 0))) :: (b0, .inl (G.2.1 0, 20000, .inl (fun _ => 0))) :: (a, .inr (9, [.ref b0, .int 0, .ref b1, .int 0, .int 0, .int 0, .int 0, .int 0, .int 0, .null, .int 0, .int 0, .int 0, .null, .null, .int 0, .null, .int 0, .null, .null, .null, .int 0, .null, .int 0, .int 0, .int 0, .int 0, .null, .int 0, .int 0, .int 0, .null])) :: W0) ff_M_13 rfl dd_M_init_19 rfl rfl rfl (xn_le rfl) rfl ?_
  refine XX.aload_n dd_M_init_22 rfl 0 rfl ?_
  refine XX.iconst (v := -1) dd_M_init_23 (by decide) ?_
  refine XX.put (q0 := 2) (ws2 := (b1, .inl (G.2.1 1, 20001, .inl (fun _ => 0))) :: (b0, .inl (G.2.1 0, 20000, .inl (fun _ => 0))) :: (a, .inr (9, [.ref b0, .int 0, .ref b1, .int 0, .int 0, .int 0, .int 0, .int 0, .int (-1), .null, .int 0, .int 0, .int 0, .null, .null, .int 0, .null, .int 0, .null, .null, .null, .int 0, .null, .int 0, .int 0, .int 0, .int 0, .null, .int 0, .int 0, .int 0, .null])) :: W0) fp_M_17 dd_M_init_24 rfl rfl rfl (xn_le rfl) rfl ?_
  refine XX.aload_n dd_M_init_27 rfl 0 rfl ?_
  refine XX.bipush (v := nI 30) dd_M_init_28 (by decide) ?_
  refine XX.newI (n := 30) dd_M_init_30 wa_I (by decide) ⟨xn_le rfl, xn_le rfl⟩ (fun b2 => ?_)
  refine XX.perm (ws2 := (b2, .inl (G.2.1 1, 30, .inl (fun _ => 0))) :: (b1, .inl (G.2.1 1, 20001, .inl (fun _ => 0))) :: (b0, .inl (G.2.1 0, 20000, .inl (fun _ => 0))) :: (a, .inr (9, [.ref b0, .int 0, .ref b1, .int 0, .int 0, .int 0, .int 0, .int 0, .int (-1), .null, .int 0, .int 0, .int 0, .null, .null, .int 0, .null, .int 0, .null, .null, .null, .int 0, .null, .int 0, .int 0, .int 0, .int 0, .null, .int 0, .int 0, .int 0, .null])) :: W0) (List.perm_append_singleton _ _) ?_
  refine XX.putF (q0 := 3) (ws2 := (b2, .inl (G.2.1 1, 30, .inl (fun _ => 0))) :: (b1, .inl (G.2.1 1, 20001, .inl (fun _ => 0))) :: (b0, .inl (G.2.1 0, 20000, .inl (fun _ => 0))) :: (a, .inr (9, [.ref b0, .int 0, .ref b1, .int 0, .int 0, .int 0, .int 0, .int 0, .int (-1), .ref b2, .int 0, .int 0, .int 0, .null, .null, .int 0, .null, .int 0, .null, .null, .null, .int 0, .null, .int 0, .int 0, .int 0, .int 0, .null, .int 0, .int 0, .int 0, .null])) :: W0) ff_M_21 rfl dd_M_init_32 rfl rfl rfl (xn_le rfl) rfl ?_
  refine XX.aload_n dd_M_init_35 rfl 0 rfl ?_
  refine XX.bipush (v := nI 100) dd_M_init_36 (by decide) ?_
  refine XX.put (q0 := 3) (ws2 := (b2, .inl (G.2.1 1, 30, .inl (fun _ => 0))) :: (b1, .inl (G.2.1 1, 20001, .inl (fun _ => 0))) :: (b0, .inl (G.2.1 0, 20000, .inl (fun _ => 0))) :: (a, .inr (9, [.ref b0, .int 0, .ref b1, .int 0, .int 0, .int 0, .int 0, .int 0, .int (-1), .ref b2, .int 0, .int (nI 100), .int 0, .null, .null, .int 0, .null, .int 0, .null, .null, .null, .int 0, .null, .int 0, .int 0, .int 0, .int 0, .null, .int 0, .int 0, .int 0, .null])) :: W0) fp_M_24 dd_M_init_38 rfl rfl rfl (xn_le rfl) rfl ?_
  refine XX.aload_n dd_M_init_41 rfl 0 rfl ?_
  refine XX.iconst (v := nI 4) dd_M_init_42 (by decide) ?_
  refine XX.put (q0 := 3) (ws2 := (b2, .inl (G.2.1 1, 30, .inl (fun _ => 0))) :: (b1, .inl (G.2.1 1, 20001, .inl (fun _ => 0))) :: (b0, .inl (G.2.1 0, 20000, .inl (fun _ => 0))) :: (a, .inr (9, [.ref b0, .int 0, .ref b1, .int 0, .int 0, .int 0, .int 0, .int 0, .int (-1), .ref b2, .int 0, .int (nI 100), .int (nI 4), .null, .null, .int 0, .null, .int 0, .null, .null, .null, .int 0, .null, .int 0, .int 0, .int 0, .int 0, .null, .int 0, .int 0, .int 0, .null])) :: W0) fp_M_27 dd_M_init_43 rfl rfl rfl (xn_le rfl) rfl ?_
  refine XX.aload_n dd_M_init_46 rfl 0 rfl ?_
  refine XX.sipush (v := nI 6000) dd_M_init_47 (by decide) ?_
  refine XX.newI (n := 6000) dd_M_init_50 wa_I (by decide) ⟨xn_le rfl, xn_le rfl⟩ (fun b3 => ?_)
  refine XX.perm (ws2 := (b3, .inl (G.2.1 1, 6000, .inl (fun _ => 0))) :: (b2, .inl (G.2.1 1, 30, .inl (fun _ => 0))) :: (b1, .inl (G.2.1 1, 20001, .inl (fun _ => 0))) :: (b0, .inl (G.2.1 0, 20000, .inl (fun _ => 0))) :: (a, .inr (9, [.ref b0, .int 0, .ref b1, .int 0, .int 0, .int 0, .int 0, .int 0, .int (-1), .ref b2, .int 0, .int (nI 100), .int (nI 4), .null, .null, .int 0, .null, .int 0, .null, .null, .null, .int 0, .null, .int 0, .int 0, .int 0, .int 0, .null, .int 0, .int 0, .int 0, .null])) :: W0) (List.perm_append_singleton _ _) ?_
  refine XX.putF (q0 := 4) (ws2 := (b3, .inl (G.2.1 1, 6000, .inl (fun _ => 0))) :: (b2, .inl (G.2.1 1, 30, .inl (fun _ => 0))) :: (b1, .inl (G.2.1 1, 20001, .inl (fun _ => 0))) :: (b0, .inl (G.2.1 0, 20000, .inl (fun _ => 0))) :: (a, .inr (9, [.ref b0, .int 0, .ref b1, .int 0, .int 0, .int 0, .int 0, .int 0, .int (-1), .ref b2, .int 0, .int (nI 100), .int (nI 4), .ref b3, .null, .int 0, .null, .int 0, .null, .null, .null, .int 0, .null, .int 0, .int 0, .int 0, .int 0, .null, .int 0, .int 0, .int 0, .null])) :: W0) ff_M_30 rfl dd_M_init_52 rfl rfl rfl (xn_le rfl) rfl ?_
  refine XX.aload_n dd_M_init_55 rfl 0 rfl ?_
  refine XX.sipush (v := nI 6000) dd_M_init_56 (by decide) ?_
  refine XX.newI (n := 6000) dd_M_init_59 wa_I (by decide) ⟨xn_le rfl, xn_le rfl⟩ (fun b4 => ?_)
  refine XX.perm (ws2 := (b4, .inl (G.2.1 1, 6000, .inl (fun _ => 0))) :: (b3, .inl (G.2.1 1, 6000, .inl (fun _ => 0))) :: (b2, .inl (G.2.1 1, 30, .inl (fun _ => 0))) :: (b1, .inl (G.2.1 1, 20001, .inl (fun _ => 0))) :: (b0, .inl (G.2.1 0, 20000, .inl (fun _ => 0))) :: (a, .inr (9, [.ref b0, .int 0, .ref b1, .int 0, .int 0, .int 0, .int 0, .int 0, .int (-1), .ref b2, .int 0, .int (nI 100), .int (nI 4), .ref b3, .null, .int 0, .null, .int 0, .null, .null, .null, .int 0, .null, .int 0, .int 0, .int 0, .int 0, .null, .int 0, .int 0, .int 0, .null])) :: W0) (List.perm_append_singleton _ _) ?_
  refine XX.putF (q0 := 5) (ws2 := (b4, .inl (G.2.1 1, 6000, .inl (fun _ => 0))) :: (b3, .inl (G.2.1 1, 6000, .inl (fun _ => 0))) :: (b2, .inl (G.2.1 1, 30, .inl (fun _ => 0))) :: (b1, .inl (G.2.1 1, 20001, .inl (fun _ => 0))) :: (b0, .inl (G.2.1 0, 20000, .inl (fun _ => 0))) :: (a, .inr (9, [.ref b0, .int 0, .ref b1, .int 0, .int 0, .int 0, .int 0, .int 0, .int (-1), .ref b2, .int 0, .int (nI 100), .int (nI 4), .ref b3, .ref b4, .int 0, .null, .int 0, .null, .null, .null, .int 0, .null, .int 0, .int 0, .int 0, .int 0, .null, .int 0, .int 0, .int 0, .null])) :: W0) ff_M_33 rfl dd_M_init_61 rfl rfl rfl (xn_le rfl) rfl ?_
  refine XX.aload_n dd_M_init_64 rfl 0 rfl ?_
  refine XX.sipush (v := nI 1000) dd_M_init_65 (by decide) ?_
  refine XX.newI (n := 1000) dd_M_init_68 wa_I (by decide) ⟨xn_le rfl, xn_le rfl⟩ (fun b5 => ?_)
  refine XX.perm (ws2 := (b5, .inl (G.2.1 1, 1000, .inl (fun _ => 0))) :: (b4, .inl (G.2.1 1, 6000, .inl (fun _ => 0))) :: (b3, .inl (G.2.1 1, 6000, .inl (fun _ => 0))) :: (b2, .inl (G.2.1 1, 30, .inl (fun _ => 0))) :: (b1, .inl (G.2.1 1, 20001, .inl (fun _ => 0))) :: (b0, .inl (G.2.1 0, 20000, .inl (fun _ => 0))) :: (a, .inr (9, [.ref b0, .int 0, .ref b1, .int 0, .int 0, .int 0, .int 0, .int 0, .int (-1), .ref b2, .int 0, .int (nI 100), .int (nI 4), .ref b3, .ref b4, .int 0, .null, .int 0, .null, .null, .null, .int 0, .null, .int 0, .int 0, .int 0, .int 0, .null, .int 0, .int 0, .int 0, .null])) :: W0) (List.perm_append_singleton _ _) ?_
  refine XX.putF (q0 := 6) (ws2 := (b5, .inl (G.2.1 1, 1000, .inl (fun _ => 0))) :: (b4, .inl (G.2.1 1, 6000, .inl (fun _ => 0))) :: (b3, .inl (G.2.1 1, 6000, .inl (fun _ => 0))) :: (b2, .inl (G.2.1 1, 30, .inl (fun _ => 0))) :: (b1, .inl (G.2.1 1, 20001, .inl (fun _ => 0))) :: (b0, .inl (G.2.1 0, 20000, .inl (fun _ => 0))) :: (a, .inr (9, [.ref b0, .int 0, .ref b1, .int 0, .int 0, .int 0, .int 0, .int 0, .int (-1), .ref b2, .int 0, .int (nI 100), .int (nI 4), .ref b3, .ref b4, .int 0, .ref b5, .int 0, .null, .null, .null, .int 0, .null, .int 0, .int 0, .int 0, .int 0, .null, .int 0, .int 0, .int 0, .null])) :: W0) ff_M_36 rfl dd_M_init_70 rfl rfl rfl (xn_le rfl) rfl ?_
  refine XX.aload_n dd_M_init_73 rfl 0 rfl ?_
  refine XX.sipush (v := nI 1000) dd_M_init_74 (by decide) ?_
  refine XX.newI (n := 1000) dd_M_init_77 wa_I (by decide) ⟨xn_le rfl, xn_le rfl⟩ (fun b6 => ?_)
  refine XX.perm (ws2 := (b6, .inl (G.2.1 1, 1000, .inl (fun _ => 0))) :: (b5, .inl (G.2.1 1, 1000, .inl (fun _ => 0))) :: (b4, .inl (G.2.1 1, 6000, .inl (fun _ => 0))) :: (b3, .inl (G.2.1 1, 6000, .inl (fun _ => 0))) :: (b2, .inl (G.2.1 1, 30, .inl (fun _ => 0))) :: (b1, .inl (G.2.1 1, 20001, .inl (fun _ => 0))) :: (b0, .inl (G.2.1 0, 20000, .inl (fun _ => 0))) :: (a, .inr (9, [.ref b0, .int 0, .ref b1, .int 0, .int 0, .int 0, .int 0, .int 0, .int (-1), .ref b2, .int 0, .int (nI 100), .int (nI 4), .ref b3, .ref b4, .int 0, .ref b5, .int 0, .null, .null, .null, .int 0, .null, .int 0, .int 0, .int 0, .int 0, .null, .int 0, .int 0, .int 0, .null])) :: W0) (List.perm_append_singleton _ _) ?_
  refine XX.putF (q0 := 7) (ws2 := (b6, .inl (G.2.1 1, 1000, .inl (fun _ => 0))) :: (b5, .inl (G.2.1 1, 1000, .inl (fun _ => 0))) :: (b4, .inl (G.2.1 1, 6000, .inl (fun _ => 0))) :: (b3, .inl (G.2.1 1, 6000, .inl (fun _ => 0))) :: (b2, .inl (G.2.1 1, 30, .inl (fun _ => 0))) :: (b1, .inl (G.2.1 1, 20001, .inl (fun _ => 0))) :: (b0, .inl (G.2.1 0, 20000, .inl (fun _ => 0))) :: (a, .inr (9, [.ref b0, .int 0, .ref b1, .int 0, .int 0, .int 0, .int 0, .int 0, .int (-1), .ref b2, .int 0, .int (nI 100), .int (nI 4), .ref b3, .ref b4, .int 0, .ref b5, .int 0, .ref b6, .null, .null, .int 0, .null, .int 0, .int 0, .int 0, .int 0, .null, .int 0, .int 0, .int 0, .null])) :: W0) ff_M_39 rfl dd_M_init_79 rfl rfl rfl (xn_le rfl) rfl ?_
  refine XX.aload_n dd_M_init_82 rfl 0 rfl ?_
  refine XX.sipush (v := nI 1000) dd_M_init_83 (by decide) ?_
  refine XX.newI (n := 1000) dd_M_init_86 wa_I (by decide) ⟨xn_le rfl, xn_le rfl⟩ (fun b7 => ?_)
  refine XX.perm (ws2 := (b7, .inl (G.2.1 1, 1000, .inl (fun _ => 0))) :: (b6, .inl (G.2.1 1, 1000, .inl (fun _ => 0))) :: (b5, .inl (G.2.1 1, 1000, .inl (fun _ => 0))) :: (b4, .inl (G.2.1 1, 6000, .inl (fun _ => 0))) :: (b3, .inl (G.2.1 1, 6000, .inl (fun _ => 0))) :: (b2, .inl (G.2.1 1, 30, .inl (fun _ => 0))) :: (b1, .inl (G.2.1 1, 20001, .inl (fun _ => 0))) :: (b0, .inl (G.2.1 0, 20000, .inl (fun _ => 0))) :: (a, .inr (9, [.ref b0, .int 0, .ref b1, .int 0, .int 0, .int 0, .int 0, .int 0, .int (-1), .ref b2, .int 0, .int (nI 100), .int (nI 4), .ref b3, .ref b4, .int 0, .ref b5, .int 0, .ref b6, .null, .null, .int 0, .null, .int 0, .int 0, .int 0, .int 0, .null, .int 0, .int 0, .int 0, .null])) :: W0) (List.perm_append_singleton _ _) ?_
  refine XX.putF (q0 := 8) (ws2 := (b7, .inl (G.2.1 1, 1000, .inl (fun _ => 0))) :: (b6, .inl (G.2.1 1, 1000, .inl (fun _ => 0))) :: (b5, .inl (G.2.1 1, 1000, .inl (fun _ => 0))) :: (b4, .inl (G.2.1 1, 6000, .inl (fun _ => 0))) :: (b3, .inl (G.2.1 1, 6000, .inl (fun _ => 0))) :: (b2, .inl (G.2.1 1, 30, .inl (fun _ => 0))) :: (b1, .inl (G.2.1 1, 20001, .inl (fun _ => 0))) :: (b0, .inl (G.2.1 0, 20000, .inl (fun _ => 0))) :: (a, .inr (9, [.ref b0, .int 0, .ref b1, .int 0, .int 0, .int 0, .int 0, .int 0, .int (-1), .ref b2, .int 0, .int (nI 100), .int (nI 4), .ref b3, .ref b4, .int 0, .ref b5, .int 0, .ref b6, .ref b7, .null, .int 0, .null, .int 0, .int 0, .int 0, .int 0, .null, .int 0, .int 0, .int 0, .null])) :: W0) ff_M_42 rfl dd_M_init_88 rfl rfl rfl (xn_le rfl) rfl ?_
  refine XX.aload_n dd_M_init_91 rfl 0 rfl ?_
  refine XX.sipush (v := nI 1000) dd_M_init_92 (by decide) ?_
  refine XX.newI (n := 1000) dd_M_init_95 wa_I (by decide) ⟨xn_le rfl, xn_le rfl⟩ (fun b8 => ?_)
  refine XX.perm (ws2 := (b8, .inl (G.2.1 1, 1000, .inl (fun _ => 0))) :: (b7, .inl (G.2.1 1, 1000, .inl (fun _ => 0))) :: (b6, .inl (G.2.1 1, 1000, .inl (fun _ => 0))) :: (b5, .inl (G.2.1 1, 1000, .inl (fun _ => 0))) :: (b4, .inl (G.2.1 1, 6000, .inl (fun _ => 0))) :: (b3, .inl (G.2.1 1, 6000, .inl (fun _ => 0))) :: (b2, .inl (G.2.1 1, 30, .inl (fun _ => 0))) :: (b1, .inl (G.2.1 1, 20001, .inl (fun _ => 0))) :: (b0, .inl (G.2.1 0, 20000, .inl (fun _ => 0))) :: (a, .inr (9, [.ref b0, .int 0, .ref b1, .int 0, .int 0, .int 0, .int 0, .int 0, .int (-1), .ref b2, .int 0, .int (nI 100), .int (nI 4), .ref b3, .ref b4, .int 0, .ref b5, .int 0, .ref b6, .ref b7, .null, .int 0, .null, .int 0, .int 0, .int 0, .int 0, .null, .int 0, .int 0, .int 0, .null])) :: W0) (List.perm_append_singleton _ _) ?_
  refine XX.putF (q0 := 9) (ws2 := (b8, .inl (G.2.1 1, 1000, .inl (fun _ => 0))) :: (b7, .inl (G.2.1 1, 1000, .inl (fun _ => 0))) :: (b6, .inl (G.2.1 1, 1000, .inl (fun _ => 0))) :: (b5, .inl (G.2.1 1, 1000, .inl (fun _ => 0))) :: (b4, .inl (G.2.1 1, 6000, .inl (fun _ => 0))) :: (b3, .inl (G.2.1 1, 6000, .inl (fun _ => 0))) :: (b2, .inl (G.2.1 1, 30, .inl (fun _ => 0))) :: (b1, .inl (G.2.1 1, 20001, .inl (fun _ => 0))) :: (b0, .inl (G.2.1 0, 20000, .inl (fun _ => 0))) :: (a, .inr (9, [.ref b0, .int 0, .ref b1, .int 0, .int 0, .int 0, .int 0, .int 0, .int (-1), .ref b2, .int 0, .int (nI 100), .int (nI 4), .ref b3, .ref b4, .int 0, .ref b5, .int 0, .ref b6, .ref b7, .ref b8, .int 0, .null, .int 0, .int 0, .int 0, .int 0, .null, .int 0, .int 0, .int 0, .null])) :: W0) ff_M_45 rfl dd_M_init_97 rfl rfl rfl (xn_le rfl) rfl ?_
  refine XX.aload_n dd_M_init_100 rfl 0 rfl ?_
  refine XX.sipush (v := nI 1000) dd_M_init_101 (by decide) ?_
  refine XX.newI (n := 1000) dd_M_init_104 wa_I (by decide) ⟨xn_le rfl, xn_le rfl⟩ (fun b9 => ?_)
  refine XX.perm (ws2 := (b9, .inl (G.2.1 1, 1000, .inl (fun _ => 0))) :: (b8, .inl (G.2.1 1, 1000, .inl (fun _ => 0))) :: (b7, .inl (G.2.1 1, 1000, .inl (fun _ => 0))) :: (b6, .inl (G.2.1 1, 1000, .inl (fun _ => 0))) :: (b5, .inl (G.2.1 1, 1000, .inl (fun _ => 0))) :: (b4, .inl (G.2.1 1, 6000, .inl (fun _ => 0))) :: (b3, .inl (G.2.1 1, 6000, .inl (fun _ => 0))) :: (b2, .inl (G.2.1 1, 30, .inl (fun _ => 0))) :: (b1, .inl (G.2.1 1, 20001, .inl (fun _ => 0))) :: (b0, .inl (G.2.1 0, 20000, .inl (fun _ => 0))) :: (a, .inr (9, [.ref b0, .int 0, .ref b1, .int 0, .int 0, .int 0, .int 0, .int 0, .int (-1), .ref b2, .int 0, .int (nI 100), .int (nI 4), .ref b3, .ref b4, .int 0, .ref b5, .int 0, .ref b6, .ref b7, .ref b8, .int 0, .null, .int 0, .int 0, .int 0, .int 0, .null, .int 0, .int 0, .int 0, .null])) :: W0) (List.perm_append_singleton _ _) ?_
  refine XX.putF (q0 := 10) (ws2 := (b9, .inl (G.2.1 1, 1000, .inl (fun _ => 0))) :: (b8, .inl (G.2.1 1, 1000, .inl (fun _ => 0))) :: (b7, .inl (G.2.1 1, 1000, .inl (fun _ => 0))) :: (b6, .inl (G.2.1 1, 1000, .inl (fun _ => 0))) :: (b5, .inl (G.2.1 1, 1000, .inl (fun _ => 0))) :: (b4, .inl (G.2.1 1, 6000, .inl (fun _ => 0))) :: (b3, .inl (G.2.1 1, 6000, .inl (fun _ => 0))) :: (b2, .inl (G.2.1 1, 30, .inl (fun _ => 0))) :: (b1, .inl (G.2.1 1, 20001, .inl (fun _ => 0))) :: (b0, .inl (G.2.1 0, 20000, .inl (fun _ => 0))) :: (a, .inr (9, [.ref b0, .int 0, .ref b1, .int 0, .int 0, .int 0, .int 0, .int 0, .int (-1), .ref b2, .int 0, .int (nI 100), .int (nI 4), .ref b3, .ref b4, .int 0, .ref b5, .int 0, .ref b6, .ref b7, .ref b8, .int 0, .ref b9, .int 0, .int 0, .int 0, .int 0, .null, .int 0, .int 0, .int 0, .null])) :: W0) ff_M_48 rfl dd_M_init_106 rfl rfl rfl (xn_le rfl) rfl ?_
  refine XX.aload_n dd_M_init_109 rfl 0 rfl ?_
  refine XX.sipush (v := nI 500) dd_M_init_110 (by decide) ?_
  refine XX.newI (n := 500) dd_M_init_113 wa_I (by decide) ⟨xn_le rfl, xn_le rfl⟩ (fun b10 => ?_)
  refine XX.perm (ws2 := (b10, .inl (G.2.1 1, 500, .inl (fun _ => 0))) :: (b9, .inl (G.2.1 1, 1000, .inl (fun _ => 0))) :: (b8, .inl (G.2.1 1, 1000, .inl (fun _ => 0))) :: (b7, .inl (G.2.1 1, 1000, .inl (fun _ => 0))) :: (b6, .inl (G.2.1 1, 1000, .inl (fun _ => 0))) :: (b5, .inl (G.2.1 1, 1000, .inl (fun _ => 0))) :: (b4, .inl (G.2.1 1, 6000, .inl (fun _ => 0))) :: (b3, .inl (G.2.1 1, 6000, .inl (fun _ => 0))) :: (b2, .inl (G.2.1 1, 30, .inl (fun _ => 0))) :: (b1, .inl (G.2.1 1, 20001, .inl (fun _ => 0))) :: (b0, .inl (G.2.1 0, 20000, .inl (fun _ => 0))) :: (a, .inr (9, [.ref b0, .int 0, .ref b1, .int 0, .int 0, .int 0, .int 0, .int 0, .int (-1), .ref b2, .int 0, .int (nI 100), .int (nI 4), .ref b3, .ref b4, .int 0, .ref b5, .int 0, .ref b6, .ref b7, .ref b8, .int 0, .ref b9, .int 0, .int 0, .int 0, .int 0, .null, .int 0, .int 0, .int 0, .null])) :: W0) (List.perm_append_singleton _ _) ?_
  refine XX.putF (q0 := 11) (ws2 := (b10, .inl (G.2.1 1, 500, .inl (fun _ => 0))) :: (b9, .inl (G.2.1 1, 1000, .inl (fun _ => 0))) :: (b8, .inl (G.2.1 1, 1000, .inl (fun _ => 0))) :: (b7, .inl (G.2.1 1, 1000, .inl (fun _ => 0))) :: (b6, .inl (G.2.1 1, 1000, .inl (fun _ => 0))) :: (b5, .inl (G.2.1 1, 1000, .inl (fun _ => 0))) :: (b4, .inl (G.2.1 1, 6000, .inl (fun _ => 0))) :: (b3, .inl (G.2.1 1, 6000, .inl (fun _ => 0))) :: (b2, .inl (G.2.1 1, 30, .inl (fun _ => 0))) :: (b1, .inl (G.2.1 1, 20001, .inl (fun _ => 0))) :: (b0, .inl (G.2.1 0, 20000, .inl (fun _ => 0))) :: (a, .inr (9, [.ref b0, .int 0, .ref b1, .int 0, .int 0, .int 0, .int 0, .int 0, .int (-1), .ref b2, .int 0, .int (nI 100), .int (nI 4), .ref b3, .ref b4, .int 0, .ref b5, .int 0, .ref b6, .ref b7, .ref b8, .int 0, .ref b9, .int 0, .int 0, .int 0, .int 0, .ref b10, .int 0, .int 0, .int 0, .null])) :: W0) ff_M_51 rfl dd_M_init_115 rfl rfl rfl (xn_le rfl) rfl ?_
  refine XX.aload_n dd_M_init_118 rfl 0 rfl ?_
  refine XX.sipush (v := nI 1000) dd_M_init_119 (by decide) ?_
  refine XX.newI (n := 1000) dd_M_init_122 wa_I (by decide) ⟨xn_le rfl, xn_le rfl⟩ (fun b11 => ?_)
  refine XX.perm (ws2 := (b11, .inl (G.2.1 1, 1000, .inl (fun _ => 0))) :: (b10, .inl (G.2.1 1, 500, .inl (fun _ => 0))) :: (b9, .inl (G.2.1 1, 1000, .inl (fun _ => 0))) :: (b8, .inl (G.2.1 1, 1000, .inl (fun _ => 0))) :: (b7, .inl (G.2.1 1, 1000, .inl (fun _ => 0))) :: (b6, .inl (G.2.1 1, 1000, .inl (fun _ => 0))) :: (b5, .inl (G.2.1 1, 1000, .inl (fun _ => 0))) :: (b4, .inl (G.2.1 1, 6000, .inl (fun _ => 0))) :: (b3, .inl (G.2.1 1, 6000, .inl (fun _ => 0))) :: (b2, .inl (G.2.1 1, 30, .inl (fun _ => 0))) :: (b1, .inl (G.2.1 1, 20001, .inl (fun _ => 0))) :: (b0, .inl (G.2.1 0, 20000, .inl (fun _ => 0))) :: (a, .inr (9, [.ref b0, .int 0, .ref b1, .int 0, .int 0, .int 0, .int 0, .int 0, .int (-1), .ref b2, .int 0, .int (nI 100), .int (nI 4), .ref b3, .ref b4, .int 0, .ref b5, .int 0, .ref b6, .ref b7, .ref b8, .int 0, .ref b9, .int 0, .int 0, .int 0, .int 0, .ref b10, .int 0, .int 0, .int 0, .null])) :: W0) (List.perm_append_singleton _ _) ?_
  refine XX.putF (q0 := 12) (ws2 := (b11, .inl (G.2.1 1, 1000, .inl (fun _ => 0))) :: (b10, .inl (G.2.1 1, 500, .inl (fun _ => 0))) :: (b9, .inl (G.2.1 1, 1000, .inl (fun _ => 0))) :: (b8, .inl (G.2.1 1, 1000, .inl (fun _ => 0))) :: (b7, .inl (G.2.1 1, 1000, .inl (fun _ => 0))) :: (b6, .inl (G.2.1 1, 1000, .inl (fun _ => 0))) :: (b5, .inl (G.2.1 1, 1000, .inl (fun _ => 0))) :: (b4, .inl (G.2.1 1, 6000, .inl (fun _ => 0))) :: (b3, .inl (G.2.1 1, 6000, .inl (fun _ => 0))) :: (b2, .inl (G.2.1 1, 30, .inl (fun _ => 0))) :: (b1, .inl (G.2.1 1, 20001, .inl (fun _ => 0))) :: (b0, .inl (G.2.1 0, 20000, .inl (fun _ => 0))) :: (a, .inr (9, [.ref b0, .int 0, .ref b1, .int 0, .int 0, .int 0, .int 0, .int 0, .int (-1), .ref b2, .int 0, .int (nI 100), .int (nI 4), .ref b3, .ref b4, .int 0, .ref b5, .int 0, .ref b6, .ref b7, .ref b8, .int 0, .ref b9, .int 0, .int 0, .int 0, .int 0, .ref b10, .int 0, .int 0, .int 0, .ref b11])) :: W0) ff_M_54 rfl dd_M_init_124 rfl rfl rfl (xn_le rfl) rfl ?_
  have hp : ([(b11, .inl (G.2.1 1, 1000, .inl (fun _ => 0))), (b10, .inl (G.2.1 1, 500, .inl (fun _ => 0))), (b9, .inl (G.2.1 1, 1000, .inl (fun _ => 0))), (b8, .inl (G.2.1 1, 1000, .inl (fun _ => 0))), (b7, .inl (G.2.1 1, 1000, .inl (fun _ => 0))), (b6, .inl (G.2.1 1, 1000, .inl (fun _ => 0))), (b5, .inl (G.2.1 1, 1000, .inl (fun _ => 0))), (b4, .inl (G.2.1 1, 6000, .inl (fun _ => 0))), (b3, .inl (G.2.1 1, 6000, .inl (fun _ => 0))), (b2, .inl (G.2.1 1, 30, .inl (fun _ => 0))), (b1, .inl (G.2.1 1, 20001, .inl (fun _ => 0))), (b0, .inl (G.2.1 0, 20000, .inl (fun _ => 0))), (a, .inr (9, [.ref b0, .int 0, .ref b1, .int 0, .int 0, .int 0, .int 0, .int 0, .int (-1), .ref b2, .int 0, .int (nI 100), .int (nI 4), .ref b3, .ref b4, .int 0, .ref b5, .int 0, .ref b6, .ref b7, .ref b8, .int 0, .ref b9, .int 0, .int 0, .int 0, .int 0, .ref b10, .int 0, .int 0, .int 0, .ref b11]))] : va_W).Perm (wM G (fun i => [a, b0, b1, b2, b3, b4, b5, b6, b7, b8, b9, b10, b11].getD i 0) (fun i => [0, 0, 0, 0, 0, 0, (-1), 0, (nI 100), (nI 4), 0, 0, 0, 0, 0, 0, 0, 0, 0, 0].getD i 0) (fun _ _ => 0) []) := pm_ix [12, 11, 10, 9, 8, 7, 6, 5, 4, 3, 2, 1, 0] (n := 13) rfl (by decide) rfl
  refine XX.perm (ws2 := wM G (fun i => [a, b0, b1, b2, b3, b4, b5, b6, b7, b8, b9, b10, b11].getD i 0) (fun i => [0, 0, 0, 0, 0, 0, (-1), 0, (nI 100), (nI 4), 0, 0, 0, 0, 0, 0, 0, 0, 0, 0].getD i 0) (fun _ _ => 0) W0) (hp.append_right W0) ?_
  exact XX.vret dd_M_init_127 rfl ⟨xn_le rfl, xn_le rfl⟩ ⟨rfl, fun i => [a, b0, b1, b2, b3, b4, b5, b6, b7, b8, b9, b10, b11].getD i 0, fun i => [0, 0, 0, 0, 0, 0, (-1), 0, (nI 100), (nI 4), 0, 0, 0, 0, 0, 0, 0, 0, 0, 0].getD i 0, _, rfl, rfl, SG_0, rfl, fun i hi => absurd hi (Nat.not_lt_zero _), ⟨false, rfl, fun h => absurd h (Nat.not_lt_zero _), fun h => absurd h (by decide)⟩, rfl, rfl, rfl, rfl, ⟨rfl, Nat.zero_le _, fun k hk => absurd hk (Nat.not_lt_zero _)⟩, rfl, rfl, rfl, rfl, fun i hi => absurd hi (Nat.not_lt_zero _), rfl, fun i hi => absurd hi (Nat.not_lt_zero _), rfl, rfl, rfl, fun _ _ => rfl⟩

