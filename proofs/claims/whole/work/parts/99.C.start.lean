/-! the law's loop, its start, and the claim -/
set_option maxRecDepth 100000 in
set_option maxHeartbeats 4000000 in
theorem law_loop {G : XG} {b L a1 o C S : Nat} {xs : Nat → Int32} {qm : Nat → Nat} (htr : ∀ e : Env, G.2.2.2.admits e → e.platform.stackTraces = false) (hL : L ≤ 3072) (hC : C ≤ 1000) (hS : S ≤ 1000000) : ∀ (kk k : Nat), L - 6 * k = kk → 6 * k ≤ L + 6 → LST G (LF G b L xs) b a1 o qm (C + 11 * k) (S + 6 * k) 23 k := by
  intro kk
  induction kk using Nat.strongRecOn with
  | _ kk ih =>
    intro k hkk hk0
    intro q x n f kf ks bc br ka xm fm gg s cells slots ha hc hm hcl hsl
    have hnn := hc.nn
    refine XX.iload dd_L_law_23 4 rfl ?_
    refine XX.aload_n dd_L_law_25 rfl 0 rfl ?_
    refine XX.slen dd_L_law_26 ?_
    refine XX.bipush (v := nI 6) dd_L_law_27 (by decide) ?_
    refine XX.isub dd_L_law_29 ?_
    refine XX.icmp_gt (tgt := 996) dd_L_law_30 (by decide) (fun h30 => ?_) (fun h30 => ?_)
    · refine XX.iconst (v := 1) dd_L_law_996 (by decide) ?_
      exact XX.lret dd_L_law_997 (by omega) (by omega)
    · have hk := law_cond hL hk0 h30
      have h990 : LST G (LF G b L xs) b a1 o qm (C + 11 * k + 11) (S + 6 * k + 6) 990 k := by
        intro q x n f kf ks bc br ka xm fm gg s cells slots ha hc hm hcl hsl
        refine XX.iinc (z := 4) (v := nI (6 * (k + 1))) (lv2 := [(4, .int (nI (6 * (k + 1)))), (0, .ref b), (1, .ref a1), (2, .ref (qm 0)), (3, .ref o)]) dd_L_law_990 rfl (by rw [show 6 * (k + 1) = 6 * k + 6 by omega]; exact xn_inc _ 6) (by decide) rfl ?_
        refine XX.goto (tgt := 23) dd_L_law_993 (by decide) ?_
        refine XX.lvs [1, 2, 3, 4, 0] rfl ?_
        exact ih _ (by omega) (k + 1) rfl (by omega) q x n f kf ks bc br ka xm fm gg s cells slots ha hc hm (by omega) (by omega)
      refine XX.aload_n dd_L_law_33 rfl 0 rfl ?_
      refine XX.iload dd_L_law_34 4 rfl ?_
      refine XX.sld (j := 6 * k) dd_L_law_36 (by omega) (by omega) ?_
      refine XX.bipush (v := nI 31) dd_L_law_37 (by decide) ?_
      refine XX.iand dd_L_law_39 ?_
      obtain ⟨j, ej, hj⟩ := and31 (xs (6 * k))
      refine XX.tp ej ?_
      have hcases : j = 0 ∨ j = 1 ∨ j = 2 ∨ j = 3 ∨ j = 4 ∨ j = 5 ∨ j = 6 ∨ j = 7 ∨ j = 8 ∨ j = 9 ∨ j = 10 ∨ j = 11 ∨ j = 12 ∨ j = 13 ∨ j = 14 ∨ j = 15 ∨ j = 16 ∨ 16 < j := by omega
      rcases hcases with rfl | rfl | rfl | rfl | rfl | rfl | rfl | rfl | rfl | rfl | rfl | rfl | rfl | rfl | rfl | rfl | rfl | hj
      · refine XX.tabIn (tgt := 124) dd_L_law_40 (by decide) (by decide) (off := 84) (by decide) (by decide) ?_
        exact law_feed htr hL hk (by omega) (by omega) h990 q x n f kf ks bc br ka xm fm gg s cells slots ha hc hm hcl hsl
      · refine XX.tabIn (tgt := 228) dd_L_law_40 (by decide) (by decide) (off := 188) (by decide) (by decide) ?_
        exact law_end htr hL hk (by omega) (by omega) h990 q x n f kf ks bc br ka xm fm gg s cells slots ha hc hm hcl hsl
      · refine XX.tabIn (tgt := 264) dd_L_law_40 (by decide) (by decide) (off := 224) (by decide) (by decide) ?_
        exact law_ways htr hL hk (by omega) (by omega) h990 q x n f kf ks bc br ka xm fm gg s cells slots ha hc hm hcl hsl
      · refine XX.tabIn (tgt := 356) dd_L_law_40 (by decide) (by decide) (off := 316) (by decide) (by decide) ?_
        exact law_separator htr hL hk (by omega) (by omega) h990 q x n f kf ks bc br ka xm fm gg s cells slots ha hc hm hcl hsl
      · refine XX.tabIn (tgt := 392) dd_L_law_40 (by decide) (by decide) (off := 352) (by decide) (by decide) ?_
        exact law_key htr hL hk (by omega) (by omega) h990 q x n f kf ks bc br ka xm fm gg s cells slots ha hc hm hcl hsl
      · refine XX.tabIn (tgt := 496) dd_L_law_40 (by decide) (by decide) (off := 456) (by decide) (by decide) ?_
        exact law_keyless htr hL hk (by omega) (by omega) h990 q x n f kf ks bc br ka xm fm gg s cells slots ha hc hm hcl hsl
      · refine XX.tabIn (tgt := 509) dd_L_law_40 (by decide) (by decide) (off := 469) (by decide) (by decide) ?_
        exact law_memory htr hL hk (by omega) (by omega) h990 q x n f kf ks bc br ka xm fm gg s cells slots ha hc hm hcl hsl
      · refine XX.tabIn (tgt := 557) dd_L_law_40 (by decide) (by decide) (off := 517) (by decide) (by decide) ?_
        exact law_lines htr hL hk (by omega) (by omega) h990 q x n f kf ks bc br ka xm fm gg s cells slots ha hc hm hcl hsl
      · refine XX.tabIn (tgt := 570) dd_L_law_40 (by decide) (by decide) (off := 530) (by decide) (by decide) ?_
        exact law_place htr hL hk (by omega) (by omega) h990 q x n f kf ks bc br ka xm fm gg s cells slots ha hc hm hcl hsl
      · refine XX.tabIn (tgt := 666) dd_L_law_40 (by decide) (by decide) (off := 626) (by decide) (by decide) ?_
        exact law_compare htr hL hk (by omega) (by omega) h990 q x n f kf ks bc br ka xm fm gg s cells slots ha hc hm hcl hsl
      · refine XX.tabIn (tgt := 734) dd_L_law_40 (by decide) (by decide) (off := 694) (by decide) (by decide) ?_
        exact law_sort htr hL hk (by omega) (by omega) h990 q x n f kf ks bc br ka xm fm gg s cells slots ha hc hm hcl hsl
      · refine XX.tabIn (tgt := 778) dd_L_law_40 (by decide) (by decide) (off := 738) (by decide) (by decide) ?_
        exact law_check htr hL hk (by omega) (by omega) h990 q x n f kf ks bc br ka xm fm gg s cells slots ha hc hm hcl hsl
      · refine XX.tabIn (tgt := 791) dd_L_law_40 (by decide) (by decide) (off := 751) (by decide) (by decide) ?_
        exact law_merge htr hL hk (by omega) (by omega) h990 q x n f kf ks bc br ka xm fm gg s cells slots ha hc hm hcl hsl
      · refine XX.tabIn (tgt := 847) dd_L_law_40 (by decide) (by decide) (off := 807) (by decide) (by decide) ?_
        exact law_result htr hL hk (by omega) (by omega) h990 q x n f kf ks bc br ka xm fm gg s cells slots ha hc hm hcl hsl
      · refine XX.tabIn (tgt := 872) dd_L_law_40 (by decide) (by decide) (off := 832) (by decide) (by decide) ?_
        exact law_byteAt htr hL hk (by omega) (by omega) h990 q x n f kf ks bc br ka xm fm gg s cells slots ha hc hm hcl hsl
      · refine XX.tabIn (tgt := 909) dd_L_law_40 (by decide) (by decide) (off := 869) (by decide) (by decide) ?_
        exact law_run htr hL hk (by omega) (by omega) h990 q x n f kf ks bc br ka xm fm gg s cells slots ha hc hm hcl hsl
      · refine XX.tabIn (tgt := 934) dd_L_law_40 (by decide) (by decide) (off := 894) (by decide) (by decide) ?_
        exact law_about htr hL hk (by omega) (by omega) h990 q x n f kf ks bc br ka xm fm gg s cells slots ha hc hm hcl hsl
      · refine XX.tabOut (tgt := 990) dd_L_law_40 (Or.inr (by rw [nI_toInt (by omega)]; omega)) (by decide) ?_
        exact h990 q x n f kf ks bc br ka xm fm gg s cells slots ha hc hm (by omega) (by omega)
set_option maxRecDepth 100000 in
set_option maxHeartbeats 4000000 in
theorem law_0 {G : XG} {b L : Nat} {xs : Nat → Int32} (htr : ∀ e : Env, G.2.2.2.admits e → e.platform.stackTraces = false) (hL : L ≤ 3072) : XX G m_L_law room_1 (LF G b L xs) 0 0 [] 0 [(0, .ref b)] [] := by
  refine XX.new (N := 10) (ci := 0) (fs := [.null, .null, .null, .null, .null, .null, .null, .int 0, .int 0, .int 0]) nw_L_8 dd_L_law_0 ⟨xn_le rfl, xn_le rfl⟩ (fun a => ?_)
  refine XX.dup dd_L_law_3 rfl ?_
  refine XX.callI (yk := m_S_init.1) (bk := m_S_init.2.1) (lk := m_S_init.2.2.1) (n := 0) (As := []) (rest := [.ref a]) (c_S_init (W0 := [])) mt_S_init mi_S_init rfl ml_L_58 rfl dd_L_law_4 ⟨xn_le rfl, xn_le rfl⟩ ⟨xn_le rfl, xn_le rfl⟩ (xn_le rfl) rfl (fun r1 w1 hp1 => ?_)
  obtain ⟨rfl, q, x, f, kf, ks, bc, br, ka, rfl, hq, hc⟩ := hp1
  refine XX.astore_n (lv2 := [(1, .ref a), (0, .ref b)]) dd_L_law_7 rfl (by decide) rfl ?_
  refine XX.new (N := 32) (ci := 9) (fs := [.null, .int 0, .null, .int 0, .int 0, .int 0, .int 0, .int 0, .int 0, .null, .int 0, .int 0, .int 0, .null, .null, .int 0, .null, .int 0, .null, .null, .null, .int 0, .null, .int 0, .int 0, .int 0, .int 0, .null, .int 0, .int 0, .int 0, .null]) nw_L_59 dd_L_law_8 ⟨xn_le rfl, xn_le rfl⟩ (fun am => ?_)
  refine XX.perm (ws2 := (am, .inr (9, [.null, .int 0, .null, .int 0, .int 0, .int 0, .int 0, .int 0, .int 0, .null, .int 0, .int 0, .int 0, .null, .null, .int 0, .null, .int 0, .null, .null, .null, .int 0, .null, .int 0, .int 0, .int 0, .int 0, .null, .int 0, .int 0, .int 0, .null])) :: wC G q x (fun _ => 640) f kf (ks ++ [])) (List.perm_append_singleton _ _) ?_
  refine XX.dup dd_L_law_11 rfl ?_
  refine XX.callI (yk := m_M_init.1) (bk := m_M_init.2.1) (lk := m_M_init.2.2.1) (n := 0) (As := []) (rest := [.ref am]) (c_M_init (W0 := wC G q x (fun _ => 640) f kf (ks ++ []))) mt_M_init mi_M_init rfl ml_L_61 rfl dd_L_law_12 ⟨xn_le rfl, xn_le rfl⟩ ⟨xn_le rfl, xn_le rfl⟩ (xn_le rfl) rfl (fun r2 w2 hp2 => ?_)
  obtain ⟨rfl, qm, xm, fm, rfl, hqm, hm⟩ := hp2
  refine XX.astore_n (lv2 := [(2, .ref am), (1, .ref a), (0, .ref b)]) dd_L_law_15 rfl (by decide) rfl ?_
  refine XX.iconst (v := nI 1) dd_L_law_16 (by decide) ?_
  refine XX.newL (n := 1) dd_L_law_17 wa_L (by decide) ⟨xn_le rfl, xn_le rfl⟩ (fun o => ?_)
  refine XX.cg (ws2 := wM G qm xm fm (wC G q x (fun _ => 640) f kf (ks ++ [LO G o (fun _ => 0)]))) (lv2 := [(2, .ref (qm 0)), (1, .ref a), (0, .ref b)]) (by show wM G qm xm fm (wC G q x (fun _ => 640) f kf ((ks ++ []) ++ [LO G o (fun _ => 0)])) = _; rw [List.append_nil]) (by rw [hqm]) rfl ?_
  refine XX.astore_n (lv2 := [(3, .ref o), (2, .ref (qm 0)), (1, .ref a), (0, .ref b)]) dd_L_law_19 rfl (by decide) rfl ?_
  refine XX.iconst (v := nI 0) dd_L_law_20 (by decide) ?_
  refine XX.istore (lv2 := [(4, .int (nI 0)), (3, .ref o), (2, .ref (qm 0)), (1, .ref a), (0, .ref b)]) dd_L_law_21 (by decide) rfl ?_
  refine XX.lvs [4, 3, 2, 1, 0] rfl ?_
  exact law_loop (C := 1000) (S := 1000000) htr hL (by omega) (by omega) _ 0 rfl (by omega) q x _ f kf ks bc br ka xm fm _ s_0 _ _ hq hc hm (xn_le rfl) (xn_le rfl)
theorem kn_of {s : State} {args : Array Value} (hts : ∀ w ∈ xw_g, w.before args s = true) {own : String} {idx ci N : Nat} {fs : List Value} (h : xx_nw own idx ci fs N) : ∃ (cC : ClassId) (iS : Nat → Nat), ∀ q : vw_C, xc_cl[ci]? = some q → u_Kn s q.1 q.2.1 q.2.2 cC iS := by
  obtain ⟨C, T, ty, hcf, h1, h2, h3, -⟩ := h
  obtain ⟨c, i, hk⟩ := u_known hts hcf.2.1 (hts _ h2)
  exact ⟨c, i, fun q hq => by cases Option.some.inj (hcf.1.symm.trans hq); exact hk⟩
theorem kn_all {s : State} {args : Array Value} (hts : ∀ w ∈ xw_g, w.before args s = true) : ∀ k : Nat, ∃ (cC : ClassId) (iS : Nat → Nat), ∀ q : vw_C, xc_cl[k]? = some q → u_Kn s q.1 q.2.1 q.2.2 cC iS
  | 0 => kn_of hts nw_L_8
  | 1 => kn_of hts nw_S_7
  | 2 => kn_of hts nw_S_16
  | 3 => kn_of hts nw_S_25
  | 4 => kn_of hts nw_S_126
  | 5 => kn_of hts nw_O_32
  | 6 => kn_of hts nw_S_34
  | 7 => kn_of hts nw_S_43
  | 8 => kn_of hts nw_S_50
  | 9 => kn_of hts nw_L_59
  | k + 10 => ⟨0, fun _ => 0, fun q hq => by cases hq⟩
theorem arr_of {s : State} {args : Array Value} {ty : FieldType} (h : (Cond.arrayClass ty).before args s = true) : ∃ cA : ClassId, ArrOfT s cA ty ∧ s.vm.findClass ("[" ++ ty.toString) = some cA := by
  obtain ⟨c, k, comp, h1, h2, h3⟩ := Cond.arrayClass_spec h
  exact ⟨c, fun n z => ⟨fun k h => (by cases h), k, h2, comp, h3⟩, h1⟩
theorem arr_key {s : State} {args : Array Value} (h : (Cond.arrayOver (.object "LineSorter$Key")).before args s = true) : ∃ cA : ClassId, ArrOfT s cA (.object "LineSorter$Key") ∧ va_RA s cA (.object "LineSorter$Key") := by
  obtain ⟨comp, c, k, h1, h2, h3, h4, h5⟩ := Cond.arrayOver_spec h
  exact ⟨c, fun n z => ⟨fun k h => (by cases h), k, h3, comp, h4⟩, k, comp, h3, h4, h1, h5⟩
theorem str_of {s : State} {args : Array Value} {cur : ClassId} {k : Nat} {tx : String} (hcur : s.vm.findClass "LineSorter" = some cur) (h : (Cond.stringRef "LineSorter" k tx).before args s = true) : ∃ a : Nat, vk_R "LineSorter" k tx a s := by
  obtain ⟨_, _, _, a, _, _, _, _, _, h2⟩ := Cond.stringRef_spec hcur h
  exact ⟨a, vk_R.of h h2⟩
set_option maxRecDepth 100000 in
set_option maxHeartbeats 4000000 in
/-- from the entry, for every script of at most 3072 ints, the law comes to its end with true -/
theorem whole_start {p : Program} {e : Env} {s : State} {m : MethodId} {below : List Frame} {meth : Method} {c : Code} (l : Launch) (hfl : l.flags = flags0) {b L : Nat} {xs : Nat → Int32} (hL : L ≤ 3072) (C0 : lw_At p s m meth c b L xs) : W p l e room_1 s m #[Value.ref b] below meth c s.heap [] 0 0 (lw_Z below #[Value.ref b] s) (entryFrame m ([Value.ref b] : List Value).toArray 7) := by
  obtain ⟨hx, hb, hr, hml, hown, hts, hX, hbl, hlocks, hgv⟩ := id C0
  have hflat := flat_of_before _ hgv
  have hg : ∀ w ∈ xw_g, w.before #[Value.ref b] s = true := fun w hw => hts w (List.mem_filter.mp hw).1
  obtain ⟨cb, hb1, hb2⟩ := arr_of (hg _ wa_B)
  obtain ⟨cI, hi1, hi2⟩ := arr_of (hg _ wa_I)
  obtain ⟨cl, hl1, hl2⟩ := arr_of (hg _ wa_L)
  obtain ⟨ck, hk1, hk2⟩ := arr_key (hts _ mw_100)
  let G : XG := ((fun k => (kn_all hg k).choose, fun k => (kn_all hg k).choose_spec.choose), (fun k => if k = 0 then cb else if k = 1 then cI else if k = 2 then cl else ck), s.heap.size, l)
  have hA : ∀ a : Nat, a < s.heap.size → ¬ xg_A G a := fun a h => Nat.not_le.mpr h
  have hK : va_K G.1 xc_cl (xg_ty G) s := by
    refine ⟨fun k q hq => (kn_all hg k).choose_spec.choose_spec q hq, fun k q hq => ?_⟩
    match k, hq with
    | 0, hq => cases hq; exact ⟨hb1, hb2⟩
    | 1, hq => cases hq; exact ⟨hi1, hi2⟩
    | 2, hq => cases hq; exact ⟨hl1, hl2⟩
    | 3, hq => cases hq; exact ⟨hk1, hk2⟩
    | k + 4, hq => cases hq
  have hcur : s.vm.findClass "LineSorter" = some (G.1.1 0) := (hK.1 0 _ rfl).2.1
  have hini : (Cond.initialized "java/lang/Throwable").before #[Value.ref b] s = true := hts _ mw_11
  have hnc : xk_nc s := by
    have h := hflat (Cond.not (.castable "java/lang/UnsupportedOperationException" "java/lang/IllegalArgumentException")) (by decide +kernel)
    intro c1 t1 h1 h2
    have hv := Cond.holds_not_iff.mp h
    simp only [Cond.value, h1, h2] at hv
    exact Option.some.inj hv
  have hen : xk_en G s := by
    refine ⟨fun w hw a => word_at (args := #[Value.ref b]) (State.WarmedH.refl s) (good_of_word (List.mem_filter.mp hw).2) (hg w hw), ⟨fun w hw => ?_, fun t ht => ?_, va_Zqof (hts _ mw_422) hini (hflat _ (by decide +kernel)) hA, va_Zqof (hts _ mw_424) hini (hflat _ (by decide +kernel)) hA, va_AO.of (hts _ mw_100), hts _ mw_422, hts _ mw_424, hnc⟩, hK⟩
    · have h8 := (List.mem_filter.mp hw).2
      refine va_Nw.of ?_ (hts w (List.mem_filter.mp hw).1)
      cases w <;> first | (simp [xw_isN] at h8; done) | rfl
    · have hall : ∀ t ∈ xw_s, ∃ a : Nat, vk_R t.1 t.2.1 t.2.2 a s := by
        unfold xw_s
        simp only [List.forall_mem_cons]
        exact ⟨str_of hcur (hts _ mw_437), str_of hcur (hts _ mw_510), str_of hcur (hts _ mw_528), str_of hcur (hts _ mw_536), str_of hcur (hts _ mw_545), str_of hcur (hts _ mw_555), str_of hcur (hts _ mw_575), str_of hcur (hts _ mw_598), str_of hcur (hts _ mw_616), str_of hcur (hts _ mw_625), str_of hcur (hts _ mw_681), str_of hcur (hts _ mw_693), fun t ht => absurd ht List.not_mem_nil⟩
      exact hall t ht
  have htr : ∀ e : Env, G.2.2.2.admits e → e.platform.stackTraces = false := fun e he => Launch.traces_off (l := l) hfl he
  have hl := lv_entry ([.ref b]) (n := 7) (Nat.le_of_ble_eq_true rfl)
  rw [lg_entry_eq]
  have hP : va_P G.1 xc_cl [] s.heap := fun k q h => by simp at h
  have hD : va_D (xg_A G) [] := ⟨fun i j p q h => by simp at h, fun k q h => by simp at h⟩
  have K := law_0 (G := G) (b := b) (L := L) (xs := xs) htr hL p e s m #[Value.ref b] below meth c s.heap [] _ ⟨hx, hb, hml, hr, hlocks, hown, Or.inr rfl, Nat.le_refl _, hen⟩ hP hD va_S.rf hl
  intro T hT X
  obtain ⟨t, z1, z2⟩ := K T hT X
  exact ⟨t, z1, z2 ⟨rfl, hX, hbl, Nat.le_refl _⟩⟩
