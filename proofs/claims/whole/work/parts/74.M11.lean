set_option maxRecDepth 100000 in
set_option maxHeartbeats 4000000 in
theorem c_M_sort {G : XG} {q : Nat → Nat} {x : Nat → Int32} {f : Nat → Nat → Int32} {kl : va_W} {s : SS} (hm : MI s x f)  : MM G m_M_sort (xr 10 0 0) [.ref (q 0)] (wM G q x f kl) (MQI G q kl (sel (t_sort s) (q_sort s) s) (t_sort s) (nI (q_sort s).rc)) := by
  have hlen := hm.g.len
  have hkc := hm.g.kc
  have hrc := hm.g.rc
  have hun := hm.g.un
  have hlc : lnc s.B s.len ≤ s.len := lnc_le
  refine MM.of rfl (xn_le rfl) ?_
  refine (?_ : XX G m_M_sort (xr 10 0 0) (xx_F G (MQI G q kl (sel (t_sort s) (q_sort s) s) (t_sort s) (nI (q_sort s).rc)) (xr 10 0 0)) 0 0 (wM G q x f kl) 0 [(0, .ref (q 0))] [])
  have l110 : lnc s.B s.len ≤ 1000 → t_sort s = 0 → ∀ (F : Nat → Nat → Int32) (ro sz : Nat → Nat) (rn mg mv : Nat), q_sort s = qs_mk s ro rn sz mg mv → rn ≤ lnc s.B s.len → (∀ i, i < lnc s.B s.len → F 6 i = nI (ro i) ∧ ro i < lnc s.B s.len) → (∀ i, i < rn → F 9 i = nI (sz i)) → ∀ (kk k : Nat) (xx gq : Nat → Int32), lnc s.B s.len - k = kk → k ≤ lnc s.B s.len → MH s xx (fup F 5 gq) → xx 11 = nI (of_ (s_c s) ro k).1 → xx 13 = nI rn → xx 14 = nI mg → xx 15 = nI mv → xx 16 = nI (k - (of_ (s_c s) ro k).1) → (∀ i, i < (of_ (s_c s) ro k).1 → gq i = nI ((of_ (s_c s) ro k).2 i)) → XX G m_M_sort (xr 10 0 0) (xx_F G (MQI G q kl (sel (t_sort s) (q_sort s) s) (t_sort s) (nI (q_sort s).rc)) (xr 10 0 0)) 0 0 (wM G q xx (fup F 5 gq) kl) 110 [(0, .ref (q 0)), (1, .int (nI k))] [] := by
    intro hln1 ht F ro sz rn mg mv hqs hrn hro hsz kk
    induction kk using Nat.strongRecOn with
    | _ kk ih =>
      intro k xx gq hkk hk hh h11 h13 h14 h15 h16 hgq
      have hle := of_le (s_c s) ro k
      refine XX.iload_n dd_M_sort_110 rfl 1 rfl ?_
      refine XX.aload_n dd_M_sort_111 rfl 0 rfl ?_
      refine XX.get (q0 := 0) (v := .int (xx 1)) fl_M_78 dd_M_sort_112 rfl rfl ?_
      refine XX.tp (y := nI (lnc s.B s.len)) (hh.x1) ?_
      refine XX.ncmp_ge (tgt := 194) dd_M_sort_115 (by decide) (by omega) (by omega) (fun h115 => ?_) (fun h115 => ?_)
      ·
        refine XX.aload_n dd_M_sort_194 rfl 0 rfl ?_
        refine XX.iconst (v := nI 0) dd_M_sort_195 (by decide) ?_
        refine XX.put (q0 := 0) (ws2 := wM G q (upd xx 10 (nI 0)) (fup F 5 gq) kl) fp_M_126 dd_M_sort_196 rfl rfl rfl (xn_le rfl) rfl ?_
        refine XX.aload_n dd_M_sort_199 rfl 0 rfl ?_
        refine XX.get (q0 := 0) (v := .int ((upd xx 10 (nI 0)) 11)) fl_M_67 dd_M_sort_200 rfl rfl ?_
        refine XX.tp (y := nI ((of_ (s_c s) ro k).1)) (h11) ?_
        obtain rfl : lnc s.B s.len = k := by omega
        have hrc2 : (q_sort s).rc = (of_ (s_c s) ro (lnc s.B s.len)).1 := by rw [hqs]; rfl
        rw [hrc2]
        exact XX.iret dd_M_sort_203 rfl ⟨xn_le rfl, xn_le rfl⟩ (MQI.ok ht hh.x19 (by
          rw [hqs]
          refine ⟨⟨hh.g.len, hh.g.bb, hh.g.kc, hh.g.kb, hh.g.m1, hh.g.m2, hh.g.w1, hh.g.w2, Nat.le_trans (of_le _ _ _) hln1, of_lt _ (fun i hi => (hro i hi).2), Nat.le_trans hrn hln1⟩, hh.t.1, hh.t.2.2.2.2.2, ⟨true, hh.x2, fun _ => rfl, fun _ => ⟨hh.x1, fun i hi => (hh.t.2.2.2.1 i hi).1⟩⟩, hh.x3, hh.x4, hh.x5, hh.x6, hh.k, hh.x8, hh.x9, rfl, h11, hgq, h13, hsz, h14, h15, h16, hh.tk⟩))
      ·
        refine XX.aload_n dd_M_sort_118 rfl 0 rfl ?_
        refine XX.get (q0 := 0) (v := .int (xx 5)) fl_M_91 dd_M_sort_119 rfl rfl ?_
        refine XX.tp (y := bI s.bo) (hh.x5) ?_
        refine XX.bif_eq (tgt := 163) dd_M_sort_122 (by decide) (fun h122 => ?_) (fun h122 => ?_)
        ·
          refine XX.aload_n dd_M_sort_163 rfl 0 rfl ?_
          refine XX.get (q0 := 0) (v := .ref (q 6)) fl_M_36 dd_M_sort_164 rfl rfl ?_
          refine XX.aload_n dd_M_sort_167 rfl 0 rfl ?_
          refine XX.get (q0 := 0) (v := .int (xx 11)) fl_M_67 dd_M_sort_168 rfl rfl ?_
          refine XX.tp (y := nI ((of_ (s_c s) ro k).1)) (h11) ?_
          refine XX.aload_n dd_M_sort_171 rfl 0 rfl ?_
          refine XX.get (q0 := 0) (v := .ref (q 7)) fl_M_39 dd_M_sort_172 rfl rfl ?_
          refine XX.iload_n dd_M_sort_175 rfl 1 rfl ?_
          refine XX.iald (q0 := 7) (n := 1000) (j := k) (f := (fup F 5 gq) 6) dd_M_sort_176 rfl (by omega) (by decide) ?_
          refine XX.tp (y := nI (ro k)) ((hro _ (by omega)).1) ?_
          refine XX.iast (q0 := 6) (n := 1000) (j := (of_ (s_c s) ro k).1) (f := gq) (ws2 := wM G q xx (fup (fup F 5 gq) 5 (upd gq ((of_ (s_c s) ro k).1) (nI (ro k)))) kl) dd_M_sort_177 rfl (by omega) (by decide) rfl ?_
          refine XX.aload_n dd_M_sort_178 rfl 0 rfl ?_
          refine XX.dup dd_M_sort_179 rfl ?_
          refine XX.get (q0 := 0) (v := .int (xx 11)) fl_M_67 dd_M_sort_180 rfl rfl ?_
          refine XX.tp (y := nI ((of_ (s_c s) ro k).1)) (h11) ?_
          refine XX.iconst (v := nI 1) dd_M_sort_183 (by decide) ?_
          refine XX.iadd dd_M_sort_184 ?_
          refine XX.tp (y := nI ((of_ (s_c s) ro k).1 + 1)) (nI_add _ _) ?_
          refine XX.put (q0 := 0) (ws2 := wM G q (upd xx 11 (nI ((of_ (s_c s) ro k).1 + 1))) (fup (fup F 5 gq) 5 (upd gq ((of_ (s_c s) ro k).1) (nI (ro k)))) kl) fp_M_67 dd_M_sort_185 rfl rfl rfl (xn_le rfl) rfl ?_
          refine XX.iinc (z := 1) (v := nI (k + 1)) (lv2 := [(1, .int (nI (k + 1))), (0, .ref (q 0))]) dd_M_sort_188 rfl ((nI_succ _).symm) (by decide) rfl ?_
          refine XX.goto (tgt := 110) dd_M_sort_191 (by decide) ?_
          have eo : of_ (s_c s) ro (k + 1) = ((of_ (s_c s) ro k).1 + 1, updN (of_ (s_c s) ro k).2 (of_ (s_c s) ro k).1 (ro k)) := of_f (fun hz => by simp [s_c, h122])
          refine XX.cg (ws2 := wM G q (upd xx 11 (nI ((of_ (s_c s) ro k).1 + 1))) (fup F 5 (upd gq ((of_ (s_c s) ro k).1) (nI (ro k)))) kl) (by rw [fup_fup]) rfl rfl ?_
          refine XX.lvs [1, 0] rfl ?_
          exact ih _ (by omega) (k + 1) _ _ rfl (by omega) (hh.mv (f2 := fup F 5 (upd gq ((of_ (s_c s) ro k).1) (nI (ro k)))) (fun i hi => by simp only [upd]; split <;> first | (exfalso; omega) | rfl) rfl rfl rfl rfl rfl hh.tk) (by rw [eo]; rfl) (h13) (h14) (h15) (by rw [eo, show k + 1 - ((of_ (s_c s) ro k).1 + 1) = k - (of_ (s_c s) ro k).1 by omega]; exact h16) (by
            rw [eo]
            intro i hi
            have hi2 : i < (of_ (s_c s) ro k).1 + 1 := hi
            show _ = nI (updN _ _ _ i)
            by_cases e : i = (of_ (s_c s) ro k).1
            · rw [e, pk_us, updN_s]
            · rw [pk_un e, updN_n e]; exact hgq i (by omega))
        ·
          refine XX.iload_n dd_M_sort_125 rfl 1 rfl ?_
          refine XX.nif_le (tgt := 163) dd_M_sort_126 (by decide) (by omega) (fun h126 => ?_) (fun h126 => ?_)
          ·
            refine XX.aload_n dd_M_sort_163 rfl 0 rfl ?_
            refine XX.get (q0 := 0) (v := .ref (q 6)) fl_M_36 dd_M_sort_164 rfl rfl ?_
            refine XX.aload_n dd_M_sort_167 rfl 0 rfl ?_
            refine XX.get (q0 := 0) (v := .int (xx 11)) fl_M_67 dd_M_sort_168 rfl rfl ?_
            refine XX.tp (y := nI ((of_ (s_c s) ro k).1)) (h11) ?_
            refine XX.aload_n dd_M_sort_171 rfl 0 rfl ?_
            refine XX.get (q0 := 0) (v := .ref (q 7)) fl_M_39 dd_M_sort_172 rfl rfl ?_
            refine XX.iload_n dd_M_sort_175 rfl 1 rfl ?_
            refine XX.iald (q0 := 7) (n := 1000) (j := k) (f := (fup F 5 gq) 6) dd_M_sort_176 rfl (by omega) (by decide) ?_
            refine XX.tp (y := nI (ro k)) ((hro _ (by omega)).1) ?_
            refine XX.iast (q0 := 6) (n := 1000) (j := (of_ (s_c s) ro k).1) (f := gq) (ws2 := wM G q xx (fup (fup F 5 gq) 5 (upd gq ((of_ (s_c s) ro k).1) (nI (ro k)))) kl) dd_M_sort_177 rfl (by omega) (by decide) rfl ?_
            refine XX.aload_n dd_M_sort_178 rfl 0 rfl ?_
            refine XX.dup dd_M_sort_179 rfl ?_
            refine XX.get (q0 := 0) (v := .int (xx 11)) fl_M_67 dd_M_sort_180 rfl rfl ?_
            refine XX.tp (y := nI ((of_ (s_c s) ro k).1)) (h11) ?_
            refine XX.iconst (v := nI 1) dd_M_sort_183 (by decide) ?_
            refine XX.iadd dd_M_sort_184 ?_
            refine XX.tp (y := nI ((of_ (s_c s) ro k).1 + 1)) (nI_add _ _) ?_
            refine XX.put (q0 := 0) (ws2 := wM G q (upd xx 11 (nI ((of_ (s_c s) ro k).1 + 1))) (fup (fup F 5 gq) 5 (upd gq ((of_ (s_c s) ro k).1) (nI (ro k)))) kl) fp_M_67 dd_M_sort_185 rfl rfl rfl (xn_le rfl) rfl ?_
            refine XX.iinc (z := 1) (v := nI (k + 1)) (lv2 := [(1, .int (nI (k + 1))), (0, .ref (q 0))]) dd_M_sort_188 rfl ((nI_succ _).symm) (by decide) rfl ?_
            refine XX.goto (tgt := 110) dd_M_sort_191 (by decide) ?_
            have eo : of_ (s_c s) ro (k + 1) = ((of_ (s_c s) ro k).1 + 1, updN (of_ (s_c s) ro k).2 (of_ (s_c s) ro k).1 (ro k)) := of_f (fun hz => absurd hz (by omega))
            refine XX.cg (ws2 := wM G q (upd xx 11 (nI ((of_ (s_c s) ro k).1 + 1))) (fup F 5 (upd gq ((of_ (s_c s) ro k).1) (nI (ro k)))) kl) (by rw [fup_fup]) rfl rfl ?_
            refine XX.lvs [1, 0] rfl ?_
            exact ih _ (by omega) (k + 1) _ _ rfl (by omega) (hh.mv (f2 := fup F 5 (upd gq ((of_ (s_c s) ro k).1) (nI (ro k)))) (fun i hi => by simp only [upd]; split <;> first | (exfalso; omega) | rfl) rfl rfl rfl rfl rfl hh.tk) (by rw [eo]; rfl) (h13) (h14) (h15) (by rw [eo, show k + 1 - ((of_ (s_c s) ro k).1 + 1) = k - (of_ (s_c s) ro k).1 by omega]; exact h16) (by
              rw [eo]
              intro i hi
              have hi2 : i < (of_ (s_c s) ro k).1 + 1 := hi
              show _ = nI (updN _ _ _ i)
              by_cases e : i = (of_ (s_c s) ro k).1
              · rw [e, pk_us, updN_s]
              · rw [pk_un e, updN_n e]; exact hgq i (by omega))
          ·
            refine XX.aload_n dd_M_sort_129 rfl 0 rfl ?_
            refine XX.aload_n dd_M_sort_130 rfl 0 rfl ?_
            refine XX.get (q0 := 0) (v := .ref (q 7)) fl_M_39 dd_M_sort_131 rfl rfl ?_
            refine XX.iload_n dd_M_sort_134 rfl 1 rfl ?_
            refine XX.iconst (v := nI 1) dd_M_sort_135 (by decide) ?_
            refine XX.isub dd_M_sort_136 ?_
            refine XX.tp (y := nI (k - 1)) (pk_sub (by omega)) ?_
            refine XX.iald (q0 := 7) (n := 1000) (j := k - 1) (f := (fup F 5 gq) 6) dd_M_sort_137 rfl (by omega) (by decide) ?_
            refine XX.tp (y := nI (ro (k - 1))) ((hro _ (by omega)).1) ?_
            refine XX.aload_n dd_M_sort_138 rfl 0 rfl ?_
            refine XX.get (q0 := 0) (v := .ref (q 7)) fl_M_39 dd_M_sort_139 rfl rfl ?_
            refine XX.iload_n dd_M_sort_142 rfl 1 rfl ?_
            refine XX.iald (q0 := 7) (n := 1000) (j := k) (f := (fup F 5 gq) 6) dd_M_sort_143 rfl (by omega) (by decide) ?_
            refine XX.tp (y := nI (ro k)) ((hro _ (by omega)).1) ?_
            refine XX.callV (Mk := m_M_byKeys) (n := 2) (As := [.int (nI (ro (k - 1))), .int (nI (ro k))]) (rest := []) (q0 := 0) (ci := 9) (c_M_byKeys (x := xx) (f := fup F 5 gq) hh.t hh.g.bb hh.x6 hh.k hh.x3 (hd := true) hh.x10 hh.hd (la := ro (k - 1)) (lb := ro k) (hro _ (by omega)).2 (hro _ (by omega)).2) mt_M_byKeys mi_M_byKeys ml_M_185 rfl dd_M_sort_144 (rfl) rfl rfl ⟨xn_le rfl, xn_le rfl⟩ ⟨xn_le rfl, xn_le rfl⟩ (xn_le rfl) rfl (fun r1 w1 hp1 => ?_)
            obtain ⟨rfl, x3, rfl, hq3⟩ := hp1
            have hh3 : MH s x3 (fup F 5 gq) := hh.mv (fun i hi => hq3 i (by omega) (by omega)) rfl rfl rfl rfl rfl hh.tk
            have h113 : x3 11 = _ := (hq3 11 (by omega) (by omega)).trans h11
            have h163 : x3 16 = _ := (hq3 16 (by omega) (by omega)).trans h16
            refine (?_ : XX G m_M_sort (xr 10 0 0) (xx_F G (MQI G q kl (sel (t_sort s) (q_sort s) s) (t_sort s) (nI (q_sort s).rc)) (xr 10 0 0)) 0 0 (wM G q x3 (fup F 5 gq) kl) 147 [(0, .ref (q 0)), (1, .int (nI k))] [.int (oI (sk_o s (ro (k - 1)) (ro k)))])
            refine XX.if_ne (tgt := 163) dd_M_sort_147 (by decide) (fun h147 => ?_) (fun h147 => ?_)
            ·
              refine XX.aload_n dd_M_sort_163 rfl 0 rfl ?_
              refine XX.get (q0 := 0) (v := .ref (q 6)) fl_M_36 dd_M_sort_164 rfl rfl ?_
              refine XX.aload_n dd_M_sort_167 rfl 0 rfl ?_
              refine XX.get (q0 := 0) (v := .int (x3 11)) fl_M_67 dd_M_sort_168 rfl rfl ?_
              refine XX.tp (y := nI ((of_ (s_c s) ro k).1)) (h113) ?_
              refine XX.aload_n dd_M_sort_171 rfl 0 rfl ?_
              refine XX.get (q0 := 0) (v := .ref (q 7)) fl_M_39 dd_M_sort_172 rfl rfl ?_
              refine XX.iload_n dd_M_sort_175 rfl 1 rfl ?_
              refine XX.iald (q0 := 7) (n := 1000) (j := k) (f := (fup F 5 gq) 6) dd_M_sort_176 rfl (by omega) (by decide) ?_
              refine XX.tp (y := nI (ro k)) ((hro _ (by omega)).1) ?_
              refine XX.iast (q0 := 6) (n := 1000) (j := (of_ (s_c s) ro k).1) (f := gq) (ws2 := wM G q x3 (fup (fup F 5 gq) 5 (upd gq ((of_ (s_c s) ro k).1) (nI (ro k)))) kl) dd_M_sort_177 rfl (by omega) (by decide) rfl ?_
              refine XX.aload_n dd_M_sort_178 rfl 0 rfl ?_
              refine XX.dup dd_M_sort_179 rfl ?_
              refine XX.get (q0 := 0) (v := .int (x3 11)) fl_M_67 dd_M_sort_180 rfl rfl ?_
              refine XX.tp (y := nI ((of_ (s_c s) ro k).1)) (h113) ?_
              refine XX.iconst (v := nI 1) dd_M_sort_183 (by decide) ?_
              refine XX.iadd dd_M_sort_184 ?_
              refine XX.tp (y := nI ((of_ (s_c s) ro k).1 + 1)) (nI_add _ _) ?_
              refine XX.put (q0 := 0) (ws2 := wM G q (upd x3 11 (nI ((of_ (s_c s) ro k).1 + 1))) (fup (fup F 5 gq) 5 (upd gq ((of_ (s_c s) ro k).1) (nI (ro k)))) kl) fp_M_67 dd_M_sort_185 rfl rfl rfl (xn_le rfl) rfl ?_
              refine XX.iinc (z := 1) (v := nI (k + 1)) (lv2 := [(1, .int (nI (k + 1))), (0, .ref (q 0))]) dd_M_sort_188 rfl ((nI_succ _).symm) (by decide) rfl ?_
              refine XX.goto (tgt := 110) dd_M_sort_191 (by decide) ?_
              have eo : of_ (s_c s) ro (k + 1) = ((of_ (s_c s) ro k).1 + 1, updN (of_ (s_c s) ro k).2 (of_ (s_c s) ro k).1 (ro k)) := of_f (fun hz => by simp [s_c, h147])
              refine XX.cg (ws2 := wM G q (upd x3 11 (nI ((of_ (s_c s) ro k).1 + 1))) (fup F 5 (upd gq ((of_ (s_c s) ro k).1) (nI (ro k)))) kl) (by rw [fup_fup]) rfl rfl ?_
              refine XX.lvs [1, 0] rfl ?_
              exact ih _ (by omega) (k + 1) _ _ rfl (by omega) (hh3.mv (f2 := fup F 5 (upd gq ((of_ (s_c s) ro k).1) (nI (ro k)))) (fun i hi => by simp only [upd]; split <;> first | (exfalso; omega) | rfl) rfl rfl rfl rfl rfl hh.tk) (by rw [eo]; rfl) ((hq3 13 (by omega) (by omega)).trans h13) ((hq3 14 (by omega) (by omega)).trans h14) ((hq3 15 (by omega) (by omega)).trans h15) (by rw [eo, show k + 1 - ((of_ (s_c s) ro k).1 + 1) = k - (of_ (s_c s) ro k).1 by omega]; exact (hq3 16 (by omega) (by omega)).trans h16) (by
                rw [eo]
                intro i hi
                have hi2 : i < (of_ (s_c s) ro k).1 + 1 := hi
                show _ = nI (updN _ _ _ i)
                by_cases e : i = (of_ (s_c s) ro k).1
                · rw [e, pk_us, updN_s]
                · rw [pk_un e, updN_n e]; exact hgq i (by omega))
            ·
              refine XX.aload_n dd_M_sort_150 rfl 0 rfl ?_
              refine XX.dup dd_M_sort_151 rfl ?_
              refine XX.get (q0 := 0) (v := .int (x3 16)) fl_M_221 dd_M_sort_152 rfl rfl ?_
              refine XX.tp (y := nI (k - (of_ (s_c s) ro k).1)) (h163) ?_
              refine XX.iconst (v := nI 1) dd_M_sort_155 (by decide) ?_
              refine XX.iadd dd_M_sort_156 ?_
              refine XX.tp (y := nI (k - (of_ (s_c s) ro k).1 + 1)) (nI_add _ _) ?_
              refine XX.put (q0 := 0) (ws2 := wM G q (upd x3 16 (nI (k - (of_ (s_c s) ro k).1 + 1))) (fup F 5 gq) kl) fp_M_221 dd_M_sort_157 rfl rfl rfl (xn_le rfl) rfl ?_
              refine XX.goto (tgt := 188) dd_M_sort_160 (by decide) ?_
              refine XX.iinc (z := 1) (v := nI (k + 1)) (lv2 := [(1, .int (nI (k + 1))), (0, .ref (q 0))]) dd_M_sort_188 rfl ((nI_succ _).symm) (by decide) rfl ?_
              refine XX.goto (tgt := 110) dd_M_sort_191 (by decide) ?_
              have eo : of_ (s_c s) ro (k + 1) = of_ (s_c s) ro k := of_t (by omega) (by simp [s_c, h122, h147])
              refine XX.lvs [1, 0] rfl ?_
              exact ih _ (by omega) (k + 1) _ gq rfl (by omega) (hh3.mv (fun i hi => by simp only [upd]; split <;> first | (exfalso; omega) | rfl) rfl rfl rfl rfl rfl hh.tk) (by rw [eo]; exact (hq3 11 (by omega) (by omega)).trans h11) ((hq3 13 (by omega) (by omega)).trans h13) ((hq3 14 (by omega) (by omega)).trans h14) ((hq3 15 (by omega) (by omega)).trans h15) (by rw [eo, show k + 1 - (of_ (s_c s) ro k).1 = k - (of_ (s_c s) ro k).1 + 1 by omega]; rfl) (by rw [eo]; exact hgq)
  have l83 : lnc s.B s.len ≤ 1000 → t_sort s = 0 → ∀ (F : Nat → Nat → Int32) (sz0 : Nat → Nat) (rn0 : Nat), rn0 ≤ lnc s.B s.len → (∀ i, i < rn0 → F 9 i = nI (sz0 i)) → (∀ S : MS, S = s_M s → q_sort s = qs_mk s S.1 rn0 sz0 S.2.2.2.1 S.2.2.2.2) → ∀ (kk rn mg mv : Nat) (ro sz : Nat → Nat) (xx gr gs go gt : Nat → Int32), rn ≤ kk + 1 → rn ≤ lnc s.B s.len → ms_run (sa_o s) (lnc s.B s.len) s.wy kk (ro, sz, rn, mg, mv) = s_M s → MH s xx (f4 F gr gs go gt) → xx 12 = nI rn → xx 13 = nI rn0 → xx 14 = nI mg → xx 15 = nI mv → (∀ i, i < lnc s.B s.len → gr i = nI (ro i) ∧ ro i < lnc s.B s.len) → (∀ i, i < rn → gs i = nI (sz i)) → pf sz rn = lnc s.B s.len → XX G m_M_sort (xr 10 0 0) (xx_F G (MQI G q kl (sel (t_sort s) (q_sort s) s) (t_sort s) (nI (q_sort s).rc)) (xr 10 0 0)) 0 0 (wM G q xx (f4 F gr gs go gt) kl) 83 [(0, .ref (q 0))] [] := by
    intro hln1 ht F sz0 rn0 hrn0 hsz0 hqs kk
    induction kk with
    | zero =>
      intro rn mg mv ro sz xx gr gs go gt hkk hrn hM hh h12 h13 h14 h15 hro hsz hsum
      refine XX.aload_n dd_M_sort_83 rfl 0 rfl ?_
      refine XX.get (q0 := 0) (v := .int (xx 12)) fl_M_194 dd_M_sort_84 rfl rfl ?_
      refine XX.tp (y := nI rn) (h12) ?_
      refine XX.iconst (v := nI 1) dd_M_sort_87 (by decide) ?_
      refine XX.ncmp_le (tgt := 98) dd_M_sort_88 (by decide) (by omega) (by omega) (fun h88 => ?_) (fun h88 => ?_)
      ·
        refine XX.aload_n dd_M_sort_98 rfl 0 rfl ?_
        refine XX.iconst (v := nI 0) dd_M_sort_99 (by decide) ?_
        refine XX.put (q0 := 0) (ws2 := wM G q (upd xx 11 (nI 0)) (f4 F gr gs go gt) kl) fp_M_67 dd_M_sort_100 rfl rfl rfl (xn_le rfl) rfl ?_
        refine XX.aload_n dd_M_sort_103 rfl 0 rfl ?_
        refine XX.iconst (v := nI 0) dd_M_sort_104 (by decide) ?_
        refine XX.put (q0 := 0) (ws2 := wM G q (upd (upd xx 11 (nI 0)) 16 (nI 0)) (f4 F gr gs go gt) kl) fp_M_221 dd_M_sort_105 rfl rfl rfl (xn_le rfl) rfl ?_
        refine XX.iconst (v := nI 0) dd_M_sort_108 (by decide) ?_
        refine XX.istore_n (lv2 := [(1, .int (nI 0)), (0, .ref (q 0))]) dd_M_sort_109 rfl (by decide) rfl ?_
        refine XX.cg (ws2 := wM G q (upd (upd xx 11 (nI 0)) 16 (nI 0)) (fup (f4 F gr gs go gt) 5 (f4 F gr gs go gt 5)) kl) (by rw [fup_self]) rfl rfl ?_
        refine XX.lvs [1, 0] rfl ?_
        exact l110 hln1 ht (f4 F gr gs go gt) ro sz0 rn0 mg mv (hqs (ro, sz, rn, mg, mv) (by rw [← hM, ms_run0 (by show rn ≤ 1; omega)])) hrn0 hro hsz0 _ 0 _ _ rfl (by omega) (hh.mv (fun i hi => by simp only [upd]; split <;> first | (exfalso; omega) | (split <;> first | (exfalso; omega) | rfl)) rfl rfl rfl rfl rfl hh.tk) rfl h13 h14 h15 rfl (fun i hi => absurd hi (Nat.not_lt_zero _))
      ·
        exfalso; omega
    | succ kk ih =>
      intro rn mg mv ro sz xx gr gs go gt hkk hrn hM hh h12 h13 h14 h15 hro hsz hsum
      refine XX.aload_n dd_M_sort_83 rfl 0 rfl ?_
      refine XX.get (q0 := 0) (v := .int (xx 12)) fl_M_194 dd_M_sort_84 rfl rfl ?_
      refine XX.tp (y := nI rn) (h12) ?_
      refine XX.iconst (v := nI 1) dd_M_sort_87 (by decide) ?_
      refine XX.ncmp_le (tgt := 98) dd_M_sort_88 (by decide) (by omega) (by omega) (fun h88 => ?_) (fun h88 => ?_)
      ·
        refine XX.aload_n dd_M_sort_98 rfl 0 rfl ?_
        refine XX.iconst (v := nI 0) dd_M_sort_99 (by decide) ?_
        refine XX.put (q0 := 0) (ws2 := wM G q (upd xx 11 (nI 0)) (f4 F gr gs go gt) kl) fp_M_67 dd_M_sort_100 rfl rfl rfl (xn_le rfl) rfl ?_
        refine XX.aload_n dd_M_sort_103 rfl 0 rfl ?_
        refine XX.iconst (v := nI 0) dd_M_sort_104 (by decide) ?_
        refine XX.put (q0 := 0) (ws2 := wM G q (upd (upd xx 11 (nI 0)) 16 (nI 0)) (f4 F gr gs go gt) kl) fp_M_221 dd_M_sort_105 rfl rfl rfl (xn_le rfl) rfl ?_
        refine XX.iconst (v := nI 0) dd_M_sort_108 (by decide) ?_
        refine XX.istore_n (lv2 := [(1, .int (nI 0)), (0, .ref (q 0))]) dd_M_sort_109 rfl (by decide) rfl ?_
        refine XX.cg (ws2 := wM G q (upd (upd xx 11 (nI 0)) 16 (nI 0)) (fup (f4 F gr gs go gt) 5 (f4 F gr gs go gt 5)) kl) (by rw [fup_self]) rfl rfl ?_
        refine XX.lvs [1, 0] rfl ?_
        exact l110 hln1 ht (f4 F gr gs go gt) ro sz0 rn0 mg mv (hqs (ro, sz, rn, mg, mv) (by rw [← hM, ms_run0 (by show rn ≤ 1; omega)])) hrn0 hro hsz0 _ 0 _ _ rfl (by omega) (hh.mv (fun i hi => by simp only [upd]; split <;> first | (exfalso; omega) | (split <;> first | (exfalso; omega) | rfl)) rfl rfl rfl rfl rfl hh.tk) rfl h13 h14 h15 rfl (fun i hi => absurd hi (Nat.not_lt_zero _))
      ·
        refine XX.aload_n dd_M_sort_91 rfl 0 rfl ?_
        refine XX.callV (Mk := m_M_mergeFirst) (n := 0) (As := []) (rest := []) (q0 := 0) (ci := 9) (c_M_mergeFirst (x := xx) (f := f4 F gr gs go gt) hh.t hh.g.bb hh.x6 hh.k hh.x3 hh.x4 hh.x5 (hd := true) hh.x10 hh.hd hh.x1 hln1 hh.x9 hh.g.w1 hh.g.w2 h12 hrn (by omega) h14 h15 hro hsz hsum hh.tk) mt_M_mergeFirst mi_M_mergeFirst ml_M_218 rfl dd_M_sort_92 (rfl) rfl rfl ⟨xn_le rfl, xn_le rfl⟩ ⟨xn_le rfl, xn_le rfl⟩ (xn_le rfl) rfl (fun r1 w1 hp1 => ?_)
        obtain ⟨rfl, x3, gr2, gs2, go2, gt2, rfl, p1, p2, p3, p4, p5, p6, p7⟩ := hp1
        refine XX.cg (ws2 := wM G q x3 (f4 F gr2 gs2 go2 gt2) kl) (by rw [f4_f4]) rfl rfl ?_
        refine XX.goto (tgt := 83) dd_M_sort_95 (by decide) ?_
        have hmn : 2 ≤ mm_n s.wy rn := by have := hh.g.w1; unfold mm_n; split <;> omega
        have hmn2 : mm_n s.wy rn ≤ rn := by unfold mm_n; split <;> omega
        exact ih _ _ _ _ _ _ gr2 gs2 go2 gt2 (by omega) (by omega) (by rw [← hM, ms_run, if_neg (by show ¬ rn ≤ 1; omega)]; rfl) (hh.mv (fun i hi => p1 i (by omega) (by omega) (by omega) (by omega) (by omega)) rfl rfl rfl rfl rfl p7) p2 ((p1 13 (by omega) (by omega) (by omega) (by omega) (by omega)).trans h13) p3 p4 (fun i hi => ⟨p5 i hi, mm_ro_lt (fun i hi => (hro i hi).2) hsum i hi⟩) p6 (by rw [mm_sum, hsum])
  have l47 : lnc s.B s.len ≤ 1000 → t_sort s = 0 → ∀ (F : Nat → Nat → Int32) (x4 : Nat → Int32) (ro sz : Nat → Nat) (rn : Nat), rn ≤ lnc s.B s.len → MH s x4 F → x4 12 = nI rn → (∀ i, i < lnc s.B s.len → F 6 i = nI (ro i) ∧ ro i < lnc s.B s.len) → (∀ i, i < rn → F 7 i = nI (sz i)) → pf sz rn = lnc s.B s.len → (∀ S : MS, S = s_M s → q_sort s = qs_mk s S.1 rn sz S.2.2.2.1 S.2.2.2.2) → ms_run (sa_o s) (lnc s.B s.len) s.wy (lnc s.B s.len) (ro, sz, rn, 0, 0) = s_M s → ∀ (kk i : Nat) (gm : Nat → Int32), rn - i = kk → i ≤ rn → (∀ k, k < i → gm k = nI (sz k)) → XX G m_M_sort (xr 10 0 0) (xx_F G (MQI G q kl (sel (t_sort s) (q_sort s) s) (t_sort s) (nI (q_sort s).rc)) (xr 10 0 0)) 0 0 (wM G q (upd x4 13 (nI rn)) (fup F 9 gm) kl) 47 [(0, .ref (q 0)), (1, .int (nI i))] [] := by
    intro hln1 ht F x4 ro sz rn hrn hh h12 hro hsz hsum hqs hM kk
    induction kk using Nat.strongRecOn with
    | _ kk ih =>
      intro i gm hkk hi hgm
      refine XX.iload_n dd_M_sort_47 rfl 1 rfl ?_
      refine XX.aload_n dd_M_sort_48 rfl 0 rfl ?_
      refine XX.get (q0 := 0) (v := .int ((upd x4 13 (nI rn)) 12)) fl_M_194 dd_M_sort_49 rfl rfl ?_
      refine XX.tp (y := nI rn) (h12) ?_
      refine XX.ncmp_ge (tgt := 73) dd_M_sort_52 (by decide) (by omega) (by omega) (fun h52 => ?_) (fun h52 => ?_)
      ·
        refine XX.aload_n dd_M_sort_73 rfl 0 rfl ?_
        refine XX.iconst (v := nI 0) dd_M_sort_74 (by decide) ?_
        refine XX.put (q0 := 0) (ws2 := wM G q (upd (upd x4 13 (nI rn)) 14 (nI 0)) (fup F 9 gm) kl) fp_M_203 dd_M_sort_75 rfl rfl rfl (xn_le rfl) rfl ?_
        refine XX.aload_n dd_M_sort_78 rfl 0 rfl ?_
        refine XX.iconst (v := nI 0) dd_M_sort_79 (by decide) ?_
        refine XX.put (q0 := 0) (ws2 := wM G q (upd (upd (upd x4 13 (nI rn)) 14 (nI 0)) 15 (nI 0)) (fup F 9 gm) kl) fp_M_206 dd_M_sort_80 rfl rfl rfl (xn_le rfl) rfl ?_
        refine XX.cg (ws2 := wM G q (upd (upd (upd x4 13 (nI rn)) 14 (nI 0)) 15 (nI 0)) (f4 (fup F 9 gm) (F 6) (F 7) (F 8) (F 11)) kl) (by rw [show f4 (fup F 9 gm) (F 6) (F 7) (F 8) (F 11) = fup F 9 gm from f4_self (fup F 9 gm)]) rfl rfl ?_
        refine XX.lvs [0] rfl ?_
        exact l83 hln1 ht (fup F 9 gm) sz rn hrn (fun k hk3 => hgm k (by omega)) hqs _ rn 0 0 ro sz _ _ _ _ _ (by omega) hrn hM (hh.mv (fun z hz => by simp only [upd]; rw [if_neg (by omega), if_neg (by omega), if_neg (by omega)]) rfl rfl rfl rfl rfl hh.tk) h12 rfl rfl rfl hro hsz hsum
      ·
        refine XX.aload_n dd_M_sort_55 rfl 0 rfl ?_
        refine XX.get (q0 := 0) (v := .ref (q 10)) fl_M_48 dd_M_sort_56 rfl rfl ?_
        refine XX.iload_n dd_M_sort_59 rfl 1 rfl ?_
        refine XX.aload_n dd_M_sort_60 rfl 0 rfl ?_
        refine XX.get (q0 := 0) (v := .ref (q 8)) fl_M_42 dd_M_sort_61 rfl rfl ?_
        refine XX.iload_n dd_M_sort_64 rfl 1 rfl ?_
        refine XX.iald (q0 := 8) (n := 1000) (j := i) (f := (fup F 9 gm) 7) dd_M_sort_65 rfl (by omega) (by decide) ?_
        refine XX.tp (y := nI (sz i)) (hsz i (by omega)) ?_
        refine XX.iast (q0 := 10) (n := 1000) (j := i) (f := gm) (ws2 := wM G q (upd x4 13 (nI rn)) (fup (fup F 9 gm) 9 (upd gm i (nI (sz i)))) kl) dd_M_sort_66 rfl (by omega) (by decide) rfl ?_
        refine XX.iinc (z := 1) (v := nI (i + 1)) (lv2 := [(1, .int (nI (i + 1))), (0, .ref (q 0))]) dd_M_sort_67 rfl ((nI_succ _).symm) (by decide) rfl ?_
        refine XX.goto (tgt := 47) dd_M_sort_70 (by decide) ?_
        refine XX.cg (ws2 := wM G q (upd x4 13 (nI rn)) (fup F 9 (upd gm i (nI (sz i)))) kl) (by rw [fup_fup]) rfl rfl ?_
        refine XX.lvs [1, 0] rfl ?_
        exact ih _ (by omega) (i + 1) _ rfl (by omega) (fun k hk3 => by
          by_cases e : k = i
          · rw [e, pk_us]
          · rw [pk_un e]; exact hgm k (by omega))
  refine XX.aload_n dd_M_sort_0 rfl 0 rfl ?_
  have hmf : MI s x f := hm
  obtain ⟨sp, hsp1, hsp3, hsp2⟩ := hmf.sp
  refine XX.callV (Mk := m_M_findLines) (n := 0) (As := []) (rest := []) (q0 := 0) (ci := 9) (c_M_findLines (x := x) (f := f) (B := s.B) (sp := sp) hmf.x0 hmf.g.len hmf.b hsp1 hsp2) mt_M_findLines mi_M_findLines ml_M_191 rfl dd_M_sort_1 (rfl) rfl rfl ⟨xn_le rfl, xn_le rfl⟩ ⟨xn_le rfl, xn_le rfl⟩ (xn_le rfl) rfl (fun r1 w1 hp1 => ?_)
  obtain ⟨rfl, x2, g, rfl, fa1, fa2, fa3, fa4⟩ := hp1
  have hl : ML s x2 (fup f 1 g) := ML.of hmf fa1 fa2 fa3 fa4
  refine (?_ : XX G m_M_sort (xr 10 0 0) (xx_F G (MQI G q kl (sel (t_sort s) (q_sort s) s) (t_sort s) (nI (q_sort s).rc)) (xr 10 0 0)) 0 0 (wM G q x2 (fup f 1 g) kl) 4 [(0, .ref (q 0))] [])
  refine XX.aload_n dd_M_sort_4 rfl 0 rfl ?_
  have j20 : XX G m_M_sort (xr 10 0 0) (xx_F G (MQI G q kl (sel (t_sort s) (q_sort s) s) (t_sort s) (nI (q_sort s).rc)) (xr 10 0 0)) 0 0 (wM G q x2 (fup f 1 g) kl) 20 [(0, .ref (q 0))] [.int (bI (decide (1000 < lnc s.B s.len))), .ref (q 0)] := by
    refine XX.iconst (v := nI 1) dd_M_sort_20 (by decide) ?_
    refine XX.callVx (Mk := m_M_fails) (n := 2) (As := [.int (bI (decide (1000 < lnc s.B s.len))), .int (nI 1)]) (rest := []) (q0 := 0) (ci := 9) (c_M_fails (so := decide (1000 < lnc s.B s.len)) (kd := nI 1)) mt_M_fails mi_M_fails ml_M_70 rfl dd_M_sort_21 (rfl) rfl rfl ⟨xn_le rfl, xn_le rfl⟩ ⟨xn_le rfl, xn_le rfl⟩ (xn_le rfl) rfl ?_
    refine XX.bif_eq (tgt := 29) dd_M_sort_24 (by decide) (fun h24 => ?_) (fun h24 => ?_)
    ·
      refine XX.aload_n dd_M_sort_29 rfl 0 rfl ?_
      have hln1 : lnc s.B s.len ≤ 1000 := by have := of_decide_eq_false h24; omega
      have ht : t_sort s = 0 := by simp only [t_sort, tb, h24]; rfl
      have hl2 := hl.t19 (if (decide (1000 < lnc s.B s.len)) = true then nI 1 else nI 0)
      refine XX.callV (Mk := m_M_hold) (n := 0) (As := []) (rest := []) (q0 := 0) (ci := 9) (c_M_hold (f := fup f 1 g) hl2.mtx hl2.i.x6 hl2.i.k hl2.i.x3 hl2.x1 hln1) mt_M_hold mi_M_hold ml_M_209 rfl dd_M_sort_30 (rfl) rfl rfl ⟨xn_le rfl, xn_le rfl⟩ ⟨xn_le rfl, xn_le rfl⟩ (xn_le rfl) rfl (fun r1 w1 hp1 => ?_)
      obtain ⟨rfl, x3, g3, g4, rfl, a1, a2, a3⟩ := hp1
      have hh : MH s x3 (fup (fup (fup f 1 g) 3 g3) 4 g4) := MH.of hl2 (by rw [h24]; rfl) hln1 a1 a2 a3
      generalize fup (fup (fup f 1 g) 3 g3) 4 g4 = F at hh
      refine (?_ : XX G m_M_sort (xr 10 0 0) (xx_F G (MQI G q kl (sel (t_sort s) (q_sort s) s) (t_sort s) (nI (q_sort s).rc)) (xr 10 0 0)) 0 0 (wM G q x3 F kl) 33 [(0, .ref (q 0))] [])
      refine XX.aload_n dd_M_sort_33 rfl 0 rfl ?_
      refine XX.callV (Mk := m_M_makeRuns) (n := 0) (As := []) (rest := []) (q0 := 0) (ci := 9) (c_M_makeRuns (f := F) hh.t hh.g.bb hh.x6 hh.k hh.x3 hh.x4 hh.x5 (hd := true) hh.x10 hh.hd hh.x1 hln1 hh.x8 hh.g.m1 hh.g.m2) mt_M_makeRuns mi_M_makeRuns ml_M_212 rfl dd_M_sort_34 (rfl) rfl rfl ⟨xn_le rfl, xn_le rfl⟩ ⟨xn_le rfl, xn_le rfl⟩ (xn_le rfl) rfl (fun r1 w1 hp1 => ?_)
      obtain ⟨rfl, x4, ga, gr, gs, im, ro, sz, lt, rn, hR, rfl, hag, h12, hrn, hro, hsz⟩ := hp1
      have hR2 : s_R s = (im, 0, lnc s.B s.len, lt, lnc s.B s.len, ro, sz, rn) := hR
      have hsum : pf sz rn = lnc s.B s.len := by
        have z := rs_sum (o := sa_o s) (ln := lnc s.B s.len) (2 * (lnc s.B s.len) + 1) (rs_0 (lnc s.B s.len) s.mem) (Or.inl rfl) rfl
        have z2 : pf (s_R s).2.2.2.2.2.2.1 (s_R s).2.2.2.2.2.2.2 = (s_R s).2.2.2.2.1 := z
        rw [hR2] at z2; exact z2
      have hh4 : MH s x4 (f3 F ga gr gs) := hh.mv (fun i hi => hag i (by omega) (by omega) (by omega)) rfl rfl rfl rfl rfl hh.tk
      have hqs : ∀ S : MS, S = s_M s → q_sort s = qs_mk s S.1 rn sz S.2.2.2.1 S.2.2.2.2 := fun S hS => by rw [hS, q_sort, hR2]
      have hM : ms_run (sa_o s) (lnc s.B s.len) s.wy (lnc s.B s.len) (ro, sz, rn, 0, 0) = s_M s := by unfold s_M; rw [hR2]
      refine (?_ : XX G m_M_sort (xr 10 0 0) (xx_F G (MQI G q kl (sel (t_sort s) (q_sort s) s) (t_sort s) (nI (q_sort s).rc)) (xr 10 0 0)) 0 0 (wM G q x4 (f3 F ga gr gs) kl) 37 [(0, .ref (q 0))] [])
      refine XX.aload_n dd_M_sort_37 rfl 0 rfl ?_
      refine XX.aload_n dd_M_sort_38 rfl 0 rfl ?_
      refine XX.get (q0 := 0) (v := .int (x4 12)) fl_M_194 dd_M_sort_39 rfl rfl ?_
      refine XX.tp (y := nI rn) (h12) ?_
      refine XX.put (q0 := 0) (ws2 := wM G q (upd x4 13 (nI rn)) (f3 F ga gr gs) kl) fp_M_215 dd_M_sort_42 rfl rfl rfl (xn_le rfl) rfl ?_
      refine XX.iconst (v := nI 0) dd_M_sort_45 (by decide) ?_
      refine XX.istore_n (lv2 := [(1, .int (nI 0)), (0, .ref (q 0))]) dd_M_sort_46 rfl (by decide) rfl ?_
      refine XX.cg (ws2 := wM G q (upd x4 13 (nI rn)) (fup (f3 F ga gr gs) 9 (f3 F ga gr gs 9)) kl) (by rw [fup_self]) rfl rfl ?_
      refine XX.lvs [1, 0] rfl ?_
      exact l47 hln1 ht (f3 F ga gr gs) x4 ro sz rn hrn hh4 h12 hro hsz hsum hqs hM _ 0 _ rfl (by omega) (fun k hk3 => absurd hk3 (by omega))
    ·
      refine XX.iconst (v := nI 0) dd_M_sort_27 (by decide) ?_
      exact XX.iret dd_M_sort_28 rfl ⟨xn_le rfl, xn_le rfl⟩ (MQI.no (by simp only [t_sort, tb, h24]; decide) (by simp only [t_sort, tb, h24]; rfl) (hl.i.t19 _))
  refine XX.aload_n dd_M_sort_5 rfl 0 rfl ?_
  refine XX.get (q0 := 0) (v := .int (x2 1)) fl_M_78 dd_M_sort_6 rfl rfl ?_
  refine XX.tp (y := nI (lnc s.B s.len)) (hl.x1) ?_
  refine XX.sipush (v := nI 1000) dd_M_sort_9 (by decide) ?_
  refine XX.ncmp_le (tgt := 19) dd_M_sort_12 (by decide) (by omega) (by omega) (fun h12 => ?_) (fun h12 => ?_)
  ·
    refine XX.iconst (v := nI 0) dd_M_sort_19 (by decide) ?_
    exact XX.tp (by exact (bI_f (by simp; omega)).symm) j20
  ·
    refine XX.iconst (v := nI 1) dd_M_sort_15 (by decide) ?_
    refine XX.goto (tgt := 20) dd_M_sort_16 (by decide) ?_
    exact XX.tp (by exact (bI_t (by simp; omega)).symm) j20

