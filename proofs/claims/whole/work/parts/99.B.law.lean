set_option maxRecDepth 100000 in
set_option maxHeartbeats 4000000 in
theorem law_feed {G : XG} {b L a1 o C S k : Nat} {xs : Nat → Int32} {qm : Nat → Nat} (htr : ∀ e : Env, G.2.2.2.admits e → e.platform.stackTraces = false) (hL : L ≤ 3072) (hk : 6 * k + 6 ≤ L) (hCb : C + 11 ≤ 601024) (hSb : S + 326 + 320000 ≤ 7293034) (h990 : LST G (LF G b L xs) b a1 o qm (C + 11) (S + 6) 990 k) : LST G (LF G b L xs) b a1 o qm C S 124 k := by
  intro q x n f kf ks bc br ka xm fm gg s cells slots ha hc hm hcl hsl
  subst ha
  have hbl := brk_bc hc.b
  have hnn := hc.nn
  refine (?_ : XX G m_L_law room_1 (LF G b L xs) cells slots (wM G qm xm fm (wC G q x n f kf (ks ++ [LO G o gg]))) 124 [(0, .ref b), (1, .ref (q 0)), (2, .ref (qm 0)), (3, .ref o), (4, .int (nI (6 * k)))] [])
  refine XX.aload_n dd_L_law_124 rfl 1 rfl ?_
  refine XX.aload_n dd_L_law_125 rfl 0 rfl ?_
  refine XX.iload dd_L_law_126 4 rfl ?_
  refine XX.iconst (v := nI 1) dd_L_law_128 (by decide) ?_
  refine XX.iadd dd_L_law_129 ?_
  refine XX.tp (y := nI (6 * k + 1)) (nI_add _ _) ?_
  refine XX.sld (j := 6 * k + 1) dd_L_law_130 (by omega) (by omega) ?_
  refine XX.aload_n dd_L_law_131 rfl 0 rfl ?_
  refine XX.iload dd_L_law_132 4 rfl ?_
  refine XX.iconst (v := nI 2) dd_L_law_134 (by decide) ?_
  refine XX.iadd dd_L_law_135 ?_
  refine XX.tp (y := nI (6 * k + 2)) (nI_add _ _) ?_
  refine XX.sld (j := 6 * k + 2) dd_L_law_136 (by omega) (by omega) ?_
  refine XX.aload_n dd_L_law_137 rfl 0 rfl ?_
  refine XX.iload dd_L_law_138 4 rfl ?_
  refine XX.iconst (v := nI 3) dd_L_law_140 (by decide) ?_
  refine XX.iadd dd_L_law_141 ?_
  refine XX.tp (y := nI (6 * k + 3)) (nI_add _ _) ?_
  refine XX.sld (j := 6 * k + 3) dd_L_law_142 (by omega) (by omega) ?_
  refine XX.aload_n dd_L_law_143 rfl 0 rfl ?_
  refine XX.iload dd_L_law_144 4 rfl ?_
  refine XX.iconst (v := nI 4) dd_L_law_146 (by decide) ?_
  refine XX.iadd dd_L_law_147 ?_
  refine XX.tp (y := nI (6 * k + 4)) (nI_add _ _) ?_
  refine XX.sld (j := 6 * k + 4) dd_L_law_148 (by omega) (by omega) ?_
  refine XX.aload_n dd_L_law_149 rfl 0 rfl ?_
  refine XX.iload dd_L_law_150 4 rfl ?_
  refine XX.iconst (v := nI 5) dd_L_law_152 (by decide) ?_
  refine XX.iadd dd_L_law_153 ?_
  refine XX.tp (y := nI (6 * k + 5)) (nI_add _ _) ?_
  refine XX.sld (j := 6 * k + 5) dd_L_law_154 (by omega) (by omega) ?_
  refine XX.aload_n dd_L_law_155 rfl 3 rfl ?_
  refine XX.perm (ws2 := wC G q x n f kf (ks ++ LO G o gg :: wM G qm xm fm [])) lw_pm ?_
  have hfg := fgr_le (s := s) (bc := bc) (n := n) (a := xs (6 * k + 1)) (b := xs (6 * k + 2)) (c := xs (6 * k + 3)) (d := xs (6 * k + 4)) (e := xs (6 * k + 5)) hbl hc.nn.2.1 hc.nn.2.2.2
  refine XX.callSW (Mk := m_L_feed) (hh := [(0, 16, 19, 13)]) (n := 7) (As := [.ref (q 0), .int (xs (6 * k + 1)), .int (xs (6 * k + 2)), .int (xs (6 * k + 3)), .int (xs (6 * k + 4)), .int (xs (6 * k + 5)), .ref o]) (rest := []) (c_L_feed (T := wM G qm xm fm []) hc htr (a := xs (6 * k + 1)) (b := xs (6 * k + 2)) (c := xs (6 * k + 3)) (d := xs (6 * k + 4)) (e := xs (6 * k + 5))) mz_L_feed ms_L_feed ml_L_62 rfl dd_L_law_156 ⟨xn_le rfl, xn_le rfl⟩ ⟨by show cells + 11 ≤ 601024; omega, by show slots + (6 + fgr (t_feed s) s.len bc n (xs (6 * k + 1)) (xs (6 * k + 2)) (xs (6 * k + 3)) (xs (6 * k + 4)) (xs (6 * k + 5))) ≤ 7293034; omega⟩ (xn_le rfl) rfl (fun r1 w1 hp1 => ?_)
  obtain ⟨rfl, n2, g2, hn2, hg2, q2, x2, f2, kf2, ks2, bc2, br2, ka2, rfl, hq2, hc2⟩ := hp1
  refine XX.perm (ws2 := wM G qm xm fm (wC G q2 x2 n2 f2 kf2 (ks2 ++ [LO G o g2]))) lw_pm.symm ?_
  refine (?_ : XX G m_L_law room_1 (LF G b L xs) (cells + 11) (slots + (6 + fgr (t_feed s) s.len bc n (xs (6 * k + 1)) (xs (6 * k + 2)) (xs (6 * k + 3)) (xs (6 * k + 4)) (xs (6 * k + 5)))) (wM G qm xm fm (wC G q2 x2 n2 f2 kf2 (ks2 ++ [LO G o g2]))) 159 [(0, .ref b), (1, .ref (q 0)), (2, .ref (qm 0)), (3, .ref o), (4, .int (nI (6 * k)))] [.int (nI (t_feed s))])
  refine XX.istore (lv2 := [(5, .int (nI (t_feed s))), (0, .ref b), (1, .ref (q 0)), (2, .ref (qm 0)), (3, .ref o), (4, .int (nI (6 * k)))]) dd_L_law_159 (by decide) rfl ?_
  refine XX.aload_n dd_L_law_161 rfl 3 rfl ?_
  refine XX.aload_n dd_L_law_162 rfl 1 rfl ?_
  refine XX.iload dd_L_law_163 5 rfl ?_
  refine XX.iconst (v := nI 1) dd_L_law_165 (by decide) ?_
  refine XX.iadd dd_L_law_166 ?_
  refine XX.tp (y := nI (6 * k + 1)) (nI_add _ _) ?_
  refine XX.sld (j := 6 * k + 1) dd_L_law_167 (by omega) (by omega) ?_
  refine XX.aload_n dd_L_law_168 rfl 1 rfl ?_
  refine XX.iload dd_L_law_169 5 rfl ?_
  refine XX.iconst (v := nI 2) dd_L_law_171 (by decide) ?_
  refine XX.iadd dd_L_law_172 ?_
  refine XX.tp (y := nI (6 * k + 2)) (nI_add _ _) ?_
  refine XX.sld (j := 6 * k + 2) dd_L_law_173 (by omega) (by omega) ?_
  refine XX.aload_n dd_L_law_174 rfl 1 rfl ?_
  refine XX.iload dd_L_law_175 5 rfl ?_
  refine XX.iconst (v := nI 3) dd_L_law_177 (by decide) ?_
  refine XX.iadd dd_L_law_178 ?_
  refine XX.tp (y := nI (6 * k + 3)) (nI_add _ _) ?_
  refine XX.sld (j := 6 * k + 3) dd_L_law_179 (by omega) (by omega) ?_
  refine XX.aload_n dd_L_law_180 rfl 1 rfl ?_
  refine XX.iload dd_L_law_181 5 rfl ?_
  refine XX.iconst (v := nI 4) dd_L_law_183 (by decide) ?_
  refine XX.iadd dd_L_law_184 ?_
  refine XX.tp (y := nI (6 * k + 4)) (nI_add _ _) ?_
  refine XX.sld (j := 6 * k + 4) dd_L_law_185 (by omega) (by omega) ?_
  refine XX.aload_n dd_L_law_186 rfl 1 rfl ?_
  refine XX.iload dd_L_law_187 5 rfl ?_
  refine XX.iconst (v := nI 5) dd_L_law_189 (by decide) ?_
  refine XX.iadd dd_L_law_190 ?_
  refine XX.tp (y := nI (6 * k + 5)) (nI_add _ _) ?_
  refine XX.sld (j := 6 * k + 5) dd_L_law_191 (by omega) (by omega) ?_
  refine XX.callV (Mk := m_M_feed) (n := 5) (As := [.int (xs (6 * k + 1)), .int (xs (6 * k + 2)), .int (xs (6 * k + 3)), .int (xs (6 * k + 4)), .int (xs (6 * k + 5))]) (rest := []) (q0 := 0) (ci := 9) (c_M_feed hm) mt_M_feed mi_M_feed ml_L_67 rfl dd_L_law_192 rfl rfl rfl ⟨xn_le rfl, xn_le rfl⟩ ⟨by show cells + 11 + 0 ≤ 601024; omega, by show slots + (6 + fgr (t_feed s) s.len bc n (xs (6 * k + 1)) (xs (6 * k + 2)) (xs (6 * k + 3)) (xs (6 * k + 4)) (xs (6 * k + 5))) + 0 ≤ 7293034; omega⟩ (xn_le rfl) rfl (fun r2 w2 hp2 => ?_)
  obtain ⟨⟨v2, rfl, hv2⟩, xm2, fm2, rfl, h19, hm2⟩ := hp2
  refine (?_ : XX G m_L_law room_1 (LF G b L xs) (cells + 11) (slots + (6 + fgr (t_feed s) s.len bc n (xs (6 * k + 1)) (xs (6 * k + 2)) (xs (6 * k + 3)) (xs (6 * k + 4)) (xs (6 * k + 5)))) (wM G qm xm2 fm2 (wC G q2 x2 n2 f2 kf2 (ks2 ++ [LO G o g2]))) 195 [(5, .int (nI (t_feed s))), (0, .ref b), (1, .ref (q 0)), (2, .ref (qm 0)), (3, .ref o), (4, .int (nI (6 * k)))] [.int v2])
  refine XX.istore (lv2 := [(6, .int v2), (5, .int (nI (t_feed s))), (0, .ref b), (1, .ref (q 0)), (2, .ref (qm 0)), (3, .ref o), (4, .int (nI (6 * k)))]) dd_L_law_195 (by decide) rfl ?_
  refine XX.aload_n dd_L_law_197 rfl 4 rfl ?_
  refine XX.callVr (Mk := m_M_thrown) (n := 0) (As := []) (rest := []) (q0 := 0) (ci := 9) c_M_thrown mt_M_thrown mi_M_thrown ml_L_68 rfl dd_L_law_198 rfl rfl rfl ⟨xn_le rfl, xn_le rfl⟩ ⟨by show cells + 11 + 0 ≤ 601024; omega, by show slots + (6 + fgr (t_feed s) s.len bc n (xs (6 * k + 1)) (xs (6 * k + 2)) (xs (6 * k + 3)) (xs (6 * k + 4)) (xs (6 * k + 5))) + 0 ≤ 7293034; omega⟩ (xn_le rfl) rfl ?_
  refine XX.tp (y := nI (t_feed s)) (h19) ?_
  refine XX.iload dd_L_law_201 1 rfl ?_
  refine XX.icmp_eq (tgt := 208) dd_L_law_203 (by decide) (fun h203 => ?_) (fun h203 => ?_)
  ·
    refine XX.iload dd_L_law_208 1 rfl ?_
    refine XX.if_ne (tgt := 225) dd_L_law_210 (by decide) (fun h210 => ?_) (fun h210 => ?_)
    ·
      refine XX.goto (tgt := 990) dd_L_law_225 (by decide) ?_
      refine XX.lvs [2, 3, 4, 5, 6] rfl ?_
      exact h990 q2 x2 n2 f2 kf2 ks2 bc2 br2 ka2 xm2 fm2 g2 _ _ _ hq2 hc2 hm2 (by omega) (by omega)
    ·
      have ht0 : t_feed s = 0 := nI_nul h210 (by unfold t_feed tb; split <;> omega)
      refine XX.aload_n dd_L_law_213 rfl 5 rfl ?_
      refine XX.iconst (v := nI 0) dd_L_law_214 (by decide) ?_
      refine XX.perm (ws2 := LO G o g2 :: wM G qm xm2 fm2 (wC G q2 x2 n2 f2 kf2 (ks2))) lw_po ?_
      refine XX.lald (q0 := 0) (n := 1) (j := 0) (f := g2) dd_L_law_215 rfl (by decide) (by decide) ?_
      refine XX.perm (ws2 := wM G qm xm2 fm2 (wC G q2 x2 n2 f2 kf2 (ks2 ++ [LO G o g2]))) lw_po.symm ?_
      refine XX.iload dd_L_law_216 0 rfl ?_
      refine XX.i2l (v := v2.toInt64) dd_L_law_218 (rfl) ?_
      refine XX.lcmp dd_L_law_219 ?_
      refine XX.if_eq (tgt := 225) dd_L_law_220 (by decide) (fun h220 => ?_) (fun h220 => ?_)
      ·
        refine XX.goto (tgt := 990) dd_L_law_225 (by decide) ?_
        refine XX.lvs [2, 3, 4, 5, 6] rfl ?_
        exact h990 q2 x2 n2 f2 kf2 ks2 bc2 br2 ka2 xm2 fm2 g2 _ _ _ hq2 hc2 hm2 (by omega) (by omega)
      ·
        exact absurd (by rw [hg2 ht0, hv2 ht0]; exact lg_cmp_self _) h220
  ·
    exact absurd rfl h203

set_option maxRecDepth 100000 in
set_option maxHeartbeats 4000000 in
theorem law_end {G : XG} {b L a1 o C S k : Nat} {xs : Nat → Int32} {qm : Nat → Nat} (htr : ∀ e : Env, G.2.2.2.admits e → e.platform.stackTraces = false) (hL : L ≤ 3072) (hk : 6 * k + 6 ≤ L) (hCb : C + 11 ≤ 601024) (hSb : S + 326 + 320000 ≤ 7293034) (h990 : LST G (LF G b L xs) b a1 o qm (C + 11) (S + 6) 990 k) : LST G (LF G b L xs) b a1 o qm C S 228 k := by
  intro q x n f kf ks bc br ka xm fm gg s cells slots ha hc hm hcl hsl
  subst ha
  have hbl := brk_bc hc.b
  have hnn := hc.nn
  refine (?_ : XX G m_L_law room_1 (LF G b L xs) cells slots (wM G qm xm fm (wC G q x n f kf (ks ++ [LO G o gg]))) 228 [(0, .ref b), (1, .ref (q 0)), (2, .ref (qm 0)), (3, .ref o), (4, .int (nI (6 * k)))] [])
  refine XX.aload_n dd_L_law_228 rfl 1 rfl ?_
  refine XX.aload_n dd_L_law_229 rfl 0 rfl ?_
  refine XX.iload dd_L_law_230 4 rfl ?_
  refine XX.iconst (v := nI 1) dd_L_law_232 (by decide) ?_
  refine XX.iadd dd_L_law_233 ?_
  refine XX.tp (y := nI (6 * k + 1)) (nI_add _ _) ?_
  refine XX.sld (j := 6 * k + 1) dd_L_law_234 (by omega) (by omega) ?_
  refine XX.perm (ws2 := wC G q x n f kf (ks ++ LO G o gg :: wM G qm xm fm [])) lw_pm ?_
  refine XX.callSW (Mk := m_L_end) (hh := [(0, 5, 8, 19)]) (n := 2) (As := [.ref (q 0), .int (xs (6 * k + 1))]) (rest := []) (c_L_end (T := LO G o gg :: wM G qm xm fm []) hc htr (a := xs (6 * k + 1))) mz_L_end ms_L_end ml_L_71 rfl dd_L_law_235 ⟨xn_le rfl, xn_le rfl⟩ ⟨by show cells + 1 ≤ 601024; omega, by show slots + 6 ≤ 7293034; omega⟩ (xn_le rfl) rfl (fun r1 w1 hp1 => ?_)
  obtain ⟨rfl, q2, x2, f2, kf2, ks2, bc2, br2, ka2, rfl, hq2, hc2⟩ := hp1
  refine XX.perm (ws2 := wM G qm xm fm (wC G q2 x2 n f2 kf2 (ks2 ++ [LO G o gg]))) lw_pm.symm ?_
  refine (?_ : XX G m_L_law room_1 (LF G b L xs) (cells + 1) (slots + 6) (wM G qm xm fm (wC G q2 x2 n f2 kf2 (ks2 ++ [LO G o gg]))) 238 [(0, .ref b), (1, .ref (q 0)), (2, .ref (qm 0)), (3, .ref o), (4, .int (nI (6 * k)))] [.int (nI (t_end s (xs (6 * k + 1))))])
  refine XX.istore (lv2 := [(5, .int (nI (t_end s (xs (6 * k + 1))))), (0, .ref b), (1, .ref (q 0)), (2, .ref (qm 0)), (3, .ref o), (4, .int (nI (6 * k)))]) dd_L_law_238 (by decide) rfl ?_
  refine XX.aload_n dd_L_law_240 rfl 3 rfl ?_
  refine XX.aload_n dd_L_law_241 rfl 1 rfl ?_
  refine XX.iload dd_L_law_242 5 rfl ?_
  refine XX.iconst (v := nI 1) dd_L_law_244 (by decide) ?_
  refine XX.iadd dd_L_law_245 ?_
  refine XX.tp (y := nI (6 * k + 1)) (nI_add _ _) ?_
  refine XX.sld (j := 6 * k + 1) dd_L_law_246 (by omega) (by omega) ?_
  refine XX.callV (Mk := m_M_end) (n := 1) (As := [.int (xs (6 * k + 1))]) (rest := []) (q0 := 0) (ci := 9) (c_M_end hm) mt_M_end mi_M_end ml_L_74 rfl dd_L_law_247 rfl rfl rfl ⟨xn_le rfl, xn_le rfl⟩ ⟨by show cells + 1 + 0 ≤ 601024; omega, by show slots + 6 + 0 ≤ 7293034; omega⟩ (xn_le rfl) rfl (fun r2 w2 hp2 => ?_)
  obtain ⟨rfl, xm2, fm2, rfl, h19, hm2⟩ := hp2
  refine (?_ : XX G m_L_law room_1 (LF G b L xs) (cells + 1) (slots + 6) (wM G qm xm2 fm2 (wC G q2 x2 n f2 kf2 (ks2 ++ [LO G o gg]))) 250 [(5, .int (nI (t_end s (xs (6 * k + 1))))), (0, .ref b), (1, .ref (q 0)), (2, .ref (qm 0)), (3, .ref o), (4, .int (nI (6 * k)))] [])
  refine XX.aload_n dd_L_law_250 rfl 3 rfl ?_
  refine XX.callVr (Mk := m_M_thrown) (n := 0) (As := []) (rest := []) (q0 := 0) (ci := 9) c_M_thrown mt_M_thrown mi_M_thrown ml_L_68 rfl dd_L_law_251 rfl rfl rfl ⟨xn_le rfl, xn_le rfl⟩ ⟨by show cells + 1 + 0 ≤ 601024; omega, by show slots + 6 + 0 ≤ 7293034; omega⟩ (xn_le rfl) rfl ?_
  refine XX.tp (y := nI (t_end s (xs (6 * k + 1)))) (h19) ?_
  refine XX.iload dd_L_law_254 0 rfl ?_
  refine XX.icmp_eq (tgt := 261) dd_L_law_256 (by decide) (fun h256 => ?_) (fun h256 => ?_)
  ·
    refine XX.goto (tgt := 990) dd_L_law_261 (by decide) ?_
    refine XX.lvs [1, 2, 3, 4, 5] rfl ?_
    exact h990 q2 x2 n f2 kf2 ks2 bc2 br2 ka2 xm2 fm2 gg _ _ _ hq2 hc2 hm2 (by omega) (by omega)
  ·
    exact absurd rfl h256

set_option maxRecDepth 100000 in
set_option maxHeartbeats 4000000 in
theorem law_ways {G : XG} {b L a1 o C S k : Nat} {xs : Nat → Int32} {qm : Nat → Nat} (htr : ∀ e : Env, G.2.2.2.admits e → e.platform.stackTraces = false) (hL : L ≤ 3072) (hk : 6 * k + 6 ≤ L) (hCb : C + 11 ≤ 601024) (hSb : S + 326 + 320000 ≤ 7293034) (h990 : LST G (LF G b L xs) b a1 o qm (C + 11) (S + 6) 990 k) : LST G (LF G b L xs) b a1 o qm C S 264 k := by
  intro q x n f kf ks bc br ka xm fm gg s cells slots ha hc hm hcl hsl
  subst ha
  have hbl := brk_bc hc.b
  have hnn := hc.nn
  refine (?_ : XX G m_L_law room_1 (LF G b L xs) cells slots (wM G qm xm fm (wC G q x n f kf (ks ++ [LO G o gg]))) 264 [(0, .ref b), (1, .ref (q 0)), (2, .ref (qm 0)), (3, .ref o), (4, .int (nI (6 * k)))] [])
  refine XX.aload_n dd_L_law_264 rfl 1 rfl ?_
  refine XX.aload_n dd_L_law_265 rfl 0 rfl ?_
  refine XX.iload dd_L_law_266 4 rfl ?_
  refine XX.iconst (v := nI 1) dd_L_law_268 (by decide) ?_
  refine XX.iadd dd_L_law_269 ?_
  refine XX.tp (y := nI (6 * k + 1)) (nI_add _ _) ?_
  refine XX.sld (j := 6 * k + 1) dd_L_law_270 (by omega) (by omega) ?_
  have j285 : XX G m_L_law room_1 (LF G b L xs) cells slots (wM G qm xm fm (wC G q x n f kf (ks ++ [LO G o gg]))) 285 [(0, .ref b), (1, .ref (q 0)), (2, .ref (qm 0)), (3, .ref o), (4, .int (nI (6 * k)))] [.int (bI (decide (xs (6 * k + 2) ≠ 0))), .int (xs (6 * k + 1)), .ref (q 0)] := by
    have j299 : XX G m_L_law room_1 (LF G b L xs) cells slots (wM G qm xm fm (wC G q x n f kf (ks ++ [LO G o gg]))) 299 [(0, .ref b), (1, .ref (q 0)), (2, .ref (qm 0)), (3, .ref o), (4, .int (nI (6 * k)))] [.int (bI (decide (xs (6 * k + 3) ≠ 0))), .int (bI (decide (xs (6 * k + 2) ≠ 0))), .int (xs (6 * k + 1)), .ref (q 0)] := by
      refine XX.perm (ws2 := wC G q x n f kf (ks ++ LO G o gg :: wM G qm xm fm [])) lw_pm ?_
      refine XX.callSW (Mk := m_L_ways) (hh := [(0, 7, 10, 19)]) (n := 4) (As := [.ref (q 0), .int (xs (6 * k + 1)), .int (bI (decide (xs (6 * k + 2) ≠ 0))), .int (bI (decide (xs (6 * k + 3) ≠ 0)))]) (rest := []) (c_L_ways (T := LO G o gg :: wM G qm xm fm []) hc htr (a := xs (6 * k + 1)) (b1 := decide (xs (6 * k + 2) ≠ 0)) (b2 := decide (xs (6 * k + 3) ≠ 0))) mz_L_ways ms_L_ways ml_L_75 rfl dd_L_law_299 ⟨xn_le rfl, xn_le rfl⟩ ⟨by show cells + 1 ≤ 601024; omega, by show slots + 6 ≤ 7293034; omega⟩ (xn_le rfl) rfl (fun r1 w1 hp1 => ?_)
      obtain ⟨rfl, q2, x2, f2, kf2, ks2, bc2, br2, ka2, rfl, hq2, hc2⟩ := hp1
      refine XX.perm (ws2 := wM G qm xm fm (wC G q2 x2 n f2 kf2 (ks2 ++ [LO G o gg]))) lw_pm.symm ?_
      refine (?_ : XX G m_L_law room_1 (LF G b L xs) (cells + 1) (slots + 6) (wM G qm xm fm (wC G q2 x2 n f2 kf2 (ks2 ++ [LO G o gg]))) 302 [(0, .ref b), (1, .ref (q 0)), (2, .ref (qm 0)), (3, .ref o), (4, .int (nI (6 * k)))] [.int (nI (t_ways (xs (6 * k + 1))))])
      refine XX.istore (lv2 := [(5, .int (nI (t_ways (xs (6 * k + 1))))), (0, .ref b), (1, .ref (q 0)), (2, .ref (qm 0)), (3, .ref o), (4, .int (nI (6 * k)))]) dd_L_law_302 (by decide) rfl ?_
      refine XX.aload_n dd_L_law_304 rfl 3 rfl ?_
      refine XX.aload_n dd_L_law_305 rfl 1 rfl ?_
      refine XX.iload dd_L_law_306 5 rfl ?_
      refine XX.iconst (v := nI 1) dd_L_law_308 (by decide) ?_
      refine XX.iadd dd_L_law_309 ?_
      refine XX.tp (y := nI (6 * k + 1)) (nI_add _ _) ?_
      refine XX.sld (j := 6 * k + 1) dd_L_law_310 (by omega) (by omega) ?_
      have j325 : XX G m_L_law room_1 (LF G b L xs) (cells + 1) (slots + 6) (wM G qm xm fm (wC G q2 x2 n f2 kf2 (ks2 ++ [LO G o gg]))) 325 [(5, .int (nI (t_ways (xs (6 * k + 1))))), (0, .ref b), (1, .ref (q 0)), (2, .ref (qm 0)), (3, .ref o), (4, .int (nI (6 * k)))] [.int (bI (decide (xs (6 * k + 2) ≠ 0))), .int (xs (6 * k + 1)), .ref (qm 0)] := by
        have j339 : XX G m_L_law room_1 (LF G b L xs) (cells + 1) (slots + 6) (wM G qm xm fm (wC G q2 x2 n f2 kf2 (ks2 ++ [LO G o gg]))) 339 [(5, .int (nI (t_ways (xs (6 * k + 1))))), (0, .ref b), (1, .ref (q 0)), (2, .ref (qm 0)), (3, .ref o), (4, .int (nI (6 * k)))] [.int (bI (decide (xs (6 * k + 3) ≠ 0))), .int (bI (decide (xs (6 * k + 2) ≠ 0))), .int (xs (6 * k + 1)), .ref (qm 0)] := by
          refine XX.callV (Mk := m_M_ways) (n := 3) (As := [.int (xs (6 * k + 1)), .int (bI (decide (xs (6 * k + 2) ≠ 0))), .int (bI (decide (xs (6 * k + 3) ≠ 0)))]) (rest := []) (q0 := 0) (ci := 9) (c_M_ways hm) mt_M_ways mi_M_ways ml_L_78 rfl dd_L_law_339 rfl rfl rfl ⟨xn_le rfl, xn_le rfl⟩ ⟨by show cells + 1 + 0 ≤ 601024; omega, by show slots + 6 + 0 ≤ 7293034; omega⟩ (xn_le rfl) rfl (fun r2 w2 hp2 => ?_)
          obtain ⟨rfl, xm2, fm2, rfl, h19, hm2⟩ := hp2
          refine (?_ : XX G m_L_law room_1 (LF G b L xs) (cells + 1) (slots + 6) (wM G qm xm2 fm2 (wC G q2 x2 n f2 kf2 (ks2 ++ [LO G o gg]))) 342 [(5, .int (nI (t_ways (xs (6 * k + 1))))), (0, .ref b), (1, .ref (q 0)), (2, .ref (qm 0)), (3, .ref o), (4, .int (nI (6 * k)))] [])
          refine XX.aload_n dd_L_law_342 rfl 3 rfl ?_
          refine XX.callVr (Mk := m_M_thrown) (n := 0) (As := []) (rest := []) (q0 := 0) (ci := 9) c_M_thrown mt_M_thrown mi_M_thrown ml_L_68 rfl dd_L_law_343 rfl rfl rfl ⟨xn_le rfl, xn_le rfl⟩ ⟨by show cells + 1 + 0 ≤ 601024; omega, by show slots + 6 + 0 ≤ 7293034; omega⟩ (xn_le rfl) rfl ?_
          refine XX.tp (y := nI (t_ways (xs (6 * k + 1)))) (h19) ?_
          refine XX.iload dd_L_law_346 0 rfl ?_
          refine XX.icmp_eq (tgt := 353) dd_L_law_348 (by decide) (fun h348 => ?_) (fun h348 => ?_)
          ·
            refine XX.goto (tgt := 990) dd_L_law_353 (by decide) ?_
            refine XX.lvs [1, 2, 3, 4, 5] rfl ?_
            exact h990 q2 x2 n f2 kf2 ks2 bc2 br2 ka2 xm2 fm2 gg _ _ _ hq2 hc2 hm2 (by omega) (by omega)
          ·
            exact absurd rfl h348
        refine XX.aload_n dd_L_law_325 rfl 1 rfl ?_
        refine XX.iload dd_L_law_326 5 rfl ?_
        refine XX.iconst (v := nI 3) dd_L_law_328 (by decide) ?_
        refine XX.iadd dd_L_law_329 ?_
        refine XX.tp (y := nI (6 * k + 3)) (nI_add _ _) ?_
        refine XX.sld (j := 6 * k + 3) dd_L_law_330 (by omega) (by omega) ?_
        refine XX.if_eq (tgt := 338) dd_L_law_331 (by decide) (fun h331 => ?_) (fun h331 => ?_)
        ·
          refine XX.iconst (v := nI 0) dd_L_law_338 (by decide) ?_
          exact XX.tp (by rw [decide_eq_false (by intro z; exact z (by assumption))]; rfl) j339
        ·
          refine XX.iconst (v := nI 1) dd_L_law_334 (by decide) ?_
          refine XX.goto (tgt := 339) dd_L_law_335 (by decide) ?_
          exact XX.tp (by rw [decide_eq_true (by assumption)]; rfl) j339
      refine XX.aload_n dd_L_law_311 rfl 1 rfl ?_
      refine XX.iload dd_L_law_312 5 rfl ?_
      refine XX.iconst (v := nI 2) dd_L_law_314 (by decide) ?_
      refine XX.iadd dd_L_law_315 ?_
      refine XX.tp (y := nI (6 * k + 2)) (nI_add _ _) ?_
      refine XX.sld (j := 6 * k + 2) dd_L_law_316 (by omega) (by omega) ?_
      refine XX.if_eq (tgt := 324) dd_L_law_317 (by decide) (fun h317 => ?_) (fun h317 => ?_)
      ·
        refine XX.iconst (v := nI 0) dd_L_law_324 (by decide) ?_
        exact XX.tp (by rw [decide_eq_false (by intro z; exact z (by assumption))]; rfl) j325
      ·
        refine XX.iconst (v := nI 1) dd_L_law_320 (by decide) ?_
        refine XX.goto (tgt := 325) dd_L_law_321 (by decide) ?_
        exact XX.tp (by rw [decide_eq_true (by assumption)]; rfl) j325
    refine XX.aload_n dd_L_law_285 rfl 0 rfl ?_
    refine XX.iload dd_L_law_286 4 rfl ?_
    refine XX.iconst (v := nI 3) dd_L_law_288 (by decide) ?_
    refine XX.iadd dd_L_law_289 ?_
    refine XX.tp (y := nI (6 * k + 3)) (nI_add _ _) ?_
    refine XX.sld (j := 6 * k + 3) dd_L_law_290 (by omega) (by omega) ?_
    refine XX.if_eq (tgt := 298) dd_L_law_291 (by decide) (fun h291 => ?_) (fun h291 => ?_)
    ·
      refine XX.iconst (v := nI 0) dd_L_law_298 (by decide) ?_
      exact XX.tp (by rw [decide_eq_false (by intro z; exact z (by assumption))]; rfl) j299
    ·
      refine XX.iconst (v := nI 1) dd_L_law_294 (by decide) ?_
      refine XX.goto (tgt := 299) dd_L_law_295 (by decide) ?_
      exact XX.tp (by rw [decide_eq_true (by assumption)]; rfl) j299
  refine XX.aload_n dd_L_law_271 rfl 0 rfl ?_
  refine XX.iload dd_L_law_272 4 rfl ?_
  refine XX.iconst (v := nI 2) dd_L_law_274 (by decide) ?_
  refine XX.iadd dd_L_law_275 ?_
  refine XX.tp (y := nI (6 * k + 2)) (nI_add _ _) ?_
  refine XX.sld (j := 6 * k + 2) dd_L_law_276 (by omega) (by omega) ?_
  refine XX.if_eq (tgt := 284) dd_L_law_277 (by decide) (fun h277 => ?_) (fun h277 => ?_)
  ·
    refine XX.iconst (v := nI 0) dd_L_law_284 (by decide) ?_
    exact XX.tp (by rw [decide_eq_false (by intro z; exact z (by assumption))]; rfl) j285
  ·
    refine XX.iconst (v := nI 1) dd_L_law_280 (by decide) ?_
    refine XX.goto (tgt := 285) dd_L_law_281 (by decide) ?_
    exact XX.tp (by rw [decide_eq_true (by assumption)]; rfl) j285

set_option maxRecDepth 100000 in
set_option maxHeartbeats 4000000 in
theorem law_separator {G : XG} {b L a1 o C S k : Nat} {xs : Nat → Int32} {qm : Nat → Nat} (htr : ∀ e : Env, G.2.2.2.admits e → e.platform.stackTraces = false) (hL : L ≤ 3072) (hk : 6 * k + 6 ≤ L) (hCb : C + 11 ≤ 601024) (hSb : S + 326 + 320000 ≤ 7293034) (h990 : LST G (LF G b L xs) b a1 o qm (C + 11) (S + 6) 990 k) : LST G (LF G b L xs) b a1 o qm C S 356 k := by
  intro q x n f kf ks bc br ka xm fm gg s cells slots ha hc hm hcl hsl
  subst ha
  have hbl := brk_bc hc.b
  have hnn := hc.nn
  refine (?_ : XX G m_L_law room_1 (LF G b L xs) cells slots (wM G qm xm fm (wC G q x n f kf (ks ++ [LO G o gg]))) 356 [(0, .ref b), (1, .ref (q 0)), (2, .ref (qm 0)), (3, .ref o), (4, .int (nI (6 * k)))] [])
  refine XX.aload_n dd_L_law_356 rfl 1 rfl ?_
  refine XX.aload_n dd_L_law_357 rfl 0 rfl ?_
  refine XX.iload dd_L_law_358 4 rfl ?_
  refine XX.iconst (v := nI 1) dd_L_law_360 (by decide) ?_
  refine XX.iadd dd_L_law_361 ?_
  refine XX.tp (y := nI (6 * k + 1)) (nI_add _ _) ?_
  refine XX.sld (j := 6 * k + 1) dd_L_law_362 (by omega) (by omega) ?_
  refine XX.perm (ws2 := wC G q x n f kf (ks ++ LO G o gg :: wM G qm xm fm [])) lw_pm ?_
  refine XX.callSW (Mk := m_L_separator) (hh := [(0, 5, 8, 19)]) (n := 2) (As := [.ref (q 0), .int (xs (6 * k + 1))]) (rest := []) (c_L_separator (T := LO G o gg :: wM G qm xm fm []) hc htr (a := xs (6 * k + 1))) mz_L_separator ms_L_separator ml_L_79 rfl dd_L_law_363 ⟨xn_le rfl, xn_le rfl⟩ ⟨by show cells + 1 ≤ 601024; omega, by show slots + 6 ≤ 7293034; omega⟩ (xn_le rfl) rfl (fun r1 w1 hp1 => ?_)
  obtain ⟨rfl, q2, x2, f2, kf2, ks2, bc2, br2, ka2, rfl, hq2, hc2⟩ := hp1
  refine XX.perm (ws2 := wM G qm xm fm (wC G q2 x2 n f2 kf2 (ks2 ++ [LO G o gg]))) lw_pm.symm ?_
  refine (?_ : XX G m_L_law room_1 (LF G b L xs) (cells + 1) (slots + 6) (wM G qm xm fm (wC G q2 x2 n f2 kf2 (ks2 ++ [LO G o gg]))) 366 [(0, .ref b), (1, .ref (q 0)), (2, .ref (qm 0)), (3, .ref o), (4, .int (nI (6 * k)))] [.int (nI (t_separator (xs (6 * k + 1))))])
  refine XX.istore (lv2 := [(5, .int (nI (t_separator (xs (6 * k + 1))))), (0, .ref b), (1, .ref (q 0)), (2, .ref (qm 0)), (3, .ref o), (4, .int (nI (6 * k)))]) dd_L_law_366 (by decide) rfl ?_
  refine XX.aload_n dd_L_law_368 rfl 3 rfl ?_
  refine XX.aload_n dd_L_law_369 rfl 1 rfl ?_
  refine XX.iload dd_L_law_370 5 rfl ?_
  refine XX.iconst (v := nI 1) dd_L_law_372 (by decide) ?_
  refine XX.iadd dd_L_law_373 ?_
  refine XX.tp (y := nI (6 * k + 1)) (nI_add _ _) ?_
  refine XX.sld (j := 6 * k + 1) dd_L_law_374 (by omega) (by omega) ?_
  refine XX.callV (Mk := m_M_separator) (n := 1) (As := [.int (xs (6 * k + 1))]) (rest := []) (q0 := 0) (ci := 9) (c_M_separator hm) mt_M_separator mi_M_separator ml_L_81 rfl dd_L_law_375 rfl rfl rfl ⟨xn_le rfl, xn_le rfl⟩ ⟨by show cells + 1 + 0 ≤ 601024; omega, by show slots + 6 + 0 ≤ 7293034; omega⟩ (xn_le rfl) rfl (fun r2 w2 hp2 => ?_)
  obtain ⟨rfl, xm2, fm2, rfl, h19, hm2⟩ := hp2
  refine (?_ : XX G m_L_law room_1 (LF G b L xs) (cells + 1) (slots + 6) (wM G qm xm2 fm2 (wC G q2 x2 n f2 kf2 (ks2 ++ [LO G o gg]))) 378 [(5, .int (nI (t_separator (xs (6 * k + 1))))), (0, .ref b), (1, .ref (q 0)), (2, .ref (qm 0)), (3, .ref o), (4, .int (nI (6 * k)))] [])
  refine XX.aload_n dd_L_law_378 rfl 3 rfl ?_
  refine XX.callVr (Mk := m_M_thrown) (n := 0) (As := []) (rest := []) (q0 := 0) (ci := 9) c_M_thrown mt_M_thrown mi_M_thrown ml_L_68 rfl dd_L_law_379 rfl rfl rfl ⟨xn_le rfl, xn_le rfl⟩ ⟨by show cells + 1 + 0 ≤ 601024; omega, by show slots + 6 + 0 ≤ 7293034; omega⟩ (xn_le rfl) rfl ?_
  refine XX.tp (y := nI (t_separator (xs (6 * k + 1)))) (h19) ?_
  refine XX.iload dd_L_law_382 0 rfl ?_
  refine XX.icmp_eq (tgt := 389) dd_L_law_384 (by decide) (fun h384 => ?_) (fun h384 => ?_)
  ·
    refine XX.goto (tgt := 990) dd_L_law_389 (by decide) ?_
    refine XX.lvs [1, 2, 3, 4, 5] rfl ?_
    exact h990 q2 x2 n f2 kf2 ks2 bc2 br2 ka2 xm2 fm2 gg _ _ _ hq2 hc2 hm2 (by omega) (by omega)
  ·
    exact absurd rfl h384

set_option maxRecDepth 100000 in
set_option maxHeartbeats 4000000 in
theorem law_key {G : XG} {b L a1 o C S k : Nat} {xs : Nat → Int32} {qm : Nat → Nat} (htr : ∀ e : Env, G.2.2.2.admits e → e.platform.stackTraces = false) (hL : L ≤ 3072) (hk : 6 * k + 6 ≤ L) (hCb : C + 11 ≤ 601024) (hSb : S + 326 + 320000 ≤ 7293034) (h990 : LST G (LF G b L xs) b a1 o qm (C + 11) (S + 6) 990 k) : LST G (LF G b L xs) b a1 o qm C S 392 k := by
  intro q x n f kf ks bc br ka xm fm gg s cells slots ha hc hm hcl hsl
  subst ha
  have hbl := brk_bc hc.b
  have hnn := hc.nn
  refine (?_ : XX G m_L_law room_1 (LF G b L xs) cells slots (wM G qm xm fm (wC G q x n f kf (ks ++ [LO G o gg]))) 392 [(0, .ref b), (1, .ref (q 0)), (2, .ref (qm 0)), (3, .ref o), (4, .int (nI (6 * k)))] [])
  refine XX.aload_n dd_L_law_392 rfl 1 rfl ?_
  refine XX.aload_n dd_L_law_393 rfl 0 rfl ?_
  refine XX.iload dd_L_law_394 4 rfl ?_
  refine XX.iconst (v := nI 1) dd_L_law_396 (by decide) ?_
  refine XX.iadd dd_L_law_397 ?_
  refine XX.tp (y := nI (6 * k + 1)) (nI_add _ _) ?_
  refine XX.sld (j := 6 * k + 1) dd_L_law_398 (by omega) (by omega) ?_
  refine XX.aload_n dd_L_law_399 rfl 0 rfl ?_
  refine XX.iload dd_L_law_400 4 rfl ?_
  refine XX.iconst (v := nI 2) dd_L_law_402 (by decide) ?_
  refine XX.iadd dd_L_law_403 ?_
  refine XX.tp (y := nI (6 * k + 2)) (nI_add _ _) ?_
  refine XX.sld (j := 6 * k + 2) dd_L_law_404 (by omega) (by omega) ?_
  refine XX.aload_n dd_L_law_405 rfl 0 rfl ?_
  refine XX.iload dd_L_law_406 4 rfl ?_
  refine XX.iconst (v := nI 3) dd_L_law_408 (by decide) ?_
  refine XX.iadd dd_L_law_409 ?_
  refine XX.tp (y := nI (6 * k + 3)) (nI_add _ _) ?_
  refine XX.sld (j := 6 * k + 3) dd_L_law_410 (by omega) (by omega) ?_
  refine XX.aload_n dd_L_law_411 rfl 0 rfl ?_
  refine XX.iload dd_L_law_412 4 rfl ?_
  refine XX.iconst (v := nI 4) dd_L_law_414 (by decide) ?_
  refine XX.iadd dd_L_law_415 ?_
  refine XX.tp (y := nI (6 * k + 4)) (nI_add _ _) ?_
  refine XX.sld (j := 6 * k + 4) dd_L_law_416 (by omega) (by omega) ?_
  refine XX.aload_n dd_L_law_417 rfl 0 rfl ?_
  refine XX.iload dd_L_law_418 4 rfl ?_
  refine XX.iconst (v := nI 5) dd_L_law_420 (by decide) ?_
  refine XX.iadd dd_L_law_421 ?_
  refine XX.tp (y := nI (6 * k + 5)) (nI_add _ _) ?_
  refine XX.sld (j := 6 * k + 5) dd_L_law_422 (by omega) (by omega) ?_
  refine XX.aload_n dd_L_law_423 rfl 3 rfl ?_
  refine XX.perm (ws2 := wC G q x n f kf (ks ++ LO G o gg :: wM G qm xm fm [])) lw_pm ?_
  refine XX.callSW (Mk := m_L_key) (hh := [(0, 16, 19, 19), (0, 16, 23, 31)]) (n := 7) (As := [.ref (q 0), .int (xs (6 * k + 1)), .int (xs (6 * k + 2)), .int (xs (6 * k + 3)), .int (xs (6 * k + 4)), .int (xs (6 * k + 5)), .ref o]) (rest := []) (c_L_key (T := wM G qm xm fm []) hc htr (a := xs (6 * k + 1)) (b := xs (6 * k + 2)) (c := xs (6 * k + 3)) (d := xs (6 * k + 4)) (g := xs (6 * k + 5))) mz_L_key ms_L_key ml_L_82 rfl dd_L_law_424 ⟨xn_le rfl, xn_le rfl⟩ ⟨by show cells + 1 ≤ 601024; omega, by show slots + 6 ≤ 7293034; omega⟩ (xn_le rfl) rfl (fun r1 w1 hp1 => ?_)
  obtain ⟨rfl, n2, g2, hn2, hg2, q2, x2, f2, kf2, ks2, bc2, br2, ka2, rfl, hq2, hc2⟩ := hp1
  refine XX.perm (ws2 := wM G qm xm fm (wC G q2 x2 n2 f2 kf2 (ks2 ++ [LO G o g2]))) lw_pm.symm ?_
  refine (?_ : XX G m_L_law room_1 (LF G b L xs) (cells + 1) (slots + 6) (wM G qm xm fm (wC G q2 x2 n2 f2 kf2 (ks2 ++ [LO G o g2]))) 427 [(0, .ref b), (1, .ref (q 0)), (2, .ref (qm 0)), (3, .ref o), (4, .int (nI (6 * k)))] [.int (nI (t_key s (xs (6 * k + 1)) (xs (6 * k + 2)) (xs (6 * k + 3)) (xs (6 * k + 4)) (xs (6 * k + 5))))])
  refine XX.istore (lv2 := [(5, .int (nI (t_key s (xs (6 * k + 1)) (xs (6 * k + 2)) (xs (6 * k + 3)) (xs (6 * k + 4)) (xs (6 * k + 5))))), (0, .ref b), (1, .ref (q 0)), (2, .ref (qm 0)), (3, .ref o), (4, .int (nI (6 * k)))]) dd_L_law_427 (by decide) rfl ?_
  refine XX.aload_n dd_L_law_429 rfl 3 rfl ?_
  refine XX.aload_n dd_L_law_430 rfl 1 rfl ?_
  refine XX.iload dd_L_law_431 5 rfl ?_
  refine XX.iconst (v := nI 1) dd_L_law_433 (by decide) ?_
  refine XX.iadd dd_L_law_434 ?_
  refine XX.tp (y := nI (6 * k + 1)) (nI_add _ _) ?_
  refine XX.sld (j := 6 * k + 1) dd_L_law_435 (by omega) (by omega) ?_
  refine XX.aload_n dd_L_law_436 rfl 1 rfl ?_
  refine XX.iload dd_L_law_437 5 rfl ?_
  refine XX.iconst (v := nI 2) dd_L_law_439 (by decide) ?_
  refine XX.iadd dd_L_law_440 ?_
  refine XX.tp (y := nI (6 * k + 2)) (nI_add _ _) ?_
  refine XX.sld (j := 6 * k + 2) dd_L_law_441 (by omega) (by omega) ?_
  refine XX.aload_n dd_L_law_442 rfl 1 rfl ?_
  refine XX.iload dd_L_law_443 5 rfl ?_
  refine XX.iconst (v := nI 3) dd_L_law_445 (by decide) ?_
  refine XX.iadd dd_L_law_446 ?_
  refine XX.tp (y := nI (6 * k + 3)) (nI_add _ _) ?_
  refine XX.sld (j := 6 * k + 3) dd_L_law_447 (by omega) (by omega) ?_
  refine XX.aload_n dd_L_law_448 rfl 1 rfl ?_
  refine XX.iload dd_L_law_449 5 rfl ?_
  refine XX.iconst (v := nI 4) dd_L_law_451 (by decide) ?_
  refine XX.iadd dd_L_law_452 ?_
  refine XX.tp (y := nI (6 * k + 4)) (nI_add _ _) ?_
  refine XX.sld (j := 6 * k + 4) dd_L_law_453 (by omega) (by omega) ?_
  refine XX.aload_n dd_L_law_454 rfl 1 rfl ?_
  refine XX.iload dd_L_law_455 5 rfl ?_
  refine XX.iconst (v := nI 5) dd_L_law_457 (by decide) ?_
  refine XX.iadd dd_L_law_458 ?_
  refine XX.tp (y := nI (6 * k + 5)) (nI_add _ _) ?_
  refine XX.sld (j := 6 * k + 5) dd_L_law_459 (by omega) (by omega) ?_
  refine XX.callV (Mk := m_M_key) (n := 5) (As := [.int (xs (6 * k + 1)), .int (xs (6 * k + 2)), .int (xs (6 * k + 3)), .int (xs (6 * k + 4)), .int (xs (6 * k + 5))]) (rest := []) (q0 := 0) (ci := 9) (c_M_key hm) mt_M_key mi_M_key ml_L_84 rfl dd_L_law_460 rfl rfl rfl ⟨xn_le rfl, xn_le rfl⟩ ⟨by show cells + 1 + 0 ≤ 601024; omega, by show slots + 6 + 0 ≤ 7293034; omega⟩ (xn_le rfl) rfl (fun r2 w2 hp2 => ?_)
  obtain ⟨⟨v2, rfl, hv2⟩, xm2, fm2, rfl, h19, hm2⟩ := hp2
  refine (?_ : XX G m_L_law room_1 (LF G b L xs) (cells + 1) (slots + 6) (wM G qm xm2 fm2 (wC G q2 x2 n2 f2 kf2 (ks2 ++ [LO G o g2]))) 463 [(5, .int (nI (t_key s (xs (6 * k + 1)) (xs (6 * k + 2)) (xs (6 * k + 3)) (xs (6 * k + 4)) (xs (6 * k + 5))))), (0, .ref b), (1, .ref (q 0)), (2, .ref (qm 0)), (3, .ref o), (4, .int (nI (6 * k)))] [.int v2])
  refine XX.istore (lv2 := [(6, .int v2), (5, .int (nI (t_key s (xs (6 * k + 1)) (xs (6 * k + 2)) (xs (6 * k + 3)) (xs (6 * k + 4)) (xs (6 * k + 5))))), (0, .ref b), (1, .ref (q 0)), (2, .ref (qm 0)), (3, .ref o), (4, .int (nI (6 * k)))]) dd_L_law_463 (by decide) rfl ?_
  refine XX.aload_n dd_L_law_465 rfl 4 rfl ?_
  refine XX.callVr (Mk := m_M_thrown) (n := 0) (As := []) (rest := []) (q0 := 0) (ci := 9) c_M_thrown mt_M_thrown mi_M_thrown ml_L_68 rfl dd_L_law_466 rfl rfl rfl ⟨xn_le rfl, xn_le rfl⟩ ⟨by show cells + 1 + 0 ≤ 601024; omega, by show slots + 6 + 0 ≤ 7293034; omega⟩ (xn_le rfl) rfl ?_
  refine XX.tp (y := nI (t_key s (xs (6 * k + 1)) (xs (6 * k + 2)) (xs (6 * k + 3)) (xs (6 * k + 4)) (xs (6 * k + 5)))) (h19) ?_
  refine XX.iload dd_L_law_469 1 rfl ?_
  refine XX.icmp_eq (tgt := 476) dd_L_law_471 (by decide) (fun h471 => ?_) (fun h471 => ?_)
  ·
    refine XX.iload dd_L_law_476 1 rfl ?_
    refine XX.if_ne (tgt := 493) dd_L_law_478 (by decide) (fun h478 => ?_) (fun h478 => ?_)
    ·
      refine XX.goto (tgt := 990) dd_L_law_493 (by decide) ?_
      refine XX.lvs [2, 3, 4, 5, 6] rfl ?_
      exact h990 q2 x2 n2 f2 kf2 ks2 bc2 br2 ka2 xm2 fm2 g2 _ _ _ hq2 hc2 hm2 (by omega) (by omega)
    ·
      have ht0 : t_key s (xs (6 * k + 1)) (xs (6 * k + 2)) (xs (6 * k + 3)) (xs (6 * k + 4)) (xs (6 * k + 5)) = 0 := nI_nul h478 (by unfold t_key tb; split <;> (try split) <;> omega)
      refine XX.aload_n dd_L_law_481 rfl 5 rfl ?_
      refine XX.iconst (v := nI 0) dd_L_law_482 (by decide) ?_
      refine XX.perm (ws2 := LO G o g2 :: wM G qm xm2 fm2 (wC G q2 x2 n2 f2 kf2 (ks2))) lw_po ?_
      refine XX.lald (q0 := 0) (n := 1) (j := 0) (f := g2) dd_L_law_483 rfl (by decide) (by decide) ?_
      refine XX.perm (ws2 := wM G qm xm2 fm2 (wC G q2 x2 n2 f2 kf2 (ks2 ++ [LO G o g2]))) lw_po.symm ?_
      refine XX.iload dd_L_law_484 0 rfl ?_
      refine XX.i2l (v := v2.toInt64) dd_L_law_486 (rfl) ?_
      refine XX.lcmp dd_L_law_487 ?_
      refine XX.if_eq (tgt := 493) dd_L_law_488 (by decide) (fun h488 => ?_) (fun h488 => ?_)
      ·
        refine XX.goto (tgt := 990) dd_L_law_493 (by decide) ?_
        refine XX.lvs [2, 3, 4, 5, 6] rfl ?_
        exact h990 q2 x2 n2 f2 kf2 ks2 bc2 br2 ka2 xm2 fm2 g2 _ _ _ hq2 hc2 hm2 (by omega) (by omega)
      ·
        exact absurd (by rw [hg2 ht0, hv2 ht0]; exact lg_cmp_self _) h488
  ·
    exact absurd rfl h471

set_option maxRecDepth 100000 in
set_option maxHeartbeats 4000000 in
theorem law_keyless {G : XG} {b L a1 o C S k : Nat} {xs : Nat → Int32} {qm : Nat → Nat} (htr : ∀ e : Env, G.2.2.2.admits e → e.platform.stackTraces = false) (hL : L ≤ 3072) (hk : 6 * k + 6 ≤ L) (hCb : C + 11 ≤ 601024) (hSb : S + 326 + 320000 ≤ 7293034) (h990 : LST G (LF G b L xs) b a1 o qm (C + 11) (S + 6) 990 k) : LST G (LF G b L xs) b a1 o qm C S 496 k := by
  intro q x n f kf ks bc br ka xm fm gg s cells slots ha hc hm hcl hsl
  subst ha
  have hbl := brk_bc hc.b
  have hnn := hc.nn
  refine (?_ : XX G m_L_law room_1 (LF G b L xs) cells slots (wM G qm xm fm (wC G q x n f kf (ks ++ [LO G o gg]))) 496 [(0, .ref b), (1, .ref (q 0)), (2, .ref (qm 0)), (3, .ref o), (4, .int (nI (6 * k)))] [])
  refine XX.aload_n dd_L_law_496 rfl 1 rfl ?_
  refine XX.perm (ws2 := wC G q x n f kf (ks ++ LO G o gg :: wM G qm xm fm [])) lw_pm ?_
  refine XX.callV (Mk := m_S_keyless) (n := 0) (As := []) (rest := []) (q0 := 0) (ci := 0) (c_S_keyless (T := LO G o gg :: wM G qm xm fm []) hc) mt_S_keyless mi_S_keyless ml_L_85 rfl dd_L_law_497 rfl rfl rfl ⟨xn_le rfl, xn_le rfl⟩ ⟨by show cells + 0 ≤ 601024; omega, by show slots + 0 ≤ 7293034; omega⟩ (xn_le rfl) rfl (fun r1 w1 hp1 => ?_)
  obtain ⟨rfl, q2, x2, f2, kf2, ks2, bc2, br2, ka2, rfl, hq2, hc2⟩ := hp1
  refine XX.perm (ws2 := wM G qm xm fm (wC G q2 x2 n f2 kf2 (ks2 ++ [LO G o gg]))) lw_pm.symm ?_
  refine (?_ : XX G m_L_law room_1 (LF G b L xs) cells slots (wM G qm xm fm (wC G q2 x2 n f2 kf2 (ks2 ++ [LO G o gg]))) 500 [(0, .ref b), (1, .ref (q 0)), (2, .ref (qm 0)), (3, .ref o), (4, .int (nI (6 * k)))] [.int (nI s.kc)])
  refine XX.aload_n dd_L_law_500 rfl 2 rfl ?_
  refine XX.callV (Mk := m_M_keyless) (n := 0) (As := []) (rest := [.int (nI s.kc)]) (q0 := 0) (ci := 9) (c_M_keyless hm) mt_M_keyless mi_M_keyless ml_L_88 rfl dd_L_law_501 rfl rfl rfl ⟨xn_le rfl, xn_le rfl⟩ ⟨by show cells + 0 ≤ 601024; omega, by show slots + 0 ≤ 7293034; omega⟩ (xn_le rfl) rfl (fun r2 w2 hp2 => ?_)
  obtain ⟨⟨v2, rfl, hv2⟩, xm2, fm2, rfl, h19, hm2⟩ := hp2
  refine (?_ : XX G m_L_law room_1 (LF G b L xs) cells slots (wM G qm xm2 fm2 (wC G q2 x2 n f2 kf2 (ks2 ++ [LO G o gg]))) 504 [(0, .ref b), (1, .ref (q 0)), (2, .ref (qm 0)), (3, .ref o), (4, .int (nI (6 * k)))] [.int v2, .int (nI s.kc)])
  refine XX.icmp_eq (tgt := 990) dd_L_law_504 (by decide) (fun h504 => ?_) (fun h504 => ?_)
  ·
    exact h990 q2 x2 n f2 kf2 ks2 bc2 br2 ka2 xm2 fm2 gg _ _ _ hq2 hc2 hm2 (by omega) (by omega)
  ·
    exact absurd (hv2 rfl).symm h504

set_option maxRecDepth 100000 in
set_option maxHeartbeats 4000000 in
theorem law_memory {G : XG} {b L a1 o C S k : Nat} {xs : Nat → Int32} {qm : Nat → Nat} (htr : ∀ e : Env, G.2.2.2.admits e → e.platform.stackTraces = false) (hL : L ≤ 3072) (hk : 6 * k + 6 ≤ L) (hCb : C + 11 ≤ 601024) (hSb : S + 326 + 320000 ≤ 7293034) (h990 : LST G (LF G b L xs) b a1 o qm (C + 11) (S + 6) 990 k) : LST G (LF G b L xs) b a1 o qm C S 509 k := by
  intro q x n f kf ks bc br ka xm fm gg s cells slots ha hc hm hcl hsl
  subst ha
  have hbl := brk_bc hc.b
  have hnn := hc.nn
  refine (?_ : XX G m_L_law room_1 (LF G b L xs) cells slots (wM G qm xm fm (wC G q x n f kf (ks ++ [LO G o gg]))) 509 [(0, .ref b), (1, .ref (q 0)), (2, .ref (qm 0)), (3, .ref o), (4, .int (nI (6 * k)))] [])
  refine XX.aload_n dd_L_law_509 rfl 1 rfl ?_
  refine XX.aload_n dd_L_law_510 rfl 0 rfl ?_
  refine XX.iload dd_L_law_511 4 rfl ?_
  refine XX.iconst (v := nI 1) dd_L_law_513 (by decide) ?_
  refine XX.iadd dd_L_law_514 ?_
  refine XX.tp (y := nI (6 * k + 1)) (nI_add _ _) ?_
  refine XX.sld (j := 6 * k + 1) dd_L_law_515 (by omega) (by omega) ?_
  refine XX.aload_n dd_L_law_516 rfl 0 rfl ?_
  refine XX.iload dd_L_law_517 4 rfl ?_
  refine XX.iconst (v := nI 2) dd_L_law_519 (by decide) ?_
  refine XX.iadd dd_L_law_520 ?_
  refine XX.tp (y := nI (6 * k + 2)) (nI_add _ _) ?_
  refine XX.sld (j := 6 * k + 2) dd_L_law_521 (by omega) (by omega) ?_
  refine XX.perm (ws2 := wC G q x n f kf (ks ++ LO G o gg :: wM G qm xm fm [])) lw_pm ?_
  refine XX.callSW (Mk := m_L_memory) (hh := [(0, 6, 9, 19)]) (n := 3) (As := [.ref (q 0), .int (xs (6 * k + 1)), .int (xs (6 * k + 2))]) (rest := []) (c_L_memory (T := LO G o gg :: wM G qm xm fm []) hc htr (a := xs (6 * k + 1)) (b := xs (6 * k + 2))) mz_L_memory ms_L_memory ml_L_89 rfl dd_L_law_522 ⟨xn_le rfl, xn_le rfl⟩ ⟨by show cells + 1 ≤ 601024; omega, by show slots + 6 ≤ 7293034; omega⟩ (xn_le rfl) rfl (fun r1 w1 hp1 => ?_)
  obtain ⟨rfl, q2, x2, f2, kf2, ks2, bc2, br2, ka2, rfl, hq2, hc2⟩ := hp1
  refine XX.perm (ws2 := wM G qm xm fm (wC G q2 x2 n f2 kf2 (ks2 ++ [LO G o gg]))) lw_pm.symm ?_
  refine (?_ : XX G m_L_law room_1 (LF G b L xs) (cells + 1) (slots + 6) (wM G qm xm fm (wC G q2 x2 n f2 kf2 (ks2 ++ [LO G o gg]))) 525 [(0, .ref b), (1, .ref (q 0)), (2, .ref (qm 0)), (3, .ref o), (4, .int (nI (6 * k)))] [.int (nI (t_memory (xs (6 * k + 1)) (xs (6 * k + 2))))])
  refine XX.istore (lv2 := [(5, .int (nI (t_memory (xs (6 * k + 1)) (xs (6 * k + 2))))), (0, .ref b), (1, .ref (q 0)), (2, .ref (qm 0)), (3, .ref o), (4, .int (nI (6 * k)))]) dd_L_law_525 (by decide) rfl ?_
  refine XX.aload_n dd_L_law_527 rfl 3 rfl ?_
  refine XX.aload_n dd_L_law_528 rfl 1 rfl ?_
  refine XX.iload dd_L_law_529 5 rfl ?_
  refine XX.iconst (v := nI 1) dd_L_law_531 (by decide) ?_
  refine XX.iadd dd_L_law_532 ?_
  refine XX.tp (y := nI (6 * k + 1)) (nI_add _ _) ?_
  refine XX.sld (j := 6 * k + 1) dd_L_law_533 (by omega) (by omega) ?_
  refine XX.aload_n dd_L_law_534 rfl 1 rfl ?_
  refine XX.iload dd_L_law_535 5 rfl ?_
  refine XX.iconst (v := nI 2) dd_L_law_537 (by decide) ?_
  refine XX.iadd dd_L_law_538 ?_
  refine XX.tp (y := nI (6 * k + 2)) (nI_add _ _) ?_
  refine XX.sld (j := 6 * k + 2) dd_L_law_539 (by omega) (by omega) ?_
  refine XX.callV (Mk := m_M_memory) (n := 2) (As := [.int (xs (6 * k + 1)), .int (xs (6 * k + 2))]) (rest := []) (q0 := 0) (ci := 9) (c_M_memory hm) mt_M_memory mi_M_memory ml_L_92 rfl dd_L_law_540 rfl rfl rfl ⟨xn_le rfl, xn_le rfl⟩ ⟨by show cells + 1 + 0 ≤ 601024; omega, by show slots + 6 + 0 ≤ 7293034; omega⟩ (xn_le rfl) rfl (fun r2 w2 hp2 => ?_)
  obtain ⟨rfl, xm2, fm2, rfl, h19, hm2⟩ := hp2
  refine (?_ : XX G m_L_law room_1 (LF G b L xs) (cells + 1) (slots + 6) (wM G qm xm2 fm2 (wC G q2 x2 n f2 kf2 (ks2 ++ [LO G o gg]))) 543 [(5, .int (nI (t_memory (xs (6 * k + 1)) (xs (6 * k + 2))))), (0, .ref b), (1, .ref (q 0)), (2, .ref (qm 0)), (3, .ref o), (4, .int (nI (6 * k)))] [])
  refine XX.aload_n dd_L_law_543 rfl 3 rfl ?_
  refine XX.callVr (Mk := m_M_thrown) (n := 0) (As := []) (rest := []) (q0 := 0) (ci := 9) c_M_thrown mt_M_thrown mi_M_thrown ml_L_68 rfl dd_L_law_544 rfl rfl rfl ⟨xn_le rfl, xn_le rfl⟩ ⟨by show cells + 1 + 0 ≤ 601024; omega, by show slots + 6 + 0 ≤ 7293034; omega⟩ (xn_le rfl) rfl ?_
  refine XX.tp (y := nI (t_memory (xs (6 * k + 1)) (xs (6 * k + 2)))) (h19) ?_
  refine XX.iload dd_L_law_547 0 rfl ?_
  refine XX.icmp_eq (tgt := 554) dd_L_law_549 (by decide) (fun h549 => ?_) (fun h549 => ?_)
  ·
    refine XX.goto (tgt := 990) dd_L_law_554 (by decide) ?_
    refine XX.lvs [1, 2, 3, 4, 5] rfl ?_
    exact h990 q2 x2 n f2 kf2 ks2 bc2 br2 ka2 xm2 fm2 gg _ _ _ hq2 hc2 hm2 (by omega) (by omega)
  ·
    exact absurd rfl h549

set_option maxRecDepth 100000 in
set_option maxHeartbeats 4000000 in
theorem law_lines {G : XG} {b L a1 o C S k : Nat} {xs : Nat → Int32} {qm : Nat → Nat} (htr : ∀ e : Env, G.2.2.2.admits e → e.platform.stackTraces = false) (hL : L ≤ 3072) (hk : 6 * k + 6 ≤ L) (hCb : C + 11 ≤ 601024) (hSb : S + 326 + 320000 ≤ 7293034) (h990 : LST G (LF G b L xs) b a1 o qm (C + 11) (S + 6) 990 k) : LST G (LF G b L xs) b a1 o qm C S 557 k := by
  intro q x n f kf ks bc br ka xm fm gg s cells slots ha hc hm hcl hsl
  subst ha
  have hbl := brk_bc hc.b
  have hnn := hc.nn
  refine (?_ : XX G m_L_law room_1 (LF G b L xs) cells slots (wM G qm xm fm (wC G q x n f kf (ks ++ [LO G o gg]))) 557 [(0, .ref b), (1, .ref (q 0)), (2, .ref (qm 0)), (3, .ref o), (4, .int (nI (6 * k)))] [])
  refine XX.aload_n dd_L_law_557 rfl 1 rfl ?_
  refine XX.perm (ws2 := wC G q x n f kf (ks ++ LO G o gg :: wM G qm xm fm [])) lw_pm ?_
  refine XX.callV (Mk := m_S_lines) (n := 0) (As := []) (rest := []) (q0 := 0) (ci := 0) (c_S_lines (T := LO G o gg :: wM G qm xm fm []) hc) mt_S_lines mi_S_lines ml_L_93 rfl dd_L_law_558 rfl rfl rfl ⟨xn_le rfl, xn_le rfl⟩ ⟨by show cells + 0 ≤ 601024; omega, by show slots + 0 ≤ 7293034; omega⟩ (xn_le rfl) rfl (fun r1 w1 hp1 => ?_)
  obtain ⟨rfl, q2, x2, f2, kf2, ks2, bc2, br2, ka2, rfl, hq2, hc2⟩ := hp1
  refine XX.perm (ws2 := wM G qm xm fm (wC G q2 x2 n f2 kf2 (ks2 ++ [LO G o gg]))) lw_pm.symm ?_
  refine (?_ : XX G m_L_law room_1 (LF G b L xs) cells slots (wM G qm xm fm (wC G q2 x2 n f2 kf2 (ks2 ++ [LO G o gg]))) 561 [(0, .ref b), (1, .ref (q 0)), (2, .ref (qm 0)), (3, .ref o), (4, .int (nI (6 * k)))] [.int (nI (lnc s.B s.len))])
  refine XX.aload_n dd_L_law_561 rfl 2 rfl ?_
  refine XX.callV (Mk := m_M_lines) (n := 0) (As := []) (rest := [.int (nI (lnc s.B s.len))]) (q0 := 0) (ci := 9) (c_M_lines hm) mt_M_lines mi_M_lines ml_L_96 rfl dd_L_law_562 rfl rfl rfl ⟨xn_le rfl, xn_le rfl⟩ ⟨by show cells + 0 ≤ 601024; omega, by show slots + 0 ≤ 7293034; omega⟩ (xn_le rfl) rfl (fun r2 w2 hp2 => ?_)
  obtain ⟨⟨v2, rfl, hv2⟩, xm2, fm2, rfl, h19, hm2⟩ := hp2
  refine (?_ : XX G m_L_law room_1 (LF G b L xs) cells slots (wM G qm xm2 fm2 (wC G q2 x2 n f2 kf2 (ks2 ++ [LO G o gg]))) 565 [(0, .ref b), (1, .ref (q 0)), (2, .ref (qm 0)), (3, .ref o), (4, .int (nI (6 * k)))] [.int v2, .int (nI (lnc s.B s.len))])
  refine XX.icmp_eq (tgt := 990) dd_L_law_565 (by decide) (fun h565 => ?_) (fun h565 => ?_)
  ·
    exact h990 q2 x2 n f2 kf2 ks2 bc2 br2 ka2 xm2 fm2 gg _ _ _ hq2 hc2 hm2 (by omega) (by omega)
  ·
    exact absurd (hv2 rfl).symm h565

set_option maxRecDepth 100000 in
set_option maxHeartbeats 4000000 in
theorem law_place {G : XG} {b L a1 o C S k : Nat} {xs : Nat → Int32} {qm : Nat → Nat} (htr : ∀ e : Env, G.2.2.2.admits e → e.platform.stackTraces = false) (hL : L ≤ 3072) (hk : 6 * k + 6 ≤ L) (hCb : C + 11 ≤ 601024) (hSb : S + 326 + 320000 ≤ 7293034) (h990 : LST G (LF G b L xs) b a1 o qm (C + 11) (S + 6) 990 k) : LST G (LF G b L xs) b a1 o qm C S 570 k := by
  intro q x n f kf ks bc br ka xm fm gg s cells slots ha hc hm hcl hsl
  subst ha
  have hbl := brk_bc hc.b
  have hnn := hc.nn
  refine (?_ : XX G m_L_law room_1 (LF G b L xs) cells slots (wM G qm xm fm (wC G q x n f kf (ks ++ [LO G o gg]))) 570 [(0, .ref b), (1, .ref (q 0)), (2, .ref (qm 0)), (3, .ref o), (4, .int (nI (6 * k)))] [])
  refine XX.aload_n dd_L_law_570 rfl 1 rfl ?_
  refine XX.aload_n dd_L_law_571 rfl 0 rfl ?_
  refine XX.iload dd_L_law_572 4 rfl ?_
  refine XX.iconst (v := nI 1) dd_L_law_574 (by decide) ?_
  refine XX.iadd dd_L_law_575 ?_
  refine XX.tp (y := nI (6 * k + 1)) (nI_add _ _) ?_
  refine XX.sld (j := 6 * k + 1) dd_L_law_576 (by omega) (by omega) ?_
  refine XX.aload_n dd_L_law_577 rfl 0 rfl ?_
  refine XX.iload dd_L_law_578 4 rfl ?_
  refine XX.iconst (v := nI 2) dd_L_law_580 (by decide) ?_
  refine XX.iadd dd_L_law_581 ?_
  refine XX.tp (y := nI (6 * k + 2)) (nI_add _ _) ?_
  refine XX.sld (j := 6 * k + 2) dd_L_law_582 (by omega) (by omega) ?_
  have j597 : XX G m_L_law room_1 (LF G b L xs) cells slots (wM G qm xm fm (wC G q x n f kf (ks ++ [LO G o gg]))) 597 [(0, .ref b), (1, .ref (q 0)), (2, .ref (qm 0)), (3, .ref o), (4, .int (nI (6 * k)))] [.int (bI (decide (xs (6 * k + 3) ≠ 0))), .int (xs (6 * k + 2)), .int (xs (6 * k + 1)), .ref (q 0)] := by
    refine XX.aload_n dd_L_law_597 rfl 3 rfl ?_
    refine XX.perm (ws2 := wC G q x n f kf (ks ++ LO G o gg :: wM G qm xm fm [])) lw_pm ?_
    refine XX.callSW (Mk := m_L_place) (hh := [(0, 12, 15, 41)]) (n := 5) (As := [.ref (q 0), .int (xs (6 * k + 1)), .int (xs (6 * k + 2)), .int (bI (decide (xs (6 * k + 3) ≠ 0))), .ref o]) (rest := []) (c_L_place (T := wM G qm xm fm []) hc htr (a := xs (6 * k + 1)) (b := xs (6 * k + 2)) (e := decide (xs (6 * k + 3) ≠ 0))) mz_L_place ms_L_place ml_L_97 rfl dd_L_law_598 ⟨xn_le rfl, xn_le rfl⟩ ⟨by show cells + 1 ≤ 601024; omega, by show slots + 6 ≤ 7293034; omega⟩ (xn_le rfl) rfl (fun r1 w1 hp1 => ?_)
    obtain ⟨rfl, n2, g2, hn2, hg2, q2, x2, f2, kf2, ks2, bc2, br2, ka2, rfl, hq2, hc2⟩ := hp1
    refine XX.perm (ws2 := wM G qm xm fm (wC G q2 x2 n2 f2 kf2 (ks2 ++ [LO G o g2]))) lw_pm.symm ?_
    refine (?_ : XX G m_L_law room_1 (LF G b L xs) (cells + 1) (slots + 6) (wM G qm xm fm (wC G q2 x2 n2 f2 kf2 (ks2 ++ [LO G o g2]))) 601 [(0, .ref b), (1, .ref (q 0)), (2, .ref (qm 0)), (3, .ref o), (4, .int (nI (6 * k)))] [.int (nI (t_place s (xs (6 * k + 1)) (xs (6 * k + 2))))])
    refine XX.istore (lv2 := [(5, .int (nI (t_place s (xs (6 * k + 1)) (xs (6 * k + 2))))), (0, .ref b), (1, .ref (q 0)), (2, .ref (qm 0)), (3, .ref o), (4, .int (nI (6 * k)))]) dd_L_law_601 (by decide) rfl ?_
    refine XX.aload_n dd_L_law_603 rfl 3 rfl ?_
    refine XX.aload_n dd_L_law_604 rfl 1 rfl ?_
    refine XX.iload dd_L_law_605 5 rfl ?_
    refine XX.iconst (v := nI 1) dd_L_law_607 (by decide) ?_
    refine XX.iadd dd_L_law_608 ?_
    refine XX.tp (y := nI (6 * k + 1)) (nI_add _ _) ?_
    refine XX.sld (j := 6 * k + 1) dd_L_law_609 (by omega) (by omega) ?_
    refine XX.aload_n dd_L_law_610 rfl 1 rfl ?_
    refine XX.iload dd_L_law_611 5 rfl ?_
    refine XX.iconst (v := nI 2) dd_L_law_613 (by decide) ?_
    refine XX.iadd dd_L_law_614 ?_
    refine XX.tp (y := nI (6 * k + 2)) (nI_add _ _) ?_
    refine XX.sld (j := 6 * k + 2) dd_L_law_615 (by omega) (by omega) ?_
    have j630 : XX G m_L_law room_1 (LF G b L xs) (cells + 1) (slots + 6) (wM G qm xm fm (wC G q2 x2 n2 f2 kf2 (ks2 ++ [LO G o g2]))) 630 [(5, .int (nI (t_place s (xs (6 * k + 1)) (xs (6 * k + 2))))), (0, .ref b), (1, .ref (q 0)), (2, .ref (qm 0)), (3, .ref o), (4, .int (nI (6 * k)))] [.int (bI (decide (xs (6 * k + 3) ≠ 0))), .int (xs (6 * k + 2)), .int (xs (6 * k + 1)), .ref (qm 0)] := by
      refine XX.callV (Mk := m_M_place) (n := 3) (As := [.int (xs (6 * k + 1)), .int (xs (6 * k + 2)), .int (bI (decide (xs (6 * k + 3) ≠ 0)))]) (rest := []) (q0 := 0) (ci := 9) (c_M_place hm) mt_M_place mi_M_place ml_L_100 rfl dd_L_law_630 rfl rfl rfl ⟨xn_le rfl, xn_le rfl⟩ ⟨by show cells + 1 + 0 ≤ 601024; omega, by show slots + 6 + 0 ≤ 7293034; omega⟩ (xn_le rfl) rfl (fun r2 w2 hp2 => ?_)
      obtain ⟨⟨v2, rfl, hv2⟩, xm2, fm2, rfl, h19, hm2⟩ := hp2
      refine (?_ : XX G m_L_law room_1 (LF G b L xs) (cells + 1) (slots + 6) (wM G qm xm2 fm2 (wC G q2 x2 n2 f2 kf2 (ks2 ++ [LO G o g2]))) 633 [(5, .int (nI (t_place s (xs (6 * k + 1)) (xs (6 * k + 2))))), (0, .ref b), (1, .ref (q 0)), (2, .ref (qm 0)), (3, .ref o), (4, .int (nI (6 * k)))] [.int v2])
      refine XX.istore (lv2 := [(6, .int v2), (5, .int (nI (t_place s (xs (6 * k + 1)) (xs (6 * k + 2))))), (0, .ref b), (1, .ref (q 0)), (2, .ref (qm 0)), (3, .ref o), (4, .int (nI (6 * k)))]) dd_L_law_633 (by decide) rfl ?_
      refine XX.aload_n dd_L_law_635 rfl 4 rfl ?_
      refine XX.callVr (Mk := m_M_thrown) (n := 0) (As := []) (rest := []) (q0 := 0) (ci := 9) c_M_thrown mt_M_thrown mi_M_thrown ml_L_68 rfl dd_L_law_636 rfl rfl rfl ⟨xn_le rfl, xn_le rfl⟩ ⟨by show cells + 1 + 0 ≤ 601024; omega, by show slots + 6 + 0 ≤ 7293034; omega⟩ (xn_le rfl) rfl ?_
      refine XX.tp (y := nI (t_place s (xs (6 * k + 1)) (xs (6 * k + 2)))) (h19) ?_
      refine XX.iload dd_L_law_639 1 rfl ?_
      refine XX.icmp_eq (tgt := 646) dd_L_law_641 (by decide) (fun h641 => ?_) (fun h641 => ?_)
      ·
        refine XX.iload dd_L_law_646 1 rfl ?_
        refine XX.if_ne (tgt := 663) dd_L_law_648 (by decide) (fun h648 => ?_) (fun h648 => ?_)
        ·
          refine XX.goto (tgt := 990) dd_L_law_663 (by decide) ?_
          refine XX.lvs [2, 3, 4, 5, 6] rfl ?_
          exact h990 q2 x2 n2 f2 kf2 ks2 bc2 br2 ka2 xm2 fm2 g2 _ _ _ hq2 hc2 hm2 (by omega) (by omega)
        ·
          have ht0 : t_place s (xs (6 * k + 1)) (xs (6 * k + 2)) = 0 := nI_nul h648 (by unfold t_place tb; split <;> omega)
          refine XX.aload_n dd_L_law_651 rfl 5 rfl ?_
          refine XX.iconst (v := nI 0) dd_L_law_652 (by decide) ?_
          refine XX.perm (ws2 := LO G o g2 :: wM G qm xm2 fm2 (wC G q2 x2 n2 f2 kf2 (ks2))) lw_po ?_
          refine XX.lald (q0 := 0) (n := 1) (j := 0) (f := g2) dd_L_law_653 rfl (by decide) (by decide) ?_
          refine XX.perm (ws2 := wM G qm xm2 fm2 (wC G q2 x2 n2 f2 kf2 (ks2 ++ [LO G o g2]))) lw_po.symm ?_
          refine XX.iload dd_L_law_654 0 rfl ?_
          refine XX.i2l (v := v2.toInt64) dd_L_law_656 (rfl) ?_
          refine XX.lcmp dd_L_law_657 ?_
          refine XX.if_eq (tgt := 663) dd_L_law_658 (by decide) (fun h658 => ?_) (fun h658 => ?_)
          ·
            refine XX.goto (tgt := 990) dd_L_law_663 (by decide) ?_
            refine XX.lvs [2, 3, 4, 5, 6] rfl ?_
            exact h990 q2 x2 n2 f2 kf2 ks2 bc2 br2 ka2 xm2 fm2 g2 _ _ _ hq2 hc2 hm2 (by omega) (by omega)
          ·
            exact absurd (by rw [hg2 ht0, hv2 ht0]; exact lg_cmp_self _) h658
      ·
        exact absurd rfl h641
    refine XX.aload_n dd_L_law_616 rfl 1 rfl ?_
    refine XX.iload dd_L_law_617 5 rfl ?_
    refine XX.iconst (v := nI 3) dd_L_law_619 (by decide) ?_
    refine XX.iadd dd_L_law_620 ?_
    refine XX.tp (y := nI (6 * k + 3)) (nI_add _ _) ?_
    refine XX.sld (j := 6 * k + 3) dd_L_law_621 (by omega) (by omega) ?_
    refine XX.if_eq (tgt := 629) dd_L_law_622 (by decide) (fun h622 => ?_) (fun h622 => ?_)
    ·
      refine XX.iconst (v := nI 0) dd_L_law_629 (by decide) ?_
      exact XX.tp (by rw [decide_eq_false (by intro z; exact z (by assumption))]; rfl) j630
    ·
      refine XX.iconst (v := nI 1) dd_L_law_625 (by decide) ?_
      refine XX.goto (tgt := 630) dd_L_law_626 (by decide) ?_
      exact XX.tp (by rw [decide_eq_true (by assumption)]; rfl) j630
  refine XX.aload_n dd_L_law_583 rfl 0 rfl ?_
  refine XX.iload dd_L_law_584 4 rfl ?_
  refine XX.iconst (v := nI 3) dd_L_law_586 (by decide) ?_
  refine XX.iadd dd_L_law_587 ?_
  refine XX.tp (y := nI (6 * k + 3)) (nI_add _ _) ?_
  refine XX.sld (j := 6 * k + 3) dd_L_law_588 (by omega) (by omega) ?_
  refine XX.if_eq (tgt := 596) dd_L_law_589 (by decide) (fun h589 => ?_) (fun h589 => ?_)
  ·
    refine XX.iconst (v := nI 0) dd_L_law_596 (by decide) ?_
    exact XX.tp (by rw [decide_eq_false (by intro z; exact z (by assumption))]; rfl) j597
  ·
    refine XX.iconst (v := nI 1) dd_L_law_592 (by decide) ?_
    refine XX.goto (tgt := 597) dd_L_law_593 (by decide) ?_
    exact XX.tp (by rw [decide_eq_true (by assumption)]; rfl) j597

set_option maxRecDepth 100000 in
set_option maxHeartbeats 4000000 in
theorem law_compare {G : XG} {b L a1 o C S k : Nat} {xs : Nat → Int32} {qm : Nat → Nat} (htr : ∀ e : Env, G.2.2.2.admits e → e.platform.stackTraces = false) (hL : L ≤ 3072) (hk : 6 * k + 6 ≤ L) (hCb : C + 11 ≤ 601024) (hSb : S + 326 + 320000 ≤ 7293034) (h990 : LST G (LF G b L xs) b a1 o qm (C + 11) (S + 6) 990 k) : LST G (LF G b L xs) b a1 o qm C S 666 k := by
  intro q x n f kf ks bc br ka xm fm gg s cells slots ha hc hm hcl hsl
  subst ha
  have hbl := brk_bc hc.b
  have hnn := hc.nn
  refine (?_ : XX G m_L_law room_1 (LF G b L xs) cells slots (wM G qm xm fm (wC G q x n f kf (ks ++ [LO G o gg]))) 666 [(0, .ref b), (1, .ref (q 0)), (2, .ref (qm 0)), (3, .ref o), (4, .int (nI (6 * k)))] [])
  refine XX.aload_n dd_L_law_666 rfl 1 rfl ?_
  refine XX.aload_n dd_L_law_667 rfl 0 rfl ?_
  refine XX.iload dd_L_law_668 4 rfl ?_
  refine XX.iconst (v := nI 1) dd_L_law_670 (by decide) ?_
  refine XX.iadd dd_L_law_671 ?_
  refine XX.tp (y := nI (6 * k + 1)) (nI_add _ _) ?_
  refine XX.sld (j := 6 * k + 1) dd_L_law_672 (by omega) (by omega) ?_
  refine XX.aload_n dd_L_law_673 rfl 0 rfl ?_
  refine XX.iload dd_L_law_674 4 rfl ?_
  refine XX.iconst (v := nI 2) dd_L_law_676 (by decide) ?_
  refine XX.iadd dd_L_law_677 ?_
  refine XX.tp (y := nI (6 * k + 2)) (nI_add _ _) ?_
  refine XX.sld (j := 6 * k + 2) dd_L_law_678 (by omega) (by omega) ?_
  refine XX.aload_n dd_L_law_679 rfl 3 rfl ?_
  refine XX.perm (ws2 := wC G q x n f kf (ks ++ LO G o gg :: wM G qm xm fm [])) lw_pm ?_
  refine XX.callSW (Mk := m_L_compare) (hh := [(0, 10, 13, 41)]) (n := 4) (As := [.ref (q 0), .int (xs (6 * k + 1)), .int (xs (6 * k + 2)), .ref o]) (rest := []) (c_L_compare (T := wM G qm xm fm []) hc htr (a := xs (6 * k + 1)) (b := xs (6 * k + 2))) mz_L_compare ms_L_compare ml_L_101 rfl dd_L_law_680 ⟨xn_le rfl, xn_le rfl⟩ ⟨by show cells + 1 ≤ 601024; omega, by show slots + 6 ≤ 7293034; omega⟩ (xn_le rfl) rfl (fun r1 w1 hp1 => ?_)
  obtain ⟨rfl, n2, g2, hn2, hg2, q2, x2, f2, kf2, ks2, bc2, br2, ka2, rfl, hq2, hc2⟩ := hp1
  refine XX.perm (ws2 := wM G qm xm fm (wC G q2 x2 n2 f2 kf2 (ks2 ++ [LO G o g2]))) lw_pm.symm ?_
  refine (?_ : XX G m_L_law room_1 (LF G b L xs) (cells + 1) (slots + 6) (wM G qm xm fm (wC G q2 x2 n2 f2 kf2 (ks2 ++ [LO G o g2]))) 683 [(0, .ref b), (1, .ref (q 0)), (2, .ref (qm 0)), (3, .ref o), (4, .int (nI (6 * k)))] [.int (nI (t_compare s (xs (6 * k + 1)) (xs (6 * k + 2))))])
  refine XX.istore (lv2 := [(5, .int (nI (t_compare s (xs (6 * k + 1)) (xs (6 * k + 2))))), (0, .ref b), (1, .ref (q 0)), (2, .ref (qm 0)), (3, .ref o), (4, .int (nI (6 * k)))]) dd_L_law_683 (by decide) rfl ?_
  refine XX.aload_n dd_L_law_685 rfl 3 rfl ?_
  refine XX.aload_n dd_L_law_686 rfl 1 rfl ?_
  refine XX.iload dd_L_law_687 5 rfl ?_
  refine XX.iconst (v := nI 1) dd_L_law_689 (by decide) ?_
  refine XX.iadd dd_L_law_690 ?_
  refine XX.tp (y := nI (6 * k + 1)) (nI_add _ _) ?_
  refine XX.sld (j := 6 * k + 1) dd_L_law_691 (by omega) (by omega) ?_
  refine XX.aload_n dd_L_law_692 rfl 1 rfl ?_
  refine XX.iload dd_L_law_693 5 rfl ?_
  refine XX.iconst (v := nI 2) dd_L_law_695 (by decide) ?_
  refine XX.iadd dd_L_law_696 ?_
  refine XX.tp (y := nI (6 * k + 2)) (nI_add _ _) ?_
  refine XX.sld (j := 6 * k + 2) dd_L_law_697 (by omega) (by omega) ?_
  refine XX.callV (Mk := m_M_compare) (n := 2) (As := [.int (xs (6 * k + 1)), .int (xs (6 * k + 2))]) (rest := []) (q0 := 0) (ci := 9) (c_M_compare hm) mt_M_compare mi_M_compare ml_L_104 rfl dd_L_law_698 rfl rfl rfl ⟨xn_le rfl, xn_le rfl⟩ ⟨by show cells + 1 + 0 ≤ 601024; omega, by show slots + 6 + 0 ≤ 7293034; omega⟩ (xn_le rfl) rfl (fun r2 w2 hp2 => ?_)
  obtain ⟨⟨v2, rfl, hv2⟩, xm2, fm2, rfl, h19, hm2⟩ := hp2
  refine (?_ : XX G m_L_law room_1 (LF G b L xs) (cells + 1) (slots + 6) (wM G qm xm2 fm2 (wC G q2 x2 n2 f2 kf2 (ks2 ++ [LO G o g2]))) 701 [(5, .int (nI (t_compare s (xs (6 * k + 1)) (xs (6 * k + 2))))), (0, .ref b), (1, .ref (q 0)), (2, .ref (qm 0)), (3, .ref o), (4, .int (nI (6 * k)))] [.int v2])
  refine XX.istore (lv2 := [(6, .int v2), (5, .int (nI (t_compare s (xs (6 * k + 1)) (xs (6 * k + 2))))), (0, .ref b), (1, .ref (q 0)), (2, .ref (qm 0)), (3, .ref o), (4, .int (nI (6 * k)))]) dd_L_law_701 (by decide) rfl ?_
  refine XX.aload_n dd_L_law_703 rfl 4 rfl ?_
  refine XX.callVr (Mk := m_M_thrown) (n := 0) (As := []) (rest := []) (q0 := 0) (ci := 9) c_M_thrown mt_M_thrown mi_M_thrown ml_L_68 rfl dd_L_law_704 rfl rfl rfl ⟨xn_le rfl, xn_le rfl⟩ ⟨by show cells + 1 + 0 ≤ 601024; omega, by show slots + 6 + 0 ≤ 7293034; omega⟩ (xn_le rfl) rfl ?_
  refine XX.tp (y := nI (t_compare s (xs (6 * k + 1)) (xs (6 * k + 2)))) (h19) ?_
  refine XX.iload dd_L_law_707 1 rfl ?_
  refine XX.icmp_eq (tgt := 714) dd_L_law_709 (by decide) (fun h709 => ?_) (fun h709 => ?_)
  ·
    refine XX.iload dd_L_law_714 1 rfl ?_
    refine XX.if_ne (tgt := 731) dd_L_law_716 (by decide) (fun h716 => ?_) (fun h716 => ?_)
    ·
      refine XX.goto (tgt := 990) dd_L_law_731 (by decide) ?_
      refine XX.lvs [2, 3, 4, 5, 6] rfl ?_
      exact h990 q2 x2 n2 f2 kf2 ks2 bc2 br2 ka2 xm2 fm2 g2 _ _ _ hq2 hc2 hm2 (by omega) (by omega)
    ·
      have ht0 : t_compare s (xs (6 * k + 1)) (xs (6 * k + 2)) = 0 := nI_nul h716 (by unfold t_compare tb; split <;> omega)
      refine XX.aload_n dd_L_law_719 rfl 5 rfl ?_
      refine XX.iconst (v := nI 0) dd_L_law_720 (by decide) ?_
      refine XX.perm (ws2 := LO G o g2 :: wM G qm xm2 fm2 (wC G q2 x2 n2 f2 kf2 (ks2))) lw_po ?_
      refine XX.lald (q0 := 0) (n := 1) (j := 0) (f := g2) dd_L_law_721 rfl (by decide) (by decide) ?_
      refine XX.perm (ws2 := wM G qm xm2 fm2 (wC G q2 x2 n2 f2 kf2 (ks2 ++ [LO G o g2]))) lw_po.symm ?_
      refine XX.iload dd_L_law_722 0 rfl ?_
      refine XX.i2l (v := v2.toInt64) dd_L_law_724 (rfl) ?_
      refine XX.lcmp dd_L_law_725 ?_
      refine XX.if_eq (tgt := 731) dd_L_law_726 (by decide) (fun h726 => ?_) (fun h726 => ?_)
      ·
        refine XX.goto (tgt := 990) dd_L_law_731 (by decide) ?_
        refine XX.lvs [2, 3, 4, 5, 6] rfl ?_
        exact h990 q2 x2 n2 f2 kf2 ks2 bc2 br2 ka2 xm2 fm2 g2 _ _ _ hq2 hc2 hm2 (by omega) (by omega)
      ·
        exact absurd (by rw [hg2 ht0, hv2 ht0]; exact lg_cmp_self _) h726
  ·
    exact absurd rfl h709

set_option maxRecDepth 100000 in
set_option maxHeartbeats 4000000 in
theorem law_sort {G : XG} {b L a1 o C S k : Nat} {xs : Nat → Int32} {qm : Nat → Nat} (htr : ∀ e : Env, G.2.2.2.admits e → e.platform.stackTraces = false) (hL : L ≤ 3072) (hk : 6 * k + 6 ≤ L) (hCb : C + 11 ≤ 601024) (hSb : S + 326 + 320000 ≤ 7293034) (h990 : LST G (LF G b L xs) b a1 o qm (C + 11) (S + 6) 990 k) : LST G (LF G b L xs) b a1 o qm C S 734 k := by
  intro q x n f kf ks bc br ka xm fm gg s cells slots ha hc hm hcl hsl
  subst ha
  have hbl := brk_bc hc.b
  have hnn := hc.nn
  refine (?_ : XX G m_L_law room_1 (LF G b L xs) cells slots (wM G qm xm fm (wC G q x n f kf (ks ++ [LO G o gg]))) 734 [(0, .ref b), (1, .ref (q 0)), (2, .ref (qm 0)), (3, .ref o), (4, .int (nI (6 * k)))] [])
  refine XX.aload_n dd_L_law_734 rfl 1 rfl ?_
  refine XX.aload_n dd_L_law_735 rfl 3 rfl ?_
  refine XX.perm (ws2 := wC G q x n f kf (ks ++ LO G o gg :: wM G qm xm fm [])) lw_pm ?_
  refine XX.callSW (Mk := m_L_sort) (hh := [(0, 8, 11, 31)]) (n := 2) (As := [.ref (q 0), .ref o]) (rest := []) (c_L_sort (T := wM G qm xm fm []) hc htr) mz_L_sort ms_L_sort ml_L_105 rfl dd_L_law_736 ⟨xn_le rfl, xn_le rfl⟩ ⟨by show cells + 1 ≤ 601024; omega, by show slots + 6 ≤ 7293034; omega⟩ (xn_le rfl) rfl (fun r1 w1 hp1 => ?_)
  obtain ⟨rfl, n2, g2, hn2, hg2, q2, x2, f2, kf2, ks2, bc2, br2, ka2, rfl, hq2, hc2⟩ := hp1
  refine XX.perm (ws2 := wM G qm xm fm (wC G q2 x2 n2 f2 kf2 (ks2 ++ [LO G o g2]))) lw_pm.symm ?_
  refine (?_ : XX G m_L_law room_1 (LF G b L xs) (cells + 1) (slots + 6) (wM G qm xm fm (wC G q2 x2 n2 f2 kf2 (ks2 ++ [LO G o g2]))) 739 [(0, .ref b), (1, .ref (q 0)), (2, .ref (qm 0)), (3, .ref o), (4, .int (nI (6 * k)))] [.int (nI (t_sort s))])
  refine XX.istore (lv2 := [(5, .int (nI (t_sort s))), (0, .ref b), (1, .ref (q 0)), (2, .ref (qm 0)), (3, .ref o), (4, .int (nI (6 * k)))]) dd_L_law_739 (by decide) rfl ?_
  refine XX.aload_n dd_L_law_741 rfl 3 rfl ?_
  refine XX.callV (Mk := m_M_sort) (n := 0) (As := []) (rest := []) (q0 := 0) (ci := 9) (c_M_sort hm) mt_M_sort mi_M_sort ml_L_108 rfl dd_L_law_742 rfl rfl rfl ⟨xn_le rfl, xn_le rfl⟩ ⟨by show cells + 1 + 0 ≤ 601024; omega, by show slots + 6 + 0 ≤ 7293034; omega⟩ (xn_le rfl) rfl (fun r2 w2 hp2 => ?_)
  obtain ⟨⟨v2, rfl, hv2⟩, xm2, fm2, rfl, h19, hm2⟩ := hp2
  refine (?_ : XX G m_L_law room_1 (LF G b L xs) (cells + 1) (slots + 6) (wM G qm xm2 fm2 (wC G q2 x2 n2 f2 kf2 (ks2 ++ [LO G o g2]))) 745 [(5, .int (nI (t_sort s))), (0, .ref b), (1, .ref (q 0)), (2, .ref (qm 0)), (3, .ref o), (4, .int (nI (6 * k)))] [.int v2])
  refine XX.istore (lv2 := [(6, .int v2), (5, .int (nI (t_sort s))), (0, .ref b), (1, .ref (q 0)), (2, .ref (qm 0)), (3, .ref o), (4, .int (nI (6 * k)))]) dd_L_law_745 (by decide) rfl ?_
  refine XX.aload_n dd_L_law_747 rfl 4 rfl ?_
  refine XX.callVr (Mk := m_M_thrown) (n := 0) (As := []) (rest := []) (q0 := 0) (ci := 9) c_M_thrown mt_M_thrown mi_M_thrown ml_L_68 rfl dd_L_law_748 rfl rfl rfl ⟨xn_le rfl, xn_le rfl⟩ ⟨by show cells + 1 + 0 ≤ 601024; omega, by show slots + 6 + 0 ≤ 7293034; omega⟩ (xn_le rfl) rfl ?_
  refine XX.tp (y := nI (t_sort s)) (h19) ?_
  refine XX.iload dd_L_law_751 1 rfl ?_
  refine XX.icmp_eq (tgt := 758) dd_L_law_753 (by decide) (fun h753 => ?_) (fun h753 => ?_)
  ·
    refine XX.iload dd_L_law_758 1 rfl ?_
    refine XX.if_ne (tgt := 775) dd_L_law_760 (by decide) (fun h760 => ?_) (fun h760 => ?_)
    ·
      refine XX.goto (tgt := 990) dd_L_law_775 (by decide) ?_
      refine XX.lvs [2, 3, 4, 5, 6] rfl ?_
      exact h990 q2 x2 n2 f2 kf2 ks2 bc2 br2 ka2 xm2 fm2 g2 _ _ _ hq2 hc2 (by rw [← (t_sort_eq hc.g).1]; exact hm2) (by omega) (by omega)
    ·
      have ht0 : t_sort s = 0 := nI_nul h760 (by unfold t_sort tb; split <;> omega)
      refine XX.aload_n dd_L_law_763 rfl 5 rfl ?_
      refine XX.iconst (v := nI 0) dd_L_law_764 (by decide) ?_
      refine XX.perm (ws2 := LO G o g2 :: wM G qm xm2 fm2 (wC G q2 x2 n2 f2 kf2 (ks2))) lw_po ?_
      refine XX.lald (q0 := 0) (n := 1) (j := 0) (f := g2) dd_L_law_765 rfl (by decide) (by decide) ?_
      refine XX.perm (ws2 := wM G qm xm2 fm2 (wC G q2 x2 n2 f2 kf2 (ks2 ++ [LO G o g2]))) lw_po.symm ?_
      refine XX.iload dd_L_law_766 0 rfl ?_
      refine XX.i2l (v := v2.toInt64) dd_L_law_768 (rfl) ?_
      refine XX.lcmp dd_L_law_769 ?_
      refine XX.if_eq (tgt := 775) dd_L_law_770 (by decide) (fun h770 => ?_) (fun h770 => ?_)
      ·
        refine XX.goto (tgt := 990) dd_L_law_775 (by decide) ?_
        refine XX.lvs [2, 3, 4, 5, 6] rfl ?_
        exact h990 q2 x2 n2 f2 kf2 ks2 bc2 br2 ka2 xm2 fm2 g2 _ _ _ hq2 hc2 (by rw [← (t_sort_eq hc.g).1]; exact hm2) (by omega) (by omega)
      ·
        exact absurd (by rw [hg2 ht0, hv2 ht0, (t_sort_eq hc.g).2 ht0]; exact lg_cmp_self _) h770
  ·
    exact absurd rfl h753

set_option maxRecDepth 100000 in
set_option maxHeartbeats 4000000 in
theorem law_check {G : XG} {b L a1 o C S k : Nat} {xs : Nat → Int32} {qm : Nat → Nat} (htr : ∀ e : Env, G.2.2.2.admits e → e.platform.stackTraces = false) (hL : L ≤ 3072) (hk : 6 * k + 6 ≤ L) (hCb : C + 11 ≤ 601024) (hSb : S + 326 + 320000 ≤ 7293034) (h990 : LST G (LF G b L xs) b a1 o qm (C + 11) (S + 6) 990 k) : LST G (LF G b L xs) b a1 o qm C S 778 k := by
  intro q x n f kf ks bc br ka xm fm gg s cells slots ha hc hm hcl hsl
  subst ha
  have hbl := brk_bc hc.b
  have hnn := hc.nn
  refine (?_ : XX G m_L_law room_1 (LF G b L xs) cells slots (wM G qm xm fm (wC G q x n f kf (ks ++ [LO G o gg]))) 778 [(0, .ref b), (1, .ref (q 0)), (2, .ref (qm 0)), (3, .ref o), (4, .int (nI (6 * k)))] [])
  refine XX.aload_n dd_L_law_778 rfl 1 rfl ?_
  refine XX.perm (ws2 := wC G q x n f kf (ks ++ LO G o gg :: wM G qm xm fm [])) lw_pm ?_
  refine XX.callV (Mk := m_S_check) (n := 0) (As := []) (rest := []) (q0 := 0) (ci := 0) (c_S_check (T := LO G o gg :: wM G qm xm fm []) hc) mt_S_check mi_S_check ml_L_109 rfl dd_L_law_779 rfl rfl rfl ⟨xn_le rfl, xn_le rfl⟩ ⟨by show cells + 0 ≤ 601024; omega, by show slots + 0 ≤ 7293034; omega⟩ (xn_le rfl) rfl (fun r1 w1 hp1 => ?_)
  obtain ⟨rfl, q2, x2, f2, kf2, ks2, bc2, br2, ka2, rfl, hq2, hc2⟩ := hp1
  refine XX.perm (ws2 := wM G qm xm fm (wC G q2 x2 n f2 kf2 (ks2 ++ [LO G o gg]))) lw_pm.symm ?_
  refine (?_ : XX G m_L_law room_1 (LF G b L xs) cells slots (wM G qm xm fm (wC G q2 x2 n f2 kf2 (ks2 ++ [LO G o gg]))) 782 [(0, .ref b), (1, .ref (q 0)), (2, .ref (qm 0)), (3, .ref o), (4, .int (nI (6 * k)))] [.int (v_check s)])
  refine XX.aload_n dd_L_law_782 rfl 2 rfl ?_
  refine XX.callV (Mk := m_M_check) (n := 0) (As := []) (rest := [.int (v_check s)]) (q0 := 0) (ci := 9) (c_M_check hm) mt_M_check mi_M_check ml_L_112 rfl dd_L_law_783 rfl rfl rfl ⟨xn_le rfl, xn_le rfl⟩ ⟨by show cells + 0 ≤ 601024; omega, by show slots + 0 ≤ 7293034; omega⟩ (xn_le rfl) rfl (fun r2 w2 hp2 => ?_)
  obtain ⟨⟨v2, rfl, hv2⟩, xm2, fm2, rfl, h19, hm2⟩ := hp2
  refine (?_ : XX G m_L_law room_1 (LF G b L xs) cells slots (wM G qm xm2 fm2 (wC G q2 x2 n f2 kf2 (ks2 ++ [LO G o gg]))) 786 [(0, .ref b), (1, .ref (q 0)), (2, .ref (qm 0)), (3, .ref o), (4, .int (nI (6 * k)))] [.int v2, .int (v_check s)])
  refine XX.icmp_eq (tgt := 990) dd_L_law_786 (by decide) (fun h786 => ?_) (fun h786 => ?_)
  ·
    exact h990 q2 x2 n f2 kf2 ks2 bc2 br2 ka2 xm2 fm2 gg _ _ _ hq2 hc2 hm2 (by omega) (by omega)
  ·
    exact absurd (hv2 rfl).symm h786

set_option maxRecDepth 100000 in
set_option maxHeartbeats 4000000 in
theorem law_merge {G : XG} {b L a1 o C S k : Nat} {xs : Nat → Int32} {qm : Nat → Nat} (htr : ∀ e : Env, G.2.2.2.admits e → e.platform.stackTraces = false) (hL : L ≤ 3072) (hk : 6 * k + 6 ≤ L) (hCb : C + 11 ≤ 601024) (hSb : S + 326 + 320000 ≤ 7293034) (h990 : LST G (LF G b L xs) b a1 o qm (C + 11) (S + 6) 990 k) : LST G (LF G b L xs) b a1 o qm C S 791 k := by
  intro q x n f kf ks bc br ka xm fm gg s cells slots ha hc hm hcl hsl
  subst ha
  have hbl := brk_bc hc.b
  have hnn := hc.nn
  refine (?_ : XX G m_L_law room_1 (LF G b L xs) cells slots (wM G qm xm fm (wC G q x n f kf (ks ++ [LO G o gg]))) 791 [(0, .ref b), (1, .ref (q 0)), (2, .ref (qm 0)), (3, .ref o), (4, .int (nI (6 * k)))] [])
  refine XX.aload_n dd_L_law_791 rfl 1 rfl ?_
  refine XX.aload_n dd_L_law_792 rfl 0 rfl ?_
  refine XX.iload dd_L_law_793 4 rfl ?_
  refine XX.iconst (v := nI 1) dd_L_law_795 (by decide) ?_
  refine XX.iadd dd_L_law_796 ?_
  refine XX.tp (y := nI (6 * k + 1)) (nI_add _ _) ?_
  refine XX.sld (j := 6 * k + 1) dd_L_law_797 (by omega) (by omega) ?_
  refine XX.aload_n dd_L_law_798 rfl 3 rfl ?_
  refine XX.perm (ws2 := wC G q x n f kf (ks ++ LO G o gg :: wM G qm xm fm [])) lw_pm ?_
  refine XX.callSW (Mk := m_L_merge) (hh := [(0, 9, 12, 19), (0, 9, 15, 31)]) (n := 3) (As := [.ref (q 0), .int (xs (6 * k + 1)), .ref o]) (rest := []) (c_L_merge (T := wM G qm xm fm []) hc htr (a := xs (6 * k + 1))) mz_L_merge ms_L_merge ml_L_113 rfl dd_L_law_799 ⟨xn_le rfl, xn_le rfl⟩ ⟨by show cells + 1 ≤ 601024; omega, by show slots + 6 ≤ 7293034; omega⟩ (xn_le rfl) rfl (fun r1 w1 hp1 => ?_)
  obtain ⟨rfl, n2, g2, hn2, hg2, q2, x2, f2, kf2, ks2, bc2, br2, ka2, rfl, hq2, hc2⟩ := hp1
  refine XX.perm (ws2 := wM G qm xm fm (wC G q2 x2 n2 f2 kf2 (ks2 ++ [LO G o g2]))) lw_pm.symm ?_
  refine (?_ : XX G m_L_law room_1 (LF G b L xs) (cells + 1) (slots + 6) (wM G qm xm fm (wC G q2 x2 n2 f2 kf2 (ks2 ++ [LO G o g2]))) 802 [(0, .ref b), (1, .ref (q 0)), (2, .ref (qm 0)), (3, .ref o), (4, .int (nI (6 * k)))] [.int (nI (t_merge s (xs (6 * k + 1))))])
  refine XX.istore (lv2 := [(5, .int (nI (t_merge s (xs (6 * k + 1))))), (0, .ref b), (1, .ref (q 0)), (2, .ref (qm 0)), (3, .ref o), (4, .int (nI (6 * k)))]) dd_L_law_802 (by decide) rfl ?_
  refine XX.aload_n dd_L_law_804 rfl 3 rfl ?_
  refine XX.aload_n dd_L_law_805 rfl 1 rfl ?_
  refine XX.iload dd_L_law_806 5 rfl ?_
  refine XX.iconst (v := nI 1) dd_L_law_808 (by decide) ?_
  refine XX.iadd dd_L_law_809 ?_
  refine XX.tp (y := nI (6 * k + 1)) (nI_add _ _) ?_
  refine XX.sld (j := 6 * k + 1) dd_L_law_810 (by omega) (by omega) ?_
  refine XX.callV (Mk := m_M_merge) (n := 1) (As := [.int (xs (6 * k + 1))]) (rest := []) (q0 := 0) (ci := 9) (c_M_merge hm) mt_M_merge mi_M_merge ml_L_116 rfl dd_L_law_811 rfl rfl rfl ⟨xn_le rfl, xn_le rfl⟩ ⟨by show cells + 1 + 0 ≤ 601024; omega, by show slots + 6 + 0 ≤ 7293034; omega⟩ (xn_le rfl) rfl (fun r2 w2 hp2 => ?_)
  obtain ⟨⟨v2, rfl, hv2⟩, xm2, fm2, rfl, h19, hm2⟩ := hp2
  refine (?_ : XX G m_L_law room_1 (LF G b L xs) (cells + 1) (slots + 6) (wM G qm xm2 fm2 (wC G q2 x2 n2 f2 kf2 (ks2 ++ [LO G o g2]))) 814 [(5, .int (nI (t_merge s (xs (6 * k + 1))))), (0, .ref b), (1, .ref (q 0)), (2, .ref (qm 0)), (3, .ref o), (4, .int (nI (6 * k)))] [.int v2])
  refine XX.istore (lv2 := [(6, .int v2), (5, .int (nI (t_merge s (xs (6 * k + 1))))), (0, .ref b), (1, .ref (q 0)), (2, .ref (qm 0)), (3, .ref o), (4, .int (nI (6 * k)))]) dd_L_law_814 (by decide) rfl ?_
  refine XX.aload_n dd_L_law_816 rfl 4 rfl ?_
  refine XX.callVr (Mk := m_M_thrown) (n := 0) (As := []) (rest := []) (q0 := 0) (ci := 9) c_M_thrown mt_M_thrown mi_M_thrown ml_L_68 rfl dd_L_law_817 rfl rfl rfl ⟨xn_le rfl, xn_le rfl⟩ ⟨by show cells + 1 + 0 ≤ 601024; omega, by show slots + 6 + 0 ≤ 7293034; omega⟩ (xn_le rfl) rfl ?_
  refine XX.tp (y := nI (t_merge s (xs (6 * k + 1)))) (h19) ?_
  refine XX.iload dd_L_law_820 1 rfl ?_
  refine XX.icmp_eq (tgt := 827) dd_L_law_822 (by decide) (fun h822 => ?_) (fun h822 => ?_)
  ·
    refine XX.iload dd_L_law_827 1 rfl ?_
    refine XX.if_ne (tgt := 844) dd_L_law_829 (by decide) (fun h829 => ?_) (fun h829 => ?_)
    ·
      refine XX.goto (tgt := 990) dd_L_law_844 (by decide) ?_
      refine XX.lvs [2, 3, 4, 5, 6] rfl ?_
      exact h990 q2 x2 n2 f2 kf2 ks2 bc2 br2 ka2 xm2 fm2 g2 _ _ _ hq2 hc2 hm2 (by omega) (by omega)
    ·
      have ht0 : t_merge s (xs (6 * k + 1)) = 0 := nI_nul h829 (by unfold t_merge tb; split <;> (try split) <;> omega)
      refine XX.aload_n dd_L_law_832 rfl 5 rfl ?_
      refine XX.iconst (v := nI 0) dd_L_law_833 (by decide) ?_
      refine XX.perm (ws2 := LO G o g2 :: wM G qm xm2 fm2 (wC G q2 x2 n2 f2 kf2 (ks2))) lw_po ?_
      refine XX.lald (q0 := 0) (n := 1) (j := 0) (f := g2) dd_L_law_834 rfl (by decide) (by decide) ?_
      refine XX.perm (ws2 := wM G qm xm2 fm2 (wC G q2 x2 n2 f2 kf2 (ks2 ++ [LO G o g2]))) lw_po.symm ?_
      refine XX.iload dd_L_law_835 0 rfl ?_
      refine XX.i2l (v := v2.toInt64) dd_L_law_837 (rfl) ?_
      refine XX.lcmp dd_L_law_838 ?_
      refine XX.if_eq (tgt := 844) dd_L_law_839 (by decide) (fun h839 => ?_) (fun h839 => ?_)
      ·
        refine XX.goto (tgt := 990) dd_L_law_844 (by decide) ?_
        refine XX.lvs [2, 3, 4, 5, 6] rfl ?_
        exact h990 q2 x2 n2 f2 kf2 ks2 bc2 br2 ka2 xm2 fm2 g2 _ _ _ hq2 hc2 hm2 (by omega) (by omega)
      ·
        exact absurd (by rw [hg2 ht0, hv2 ht0]; exact lg_cmp_self _) h839
  ·
    exact absurd rfl h822

set_option maxRecDepth 100000 in
set_option maxHeartbeats 4000000 in
theorem law_result {G : XG} {b L a1 o C S k : Nat} {xs : Nat → Int32} {qm : Nat → Nat} (htr : ∀ e : Env, G.2.2.2.admits e → e.platform.stackTraces = false) (hL : L ≤ 3072) (hk : 6 * k + 6 ≤ L) (hCb : C + 11 ≤ 601024) (hSb : S + 326 + 320000 ≤ 7293034) (h990 : LST G (LF G b L xs) b a1 o qm (C + 11) (S + 6) 990 k) : LST G (LF G b L xs) b a1 o qm C S 847 k := by
  intro q x n f kf ks bc br ka xm fm gg s cells slots ha hc hm hcl hsl
  subst ha
  have hbl := brk_bc hc.b
  have hnn := hc.nn
  refine (?_ : XX G m_L_law room_1 (LF G b L xs) cells slots (wM G qm xm fm (wC G q x n f kf (ks ++ [LO G o gg]))) 847 [(0, .ref b), (1, .ref (q 0)), (2, .ref (qm 0)), (3, .ref o), (4, .int (nI (6 * k)))] [])
  refine XX.aload_n dd_L_law_847 rfl 1 rfl ?_
  refine XX.aload_n dd_L_law_848 rfl 0 rfl ?_
  refine XX.iload dd_L_law_849 4 rfl ?_
  refine XX.iconst (v := nI 1) dd_L_law_851 (by decide) ?_
  refine XX.iadd dd_L_law_852 ?_
  refine XX.tp (y := nI (6 * k + 1)) (nI_add _ _) ?_
  refine XX.sld (j := 6 * k + 1) dd_L_law_853 (by omega) (by omega) ?_
  refine XX.perm (ws2 := wC G q x n f kf (ks ++ LO G o gg :: wM G qm xm fm [])) lw_pm ?_
  refine XX.callV (Mk := m_S_result) (n := 1) (As := [.int (xs (6 * k + 1))]) (rest := []) (q0 := 0) (ci := 0) (c_S_result (T := LO G o gg :: wM G qm xm fm []) hc) mt_S_result mi_S_result ml_L_117 rfl dd_L_law_854 rfl rfl rfl ⟨xn_le rfl, xn_le rfl⟩ ⟨by show cells + 0 ≤ 601024; omega, by show slots + 0 ≤ 7293034; omega⟩ (xn_le rfl) rfl (fun r1 w1 hp1 => ?_)
  obtain ⟨rfl, q2, x2, f2, kf2, ks2, bc2, br2, ka2, rfl, hq2, hc2⟩ := hp1
  refine XX.perm (ws2 := wM G qm xm fm (wC G q2 x2 n f2 kf2 (ks2 ++ [LO G o gg]))) lw_pm.symm ?_
  refine (?_ : XX G m_L_law room_1 (LF G b L xs) cells slots (wM G qm xm fm (wC G q2 x2 n f2 kf2 (ks2 ++ [LO G o gg]))) 857 [(0, .ref b), (1, .ref (q 0)), (2, .ref (qm 0)), (3, .ref o), (4, .int (nI (6 * k)))] [.int (v_result s (xs (6 * k + 1)))])
  refine XX.aload_n dd_L_law_857 rfl 2 rfl ?_
  refine XX.aload_n dd_L_law_858 rfl 0 rfl ?_
  refine XX.iload dd_L_law_859 4 rfl ?_
  refine XX.iconst (v := nI 1) dd_L_law_861 (by decide) ?_
  refine XX.iadd dd_L_law_862 ?_
  refine XX.tp (y := nI (6 * k + 1)) (nI_add _ _) ?_
  refine XX.sld (j := 6 * k + 1) dd_L_law_863 (by omega) (by omega) ?_
  refine XX.callV (Mk := m_M_result) (n := 1) (As := [.int (xs (6 * k + 1))]) (rest := [.int (v_result s (xs (6 * k + 1)))]) (q0 := 0) (ci := 9) (c_M_result hm) mt_M_result mi_M_result ml_L_120 rfl dd_L_law_864 rfl rfl rfl ⟨xn_le rfl, xn_le rfl⟩ ⟨by show cells + 0 ≤ 601024; omega, by show slots + 0 ≤ 7293034; omega⟩ (xn_le rfl) rfl (fun r2 w2 hp2 => ?_)
  obtain ⟨⟨v2, rfl, hv2⟩, xm2, fm2, rfl, h19, hm2⟩ := hp2
  refine (?_ : XX G m_L_law room_1 (LF G b L xs) cells slots (wM G qm xm2 fm2 (wC G q2 x2 n f2 kf2 (ks2 ++ [LO G o gg]))) 867 [(0, .ref b), (1, .ref (q 0)), (2, .ref (qm 0)), (3, .ref o), (4, .int (nI (6 * k)))] [.int v2, .int (v_result s (xs (6 * k + 1)))])
  refine XX.icmp_eq (tgt := 990) dd_L_law_867 (by decide) (fun h867 => ?_) (fun h867 => ?_)
  ·
    exact h990 q2 x2 n f2 kf2 ks2 bc2 br2 ka2 xm2 fm2 gg _ _ _ hq2 hc2 hm2 (by omega) (by omega)
  ·
    exact absurd (hv2 rfl).symm h867

set_option maxRecDepth 100000 in
set_option maxHeartbeats 4000000 in
theorem law_byteAt {G : XG} {b L a1 o C S k : Nat} {xs : Nat → Int32} {qm : Nat → Nat} (htr : ∀ e : Env, G.2.2.2.admits e → e.platform.stackTraces = false) (hL : L ≤ 3072) (hk : 6 * k + 6 ≤ L) (hCb : C + 11 ≤ 601024) (hSb : S + 326 + 320000 ≤ 7293034) (h990 : LST G (LF G b L xs) b a1 o qm (C + 11) (S + 6) 990 k) : LST G (LF G b L xs) b a1 o qm C S 872 k := by
  intro q x n f kf ks bc br ka xm fm gg s cells slots ha hc hm hcl hsl
  subst ha
  have hbl := brk_bc hc.b
  have hnn := hc.nn
  refine (?_ : XX G m_L_law room_1 (LF G b L xs) cells slots (wM G qm xm fm (wC G q x n f kf (ks ++ [LO G o gg]))) 872 [(0, .ref b), (1, .ref (q 0)), (2, .ref (qm 0)), (3, .ref o), (4, .int (nI (6 * k)))] [])
  refine XX.aload_n dd_L_law_872 rfl 1 rfl ?_
  refine XX.aload_n dd_L_law_873 rfl 0 rfl ?_
  refine XX.iload dd_L_law_874 4 rfl ?_
  refine XX.iconst (v := nI 1) dd_L_law_876 (by decide) ?_
  refine XX.iadd dd_L_law_877 ?_
  refine XX.tp (y := nI (6 * k + 1)) (nI_add _ _) ?_
  refine XX.sld (j := 6 * k + 1) dd_L_law_878 (by omega) (by omega) ?_
  refine XX.aload_n dd_L_law_879 rfl 0 rfl ?_
  refine XX.iload dd_L_law_880 4 rfl ?_
  refine XX.iconst (v := nI 2) dd_L_law_882 (by decide) ?_
  refine XX.iadd dd_L_law_883 ?_
  refine XX.tp (y := nI (6 * k + 2)) (nI_add _ _) ?_
  refine XX.sld (j := 6 * k + 2) dd_L_law_884 (by omega) (by omega) ?_
  refine XX.perm (ws2 := wC G q x n f kf (ks ++ LO G o gg :: wM G qm xm fm [])) lw_pm ?_
  refine XX.callV (Mk := m_S_byteAt) (n := 2) (As := [.int (xs (6 * k + 1)), .int (xs (6 * k + 2))]) (rest := []) (q0 := 0) (ci := 0) (c_S_byteAt (T := LO G o gg :: wM G qm xm fm []) hc) mt_S_byteAt mi_S_byteAt ml_L_121 rfl dd_L_law_885 rfl rfl rfl ⟨xn_le rfl, xn_le rfl⟩ ⟨by show cells + 0 ≤ 601024; omega, by show slots + 0 ≤ 7293034; omega⟩ (xn_le rfl) rfl (fun r1 w1 hp1 => ?_)
  obtain ⟨rfl, q2, x2, f2, kf2, ks2, bc2, br2, ka2, rfl, hq2, hc2⟩ := hp1
  refine XX.perm (ws2 := wM G qm xm fm (wC G q2 x2 n f2 kf2 (ks2 ++ [LO G o gg]))) lw_pm.symm ?_
  refine (?_ : XX G m_L_law room_1 (LF G b L xs) cells slots (wM G qm xm fm (wC G q2 x2 n f2 kf2 (ks2 ++ [LO G o gg]))) 888 [(0, .ref b), (1, .ref (q 0)), (2, .ref (qm 0)), (3, .ref o), (4, .int (nI (6 * k)))] [.int (v_byteAt s (xs (6 * k + 1)) (xs (6 * k + 2)))])
  refine XX.aload_n dd_L_law_888 rfl 2 rfl ?_
  refine XX.aload_n dd_L_law_889 rfl 0 rfl ?_
  refine XX.iload dd_L_law_890 4 rfl ?_
  refine XX.iconst (v := nI 1) dd_L_law_892 (by decide) ?_
  refine XX.iadd dd_L_law_893 ?_
  refine XX.tp (y := nI (6 * k + 1)) (nI_add _ _) ?_
  refine XX.sld (j := 6 * k + 1) dd_L_law_894 (by omega) (by omega) ?_
  refine XX.aload_n dd_L_law_895 rfl 0 rfl ?_
  refine XX.iload dd_L_law_896 4 rfl ?_
  refine XX.iconst (v := nI 2) dd_L_law_898 (by decide) ?_
  refine XX.iadd dd_L_law_899 ?_
  refine XX.tp (y := nI (6 * k + 2)) (nI_add _ _) ?_
  refine XX.sld (j := 6 * k + 2) dd_L_law_900 (by omega) (by omega) ?_
  refine XX.callV (Mk := m_M_byteAt) (n := 2) (As := [.int (xs (6 * k + 1)), .int (xs (6 * k + 2))]) (rest := [.int (v_byteAt s (xs (6 * k + 1)) (xs (6 * k + 2)))]) (q0 := 0) (ci := 9) (c_M_byteAt hm) mt_M_byteAt mi_M_byteAt ml_L_124 rfl dd_L_law_901 rfl rfl rfl ⟨xn_le rfl, xn_le rfl⟩ ⟨by show cells + 0 ≤ 601024; omega, by show slots + 0 ≤ 7293034; omega⟩ (xn_le rfl) rfl (fun r2 w2 hp2 => ?_)
  obtain ⟨⟨v2, rfl, hv2⟩, xm2, fm2, rfl, h19, hm2⟩ := hp2
  refine (?_ : XX G m_L_law room_1 (LF G b L xs) cells slots (wM G qm xm2 fm2 (wC G q2 x2 n f2 kf2 (ks2 ++ [LO G o gg]))) 904 [(0, .ref b), (1, .ref (q 0)), (2, .ref (qm 0)), (3, .ref o), (4, .int (nI (6 * k)))] [.int v2, .int (v_byteAt s (xs (6 * k + 1)) (xs (6 * k + 2)))])
  refine XX.icmp_eq (tgt := 990) dd_L_law_904 (by decide) (fun h904 => ?_) (fun h904 => ?_)
  ·
    exact h990 q2 x2 n f2 kf2 ks2 bc2 br2 ka2 xm2 fm2 gg _ _ _ hq2 hc2 hm2 (by omega) (by omega)
  ·
    exact absurd (hv2 rfl).symm h904

set_option maxRecDepth 100000 in
set_option maxHeartbeats 4000000 in
theorem law_run {G : XG} {b L a1 o C S k : Nat} {xs : Nat → Int32} {qm : Nat → Nat} (htr : ∀ e : Env, G.2.2.2.admits e → e.platform.stackTraces = false) (hL : L ≤ 3072) (hk : 6 * k + 6 ≤ L) (hCb : C + 11 ≤ 601024) (hSb : S + 326 + 320000 ≤ 7293034) (h990 : LST G (LF G b L xs) b a1 o qm (C + 11) (S + 6) 990 k) : LST G (LF G b L xs) b a1 o qm C S 909 k := by
  intro q x n f kf ks bc br ka xm fm gg s cells slots ha hc hm hcl hsl
  subst ha
  have hbl := brk_bc hc.b
  have hnn := hc.nn
  refine (?_ : XX G m_L_law room_1 (LF G b L xs) cells slots (wM G qm xm fm (wC G q x n f kf (ks ++ [LO G o gg]))) 909 [(0, .ref b), (1, .ref (q 0)), (2, .ref (qm 0)), (3, .ref o), (4, .int (nI (6 * k)))] [])
  refine XX.aload_n dd_L_law_909 rfl 1 rfl ?_
  refine XX.aload_n dd_L_law_910 rfl 0 rfl ?_
  refine XX.iload dd_L_law_911 4 rfl ?_
  refine XX.iconst (v := nI 1) dd_L_law_913 (by decide) ?_
  refine XX.iadd dd_L_law_914 ?_
  refine XX.tp (y := nI (6 * k + 1)) (nI_add _ _) ?_
  refine XX.sld (j := 6 * k + 1) dd_L_law_915 (by omega) (by omega) ?_
  refine XX.perm (ws2 := wC G q x n f kf (ks ++ LO G o gg :: wM G qm xm fm [])) lw_pm ?_
  refine XX.callV (Mk := m_S_run) (n := 1) (As := [.int (xs (6 * k + 1))]) (rest := []) (q0 := 0) (ci := 0) (c_S_run (T := LO G o gg :: wM G qm xm fm []) hc) mt_S_run mi_S_run ml_L_125 rfl dd_L_law_916 rfl rfl rfl ⟨xn_le rfl, xn_le rfl⟩ ⟨by show cells + 0 ≤ 601024; omega, by show slots + 0 ≤ 7293034; omega⟩ (xn_le rfl) rfl (fun r1 w1 hp1 => ?_)
  obtain ⟨rfl, q2, x2, f2, kf2, ks2, bc2, br2, ka2, rfl, hq2, hc2⟩ := hp1
  refine XX.perm (ws2 := wM G qm xm fm (wC G q2 x2 n f2 kf2 (ks2 ++ [LO G o gg]))) lw_pm.symm ?_
  refine (?_ : XX G m_L_law room_1 (LF G b L xs) cells slots (wM G qm xm fm (wC G q2 x2 n f2 kf2 (ks2 ++ [LO G o gg]))) 919 [(0, .ref b), (1, .ref (q 0)), (2, .ref (qm 0)), (3, .ref o), (4, .int (nI (6 * k)))] [.int (v_run s (xs (6 * k + 1)))])
  refine XX.aload_n dd_L_law_919 rfl 2 rfl ?_
  refine XX.aload_n dd_L_law_920 rfl 0 rfl ?_
  refine XX.iload dd_L_law_921 4 rfl ?_
  refine XX.iconst (v := nI 1) dd_L_law_923 (by decide) ?_
  refine XX.iadd dd_L_law_924 ?_
  refine XX.tp (y := nI (6 * k + 1)) (nI_add _ _) ?_
  refine XX.sld (j := 6 * k + 1) dd_L_law_925 (by omega) (by omega) ?_
  refine XX.callV (Mk := m_M_run) (n := 1) (As := [.int (xs (6 * k + 1))]) (rest := [.int (v_run s (xs (6 * k + 1)))]) (q0 := 0) (ci := 9) (c_M_run hm) mt_M_run mi_M_run ml_L_128 rfl dd_L_law_926 rfl rfl rfl ⟨xn_le rfl, xn_le rfl⟩ ⟨by show cells + 0 ≤ 601024; omega, by show slots + 0 ≤ 7293034; omega⟩ (xn_le rfl) rfl (fun r2 w2 hp2 => ?_)
  obtain ⟨⟨v2, rfl, hv2⟩, xm2, fm2, rfl, h19, hm2⟩ := hp2
  refine (?_ : XX G m_L_law room_1 (LF G b L xs) cells slots (wM G qm xm2 fm2 (wC G q2 x2 n f2 kf2 (ks2 ++ [LO G o gg]))) 929 [(0, .ref b), (1, .ref (q 0)), (2, .ref (qm 0)), (3, .ref o), (4, .int (nI (6 * k)))] [.int v2, .int (v_run s (xs (6 * k + 1)))])
  refine XX.icmp_eq (tgt := 990) dd_L_law_929 (by decide) (fun h929 => ?_) (fun h929 => ?_)
  ·
    exact h990 q2 x2 n f2 kf2 ks2 bc2 br2 ka2 xm2 fm2 gg _ _ _ hq2 hc2 hm2 (by omega) (by omega)
  ·
    exact absurd (hv2 rfl).symm h929

set_option maxRecDepth 100000 in
set_option maxHeartbeats 4000000 in
theorem law_about {G : XG} {b L a1 o C S k : Nat} {xs : Nat → Int32} {qm : Nat → Nat} (htr : ∀ e : Env, G.2.2.2.admits e → e.platform.stackTraces = false) (hL : L ≤ 3072) (hk : 6 * k + 6 ≤ L) (hCb : C + 11 ≤ 601024) (hSb : S + 326 + 320000 ≤ 7293034) (h990 : LST G (LF G b L xs) b a1 o qm (C + 11) (S + 6) 990 k) : LST G (LF G b L xs) b a1 o qm C S 934 k := by
  intro q x n f kf ks bc br ka xm fm gg s cells slots ha hc hm hcl hsl
  subst ha
  have hbl := brk_bc hc.b
  have hnn := hc.nn
  refine (?_ : XX G m_L_law room_1 (LF G b L xs) cells slots (wM G qm xm fm (wC G q x n f kf (ks ++ [LO G o gg]))) 934 [(0, .ref b), (1, .ref (q 0)), (2, .ref (qm 0)), (3, .ref o), (4, .int (nI (6 * k)))] [])
  refine XX.aload_n dd_L_law_934 rfl 1 rfl ?_
  refine XX.aload_n dd_L_law_935 rfl 0 rfl ?_
  refine XX.iload dd_L_law_936 4 rfl ?_
  refine XX.iconst (v := nI 1) dd_L_law_938 (by decide) ?_
  refine XX.iadd dd_L_law_939 ?_
  refine XX.tp (y := nI (6 * k + 1)) (nI_add _ _) ?_
  refine XX.sld (j := 6 * k + 1) dd_L_law_940 (by omega) (by omega) ?_
  refine XX.aload_n dd_L_law_941 rfl 3 rfl ?_
  refine XX.perm (ws2 := wC G q x n f kf (ks ++ LO G o gg :: wM G qm xm fm [])) lw_pm ?_
  refine XX.callSW (Mk := m_L_about) (hh := [(0, 9, 12, 19)]) (n := 3) (As := [.ref (q 0), .int (xs (6 * k + 1)), .ref o]) (rest := []) (c_L_about (T := wM G qm xm fm []) hc htr (a := xs (6 * k + 1))) mz_L_about ms_L_about ml_L_129 rfl dd_L_law_942 ⟨xn_le rfl, xn_le rfl⟩ ⟨by show cells + 1 ≤ 601024; omega, by show slots + 6 ≤ 7293034; omega⟩ (xn_le rfl) rfl (fun r1 w1 hp1 => ?_)
  obtain ⟨rfl, n2, g2, hn2, hg2, q2, x2, f2, kf2, ks2, bc2, br2, ka2, rfl, hq2, hc2⟩ := hp1
  refine XX.perm (ws2 := wM G qm xm fm (wC G q2 x2 n2 f2 kf2 (ks2 ++ [LO G o g2]))) lw_pm.symm ?_
  refine (?_ : XX G m_L_law room_1 (LF G b L xs) (cells + 1) (slots + 6) (wM G qm xm fm (wC G q2 x2 n2 f2 kf2 (ks2 ++ [LO G o g2]))) 945 [(0, .ref b), (1, .ref (q 0)), (2, .ref (qm 0)), (3, .ref o), (4, .int (nI (6 * k)))] [.int (nI (t_about (xs (6 * k + 1))))])
  refine XX.istore (lv2 := [(5, .int (nI (t_about (xs (6 * k + 1))))), (0, .ref b), (1, .ref (q 0)), (2, .ref (qm 0)), (3, .ref o), (4, .int (nI (6 * k)))]) dd_L_law_945 (by decide) rfl ?_
  refine XX.aload_n dd_L_law_947 rfl 3 rfl ?_
  refine XX.aload_n dd_L_law_948 rfl 1 rfl ?_
  refine XX.iload dd_L_law_949 5 rfl ?_
  refine XX.iconst (v := nI 1) dd_L_law_951 (by decide) ?_
  refine XX.iadd dd_L_law_952 ?_
  refine XX.tp (y := nI (6 * k + 1)) (nI_add _ _) ?_
  refine XX.sld (j := 6 * k + 1) dd_L_law_953 (by omega) (by omega) ?_
  refine XX.callV (Mk := m_M_about) (n := 1) (As := [.int (xs (6 * k + 1))]) (rest := []) (q0 := 0) (ci := 9) (c_M_about hm) mt_M_about mi_M_about ml_L_131 rfl dd_L_law_954 rfl rfl rfl ⟨xn_le rfl, xn_le rfl⟩ ⟨by show cells + 1 + 0 ≤ 601024; omega, by show slots + 6 + 0 ≤ 7293034; omega⟩ (xn_le rfl) rfl (fun r2 w2 hp2 => ?_)
  obtain ⟨⟨v2, rfl, hv2⟩, xm2, fm2, rfl, h19, hm2⟩ := hp2
  refine (?_ : XX G m_L_law room_1 (LF G b L xs) (cells + 1) (slots + 6) (wM G qm xm2 fm2 (wC G q2 x2 n2 f2 kf2 (ks2 ++ [LO G o g2]))) 957 [(5, .int (nI (t_about (xs (6 * k + 1))))), (0, .ref b), (1, .ref (q 0)), (2, .ref (qm 0)), (3, .ref o), (4, .int (nI (6 * k)))] [.int v2])
  refine XX.istore (lv2 := [(6, .int v2), (5, .int (nI (t_about (xs (6 * k + 1))))), (0, .ref b), (1, .ref (q 0)), (2, .ref (qm 0)), (3, .ref o), (4, .int (nI (6 * k)))]) dd_L_law_957 (by decide) rfl ?_
  refine XX.aload_n dd_L_law_959 rfl 4 rfl ?_
  refine XX.callVr (Mk := m_M_thrown) (n := 0) (As := []) (rest := []) (q0 := 0) (ci := 9) c_M_thrown mt_M_thrown mi_M_thrown ml_L_68 rfl dd_L_law_960 rfl rfl rfl ⟨xn_le rfl, xn_le rfl⟩ ⟨by show cells + 1 + 0 ≤ 601024; omega, by show slots + 6 + 0 ≤ 7293034; omega⟩ (xn_le rfl) rfl ?_
  refine XX.tp (y := nI (t_about (xs (6 * k + 1)))) (h19) ?_
  refine XX.iload dd_L_law_963 1 rfl ?_
  refine XX.icmp_eq (tgt := 970) dd_L_law_965 (by decide) (fun h965 => ?_) (fun h965 => ?_)
  ·
    refine XX.iload dd_L_law_970 1 rfl ?_
    refine XX.if_ne (tgt := 987) dd_L_law_972 (by decide) (fun h972 => ?_) (fun h972 => ?_)
    ·
      refine XX.goto (tgt := 990) dd_L_law_987 (by decide) ?_
      refine XX.lvs [2, 3, 4, 5, 6] rfl ?_
      exact h990 q2 x2 n2 f2 kf2 ks2 bc2 br2 ka2 xm2 fm2 g2 _ _ _ hq2 hc2 hm2 (by omega) (by omega)
    ·
      have ht0 : t_about (xs (6 * k + 1)) = 0 := nI_nul h972 (by unfold t_about tb; split <;> omega)
      refine XX.aload_n dd_L_law_975 rfl 5 rfl ?_
      refine XX.iconst (v := nI 0) dd_L_law_976 (by decide) ?_
      refine XX.perm (ws2 := LO G o g2 :: wM G qm xm2 fm2 (wC G q2 x2 n2 f2 kf2 (ks2))) lw_po ?_
      refine XX.lald (q0 := 0) (n := 1) (j := 0) (f := g2) dd_L_law_977 rfl (by decide) (by decide) ?_
      refine XX.perm (ws2 := wM G qm xm2 fm2 (wC G q2 x2 n2 f2 kf2 (ks2 ++ [LO G o g2]))) lw_po.symm ?_
      refine XX.iload dd_L_law_978 0 rfl ?_
      refine XX.i2l (v := v2.toInt64) dd_L_law_980 (rfl) ?_
      refine XX.lcmp dd_L_law_981 ?_
      refine XX.if_eq (tgt := 987) dd_L_law_982 (by decide) (fun h982 => ?_) (fun h982 => ?_)
      ·
        refine XX.goto (tgt := 990) dd_L_law_987 (by decide) ?_
        refine XX.lvs [2, 3, 4, 5, 6] rfl ?_
        exact h990 q2 x2 n2 f2 kf2 ks2 bc2 br2 ka2 xm2 fm2 g2 _ _ _ hq2 hc2 hm2 (by omega) (by omega)
      ·
        exact absurd (by rw [hg2 ht0, hv2 ht0]; exact lg_cmp_self _) h982
  ·
    exact absurd rfl h965

