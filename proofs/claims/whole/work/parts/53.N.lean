set_option maxRecDepth 100000 in
set_option maxHeartbeats 4000000 in
theorem c_N_read8 {G : XG} {q : Nat → Nat} {x : Nat → Int32} {n : Nat → Nat} {f : Nat → Nat → Int32} {kf : Nat → Option Nat} {kl : va_W} {len bc : Nat} {br : Nat → Nat} {B : Nat → Int32} (ht : txt x n f len bc br B) {a b : Nat} (ha : a ≤ len) (hb : b ≤ len) : MM G m_N_read (xr 1 0 0) [.ref (q 8), .ref (q 1), .int (nI a), .int (nI b)] (wC G q x n f kf kl) (fun r w => r = none ∧ ∃ x2 : Nat → Int32, w = wC G q x2 n f kf kl ∧ nmf x x2 10 ∧ nmo x2 10 B b a) := by
  obtain ⟨hx3, hx4, hl0, hn0, hb1, hn1, hbr, hB⟩ := id ht
  have z1 := nm_a_le (B := B) ha hb
  have z2 := nm_whole_le (B := B) ha hb
  have z3 := nm_wstop_le (B := B) ha hb
  have z4 := nm_frac_le (B := B) ha hb
  have z5 := nm_fend_le (B := B) ha hb
  have z6 := nm_fstop_le (B := B) ha hb
  refine MM.of rfl (xn_le rfl) ?_
  refine (?_ : XX G m_N_read (xr 1 0 0) (xx_F G (fun r w => r = none ∧ ∃ x2 : Nat → Int32, w = wC G q x2 n f kf kl ∧ nmf x x2 10 ∧ nmo x2 10 B b a) (xr 1 0 0)) 0 0 (wC G q x n f kf kl) 0 [(0, .ref (q 8)), (1, .ref (q 1)), (2, .int (nI a)), (3, .int (nI b))] [])
  have j212 : XX G m_N_read (xr 1 0 0) (xx_F G (fun r w => r = none ∧ ∃ x2 : Nat → Int32, w = wC G q x2 n f kf kl ∧ nmf x x2 10 ∧ nmo x2 10 B b a) (xr 1 0 0)) 0 0 (wC G q (upd (upd (upd (upd x 11 (nI (nm_whole B b a))) 12 (nI (nm_wstop B b a))) 13 (nI (nm_frac B b a))) 14 (nI (nm_fstop B b a))) n f kf kl) 212 [(0, .ref (q 8)), (1, .ref (q 1)), (2, .int (nI a)), (3, .int (nI b)), (4, .int (nI (nm_whole B b a))), (5, .int (bI (nm_min B b a))), (6, .int (bI (nm_point B b a)))] [] := by
    have j239 : XX G m_N_read (xr 1 0 0) (xx_F G (fun r w => r = none ∧ ∃ x2 : Nat → Int32, w = wC G q x2 n f kf kl ∧ nmf x x2 10 ∧ nmo x2 10 B b a) (xr 1 0 0)) 0 0 (wC G q (upd (upd (upd (upd x 11 (nI (nm_whole B b a))) 12 (nI (nm_wstop B b a))) 13 (nI (nm_frac B b a))) 14 (nI (nm_fstop B b a))) n f kf kl) 239 [(0, .ref (q 8)), (1, .ref (q 1)), (2, .int (nI a)), (3, .int (nI b)), (4, .int (nI (nm_whole B b a))), (5, .int (bI (nm_min B b a))), (6, .int (bI (nm_point B b a)))] [.int (bI (nm_zero B b a))] := by
      refine XX.istore (lv2 := [(7, .int (bI (nm_zero B b a))), (0, .ref (q 8)), (1, .ref (q 1)), (2, .int (nI a)), (3, .int (nI b)), (4, .int (nI (nm_whole B b a))), (5, .int (bI (nm_min B b a))), (6, .int (bI (nm_point B b a)))]) dd_N_read_239 (by decide) rfl ?_
      refine XX.aload_n dd_N_read_241 rfl 1 rfl ?_
      have j261 : XX G m_N_read (xr 1 0 0) (xx_F G (fun r w => r = none ∧ ∃ x2 : Nat → Int32, w = wC G q x2 n f kf kl ∧ nmf x x2 10 ∧ nmo x2 10 B b a) (xr 1 0 0)) 0 0 (wC G q (upd (upd (upd (upd x 11 (nI (nm_whole B b a))) 12 (nI (nm_wstop B b a))) 13 (nI (nm_frac B b a))) 14 (nI (nm_fstop B b a))) n f kf kl) 261 [(7, .int (bI (nm_zero B b a))), (0, .ref (q 8)), (1, .ref (q 1)), (2, .int (nI a)), (3, .int (nI b)), (4, .int (nI (nm_whole B b a))), (5, .int (bI (nm_min B b a))), (6, .int (bI (nm_point B b a)))] [.int (nm_sign B b a), .ref (q 8)] := by
        refine XX.put (q0 := 8) (ws2 := wC G q (upd (upd (upd (upd (upd x 11 (nI (nm_whole B b a))) 12 (nI (nm_wstop B b a))) 13 (nI (nm_frac B b a))) 14 (nI (nm_fstop B b a))) 10 (nm_sign B b a)) n f kf kl) fp_N_36 dd_N_read_261 rfl rfl rfl (xn_le rfl) rfl ?_
        exact XX.vret dd_N_read_264 rfl ⟨xn_le rfl, xn_le rfl⟩ ⟨rfl, _, rfl, fun i hi => by simp only [upd]; rw [if_neg (by omega), if_neg (by omega), if_neg (by omega), if_neg (by omega), if_neg (by omega)], rfl, rfl, rfl, rfl, rfl⟩
      refine XX.iload dd_N_read_242 0 rfl ?_
      refine XX.bif_eq (tgt := 251) dd_N_read_244 (by decide) (fun h244 => ?_) (fun h244 => ?_)
      ·
        refine XX.iload dd_N_read_251 6 rfl ?_
        refine XX.bif_eq (tgt := 260) dd_N_read_253 (by decide) (fun h253 => ?_) (fun h253 => ?_)
        ·
          refine XX.iconst (v := nI 1) dd_N_read_260 (by decide) ?_
          exact XX.tp (by first | (simp [nm_sign, h244, h253]; done) | (simp [nm_sign, h244, h253]; intros; exfalso; omega)) j261
        ·
          refine XX.iconst (v := -1) dd_N_read_256 (by decide) ?_
          refine XX.goto (tgt := 261) dd_N_read_257 (by decide) ?_
          exact XX.tp (by first | (simp [nm_sign, h244, h253]; done) | (simp [nm_sign, h244, h253]; intros; exfalso; omega)) j261
      ·
        refine XX.iconst (v := nI 0) dd_N_read_247 (by decide) ?_
        refine XX.goto (tgt := 261) dd_N_read_248 (by decide) ?_
        exact XX.tp (by first | (simp [nm_sign, h244]; done) | (simp [nm_sign, h244]; intros; exfalso; omega)) j261
    refine XX.aload_n dd_N_read_212 rfl 0 rfl ?_
    refine XX.get (q0 := 8) (v := .int (nI (nm_whole B b a))) fl_N_17 dd_N_read_213 rfl rfl ?_
    refine XX.aload_n dd_N_read_216 rfl 0 rfl ?_
    refine XX.get (q0 := 8) (v := .int (nI (nm_wstop B b a))) fl_N_27 dd_N_read_217 rfl rfl ?_
    refine XX.ncmp_ne (tgt := 238) dd_N_read_220 (by decide) (by omega) (by omega) (fun h220 => ?_) (fun h220 => ?_)
    ·
      refine XX.iconst (v := nI 0) dd_N_read_238 (by decide) ?_
      exact XX.tp (by first | (simp [bI, nm_zero, h220]; done) | (simp [bI, nm_zero, h220]; intros; exfalso; omega)) j239
    ·
      refine XX.aload_n dd_N_read_223 rfl 0 rfl ?_
      refine XX.get (q0 := 8) (v := .int (nI (nm_frac B b a))) fl_N_30 dd_N_read_224 rfl rfl ?_
      refine XX.aload_n dd_N_read_227 rfl 0 rfl ?_
      refine XX.get (q0 := 8) (v := .int (nI (nm_fstop B b a))) fl_N_33 dd_N_read_228 rfl rfl ?_
      refine XX.ncmp_ne (tgt := 238) dd_N_read_231 (by decide) (by omega) (by omega) (fun h231 => ?_) (fun h231 => ?_)
      ·
        refine XX.iconst (v := nI 0) dd_N_read_238 (by decide) ?_
        exact XX.tp (by first | (simp [bI, nm_zero, h220, h231]; done) | (simp [bI, nm_zero, h220, h231]; intros; exfalso; omega)) j239
      ·
        refine XX.iconst (v := nI 1) dd_N_read_234 (by decide) ?_
        refine XX.goto (tgt := 239) dd_N_read_235 (by decide) ?_
        exact XX.tp (by first | (simp [bI, nm_zero, h220, h231]; done) | (simp [bI, nm_zero, h220, h231]; intros; exfalso; omega)) j239
  have loop3 : ∀ (kk e : Nat), e = kk → e ≤ len → nm_strip B (nm_frac B b a) e = nm_fstop B b a → XX G m_N_read (xr 1 0 0) (xx_F G (fun r w => r = none ∧ ∃ x2 : Nat → Int32, w = wC G q x2 n f kf kl ∧ nmf x x2 10 ∧ nmo x2 10 B b a) (xr 1 0 0)) 0 0 (wC G q (upd (upd (upd (upd x 11 (nI (nm_whole B b a))) 12 (nI (nm_wstop B b a))) 13 (nI (nm_frac B b a))) 14 (nI e)) n f kf kl) 173 [(0, .ref (q 8)), (1, .ref (q 1)), (2, .int (nI a)), (3, .int (nI b)), (4, .int (nI (nm_whole B b a))), (5, .int (bI (nm_min B b a))), (6, .int (bI (nm_point B b a)))] [] := by
    intro kk
    induction kk using Nat.strongRecOn with
    | _ kk ih =>
      intro e hk he hr
      refine XX.aload_n dd_N_read_173 rfl 0 rfl ?_
      refine XX.get (q0 := 8) (v := .int (nI e)) fl_N_33 dd_N_read_174 rfl rfl ?_
      refine XX.aload_n dd_N_read_177 rfl 0 rfl ?_
      refine XX.get (q0 := 8) (v := .int (nI (nm_frac B b a))) fl_N_30 dd_N_read_178 rfl rfl ?_
      refine XX.ncmp_le (tgt := 212) dd_N_read_181 (by decide) (by omega) (by omega) (fun h181 => ?_) (fun h181 => ?_)
      ·
        have e0 : e = nm_fstop B b a := by rw [← hr, nm_strip_stop (fun hz => by first | (exfalso; omega) | simp [pb_zero, h181])]
        subst e0
        exact j212
      ·
        refine XX.aload_n dd_N_read_184 rfl 1 rfl ?_
        refine XX.aload_n dd_N_read_185 rfl 0 rfl ?_
        refine XX.get (q0 := 8) (v := .int (nI e)) fl_N_33 dd_N_read_186 rfl rfl ?_
        refine XX.iconst (v := nI 1) dd_N_read_189 (by decide) ?_
        refine XX.isub dd_N_read_190 ?_
        refine XX.tp (y := nI (e - 1)) (pk_sub (by omega)) ?_
        refine XX.callVr (Mk := m_T_at) (n := 1) (As := [.int (nI (e - 1))]) (rest := []) (q0 := 1) (ci := 1) (c_T_at (x := (upd (upd (upd (upd x 11 (nI (nm_whole B b a))) 12 (nI (nm_wstop B b a))) 13 (nI (nm_frac B b a))) 14 (nI e))) ht (i := e - 1) (by omega)) mt_T_at mi_T_at ml_N_13 rfl dd_N_read_191 (rfl) rfl rfl ⟨xn_le rfl, xn_le rfl⟩ ⟨xn_le rfl, xn_le rfl⟩ (xn_le rfl) rfl ?_
        refine XX.bipush (v := nI 48) dd_N_read_194 (by decide) ?_
        refine XX.icmp_ne (tgt := 212) dd_N_read_196 (by decide) (fun h196 => ?_) (fun h196 => ?_)
        ·
          have e0 : e = nm_fstop B b a := by rw [← hr, nm_strip_stop (fun hz => by first | (exfalso; omega) | simp [pb_zero, h181, h196])]
          subst e0
          exact j212
        ·
          refine XX.aload_n dd_N_read_199 rfl 0 rfl ?_
          refine XX.dup dd_N_read_200 rfl ?_
          refine XX.get (q0 := 8) (v := .int (nI e)) fl_N_33 dd_N_read_201 rfl rfl ?_
          refine XX.iconst (v := nI 1) dd_N_read_204 (by decide) ?_
          refine XX.isub dd_N_read_205 ?_
          refine XX.tp (y := nI (e - 1)) (pk_sub (by omega)) ?_
          refine XX.put (q0 := 8) (ws2 := wC G q (upd (upd (upd (upd (upd x 11 (nI (nm_whole B b a))) 12 (nI (nm_wstop B b a))) 13 (nI (nm_frac B b a))) 14 (nI e)) 14 (nI (e - 1))) n f kf kl) fp_N_33 dd_N_read_206 rfl rfl rfl (xn_le rfl) rfl ?_
          refine XX.goto (tgt := 173) dd_N_read_209 (by decide) ?_
          refine XX.cg (ws2 := wC G q (upd (upd (upd (upd x 11 (nI (nm_whole B b a))) 12 (nI (nm_wstop B b a))) 13 (nI (nm_frac B b a))) 14 (nI (e - 1))) n f kf kl) (by rw [upd_upd]) rfl rfl ?_
          exact ih _ (by omega) (e - 1) rfl (by omega) (by rw [← hr, nm_strip_step (e := e) (by omega) (by simp [pb_zero, h196])])
  have j79 : XX G m_N_read (xr 1 0 0) (xx_F G (fun r w => r = none ∧ ∃ x2 : Nat → Int32, w = wC G q x2 n f kf kl ∧ nmf x x2 10 ∧ nmo x2 10 B b a) (xr 1 0 0)) 0 0 (wC G q x n f kf kl) 79 [(0, .ref (q 8)), (1, .ref (q 1)), (2, .int (nI a)), (3, .int (nI b)), (4, .int (nI (nm_whole B b a))), (5, .int (bI (nm_min B b a)))] [] := by
    refine XX.aload_n dd_N_read_79 rfl 0 rfl ?_
    refine XX.iload dd_N_read_80 4 rfl ?_
    refine XX.put (q0 := 8) (ws2 := wC G q (upd x 11 (nI (nm_whole B b a))) n f kf kl) fp_N_17 dd_N_read_82 rfl rfl rfl (xn_le rfl) rfl ?_
    refine XX.aload_n dd_N_read_85 rfl 0 rfl ?_
    refine XX.aload_n dd_N_read_86 rfl 1 rfl ?_
    refine XX.aload_n dd_N_read_87 rfl 0 rfl ?_
    refine XX.get (q0 := 8) (v := .int (nI (nm_whole B b a))) fl_N_17 dd_N_read_88 rfl rfl ?_
    refine XX.iload_n dd_N_read_91 rfl 3 rfl ?_
    refine XX.callVr (Mk := m_T_passDigits) (n := 2) (As := [.int (nI (nm_whole B b a)), .int (nI b)]) (rest := [.ref (q 8)]) (q0 := 1) (ci := 1) (c_T_passDigits (x := (upd x 11 (nI (nm_whole B b a)))) ht (a := nm_whole B b a) (b := b) hb (by omega)) mt_T_passDigits mi_T_passDigits ml_N_23 rfl dd_N_read_92 (rfl) rfl rfl ⟨xn_le rfl, xn_le rfl⟩ ⟨xn_le rfl, xn_le rfl⟩ (xn_le rfl) rfl ?_
    refine XX.tp (y := nI (nm_wstop B b a)) (rfl) ?_
    refine XX.put (q0 := 8) (ws2 := wC G q (upd (upd x 11 (nI (nm_whole B b a))) 12 (nI (nm_wstop B b a))) n f kf kl) fp_N_27 dd_N_read_95 rfl rfl rfl (xn_le rfl) rfl ?_
    have j124 : XX G m_N_read (xr 1 0 0) (xx_F G (fun r w => r = none ∧ ∃ x2 : Nat → Int32, w = wC G q x2 n f kf kl ∧ nmf x x2 10 ∧ nmo x2 10 B b a) (xr 1 0 0)) 0 0 (wC G q (upd (upd x 11 (nI (nm_whole B b a))) 12 (nI (nm_wstop B b a))) n f kf kl) 124 [(0, .ref (q 8)), (1, .ref (q 1)), (2, .int (nI a)), (3, .int (nI b)), (4, .int (nI (nm_whole B b a))), (5, .int (bI (nm_min B b a)))] [.int (bI (nm_point B b a))] := by
      refine XX.istore (lv2 := [(6, .int (bI (nm_point B b a))), (0, .ref (q 8)), (1, .ref (q 1)), (2, .int (nI a)), (3, .int (nI b)), (4, .int (nI (nm_whole B b a))), (5, .int (bI (nm_min B b a)))]) dd_N_read_124 (by decide) rfl ?_
      refine XX.aload_n dd_N_read_126 rfl 1 rfl ?_
      have j145 : XX G m_N_read (xr 1 0 0) (xx_F G (fun r w => r = none ∧ ∃ x2 : Nat → Int32, w = wC G q x2 n f kf kl ∧ nmf x x2 10 ∧ nmo x2 10 B b a) (xr 1 0 0)) 0 0 (wC G q (upd (upd x 11 (nI (nm_whole B b a))) 12 (nI (nm_wstop B b a))) n f kf kl) 145 [(6, .int (bI (nm_point B b a))), (0, .ref (q 8)), (1, .ref (q 1)), (2, .int (nI a)), (3, .int (nI b)), (4, .int (nI (nm_whole B b a))), (5, .int (bI (nm_min B b a)))] [.int (nI (nm_frac B b a)), .ref (q 8)] := by
        refine XX.put (q0 := 8) (ws2 := wC G q (upd (upd (upd x 11 (nI (nm_whole B b a))) 12 (nI (nm_wstop B b a))) 13 (nI (nm_frac B b a))) n f kf kl) fp_N_30 dd_N_read_145 rfl rfl rfl (xn_le rfl) rfl ?_
        refine XX.aload_n dd_N_read_148 rfl 1 rfl ?_
        have j170 : XX G m_N_read (xr 1 0 0) (xx_F G (fun r w => r = none ∧ ∃ x2 : Nat → Int32, w = wC G q x2 n f kf kl ∧ nmf x x2 10 ∧ nmo x2 10 B b a) (xr 1 0 0)) 0 0 (wC G q (upd (upd (upd x 11 (nI (nm_whole B b a))) 12 (nI (nm_wstop B b a))) 13 (nI (nm_frac B b a))) n f kf kl) 170 [(6, .int (bI (nm_point B b a))), (0, .ref (q 8)), (1, .ref (q 1)), (2, .int (nI a)), (3, .int (nI b)), (4, .int (nI (nm_whole B b a))), (5, .int (bI (nm_min B b a)))] [.int (nI (nm_fend B b a)), .ref (q 8)] := by
          refine XX.put (q0 := 8) (ws2 := wC G q (upd (upd (upd (upd x 11 (nI (nm_whole B b a))) 12 (nI (nm_wstop B b a))) 13 (nI (nm_frac B b a))) 14 (nI (nm_fend B b a))) n f kf kl) fp_N_33 dd_N_read_170 rfl rfl rfl (xn_le rfl) rfl ?_
          refine XX.lvs [1, 2, 3, 4, 5, 6, 0] rfl ?_
          exact loop3 _ _ rfl (by omega) rfl
        refine XX.iload dd_N_read_149 0 rfl ?_
        refine XX.bif_eq (tgt := 166) dd_N_read_151 (by decide) (fun h151 => ?_) (fun h151 => ?_)
        ·
          refine XX.aload_n dd_N_read_166 rfl 1 rfl ?_
          refine XX.get (q0 := 8) (v := .int (nI (nm_frac B b a))) fl_N_30 dd_N_read_167 rfl rfl ?_
          exact XX.tp (by first | (simp [nm_fend, h151]; done) | (simp [nm_fend, h151]; intros; exfalso; omega)) j170
        ·
          refine XX.aload_n dd_N_read_154 rfl 2 rfl ?_
          refine XX.aload_n dd_N_read_155 rfl 1 rfl ?_
          refine XX.get (q0 := 8) (v := .int (nI (nm_frac B b a))) fl_N_30 dd_N_read_156 rfl rfl ?_
          refine XX.iload_n dd_N_read_159 rfl 4 rfl ?_
          refine XX.callVr (Mk := m_T_passDigits) (n := 2) (As := [.int (nI (nm_frac B b a)), .int (nI b)]) (rest := [.ref (q 8)]) (q0 := 1) (ci := 1) (c_T_passDigits (x := (upd (upd (upd x 11 (nI (nm_whole B b a))) 12 (nI (nm_wstop B b a))) 13 (nI (nm_frac B b a)))) ht (a := nm_frac B b a) (b := b) hb (by omega)) mt_T_passDigits mi_T_passDigits ml_N_23 rfl dd_N_read_160 (rfl) rfl rfl ⟨xn_le rfl, xn_le rfl⟩ ⟨xn_le rfl, xn_le rfl⟩ (xn_le rfl) rfl ?_
          refine XX.goto (tgt := 170) dd_N_read_163 (by decide) ?_
          exact XX.tp (by first | (simp [nm_fend, h151]; done) | (simp [nm_fend, h151]; intros; exfalso; omega)) j170
      refine XX.iload dd_N_read_127 0 rfl ?_
      refine XX.bif_eq (tgt := 141) dd_N_read_129 (by decide) (fun h129 => ?_) (fun h129 => ?_)
      ·
        refine XX.aload_n dd_N_read_141 rfl 1 rfl ?_
        refine XX.get (q0 := 8) (v := .int (nI (nm_wstop B b a))) fl_N_27 dd_N_read_142 rfl rfl ?_
        exact XX.tp (by first | (simp [nm_frac, h129]; done) | (simp [nm_frac, h129]; intros; exfalso; omega)) j145
      ·
        refine XX.aload_n dd_N_read_132 rfl 1 rfl ?_
        refine XX.get (q0 := 8) (v := .int (nI (nm_wstop B b a))) fl_N_27 dd_N_read_133 rfl rfl ?_
        refine XX.iconst (v := nI 1) dd_N_read_136 (by decide) ?_
        refine XX.iadd dd_N_read_137 ?_
        refine XX.tp (y := nI (nm_wstop B b a + 1)) (nI_add _ _) ?_
        refine XX.goto (tgt := 145) dd_N_read_138 (by decide) ?_
        exact XX.tp (by first | (simp [nm_frac, h129]; done) | (simp [nm_frac, h129]; intros; exfalso; omega)) j145
    refine XX.aload_n dd_N_read_98 rfl 0 rfl ?_
    refine XX.get (q0 := 8) (v := .int (nI (nm_wstop B b a))) fl_N_27 dd_N_read_99 rfl rfl ?_
    refine XX.iload_n dd_N_read_102 rfl 3 rfl ?_
    refine XX.ncmp_ge (tgt := 123) dd_N_read_103 (by decide) (by omega) (by omega) (fun h103 => ?_) (fun h103 => ?_)
    ·
      refine XX.iconst (v := nI 0) dd_N_read_123 (by decide) ?_
      exact XX.tp (by first | (simp [bI, nm_point, h103]; done) | (simp [bI, nm_point, h103]; intros; exfalso; omega)) j124
    ·
      refine XX.aload_n dd_N_read_106 rfl 1 rfl ?_
      refine XX.aload_n dd_N_read_107 rfl 0 rfl ?_
      refine XX.get (q0 := 8) (v := .int (nI (nm_wstop B b a))) fl_N_27 dd_N_read_108 rfl rfl ?_
      refine XX.callVr (Mk := m_T_at) (n := 1) (As := [.int (nI (nm_wstop B b a))]) (rest := []) (q0 := 1) (ci := 1) (c_T_at (x := (upd (upd x 11 (nI (nm_whole B b a))) 12 (nI (nm_wstop B b a)))) ht (i := nm_wstop B b a) (by omega)) mt_T_at mi_T_at ml_N_13 rfl dd_N_read_111 (rfl) rfl rfl ⟨xn_le rfl, xn_le rfl⟩ ⟨xn_le rfl, xn_le rfl⟩ (xn_le rfl) rfl ?_
      refine XX.bipush (v := nI 46) dd_N_read_114 (by decide) ?_
      refine XX.icmp_ne (tgt := 123) dd_N_read_116 (by decide) (fun h116 => ?_) (fun h116 => ?_)
      ·
        refine XX.iconst (v := nI 0) dd_N_read_123 (by decide) ?_
        exact XX.tp (by first | (simp [bI, nm_point, h103, h116]; done) | (simp [bI, nm_point, h103, h116]; intros; exfalso; omega)) j124
      ·
        refine XX.iconst (v := nI 1) dd_N_read_119 (by decide) ?_
        refine XX.goto (tgt := 124) dd_N_read_120 (by decide) ?_
        exact XX.tp (by first | (simp [bI, nm_point, h103, h116]; done) | (simp [bI, nm_point, h103, h116]; intros; exfalso; omega)) j124
  have loop2 : ∀ (kk i : Nat), b - i = kk → i ≤ len → sk (pb_zero B) b i = nm_whole B b a → XX G m_N_read (xr 1 0 0) (xx_F G (fun r w => r = none ∧ ∃ x2 : Nat → Int32, w = wC G q x2 n f kf kl ∧ nmf x x2 10 ∧ nmo x2 10 B b a) (xr 1 0 0)) 0 0 (wC G q x n f kf kl) 56 [(0, .ref (q 8)), (1, .ref (q 1)), (2, .int (nI a)), (3, .int (nI b)), (4, .int (nI i)), (5, .int (bI (nm_min B b a)))] [] := by
    intro kk
    induction kk using Nat.strongRecOn with
    | _ kk ih =>
      intro i hk hi hr
      refine XX.iload dd_N_read_56 4 rfl ?_
      refine XX.iload_n dd_N_read_58 rfl 3 rfl ?_
      refine XX.ncmp_ge (tgt := 79) dd_N_read_59 (by decide) (by omega) (by omega) (fun h59 => ?_) (fun h59 => ?_)
      ·
        have e0 : i = nm_whole B b a := by rw [← hr, sk_stop (fun hz => by first | (exfalso; omega) | simp [pb_zero, h59])]
        subst e0
        exact j79
      ·
        refine XX.aload_n dd_N_read_62 rfl 1 rfl ?_
        refine XX.iload dd_N_read_63 4 rfl ?_
        refine XX.callVr (Mk := m_T_at) (n := 1) (As := [.int (nI i)]) (rest := []) (q0 := 1) (ci := 1) (c_T_at (x := x) ht (i := i) (by omega)) mt_T_at mi_T_at ml_N_13 rfl dd_N_read_65 (rfl) rfl rfl ⟨xn_le rfl, xn_le rfl⟩ ⟨xn_le rfl, xn_le rfl⟩ (xn_le rfl) rfl ?_
        refine XX.bipush (v := nI 48) dd_N_read_68 (by decide) ?_
        refine XX.icmp_ne (tgt := 79) dd_N_read_70 (by decide) (fun h70 => ?_) (fun h70 => ?_)
        ·
          have e0 : i = nm_whole B b a := by rw [← hr, sk_stop (fun hz => by first | (exfalso; omega) | simp [pb_zero, h59, h70])]
          subst e0
          exact j79
        ·
          refine XX.iinc (z := 4) (v := nI (i + 1)) (lv2 := [(4, .int (nI (i + 1))), (0, .ref (q 8)), (1, .ref (q 1)), (2, .int (nI a)), (3, .int (nI b)), (5, .int (bI (nm_min B b a)))]) dd_N_read_73 rfl ((nI_succ _).symm) (by decide) rfl ?_
          refine XX.goto (tgt := 56) dd_N_read_76 (by decide) ?_
          refine XX.lvs [1, 2, 3, 4, 0, 5] rfl ?_
          exact ih _ (by omega) (i + 1) rfl (by omega) (by rw [← hr, sk_step (a := i) (by omega) (by simp [pb_zero, h70])])
  have j24 : XX G m_N_read (xr 1 0 0) (xx_F G (fun r w => r = none ∧ ∃ x2 : Nat → Int32, w = wC G q x2 n f kf kl ∧ nmf x x2 10 ∧ nmo x2 10 B b a) (xr 1 0 0)) 0 0 (wC G q x n f kf kl) 24 [(0, .ref (q 8)), (1, .ref (q 1)), (2, .int (nI a)), (3, .int (nI b)), (4, .int (nI (sk (pb_blk B) b a)))] [] := by
    have j46 : XX G m_N_read (xr 1 0 0) (xx_F G (fun r w => r = none ∧ ∃ x2 : Nat → Int32, w = wC G q x2 n f kf kl ∧ nmf x x2 10 ∧ nmo x2 10 B b a) (xr 1 0 0)) 0 0 (wC G q x n f kf kl) 46 [(0, .ref (q 8)), (1, .ref (q 1)), (2, .int (nI a)), (3, .int (nI b)), (4, .int (nI (sk (pb_blk B) b a)))] [.int (bI (nm_min B b a))] := by
      refine XX.istore (lv2 := [(5, .int (bI (nm_min B b a))), (0, .ref (q 8)), (1, .ref (q 1)), (2, .int (nI a)), (3, .int (nI b)), (4, .int (nI (sk (pb_blk B) b a)))]) dd_N_read_46 (by decide) rfl ?_
      refine XX.iload dd_N_read_48 0 rfl ?_
      refine XX.bif_eq (tgt := 56) dd_N_read_50 (by decide) (fun h50 => ?_) (fun h50 => ?_)
      ·
        refine XX.lvs [1, 2, 3, 4, 5, 0] rfl ?_
        exact loop2 _ _ rfl (by omega) (by simp [nm_whole, h50])
      ·
        have h50a : sk (pb_blk B) b a < b := by simp [nm_min] at h50; exact h50.1
        refine XX.iinc (z := 5) (v := nI (sk (pb_blk B) b a + 1)) (lv2 := [(4, .int (nI (sk (pb_blk B) b a + 1))), (5, .int (bI (nm_min B b a))), (0, .ref (q 8)), (1, .ref (q 1)), (2, .int (nI a)), (3, .int (nI b))]) dd_N_read_53 rfl ((nI_succ _).symm) (by decide) rfl ?_
        refine XX.lvs [2, 3, 4, 5, 0, 1] rfl ?_
        exact loop2 _ _ rfl (by omega) (by simp [nm_whole, h50])
    refine XX.iload dd_N_read_24 4 rfl ?_
    refine XX.iload_n dd_N_read_26 rfl 3 rfl ?_
    refine XX.ncmp_ge (tgt := 45) dd_N_read_27 (by decide) (by omega) (by omega) (fun h27 => ?_) (fun h27 => ?_)
    ·
      refine XX.iconst (v := nI 0) dd_N_read_45 (by decide) ?_
      exact XX.tp (by first | (simp [bI, nm_min, h27]; done) | (simp [bI, nm_min, h27]; intros; exfalso; omega)) j46
    ·
      refine XX.aload_n dd_N_read_30 rfl 1 rfl ?_
      refine XX.iload dd_N_read_31 4 rfl ?_
      refine XX.callVr (Mk := m_T_at) (n := 1) (As := [.int (nI (sk (pb_blk B) b a))]) (rest := []) (q0 := 1) (ci := 1) (c_T_at (x := x) ht (i := sk (pb_blk B) b a) (by omega)) mt_T_at mi_T_at ml_N_13 rfl dd_N_read_33 (rfl) rfl rfl ⟨xn_le rfl, xn_le rfl⟩ ⟨xn_le rfl, xn_le rfl⟩ (xn_le rfl) rfl ?_
      refine XX.bipush (v := nI 45) dd_N_read_36 (by decide) ?_
      refine XX.icmp_ne (tgt := 45) dd_N_read_38 (by decide) (fun h38 => ?_) (fun h38 => ?_)
      ·
        refine XX.iconst (v := nI 0) dd_N_read_45 (by decide) ?_
        exact XX.tp (by first | (simp [bI, nm_min, h27, h38]; done) | (simp [bI, nm_min, h27, h38]; intros; exfalso; omega)) j46
      ·
        refine XX.iconst (v := nI 1) dd_N_read_41 (by decide) ?_
        refine XX.goto (tgt := 46) dd_N_read_42 (by decide) ?_
        exact XX.tp (by first | (simp [bI, nm_min, h27, h38]; done) | (simp [bI, nm_min, h27, h38]; intros; exfalso; omega)) j46
  have loop1 : ∀ (kk i : Nat), b - i = kk → i ≤ len → sk (pb_blk B) b i = sk (pb_blk B) b a → XX G m_N_read (xr 1 0 0) (xx_F G (fun r w => r = none ∧ ∃ x2 : Nat → Int32, w = wC G q x2 n f kf kl ∧ nmf x x2 10 ∧ nmo x2 10 B b a) (xr 1 0 0)) 0 0 (wC G q x n f kf kl) 3 [(0, .ref (q 8)), (1, .ref (q 1)), (2, .int (nI a)), (3, .int (nI b)), (4, .int (nI i))] [] := by
    intro kk
    induction kk using Nat.strongRecOn with
    | _ kk ih =>
      intro i hk hi hr
      refine XX.iload dd_N_read_3 4 rfl ?_
      refine XX.iload_n dd_N_read_5 rfl 3 rfl ?_
      refine XX.ncmp_ge (tgt := 24) dd_N_read_6 (by decide) (by omega) (by omega) (fun h6 => ?_) (fun h6 => ?_)
      ·
        have e0 : i = sk (pb_blk B) b a := by rw [← hr, sk_stop (fun hz => by first | (exfalso; omega) | simp [h6])]
        subst e0
        exact j24
      ·
        refine XX.aload_n dd_N_read_9 rfl 1 rfl ?_
        refine XX.iload dd_N_read_10 4 rfl ?_
        refine XX.callVr (Mk := m_T_isBlankAt) (n := 1) (As := [.int (nI i)]) (rest := []) (q0 := 1) (ci := 1) (c_T_isBlankAt (x := x) ht (i := i) (by omega)) mt_T_isBlankAt mi_T_isBlankAt ml_N_7 rfl dd_N_read_12 (rfl) rfl rfl ⟨xn_le rfl, xn_le rfl⟩ ⟨xn_le rfl, xn_le rfl⟩ (xn_le rfl) rfl ?_
        refine XX.bif_eq (tgt := 24) dd_N_read_15 (by decide) (fun h15 => ?_) (fun h15 => ?_)
        ·
          have e0 : i = sk (pb_blk B) b a := by rw [← hr, sk_stop (fun hz => by first | (exfalso; omega) | simp [h6, h15])]
          subst e0
          exact j24
        ·
          refine XX.iinc (z := 4) (v := nI (i + 1)) (lv2 := [(4, .int (nI (i + 1))), (0, .ref (q 8)), (1, .ref (q 1)), (2, .int (nI a)), (3, .int (nI b))]) dd_N_read_18 rfl ((nI_succ _).symm) (by decide) rfl ?_
          refine XX.goto (tgt := 3) dd_N_read_21 (by decide) ?_
          refine XX.lvs [1, 2, 3, 4, 0] rfl ?_
          exact ih _ (by omega) (i + 1) rfl (by omega) (by rw [← hr, sk_step (a := i) (by omega) h15])
  refine XX.iload_n dd_N_read_0 rfl 2 rfl ?_
  refine XX.istore (lv2 := [(4, .int (nI a)), (0, .ref (q 8)), (1, .ref (q 1)), (2, .int (nI a)), (3, .int (nI b))]) dd_N_read_1 (by decide) rfl ?_
  refine XX.lvs [1, 2, 3, 4, 0] rfl ?_
  exact loop1 _ a rfl ha rfl

set_option maxRecDepth 100000 in
set_option maxHeartbeats 4000000 in
theorem c_N_wholeLength8 {G : XG} {q : Nat → Nat} {x : Nat → Int32} {n : Nat → Nat} {f : Nat → Nat → Int32} {kf : Nat → Option Nat} {kl : va_W} {u v : Nat} (h1 : x 11 = nI u) (h2 : x 12 = nI v) (h : u ≤ v) : MR G m_N_wholeLength (xr 0 0 0) [.ref (q 8)] (wC G q x n f kf kl) (some (.int (nI (v - u)))) := by
  refine MR.of rfl (xn_le rfl) ?_
  refine (?_ : XR G m_N_wholeLength (xr 0 0 0) (xr_F (some (.int (nI (v - u))))) (wC G q x n f kf kl) 0 [(0, .ref (q 8))] [])
  refine XR.aload_n dd_N_wholeLength_0 rfl 0 rfl ?_
  refine XR.get (q0 := 8) (v := .int (x 12)) fl_N_27 dd_N_wholeLength_1 rfl rfl ?_
  refine XR.tp (y := nI v) (h2) ?_
  refine XR.aload_n dd_N_wholeLength_4 rfl 0 rfl ?_
  refine XR.get (q0 := 8) (v := .int (x 11)) fl_N_17 dd_N_wholeLength_5 rfl rfl ?_
  refine XR.tp (y := nI u) (h1) ?_
  refine XR.isub dd_N_wholeLength_8 ?_
  refine XR.tp (y := nI (v - u)) (pk_sub (by omega)) ?_
  exact XR.iret dd_N_wholeLength_9 rfl

set_option maxRecDepth 100000 in
set_option maxHeartbeats 4000000 in
theorem c_N_read9 {G : XG} {q : Nat → Nat} {x : Nat → Int32} {n : Nat → Nat} {f : Nat → Nat → Int32} {kf : Nat → Option Nat} {kl : va_W} {len bc : Nat} {br : Nat → Nat} {B : Nat → Int32} (ht : txt x n f len bc br B) {a b : Nat} (ha : a ≤ len) (hb : b ≤ len) : MM G m_N_read (xr 1 0 0) [.ref (q 9), .ref (q 1), .int (nI a), .int (nI b)] (wC G q x n f kf kl) (fun r w => r = none ∧ ∃ x2 : Nat → Int32, w = wC G q x2 n f kf kl ∧ nmf x x2 15 ∧ nmo x2 15 B b a) := by
  obtain ⟨hx3, hx4, hl0, hn0, hb1, hn1, hbr, hB⟩ := id ht
  have z1 := nm_a_le (B := B) ha hb
  have z2 := nm_whole_le (B := B) ha hb
  have z3 := nm_wstop_le (B := B) ha hb
  have z4 := nm_frac_le (B := B) ha hb
  have z5 := nm_fend_le (B := B) ha hb
  have z6 := nm_fstop_le (B := B) ha hb
  refine MM.of rfl (xn_le rfl) ?_
  refine (?_ : XX G m_N_read (xr 1 0 0) (xx_F G (fun r w => r = none ∧ ∃ x2 : Nat → Int32, w = wC G q x2 n f kf kl ∧ nmf x x2 15 ∧ nmo x2 15 B b a) (xr 1 0 0)) 0 0 (wC G q x n f kf kl) 0 [(0, .ref (q 9)), (1, .ref (q 1)), (2, .int (nI a)), (3, .int (nI b))] [])
  have j212 : XX G m_N_read (xr 1 0 0) (xx_F G (fun r w => r = none ∧ ∃ x2 : Nat → Int32, w = wC G q x2 n f kf kl ∧ nmf x x2 15 ∧ nmo x2 15 B b a) (xr 1 0 0)) 0 0 (wC G q (upd (upd (upd (upd x 16 (nI (nm_whole B b a))) 17 (nI (nm_wstop B b a))) 18 (nI (nm_frac B b a))) 19 (nI (nm_fstop B b a))) n f kf kl) 212 [(0, .ref (q 9)), (1, .ref (q 1)), (2, .int (nI a)), (3, .int (nI b)), (4, .int (nI (nm_whole B b a))), (5, .int (bI (nm_min B b a))), (6, .int (bI (nm_point B b a)))] [] := by
    have j239 : XX G m_N_read (xr 1 0 0) (xx_F G (fun r w => r = none ∧ ∃ x2 : Nat → Int32, w = wC G q x2 n f kf kl ∧ nmf x x2 15 ∧ nmo x2 15 B b a) (xr 1 0 0)) 0 0 (wC G q (upd (upd (upd (upd x 16 (nI (nm_whole B b a))) 17 (nI (nm_wstop B b a))) 18 (nI (nm_frac B b a))) 19 (nI (nm_fstop B b a))) n f kf kl) 239 [(0, .ref (q 9)), (1, .ref (q 1)), (2, .int (nI a)), (3, .int (nI b)), (4, .int (nI (nm_whole B b a))), (5, .int (bI (nm_min B b a))), (6, .int (bI (nm_point B b a)))] [.int (bI (nm_zero B b a))] := by
      refine XX.istore (lv2 := [(7, .int (bI (nm_zero B b a))), (0, .ref (q 9)), (1, .ref (q 1)), (2, .int (nI a)), (3, .int (nI b)), (4, .int (nI (nm_whole B b a))), (5, .int (bI (nm_min B b a))), (6, .int (bI (nm_point B b a)))]) dd_N_read_239 (by decide) rfl ?_
      refine XX.aload_n dd_N_read_241 rfl 1 rfl ?_
      have j261 : XX G m_N_read (xr 1 0 0) (xx_F G (fun r w => r = none ∧ ∃ x2 : Nat → Int32, w = wC G q x2 n f kf kl ∧ nmf x x2 15 ∧ nmo x2 15 B b a) (xr 1 0 0)) 0 0 (wC G q (upd (upd (upd (upd x 16 (nI (nm_whole B b a))) 17 (nI (nm_wstop B b a))) 18 (nI (nm_frac B b a))) 19 (nI (nm_fstop B b a))) n f kf kl) 261 [(7, .int (bI (nm_zero B b a))), (0, .ref (q 9)), (1, .ref (q 1)), (2, .int (nI a)), (3, .int (nI b)), (4, .int (nI (nm_whole B b a))), (5, .int (bI (nm_min B b a))), (6, .int (bI (nm_point B b a)))] [.int (nm_sign B b a), .ref (q 9)] := by
        refine XX.put (q0 := 9) (ws2 := wC G q (upd (upd (upd (upd (upd x 16 (nI (nm_whole B b a))) 17 (nI (nm_wstop B b a))) 18 (nI (nm_frac B b a))) 19 (nI (nm_fstop B b a))) 15 (nm_sign B b a)) n f kf kl) fp_N_36 dd_N_read_261 rfl rfl rfl (xn_le rfl) rfl ?_
        exact XX.vret dd_N_read_264 rfl ⟨xn_le rfl, xn_le rfl⟩ ⟨rfl, _, rfl, fun i hi => by simp only [upd]; rw [if_neg (by omega), if_neg (by omega), if_neg (by omega), if_neg (by omega), if_neg (by omega)], rfl, rfl, rfl, rfl, rfl⟩
      refine XX.iload dd_N_read_242 0 rfl ?_
      refine XX.bif_eq (tgt := 251) dd_N_read_244 (by decide) (fun h244 => ?_) (fun h244 => ?_)
      ·
        refine XX.iload dd_N_read_251 6 rfl ?_
        refine XX.bif_eq (tgt := 260) dd_N_read_253 (by decide) (fun h253 => ?_) (fun h253 => ?_)
        ·
          refine XX.iconst (v := nI 1) dd_N_read_260 (by decide) ?_
          exact XX.tp (by first | (simp [nm_sign, h244, h253]; done) | (simp [nm_sign, h244, h253]; intros; exfalso; omega)) j261
        ·
          refine XX.iconst (v := -1) dd_N_read_256 (by decide) ?_
          refine XX.goto (tgt := 261) dd_N_read_257 (by decide) ?_
          exact XX.tp (by first | (simp [nm_sign, h244, h253]; done) | (simp [nm_sign, h244, h253]; intros; exfalso; omega)) j261
      ·
        refine XX.iconst (v := nI 0) dd_N_read_247 (by decide) ?_
        refine XX.goto (tgt := 261) dd_N_read_248 (by decide) ?_
        exact XX.tp (by first | (simp [nm_sign, h244]; done) | (simp [nm_sign, h244]; intros; exfalso; omega)) j261
    refine XX.aload_n dd_N_read_212 rfl 0 rfl ?_
    refine XX.get (q0 := 9) (v := .int (nI (nm_whole B b a))) fl_N_17 dd_N_read_213 rfl rfl ?_
    refine XX.aload_n dd_N_read_216 rfl 0 rfl ?_
    refine XX.get (q0 := 9) (v := .int (nI (nm_wstop B b a))) fl_N_27 dd_N_read_217 rfl rfl ?_
    refine XX.ncmp_ne (tgt := 238) dd_N_read_220 (by decide) (by omega) (by omega) (fun h220 => ?_) (fun h220 => ?_)
    ·
      refine XX.iconst (v := nI 0) dd_N_read_238 (by decide) ?_
      exact XX.tp (by first | (simp [bI, nm_zero, h220]; done) | (simp [bI, nm_zero, h220]; intros; exfalso; omega)) j239
    ·
      refine XX.aload_n dd_N_read_223 rfl 0 rfl ?_
      refine XX.get (q0 := 9) (v := .int (nI (nm_frac B b a))) fl_N_30 dd_N_read_224 rfl rfl ?_
      refine XX.aload_n dd_N_read_227 rfl 0 rfl ?_
      refine XX.get (q0 := 9) (v := .int (nI (nm_fstop B b a))) fl_N_33 dd_N_read_228 rfl rfl ?_
      refine XX.ncmp_ne (tgt := 238) dd_N_read_231 (by decide) (by omega) (by omega) (fun h231 => ?_) (fun h231 => ?_)
      ·
        refine XX.iconst (v := nI 0) dd_N_read_238 (by decide) ?_
        exact XX.tp (by first | (simp [bI, nm_zero, h220, h231]; done) | (simp [bI, nm_zero, h220, h231]; intros; exfalso; omega)) j239
      ·
        refine XX.iconst (v := nI 1) dd_N_read_234 (by decide) ?_
        refine XX.goto (tgt := 239) dd_N_read_235 (by decide) ?_
        exact XX.tp (by first | (simp [bI, nm_zero, h220, h231]; done) | (simp [bI, nm_zero, h220, h231]; intros; exfalso; omega)) j239
  have loop3 : ∀ (kk e : Nat), e = kk → e ≤ len → nm_strip B (nm_frac B b a) e = nm_fstop B b a → XX G m_N_read (xr 1 0 0) (xx_F G (fun r w => r = none ∧ ∃ x2 : Nat → Int32, w = wC G q x2 n f kf kl ∧ nmf x x2 15 ∧ nmo x2 15 B b a) (xr 1 0 0)) 0 0 (wC G q (upd (upd (upd (upd x 16 (nI (nm_whole B b a))) 17 (nI (nm_wstop B b a))) 18 (nI (nm_frac B b a))) 19 (nI e)) n f kf kl) 173 [(0, .ref (q 9)), (1, .ref (q 1)), (2, .int (nI a)), (3, .int (nI b)), (4, .int (nI (nm_whole B b a))), (5, .int (bI (nm_min B b a))), (6, .int (bI (nm_point B b a)))] [] := by
    intro kk
    induction kk using Nat.strongRecOn with
    | _ kk ih =>
      intro e hk he hr
      refine XX.aload_n dd_N_read_173 rfl 0 rfl ?_
      refine XX.get (q0 := 9) (v := .int (nI e)) fl_N_33 dd_N_read_174 rfl rfl ?_
      refine XX.aload_n dd_N_read_177 rfl 0 rfl ?_
      refine XX.get (q0 := 9) (v := .int (nI (nm_frac B b a))) fl_N_30 dd_N_read_178 rfl rfl ?_
      refine XX.ncmp_le (tgt := 212) dd_N_read_181 (by decide) (by omega) (by omega) (fun h181 => ?_) (fun h181 => ?_)
      ·
        have e0 : e = nm_fstop B b a := by rw [← hr, nm_strip_stop (fun hz => by first | (exfalso; omega) | simp [pb_zero, h181])]
        subst e0
        exact j212
      ·
        refine XX.aload_n dd_N_read_184 rfl 1 rfl ?_
        refine XX.aload_n dd_N_read_185 rfl 0 rfl ?_
        refine XX.get (q0 := 9) (v := .int (nI e)) fl_N_33 dd_N_read_186 rfl rfl ?_
        refine XX.iconst (v := nI 1) dd_N_read_189 (by decide) ?_
        refine XX.isub dd_N_read_190 ?_
        refine XX.tp (y := nI (e - 1)) (pk_sub (by omega)) ?_
        refine XX.callVr (Mk := m_T_at) (n := 1) (As := [.int (nI (e - 1))]) (rest := []) (q0 := 1) (ci := 1) (c_T_at (x := (upd (upd (upd (upd x 16 (nI (nm_whole B b a))) 17 (nI (nm_wstop B b a))) 18 (nI (nm_frac B b a))) 19 (nI e))) ht (i := e - 1) (by omega)) mt_T_at mi_T_at ml_N_13 rfl dd_N_read_191 (rfl) rfl rfl ⟨xn_le rfl, xn_le rfl⟩ ⟨xn_le rfl, xn_le rfl⟩ (xn_le rfl) rfl ?_
        refine XX.bipush (v := nI 48) dd_N_read_194 (by decide) ?_
        refine XX.icmp_ne (tgt := 212) dd_N_read_196 (by decide) (fun h196 => ?_) (fun h196 => ?_)
        ·
          have e0 : e = nm_fstop B b a := by rw [← hr, nm_strip_stop (fun hz => by first | (exfalso; omega) | simp [pb_zero, h181, h196])]
          subst e0
          exact j212
        ·
          refine XX.aload_n dd_N_read_199 rfl 0 rfl ?_
          refine XX.dup dd_N_read_200 rfl ?_
          refine XX.get (q0 := 9) (v := .int (nI e)) fl_N_33 dd_N_read_201 rfl rfl ?_
          refine XX.iconst (v := nI 1) dd_N_read_204 (by decide) ?_
          refine XX.isub dd_N_read_205 ?_
          refine XX.tp (y := nI (e - 1)) (pk_sub (by omega)) ?_
          refine XX.put (q0 := 9) (ws2 := wC G q (upd (upd (upd (upd (upd x 16 (nI (nm_whole B b a))) 17 (nI (nm_wstop B b a))) 18 (nI (nm_frac B b a))) 19 (nI e)) 19 (nI (e - 1))) n f kf kl) fp_N_33 dd_N_read_206 rfl rfl rfl (xn_le rfl) rfl ?_
          refine XX.goto (tgt := 173) dd_N_read_209 (by decide) ?_
          refine XX.cg (ws2 := wC G q (upd (upd (upd (upd x 16 (nI (nm_whole B b a))) 17 (nI (nm_wstop B b a))) 18 (nI (nm_frac B b a))) 19 (nI (e - 1))) n f kf kl) (by rw [upd_upd]) rfl rfl ?_
          exact ih _ (by omega) (e - 1) rfl (by omega) (by rw [← hr, nm_strip_step (e := e) (by omega) (by simp [pb_zero, h196])])
  have j79 : XX G m_N_read (xr 1 0 0) (xx_F G (fun r w => r = none ∧ ∃ x2 : Nat → Int32, w = wC G q x2 n f kf kl ∧ nmf x x2 15 ∧ nmo x2 15 B b a) (xr 1 0 0)) 0 0 (wC G q x n f kf kl) 79 [(0, .ref (q 9)), (1, .ref (q 1)), (2, .int (nI a)), (3, .int (nI b)), (4, .int (nI (nm_whole B b a))), (5, .int (bI (nm_min B b a)))] [] := by
    refine XX.aload_n dd_N_read_79 rfl 0 rfl ?_
    refine XX.iload dd_N_read_80 4 rfl ?_
    refine XX.put (q0 := 9) (ws2 := wC G q (upd x 16 (nI (nm_whole B b a))) n f kf kl) fp_N_17 dd_N_read_82 rfl rfl rfl (xn_le rfl) rfl ?_
    refine XX.aload_n dd_N_read_85 rfl 0 rfl ?_
    refine XX.aload_n dd_N_read_86 rfl 1 rfl ?_
    refine XX.aload_n dd_N_read_87 rfl 0 rfl ?_
    refine XX.get (q0 := 9) (v := .int (nI (nm_whole B b a))) fl_N_17 dd_N_read_88 rfl rfl ?_
    refine XX.iload_n dd_N_read_91 rfl 3 rfl ?_
    refine XX.callVr (Mk := m_T_passDigits) (n := 2) (As := [.int (nI (nm_whole B b a)), .int (nI b)]) (rest := [.ref (q 9)]) (q0 := 1) (ci := 1) (c_T_passDigits (x := (upd x 16 (nI (nm_whole B b a)))) ht (a := nm_whole B b a) (b := b) hb (by omega)) mt_T_passDigits mi_T_passDigits ml_N_23 rfl dd_N_read_92 (rfl) rfl rfl ⟨xn_le rfl, xn_le rfl⟩ ⟨xn_le rfl, xn_le rfl⟩ (xn_le rfl) rfl ?_
    refine XX.tp (y := nI (nm_wstop B b a)) (rfl) ?_
    refine XX.put (q0 := 9) (ws2 := wC G q (upd (upd x 16 (nI (nm_whole B b a))) 17 (nI (nm_wstop B b a))) n f kf kl) fp_N_27 dd_N_read_95 rfl rfl rfl (xn_le rfl) rfl ?_
    have j124 : XX G m_N_read (xr 1 0 0) (xx_F G (fun r w => r = none ∧ ∃ x2 : Nat → Int32, w = wC G q x2 n f kf kl ∧ nmf x x2 15 ∧ nmo x2 15 B b a) (xr 1 0 0)) 0 0 (wC G q (upd (upd x 16 (nI (nm_whole B b a))) 17 (nI (nm_wstop B b a))) n f kf kl) 124 [(0, .ref (q 9)), (1, .ref (q 1)), (2, .int (nI a)), (3, .int (nI b)), (4, .int (nI (nm_whole B b a))), (5, .int (bI (nm_min B b a)))] [.int (bI (nm_point B b a))] := by
      refine XX.istore (lv2 := [(6, .int (bI (nm_point B b a))), (0, .ref (q 9)), (1, .ref (q 1)), (2, .int (nI a)), (3, .int (nI b)), (4, .int (nI (nm_whole B b a))), (5, .int (bI (nm_min B b a)))]) dd_N_read_124 (by decide) rfl ?_
      refine XX.aload_n dd_N_read_126 rfl 1 rfl ?_
      have j145 : XX G m_N_read (xr 1 0 0) (xx_F G (fun r w => r = none ∧ ∃ x2 : Nat → Int32, w = wC G q x2 n f kf kl ∧ nmf x x2 15 ∧ nmo x2 15 B b a) (xr 1 0 0)) 0 0 (wC G q (upd (upd x 16 (nI (nm_whole B b a))) 17 (nI (nm_wstop B b a))) n f kf kl) 145 [(6, .int (bI (nm_point B b a))), (0, .ref (q 9)), (1, .ref (q 1)), (2, .int (nI a)), (3, .int (nI b)), (4, .int (nI (nm_whole B b a))), (5, .int (bI (nm_min B b a)))] [.int (nI (nm_frac B b a)), .ref (q 9)] := by
        refine XX.put (q0 := 9) (ws2 := wC G q (upd (upd (upd x 16 (nI (nm_whole B b a))) 17 (nI (nm_wstop B b a))) 18 (nI (nm_frac B b a))) n f kf kl) fp_N_30 dd_N_read_145 rfl rfl rfl (xn_le rfl) rfl ?_
        refine XX.aload_n dd_N_read_148 rfl 1 rfl ?_
        have j170 : XX G m_N_read (xr 1 0 0) (xx_F G (fun r w => r = none ∧ ∃ x2 : Nat → Int32, w = wC G q x2 n f kf kl ∧ nmf x x2 15 ∧ nmo x2 15 B b a) (xr 1 0 0)) 0 0 (wC G q (upd (upd (upd x 16 (nI (nm_whole B b a))) 17 (nI (nm_wstop B b a))) 18 (nI (nm_frac B b a))) n f kf kl) 170 [(6, .int (bI (nm_point B b a))), (0, .ref (q 9)), (1, .ref (q 1)), (2, .int (nI a)), (3, .int (nI b)), (4, .int (nI (nm_whole B b a))), (5, .int (bI (nm_min B b a)))] [.int (nI (nm_fend B b a)), .ref (q 9)] := by
          refine XX.put (q0 := 9) (ws2 := wC G q (upd (upd (upd (upd x 16 (nI (nm_whole B b a))) 17 (nI (nm_wstop B b a))) 18 (nI (nm_frac B b a))) 19 (nI (nm_fend B b a))) n f kf kl) fp_N_33 dd_N_read_170 rfl rfl rfl (xn_le rfl) rfl ?_
          refine XX.lvs [1, 2, 3, 4, 5, 6, 0] rfl ?_
          exact loop3 _ _ rfl (by omega) rfl
        refine XX.iload dd_N_read_149 0 rfl ?_
        refine XX.bif_eq (tgt := 166) dd_N_read_151 (by decide) (fun h151 => ?_) (fun h151 => ?_)
        ·
          refine XX.aload_n dd_N_read_166 rfl 1 rfl ?_
          refine XX.get (q0 := 9) (v := .int (nI (nm_frac B b a))) fl_N_30 dd_N_read_167 rfl rfl ?_
          exact XX.tp (by first | (simp [nm_fend, h151]; done) | (simp [nm_fend, h151]; intros; exfalso; omega)) j170
        ·
          refine XX.aload_n dd_N_read_154 rfl 2 rfl ?_
          refine XX.aload_n dd_N_read_155 rfl 1 rfl ?_
          refine XX.get (q0 := 9) (v := .int (nI (nm_frac B b a))) fl_N_30 dd_N_read_156 rfl rfl ?_
          refine XX.iload_n dd_N_read_159 rfl 4 rfl ?_
          refine XX.callVr (Mk := m_T_passDigits) (n := 2) (As := [.int (nI (nm_frac B b a)), .int (nI b)]) (rest := [.ref (q 9)]) (q0 := 1) (ci := 1) (c_T_passDigits (x := (upd (upd (upd x 16 (nI (nm_whole B b a))) 17 (nI (nm_wstop B b a))) 18 (nI (nm_frac B b a)))) ht (a := nm_frac B b a) (b := b) hb (by omega)) mt_T_passDigits mi_T_passDigits ml_N_23 rfl dd_N_read_160 (rfl) rfl rfl ⟨xn_le rfl, xn_le rfl⟩ ⟨xn_le rfl, xn_le rfl⟩ (xn_le rfl) rfl ?_
          refine XX.goto (tgt := 170) dd_N_read_163 (by decide) ?_
          exact XX.tp (by first | (simp [nm_fend, h151]; done) | (simp [nm_fend, h151]; intros; exfalso; omega)) j170
      refine XX.iload dd_N_read_127 0 rfl ?_
      refine XX.bif_eq (tgt := 141) dd_N_read_129 (by decide) (fun h129 => ?_) (fun h129 => ?_)
      ·
        refine XX.aload_n dd_N_read_141 rfl 1 rfl ?_
        refine XX.get (q0 := 9) (v := .int (nI (nm_wstop B b a))) fl_N_27 dd_N_read_142 rfl rfl ?_
        exact XX.tp (by first | (simp [nm_frac, h129]; done) | (simp [nm_frac, h129]; intros; exfalso; omega)) j145
      ·
        refine XX.aload_n dd_N_read_132 rfl 1 rfl ?_
        refine XX.get (q0 := 9) (v := .int (nI (nm_wstop B b a))) fl_N_27 dd_N_read_133 rfl rfl ?_
        refine XX.iconst (v := nI 1) dd_N_read_136 (by decide) ?_
        refine XX.iadd dd_N_read_137 ?_
        refine XX.tp (y := nI (nm_wstop B b a + 1)) (nI_add _ _) ?_
        refine XX.goto (tgt := 145) dd_N_read_138 (by decide) ?_
        exact XX.tp (by first | (simp [nm_frac, h129]; done) | (simp [nm_frac, h129]; intros; exfalso; omega)) j145
    refine XX.aload_n dd_N_read_98 rfl 0 rfl ?_
    refine XX.get (q0 := 9) (v := .int (nI (nm_wstop B b a))) fl_N_27 dd_N_read_99 rfl rfl ?_
    refine XX.iload_n dd_N_read_102 rfl 3 rfl ?_
    refine XX.ncmp_ge (tgt := 123) dd_N_read_103 (by decide) (by omega) (by omega) (fun h103 => ?_) (fun h103 => ?_)
    ·
      refine XX.iconst (v := nI 0) dd_N_read_123 (by decide) ?_
      exact XX.tp (by first | (simp [bI, nm_point, h103]; done) | (simp [bI, nm_point, h103]; intros; exfalso; omega)) j124
    ·
      refine XX.aload_n dd_N_read_106 rfl 1 rfl ?_
      refine XX.aload_n dd_N_read_107 rfl 0 rfl ?_
      refine XX.get (q0 := 9) (v := .int (nI (nm_wstop B b a))) fl_N_27 dd_N_read_108 rfl rfl ?_
      refine XX.callVr (Mk := m_T_at) (n := 1) (As := [.int (nI (nm_wstop B b a))]) (rest := []) (q0 := 1) (ci := 1) (c_T_at (x := (upd (upd x 16 (nI (nm_whole B b a))) 17 (nI (nm_wstop B b a)))) ht (i := nm_wstop B b a) (by omega)) mt_T_at mi_T_at ml_N_13 rfl dd_N_read_111 (rfl) rfl rfl ⟨xn_le rfl, xn_le rfl⟩ ⟨xn_le rfl, xn_le rfl⟩ (xn_le rfl) rfl ?_
      refine XX.bipush (v := nI 46) dd_N_read_114 (by decide) ?_
      refine XX.icmp_ne (tgt := 123) dd_N_read_116 (by decide) (fun h116 => ?_) (fun h116 => ?_)
      ·
        refine XX.iconst (v := nI 0) dd_N_read_123 (by decide) ?_
        exact XX.tp (by first | (simp [bI, nm_point, h103, h116]; done) | (simp [bI, nm_point, h103, h116]; intros; exfalso; omega)) j124
      ·
        refine XX.iconst (v := nI 1) dd_N_read_119 (by decide) ?_
        refine XX.goto (tgt := 124) dd_N_read_120 (by decide) ?_
        exact XX.tp (by first | (simp [bI, nm_point, h103, h116]; done) | (simp [bI, nm_point, h103, h116]; intros; exfalso; omega)) j124
  have loop2 : ∀ (kk i : Nat), b - i = kk → i ≤ len → sk (pb_zero B) b i = nm_whole B b a → XX G m_N_read (xr 1 0 0) (xx_F G (fun r w => r = none ∧ ∃ x2 : Nat → Int32, w = wC G q x2 n f kf kl ∧ nmf x x2 15 ∧ nmo x2 15 B b a) (xr 1 0 0)) 0 0 (wC G q x n f kf kl) 56 [(0, .ref (q 9)), (1, .ref (q 1)), (2, .int (nI a)), (3, .int (nI b)), (4, .int (nI i)), (5, .int (bI (nm_min B b a)))] [] := by
    intro kk
    induction kk using Nat.strongRecOn with
    | _ kk ih =>
      intro i hk hi hr
      refine XX.iload dd_N_read_56 4 rfl ?_
      refine XX.iload_n dd_N_read_58 rfl 3 rfl ?_
      refine XX.ncmp_ge (tgt := 79) dd_N_read_59 (by decide) (by omega) (by omega) (fun h59 => ?_) (fun h59 => ?_)
      ·
        have e0 : i = nm_whole B b a := by rw [← hr, sk_stop (fun hz => by first | (exfalso; omega) | simp [pb_zero, h59])]
        subst e0
        exact j79
      ·
        refine XX.aload_n dd_N_read_62 rfl 1 rfl ?_
        refine XX.iload dd_N_read_63 4 rfl ?_
        refine XX.callVr (Mk := m_T_at) (n := 1) (As := [.int (nI i)]) (rest := []) (q0 := 1) (ci := 1) (c_T_at (x := x) ht (i := i) (by omega)) mt_T_at mi_T_at ml_N_13 rfl dd_N_read_65 (rfl) rfl rfl ⟨xn_le rfl, xn_le rfl⟩ ⟨xn_le rfl, xn_le rfl⟩ (xn_le rfl) rfl ?_
        refine XX.bipush (v := nI 48) dd_N_read_68 (by decide) ?_
        refine XX.icmp_ne (tgt := 79) dd_N_read_70 (by decide) (fun h70 => ?_) (fun h70 => ?_)
        ·
          have e0 : i = nm_whole B b a := by rw [← hr, sk_stop (fun hz => by first | (exfalso; omega) | simp [pb_zero, h59, h70])]
          subst e0
          exact j79
        ·
          refine XX.iinc (z := 4) (v := nI (i + 1)) (lv2 := [(4, .int (nI (i + 1))), (0, .ref (q 9)), (1, .ref (q 1)), (2, .int (nI a)), (3, .int (nI b)), (5, .int (bI (nm_min B b a)))]) dd_N_read_73 rfl ((nI_succ _).symm) (by decide) rfl ?_
          refine XX.goto (tgt := 56) dd_N_read_76 (by decide) ?_
          refine XX.lvs [1, 2, 3, 4, 0, 5] rfl ?_
          exact ih _ (by omega) (i + 1) rfl (by omega) (by rw [← hr, sk_step (a := i) (by omega) (by simp [pb_zero, h70])])
  have j24 : XX G m_N_read (xr 1 0 0) (xx_F G (fun r w => r = none ∧ ∃ x2 : Nat → Int32, w = wC G q x2 n f kf kl ∧ nmf x x2 15 ∧ nmo x2 15 B b a) (xr 1 0 0)) 0 0 (wC G q x n f kf kl) 24 [(0, .ref (q 9)), (1, .ref (q 1)), (2, .int (nI a)), (3, .int (nI b)), (4, .int (nI (sk (pb_blk B) b a)))] [] := by
    have j46 : XX G m_N_read (xr 1 0 0) (xx_F G (fun r w => r = none ∧ ∃ x2 : Nat → Int32, w = wC G q x2 n f kf kl ∧ nmf x x2 15 ∧ nmo x2 15 B b a) (xr 1 0 0)) 0 0 (wC G q x n f kf kl) 46 [(0, .ref (q 9)), (1, .ref (q 1)), (2, .int (nI a)), (3, .int (nI b)), (4, .int (nI (sk (pb_blk B) b a)))] [.int (bI (nm_min B b a))] := by
      refine XX.istore (lv2 := [(5, .int (bI (nm_min B b a))), (0, .ref (q 9)), (1, .ref (q 1)), (2, .int (nI a)), (3, .int (nI b)), (4, .int (nI (sk (pb_blk B) b a)))]) dd_N_read_46 (by decide) rfl ?_
      refine XX.iload dd_N_read_48 0 rfl ?_
      refine XX.bif_eq (tgt := 56) dd_N_read_50 (by decide) (fun h50 => ?_) (fun h50 => ?_)
      ·
        refine XX.lvs [1, 2, 3, 4, 5, 0] rfl ?_
        exact loop2 _ _ rfl (by omega) (by simp [nm_whole, h50])
      ·
        have h50a : sk (pb_blk B) b a < b := by simp [nm_min] at h50; exact h50.1
        refine XX.iinc (z := 5) (v := nI (sk (pb_blk B) b a + 1)) (lv2 := [(4, .int (nI (sk (pb_blk B) b a + 1))), (5, .int (bI (nm_min B b a))), (0, .ref (q 9)), (1, .ref (q 1)), (2, .int (nI a)), (3, .int (nI b))]) dd_N_read_53 rfl ((nI_succ _).symm) (by decide) rfl ?_
        refine XX.lvs [2, 3, 4, 5, 0, 1] rfl ?_
        exact loop2 _ _ rfl (by omega) (by simp [nm_whole, h50])
    refine XX.iload dd_N_read_24 4 rfl ?_
    refine XX.iload_n dd_N_read_26 rfl 3 rfl ?_
    refine XX.ncmp_ge (tgt := 45) dd_N_read_27 (by decide) (by omega) (by omega) (fun h27 => ?_) (fun h27 => ?_)
    ·
      refine XX.iconst (v := nI 0) dd_N_read_45 (by decide) ?_
      exact XX.tp (by first | (simp [bI, nm_min, h27]; done) | (simp [bI, nm_min, h27]; intros; exfalso; omega)) j46
    ·
      refine XX.aload_n dd_N_read_30 rfl 1 rfl ?_
      refine XX.iload dd_N_read_31 4 rfl ?_
      refine XX.callVr (Mk := m_T_at) (n := 1) (As := [.int (nI (sk (pb_blk B) b a))]) (rest := []) (q0 := 1) (ci := 1) (c_T_at (x := x) ht (i := sk (pb_blk B) b a) (by omega)) mt_T_at mi_T_at ml_N_13 rfl dd_N_read_33 (rfl) rfl rfl ⟨xn_le rfl, xn_le rfl⟩ ⟨xn_le rfl, xn_le rfl⟩ (xn_le rfl) rfl ?_
      refine XX.bipush (v := nI 45) dd_N_read_36 (by decide) ?_
      refine XX.icmp_ne (tgt := 45) dd_N_read_38 (by decide) (fun h38 => ?_) (fun h38 => ?_)
      ·
        refine XX.iconst (v := nI 0) dd_N_read_45 (by decide) ?_
        exact XX.tp (by first | (simp [bI, nm_min, h27, h38]; done) | (simp [bI, nm_min, h27, h38]; intros; exfalso; omega)) j46
      ·
        refine XX.iconst (v := nI 1) dd_N_read_41 (by decide) ?_
        refine XX.goto (tgt := 46) dd_N_read_42 (by decide) ?_
        exact XX.tp (by first | (simp [bI, nm_min, h27, h38]; done) | (simp [bI, nm_min, h27, h38]; intros; exfalso; omega)) j46
  have loop1 : ∀ (kk i : Nat), b - i = kk → i ≤ len → sk (pb_blk B) b i = sk (pb_blk B) b a → XX G m_N_read (xr 1 0 0) (xx_F G (fun r w => r = none ∧ ∃ x2 : Nat → Int32, w = wC G q x2 n f kf kl ∧ nmf x x2 15 ∧ nmo x2 15 B b a) (xr 1 0 0)) 0 0 (wC G q x n f kf kl) 3 [(0, .ref (q 9)), (1, .ref (q 1)), (2, .int (nI a)), (3, .int (nI b)), (4, .int (nI i))] [] := by
    intro kk
    induction kk using Nat.strongRecOn with
    | _ kk ih =>
      intro i hk hi hr
      refine XX.iload dd_N_read_3 4 rfl ?_
      refine XX.iload_n dd_N_read_5 rfl 3 rfl ?_
      refine XX.ncmp_ge (tgt := 24) dd_N_read_6 (by decide) (by omega) (by omega) (fun h6 => ?_) (fun h6 => ?_)
      ·
        have e0 : i = sk (pb_blk B) b a := by rw [← hr, sk_stop (fun hz => by first | (exfalso; omega) | simp [h6])]
        subst e0
        exact j24
      ·
        refine XX.aload_n dd_N_read_9 rfl 1 rfl ?_
        refine XX.iload dd_N_read_10 4 rfl ?_
        refine XX.callVr (Mk := m_T_isBlankAt) (n := 1) (As := [.int (nI i)]) (rest := []) (q0 := 1) (ci := 1) (c_T_isBlankAt (x := x) ht (i := i) (by omega)) mt_T_isBlankAt mi_T_isBlankAt ml_N_7 rfl dd_N_read_12 (rfl) rfl rfl ⟨xn_le rfl, xn_le rfl⟩ ⟨xn_le rfl, xn_le rfl⟩ (xn_le rfl) rfl ?_
        refine XX.bif_eq (tgt := 24) dd_N_read_15 (by decide) (fun h15 => ?_) (fun h15 => ?_)
        ·
          have e0 : i = sk (pb_blk B) b a := by rw [← hr, sk_stop (fun hz => by first | (exfalso; omega) | simp [h6, h15])]
          subst e0
          exact j24
        ·
          refine XX.iinc (z := 4) (v := nI (i + 1)) (lv2 := [(4, .int (nI (i + 1))), (0, .ref (q 9)), (1, .ref (q 1)), (2, .int (nI a)), (3, .int (nI b))]) dd_N_read_18 rfl ((nI_succ _).symm) (by decide) rfl ?_
          refine XX.goto (tgt := 3) dd_N_read_21 (by decide) ?_
          refine XX.lvs [1, 2, 3, 4, 0] rfl ?_
          exact ih _ (by omega) (i + 1) rfl (by omega) (by rw [← hr, sk_step (a := i) (by omega) h15])
  refine XX.iload_n dd_N_read_0 rfl 2 rfl ?_
  refine XX.istore (lv2 := [(4, .int (nI a)), (0, .ref (q 9)), (1, .ref (q 1)), (2, .int (nI a)), (3, .int (nI b))]) dd_N_read_1 (by decide) rfl ?_
  refine XX.lvs [1, 2, 3, 4, 0] rfl ?_
  exact loop1 _ a rfl ha rfl

set_option maxRecDepth 100000 in
set_option maxHeartbeats 4000000 in
theorem c_N_wholeLength9 {G : XG} {q : Nat → Nat} {x : Nat → Int32} {n : Nat → Nat} {f : Nat → Nat → Int32} {kf : Nat → Option Nat} {kl : va_W} {u v : Nat} (h1 : x 16 = nI u) (h2 : x 17 = nI v) (h : u ≤ v) : MR G m_N_wholeLength (xr 0 0 0) [.ref (q 9)] (wC G q x n f kf kl) (some (.int (nI (v - u)))) := by
  refine MR.of rfl (xn_le rfl) ?_
  refine (?_ : XR G m_N_wholeLength (xr 0 0 0) (xr_F (some (.int (nI (v - u))))) (wC G q x n f kf kl) 0 [(0, .ref (q 9))] [])
  refine XR.aload_n dd_N_wholeLength_0 rfl 0 rfl ?_
  refine XR.get (q0 := 9) (v := .int (x 17)) fl_N_27 dd_N_wholeLength_1 rfl rfl ?_
  refine XR.tp (y := nI v) (h2) ?_
  refine XR.aload_n dd_N_wholeLength_4 rfl 0 rfl ?_
  refine XR.get (q0 := 9) (v := .int (x 16)) fl_N_17 dd_N_wholeLength_5 rfl rfl ?_
  refine XR.tp (y := nI u) (h1) ?_
  refine XR.isub dd_N_wholeLength_8 ?_
  refine XR.tp (y := nI (v - u)) (pk_sub (by omega)) ?_
  exact XR.iret dd_N_wholeLength_9 rfl

