/-- held, and the rest of the state as it was -/
abbrev MX (s : SS) (x : Nat → Int32) (f : Nat → Nat → Int32) : Prop := MH s x f ∧ x 13 = nI s.un ∧ x 14 = nI s.mg ∧ x 15 = nI s.mv ∧ x 16 = nI s.gn ∧ ∀ i, i < s.un → f 9 i = nI (s.ul i)
theorem MX.h {s : SS} {x : Nat → Int32} {f : Nat → Nat → Int32} (h : MX s x f) : MH s x f := h.1
theorem MX.ag {s : SS} {x x2 : Nat → Int32} {f : Nat → Nat → Int32} (h : MX s x f) (ha : ∀ i, i ≠ 11 → i ≠ 12 → i ≠ 17 → i ≠ 18 → x2 i = x i) : MX s x2 f := by
  have e : ∀ i, (i < 11 ∨ i = 13 ∨ i = 14 ∨ i = 15 ∨ i = 16 ∨ i = 19) → x2 i = x i := fun i hi => ha i (by omega) (by omega) (by omega) (by omega)
  exact ⟨h.h.mv (fun i hi => e i (by omega)) rfl rfl rfl rfl rfl h.h.tk, (e 13 (by omega)).trans h.2.1, (e 14 (by omega)).trans h.2.2.1, (e 15 (by omega)).trans h.2.2.2.1, (e 16 (by omega)).trans h.2.2.2.2.1, h.2.2.2.2.2⟩
theorem MX.of {s : SS} {x x2 g3 g4 : Nat → Int32} {f : Nat → Nat → Int32} (h : ML s x f) (h19 : x 19 = nI 0) (hl : lnc s.B s.len ≤ 1000) (ha : ∀ i, i ≠ 10 → i ≠ 17 → i ≠ 18 → x2 i = x i) (h10 : x2 10 = bI true) (hh : ∀ l k, l < lnc s.B s.len → k < max 1 s.kc → g3 (6 * l + k) = nI (sp_begin s l k) ∧ g4 (6 * l + k) = nI (sp_end s l k)) : MX s x2 (fup (fup f 3 g3) 4 g4) := by
  have e : ∀ i, (i = 13 ∨ i = 14 ∨ i = 15 ∨ i = 16) → x2 i = x i := fun i hi => ha i (by omega) (by omega) (by omega)
  exact ⟨MH.of h h19 hl ha h10 hh, (e 13 (by omega)).trans h.i.x13, (e 14 (by omega)).trans h.i.x14, (e 15 (by omega)).trans h.i.x15, (e 16 (by omega)).trans h.i.x16, h.i.u⟩

set_option maxRecDepth 100000 in
set_option maxHeartbeats 4000000 in
theorem c_M_merge {G : XG} {q : Nat → Nat} {x : Nat → Int32} {f : Nat → Nat → Int32} {kl : va_W} {s : SS} (hm : MI s x f) {n : Int32} : MM G m_M_merge (xr 9 0 0) [.ref (q 0), .int n] (wM G q x f kl) (MQI G q kl (sel (t_merge s n) (q_merge s n) s) (t_merge s n) (nI (q_merge s n).rc)) := by
  have hlen := hm.g.len
  have hkc := hm.g.kc
  have hrc := hm.g.rc
  have hun := hm.g.un
  have hlc : lnc s.B s.len ≤ s.len := lnc_le
  refine MM.of rfl (xn_le rfl) ?_
  refine (?_ : XX G m_M_merge (xr 9 0 0) (xx_F G (MQI G q kl (sel (t_merge s n) (q_merge s n) s) (t_merge s n) (nI (q_merge s n).rc)) (xr 9 0 0)) 0 0 (wM G q x f kl) 0 [(0, .ref (q 0)), (1, .int n)] [])
  have l274 : lnc s.B s.len ≤ 1000 → t_merge s n = 0 → ∀ (m : Nat), 1 ≤ m → m < 2 ^ 31 → n = nI m → ∀ (F : Nat → Nat → Int32) (kk i : Nat) (xx gt gq : Nat → Int32), pcz_n (lnc s.B s.len) m - i = kk → i ≤ pcz_n (lnc s.B s.len) m → MX s xx F → xx 11 = nI (og_ (s_c s) ((s_sq s m (lnc s.B s.len)).2) (lnc s.B s.len)).1 → (∀ z, z < (og_ (s_c s) ((s_sq s m (lnc s.B s.len)).2) (lnc s.B s.len)).1 → gq z = nI ((og_ (s_c s) ((s_sq s m (lnc s.B s.len)).2) (lnc s.B s.len)).2 z)) → (∀ z, z < i → gt z = nI 0) → (∀ z, pcz_n (lnc s.B s.len) m ≤ z → z < 1000 → gt z = nI 0) → XX G m_M_merge (xr 9 0 0) (xx_F G (MQI G q kl (sel (t_merge s n) (q_merge s n) s) (t_merge s n) (nI (q_merge s n).rc)) (xr 9 0 0)) 0 0 (wM G q xx (fup (fup F 11 gt) 5 gq) kl) 274 [(0, .ref (q 0)), (1, .int (nI m)), (2, .int (nI (pcz_n (lnc s.B s.len) m))), (4, .int (nI i))] [] := by
    intro hln1 ht m hm1 hm2 en F kk
    have hpn := pcz_n_le (ln := lnc s.B s.len) hm1
    induction kk using Nat.strongRecOn with
    | _ kk ih =>
      intro i xx gt gq hkk hi hX h11 hgq hgt1 hgt2
      refine XX.iload dd_M_merge_274 3 rfl ?_
      refine XX.iload_n dd_M_merge_276 rfl 2 rfl ?_
      refine XX.ncmp_ge (tgt := 294) dd_M_merge_277 (by decide) (by omega) (by omega) (fun h277 => ?_) (fun h277 => ?_)
      ·
        refine XX.aload_n dd_M_merge_294 rfl 0 rfl ?_
        refine XX.iconst (v := nI 0) dd_M_merge_295 (by decide) ?_
        refine XX.put (q0 := 0) (ws2 := wM G q (upd xx 10 (nI 0)) (fup (fup F 11 gt) 5 gq) kl) fp_M_126 dd_M_merge_296 rfl rfl rfl (xn_le rfl) rfl ?_
        refine XX.aload_n dd_M_merge_299 rfl 0 rfl ?_
        refine XX.get (q0 := 0) (v := .int ((upd xx 10 (nI 0)) 11)) fl_M_67 dd_M_merge_300 rfl rfl ?_
        refine XX.tp (y := nI ((og_ (s_c s) ((s_sq s m (lnc s.B s.len)).2) (lnc s.B s.len)).1)) (h11) ?_
        have hrc2 : (q_merge s n).rc = (og_ (s_c s) ((s_sq s m (lnc s.B s.len)).2) (lnc s.B s.len)).1 := by rw [en, q_merge, iN_nI hm2]; rfl
        rw [hrc2]
        exact XX.iret dd_M_merge_303 rfl ⟨xn_le rfl, xn_le rfl⟩ (MQI.ok ht hX.h.x19 (by
          rw [en, q_merge, iN_nI hm2]
          have hsq : ∀ i, i < lnc s.B s.len → (s_sq s m (lnc s.B s.len)).2 i < lnc s.B s.len := (mf_inv (ln := lnc s.B s.len) (fun i hi => hi) (by rw [pcz_all hm1]; exact Nat.le_refl _) _ (by rw [pcz_all hm1]; exact Nat.le_refl _)).2
          exact ⟨⟨hX.h.g.len, hX.h.g.bb, hX.h.g.kc, hX.h.g.kb, hX.h.g.m1, hX.h.g.m2, hX.h.g.w1, hX.h.g.w2, Nat.le_trans (og_le _ _ _) hln1, og_lt _ hsq, hX.h.g.un⟩, hX.h.t.1, hX.h.t.2.2.2.2.2, ⟨true, hX.h.x2, fun _ => rfl, fun _ => ⟨hX.h.x1, fun i hi => (hX.h.t.2.2.2.1 i hi).1⟩⟩, hX.h.x3, hX.h.x4, hX.h.x5, hX.h.x6, hX.h.k, hX.h.x8, hX.h.x9, rfl, h11, hgq, hX.2.1, hX.2.2.2.2.2, hX.2.2.1, hX.2.2.2.1, hX.2.2.2.2.1, fun z hz => by
            by_cases e : z < pcz_n (lnc s.B s.len) m
            · exact hgt1 z (by omega)
            · exact hgt2 z (by omega) hz⟩))
      ·
        refine XX.aload_n dd_M_merge_280 rfl 0 rfl ?_
        refine XX.get (q0 := 0) (v := .ref (q 12)) fl_M_54 dd_M_merge_281 rfl rfl ?_
        refine XX.iload dd_M_merge_284 3 rfl ?_
        refine XX.iconst (v := nI 0) dd_M_merge_286 (by decide) ?_
        refine XX.iast (q0 := 12) (n := 1000) (j := i) (f := gt) (ws2 := wM G q xx (fup (fup (fup F 11 gt) 5 gq) 11 (upd gt i (nI 0))) kl) dd_M_merge_287 rfl (by omega) (by decide) rfl ?_
        refine XX.cg (ws2 := wM G q xx (fup (fup F 11 (upd gt i (nI 0))) 5 gq) kl) (by first | rw [fup_sw2 (by omega)] | rw [fup_fup]) rfl rfl ?_
        refine XX.iinc (z := 3) (v := nI (i + 1)) (lv2 := [(4, .int (nI (i + 1))), (0, .ref (q 0)), (1, .int (nI m)), (2, .int (nI (pcz_n (lnc s.B s.len) m)))]) dd_M_merge_288 rfl ((nI_succ _).symm) (by decide) rfl ?_
        refine XX.goto (tgt := 274) dd_M_merge_291 (by decide) ?_
        refine XX.lvs [1, 2, 3, 0] rfl ?_
        exact ih _ (by omega) (i + 1) xx _ gq rfl (by omega) hX h11 hgq (fun z hz => by
          by_cases e : z = i
          · rw [e, pk_us]
          · rw [pk_un e]; exact hgt1 z (by omega)) (fun z hz hz2 => by rw [pk_un (by omega)]; exact hgt2 z hz hz2)
  have l96 : lnc s.B s.len ≤ 1000 → t_merge s n = 0 → ∀ (m : Nat), 1 ≤ m → m < 2 ^ 31 → n = nI m → ∀ (F : Nat → Nat → Int32) (kk k : Nat) (xx gt gq : Nat → Int32), lnc s.B s.len - k = kk → k ≤ lnc s.B s.len → MX s xx F → xx 11 = nI (og_ (s_c s) ((s_sq s m (lnc s.B s.len)).2) k).1 → (∀ z, z < (og_ (s_c s) ((s_sq s m (lnc s.B s.len)).2) k).1 → gq z = nI ((og_ (s_c s) ((s_sq s m (lnc s.B s.len)).2) k).2 z)) → (∀ z, z < pcz_n (lnc s.B s.len) m → gt z = nI ((s_sq s m k).1 z)) → (∀ z, pcz_n (lnc s.B s.len) m ≤ z → z < 1000 → gt z = nI 0) → XX G m_M_merge (xr 9 0 0) (xx_F G (MQI G q kl (sel (t_merge s n) (q_merge s n) s) (t_merge s n) (nI (q_merge s n).rc)) (xr 9 0 0)) 0 0 (wM G q xx (fup (fup F 11 gt) 5 gq) kl) 96 [(0, .ref (q 0)), (1, .int (nI m)), (2, .int (nI (pcz_n (lnc s.B s.len) m))), (3, .int (oN (og_l (og_ (s_c s) ((s_sq s m (lnc s.B s.len)).2) k)))), (4, .int (nI k))] [] := by
    intro hln1 ht m hm1 hm2 en F kk
    have hpn := pcz_n_le (ln := lnc s.B s.len) hm1
    have hpa := pcz_all (ln := lnc s.B s.len) hm1
    have hsq : ∀ i, i < lnc s.B s.len → (s_sq s m (lnc s.B s.len)).2 i < lnc s.B s.len := (mf_inv (ln := lnc s.B s.len) (fun i hi => hi) (by rw [pcz_all hm1]; exact Nat.le_refl _) _ (by rw [pcz_all hm1]; exact Nat.le_refl _)).2
    induction kk using Nat.strongRecOn with
    | _ kk ih =>
      intro k xx gt gq hkk hk hX h11 hgq hgt1 hgt2
      have hole := og_le (s_c s) ((s_sq s m (lnc s.B s.len)).2) k
      have htkz : ∀ i, (s_sq s m k).1 i ≤ (pcz (lnc s.B s.len) m) i := mf_tk k
      have hsd : pf (s_sq s m k).1 (pcz_n (lnc s.B s.len) m) = k := (mf_inv (ln := lnc s.B s.len) (fun i hi => hi) (by rw [hpa]; exact Nat.le_refl _) k (by rw [hpa]; exact hk)).1
      have hst0 : ∀ b, mf_sel (sa_o s) (fun i => i) (pcz (lnc s.B s.len) m) (s_sq s m k).1 (pcz_n (lnc s.B s.len) m) = some b → s_sq s m (k + 1) = (updN (s_sq s m k).1 b ((s_sq s m k).1 b + 1), updN (s_sq s m k).2 k (pf (pcz (lnc s.B s.len) m) b + (s_sq s m k).1 b)) := fun b hb => by
        show mf_st _ _ _ _ _ (s_sq s m k) = _
        simp only [mf_st]; rw [hb]
      have hsn : ∀ b, mf_sel (sa_o s) (fun i => i) (pcz (lnc s.B s.len) m) (s_sq s m k).1 (pcz_n (lnc s.B s.len) m) = some b → k < lnc s.B s.len → (s_sq s m (lnc s.B s.len)).2 k = pf (pcz (lnc s.B s.len) m) b + (s_sq s m k).1 b := fun b hb hkl => by
        have z := mf_old (o := sa_o s) (ro := fun i => i) (sz := pcz (lnc s.B s.len) m) (n := pcz_n (lnc s.B s.len) m) (show k < k + 1 by omega) (lnc s.B s.len - (k + 1))
        rw [show k + 1 + (lnc s.B s.len - (k + 1)) = lnc s.B s.len by omega] at z
        refine Eq.trans z ?_
        show (s_sq s m (k + 1)).2 k = _
        rw [hst0 b hb]; exact updN_s
      generalize hS : s_sq s m k = S at hgt1 htkz hsd hst0 hsn
      obtain ⟨tk, ot⟩ := S
      have j191 : ∀ (xy : Nat → Int32) (b : Nat), MX s xy F → xy 11 = nI (og_ (s_c s) ((s_sq s m (lnc s.B s.len)).2) k).1 → k < lnc s.B s.len → mf_sel (sa_o s) (fun i => i) (pcz (lnc s.B s.len) m) tk (pcz_n (lnc s.B s.len) m) = some b → XX G m_M_merge (xr 9 0 0) (xx_F G (MQI G q kl (sel (t_merge s n) (q_merge s n) s) (t_merge s n) (nI (q_merge s n).rc)) (xr 9 0 0)) 0 0 (wM G q xy (fup (fup F 11 gt) 5 gq) kl) 191 [(0, .ref (q 0)), (1, .int (nI m)), (2, .int (nI (pcz_n (lnc s.B s.len) m))), (3, .int (oN (og_l (og_ (s_c s) ((s_sq s m (lnc s.B s.len)).2) k)))), (4, .int (nI k)), (5, .int (nI b)), (6, .int (nI (pcz_n (lnc s.B s.len) m)))] [] := by
        intro xy b hXy h11y hkl hsel
        obtain ⟨hb1, hb2⟩ := mf_sel_lt hsel
        have hin := pf_in (pcz (lnc s.B s.len) m) hb1 hb2
        have htb : gt b = nI (tk b) := hgt1 b hb1
        have hst := hst0 b hsel
        have hsn1 : (s_sq s m (lnc s.B s.len)).2 k = pf (pcz (lnc s.B s.len) m) b + tk b := hsn b hsel hkl
        refine XX.iload dd_M_merge_191 5 rfl ?_
        refine XX.iload_n dd_M_merge_193 rfl 1 rfl ?_
        refine XX.imul dd_M_merge_194 ?_
        refine XX.tp (y := nI (pf (pcz (lnc s.B s.len) m) b)) (by rw [pk_mul, pcz_i hm1 (by omega)]) ?_
        refine XX.aload_n dd_M_merge_195 rfl 0 rfl ?_
        refine XX.get (q0 := 0) (v := .ref (q 12)) fl_M_54 dd_M_merge_196 rfl rfl ?_
        refine XX.iload dd_M_merge_199 5 rfl ?_
        refine XX.iald (q0 := 12) (n := 1000) (j := b) (f := gt) dd_M_merge_201 rfl (by omega) (by decide) ?_
        refine XX.tp (y := nI (tk b)) (htb) ?_
        refine XX.iadd dd_M_merge_202 ?_
        refine XX.tp (y := nI (pf (pcz (lnc s.B s.len) m) b + tk b)) (nI_add _ _) ?_
        refine XX.istore (lv2 := [(6, .int (nI (pf (pcz (lnc s.B s.len) m) b + tk b))), (0, .ref (q 0)), (1, .int (nI m)), (2, .int (nI (pcz_n (lnc s.B s.len) m))), (3, .int (oN (og_l (og_ (s_c s) ((s_sq s m (lnc s.B s.len)).2) k)))), (4, .int (nI k)), (5, .int (nI b))]) dd_M_merge_203 (by decide) rfl ?_
        refine XX.aload_n dd_M_merge_205 rfl 1 rfl ?_
        refine XX.get (q0 := 0) (v := .ref (q 12)) fl_M_54 dd_M_merge_206 rfl rfl ?_
        refine XX.iload dd_M_merge_209 6 rfl ?_
        refine XX.dup2 dd_M_merge_211 rfl rfl ?_
        refine XX.iald (q0 := 12) (n := 1000) (j := b) (f := gt) dd_M_merge_212 rfl (by omega) (by decide) ?_
        refine XX.tp (y := nI (tk b)) (htb) ?_
        refine XX.iconst (v := nI 1) dd_M_merge_213 (by decide) ?_
        refine XX.iadd dd_M_merge_214 ?_
        refine XX.tp (y := nI (tk b + 1)) (nI_add _ _) ?_
        refine XX.iast (q0 := 12) (n := 1000) (j := b) (f := gt) (ws2 := wM G q xy (fup (fup (fup F 11 gt) 5 gq) 11 (upd gt b (nI (tk b + 1)))) kl) dd_M_merge_215 rfl (by omega) (by decide) rfl ?_
        refine XX.cg (ws2 := wM G q xy (fup (fup F 11 (upd gt b (nI (tk b + 1)))) 5 gq) kl) (by first | rw [fup_sw2 (by omega)] | rw [fup_fup]) rfl rfl ?_
        refine XX.aload_n dd_M_merge_216 rfl 1 rfl ?_
        refine XX.get (q0 := 0) (v := .int (xy 5)) fl_M_91 dd_M_merge_217 rfl rfl ?_
        refine XX.tp (y := bI s.bo) (hXy.h.x5) ?_
        refine XX.bif_eq (tgt := 241) dd_M_merge_220 (by decide) (fun h220 => ?_) (fun h220 => ?_)
        ·
          refine XX.iload dd_M_merge_241 0 rfl ?_
          refine XX.istore_n (lv2 := [(3, .int (nI (pf (pcz (lnc s.B s.len) m) b + tk b))), (6, .int (nI (pf (pcz (lnc s.B s.len) m) b + tk b))), (0, .ref (q 0)), (1, .int (nI m)), (2, .int (nI (pcz_n (lnc s.B s.len) m))), (4, .int (nI k)), (5, .int (nI b))]) dd_M_merge_243 rfl (by decide) rfl ?_
          refine XX.aload_n dd_M_merge_244 rfl 2 rfl ?_
          refine XX.get (q0 := 0) (v := .ref (q 6)) fl_M_36 dd_M_merge_245 rfl rfl ?_
          refine XX.aload_n dd_M_merge_248 rfl 2 rfl ?_
          refine XX.get (q0 := 0) (v := .int (xy 11)) fl_M_67 dd_M_merge_249 rfl rfl ?_
          refine XX.tp (y := nI ((og_ (s_c s) ((s_sq s m (lnc s.B s.len)).2) k).1)) (h11y) ?_
          refine XX.iload dd_M_merge_252 1 rfl ?_
          refine XX.iast (q0 := 6) (n := 1000) (j := (og_ (s_c s) ((s_sq s m (lnc s.B s.len)).2) k).1) (f := gq) (ws2 := wM G q xy (fup (fup (fup F 11 (upd gt b (nI (tk b + 1)))) 5 gq) 5 (upd gq ((og_ (s_c s) ((s_sq s m (lnc s.B s.len)).2) k).1) (nI (pf (pcz (lnc s.B s.len) m) b + tk b)))) kl) dd_M_merge_254 rfl (by omega) (by decide) rfl ?_
          refine XX.cg (ws2 := wM G q xy (fup (fup F 11 (upd gt b (nI (tk b + 1)))) 5 (upd gq ((og_ (s_c s) ((s_sq s m (lnc s.B s.len)).2) k).1) (nI (pf (pcz (lnc s.B s.len) m) b + tk b)))) kl) (by first | rw [fup_sw2 (by omega)] | rw [fup_fup]) rfl rfl ?_
          refine XX.aload_n dd_M_merge_255 rfl 2 rfl ?_
          refine XX.dup dd_M_merge_256 rfl ?_
          refine XX.get (q0 := 0) (v := .int (xy 11)) fl_M_67 dd_M_merge_257 rfl rfl ?_
          refine XX.tp (y := nI ((og_ (s_c s) ((s_sq s m (lnc s.B s.len)).2) k).1)) (h11y) ?_
          refine XX.iconst (v := nI 1) dd_M_merge_260 (by decide) ?_
          refine XX.iadd dd_M_merge_261 ?_
          refine XX.tp (y := nI ((og_ (s_c s) ((s_sq s m (lnc s.B s.len)).2) k).1 + 1)) (nI_add _ _) ?_
          refine XX.put (q0 := 0) (ws2 := wM G q (upd xy 11 (nI ((og_ (s_c s) ((s_sq s m (lnc s.B s.len)).2) k).1 + 1))) (fup (fup F 11 (upd gt b (nI (tk b + 1)))) 5 (upd gq ((og_ (s_c s) ((s_sq s m (lnc s.B s.len)).2) k).1) (nI (pf (pcz (lnc s.B s.len) m) b + tk b)))) kl) fp_M_67 dd_M_merge_262 rfl rfl rfl (xn_le rfl) rfl ?_
          refine XX.iinc (z := 5) (v := nI (k + 1)) (lv2 := [(4, .int (nI (k + 1))), (3, .int (nI (pf (pcz (lnc s.B s.len) m) b + tk b))), (6, .int (nI (pf (pcz (lnc s.B s.len) m) b + tk b))), (0, .ref (q 0)), (1, .int (nI m)), (2, .int (nI (pcz_n (lnc s.B s.len) m))), (5, .int (nI b))]) dd_M_merge_265 rfl ((nI_succ _).symm) (by decide) rfl ?_
          refine XX.goto (tgt := 96) dd_M_merge_268 (by decide) ?_
          obtain ⟨eo, el⟩ := og_f (c := s_c s) (sq := (s_sq s m (lnc s.B s.len)).2) (k := k) (fun t hz => by simp [s_c, h220])
          refine XX.cg (ws2 := wM G q (upd xy 11 (nI ((og_ (s_c s) ((s_sq s m (lnc s.B s.len)).2) k).1 + 1))) (fup (fup F 11 (upd gt b (nI (tk b + 1)))) 5 (upd gq ((og_ (s_c s) ((s_sq s m (lnc s.B s.len)).2) k).1) (nI (pf (pcz (lnc s.B s.len) m) b + tk b)))) kl) (lv2 := [(4, .int (nI (k + 1))), (3, .int (oN (og_l (og_ (s_c s) ((s_sq s m (lnc s.B s.len)).2) (k + 1))))), (6, .int (nI (pf (pcz (lnc s.B s.len) m) b + tk b))), (0, .ref (q 0)), (1, .int (nI m)), (2, .int (nI (pcz_n (lnc s.B s.len) m))), (5, .int (nI b))]) rfl (by rw [el, hsn1]; rfl) rfl ?_
          refine XX.lvs [3, 4, 5, 1, 0] rfl ?_
          exact ih _ (by omega) (k + 1) _ _ _ rfl (by omega) (hXy.ag (fun i z1 _ _ _ => pk_un z1)) (by rw [eo]; rfl) (by
            rw [eo]
            intro i hi
            have hi2 : i < (og_ (s_c s) ((s_sq s m (lnc s.B s.len)).2) k).1 + 1 := hi
            show _ = nI (updN _ _ _ i)
            by_cases e : i = (og_ (s_c s) ((s_sq s m (lnc s.B s.len)).2) k).1
            · rw [e, pk_us, updN_s, hsn1]
            · rw [pk_un e, updN_n e]; exact hgq i (by omega)) (fun z hz => by
            rw [hst]
            show _ = nI (updN tk b (tk b + 1) z)
            by_cases e : z = b
            · rw [e, pk_us, updN_s]
            · rw [pk_un e, updN_n e]; exact hgt1 z hz) (fun z hz hz2 => by rw [pk_un (by omega)]; exact hgt2 z hz hz2)
        ·
          refine XX.iload_n dd_M_merge_223 rfl 4 rfl ?_
          refine XX.iconst (v := -1) dd_M_merge_224 (by decide) ?_
          refine XX.icmp_eq (tgt := 241) dd_M_merge_225 (by decide) (fun h225 => ?_) (fun h225 => ?_)
          ·
            refine XX.iload dd_M_merge_241 0 rfl ?_
            refine XX.istore_n (lv2 := [(3, .int (nI (pf (pcz (lnc s.B s.len) m) b + tk b))), (6, .int (nI (pf (pcz (lnc s.B s.len) m) b + tk b))), (0, .ref (q 0)), (1, .int (nI m)), (2, .int (nI (pcz_n (lnc s.B s.len) m))), (4, .int (nI k)), (5, .int (nI b))]) dd_M_merge_243 rfl (by decide) rfl ?_
            refine XX.aload_n dd_M_merge_244 rfl 2 rfl ?_
            refine XX.get (q0 := 0) (v := .ref (q 6)) fl_M_36 dd_M_merge_245 rfl rfl ?_
            refine XX.aload_n dd_M_merge_248 rfl 2 rfl ?_
            refine XX.get (q0 := 0) (v := .int (xy 11)) fl_M_67 dd_M_merge_249 rfl rfl ?_
            refine XX.tp (y := nI ((og_ (s_c s) ((s_sq s m (lnc s.B s.len)).2) k).1)) (h11y) ?_
            refine XX.iload dd_M_merge_252 1 rfl ?_
            refine XX.iast (q0 := 6) (n := 1000) (j := (og_ (s_c s) ((s_sq s m (lnc s.B s.len)).2) k).1) (f := gq) (ws2 := wM G q xy (fup (fup (fup F 11 (upd gt b (nI (tk b + 1)))) 5 gq) 5 (upd gq ((og_ (s_c s) ((s_sq s m (lnc s.B s.len)).2) k).1) (nI (pf (pcz (lnc s.B s.len) m) b + tk b)))) kl) dd_M_merge_254 rfl (by omega) (by decide) rfl ?_
            refine XX.cg (ws2 := wM G q xy (fup (fup F 11 (upd gt b (nI (tk b + 1)))) 5 (upd gq ((og_ (s_c s) ((s_sq s m (lnc s.B s.len)).2) k).1) (nI (pf (pcz (lnc s.B s.len) m) b + tk b)))) kl) (by first | rw [fup_sw2 (by omega)] | rw [fup_fup]) rfl rfl ?_
            refine XX.aload_n dd_M_merge_255 rfl 2 rfl ?_
            refine XX.dup dd_M_merge_256 rfl ?_
            refine XX.get (q0 := 0) (v := .int (xy 11)) fl_M_67 dd_M_merge_257 rfl rfl ?_
            refine XX.tp (y := nI ((og_ (s_c s) ((s_sq s m (lnc s.B s.len)).2) k).1)) (h11y) ?_
            refine XX.iconst (v := nI 1) dd_M_merge_260 (by decide) ?_
            refine XX.iadd dd_M_merge_261 ?_
            refine XX.tp (y := nI ((og_ (s_c s) ((s_sq s m (lnc s.B s.len)).2) k).1 + 1)) (nI_add _ _) ?_
            refine XX.put (q0 := 0) (ws2 := wM G q (upd xy 11 (nI ((og_ (s_c s) ((s_sq s m (lnc s.B s.len)).2) k).1 + 1))) (fup (fup F 11 (upd gt b (nI (tk b + 1)))) 5 (upd gq ((og_ (s_c s) ((s_sq s m (lnc s.B s.len)).2) k).1) (nI (pf (pcz (lnc s.B s.len) m) b + tk b)))) kl) fp_M_67 dd_M_merge_262 rfl rfl rfl (xn_le rfl) rfl ?_
            refine XX.iinc (z := 5) (v := nI (k + 1)) (lv2 := [(4, .int (nI (k + 1))), (3, .int (nI (pf (pcz (lnc s.B s.len) m) b + tk b))), (6, .int (nI (pf (pcz (lnc s.B s.len) m) b + tk b))), (0, .ref (q 0)), (1, .int (nI m)), (2, .int (nI (pcz_n (lnc s.B s.len) m))), (5, .int (nI b))]) dd_M_merge_265 rfl ((nI_succ _).symm) (by decide) rfl ?_
            refine XX.goto (tgt := 96) dd_M_merge_268 (by decide) ?_
            obtain ⟨eo, el⟩ := og_f (c := s_c s) (sq := (s_sq s m (lnc s.B s.len)).2) (k := k) (fun t hz => by rw [oN_none h225 (fun a ha => by have := og_l_lt (fun i hi => hsq i (by omega)) ha; omega)] at hz; cases hz)
            refine XX.cg (ws2 := wM G q (upd xy 11 (nI ((og_ (s_c s) ((s_sq s m (lnc s.B s.len)).2) k).1 + 1))) (fup (fup F 11 (upd gt b (nI (tk b + 1)))) 5 (upd gq ((og_ (s_c s) ((s_sq s m (lnc s.B s.len)).2) k).1) (nI (pf (pcz (lnc s.B s.len) m) b + tk b)))) kl) (lv2 := [(4, .int (nI (k + 1))), (3, .int (oN (og_l (og_ (s_c s) ((s_sq s m (lnc s.B s.len)).2) (k + 1))))), (6, .int (nI (pf (pcz (lnc s.B s.len) m) b + tk b))), (0, .ref (q 0)), (1, .int (nI m)), (2, .int (nI (pcz_n (lnc s.B s.len) m))), (5, .int (nI b))]) rfl (by rw [el, hsn1]; rfl) rfl ?_
            refine XX.lvs [3, 4, 5, 1, 0] rfl ?_
            exact ih _ (by omega) (k + 1) _ _ _ rfl (by omega) (hXy.ag (fun i z1 _ _ _ => pk_un z1)) (by rw [eo]; rfl) (by
              rw [eo]
              intro i hi
              have hi2 : i < (og_ (s_c s) ((s_sq s m (lnc s.B s.len)).2) k).1 + 1 := hi
              show _ = nI (updN _ _ _ i)
              by_cases e : i = (og_ (s_c s) ((s_sq s m (lnc s.B s.len)).2) k).1
              · rw [e, pk_us, updN_s, hsn1]
              · rw [pk_un e, updN_n e]; exact hgq i (by omega)) (fun z hz => by
              rw [hst]
              show _ = nI (updN tk b (tk b + 1) z)
              by_cases e : z = b
              · rw [e, pk_us, updN_s]
              · rw [pk_un e, updN_n e]; exact hgt1 z hz) (fun z hz hz2 => by rw [pk_un (by omega)]; exact hgt2 z hz hz2)
          ·
            obtain ⟨t, hlt⟩ := oN_some h225
            have hlt2 := og_l_lt (fun i hi => hsq i (by omega)) hlt
            refine XX.cg (ws2 := wM G q xy (fup (fup F 11 (upd gt b (nI (tk b + 1)))) 5 gq) kl) (lv2 := [(6, .int (nI (pf (pcz (lnc s.B s.len) m) b + tk b))), (0, .ref (q 0)), (1, .int (nI m)), (2, .int (nI (pcz_n (lnc s.B s.len) m))), (3, .int (nI t)), (4, .int (nI k)), (5, .int (nI b))]) rfl (by rw [hlt]; rfl) rfl ?_
            refine XX.aload_n dd_M_merge_228 rfl 1 rfl ?_
            refine XX.iload_n dd_M_merge_229 rfl 4 rfl ?_
            refine XX.iload dd_M_merge_230 0 rfl ?_
            refine XX.callV (Mk := m_M_byKeys) (n := 2) (As := [.int (nI t), .int (nI (pf (pcz (lnc s.B s.len) m) b + tk b))]) (rest := []) (q0 := 0) (ci := 9) (c_M_byKeys (x := xy) (f := fup (fup F 11 (upd gt b (nI (tk b + 1)))) 5 gq) hXy.h.t hXy.h.g.bb hXy.h.x6 hXy.h.k hXy.h.x3 (hd := true) hXy.h.x10 hXy.h.hd (la := t) (lb := pf (pcz (lnc s.B s.len) m) b + tk b) hlt2 (by omega)) mt_M_byKeys mi_M_byKeys ml_M_185 rfl dd_M_merge_232 (rfl) rfl rfl ⟨xn_le rfl, xn_le rfl⟩ ⟨xn_le rfl, xn_le rfl⟩ (xn_le rfl) rfl (fun r1 w1 hp1 => ?_)
            obtain ⟨rfl, x3, rfl, hq3⟩ := hp1
            have hX3 := hXy.ag (fun i _ _ z1 z2 => hq3 i z1 z2)
            have h113 : x3 11 = _ := (hq3 11 (by omega) (by omega)).trans h11y
            refine (?_ : XX G m_M_merge (xr 9 0 0) (xx_F G (MQI G q kl (sel (t_merge s n) (q_merge s n) s) (t_merge s n) (nI (q_merge s n).rc)) (xr 9 0 0)) 0 0 (wM G q x3 (fup (fup F 11 (upd gt b (nI (tk b + 1)))) 5 gq) kl) 235 [(6, .int (nI (pf (pcz (lnc s.B s.len) m) b + tk b))), (0, .ref (q 0)), (1, .int (nI m)), (2, .int (nI (pcz_n (lnc s.B s.len) m))), (3, .int (nI t)), (4, .int (nI k)), (5, .int (nI b))] [.int (oI (sk_o s t (pf (pcz (lnc s.B s.len) m) b + tk b)))])
            refine XX.if_ne (tgt := 241) dd_M_merge_235 (by decide) (fun h235 => ?_) (fun h235 => ?_)
            ·
              refine XX.iload dd_M_merge_241 0 rfl ?_
              refine XX.istore_n (lv2 := [(3, .int (nI (pf (pcz (lnc s.B s.len) m) b + tk b))), (6, .int (nI (pf (pcz (lnc s.B s.len) m) b + tk b))), (0, .ref (q 0)), (1, .int (nI m)), (2, .int (nI (pcz_n (lnc s.B s.len) m))), (4, .int (nI k)), (5, .int (nI b))]) dd_M_merge_243 rfl (by decide) rfl ?_
              refine XX.aload_n dd_M_merge_244 rfl 2 rfl ?_
              refine XX.get (q0 := 0) (v := .ref (q 6)) fl_M_36 dd_M_merge_245 rfl rfl ?_
              refine XX.aload_n dd_M_merge_248 rfl 2 rfl ?_
              refine XX.get (q0 := 0) (v := .int (x3 11)) fl_M_67 dd_M_merge_249 rfl rfl ?_
              refine XX.tp (y := nI ((og_ (s_c s) ((s_sq s m (lnc s.B s.len)).2) k).1)) (h113) ?_
              refine XX.iload dd_M_merge_252 1 rfl ?_
              refine XX.iast (q0 := 6) (n := 1000) (j := (og_ (s_c s) ((s_sq s m (lnc s.B s.len)).2) k).1) (f := gq) (ws2 := wM G q x3 (fup (fup (fup F 11 (upd gt b (nI (tk b + 1)))) 5 gq) 5 (upd gq ((og_ (s_c s) ((s_sq s m (lnc s.B s.len)).2) k).1) (nI (pf (pcz (lnc s.B s.len) m) b + tk b)))) kl) dd_M_merge_254 rfl (by omega) (by decide) rfl ?_
              refine XX.cg (ws2 := wM G q x3 (fup (fup F 11 (upd gt b (nI (tk b + 1)))) 5 (upd gq ((og_ (s_c s) ((s_sq s m (lnc s.B s.len)).2) k).1) (nI (pf (pcz (lnc s.B s.len) m) b + tk b)))) kl) (by first | rw [fup_sw2 (by omega)] | rw [fup_fup]) rfl rfl ?_
              refine XX.aload_n dd_M_merge_255 rfl 2 rfl ?_
              refine XX.dup dd_M_merge_256 rfl ?_
              refine XX.get (q0 := 0) (v := .int (x3 11)) fl_M_67 dd_M_merge_257 rfl rfl ?_
              refine XX.tp (y := nI ((og_ (s_c s) ((s_sq s m (lnc s.B s.len)).2) k).1)) (h113) ?_
              refine XX.iconst (v := nI 1) dd_M_merge_260 (by decide) ?_
              refine XX.iadd dd_M_merge_261 ?_
              refine XX.tp (y := nI ((og_ (s_c s) ((s_sq s m (lnc s.B s.len)).2) k).1 + 1)) (nI_add _ _) ?_
              refine XX.put (q0 := 0) (ws2 := wM G q (upd x3 11 (nI ((og_ (s_c s) ((s_sq s m (lnc s.B s.len)).2) k).1 + 1))) (fup (fup F 11 (upd gt b (nI (tk b + 1)))) 5 (upd gq ((og_ (s_c s) ((s_sq s m (lnc s.B s.len)).2) k).1) (nI (pf (pcz (lnc s.B s.len) m) b + tk b)))) kl) fp_M_67 dd_M_merge_262 rfl rfl rfl (xn_le rfl) rfl ?_
              refine XX.iinc (z := 5) (v := nI (k + 1)) (lv2 := [(4, .int (nI (k + 1))), (3, .int (nI (pf (pcz (lnc s.B s.len) m) b + tk b))), (6, .int (nI (pf (pcz (lnc s.B s.len) m) b + tk b))), (0, .ref (q 0)), (1, .int (nI m)), (2, .int (nI (pcz_n (lnc s.B s.len) m))), (5, .int (nI b))]) dd_M_merge_265 rfl ((nI_succ _).symm) (by decide) rfl ?_
              refine XX.goto (tgt := 96) dd_M_merge_268 (by decide) ?_
              obtain ⟨eo, el⟩ := og_f (c := s_c s) (sq := (s_sq s m (lnc s.B s.len)).2) (k := k) (fun t hz => by rw [hlt] at hz; cases hz; rw [hsn1]; simp [s_c, h235])
              refine XX.cg (ws2 := wM G q (upd x3 11 (nI ((og_ (s_c s) ((s_sq s m (lnc s.B s.len)).2) k).1 + 1))) (fup (fup F 11 (upd gt b (nI (tk b + 1)))) 5 (upd gq ((og_ (s_c s) ((s_sq s m (lnc s.B s.len)).2) k).1) (nI (pf (pcz (lnc s.B s.len) m) b + tk b)))) kl) (lv2 := [(4, .int (nI (k + 1))), (3, .int (oN (og_l (og_ (s_c s) ((s_sq s m (lnc s.B s.len)).2) (k + 1))))), (6, .int (nI (pf (pcz (lnc s.B s.len) m) b + tk b))), (0, .ref (q 0)), (1, .int (nI m)), (2, .int (nI (pcz_n (lnc s.B s.len) m))), (5, .int (nI b))]) rfl (by rw [el, hsn1]; rfl) rfl ?_
              refine XX.lvs [3, 4, 5, 1, 0] rfl ?_
              exact ih _ (by omega) (k + 1) _ _ _ rfl (by omega) (hX3.ag (fun i z1 _ _ _ => pk_un z1)) (by rw [eo]; rfl) (by
                rw [eo]
                intro i hi
                have hi2 : i < (og_ (s_c s) ((s_sq s m (lnc s.B s.len)).2) k).1 + 1 := hi
                show _ = nI (updN _ _ _ i)
                by_cases e : i = (og_ (s_c s) ((s_sq s m (lnc s.B s.len)).2) k).1
                · rw [e, pk_us, updN_s, hsn1]
                · rw [pk_un e, updN_n e]; exact hgq i (by omega)) (fun z hz => by
                rw [hst]
                show _ = nI (updN tk b (tk b + 1) z)
                by_cases e : z = b
                · rw [e, pk_us, updN_s]
                · rw [pk_un e, updN_n e]; exact hgt1 z hz) (fun z hz hz2 => by rw [pk_un (by omega)]; exact hgt2 z hz hz2)
            ·
              refine XX.goto (tgt := 265) dd_M_merge_238 (by decide) ?_
              refine XX.iinc (z := 5) (v := nI (k + 1)) (lv2 := [(4, .int (nI (k + 1))), (6, .int (nI (pf (pcz (lnc s.B s.len) m) b + tk b))), (0, .ref (q 0)), (1, .int (nI m)), (2, .int (nI (pcz_n (lnc s.B s.len) m))), (3, .int (nI t)), (5, .int (nI b))]) dd_M_merge_265 rfl ((nI_succ _).symm) (by decide) rfl ?_
              refine XX.goto (tgt := 96) dd_M_merge_268 (by decide) ?_
              have eo : og_ (s_c s) ((s_sq s m (lnc s.B s.len)).2) (k + 1) = og_ (s_c s) ((s_sq s m (lnc s.B s.len)).2) k := og_t hlt (by rw [hsn1]; simp [s_c, h220, h235])
              refine XX.cg (ws2 := wM G q x3 (fup (fup F 11 (upd gt b (nI (tk b + 1)))) 5 gq) kl) (lv2 := [(4, .int (nI (k + 1))), (6, .int (nI (pf (pcz (lnc s.B s.len) m) b + tk b))), (0, .ref (q 0)), (1, .int (nI m)), (2, .int (nI (pcz_n (lnc s.B s.len) m))), (3, .int (oN (og_l (og_ (s_c s) ((s_sq s m (lnc s.B s.len)).2) (k + 1))))), (5, .int (nI b))]) rfl (by rw [eo, hlt]; rfl) rfl ?_
              refine XX.lvs [2, 3, 4, 5, 0] rfl ?_
              exact ih _ (by omega) (k + 1) x3 _ gq rfl (by omega) hX3 (by rw [eo]; exact h113) (by rw [eo]; exact hgq) (fun z hz => by
                rw [hst]
                show _ = nI (updN tk b (tk b + 1) z)
                by_cases e : z = b
                · rw [e, pk_us, updN_s]
                · rw [pk_un e, updN_n e]; exact hgt1 z hz) (fun z hz hz2 => by rw [pk_un (by omega)]; exact hgt2 z hz hz2)
      have l111 : k < lnc s.B s.len → ∀ (k2 i : Nat) (xy : Nat → Int32), pcz_n (lnc s.B s.len) m - i = k2 → i ≤ pcz_n (lnc s.B s.len) m → MX s xy F → xy 11 = nI (og_ (s_c s) ((s_sq s m (lnc s.B s.len)).2) k).1 → XX G m_M_merge (xr 9 0 0) (xx_F G (MQI G q kl (sel (t_merge s n) (q_merge s n) s) (t_merge s n) (nI (q_merge s n).rc)) (xr 9 0 0)) 0 0 (wM G q xy (fup (fup F 11 gt) 5 gq) kl) 111 [(0, .ref (q 0)), (1, .int (nI m)), (2, .int (nI (pcz_n (lnc s.B s.len) m))), (3, .int (oN (og_l (og_ (s_c s) ((s_sq s m (lnc s.B s.len)).2) k)))), (4, .int (nI k)), (5, .int (oN (mf_sel (sa_o s) (fun i => i) (pcz (lnc s.B s.len) m) tk i))), (6, .int (nI i))] [] := by
        intro hkl k2
        induction k2 using Nat.strongRecOn with
        | _ k2 ih2 =>
          intro i xy hk2 hi hXy h11y
          have j185 : i < pcz_n (lnc s.B s.len) m → ∀ xz : Nat → Int32, MX s xz F → xz 11 = nI (og_ (s_c s) ((s_sq s m (lnc s.B s.len)).2) k).1 → XX G m_M_merge (xr 9 0 0) (xx_F G (MQI G q kl (sel (t_merge s n) (q_merge s n) s) (t_merge s n) (nI (q_merge s n).rc)) (xr 9 0 0)) 0 0 (wM G q xz (fup (fup F 11 gt) 5 gq) kl) 185 [(0, .ref (q 0)), (1, .int (nI m)), (2, .int (nI (pcz_n (lnc s.B s.len) m))), (3, .int (oN (og_l (og_ (s_c s) ((s_sq s m (lnc s.B s.len)).2) k)))), (4, .int (nI k)), (5, .int (oN (mf_sel (sa_o s) (fun i => i) (pcz (lnc s.B s.len) m) tk (i + 1)))), (6, .int (nI i))] [] := by
            intro hit xz hXz h11z
            refine XX.iinc (z := 6) (v := nI (i + 1)) (lv2 := [(6, .int (nI (i + 1))), (0, .ref (q 0)), (1, .int (nI m)), (2, .int (nI (pcz_n (lnc s.B s.len) m))), (3, .int (oN (og_l (og_ (s_c s) ((s_sq s m (lnc s.B s.len)).2) k)))), (4, .int (nI k)), (5, .int (oN (mf_sel (sa_o s) (fun i => i) (pcz (lnc s.B s.len) m) tk (i + 1))))]) dd_M_merge_185 rfl ((nI_succ _).symm) (by decide) rfl ?_
            refine XX.goto (tgt := 111) dd_M_merge_188 (by decide) ?_
            refine XX.lvs [1, 2, 3, 4, 5, 6, 0] rfl ?_
            exact ih2 _ (by omega) (i + 1) xz rfl (by omega) hXz h11z
          refine XX.iload dd_M_merge_111 6 rfl ?_
          refine XX.iload_n dd_M_merge_113 rfl 2 rfl ?_
          refine XX.ncmp_ge (tgt := 191) dd_M_merge_114 (by decide) (by omega) (by omega) (fun h114 => ?_) (fun h114 => ?_)
          ·
            obtain rfl : i = pcz_n (lnc s.B s.len) m := by omega
            have hns : ¬ mf_sel (sa_o s) (fun i => i) (pcz (lnc s.B s.len) m) tk (pcz_n (lnc s.B s.len) m) = none := fun z => by have a1 := mf_sel_no z; have a2 : pf tk (pcz_n (lnc s.B s.len) m) = k := hsd; omega
            obtain ⟨b, hsel⟩ := Option.ne_none_iff_exists'.mp hns
            refine XX.cg (ws2 := wM G q xy (fup (fup F 11 gt) 5 gq) kl) (lv2 := [(0, .ref (q 0)), (1, .int (nI m)), (2, .int (nI (pcz_n (lnc s.B s.len) m))), (3, .int (oN (og_l (og_ (s_c s) ((s_sq s m (lnc s.B s.len)).2) k)))), (4, .int (nI k)), (5, .int (nI b)), (6, .int (nI (pcz_n (lnc s.B s.len) m)))]) rfl (by rw [hsel]; rfl) rfl ?_
            exact j191 xy b hXy h11y hkl hsel
          ·
            refine XX.iload dd_M_merge_117 6 rfl ?_
            refine XX.iload_n dd_M_merge_119 rfl 1 rfl ?_
            have hti : tk i < 2 ^ 30 ∧ pf (pcz (lnc s.B s.len) m) i < 2 ^ 30 := by
              have a2 := pf_mono (pcz (lnc s.B s.len) m) (show i ≤ pcz_n (lnc s.B s.len) m by omega)
              have a3 := pf_s tk i
              have a4 := pf_mono tk (show i + 1 ≤ pcz_n (lnc s.B s.len) m by omega)
              have a5 : pf tk (pcz_n (lnc s.B s.len) m) = k := hsd
              omega
            refine XX.imul dd_M_merge_120 ?_
            refine XX.tp (y := nI (pf (pcz (lnc s.B s.len) m) i)) (by rw [pk_mul, pcz_i hm1 (by omega)]) ?_
            refine XX.aload_n dd_M_merge_121 rfl 0 rfl ?_
            refine XX.get (q0 := 0) (v := .ref (q 12)) fl_M_54 dd_M_merge_122 rfl rfl ?_
            refine XX.iload dd_M_merge_125 6 rfl ?_
            refine XX.iald (q0 := 12) (n := 1000) (j := i) (f := gt) dd_M_merge_127 rfl (by omega) (by decide) ?_
            refine XX.tp (y := nI (tk i)) (hgt1 i (by omega)) ?_
            refine XX.iadd dd_M_merge_128 ?_
            refine XX.tp (y := nI (pf (pcz (lnc s.B s.len) m) i + tk i)) (nI_add _ _) ?_
            refine XX.istore (lv2 := [(7, .int (nI (pf (pcz (lnc s.B s.len) m) i + tk i))), (0, .ref (q 0)), (1, .int (nI m)), (2, .int (nI (pcz_n (lnc s.B s.len) m))), (3, .int (oN (og_l (og_ (s_c s) ((s_sq s m (lnc s.B s.len)).2) k)))), (4, .int (nI k)), (5, .int (oN (mf_sel (sa_o s) (fun i => i) (pcz (lnc s.B s.len) m) tk i))), (6, .int (nI i))]) dd_M_merge_129 (by decide) rfl ?_
            refine XX.aload_n dd_M_merge_131 rfl 1 rfl ?_
            refine XX.get (q0 := 0) (v := .ref (q 12)) fl_M_54 dd_M_merge_132 rfl rfl ?_
            refine XX.iload dd_M_merge_135 7 rfl ?_
            refine XX.iald (q0 := 12) (n := 1000) (j := i) (f := gt) dd_M_merge_137 rfl (by omega) (by decide) ?_
            refine XX.tp (y := nI (tk i)) (hgt1 i (by omega)) ?_
            refine XX.iload_n dd_M_merge_138 rfl 2 rfl ?_
            refine XX.ncmp_eq (tgt := 185) dd_M_merge_139 (by decide) (by omega) (by omega) (fun h139 => ?_) (fun h139 => ?_)
            ·
              refine XX.cg (ws2 := wM G q xy (fup (fup F 11 gt) 5 gq) kl) (lv2 := [(7, .int (nI (pf (pcz (lnc s.B s.len) m) i + tk i))), (0, .ref (q 0)), (1, .int (nI m)), (2, .int (nI (pcz_n (lnc s.B s.len) m))), (3, .int (oN (og_l (og_ (s_c s) ((s_sq s m (lnc s.B s.len)).2) k)))), (4, .int (nI k)), (5, .int (oN (mf_sel (sa_o s) (fun i => i) (pcz (lnc s.B s.len) m) tk (i + 1)))), (6, .int (nI i))]) rfl (by rw [mf_s1 (by have a0 : tk i ≤ pcz (lnc s.B s.len) m i := htkz i; have a1 := (pcz_t a0).mp; omega)]) rfl ?_
              refine XX.lvs [1, 2, 3, 4, 5, 6, 7] rfl ?_
              exact j185 (by omega) xy hXy h11y
            ·
              refine XX.iload dd_M_merge_142 0 rfl ?_
              refine XX.aload_n dd_M_merge_144 rfl 1 rfl ?_
              refine XX.get (q0 := 0) (v := .int (xy 1)) fl_M_78 dd_M_merge_145 rfl rfl ?_
              refine XX.tp (y := nI (lnc s.B s.len)) (hXy.h.x1) ?_
              refine XX.ncmp_lt (tgt := 154) dd_M_merge_148 (by decide) (by omega) (by omega) (fun h148 => ?_) (fun h148 => ?_)
              ·
                have hlt1 : tk i < pcz (lnc s.B s.len) m i := by have a0 : tk i ≤ pcz (lnc s.B s.len) m i := htkz i; have a2 := pcz_i (ln := lnc s.B s.len) hm1 (show i < pcz_n (lnc s.B s.len) m by omega); exact (pcz_t a0).mpr ⟨by omega, by omega⟩
                refine XX.iload dd_M_merge_154 6 rfl ?_
                refine XX.iconst (v := -1) dd_M_merge_156 (by decide) ?_
                refine XX.icmp_eq (tgt := 181) dd_M_merge_157 (by decide) (fun h157 => ?_) (fun h157 => ?_)
                ·
                  refine XX.iload dd_M_merge_181 7 rfl ?_
                  refine XX.istore (lv2 := [(5, .int (nI i)), (7, .int (nI (pf (pcz (lnc s.B s.len) m) i + tk i))), (0, .ref (q 0)), (1, .int (nI m)), (2, .int (nI (pcz_n (lnc s.B s.len) m))), (3, .int (oN (og_l (og_ (s_c s) ((s_sq s m (lnc s.B s.len)).2) k)))), (4, .int (nI k)), (6, .int (nI i))]) dd_M_merge_183 (by decide) rfl ?_
                  refine XX.cg (ws2 := wM G q xy (fup (fup F 11 gt) 5 gq) kl) (lv2 := [(5, .int (oN (mf_sel (sa_o s) (fun i => i) (pcz (lnc s.B s.len) m) tk (i + 1)))), (7, .int (nI (pf (pcz (lnc s.B s.len) m) i + tk i))), (0, .ref (q 0)), (1, .int (nI m)), (2, .int (nI (pcz_n (lnc s.B s.len) m))), (3, .int (oN (og_l (og_ (s_c s) ((s_sq s m (lnc s.B s.len)).2) k)))), (4, .int (nI k)), (6, .int (nI i))]) rfl (by rw [mf_s2 hlt1 (oN_none h157 (fun z hz => by have := (mf_sel_lt hz).1; omega))]; rfl) rfl ?_
                  refine XX.lvs [2, 3, 4, 5, 6, 0, 7] rfl ?_
                  exact j185 (by omega) xy hXy h11y
                ·
                  obtain ⟨b, hsb⟩ := oN_some h157
                  obtain ⟨hb1, hb2⟩ := mf_sel_lt hsb
                  have hin := pf_in (pcz (lnc s.B s.len) m) (show b < pcz_n (lnc s.B s.len) m by omega) hb2
                  have htb : gt b = nI (tk b) := hgt1 b (by omega)
                  refine XX.cg (ws2 := wM G q xy (fup (fup F 11 gt) 5 gq) kl) (lv2 := [(7, .int (nI (pf (pcz (lnc s.B s.len) m) i + tk i))), (0, .ref (q 0)), (1, .int (nI m)), (2, .int (nI (pcz_n (lnc s.B s.len) m))), (3, .int (oN (og_l (og_ (s_c s) ((s_sq s m (lnc s.B s.len)).2) k)))), (4, .int (nI k)), (5, .int (nI b)), (6, .int (nI i))]) rfl (by rw [hsb]; rfl) rfl ?_
                  refine XX.aload_n dd_M_merge_160 rfl 1 rfl ?_
                  refine XX.iload dd_M_merge_161 0 rfl ?_
                  refine XX.iload dd_M_merge_163 6 rfl ?_
                  refine XX.iload_n dd_M_merge_165 rfl 2 rfl ?_
                  refine XX.imul dd_M_merge_166 ?_
                  refine XX.tp (y := nI (pf (pcz (lnc s.B s.len) m) b)) (by rw [pk_mul, pcz_i hm1 (by omega)]) ?_
                  refine XX.aload_n dd_M_merge_167 rfl 1 rfl ?_
                  refine XX.get (q0 := 0) (v := .ref (q 12)) fl_M_54 dd_M_merge_168 rfl rfl ?_
                  refine XX.iload dd_M_merge_171 6 rfl ?_
                  refine XX.iald (q0 := 12) (n := 1000) (j := b) (f := gt) dd_M_merge_173 rfl (by omega) (by decide) ?_
                  refine XX.tp (y := nI (tk b)) (htb) ?_
                  refine XX.iadd dd_M_merge_174 ?_
                  refine XX.tp (y := nI (pf (pcz (lnc s.B s.len) m) b + tk b)) (nI_add _ _) ?_
                  refine XX.callV (Mk := m_M_isBefore) (n := 2) (As := [.int (nI (pf (pcz (lnc s.B s.len) m) i + tk i)), .int (nI (pf (pcz (lnc s.B s.len) m) b + tk b))]) (rest := []) (q0 := 0) (ci := 9) (c_M_isBefore (x := xy) (f := fup (fup F 11 gt) 5 gq) hXy.h.t hXy.h.g.bb hXy.h.x6 hXy.h.k hXy.h.x3 hXy.h.x4 hXy.h.x5 (hd := true) hXy.h.x10 hXy.h.hd (la := pf (pcz (lnc s.B s.len) m) i + tk i) (lb := pf (pcz (lnc s.B s.len) m) b + tk b) (by omega) (by omega)) mt_M_isBefore mi_M_isBefore ml_M_197 rfl dd_M_merge_175 (rfl) rfl rfl ⟨xn_le rfl, xn_le rfl⟩ ⟨xn_le rfl, xn_le rfl⟩ (xn_le rfl) rfl (fun r1 w1 hp1 => ?_)
                  obtain ⟨rfl, xw, rfl, hq1⟩ := hp1
                  have hXw := hXy.ag (fun i _ _ z1 z2 => hq1 i z1 z2)
                  have h11w : xw 11 = _ := (hq1 11 (by omega) (by omega)).trans h11y
                  refine (?_ : XX G m_M_merge (xr 9 0 0) (xx_F G (MQI G q kl (sel (t_merge s n) (q_merge s n) s) (t_merge s n) (nI (q_merge s n).rc)) (xr 9 0 0)) 0 0 (wM G q xw (fup (fup F 11 gt) 5 gq) kl) 178 [(7, .int (nI (pf (pcz (lnc s.B s.len) m) i + tk i))), (0, .ref (q 0)), (1, .int (nI m)), (2, .int (nI (pcz_n (lnc s.B s.len) m))), (3, .int (oN (og_l (og_ (s_c s) ((s_sq s m (lnc s.B s.len)).2) k)))), (4, .int (nI k)), (5, .int (nI b)), (6, .int (nI i))] [.int (bI (bf (sa_o s) (pf (pcz (lnc s.B s.len) m) i + tk i) (pf (pcz (lnc s.B s.len) m) b + tk b)))])
                  refine XX.bif_eq (tgt := 185) dd_M_merge_178 (by decide) (fun h178 => ?_) (fun h178 => ?_)
                  ·
                    refine XX.cg (ws2 := wM G q xw (fup (fup F 11 gt) 5 gq) kl) (lv2 := [(7, .int (nI (pf (pcz (lnc s.B s.len) m) i + tk i))), (0, .ref (q 0)), (1, .int (nI m)), (2, .int (nI (pcz_n (lnc s.B s.len) m))), (3, .int (oN (og_l (og_ (s_c s) ((s_sq s m (lnc s.B s.len)).2) k)))), (4, .int (nI k)), (5, .int (oN (mf_sel (sa_o s) (fun i => i) (pcz (lnc s.B s.len) m) tk (i + 1)))), (6, .int (nI i))]) rfl (by rw [mf_s4 hlt1 hsb h178]; rfl) rfl ?_
                    refine XX.lvs [1, 2, 3, 4, 5, 6, 7] rfl ?_
                    exact j185 (by omega) xw hXw h11w
                  ·
                    refine XX.iload dd_M_merge_181 7 rfl ?_
                    refine XX.istore (lv2 := [(5, .int (nI i)), (7, .int (nI (pf (pcz (lnc s.B s.len) m) i + tk i))), (0, .ref (q 0)), (1, .int (nI m)), (2, .int (nI (pcz_n (lnc s.B s.len) m))), (3, .int (oN (og_l (og_ (s_c s) ((s_sq s m (lnc s.B s.len)).2) k)))), (4, .int (nI k)), (6, .int (nI i))]) dd_M_merge_183 (by decide) rfl ?_
                    refine XX.cg (ws2 := wM G q xw (fup (fup F 11 gt) 5 gq) kl) (lv2 := [(5, .int (oN (mf_sel (sa_o s) (fun i => i) (pcz (lnc s.B s.len) m) tk (i + 1)))), (7, .int (nI (pf (pcz (lnc s.B s.len) m) i + tk i))), (0, .ref (q 0)), (1, .int (nI m)), (2, .int (nI (pcz_n (lnc s.B s.len) m))), (3, .int (oN (og_l (og_ (s_c s) ((s_sq s m (lnc s.B s.len)).2) k)))), (4, .int (nI k)), (6, .int (nI i))]) rfl (by rw [mf_s3 hlt1 hsb h178]; rfl) rfl ?_
                    refine XX.lvs [2, 3, 4, 5, 6, 0, 7] rfl ?_
                    exact j185 (by omega) xw hXw h11w
              ·
                refine XX.goto (tgt := 185) dd_M_merge_151 (by decide) ?_
                refine XX.cg (ws2 := wM G q xy (fup (fup F 11 gt) 5 gq) kl) (lv2 := [(7, .int (nI (pf (pcz (lnc s.B s.len) m) i + tk i))), (0, .ref (q 0)), (1, .int (nI m)), (2, .int (nI (pcz_n (lnc s.B s.len) m))), (3, .int (oN (og_l (og_ (s_c s) ((s_sq s m (lnc s.B s.len)).2) k)))), (4, .int (nI k)), (5, .int (oN (mf_sel (sa_o s) (fun i => i) (pcz (lnc s.B s.len) m) tk (i + 1)))), (6, .int (nI i))]) rfl (by rw [mf_s1 (by have a0 : tk i ≤ pcz (lnc s.B s.len) m i := htkz i; have a1 := (pcz_t a0).mp; have a2 := pcz_i (ln := lnc s.B s.len) hm1 (show i < pcz_n (lnc s.B s.len) m by omega); omega)]) rfl ?_
                refine XX.lvs [1, 2, 3, 4, 5, 6, 7] rfl ?_
                exact j185 (by omega) xy hXy h11y
      refine XX.iload dd_M_merge_96 4 rfl ?_
      refine XX.aload_n dd_M_merge_98 rfl 0 rfl ?_
      refine XX.get (q0 := 0) (v := .int (xx 1)) fl_M_78 dd_M_merge_99 rfl rfl ?_
      refine XX.tp (y := nI (lnc s.B s.len)) (hX.h.x1) ?_
      refine XX.ncmp_ge (tgt := 271) dd_M_merge_102 (by decide) (by omega) (by omega) (fun h102 => ?_) (fun h102 => ?_)
      ·
        refine XX.iconst (v := nI 0) dd_M_merge_271 (by decide) ?_
        refine XX.istore (lv2 := [(4, .int (nI 0)), (0, .ref (q 0)), (1, .int (nI m)), (2, .int (nI (pcz_n (lnc s.B s.len) m))), (3, .int (oN (og_l (og_ (s_c s) ((s_sq s m (lnc s.B s.len)).2) k))))]) dd_M_merge_272 (by decide) rfl ?_
        obtain rfl : lnc s.B s.len = k := by omega
        refine XX.lvs [1, 2, 3, 0] rfl ?_
        exact l274 hln1 ht m hm1 hm2 en F _ 0 xx gt gq rfl (by omega) hX h11 hgq (fun z hz => absurd hz (by omega)) hgt2
      ·
        refine XX.iconst (v := -1) dd_M_merge_105 (by decide) ?_
        refine XX.istore (lv2 := [(5, .int (-1)), (0, .ref (q 0)), (1, .int (nI m)), (2, .int (nI (pcz_n (lnc s.B s.len) m))), (3, .int (oN (og_l (og_ (s_c s) ((s_sq s m (lnc s.B s.len)).2) k)))), (4, .int (nI k))]) dd_M_merge_106 (by decide) rfl ?_
        refine XX.iconst (v := nI 0) dd_M_merge_108 (by decide) ?_
        refine XX.istore (lv2 := [(6, .int (nI 0)), (5, .int (-1)), (0, .ref (q 0)), (1, .int (nI m)), (2, .int (nI (pcz_n (lnc s.B s.len) m))), (3, .int (oN (og_l (og_ (s_c s) ((s_sq s m (lnc s.B s.len)).2) k)))), (4, .int (nI k))]) dd_M_merge_109 (by decide) rfl ?_
        refine XX.lvs [2, 3, 4, 5, 6, 1, 0] rfl ?_
        exact l111 (by omega) _ 0 xx rfl (by omega) hX h11
  have l68 : lnc s.B s.len ≤ 1000 → t_merge s n = 0 → ∀ (m : Nat), 1 ≤ m → m < 2 ^ 31 → n = nI m → ∀ (F : Nat → Nat → Int32) (x3 : Nat → Int32), MX s x3 F → ∀ (kk i : Nat) (gt : Nat → Int32), pcz_n (lnc s.B s.len) m - i = kk → i ≤ pcz_n (lnc s.B s.len) m → (∀ z, z < 1000 → gt z = nI 0) → XX G m_M_merge (xr 9 0 0) (xx_F G (MQI G q kl (sel (t_merge s n) (q_merge s n) s) (t_merge s n) (nI (q_merge s n).rc)) (xr 9 0 0)) 0 0 (wM G q x3 (fup F 11 gt) kl) 68 [(0, .ref (q 0)), (1, .int (nI m)), (2, .int (nI (pcz_n (lnc s.B s.len) m))), (3, .int (nI i))] [] := by
    intro hln1 ht m hm1 hm2 en F x3 hX kk
    have hpn := pcz_n_le (ln := lnc s.B s.len) hm1
    induction kk using Nat.strongRecOn with
    | _ kk ih =>
      intro i gt hkk hi hgt
      refine XX.iload_n dd_M_merge_68 rfl 3 rfl ?_
      refine XX.iload_n dd_M_merge_69 rfl 2 rfl ?_
      refine XX.ncmp_ge (tgt := 86) dd_M_merge_70 (by decide) (by omega) (by omega) (fun h70 => ?_) (fun h70 => ?_)
      ·
        refine XX.aload_n dd_M_merge_86 rfl 0 rfl ?_
        refine XX.iconst (v := nI 0) dd_M_merge_87 (by decide) ?_
        refine XX.put (q0 := 0) (ws2 := wM G q (upd x3 11 (nI 0)) (fup F 11 gt) kl) fp_M_67 dd_M_merge_88 rfl rfl rfl (xn_le rfl) rfl ?_
        refine XX.iconst (v := -1) dd_M_merge_91 (by decide) ?_
        refine XX.istore_n (lv2 := [(3, .int (-1)), (0, .ref (q 0)), (1, .int (nI m)), (2, .int (nI (pcz_n (lnc s.B s.len) m)))]) dd_M_merge_92 rfl (by decide) rfl ?_
        refine XX.iconst (v := nI 0) dd_M_merge_93 (by decide) ?_
        refine XX.istore (lv2 := [(4, .int (nI 0)), (3, .int (-1)), (0, .ref (q 0)), (1, .int (nI m)), (2, .int (nI (pcz_n (lnc s.B s.len) m)))]) dd_M_merge_94 (by decide) rfl ?_
        refine XX.cg (ws2 := wM G q (upd x3 11 (nI 0)) (fup (fup F 11 gt) 5 (F 5)) kl) (by rw [show fup (fup F 11 gt) 5 (F 5) = fup F 11 gt from fup_self (fup F 11 gt) 5]) rfl rfl ?_
        refine XX.lvs [2, 3, 4, 1, 0] rfl ?_
        exact l96 hln1 ht m hm1 hm2 en F _ 0 _ gt _ rfl (by omega) (hX.ag (fun i z1 _ _ _ => pk_un z1)) rfl (fun z hz => absurd hz (Nat.not_lt_zero _)) (fun z hz => hgt z (by omega)) (fun z _ hz => hgt z hz)
      ·
        refine XX.aload_n dd_M_merge_73 rfl 0 rfl ?_
        refine XX.get (q0 := 0) (v := .ref (q 12)) fl_M_54 dd_M_merge_74 rfl rfl ?_
        refine XX.iload_n dd_M_merge_77 rfl 3 rfl ?_
        refine XX.iconst (v := nI 0) dd_M_merge_78 (by decide) ?_
        refine XX.iast (q0 := 12) (n := 1000) (j := i) (f := gt) (ws2 := wM G q x3 (fup (fup F 11 gt) 11 (upd gt i (nI 0))) kl) dd_M_merge_79 rfl (by omega) (by decide) rfl ?_
        refine XX.iinc (z := 3) (v := nI (i + 1)) (lv2 := [(3, .int (nI (i + 1))), (0, .ref (q 0)), (1, .int (nI m)), (2, .int (nI (pcz_n (lnc s.B s.len) m)))]) dd_M_merge_80 rfl ((nI_succ _).symm) (by decide) rfl ?_
        refine XX.goto (tgt := 68) dd_M_merge_83 (by decide) ?_
        refine XX.cg (ws2 := wM G q x3 (fup F 11 (upd gt i (nI 0))) kl) (by rw [fup_fup]) rfl rfl ?_
        refine XX.lvs [1, 2, 3, 0] rfl ?_
        exact ih _ (by omega) (i + 1) _ rfl (by omega) (fun z hz => by
          by_cases e : z = i
          · rw [e, pk_us]
          · rw [pk_un e]; exact hgt z hz)
  refine XX.aload_n dd_M_merge_0 rfl 0 rfl ?_
  have hmf : MI s x f := hm
  obtain ⟨sp, hsp1, hsp3, hsp2⟩ := hmf.sp
  refine XX.callV (Mk := m_M_findLines) (n := 0) (As := []) (rest := []) (q0 := 0) (ci := 9) (c_M_findLines (x := x) (f := f) (B := s.B) (sp := sp) hmf.x0 hmf.g.len hmf.b hsp1 hsp2) mt_M_findLines mi_M_findLines ml_M_191 rfl dd_M_merge_1 (rfl) rfl rfl ⟨xn_le rfl, xn_le rfl⟩ ⟨xn_le rfl, xn_le rfl⟩ (xn_le rfl) rfl (fun r1 w1 hp1 => ?_)
  obtain ⟨rfl, x2, g, rfl, fa1, fa2, fa3, fa4⟩ := hp1
  have hl : ML s x2 (fup f 1 g) := ML.of hmf fa1 fa2 fa3 fa4
  refine (?_ : XX G m_M_merge (xr 9 0 0) (xx_F G (MQI G q kl (sel (t_merge s n) (q_merge s n) s) (t_merge s n) (nI (q_merge s n).rc)) (xr 9 0 0)) 0 0 (wM G q x2 (fup f 1 g) kl) 4 [(0, .ref (q 0)), (1, .int n)] [])
  refine XX.aload_n dd_M_merge_4 rfl 0 rfl ?_
  have j15 : XX G m_M_merge (xr 9 0 0) (xx_F G (MQI G q kl (sel (t_merge s n) (q_merge s n) s) (t_merge s n) (nI (q_merge s n).rc)) (xr 9 0 0)) 0 0 (wM G q x2 (fup f 1 g) kl) 15 [(0, .ref (q 0)), (1, .int n)] [.int (bI (decide (n < nI 1))), .ref (q 0)] := by
    refine XX.iconst (v := nI 1) dd_M_merge_15 (by decide) ?_
    refine XX.callVx (Mk := m_M_fails) (n := 2) (As := [.int (bI (decide (n < nI 1))), .int (nI 1)]) (rest := []) (q0 := 0) (ci := 9) (c_M_fails (so := decide (n < nI 1)) (kd := nI 1)) mt_M_fails mi_M_fails ml_M_70 rfl dd_M_merge_16 (rfl) rfl rfl ⟨xn_le rfl, xn_le rfl⟩ ⟨xn_le rfl, xn_le rfl⟩ (xn_le rfl) rfl ?_
    refine XX.bif_ne (tgt := 45) dd_M_merge_19 (by decide) (fun h19 => ?_) (fun h19 => ?_)
    ·
      refine XX.iconst (v := nI 0) dd_M_merge_45 (by decide) ?_
      exact XX.iret dd_M_merge_46 rfl ⟨xn_le rfl, xn_le rfl⟩ (MQI.no (by simp [t_merge, tb, h19]) (by simp [upd, t_merge, tb, h19]) (hl.i.t19 _))
    ·
      refine XX.aload_n dd_M_merge_22 rfl 0 rfl ?_
      have j38 : XX G m_M_merge (xr 9 0 0) (xx_F G (MQI G q kl (sel (t_merge s n) (q_merge s n) s) (t_merge s n) (nI (q_merge s n).rc)) (xr 9 0 0)) 0 0 (wM G q (upd x2 19 (if (decide (n < nI 1)) = true then nI 1 else nI 0)) (fup f 1 g) kl) 38 [(0, .ref (q 0)), (1, .int n)] [.int (bI (decide (1000 < lnc s.B s.len))), .ref (q 0)] := by
        refine XX.iconst (v := nI 2) dd_M_merge_38 (by decide) ?_
        refine XX.callVx (Mk := m_M_fails) (n := 2) (As := [.int (bI (decide (1000 < lnc s.B s.len))), .int (nI 2)]) (rest := []) (q0 := 0) (ci := 9) (c_M_fails (so := decide (1000 < lnc s.B s.len)) (kd := nI 2)) mt_M_fails mi_M_fails ml_M_70 rfl dd_M_merge_39 (rfl) rfl rfl ⟨xn_le rfl, xn_le rfl⟩ ⟨xn_le rfl, xn_le rfl⟩ (xn_le rfl) rfl ?_
        refine XX.bif_eq (tgt := 47) dd_M_merge_42 (by decide) (fun h42 => ?_) (fun h42 => ?_)
        ·
          refine XX.aload_n dd_M_merge_47 rfl 0 rfl ?_
          have hln1 : lnc s.B s.len ≤ 1000 := by have := of_decide_eq_false h42; omega
          have ht : t_merge s n = 0 := by simp only [t_merge, tb, h19, h42]; rfl
          have hn1 : 1 ≤ n.toInt := by have z := of_decide_eq_false h19; rw [Int32.lt_iff_toInt_lt] at z; have z2 : (nI 1).toInt = 1 := rfl; omega
          obtain ⟨en, hm2⟩ := nI_iN (a := n) (by omega)
          have hm1 : 1 ≤ iN n := by unfold iN; omega
          generalize iN n = m at en hm1 hm2
          have hl3 := (hl.t19 (if (decide (n < nI 1)) = true then nI 1 else nI 0)).t19 (if (decide (1000 < lnc s.B s.len)) = true then nI 2 else nI 0)
          refine XX.callV (Mk := m_M_hold) (n := 0) (As := []) (rest := []) (q0 := 0) (ci := 9) (c_M_hold (f := fup f 1 g) hl3.mtx hl3.i.x6 hl3.i.k hl3.i.x3 hl3.x1 hln1) mt_M_hold mi_M_hold ml_M_209 rfl dd_M_merge_48 (rfl) rfl rfl ⟨xn_le rfl, xn_le rfl⟩ ⟨xn_le rfl, xn_le rfl⟩ (xn_le rfl) rfl (fun r1 w1 hp1 => ?_)
          obtain ⟨rfl, x3, g3, g4, rfl, a1, a2, a3⟩ := hp1
          have hX : MX s x3 (fup (fup (fup f 1 g) 3 g3) 4 g4) := MX.of hl3 (by rw [h42]; rfl) hln1 a1 a2 a3
          generalize fup (fup (fup f 1 g) 3 g3) 4 g4 = F at hX
          refine XX.cg (ws2 := wM G q x3 F kl) (lv2 := [(0, .ref (q 0)), (1, .int (nI m))]) rfl (by rw [en]) rfl ?_
          refine (?_ : XX G m_M_merge (xr 9 0 0) (xx_F G (MQI G q kl (sel (t_merge s n) (q_merge s n) s) (t_merge s n) (nI (q_merge s n).rc)) (xr 9 0 0)) 0 0 (wM G q x3 F kl) 51 [(0, .ref (q 0)), (1, .int (nI m))] [])
          refine XX.aload_n dd_M_merge_51 rfl 0 rfl ?_
          refine XX.get (q0 := 0) (v := .int (x3 1)) fl_M_78 dd_M_merge_52 rfl rfl ?_
          refine XX.tp (y := nI (lnc s.B s.len)) (hX.h.x1) ?_
          refine XX.i2l (v := (nI (lnc s.B s.len)).toInt64) dd_M_merge_55 (rfl) ?_
          refine XX.iload_n dd_M_merge_56 rfl 1 rfl ?_
          refine XX.i2l (v := (nI m).toInt64) dd_M_merge_57 (rfl) ?_
          refine XX.ladd dd_M_merge_58 ?_
          refine XX.lconst (v := 1) dd_M_merge_59 (by decide) ?_
          refine XX.lsub dd_M_merge_60 ?_
          refine XX.iload_n dd_M_merge_61 rfl 1 rfl ?_
          refine XX.i2l (v := (nI m).toInt64) dd_M_merge_62 (rfl) ?_
          refine XX.ldiv dd_M_merge_63 (fun z => by have z2 := congrArg Int64.toInt z; rw [Int32.toInt_toInt64, nI_toInt hm2] at z2; have z3 : (0 : Int64).toInt = 0 := rfl; omega) ?_
          refine XX.l2i (v := nI (pcz_n (lnc s.B s.len) m)) dd_M_merge_64 (pieces64 hln1 hm1 hm2) ?_
          refine XX.istore_n (lv2 := [(2, .int (nI (pcz_n (lnc s.B s.len) m))), (0, .ref (q 0)), (1, .int (nI m))]) dd_M_merge_65 rfl (by decide) rfl ?_
          refine XX.iconst (v := nI 0) dd_M_merge_66 (by decide) ?_
          refine XX.istore_n (lv2 := [(3, .int (nI 0)), (2, .int (nI (pcz_n (lnc s.B s.len) m))), (0, .ref (q 0)), (1, .int (nI m))]) dd_M_merge_67 rfl (by decide) rfl ?_
          refine XX.cg (ws2 := wM G q x3 (fup F 11 (F 11)) kl) (by rw [fup_self]) rfl rfl ?_
          refine XX.lvs [2, 3, 1, 0] rfl ?_
          exact l68 hln1 ht m hm1 hm2 en F x3 hX _ 0 _ rfl (by omega) hX.h.tk
        ·
          refine XX.iconst (v := nI 0) dd_M_merge_45 (by decide) ?_
          exact XX.iret dd_M_merge_46 rfl ⟨xn_le rfl, xn_le rfl⟩ (MQI.no (by simp only [t_merge, tb, h19, h42]; decide) (by simp only [t_merge, tb, h19, h42]; rfl) ((hl.i.t19 _).t19 _))
      refine XX.aload_n dd_M_merge_23 rfl 0 rfl ?_
      refine XX.get (q0 := 0) (v := .int ((upd x2 19 (if (decide (n < nI 1)) = true then nI 1 else nI 0)) 1)) fl_M_78 dd_M_merge_24 rfl rfl ?_
      refine XX.tp (y := nI (lnc s.B s.len)) (hl.x1) ?_
      refine XX.sipush (v := nI 1000) dd_M_merge_27 (by decide) ?_
      refine XX.ncmp_le (tgt := 37) dd_M_merge_30 (by decide) (by omega) (by omega) (fun h30 => ?_) (fun h30 => ?_)
      ·
        refine XX.iconst (v := nI 0) dd_M_merge_37 (by decide) ?_
        exact XX.tp (by exact (bI_f (by simp; omega)).symm) j38
      ·
        refine XX.iconst (v := nI 1) dd_M_merge_33 (by decide) ?_
        refine XX.goto (tgt := 38) dd_M_merge_34 (by decide) ?_
        exact XX.tp (by exact (bI_t (by simp; omega)).symm) j38
  refine XX.iload_n dd_M_merge_5 rfl 1 rfl ?_
  refine XX.iconst (v := nI 1) dd_M_merge_6 (by decide) ?_
  refine XX.icmp_ge (tgt := 14) dd_M_merge_7 (by decide) (fun h7 => ?_) (fun h7 => ?_)
  ·
    refine XX.iconst (v := nI 0) dd_M_merge_14 (by decide) ?_
    exact XX.tp (by exact (bI_f (decide_eq_false (by exact Int32.not_lt.mpr h7))).symm) j15
  ·
    refine XX.iconst (v := nI 1) dd_M_merge_10 (by decide) ?_
    refine XX.goto (tgt := 15) dd_M_merge_11 (by decide) ?_
    exact XX.tp (by exact (bI_t (decide_eq_true (by exact Int32.not_le.mp h7))).symm) j15

