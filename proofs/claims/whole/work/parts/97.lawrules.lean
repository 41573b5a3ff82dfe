/-! rules for the law's helpers, which catch, and for the law -/
def xx_wsW (M : XM) (hh : List (Nat × Nat × Nat × Nat)) : List Cond := .codeWith M.1 M.2.1 M.2.2.1 M.2.2.2 hh :: xw_g
/-- the contract of a method with an exception table -/
def MW (G : XG) (M : XM) (hh : List (Nat × Nat × Nat × Nat)) (rm : Room) (av : List Value) (ws : va_W) (P : Option Value → va_W → Prop) : Prop := Met G.2.2.2 M.1 (xx_wsW M hh) rm (xx_pc G av ws) (xx_qc G P) rm.cells rm.slots (xg_A G)
theorem MW.of {G : XG} {M : XM} {hh : List (Nat × Nat × Nat × Nat)} {rm : Room} {av : List Value} {ws : va_W} {P : Option Value → va_W → Prop} (hy : plainName M.1.cls = true) (hlen : (lg_sl av).length ≤ M.2.2.1)
    (h : XX G M rm (xx_F G P rm) 0 0 ws 0 (lv_args 0 av) []) : MW G M hh rm av ws P := by
  refine va_MetW (hh := hh) (cc := M.2.1) (maxL := M.2.2.1) (ret := M.2.2.2) (ws' := xw_g) hy rfl ?_
  intro p e s m args below meth c s₁ B hml hv
  obtain ⟨rfl, hbase, hen, hP, hD⟩ := hv
  have hl := lv_entry av (n := M.2.2.1) hlen
  rw [lg_entry_eq]
  exact h p e s m _ below meth c s.heap [] _ ⟨B.exec, B.bytes, hml, B.returns, B.notSynchronized, findClass_of_methodNamed B.named, Or.inl ⟨(name_of_methodNamed B.named B.method).1, B.named⟩, hbase, hen⟩ hP hD va_S.rf hl
/-- a method with an exception table, as the tables have it -/
def xx_mw (Mk : XM) (hh : List (Nat × Nat × Nat × Nat)) (n : Nat) : Prop := Cond.codeWith Mk.1 Mk.2.1 Mk.2.2.1 Mk.2.2.2 hh ∈ xw_g ∧ Cond.initialized Mk.1.cls ∈ xw_g ∧ (Mk.1.cls ≠ "java/lang/invoke/MethodHandle" ∧ Mk.1.cls ≠ "java/lang/invoke/VarHandle") ∧ (parseMethodDescriptor Mk.1.desc).map (fun d => d.parameters.length) = some n
theorem vm_asg_refl (vm : Vm) (c : ClassId) : vm.assignable c c = true := by
  show vm.assignableAux (255 + 1) c c = true
  rw [Vm.assignableAux, Bool.or_eq_true, beq_iff_eq]
  exact Or.inl rfl
/-- which handler takes an X at pc -/
def hx_c (own : String) (hh : List (Nat × Nat × Nat × Nat)) (pc : Nat) (X : String) (h : Nat) : Prop :=
  (∃ (s0 e0 ct : Nat) (t : List (Nat × Nat × Nat × Nat)), hh = (s0, e0, h, ct) :: t ∧ s0 ≤ pc ∧ pc < e0 ∧ ct ≠ 0 ∧ Cond.classLink own ct X ∈ xw_g) ∨
  (X = "java/lang/UnsupportedOperationException" ∧ ∃ (s0 e0 h0 c0 s1 e1 ct : Nat) (t : List (Nat × Nat × Nat × Nat)), hh = (s0, e0, h0, c0) :: (s1, e1, h, ct) :: t ∧ (s0 ≤ pc ∧ pc < e0 ∧ s1 ≤ pc ∧ pc < e1) ∧ (c0 ≠ 0 ∧ ct ≠ 0) ∧ Cond.classLink own c0 "java/lang/IllegalArgumentException" ∈ xw_g ∧ Cond.classLink own ct X ∈ xw_g)
theorem hd_in {e : Env} {s : State} {args : Array Value} {f : JFrame} {own : String} (hpl : e.platform.magicAccessors = ({} : Platform).magicAccessors) (hown : s.vm.findClass own = some f.method.cls) {x : ExceptionTableEntry} (h1 : x.startPc ≤ f.pc) (h2 : f.pc < x.endPc) (h0 : x.catchType ≠ 0) {X Y : String} {oc : ClassId} (hlk : (Cond.classLink own x.catchType Y).before args s = true) (hX : s.vm.findClass X = some oc) {b : Bool} (hb : ∀ t, s.vm.findClass Y = some t → s.vm.assignable oc t = b) : hd_ok e s f oc x b := by
  obtain ⟨c', hc', hcl⟩ := Cond.classLink_spec hown hlk e.platform hpl
  refine ⟨?_, h0, c', hcl, hb c' hc'⟩
  simp [covers, h1, h2]
section
variable {G : XG} {M : XM} {R : Room} {F : XF} {cells slots : Nat} {ws : va_W} {pc : Nat} {lv : List (Nat × Value)} {st : List Value}
set_option maxHeartbeats 1000000 in
/-- a call inside a try -/
theorem XX.callVT {Mk : XM} {n idx ci q0 b : Nat} {As rest fs : List Value} {q : vw_C} {rmk : Room} {P : Option Value → va_W → Prop} {E : String → va_W → Prop} {hh : List (Nat × Nat × Nat × Nat)} (hM : MT G Mk rmk (.ref b :: As) ws P E) (hk : xx_mt Mk n) (hi : Cond.instanceMethod Mk.1 ∈ xw_g ∧ Cond.selects Mk.1.cls Mk.1 Mk.1 ∈ xw_g) (hlk : Cond.methodLink M.1.cls idx Mk.1 ∈ xw_g) (hn : As.length = n) (hd : decode M.2.1 pc = .ok (.invokevirtual idx, 3)) (he : ws[q0]? = some (b, .inr (ci, fs))) (hc : xc_cl[ci]? = some q) (hq : q.1 = Mk.1.cls) (hR : rmk.frames + 1 ≤ R.frames ∧ 8 + (Mk.2.2.1 + 11) + rmk.locals ≤ R.locals) (hC : cells + rmk.cells ≤ R.cells ∧ slots + rmk.slots ≤ R.slots) (hw : (rest.map fun v => v.category).sum ≤ 8) (hst0 : st = As.reverse ++ .ref b :: rest)
    (hcw : Cond.codeWith M.1 M.2.1 M.2.2.1 M.2.2.2 hh ∈ xw_g) (hnl : M.1.name ≠ "law")
    (k1 : ∀ (r : Option Value) (ws1 : va_W), P r ws1 → XX G M R F (cells + rmk.cells) (slots + rmk.slots) ws1 (pc + 3) lv (r.toList ++ rest))
    (k2 : ∀ (X : String) (ws1 : va_W), E X ws1 → ∃ h, hx_c M.1.cls hh pc X h ∧ ∀ a, XX G M R F (cells + rmk.cells) (slots + rmk.slots) ws1 h lv [.ref a]) : XX G M R F cells slots ws pc lv st := by
  intro p e s m args below meth c H locs ls hf hP hD hS hl
  subst hst0
  have hen := hf.2.2.2.2.2.2.2.2
  have hts : ∀ w ∈ xw_g, w.before args s = true := fun w h => hen.1 w h args
  have hown := hf.2.2.2.2.2.1
  have hnm : s.methodNamed? M.1 = some m := by
    rcases hf.2.2.2.2.2.2.1 with h | h
    · exact h.2
    · exact absurd h hnl
  obtain ⟨cellB, hcB, hoB, hclB⟩ := va_recv hen.2.2 hP hc he
  rw [hq] at hclB
  intro T hT X
  have hy := hk.2.2
  obtain ⟨mk, methM, hnamed, hmethM, hstM, habM⟩ := Cond.instanceMethod_spec (hts _ hi.1)
  obtain ⟨methM', cM, hmethM', -, -, -, -, -, -, hsigM⟩ := Cond.code_spec hnamed (hts _ hk.1)
  cases hmethM.symm.trans hmethM'
  obtain ⟨c2, r2, m2, q1, q2, q3, q4, kP, hkP, hkPi⟩ := Cond.selects_spec (hts _ hi.2)
  cases hclB.symm.trans q1
  cases (State.methodFound?_of_named hnamed ⟨hy.1, hy.2.1⟩).symm.trans q2
  cases hnamed.symm.trans q3
  have hselP : selectMethod e.platform s.vm cellB.cls mk = .method mk := by rw [Launch.admits_selectMethod X.admits]; exact q4
  have hlenA : As.length = methM.sig.parameters.length := by
    have h2 := hy.2.2
    rw [hsigM] at h2
    exact hn.trans (Option.some.inj h2).symm
  obtain ⟨vm₁, X₁, hstep₁⟩ := X.invokevirtual hf.1 hown (hts _ hlk) hnamed hmethM hstM hkP hkPi ⟨hy.1, hy.2.1⟩ (a := b) (cell := cellB) (by rw [hT]; exact hcB)
    (fun z h => by rw [h] at hoB; cases hoB) hselP hmethM habM hkP hkPi (g := F0 m pc ls (As.reverse ++ .ref b :: rest)) rfl (argsL := As) (rest := rest) hlenA rfl (by rw [hf.2.1]; exact hd)
  have hpcU : xx_pc G (.ref b :: As) ws (Value.ref b :: As).toArray (T.setVm vm₁) := ⟨rfl, by show G.2.2.1 ≤ T.heap.size; rw [hT]; exact Nat.le_trans hf.2.2.2.2.2.2.2.1 hS.1, hen.moved X₁.warmed (by show ∀ a : Nat, a < s.heap.size → ¬ xg_A G a → T.heap[a]? = s.heap[a]?; rw [hT]; exact hS.2.1), by show va_P G.1 xc_cl ws T.heap; rw [hT]; exact hP, hD⟩
  obtain ⟨o, t, V, L, XV, hL, e1, e2, hqt, hst⟩ := hd_call (g := F0 m pc ls rest) (bytes := Mk.2.1) (maxL := Mk.2.2.1) (ret := Mk.2.2.2) (a := (Value.ref b :: As).toArray) X₁ hM hR.1 hR.2
    (fun w hw a' U hW => by
      rcases List.mem_cons.mp hw with h0 | h1
      · rw [h0]; exact word_at hW (good_of_word (List.mem_filter.mp hk.1).2) (hts _ hk.1)
      · exact word_at hW (good_of_word (List.mem_filter.mp h1).2) (hts _ h1)) List.mem_cons_self
    (fun a' U hW => word_at hW (good_of_word (List.mem_filter.mp hk.2.1).2) (hts _ hk.2.1)) hC rfl (by show ls.size = _; rw [hf.2.2.1]; exact hl.1) (by rw [hf.2.1]; exact hd) (lv_room hw) (X₁.named hnamed) (xx_blind G _ ws _ _ _ _ hpcU)
  obtain ⟨⟨hz, hkk⟩, hor⟩ := hqt
  have hz2 : s.heap.size ≤ V.heap.size := by rw [e1]; refine Nat.le_trans hS.1 ?_; rw [← hT]; exact hz
  have hSV : va_S (xg_A G) s.heap V.heap (locs ++ L) := ⟨hz2, fun q h1 h2 => by
      rw [e1, hkk q (by show q < T.heap.size; rw [hT]; exact Nat.lt_of_lt_of_le h1 hS.1) h2]
      show T.heap[q]? = _
      rw [hT]; exact hS.2.1 q h1 h2, fun q hq => by
      rcases List.mem_append.mp hq with h | h
      · exact hS.2.2 q h
      · exact hL q h⟩
  rcases hor with ⟨r, ws1, rfl, hp, hP1, hD1⟩ | ⟨a0, XN, ws1, ce, rfl, hE, hP1, hD1, hce, hcv, hfc⟩
  · obtain ⟨t2, b1, b2⟩ := k1 r ws1 hp p e s m args below meth c V.heap (locs ++ L) ls hf (by rw [e1]; exact hP1) hD1 hSV hl V rfl XV
    exact ⟨t2, hstep₁ _ fun acts => by rw [doInvoke_state]; exact hst.trans b1, b2⟩
  · obtain ⟨h, hxc, kx⟩ := k2 XN ws1 hE
    have hpl : e.platform.magicAccessors = ({} : Platform).magicAccessors := by rw [X.admits.platform]
    have hfs : s.vm.findClass XN = some ce.cls := by rw [← XV.warmed.alike.findClass, e2]; exact hfc
    obtain ⟨k0, hk0, -⟩ := Vm.findClass_spec hfs
    have hceV : V.heap[a0]? = some ce := by rw [e1]; exact hce
    have hob : ∀ k, ce.vm ≠ .statics k := fun k h => by rw [hcv] at h; cases h
    obtain ⟨m9, meth9, c9, hn9, hm9, hc9, -, -, htab, -, -, -⟩ := Cond.codeWith_spec (hts _ hcw)
    cases hnm.symm.trans hn9
    cases Option.some.inj (X.method.symm.trans hm9)
    cases Option.some.inj (X.code.symm.trans hc9)
    have hA : At V (F0 m pc ls rest).method c below := XV.here
    have hmV : ((V.setTop (F0 m pc ls rest)).pushFrame (.throwing a0)).vm.method? (F0 m pc ls rest).method = some meth := by rw [Stand.throwing_vm]; exact XV.method'
    have hWV : s.WarmedH ((V.setTop (F0 m pc ls rest)).pushFrame (.throwing a0)).vm := by rw [Stand.throwing_vm]; exact XV.warmed
    have hcV : ((V.setTop (F0 m pc ls rest)).pushFrame (.throwing a0)).heap[a0]? = some ce := by rw [Stand.throwing_heap]; exact hceV
    have hfin : ∃ vm', s.WarmedH vm' ∧ hd_to e ((V.setTop (F0 m pc ls rest)).pushFrame (.throwing a0)) (F0 m pc ls rest) a0 h vm' := by
      rcases hxc with ⟨s0, e0, ct, tl, hhe, z1, z2, z3, z4⟩ | ⟨hX, s0, e0, h0, c0, s1, e1', ct, tl, hhe, ⟨z1, z2, z3, z4⟩, ⟨z5, z6⟩, z7, z8⟩
      · rw [hhe] at htab
        cases hx : c.exceptionTable.toList with
        | nil => rw [hx] at htab; cases htab
        | cons x tx =>
          rw [hx] at htab
          obtain ⟨g1, -⟩ := List.cons.inj htab
          have g2 : x.startPc = s0 ∧ x.endPc = e0 ∧ x.handlerPc = h ∧ x.catchType = ct := by cases g1; exact ⟨rfl, rfl, rfl, rfl⟩
          obtain ⟨y1, y2, y3, y4⟩ := g2
          have := hd_1 (e := e) (s := s) hmV XV.code hWV hcV hob ⟨k0, hk0⟩ hx (hd_in (args := args) (own := M.1.cls) hpl hown (by rw [y1]; exact z1) (by rw [y2]; exact z2) (by rw [y4]; exact z3) (by rw [y4]; exact hts _ z4) hfs (fun t ht => by cases Option.some.inj (ht.symm.trans hfs); exact vm_asg_refl _ _))
          rw [y3] at this
          exact this
      · rw [hhe] at htab
        cases hx : c.exceptionTable.toList with
        | nil => rw [hx] at htab; cases htab
        | cons x tx =>
          cases tx with
          | nil => rw [hx] at htab; exact absurd (List.cons.inj htab).2 (by simp)
          | cons y ty =>
            rw [hx] at htab
            obtain ⟨g1, g3⟩ := List.cons.inj htab
            obtain ⟨g4, -⟩ := List.cons.inj g3
            have g2 : x.startPc = s0 ∧ x.endPc = e0 ∧ x.handlerPc = h0 ∧ x.catchType = c0 := by cases g1; exact ⟨rfl, rfl, rfl, rfl⟩
            have g5 : y.startPc = s1 ∧ y.endPc = e1' ∧ y.handlerPc = h ∧ y.catchType = ct := by cases g4; exact ⟨rfl, rfl, rfl, rfl⟩
            obtain ⟨y1, y2, y3, y4⟩ := g2
            obtain ⟨w1, w2, w3, w4⟩ := g5
            have := hd_2 (e := e) (s := s) hmV XV.code hWV hcV hob ⟨k0, hk0⟩ hx (hd_in (args := args) (own := M.1.cls) hpl hown (by rw [y1]; exact z1) (by rw [y2]; exact z2) (by rw [y4]; exact z5) (by rw [y4]; exact hts _ z7) hfs (fun t ht => hen.2.1.2.2.2.2.2.2.2 _ _ (by rw [← hX]; exact hfs) ht))
              (hd_in (args := args) (own := M.1.cls) hpl hown (by rw [w1]; exact z3) (by rw [w2]; exact z4) (by rw [w4]; exact z6) (by rw [w4]; exact hts _ z8) hfs (fun t ht => by cases Option.some.inj (ht.symm.trans hfs); exact vm_asg_refl _ _))
            rw [w3] at this
            exact this
    obtain ⟨vm', hW', hto⟩ := hfin
    obtain ⟨t2, b1, b2⟩ := kx a0 p e s m args below meth c V.heap (locs ++ L) ls hf (by rw [e1]; exact hP1) hD1 hSV hl (V.setVm vm') rfl (XV.noted hW')
    exact ⟨t2, hstep₁ _ fun acts => by rw [doInvoke_state]; exact hst.trans (hd_go hA hto b1), b2⟩
/-- the law calls a helper that has an exception table -/
theorem XX.callSW {Mk : XM} {hh : List (Nat × Nat × Nat × Nat)} {n idx : Nat} {As rest : List Value} {rmk : Room} {P : Option Value → va_W → Prop} (hM : MW G Mk hh rmk As ws P) (hk : xx_mw Mk hh n) (hst : Cond.static Mk.1 ∈ xw_g) (hlk : Cond.methodLink M.1.cls idx Mk.1 ∈ xw_g) (hn : As.length = n) (hd : decode M.2.1 pc = .ok (.invokestatic idx, 3)) (hR : rmk.frames + 1 ≤ R.frames ∧ 8 + (Mk.2.2.1 + 11) + rmk.locals ≤ R.locals) (hC : cells + rmk.cells ≤ R.cells ∧ slots + rmk.slots ≤ R.slots) (hw : (rest.map fun v => v.category).sum ≤ 8) (hst0 : st = As.reverse ++ rest)
    (k : ∀ (r : Option Value) (ws1 : va_W), P r ws1 → XX G M R F (cells + rmk.cells) (slots + rmk.slots) ws1 (pc + 3) lv (r.toList ++ rest)) : XX G M R F cells slots ws pc lv st := by
  intro p e s m args below meth c H locs ls hf hP hD hS hl
  subst hst0
  have hen := hf.2.2.2.2.2.2.2.2
  have hts : ∀ w ∈ xw_g, w.before args s = true := fun w h => hen.1 w h args
  have hgd : ∀ w ∈ xw_g, ∀ (a' : Array Value) (U : State), s.WarmedH U.vm → w.before a' U = true := fun w h a' U hW => word_at hW (good_of_word (List.mem_filter.mp h).2) (hts _ h)
  have hK : Back G.2.2.2 R p e below s args Mk.1 3 8 (PreOf R rmk.cells rmk.slots (xx_pc G As ws)) (PostOf (xx_qc G P) rmk.cells rmk.slots (xg_A G)) :=
    va_backW (hh := hh) (bytes := Mk.2.1) (maxL := Mk.2.2.1) (ret := Mk.2.2.2) hM (xx_blind G As ws) rfl rfl hR.1 hR.2 (fun w hw a' U hW => by
      rcases List.mem_cons.mp hw with h0 | h1
      · rw [h0]; exact hgd _ hk.1 a' U hW
      · exact hgd _ h1 a' U hW) List.mem_cons_self (fun a' U hW => hgd _ hk.2.1 a' U hW)
  refine xx_after (Q := F below args s) (P := P) (a := As.toArray) (mc := rmk.cells) (ms := rmk.slots) (rest := rest) ?_ hS (fun r ws1 H1 locs1 hp hP1 hD1 hS1 => k r ws1 hp p e s m args below meth c H1 locs1 ls hf hP1 hD1 hS1 hl)
  intro T hT X
  obtain ⟨mk, methM, cM, hnamed, hmethM, -, -, -, -, -, -, hsigM⟩ := Cond.codeWith_spec (hts _ hk.1)
  have hstatic : methM.isStatic = true := Cond.static_spec hnamed hmethM (hts _ hst)
  obtain ⟨kP, hkP, -⟩ := className_of_methodNamed hnamed
  have hinitP : kP.init = .initialized := Cond.initialized_spec (findClass_of_methodNamed hnamed) hkP (hts _ hk.2.1)
  have hlenA : As.length = methM.sig.parameters.length := by
    have h2 := hk.2.2.2
    rw [hsigM] at h2
    exact hn.trans (Option.some.inj h2).symm
  obtain ⟨vm₁, X₁, hstep₁⟩ := X.invokestatic hf.1 hf.2.2.2.2.2.1 (hts _ hlk) hnamed hmethM hstatic hkP hinitP hk.2.2.1 (g := F0 m pc ls (As.reverse ++ rest)) rfl (argsL := As) (rest := rest) hlenA rfl (by rw [hf.2.1]; exact hd)
  obtain ⟨v, ⟨U', l2, c2, s2⟩, X', ⟨g', mk', t, L, e1, e2, hq, h1, hL, h2, h3⟩, hsteps⟩ := hK m meth c ⟨T.setVm vm₁, locs, cells, slots⟩ (F0 m pc ls rest) (.invokestatic idx) mk As.toArray X₁ rfl (by show ls.size = _; rw [hf.2.2.1]; exact hl.1) (by rw [hf.2.1]; exact hd) (lv_room hw) (X₁.named hnamed)
    ⟨hC.1, hC.2, rfl, by show G.2.2.1 ≤ T.heap.size; rw [hT]; exact Nat.le_trans hf.2.2.2.2.2.2.2.1 hS.1, hen.moved X₁.warmed (by show ∀ a : Nat, a < s.heap.size → ¬ xg_A G a → T.heap[a]? = s.heap[a]?; rw [hT]; exact hS.2.1), by show va_P G.1 xc_cl ws T.heap; rw [hT]; exact hP, hD⟩
  dsimp only [Pt.U, Pt.locs, Pt.cells, Pt.slots] at X' e1 e2 h1 h2 h3 hsteps
  subst h1; subst h2; subst h3
  exact ⟨v, (T.setVm vm₁).calling g' mk' As.toArray, t, U', L, hT, X', hL, e1, e2, hq, fun target h => hstep₁ _ fun acts => by rw [doInvoke_state]; exact hsteps.trans h⟩
end
