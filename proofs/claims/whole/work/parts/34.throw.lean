/-! Methods that return or throw -/
def xx_qt (G : XG) (P : Option Value → va_W → Prop) (E : String → va_W → Prop) : Array Value → State → Outcome → State → Prop := fun _ st o t => va_F (xg_A G) st t ∧ ((∃ (r : Option Value) (ws : va_W), o = .returned r ∧ P r ws ∧ va_P G.1 xc_cl ws t.heap ∧ va_D (xg_A G) ws) ∨ ∃ (a : Nat) (X : String) (ws : va_W) (ce : Cell), o = .threw a ∧ E X ws ∧ va_P G.1 xc_cl ws t.heap ∧ va_D (xg_A G) ws ∧ t.heap[a]? = some ce ∧ ce.vm = .none ∧ t.vm.findClass X = some ce.cls)
def xx_fe (first : State) (t : State) (L : List Loc) (k n : Nat) : Prop := first.WarmedH t.vm ∧ first.sameButNew ({ t with vm := first.vm } : State) L k n
def xx_FT (G : XG) (P : Option Value → va_W → Prop) (E : String → va_W → Prop) (rm : Room) : XF := fun below args s t => ∃ o, t.status = .running ∧ Ended t below o ∧ xx_qt G P E args s o t ∧ ∃ L, xx_fe s t L rm.cells rm.slots ∧ ∀ q ∈ L, xg_A G q.base
def MT (G : XG) (M : XM) (rm : Room) (av : List Value) (ws : va_W) (P : Option Value → va_W → Prop) (E : String → va_W → Prop) : Prop :=
  MetFree G.2.2.2 M.1 (headSpec (xx_ws M) rm) (xx_pc G av ws) (fun _ _ _ _ _ => True) (fun a st o t => xx_qt G P E a st o t ∧ ∃ L, xx_fe st t L rm.cells rm.slots ∧ ∀ q ∈ L, xg_A G q.base)
theorem xx_FT_of {G : XG} {P : Option Value → va_W → Prop} {E : String → va_W → Prop} {rm : Room} {below : List Frame} {args : Array Value} {s t : State} (h : xx_F G P rm below args s t) : xx_FT G P E rm below args s t := by
  obtain ⟨o, h1, h2, ⟨h3, r, ws, h4⟩, L, ⟨h5, h6, h7⟩, h8⟩ := h
  exact ⟨o, h1, h2, ⟨h3, Or.inl ⟨r, ws, h4⟩⟩, L, ⟨h6, h7⟩, h8⟩
theorem MT.of {G : XG} {M : XM} {rm : Room} {av : List Value} {ws : va_W} {P : Option Value → va_W → Prop} {E : String → va_W → Prop} (hy : plainName M.1.cls = true) (hlen : (lg_sl av).length ≤ M.2.2.1)
    (h : XR G M rm (xx_FT G P E rm) ws 0 (lv_args 0 av) []) : MT G M rm av ws P E := by
  refine MetFree.of_bodyS (code := M.2.1) (maxLocals := M.2.2.1) (ret := M.2.2.2) hy ?_ ?_
  · intro args s m h hn
    obtain ⟨meth, c, h1, h2, h3, h4, h5, h6, -, -⟩ := Cond.code_spec hn (atoms_spec (ws := xx_ws M) h _ List.mem_cons_self)
    exact ⟨meth, c, h1, h2, h3, h4, h5, h6⟩
  · intro p e s m args below meth c s₁ B hml hv _
    have hh0 : s₁.heap = s.heap := by rw [B.state]; rfl
    obtain ⟨rfl, hbase, hen, hP, hD⟩ := hv
    have hl := lv_entry av (n := M.2.2.1) hlen
    have k := h p e s m av.toArray below meth c _ ⟨B.exec, B.bytes, hml, B.returns, B.notSynchronized, findClass_of_methodNamed B.named, Or.inl ⟨(name_of_methodNamed B.named B.method).1, B.named⟩, hbase, hen⟩ hP hD hl
    rw [← lg_entry_eq] at k
    obtain ⟨t, a1, o, b1, b2, b3⟩ := k s₁ hh0 (Stand.of_body B)
    exact ⟨t, o, a1, b1, b2, b3⟩
section
variable {G : XG} {M : XM} {R : Room} {F F2 : XF} {cells slots : Nat} {ws : va_W} {pc : Nat} {lv : List (Nat × Value)} {st : List Value}
theorem XX.mono (h : ∀ below args s t, F below args s t → F2 below args s t) (k : XX G M R F cells slots ws pc lv st) : XX G M R F2 cells slots ws pc lv st := by
  intro p e s m args below meth c H locs ls hf hP hD hS hl T hT X
  obtain ⟨t, a, b⟩ := k p e s m args below meth c H locs ls hf hP hD hS hl T hT X
  exact ⟨t, a, h _ _ _ _ b⟩
/-- from here on the method returns -/
theorem XX.ft {P : Option Value → va_W → Prop} {E : String → va_W → Prop} {rm : Room} (k : XX G M R (xx_F G P rm) cells slots ws pc lv st) : XX G M R (xx_FT G P E rm) cells slots ws pc lv st := XX.mono (fun _ _ _ _ h => xx_FT_of h) k
end
theorem xx_same {s U : State} {k n : Nat} (h : s.sameButNew ({ U with vm := s.vm } : State) [] k n) : s.heap.size ≤ U.heap.size ∧ ∀ q : Nat, q < s.heap.size → U.heap[q]? = s.heap[q]? := by
  refine ⟨h.2.1, fun q hq => ?_⟩
  have e1 : s.heap[q]? = some s.heap[q] := Array.getElem?_eq_getElem hq
  obtain ⟨c2, h1, h2, h3, h4⟩ := h.2.2.2.2.2 q _ e1
  have h5 : c2.slots = s.heap[q].slots := Array.ext_getElem? (fun i => h4 i (by simp))
  have h6 : U.heap[q]? = some c2 := h1
  rw [h6, e1, h2, h5]
theorem xx_isRef {C n d : String} {v : Value} {A : Nat → Prop} {s : State} {args : Array Value} (h : va_Z C n d v A s s.heap) (hv : v = .null ∨ ∃ t, v = .ref t) : (Cond.isRef (.static C n d)).before args s = true := by
  obtain ⟨cf, kf, fi, f, a, cell, h1, h2, h3, h4, h5, h6, h7, h8⟩ := h
  rcases hv with rfl | ⟨t, rfl⟩
  · simp [Cond.before, Cond.holds, Cond.value, Term.eval, State.fieldNamed?, h1, h2, h4, h5, h6, h7]
  · simp [Cond.before, Cond.holds, Cond.value, Term.eval, State.fieldNamed?, h1, h2, h4, h5, h6, h7]
section
variable {G : XG} {M : XM} {R : Room} {ws : va_W} {pc : Nat} {lv : List (Nat × Value)} {st : List Value}
set_option maxHeartbeats 1000000 in
/-- new X(text), athrow: the method ends with an X -/
theorem XR.throw {idx ic sx : Nat} {X tx : String} {names : List String} {rm : Room} {P : Option Value → va_W → Prop} {E : String → va_W → Prop}
    (h1 : Cond.classLink M.1.cls idx X ∈ xw_g) (h2 : Cond.instantiable X 6 ∈ xw_g) (h3 : Cond.initialized X ∈ xw_g) (h4 : (M.1.cls, sx, tx) ∈ xw_s)
    (h5 : ∀ w ∈ Bundle.ownAtoms M.1.cls ic X names, w ∈ xw_g ∨ w ∈ xw_n ∨ w = .isRef (.static "java/lang/Throwable" "UNASSIGNED_STACK" "[Ljava/lang/StackTraceElement;") ∨ w = .isRef (.static "java/lang/Throwable" "SUPPRESSED_SENTINEL" "Ljava/util/List;") ∨ w = .laysStatic "java/lang/Throwable" "UNASSIGNED_STACK" "[Ljava/lang/StackTraceElement;" ∨ w = .laysStatic "java/lang/Throwable" "SUPPRESSED_SENTINEL" "Ljava/util/List;")
    (h6 : Cond.code M.1 M.2.1 M.2.2.1 M.2.2.2 ∈ xw_g) (hnl : M.1.name ≠ "law") (hX : Bundle.fit X = true) (hN : ∀ n ∈ names, Bundle.fit n = true) (htr : ∀ e : Env, G.2.2.2.admits e → e.platform.stackTraces = false)
    (d0 : decode M.2.1 pc = .ok (.new idx, 3)) (d3 : decode M.2.1 (pc + 3) = .ok (.dup, 1)) (d4 : decode M.2.1 (pc + 3 + 1) = .ok (.ldc sx, 2)) (d6 : decode M.2.1 (pc + 3 + 1 + 2) = .ok (.invokespecial ic, 3)) (d9 : decode M.2.1 (pc + 3 + 1 + 2 + 3) = .ok (.athrow, 1))
    (hR : names.length + 3 < R.frames) (hRl : (st.map fun v => v.category).sum + 1 + (13 * (names.length + 1) + 42) ≤ R.locals) (hc : 1 ≤ R.cells ∧ 6 ≤ R.slots) (hrm : 1 ≤ rm.cells ∧ 6 ≤ rm.slots) (hE : E X ws) :
    XR G M R (xx_FT G P E rm) ws pc lv st := by
  intro p e s m args below meth c ls hf hP hD hl
  have hen := hf.2.2.2.2.2.2.2.2
  have hown := hf.2.2.2.2.2.1
  refine W.newc hf.1 hf.2.1 hown (hen.1 _ h1 args) (hen.1 _ h2 args) (hen.1 _ h3 args) (g := F0 m pc ls st) rfl d0 (by omega) (by omega) (fun cC kC e1 e2 e3 e4 => ?_)
  obtain ⟨a, hs⟩ := hen.2.1.2.1 _ h4
  refine W.eq (g2 := F0 m (pc + 3) ls (.ref s.heap.size :: st)) rfl ?_
  refine lv_dup hf.1 hf.2.1 d3 rfl ?_
  refine va_ldcS hf.1 hf.2.1 hown hs d4 ?_
  intro T hT X0
  have hnm : s.methodNamed? M.1 = some m := by
    rcases hf.2.2.2.2.2.2.1 with h | h
    · exact h.2
    · exact absurd h hnl
  have hex : c.exceptionTable.toList = [] := by
    obtain ⟨meth2, c2, q1, q2, -, -, -, -, q3, -⟩ := Cond.code_spec hnm (hen.1 _ h6 args)
    cases Option.some.inj (q1.symm.trans X0.method)
    cases Option.some.inj (q2.symm.trans X0.code)
    have q4 : c.exceptionTable = #[] := by simpa using q3
    rw [q4]
  have hat : ∀ w ∈ Bundle.ownAtoms M.1.cls ic X names, w.before args s = true := by
    intro w hw
    rcases h5 w hw with h | h | h | h | h | h
    · exact hen.1 w h args
    · have h7 := hen.2.1.1 w h
      have h8 := (List.mem_filter.mp h).2
      refine va_Nw.use ?_ h7
      cases w <;> first | (simp [xw_isN] at h8; done) | rfl
    · rw [h]
      rcases hen.2.1.2.2.1 with h9 | ⟨t, h9⟩
      · exact xx_isRef h9 (Or.inl rfl)
      · exact xx_isRef h9 (Or.inr ⟨t, rfl⟩)
    · rw [h]
      rcases hen.2.1.2.2.2.1 with h9 | ⟨t, h9⟩
      · exact xx_isRef h9 (Or.inl rfl)
      · exact xx_isRef h9 (Or.inr ⟨t, rfl⟩)
    · rw [h]; exact hen.2.1.2.2.2.2.2.1
    · rw [h]; exact hen.2.1.2.2.2.2.2.2.1
  obtain ⟨U, s1, s2, s3, s4, s5, ce, s6, s7⟩ := X0.ctorThrowS hf.1 (htr e X0.admits) hown hX hN hat (fun x hx => by cases hx) e1 e2 (a := s.heap.size) (by rw [hT]; simp) (Nat.le_refl _) (msg := .ref a) rfl
    (g := F0 m (pc + 3 + 1 + 2) ls (.ref a :: .ref s.heap.size :: .ref s.heap.size :: st)) rfl (by rw [hf.2.2.1]; exact hl.1) rfl rfl (rest := st) rfl (by rw [hf.2.1]; exact d6) (by rw [hf.2.1]; exact d9) (by rw [hex]; intro x hx; cases hx) hR
    (by show 2 * 0 + ((Value.ref s.heap.size :: st).map fun v => v.category).sum + _ ≤ _; simp only [List.map_cons, List.sum_cons]; have : (Value.ref s.heap.size).category = 1 := rfl; omega) hf.2.2.2.2.1
  obtain ⟨z1, z2⟩ := xx_same s5
  refine ⟨U, s1, .threw s.heap.size, s2, s3, ⟨⟨z1, fun q h _ => z2 q h⟩, Or.inr ⟨_, X, ws, ce, rfl, hE, hP.kept (fun k q hq => z2 _ (hP k q hq).lt), hD, s6, s7.vm, ?_⟩⟩, [], ⟨s4, s5.weaken (fun _ h _ => h) hrm.1 hrm.2⟩, fun q h => by cases h⟩
  rw [s4.alike.findClass]
  exact s7.cls
end
