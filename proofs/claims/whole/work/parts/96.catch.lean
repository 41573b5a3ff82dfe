/-! a call inside a try: the callee returns, or it throws and a row of the caller's exception table takes the object -/
section
variable {e : Env} {S : State} {f : JFrame} {a : Addr} {Q : Handler → Pre} {E : CtlPost} {d : Bool} {acts : List Action}
/-- a row that covers the pc and names a class takes the object, or those behind it are asked; its entry is linked from then on -/
theorem hd_row {x : ExceptionTableEntry} {t : List ExceptionTableEntry} {c : ClassId} {cell : Cell} (hx : covers x f.pc = true) (h0 : x.catchType ≠ 0) (hl : S.vm.ClassLinks e.platform f.method.cls x.catchType c) (hcell : S.heap[a]? = some cell) (hobj : ∀ k, cell.vm ≠ .statics k) (hk : ∃ k, S.vm.classes[cell.cls]? = some k) (hc : ∃ k, S.vm.classes[c]? = some k) (b : Bool) (hb : S.vm.assignable cell.cls c = b) :
    wp (findHandler.go f a (x :: t)) Q E e d acts S ↔ (if b = true then Q (.found x.handlerPc) d acts (S.setVm (S.vm.noted f.method.cls x.catchType (.cls c))) else wp (findHandler.go f a t) Q E e d acts (S.setVm (S.vm.noted f.method.cls x.catchType (.cls c)))) := by
  simp only [covers] at hx
  have hal : S.vm.Alike (S.vm.noted f.method.cls x.catchType (.cls c)) := (Vm.Alike.refl S.vm).noted _ _ _
  obtain ⟨g1, g2⟩ := (resolveClass_links e.toSetting hl).op (op := VmOp.resolveClass f.method.cls x.catchType) rfl
  obtain ⟨k1, hk1⟩ := hk
  obtain ⟨k2, hk2⟩ := hc
  obtain ⟨k1', e1, -⟩ := hal.2.2 _ _ hk1
  obtain ⟨k2', e2, -⟩ := hal.2.2 _ _ hk2
  have hb' : (S.vm.noted f.method.cls x.catchType (.cls c)).assignable cell.cls c = b := by rw [hal.assignable]; exact hb
  cases b <;> simp [findHandler.go, hx, h0, g1, g2, hcell, hobj, e1, e2, hb', VmOp.dirties, VmOp.acts]
end
/-- the search ends at the handler h, with the tables vm' -/
def hd_to (e : Env) (S : State) (f : JFrame) (a : Addr) (h : Nat) (vm' : Vm) : Prop := ∀ (Q : Handler → Pre) (E : CtlPost) (d : Bool) (acts : List Action), wp (findHandler f a) Q E e d acts S ↔ Q (.found h) d acts (S.setVm vm')
/-- a row of the table as the words have it: it covers the pc, its class is linked, and the object's class can be assigned to it or not -/
def hd_ok (e : Env) (s : State) (f : JFrame) (oc : ClassId) (x : ExceptionTableEntry) (b : Bool) : Prop := covers x f.pc = true ∧ x.catchType ≠ 0 ∧ ∃ c, s.vm.ClassLinks e.platform f.method.cls x.catchType c ∧ s.vm.assignable oc c = b
section
variable {e : Env} {s S : State} {f : JFrame} {a : Addr} {cell : Cell}
theorem hd_one (hW : s.WarmedH S.vm) (hcell : S.heap[a]? = some cell) (hobj : ∀ k, cell.vm ≠ .statics k) (hk : ∃ k, s.vm.classes[cell.cls]? = some k) {x : ExceptionTableEntry} {t : List ExceptionTableEntry} {b : Bool} (hx : hd_ok e s f cell.cls x b) :
    ∃ vm', s.WarmedH vm' ∧ ∀ (Q : Handler → Pre) (E : CtlPost) (d : Bool) (acts : List Action), wp (findHandler.go f a (x :: t)) Q E e d acts S ↔ (if b = true then Q (.found x.handlerPc) d acts (S.setVm vm') else wp (findHandler.go f a t) Q E e d acts (S.setVm vm')) := by
  obtain ⟨h1, h0, c, hl, hb⟩ := hx
  obtain ⟨k0, hk0⟩ := hk
  obtain ⟨k0', g0, -⟩ := hW.alike.2.2 _ _ hk0
  obtain ⟨dk, _, _, kt, hd, _, _, _, _, hkt, _, hopen⟩ := hl.here
  obtain ⟨kt', gt, -⟩ := hW.alike.2.2 _ _ hkt
  exact ⟨_, hW.noted hd hopen (State.rightAt_cls hl), fun Q E d acts => hd_row h1 h0 (hW.classLinks hl) hcell hobj ⟨k0', g0⟩ ⟨kt', gt⟩ b (by rw [hW.alike.assignable]; exact hb)⟩
/-- the first row takes it -/
theorem hd_1 {meth : Method} {code : Code} (hm : S.vm.method? f.method = some meth) (hc : meth.code = some code) (hW : s.WarmedH S.vm) (hcell : S.heap[a]? = some cell) (hobj : ∀ k, cell.vm ≠ .statics k) (hk : ∃ k, s.vm.classes[cell.cls]? = some k) {x : ExceptionTableEntry} {t : List ExceptionTableEntry} (ht : code.exceptionTable.toList = x :: t) (hx : hd_ok e s f cell.cls x true) : ∃ vm', s.WarmedH vm' ∧ hd_to e S f a x.handlerPc vm' := by
  obtain ⟨vm', h1, h2⟩ := hd_one (t := t) hW hcell hobj hk hx
  exact ⟨vm', h1, fun Q E d acts => by rw [W.findHandler_eq hm hc, ht, h2 Q E d acts, if_pos rfl]⟩
/-- the first row passes it on, the second takes it -/
theorem hd_2 {meth : Method} {code : Code} (hm : S.vm.method? f.method = some meth) (hc : meth.code = some code) (hW : s.WarmedH S.vm) (hcell : S.heap[a]? = some cell) (hobj : ∀ k, cell.vm ≠ .statics k) (hk : ∃ k, s.vm.classes[cell.cls]? = some k) {x y : ExceptionTableEntry} {t : List ExceptionTableEntry} (ht : code.exceptionTable.toList = x :: y :: t) (hx : hd_ok e s f cell.cls x false) (hy : hd_ok e s f cell.cls y true) : ∃ vm', s.WarmedH vm' ∧ hd_to e S f a y.handlerPc vm' := by
  obtain ⟨vm1, h1, h2⟩ := hd_one (t := y :: t) hW hcell hobj hk hx
  obtain ⟨vm2, h3, h4⟩ := hd_one (S := S.setVm vm1) (t := t) h1 hcell hobj hk hy
  exact ⟨vm2, h3, fun Q E d acts => by rw [W.findHandler_eq hm hc, ht, h2 Q E d acts, if_neg (by decide), h4 Q E d acts, if_pos rfl]; rfl⟩
theorem hd_step {r : List Frame} {h : Nat} {vm' : Vm} (hf : hd_to e S f a h vm') : (stepThrowing e S a (.java f :: r)).Is ((S.setVm vm').setFrames (.java { f with pc := h, stack := [.ref a] } :: r)) [] := by
  simp only [stepThrowing, searchFrame, vmDo]
  generalize hr : Sem.go _ e false [] S = res
  obtain ⟨as, rfl, ha⟩ := Sem.eq_ok_of hr (a := Handler.found h) (s' := S.setVm vm') (acts' := []) (by simp [hf _ _ _ _])
  exact ⟨rfl, ha⟩
end
section
variable {p : Program} {l : Launch} {e : Env} {R : Room} {s : State} {m : MethodId} {args : Array Value} {below : List Frame} {meth : Method} {c : Code} {T : State} {locs : List Loc} {cells slots : Nat}
theorem hd_go {g : JFrame} {a : Addr} {h : Nat} {vm' : Vm} {target : State} (hA : At T g.method c below) (hf : hd_to e ((T.setTop g).pushFrame (.throwing a)) g a h vm') (hrest : Steps p.tables e below ((T.setVm vm').setTop { g with pc := h, stack := [.ref a] }) target) : Steps p.tables e below ((T.setTop g).pushFrame (.throwing a)) target := by
  obtain ⟨hgo, hw⟩ := hA.throwing a
  refine Steps.head hgo hw ?_
  rw [stepThread_throwing (frames_entered hA.top _), (hd_step (S := (T.setTop g).pushFrame (.throwing a)) hf).1]
  obtain ⟨g₀, hg⟩ := Option.isSome_iff_exists.mp hA.top
  obtain ⟨r, hr⟩ := State.topJava?_eq_some.mp hg
  have hr' : (T.setVm vm').frames = .java g₀ :: r := hr
  have key : ∀ (u : State) (F F2 : List Frame), ((u.setFrames F).setVm vm').setFrames F2 = (u.setVm vm').setFrames F2 := fun u F F2 => by
    rw [show (u.setFrames F).setVm vm' = (u.setVm vm').setFrames F from rfl, State.setFrames_setFrames]
  rw [State.setTop_of_frames _ hr'] at hrest
  rw [hr, List.tail_cons, State.pushFrame, key, State.setTop_of_frames _ hr, key]
  exact hrest
/-- what a call of y comes to: it has returned, or it has thrown and the note lies over the caller's frame -/
theorem hd_call {y : MethodName} {bytes : ByteArray} {maxL len : Nat} {ret : Option FieldType} {ws : List Cond} {rm : Room} {Pc : Array Value → State → Prop} {Qa : Array Value → State → Outcome → State → Prop} {free : Addr → Prop} {mk : MethodId} {g : JFrame} {ig : Instr} {a : Array Value}
    (X : Stand p l e R s m args below meth c T locs cells slots) (hM : MetFree l y (headSpec ws rm) Pc (fun _ _ _ _ _ => True) (fun a st o t => Qa a st o t ∧ (∃ L, xx_fe st t L rm.cells rm.slots ∧ ∀ q ∈ L, free q.base)))
    (hframes : rm.frames + 1 ≤ R.frames) (hlocals : 8 + (maxL + 11) + rm.locals ≤ R.locals) (hws : ∀ w ∈ ws, ∀ (a' : Array Value) (U : State), s.WarmedH U.vm → w.before a' U = true) (hcode : Cond.code y bytes maxL ret ∈ ws) (hinit : ∀ (a' : Array Value) (U : State), s.WarmedH U.vm → (Cond.initialized y.cls).before a' U = true)
    (hC : cells + rm.cells ≤ R.cells ∧ slots + rm.slots ≤ R.slots) (hg : g.method = m) (hsize : g.locals.size = c.maxLocals) (hdg : decode c.code g.pc = .ok (ig, len)) (hW : 2 * g.monitorRoom + (g.stack.map fun v => v.category).sum ≤ 8) (hn : T.methodNamed? y = some mk) (hP : Pc a (T.calling g mk a)) :
    ∃ (o : Outcome) (t V : State) (L : List Loc), Stand p l e R s m args below meth c V (locs ++ L) (cells + rm.cells) (slots + rm.slots) ∧ (∀ q ∈ L, free q.base) ∧ V.heap = t.heap ∧ V.vm = t.vm ∧ Qa a (T.calling g mk a) o t ∧
      (match o with
        | .returned v => Steps p.tables e below (doInvoke e (T.setTop g) [] mk a).1 (V.setTop { g with pc := g.pc + len, stack := v.toList ++ g.stack })
        | .threw a0 => Steps p.tables e below (doInvoke e (T.setTop g) [] mk a).1 ((V.setTop g).pushFrame (.throwing a0))) := by
  obtain ⟨methY, cY, hmY, hcY, -, hlY, -⟩ := Cond.code_spec hn (hws _ hcode a T X.warmed)
  obtain ⟨kY, hkY, -⟩ := className_of_methodNamed hn
  have hiY : kY.init = .initialized := Cond.initialized_spec (findClass_of_methodNamed hn) hkY (hinit a T X.warmed)
  have h : At T g.method c below := by rw [hg]; exact X.here
  have happ : (headSpec ws rm).appliesLoose y e.platform (T.calling g mk a) = true :=
    Spec.appliesLoose_calling (g := g) h hdg hn hkY hiY (X.room_calling (g := g) (R' := rm) hsize hmY hcY hframes (by rw [hlY]; omega) hC.1 hC.2) (atoms_intro fun w hw => hws w hw _ _ X.warmed)
  obtain ⟨mid, hmid⟩ := h.above
  have hfr : (T.setTop g).frames = (.java g :: mid) ++ below := by rw [State.frames_setTop' g h.top, hmid]; rfl
  obtain ⟨o, s₂, hsteps, -, hend, hq⟩ := Steps.callFree hM p X.admits X.cas X.clock (acts := []) hfr happ hP trivial
  rw [State.frames_setTop' g h.top] at hend
  obtain ⟨hq1, L, ⟨hW₂, e2, q2, q3, q4, q5, q6⟩, hL⟩ := hq
  have e3 : s₂ = ({ (T.calling g mk a).setFrames s₂.frames with heap := s₂.heap, slotsUsed := s₂.slotsUsed } : State).setVm s₂.vm := by
    have : s₂ = ({ s₂ with vm := (T.calling g mk a).vm } : State).setVm s₂.vm := rfl
    rw [State.calling] at this
    rw [State.calling]
    rw [e2] at this
    exact this
  have hW' : T.WarmedH s₂.vm := hW₂
  obtain ⟨g₀, hg0⟩ := Option.isSome_iff_exists.mp h.top
  obtain ⟨r, hr⟩ := State.topJava?_eq_some.mp hg0
  have hsame : T.sameButNew ({ T with heap := s₂.heap, slotsUsed := s₂.slotsUsed } : State) L rm.cells rm.slots := by
    refine ⟨?_, q2, q3, q4, q5, q6⟩
    obtain ⟨t, ht, -⟩ := State.frames_cons hr
    show ({ T with heap := s₂.heap, slotsUsed := s₂.slotsUsed } : State) = { T.setFrames T.frames with heap := s₂.heap, slotsUsed := s₂.slotsUsed }
    rw [State.setFrames_self ht]
  have hr' : (({ T with heap := s₂.heap, slotsUsed := s₂.slotsUsed } : State).setVm s₂.vm).frames = .java g₀ :: r := hr
  subst hg
  refine ⟨o, s₂, ({ T with heap := s₂.heap, slotsUsed := s₂.slotsUsed } : State).setVm s₂.vm, L, ⟨X.admits, X.cas, X.clock, X.frames, X.room, X.hears, X.method, X.code, (X.here.setHeapUsed s₂.heap s₂.slotsUsed).setVm hW'.alike, X.tail, State.WarmedH.trans X.warmed hW', X.limits, X.bytes, X.same.trans (hsame.setVm s.vm)⟩, hL, rfl, rfl, hq1, ?_⟩
  cases o with
  | returned v =>
    obtain ⟨c₂, i₂, len₂, hc₂, hd₂, hf₂⟩ := hend
    have hcc : c₂ = c := by
      have h1 : s₂.code? g.method = T.code? g.method := by rw [State.code?_eq, State.code?_eq, hW'.alike.method?]
      exact Option.some.inj (hc₂.symm.trans (h1.trans h.code))
    subst hcc
    have hlen : len₂ = len := by rw [hdg] at hd₂; cases hd₂; rfl
    subst hlen
    have hs₂ : s₂ = (({ T with heap := s₂.heap, slotsUsed := s₂.slotsUsed } : State).setVm s₂.vm).setTop { g with pc := g.pc + len₂, stack := v.toList ++ g.stack } := by
      refine e3.trans ?_
      rw [hf₂, State.calling_eq h.top, State.setFrames_setFrames, State.setTop_of_frames _ hr', hr]
      rfl
    show Steps p.tables e below _ ((({ T with heap := s₂.heap, slotsUsed := s₂.slotsUsed } : State).setVm s₂.vm).setTop _)
    rw [← hs₂]
    exact hsteps
  | threw a0 =>
    have hf₂ : s₂.frames = .throwing a0 :: .java g :: T.frames.tail := hend
    have hs₂ : s₂ = ((({ T with heap := s₂.heap, slotsUsed := s₂.slotsUsed } : State).setVm s₂.vm).setTop g).pushFrame (.throwing a0) := by
      refine e3.trans ?_
      rw [hf₂, State.calling_eq h.top, State.setFrames_setFrames, State.pushFrame, State.frames_setTop _ hr', State.setTop_of_frames _ hr', State.setFrames_setFrames, hr]
      rfl
    show Steps p.tables e below _ (((({ T with heap := s₂.heap, slotsUsed := s₂.slotsUsed } : State).setVm s₂.vm).setTop g).pushFrame _)
    rw [← hs₂]
    exact hsteps
end
