/-! The judgement XX: from frame (pc, locals lv, operand stack st) of method M over the world ws the machine comes to an end F. All that goes along (tables' words, the classes' numbers, the old heap) is inside. -/
/-- classes' numbers and slots; array classes; where the old heap ends; the launch -/
abbrev XG : Type := va_G × (Nat → ClassId) × Nat × Launch
abbrev XF : Type := List Frame → Array Value → State → State → Prop
def xg_A (G : XG) : Nat → Prop := fun q => G.2.2.1 ≤ q
def xg_ty (G : XG) : List (ClassId × FieldType) := [(G.2.1 0, .byte), (G.2.1 1, .int), (G.2.1 2, .long), (G.2.1 3, .object "LineSorter$Key")]
/-- the good words of the tables -/
def xw_g : List Cond := lw_tbl.filter goodWord
def xw_isN : Cond → Bool
  | .fieldLinkNest .. => true
  | .methodLinkNest .. => true
  | .declares .. => true
  | .castable .. => true
  | _ => false
def xw_n : List Cond := lw_tbl.filter xw_isN
theorem xw_in {w : Cond} (h : w ∈ lw_tbl) (hg : goodWord w = true) : w ∈ xw_g := List.mem_filter.mpr ⟨h, hg⟩
theorem xw_inN {w : Cond} (h : w ∈ lw_tbl) (hg : xw_isN w = true) : w ∈ xw_n := List.mem_filter.mpr ⟨h, hg⟩
/-- what holds of the tables, and of Throwable's two statics, at every state -/
theorem xl_moved {C n d : String} {A : Nat → Prop} {s U : State} (hvm : s.vm.Alike U.vm) (hH : ∀ a : Nat, a < s.heap.size → ¬ A a → U.heap[a]? = s.heap[a]?) (hz : va_Zq C n d A s s.heap) (h : va_Nw (.laysStatic C n d) s) : va_Nw (.laysStatic C n d) U := by
  obtain ⟨c, k, i, f, a, cell, h1, h2, h3, h4, h5, h6, h7, h8, h9⟩ := Cond.laysStatic_spec h
  have hna : ¬ A a := by
    rcases hz with ⟨cf, kf, fi, f2, a2, cell2, z1, z2, z3, z4, z5, z6, z7, z8⟩ | ⟨t, cf, kf, fi, f2, a2, cell2, z1, z2, z3, z4, z5, z6, z7, z8⟩
    · rw [h2] at z1; cases z1; rw [h4] at z4; cases z4; exact z8
    · rw [h2] at z1; cases z1; rw [h4] at z4; cases z4; exact z8
  obtain ⟨k2, hi2, he⟩ := State.fieldFound?_setVm hvm h2
  have e1 : U.vm.findClass C = some c := by rw [hvm.findClass]; exact h1
  have e2 : U.heap[a]? = some cell := by rw [hH a (Array.getElem?_eq_some_iff.mp h5).1 hna]; exact h5
  have e3 : k2.statics = some a := by rw [he]; exact h4
  have e4 : k2.staticTypes[f.slot]? = some f.type := by rw [he]; exact h9
  have e5 : U.fieldFound? C n d = some (c, k2, i, f) := hi2
  unfold va_Nw Cond.before Cond.holds
  simp [Cond.value, e1, e5, e2, e3, e4, h3, h6, h7, h8]
/-- the two exceptions that one law call tells apart -/
def xk_nc (U : State) : Prop := ∀ c t : ClassId, U.vm.findClass "java/lang/UnsupportedOperationException" = some c → U.vm.findClass "java/lang/IllegalArgumentException" = some t → U.vm.assignable c t = false
theorem xk_nc.moved {s U : State} (hvm : s.vm.Alike U.vm) (h : xk_nc s) : xk_nc U := by
  intro c t h1 h2
  rw [hvm.findClass] at h1 h2
  rw [hvm.assignable]
  exact h c t h1 h2
def xk_en (G : XG) (U : State) : Prop := (∀ w ∈ xw_g, ∀ a : Array Value, w.before a U = true) ∧ ((∀ w ∈ xw_n, va_Nw w U) ∧ (∀ t ∈ xw_s, ∃ a : Nat, vk_R t.1 t.2.1 t.2.2 a U) ∧ va_Zq "java/lang/Throwable" "UNASSIGNED_STACK" "[Ljava/lang/StackTraceElement;" (xg_A G) U U.heap ∧ va_Zq "java/lang/Throwable" "SUPPRESSED_SENTINEL" "Ljava/util/List;" (xg_A G) U U.heap ∧ va_AO "LineSorter$Key" U ∧ va_Nw (.laysStatic "java/lang/Throwable" "UNASSIGNED_STACK" "[Ljava/lang/StackTraceElement;") U ∧ va_Nw (.laysStatic "java/lang/Throwable" "SUPPRESSED_SENTINEL" "Ljava/util/List;") U ∧ xk_nc U) ∧ va_K G.1 xc_cl (xg_ty G) U
theorem xk_en.moved {G : XG} {s U : State} (hW : s.WarmedH U.vm) (hH : ∀ a : Nat, a < s.heap.size → ¬ xg_A G a → U.heap[a]? = s.heap[a]?) (h : xk_en G s) : xk_en G U := by
  refine ⟨fun w hw a => word_at (args := #[]) hW (good_of_word (List.mem_filter.mp hw).2) (h.1 w hw #[]), ⟨fun w hw => ?_, fun t ht => ?_, (h.2.1.2.2.1.moved hW.alike).kept hH, (h.2.1.2.2.2.1.moved hW.alike).kept hH, h.2.1.2.2.2.2.1.moved hW.alike, xl_moved hW.alike hH h.2.1.2.2.1 h.2.1.2.2.2.2.2.1, xl_moved hW.alike hH h.2.1.2.2.2.1 h.2.1.2.2.2.2.2.2.1, h.2.1.2.2.2.2.2.2.2.moved hW.alike⟩, va_K.moved hW.alike h.2.2⟩
  · have h1 := (List.mem_filter.mp hw).2
    have h2 := h.2.1.1 w hw
    cases w <;> first | (simp [xw_isN] at h1; done) | exact va_Nw.warmF hW h2 | exact va_Nw.warmM hW h2 | exact va_Nw.warmD hW h2 | exact va_Nw.warmC hW h2
  · obtain ⟨a, h3⟩ := h.2.1.2.1 t ht
    exact ⟨a, h3.warm hW⟩
def xx_fx (G : XG) (M : XM) (p : Program) (s : State) (m : MethodId) (meth : Method) (c : Code) : Prop :=
  p.tables.exec = Jvm.exec ∧ c.code = M.2.1 ∧ c.maxLocals = M.2.2.1 ∧ meth.sig.returnType = M.2.2.2 ∧ meth.locks = false ∧ s.vm.findClass M.1.cls = some m.cls ∧ ((meth.name = M.1.name ∧ s.methodNamed? M.1 = some m) ∨ M.1.name = "law") ∧ G.2.2.1 ≤ s.heap.size ∧ xk_en G s
def XX (G : XG) (M : XM) (R : Room) (F : XF) (cells slots : Nat) (ws : va_W) (pc : Nat) (lv : List (Nat × Value)) (st : List Value) : Prop :=
  ∀ (p : Program) (e : Env) (s : State) (m : MethodId) (args : Array Value) (below : List Frame) (meth : Method) (c : Code) (H : Heap) (locs : List Loc) (ls : Array Slot),
    xx_fx G M p s m meth c → va_P G.1 xc_cl ws H → va_D (xg_A G) ws → va_S (xg_A G) s.heap H locs → lv_has ls M.2.2.1 lv →
    W p G.2.2.2 e R s m args below meth c H locs cells slots (F below args s) (F0 m pc ls st)
def xx_ws (M : XM) : List Cond := .code M.1 M.2.1 M.2.2.1 M.2.2.2 :: xw_g
def xx_pc (G : XG) (av : List Value) (ws : va_W) : Array Value → State → Prop := fun v U => v = av.toArray ∧ G.2.2.1 ≤ U.heap.size ∧ xk_en G U ∧ va_P G.1 xc_cl ws U.heap ∧ va_D (xg_A G) ws
def xx_qc (G : XG) (P : Option Value → va_W → Prop) : Array Value → State → Outcome → State → Prop := fun _ st o t => va_F (xg_A G) st t ∧ ∃ (r : Option Value) (ws : va_W), o = .returned r ∧ P r ws ∧ va_P G.1 xc_cl ws t.heap ∧ va_D (xg_A G) ws
/-- the contract of method M: from arguments av and world ws it returns r with world ws' such that P r ws' -/
def MM (G : XG) (M : XM) (rm : Room) (av : List Value) (ws : va_W) (P : Option Value → va_W → Prop) : Prop :=
  Met G.2.2.2 M.1 (xx_ws M) rm (xx_pc G av ws) (xx_qc G P) rm.cells rm.slots (xg_A G)
def xx_F (G : XG) (P : Option Value → va_W → Prop) (rm : Room) : XF := fun below args s => MQ below (xx_qc G P) args s rm.cells rm.slots (xg_A G)
theorem xx_blind (G : XG) (av : List Value) (ws : va_W) : FrameBlind (xx_pc G av ws) := by
  intro a U g mk h
  obtain ⟨h1, h2, h3, h4, h5⟩ := h
  exact ⟨h1, h2, xk_en.moved (s := U) (U := U.calling g mk a) (State.WarmedH.refl U) (fun _ _ _ => rfl) h3, h4, h5⟩
theorem MM.of {G : XG} {M : XM} {rm : Room} {av : List Value} {ws : va_W} {P : Option Value → va_W → Prop} (hy : plainName M.1.cls = true) (hlen : (lg_sl av).length ≤ M.2.2.1)
    (h : XX G M rm (xx_F G P rm) 0 0 ws 0 (lv_args 0 av) []) : MM G M rm av ws P := by
  refine Met.ofW (cc := M.2.1) (maxL := M.2.2.1) (ret := M.2.2.2) hy rfl ?_
  intro p e s m args below meth c s₁ B hml hv
  obtain ⟨rfl, hbase, hen, hP, hD⟩ := hv
  have hl := lv_entry av (n := M.2.2.1) hlen
  rw [lg_entry_eq]
  exact h p e s m _ below meth c s.heap [] _ ⟨B.exec, B.bytes, hml, B.returns, B.notSynchronized, findClass_of_methodNamed B.named, Or.inl ⟨(name_of_methodNamed B.named B.method).1, B.named⟩, hbase, hen⟩ hP hD va_S.rf hl
/-- a contract may promise less -/
theorem MM.mono {G : XG} {M : XM} {rm : Room} {av : List Value} {ws : va_W} {P P' : Option Value → va_W → Prop} (h : MM G M rm av ws P) (hp : ∀ r w, P r w → P' r w) : MM G M rm av ws P' := by
  intro p e h1 h2 h3 s m args below h4 h5 h6 h7
  obtain ⟨n, o, a1, a2, a3, ⟨b1, r, w, b2, b3, b4⟩, b5⟩ := h p e h1 h2 h3 s m args below h4 h5 h6 h7
  exact ⟨n, o, a1, a2, a3, ⟨b1, r, w, b2, hp r w b3, b4⟩, b5⟩
section
variable {p : Program} {l : Launch} {e : Env} {R : Room} {s : State} {m : MethodId} {args : Array Value} {below : List Frame} {meth : Method} {c : Code} {H : Heap} {locs : List Loc} {cells slots : Nat} {Q : State → Prop}
theorem xx_after {G : XG} {P : Option Value → va_W → Prop} {a : Array Value} {mc ms pc : Nat} {ls : Array Slot} {st0 rest : List Value} (hr : va_Run p l e R s m args below meth c H locs cells slots mc ms (F0 m pc ls st0) rest (xx_qc G P a) (xg_A G)) (hS : va_S (xg_A G) s.heap H locs)
    (kk : ∀ (r : Option Value) (ws1 : va_W) (H1 : Heap) (locs1 : List Loc), P r ws1 → va_P G.1 xc_cl ws1 H1 → va_D (xg_A G) ws1 → va_S (xg_A G) s.heap H1 locs1 → W p l e R s m args below meth c H1 locs1 (cells + mc) (slots + ms) Q (F0 m (pc + 3) ls (r.toList ++ rest))) : W p l e R s m args below meth c H locs cells slots Q (F0 m pc ls st0) := by
  intro T hT X
  obtain ⟨v, st₀, t, T', L, h0, X', hL, e1, e2, ⟨⟨hz, hk⟩, r, ws1, hv, hp, hP1, hD1⟩, st⟩ := hr T hT X
  cases hv
  rw [h0] at hz hk
  obtain ⟨t2, a1, b1⟩ := kk v ws1 T'.heap (locs ++ L) hp (by rw [e1]; exact hP1) hD1 ⟨Nat.le_trans hS.1 (by rw [e1]; exact hz), fun q h1 h2 => by rw [e1, hk q (Nat.lt_of_lt_of_le h1 hS.1) h2]; exact hS.2.1 q h1 h2, fun q hq => by
      rcases List.mem_append.mp hq with h | h
      · exact hS.2.2 q h
      · exact hL q h⟩ T' rfl X'
  exact ⟨t2, st t2 a1, b1⟩
end
/-- a method as the tables have it -/
def xx_mt (Mk : XM) (n : Nat) : Prop := Cond.code Mk.1 Mk.2.1 Mk.2.2.1 Mk.2.2.2 ∈ xw_g ∧ Cond.initialized Mk.1.cls ∈ xw_g ∧ Mk.1.cls ≠ "java/lang/invoke/MethodHandle" ∧ Mk.1.cls ≠ "java/lang/invoke/VarHandle" ∧ (parseMethodDescriptor Mk.1.desc).map (fun d => d.parameters.length) = some n
/-- a class as the tables have it -/
def xx_cf (ci : Nat) (C : String) (T : u_T) (N : Nat) (ty : Nat → FieldType) : Prop := xc_cl[ci]? = some (C, T, N) ∧ (∀ w ∈ u_ws C T N, w ∈ xw_g) ∧ (∀ k, k < N → parseFieldDescriptor (T k).2.2.1 = some (ty k)) ∧ ∀ a, a < N → ∀ b, b < N → a ≠ b → (T a).2.1 ≠ (T b).2.1
/-- the field k of class ci, as own's pool names it at idx -/
def xx_fl (own : String) (idx ci k : Nat) : Prop := ∃ (C : String) (T : u_T) (N : Nat) (ty : Nat → FieldType), xx_cf ci C T N ty ∧ k < N ∧ (Cond.fieldLink own idx (T k).1 (T k).2.1 (T k).2.2.1 ∈ xw_g ∨ ∃ host : String, Cond.fieldLinkNest own idx (T k).1 (T k).2.1 (T k).2.2.1 host ∈ xw_n)
def xx_fp (own : String) (idx ci k : Nat) (t : FieldType) : Prop := ∃ (C : String) (T : u_T) (N : Nat) (ty : Nat → FieldType), xx_cf ci C T N ty ∧ k < N ∧ (T k).2.2.2 = false ∧ parseFieldDescriptor (T k).2.2.1 = some t ∧ (Cond.fieldLink own idx (T k).1 (T k).2.1 (T k).2.2.1 ∈ xw_g ∨ ∃ host : String, Cond.fieldLinkNest own idx (T k).1 (T k).2.1 (T k).2.2.1 host ∈ xw_n)
def xx_ff (own : String) (idx ci k : Nat) (t : FieldType) : Prop := ∃ (C : String) (T : u_T) (N : Nat) (ty : Nat → FieldType), xx_cf ci C T N ty ∧ k < N ∧ (T k).2.2.2 = true ∧ (T k).1 = own ∧ parseFieldDescriptor (T k).2.2.1 = some t ∧ Cond.fieldLink own idx (T k).1 (T k).2.1 (T k).2.2.1 ∈ xw_g
def xx_nw (own : String) (idx ci : Nat) (fs : List Value) (N : Nat) : Prop := ∃ (C : String) (T : u_T) (ty : Nat → FieldType), xx_cf ci C T N ty ∧ Cond.classLink own idx C ∈ xw_g ∧ Cond.instantiable C N ∈ xw_g ∧ Cond.initialized C ∈ xw_g ∧ ∀ j, j < N → defaultValue (ty j) = vp_V fs j
theorem xx_good {Mk : XM} (h : Cond.code Mk.1 Mk.2.1 Mk.2.2.1 Mk.2.2.2 ∈ xw_g) : GoodIn xw_g (xx_ws Mk) := by
  intro w hw
  rcases List.mem_cons.mp hw with h0 | h1
  · rw [h0]; exact ⟨h, good_of_word (List.mem_filter.mp h).2⟩
  · exact ⟨h1, good_of_word (List.mem_filter.mp h1).2⟩
section
variable {G : XG} {M : XM} {R : Room} {F : XF} {cells slots : Nat} {ws : va_W} {pc : Nat} {lv : List (Nat × Value)} {st : List Value}
theorem XX.iconst {n : Int} {v : Int32} (hd : decode M.2.1 pc = .ok (.iconst n, 1)) (hv : Int32.ofInt n = v) (k : XX G M R F cells slots ws (pc + 1) lv (.int v :: st)) : XX G M R F cells slots ws pc lv (st) := by
  intro p e s m args below meth c H locs ls hf hP hD hS hl
  exact lv_iconst hf.1 hf.2.1 hd hv (k p e s m args below meth c H locs ls hf hP hD hS hl)
theorem XX.bipush {n : Int} {v : Int32} (hd : decode M.2.1 pc = .ok (.bipush n, 2)) (hv : (Int8.ofInt n).toInt32 = v) (k : XX G M R F cells slots ws (pc + 2) lv (.int v :: st)) : XX G M R F cells slots ws pc lv (st) := by
  intro p e s m args below meth c H locs ls hf hP hD hS hl
  exact lv_bipush hf.1 hf.2.1 hd hv (k p e s m args below meth c H locs ls hf hP hD hS hl)
theorem XX.sipush {n : Int} {v : Int32} (hd : decode M.2.1 pc = .ok (.sipush n, 3)) (hv : (Int16.ofInt n).toInt32 = v) (k : XX G M R F cells slots ws (pc + 3) lv (.int v :: st)) : XX G M R F cells slots ws pc lv (st) := by
  intro p e s m args below meth c H locs ls hf hP hD hS hl
  exact lv_sipush hf.1 hf.2.1 hd hv (k p e s m args below meth c H locs ls hf hP hD hS hl)
theorem XX.lconst {n : Fin 2} {v : Int64} (hd : decode M.2.1 pc = .ok (.lconst n, 1)) (hv : Int64.ofNat (n : Nat) = v) (k : XX G M R F cells slots ws (pc + 1) lv (.long v :: st)) : XX G M R F cells slots ws pc lv (st) := by
  intro p e s m args below meth c H locs ls hf hP hD hS hl
  exact lv_lconst hf.1 hf.2.1 hd hv (k p e s m args below meth c H locs ls hf hP hD hS hl)
theorem XX.iload_n {j : Fin 4} {i : Nat} {x : Int32} (hd : decode M.2.1 pc = .ok (.iload_n j, 1)) (hi : (j : Nat) = i) (z : Nat) (hz : lv[z]? = some (i, .int x)) (k : XX G M R F cells slots ws (pc + 1) lv (.int x :: st)) : XX G M R F cells slots ws pc lv (st) := by
  intro p e s m args below meth c H locs ls hf hP hD hS hl
  exact lv_iload_n hf.1 hf.2.1 hd hi (lv_at hl z hz) (k p e s m args below meth c H locs ls hf hP hD hS hl)
theorem XX.iload {i : Nat} {x : Int32} (hd : decode M.2.1 pc = .ok (.iload i, 2)) (z : Nat) (hz : lv[z]? = some (i, .int x)) (k : XX G M R F cells slots ws (pc + 2) lv (.int x :: st)) : XX G M R F cells slots ws pc lv (st) := by
  intro p e s m args below meth c H locs ls hf hP hD hS hl
  exact lv_iload hf.1 hf.2.1 hd (lv_at hl z hz) (k p e s m args below meth c H locs ls hf hP hD hS hl)
theorem XX.lload_n {j : Fin 4} {i : Nat} {x : Int64} (hd : decode M.2.1 pc = .ok (.lload_n j, 1)) (hi : (j : Nat) = i) (z : Nat) (hz : lv[z]? = some (i, .long x)) (k : XX G M R F cells slots ws (pc + 1) lv (.long x :: st)) : XX G M R F cells slots ws pc lv (st) := by
  intro p e s m args below meth c H locs ls hf hP hD hS hl
  exact lv_lload_n hf.1 hf.2.1 hd hi (lv_at hl z hz) (k p e s m args below meth c H locs ls hf hP hD hS hl)
theorem XX.lload {i : Nat} {x : Int64} (hd : decode M.2.1 pc = .ok (.lload i, 2)) (z : Nat) (hz : lv[z]? = some (i, .long x)) (k : XX G M R F cells slots ws (pc + 2) lv (.long x :: st)) : XX G M R F cells slots ws pc lv (st) := by
  intro p e s m args below meth c H locs ls hf hP hD hS hl
  exact lv_lload hf.1 hf.2.1 hd (lv_at hl z hz) (k p e s m args below meth c H locs ls hf hP hD hS hl)
theorem XX.aload_n {j : Fin 4} {i : Nat} {x : Nat} (hd : decode M.2.1 pc = .ok (.aload_n j, 1)) (hi : (j : Nat) = i) (z : Nat) (hz : lv[z]? = some (i, .ref x)) (k : XX G M R F cells slots ws (pc + 1) lv (.ref x :: st)) : XX G M R F cells slots ws pc lv (st) := by
  intro p e s m args below meth c H locs ls hf hP hD hS hl
  exact lv_aload_n hf.1 hf.2.1 hd hi (lv_at hl z hz) (k p e s m args below meth c H locs ls hf hP hD hS hl)
theorem XX.aload {i : Nat} {x : Nat} (hd : decode M.2.1 pc = .ok (.aload i, 2)) (z : Nat) (hz : lv[z]? = some (i, .ref x)) (k : XX G M R F cells slots ws (pc + 2) lv (.ref x :: st)) : XX G M R F cells slots ws pc lv (st) := by
  intro p e s m args below meth c H locs ls hf hP hD hS hl
  exact lv_aload hf.1 hf.2.1 hd (lv_at hl z hz) (k p e s m args below meth c H locs ls hf hP hD hS hl)
theorem XX.istore_n {j : Fin 4} {i : Nat} {x : Int32} {lv2 : List (Nat × Value)} (hd : decode M.2.1 pc = .ok (.istore_n j, 1)) (hi : (j : Nat) = i) (hn : i < M.2.2.1) (h2 : (i, Value.int x) :: lv.filter (fun q => !(q.1 == i) && !(q.1 + 1 == i && q.2.category == 2)) = lv2) (k : XX G M R F cells slots ws (pc + 1) lv2 st) : XX G M R F cells slots ws pc lv (.int x :: st) := by
  intro p e s m args below meth c H locs ls hf hP hD hS hl
  exact lv_istore_n hf.1 hf.2.1 hd hi hl hn h2 (fun ls2 hl2 => k p e s m args below meth c H locs ls2 hf hP hD hS hl2)
theorem XX.istore {i : Nat} {x : Int32} {lv2 : List (Nat × Value)} (hd : decode M.2.1 pc = .ok (.istore i, 2)) (hn : i < M.2.2.1) (h2 : (i, Value.int x) :: lv.filter (fun q => !(q.1 == i) && !(q.1 + 1 == i && q.2.category == 2)) = lv2) (k : XX G M R F cells slots ws (pc + 2) lv2 st) : XX G M R F cells slots ws pc lv (.int x :: st) := by
  intro p e s m args below meth c H locs ls hf hP hD hS hl
  exact lv_istore hf.1 hf.2.1 hd hl hn h2 (fun ls2 hl2 => k p e s m args below meth c H locs ls2 hf hP hD hS hl2)
theorem XX.lstore_n {j : Fin 4} {i : Nat} {x : Int64} {lv2 : List (Nat × Value)} (hd : decode M.2.1 pc = .ok (.lstore_n j, 1)) (hi : (j : Nat) = i) (hn : i + 1 < M.2.2.1) (h2 : (i, Value.long x) :: lv.filter (fun q => !(q.1 == i) && (!(q.1 == i + 1) && !(q.1 + 1 == i && q.2.category == 2))) = lv2) (k : XX G M R F cells slots ws (pc + 1) lv2 st) : XX G M R F cells slots ws pc lv (.long x :: st) := by
  intro p e s m args below meth c H locs ls hf hP hD hS hl
  exact lv_lstore_n hf.1 hf.2.1 hd hi hl hn h2 (fun ls2 hl2 => k p e s m args below meth c H locs ls2 hf hP hD hS hl2)
theorem XX.lstore {i : Nat} {x : Int64} {lv2 : List (Nat × Value)} (hd : decode M.2.1 pc = .ok (.lstore i, 2)) (hn : i + 1 < M.2.2.1) (h2 : (i, Value.long x) :: lv.filter (fun q => !(q.1 == i) && (!(q.1 == i + 1) && !(q.1 + 1 == i && q.2.category == 2))) = lv2) (k : XX G M R F cells slots ws (pc + 2) lv2 st) : XX G M R F cells slots ws pc lv (.long x :: st) := by
  intro p e s m args below meth c H locs ls hf hP hD hS hl
  exact lv_lstore hf.1 hf.2.1 hd hl hn h2 (fun ls2 hl2 => k p e s m args below meth c H locs ls2 hf hP hD hS hl2)
theorem XX.astore_n {j : Fin 4} {i : Nat} {x : Nat} {lv2 : List (Nat × Value)} (hd : decode M.2.1 pc = .ok (.astore_n j, 1)) (hi : (j : Nat) = i) (hn : i < M.2.2.1) (h2 : (i, Value.ref x) :: lv.filter (fun q => !(q.1 == i) && !(q.1 + 1 == i && q.2.category == 2)) = lv2) (k : XX G M R F cells slots ws (pc + 1) lv2 st) : XX G M R F cells slots ws pc lv (.ref x :: st) := by
  intro p e s m args below meth c H locs ls hf hP hD hS hl
  exact lv_astore_n hf.1 hf.2.1 hd hi hl hn h2 (fun ls2 hl2 => k p e s m args below meth c H locs ls2 hf hP hD hS hl2)
theorem XX.astore {i : Nat} {x : Nat} {lv2 : List (Nat × Value)} (hd : decode M.2.1 pc = .ok (.astore i, 2)) (hn : i < M.2.2.1) (h2 : (i, Value.ref x) :: lv.filter (fun q => !(q.1 == i) && !(q.1 + 1 == i && q.2.category == 2)) = lv2) (k : XX G M R F cells slots ws (pc + 2) lv2 st) : XX G M R F cells slots ws pc lv (.ref x :: st) := by
  intro p e s m args below meth c H locs ls hf hP hD hS hl
  exact lv_astore hf.1 hf.2.1 hd hl hn h2 (fun ls2 hl2 => k p e s m args below meth c H locs ls2 hf hP hD hS hl2)
theorem XX.iinc {i z : Nat} {n : Int} {x v : Int32} {lv2 : List (Nat × Value)} (hd : decode M.2.1 pc = .ok (.iinc i n, 3)) (hz : lv[z]? = some (i, .int x)) (hv : x + Int32.ofInt n = v) (hn : i < M.2.2.1) (h2 : (i, Value.int v) :: lv.filter (fun q => !(q.1 == i) && !(q.1 + 1 == i && q.2.category == 2)) = lv2) (k : XX G M R F cells slots ws (pc + 3) lv2 st) : XX G M R F cells slots ws pc lv st := by
  intro p e s m args below meth c H locs ls hf hP hD hS hl
  exact lv_iinc hf.1 hf.2.1 hd hl hz hv hn h2 (fun ls2 hl2 => k p e s m args below meth c H locs ls2 hf hP hD hS hl2)
theorem XX.iadd {x y : Int32} (hd : decode M.2.1 pc = .ok (.iadd, 1))  (k : XX G M R F cells slots ws (pc + 1) lv (.int (x + y) :: st)) : XX G M R F cells slots ws pc lv (.int y :: .int x :: st) := by
  intro p e s m args below meth c H locs ls hf hP hD hS hl
  exact lv_iadd hf.1 hf.2.1 hd  (k p e s m args below meth c H locs ls hf hP hD hS hl)
theorem XX.isub {x y : Int32} (hd : decode M.2.1 pc = .ok (.isub, 1))  (k : XX G M R F cells slots ws (pc + 1) lv (.int (x - y) :: st)) : XX G M R F cells slots ws pc lv (.int y :: .int x :: st) := by
  intro p e s m args below meth c H locs ls hf hP hD hS hl
  exact lv_isub hf.1 hf.2.1 hd  (k p e s m args below meth c H locs ls hf hP hD hS hl)
theorem XX.imul {x y : Int32} (hd : decode M.2.1 pc = .ok (.imul, 1))  (k : XX G M R F cells slots ws (pc + 1) lv (.int (x * y) :: st)) : XX G M R F cells slots ws pc lv (.int y :: .int x :: st) := by
  intro p e s m args below meth c H locs ls hf hP hD hS hl
  exact lv_imul hf.1 hf.2.1 hd  (k p e s m args below meth c H locs ls hf hP hD hS hl)
theorem XX.iand {x y : Int32} (hd : decode M.2.1 pc = .ok (.iand, 1))  (k : XX G M R F cells slots ws (pc + 1) lv (.int (x &&& y) :: st)) : XX G M R F cells slots ws pc lv (.int y :: .int x :: st) := by
  intro p e s m args below meth c H locs ls hf hP hD hS hl
  exact lv_iand hf.1 hf.2.1 hd  (k p e s m args below meth c H locs ls hf hP hD hS hl)
theorem XX.ishl {x y : Int32} (hd : decode M.2.1 pc = .ok (.ishl, 1))  (k : XX G M R F cells slots ws (pc + 1) lv (.int (x <<< (y &&& 31)) :: st)) : XX G M R F cells slots ws pc lv (.int y :: .int x :: st) := by
  intro p e s m args below meth c H locs ls hf hP hD hS hl
  exact lv_ishl hf.1 hf.2.1 hd  (k p e s m args below meth c H locs ls hf hP hD hS hl)
theorem XX.ishr {x y : Int32} (hd : decode M.2.1 pc = .ok (.ishr, 1))  (k : XX G M R F cells slots ws (pc + 1) lv (.int (x >>> (y &&& 31)) :: st)) : XX G M R F cells slots ws pc lv (.int y :: .int x :: st) := by
  intro p e s m args below meth c H locs ls hf hP hD hS hl
  exact lv_ishr hf.1 hf.2.1 hd  (k p e s m args below meth c H locs ls hf hP hD hS hl)
theorem XX.idiv {x y : Int32} (hd : decode M.2.1 pc = .ok (.idiv, 1)) (hne : ¬ y = 0) (k : XX G M R F cells slots ws (pc + 1) lv (.int (x / y) :: st)) : XX G M R F cells slots ws pc lv (.int y :: .int x :: st) := by
  intro p e s m args below meth c H locs ls hf hP hD hS hl
  exact lv_idiv hf.1 hf.2.1 hd hne (k p e s m args below meth c H locs ls hf hP hD hS hl)
theorem XX.irem {x y : Int32} (hd : decode M.2.1 pc = .ok (.irem, 1)) (hne : ¬ y = 0) (k : XX G M R F cells slots ws (pc + 1) lv (.int (x - x / y * y) :: st)) : XX G M R F cells slots ws pc lv (.int y :: .int x :: st) := by
  intro p e s m args below meth c H locs ls hf hP hD hS hl
  exact lv_irem hf.1 hf.2.1 hd hne (k p e s m args below meth c H locs ls hf hP hD hS hl)
theorem XX.ineg {x : Int32} (hd : decode M.2.1 pc = .ok (.ineg, 1))  (k : XX G M R F cells slots ws (pc + 1) lv (.int (-x) :: st)) : XX G M R F cells slots ws pc lv (.int x :: st) := by
  intro p e s m args below meth c H locs ls hf hP hD hS hl
  exact lv_ineg hf.1 hf.2.1 hd  (k p e s m args below meth c H locs ls hf hP hD hS hl)
theorem XX.ladd {x y : Int64} (hd : decode M.2.1 pc = .ok (.ladd, 1))  (k : XX G M R F cells slots ws (pc + 1) lv (.long (x + y) :: st)) : XX G M R F cells slots ws pc lv (.long y :: .long x :: st) := by
  intro p e s m args below meth c H locs ls hf hP hD hS hl
  exact lv_ladd hf.1 hf.2.1 hd  (k p e s m args below meth c H locs ls hf hP hD hS hl)
theorem XX.lsub {x y : Int64} (hd : decode M.2.1 pc = .ok (.lsub, 1))  (k : XX G M R F cells slots ws (pc + 1) lv (.long (x - y) :: st)) : XX G M R F cells slots ws pc lv (.long y :: .long x :: st) := by
  intro p e s m args below meth c H locs ls hf hP hD hS hl
  exact lv_lsub hf.1 hf.2.1 hd  (k p e s m args below meth c H locs ls hf hP hD hS hl)
theorem XX.ldiv {x y : Int64} (hd : decode M.2.1 pc = .ok (.ldiv, 1)) (hne : ¬ y = 0) (k : XX G M R F cells slots ws (pc + 1) lv (.long (x / y) :: st)) : XX G M R F cells slots ws pc lv (.long y :: .long x :: st) := by
  intro p e s m args below meth c H locs ls hf hP hD hS hl
  exact lv_ldiv hf.1 hf.2.1 hd hne (k p e s m args below meth c H locs ls hf hP hD hS hl)
theorem XX.lcmp {x y : Int64} (hd : decode M.2.1 pc = .ok (.lcmp, 1))  (k : XX G M R F cells slots ws (pc + 1) lv (.int (lg_cmp x y) :: st)) : XX G M R F cells slots ws pc lv (.long y :: .long x :: st) := by
  intro p e s m args below meth c H locs ls hf hP hD hS hl
  exact W.lcmp hf.1 hf.2.1 hd  (k p e s m args below meth c H locs ls hf hP hD hS hl)
theorem XX.i2l {x : Int32} {v : Int64} (hd : decode M.2.1 pc = .ok (.i2l, 1)) (hv : x.toInt64 = v) (k : XX G M R F cells slots ws (pc + 1) lv (.long v :: st)) : XX G M R F cells slots ws pc lv (.int x :: st) := by
  intro p e s m args below meth c H locs ls hf hP hD hS hl
  exact lv_i2l hf.1 hf.2.1 hd hv (k p e s m args below meth c H locs ls hf hP hD hS hl)
theorem XX.l2i {x : Int64} {v : Int32} (hd : decode M.2.1 pc = .ok (.l2i, 1)) (hv : x.toInt32 = v) (k : XX G M R F cells slots ws (pc + 1) lv (.int v :: st)) : XX G M R F cells slots ws pc lv (.long x :: st) := by
  intro p e s m args below meth c H locs ls hf hP hD hS hl
  exact lv_l2i hf.1 hf.2.1 hd hv (k p e s m args below meth c H locs ls hf hP hD hS hl)
theorem XX.i2b {x : Int32} {v : Int32} (hd : decode M.2.1 pc = .ok (.i2b, 1)) (hv : x.toInt8.toInt32 = v) (k : XX G M R F cells slots ws (pc + 1) lv (.int v :: st)) : XX G M R F cells slots ws pc lv (.int x :: st) := by
  intro p e s m args below meth c H locs ls hf hP hD hS hl
  exact lv_i2b hf.1 hf.2.1 hd hv (k p e s m args below meth c H locs ls hf hP hD hS hl)
theorem XX.dup {va : Value} (hd : decode M.2.1 pc = .ok (.dup, 1)) (h1 : va.category = 1) (k : XX G M R F cells slots ws (pc + 1) lv (va :: va :: st)) : XX G M R F cells slots ws pc lv (va :: st) := by
  intro p e s m args below meth c H locs ls hf hP hD hS hl
  exact lv_dup hf.1 hf.2.1 hd h1 (k p e s m args below meth c H locs ls hf hP hD hS hl)
theorem XX.pop {va : Value} (hd : decode M.2.1 pc = .ok (.pop, 1)) (h1 : va.category = 1) (k : XX G M R F cells slots ws (pc + 1) lv (st)) : XX G M R F cells slots ws pc lv (va :: st) := by
  intro p e s m args below meth c H locs ls hf hP hD hS hl
  exact lv_pop hf.1 hf.2.1 hd h1 (k p e s m args below meth c H locs ls hf hP hD hS hl)
theorem XX.dup_x1 {va vb : Value} (hd : decode M.2.1 pc = .ok (.dup_x1, 1)) (h1 : va.category = 1) (h2 : vb.category = 1) (k : XX G M R F cells slots ws (pc + 1) lv (va :: vb :: va :: st)) : XX G M R F cells slots ws pc lv (va :: vb :: st) := by
  intro p e s m args below meth c H locs ls hf hP hD hS hl
  exact lv_dup_x1 hf.1 hf.2.1 hd h1 h2 (k p e s m args below meth c H locs ls hf hP hD hS hl)
theorem XX.dup_x2 {va vb vd : Value} (hd : decode M.2.1 pc = .ok (.dup_x2, 1)) (h1 : va.category = 1) (h2 : vb.category = 1) (h3 : vd.category = 1) (k : XX G M R F cells slots ws (pc + 1) lv (va :: vb :: vd :: va :: st)) : XX G M R F cells slots ws pc lv (va :: vb :: vd :: st) := by
  intro p e s m args below meth c H locs ls hf hP hD hS hl
  exact lv_dup_x2 hf.1 hf.2.1 hd h1 h2 h3 (k p e s m args below meth c H locs ls hf hP hD hS hl)
theorem XX.dup2 {va vb : Value} (hd : decode M.2.1 pc = .ok (.dup2, 1)) (h1 : va.category = 1) (h2 : vb.category = 1) (k : XX G M R F cells slots ws (pc + 1) lv (va :: vb :: va :: vb :: st)) : XX G M R F cells slots ws pc lv (va :: vb :: st) := by
  intro p e s m args below meth c H locs ls hf hP hD hS hl
  exact lv_dup2_11 hf.1 hf.2.1 hd h1 h2 (k p e s m args below meth c H locs ls hf hP hD hS hl)
theorem XX.ldc {idx : Nat} {v : Int32} (hd : decode M.2.1 pc = .ok (.ldc idx, 2)) (hw : Cond.constant M.1.cls idx v ∈ xw_g) (k : XX G M R F cells slots ws (pc + 2) lv (.int v :: st)) : XX G M R F cells slots ws pc lv st := by
  intro p e s m args below meth c H locs ls hf hP hD hS hl
  exact lv_ldc hf.1 hf.2.1 hf.2.2.2.2.2.1 (hf.2.2.2.2.2.2.2.2.1 _ hw args) hd (k p e s m args below meth c H locs ls hf hP hD hS hl)
theorem XX.goto {off : Int} {tgt : Nat} (hd : decode M.2.1 pc = .ok (.goto off, 3)) (ht : (pc : Int) + off = (tgt : Int)) (k : XX G M R F cells slots ws tgt lv st) : XX G M R F cells slots ws pc lv st := by
  intro p e s m args below meth c H locs ls hf hP hD hS hl
  exact lv_goto hf.1 hf.2.1 hd ht (k p e s m args below meth c H locs ls hf hP hD hS hl)
theorem XX.icmp_eq {x y : Int32} {off : Int} {tgt : Nat} (hd : decode M.2.1 pc = .ok (.if_icmp .eq off, 3)) (ht : (pc : Int) + off = (tgt : Int)) (kt : x = y → XX G M R F cells slots ws tgt lv st) (kf : ¬ x = y → XX G M R F cells slots ws (pc + 3) lv st) : XX G M R F cells slots ws pc lv (.int y :: .int x :: st) := by
  intro p e s m args below meth c H locs ls hf hP hD hS hl
  exact lv_icmp_eq hf.1 hf.2.1 hd ht (fun h => kt h p e s m args below meth c H locs ls hf hP hD hS hl) (fun h => kf h p e s m args below meth c H locs ls hf hP hD hS hl)
theorem XX.if_eq {x : Int32} {off : Int} {tgt : Nat} (hd : decode M.2.1 pc = .ok (.ifCond .eq off, 3)) (ht : (pc : Int) + off = (tgt : Int)) (kt : x = 0 → XX G M R F cells slots ws tgt lv st) (kf : ¬ x = 0 → XX G M R F cells slots ws (pc + 3) lv st) : XX G M R F cells slots ws pc lv (.int x :: st) := by
  intro p e s m args below meth c H locs ls hf hP hD hS hl
  exact lv_if_eq hf.1 hf.2.1 hd ht (fun h => kt h p e s m args below meth c H locs ls hf hP hD hS hl) (fun h => kf h p e s m args below meth c H locs ls hf hP hD hS hl)
theorem XX.ncmp_eq {a b : Nat} {off : Int} {tgt : Nat} (hd : decode M.2.1 pc = .ok (.if_icmp .eq off, 3)) (ht : (pc : Int) + off = (tgt : Int)) (ha : a < 2 ^ 31) (hb : b < 2 ^ 31) (kt : a = b → XX G M R F cells slots ws tgt lv st) (kf : a ≠ b → XX G M R F cells slots ws (pc + 3) lv st) : XX G M R F cells slots ws pc lv (.int (nI b) :: .int (nI a) :: st) := by
  have z := pk_eq (x := nI a) (y := nI b) a b (A := XX G M R F cells slots ws tgt lv st) (B := XX G M R F cells slots ws (pc + 3) lv st) (fun h => kt h) (fun h => kf h) rfl rfl ha hb
  exact XX.icmp_eq hd ht z.1 z.2
theorem XX.nif_eq {a : Nat} {off : Int} {tgt : Nat} (hd : decode M.2.1 pc = .ok (.ifCond .eq off, 3)) (ht : (pc : Int) + off = (tgt : Int)) (ha : a < 2 ^ 31) (kt : a = 0 → XX G M R F cells slots ws tgt lv st) (kf : 0 < a → XX G M R F cells slots ws (pc + 3) lv st) : XX G M R F cells slots ws pc lv (.int (nI a) :: st) := by
  have z := pk_eq (x := nI a) (y := (0 : Int32)) a 0 (A := XX G M R F cells slots ws tgt lv st) (B := XX G M R F cells slots ws (pc + 3) lv st) (fun h => kt (by omega)) (fun h => kf (by omega)) rfl rfl ha (by decide)
  exact XX.if_eq hd ht z.1 z.2
theorem XX.icmp_ne {x y : Int32} {off : Int} {tgt : Nat} (hd : decode M.2.1 pc = .ok (.if_icmp .ne off, 3)) (ht : (pc : Int) + off = (tgt : Int)) (kt : ¬ x = y → XX G M R F cells slots ws tgt lv st) (kf : x = y → XX G M R F cells slots ws (pc + 3) lv st) : XX G M R F cells slots ws pc lv (.int y :: .int x :: st) := by
  intro p e s m args below meth c H locs ls hf hP hD hS hl
  exact lv_icmp_ne hf.1 hf.2.1 hd ht (fun h => kt h p e s m args below meth c H locs ls hf hP hD hS hl) (fun h => kf h p e s m args below meth c H locs ls hf hP hD hS hl)
theorem XX.if_ne {x : Int32} {off : Int} {tgt : Nat} (hd : decode M.2.1 pc = .ok (.ifCond .ne off, 3)) (ht : (pc : Int) + off = (tgt : Int)) (kt : ¬ x = 0 → XX G M R F cells slots ws tgt lv st) (kf : x = 0 → XX G M R F cells slots ws (pc + 3) lv st) : XX G M R F cells slots ws pc lv (.int x :: st) := by
  intro p e s m args below meth c H locs ls hf hP hD hS hl
  exact lv_if_ne hf.1 hf.2.1 hd ht (fun h => kt h p e s m args below meth c H locs ls hf hP hD hS hl) (fun h => kf h p e s m args below meth c H locs ls hf hP hD hS hl)
theorem XX.ncmp_ne {a b : Nat} {off : Int} {tgt : Nat} (hd : decode M.2.1 pc = .ok (.if_icmp .ne off, 3)) (ht : (pc : Int) + off = (tgt : Int)) (ha : a < 2 ^ 31) (hb : b < 2 ^ 31) (kt : a ≠ b → XX G M R F cells slots ws tgt lv st) (kf : a = b → XX G M R F cells slots ws (pc + 3) lv st) : XX G M R F cells slots ws pc lv (.int (nI b) :: .int (nI a) :: st) := by
  have z := pk_eq (x := nI a) (y := nI b) a b (A := XX G M R F cells slots ws (pc + 3) lv st) (B := XX G M R F cells slots ws tgt lv st) (fun h => kf h) (fun h => kt h) rfl rfl ha hb
  exact XX.icmp_ne hd ht z.2 z.1
theorem XX.nif_ne {a : Nat} {off : Int} {tgt : Nat} (hd : decode M.2.1 pc = .ok (.ifCond .ne off, 3)) (ht : (pc : Int) + off = (tgt : Int)) (ha : a < 2 ^ 31) (kt : 0 < a → XX G M R F cells slots ws tgt lv st) (kf : a = 0 → XX G M R F cells slots ws (pc + 3) lv st) : XX G M R F cells slots ws pc lv (.int (nI a) :: st) := by
  have z := pk_eq (x := nI a) (y := (0 : Int32)) a 0 (A := XX G M R F cells slots ws (pc + 3) lv st) (B := XX G M R F cells slots ws tgt lv st) (fun h => kf (by omega)) (fun h => kt (by omega)) rfl rfl ha (by decide)
  exact XX.if_ne hd ht z.2 z.1
theorem XX.icmp_lt {x y : Int32} {off : Int} {tgt : Nat} (hd : decode M.2.1 pc = .ok (.if_icmp .lt off, 3)) (ht : (pc : Int) + off = (tgt : Int)) (kt : x < y → XX G M R F cells slots ws tgt lv st) (kf : ¬ x < y → XX G M R F cells slots ws (pc + 3) lv st) : XX G M R F cells slots ws pc lv (.int y :: .int x :: st) := by
  intro p e s m args below meth c H locs ls hf hP hD hS hl
  exact lv_icmp_lt hf.1 hf.2.1 hd ht (fun h => kt h p e s m args below meth c H locs ls hf hP hD hS hl) (fun h => kf h p e s m args below meth c H locs ls hf hP hD hS hl)
theorem XX.if_lt {x : Int32} {off : Int} {tgt : Nat} (hd : decode M.2.1 pc = .ok (.ifCond .lt off, 3)) (ht : (pc : Int) + off = (tgt : Int)) (kt : x < 0 → XX G M R F cells slots ws tgt lv st) (kf : ¬ x < 0 → XX G M R F cells slots ws (pc + 3) lv st) : XX G M R F cells slots ws pc lv (.int x :: st) := by
  intro p e s m args below meth c H locs ls hf hP hD hS hl
  exact lv_if_lt hf.1 hf.2.1 hd ht (fun h => kt h p e s m args below meth c H locs ls hf hP hD hS hl) (fun h => kf h p e s m args below meth c H locs ls hf hP hD hS hl)
theorem XX.ncmp_lt {a b : Nat} {off : Int} {tgt : Nat} (hd : decode M.2.1 pc = .ok (.if_icmp .lt off, 3)) (ht : (pc : Int) + off = (tgt : Int)) (ha : a < 2 ^ 31) (hb : b < 2 ^ 31) (kt : a < b → XX G M R F cells slots ws tgt lv st) (kf : b ≤ a → XX G M R F cells slots ws (pc + 3) lv st) : XX G M R F cells slots ws pc lv (.int (nI b) :: .int (nI a) :: st) := by
  have z := pk_lt (x := nI a) (y := nI b) a b (A := XX G M R F cells slots ws tgt lv st) (B := XX G M R F cells slots ws (pc + 3) lv st) (fun h => kt h) (fun h => kf h) rfl rfl ha hb
  exact XX.icmp_lt hd ht z.1 z.2
theorem XX.icmp_ge {x y : Int32} {off : Int} {tgt : Nat} (hd : decode M.2.1 pc = .ok (.if_icmp .ge off, 3)) (ht : (pc : Int) + off = (tgt : Int)) (kt : y ≤ x → XX G M R F cells slots ws tgt lv st) (kf : ¬ y ≤ x → XX G M R F cells slots ws (pc + 3) lv st) : XX G M R F cells slots ws pc lv (.int y :: .int x :: st) := by
  intro p e s m args below meth c H locs ls hf hP hD hS hl
  exact lv_icmp_ge hf.1 hf.2.1 hd ht (fun h => kt h p e s m args below meth c H locs ls hf hP hD hS hl) (fun h => kf h p e s m args below meth c H locs ls hf hP hD hS hl)
theorem XX.if_ge {x : Int32} {off : Int} {tgt : Nat} (hd : decode M.2.1 pc = .ok (.ifCond .ge off, 3)) (ht : (pc : Int) + off = (tgt : Int)) (kt : 0 ≤ x → XX G M R F cells slots ws tgt lv st) (kf : ¬ 0 ≤ x → XX G M R F cells slots ws (pc + 3) lv st) : XX G M R F cells slots ws pc lv (.int x :: st) := by
  intro p e s m args below meth c H locs ls hf hP hD hS hl
  exact lv_if_ge hf.1 hf.2.1 hd ht (fun h => kt h p e s m args below meth c H locs ls hf hP hD hS hl) (fun h => kf h p e s m args below meth c H locs ls hf hP hD hS hl)
theorem XX.ncmp_ge {a b : Nat} {off : Int} {tgt : Nat} (hd : decode M.2.1 pc = .ok (.if_icmp .ge off, 3)) (ht : (pc : Int) + off = (tgt : Int)) (ha : a < 2 ^ 31) (hb : b < 2 ^ 31) (kt : b ≤ a → XX G M R F cells slots ws tgt lv st) (kf : a < b → XX G M R F cells slots ws (pc + 3) lv st) : XX G M R F cells slots ws pc lv (.int (nI b) :: .int (nI a) :: st) := by
  have z := pk_le (x := nI b) (y := nI a) b a (A := XX G M R F cells slots ws tgt lv st) (B := XX G M R F cells slots ws (pc + 3) lv st) (fun h => kt h) (fun h => kf h) rfl rfl hb ha
  exact XX.icmp_ge hd ht z.1 z.2
theorem XX.icmp_gt {x y : Int32} {off : Int} {tgt : Nat} (hd : decode M.2.1 pc = .ok (.if_icmp .gt off, 3)) (ht : (pc : Int) + off = (tgt : Int)) (kt : y < x → XX G M R F cells slots ws tgt lv st) (kf : ¬ y < x → XX G M R F cells slots ws (pc + 3) lv st) : XX G M R F cells slots ws pc lv (.int y :: .int x :: st) := by
  intro p e s m args below meth c H locs ls hf hP hD hS hl
  exact lv_icmp_gt hf.1 hf.2.1 hd ht (fun h => kt h p e s m args below meth c H locs ls hf hP hD hS hl) (fun h => kf h p e s m args below meth c H locs ls hf hP hD hS hl)
theorem XX.if_gt {x : Int32} {off : Int} {tgt : Nat} (hd : decode M.2.1 pc = .ok (.ifCond .gt off, 3)) (ht : (pc : Int) + off = (tgt : Int)) (kt : 0 < x → XX G M R F cells slots ws tgt lv st) (kf : ¬ 0 < x → XX G M R F cells slots ws (pc + 3) lv st) : XX G M R F cells slots ws pc lv (.int x :: st) := by
  intro p e s m args below meth c H locs ls hf hP hD hS hl
  exact lv_if_gt hf.1 hf.2.1 hd ht (fun h => kt h p e s m args below meth c H locs ls hf hP hD hS hl) (fun h => kf h p e s m args below meth c H locs ls hf hP hD hS hl)
theorem XX.ncmp_gt {a b : Nat} {off : Int} {tgt : Nat} (hd : decode M.2.1 pc = .ok (.if_icmp .gt off, 3)) (ht : (pc : Int) + off = (tgt : Int)) (ha : a < 2 ^ 31) (hb : b < 2 ^ 31) (kt : b < a → XX G M R F cells slots ws tgt lv st) (kf : a ≤ b → XX G M R F cells slots ws (pc + 3) lv st) : XX G M R F cells slots ws pc lv (.int (nI b) :: .int (nI a) :: st) := by
  have z := pk_lt (x := nI b) (y := nI a) b a (A := XX G M R F cells slots ws tgt lv st) (B := XX G M R F cells slots ws (pc + 3) lv st) (fun h => kt h) (fun h => kf h) rfl rfl hb ha
  exact XX.icmp_gt hd ht z.1 z.2
theorem XX.nif_gt {a : Nat} {off : Int} {tgt : Nat} (hd : decode M.2.1 pc = .ok (.ifCond .gt off, 3)) (ht : (pc : Int) + off = (tgt : Int)) (ha : a < 2 ^ 31) (kt : 0 < a → XX G M R F cells slots ws tgt lv st) (kf : a = 0 → XX G M R F cells slots ws (pc + 3) lv st) : XX G M R F cells slots ws pc lv (.int (nI a) :: st) := by
  have z := pk_lt (x := (0 : Int32)) (y := nI a) 0 a (A := XX G M R F cells slots ws tgt lv st) (B := XX G M R F cells slots ws (pc + 3) lv st) (fun h => kt (by omega)) (fun h => kf (by omega)) rfl rfl (by decide) ha
  exact XX.if_gt hd ht z.1 z.2
theorem XX.icmp_le {x y : Int32} {off : Int} {tgt : Nat} (hd : decode M.2.1 pc = .ok (.if_icmp .le off, 3)) (ht : (pc : Int) + off = (tgt : Int)) (kt : x ≤ y → XX G M R F cells slots ws tgt lv st) (kf : ¬ x ≤ y → XX G M R F cells slots ws (pc + 3) lv st) : XX G M R F cells slots ws pc lv (.int y :: .int x :: st) := by
  intro p e s m args below meth c H locs ls hf hP hD hS hl
  exact lv_icmp_le hf.1 hf.2.1 hd ht (fun h => kt h p e s m args below meth c H locs ls hf hP hD hS hl) (fun h => kf h p e s m args below meth c H locs ls hf hP hD hS hl)
theorem XX.if_le {x : Int32} {off : Int} {tgt : Nat} (hd : decode M.2.1 pc = .ok (.ifCond .le off, 3)) (ht : (pc : Int) + off = (tgt : Int)) (kt : x ≤ 0 → XX G M R F cells slots ws tgt lv st) (kf : ¬ x ≤ 0 → XX G M R F cells slots ws (pc + 3) lv st) : XX G M R F cells slots ws pc lv (.int x :: st) := by
  intro p e s m args below meth c H locs ls hf hP hD hS hl
  exact lv_if_le hf.1 hf.2.1 hd ht (fun h => kt h p e s m args below meth c H locs ls hf hP hD hS hl) (fun h => kf h p e s m args below meth c H locs ls hf hP hD hS hl)
theorem XX.ncmp_le {a b : Nat} {off : Int} {tgt : Nat} (hd : decode M.2.1 pc = .ok (.if_icmp .le off, 3)) (ht : (pc : Int) + off = (tgt : Int)) (ha : a < 2 ^ 31) (hb : b < 2 ^ 31) (kt : a ≤ b → XX G M R F cells slots ws tgt lv st) (kf : b < a → XX G M R F cells slots ws (pc + 3) lv st) : XX G M R F cells slots ws pc lv (.int (nI b) :: .int (nI a) :: st) := by
  have z := pk_le (x := nI a) (y := nI b) a b (A := XX G M R F cells slots ws tgt lv st) (B := XX G M R F cells slots ws (pc + 3) lv st) (fun h => kt h) (fun h => kf h) rfl rfl ha hb
  exact XX.icmp_le hd ht z.1 z.2
theorem XX.nif_le {a : Nat} {off : Int} {tgt : Nat} (hd : decode M.2.1 pc = .ok (.ifCond .le off, 3)) (ht : (pc : Int) + off = (tgt : Int)) (ha : a < 2 ^ 31) (kt : a = 0 → XX G M R F cells slots ws tgt lv st) (kf : 0 < a → XX G M R F cells slots ws (pc + 3) lv st) : XX G M R F cells slots ws pc lv (.int (nI a) :: st) := by
  have z := pk_le (x := nI a) (y := (0 : Int32)) a 0 (A := XX G M R F cells slots ws tgt lv st) (B := XX G M R F cells slots ws (pc + 3) lv st) (fun h => kt (by omega)) (fun h => kf (by omega)) rfl rfl ha (by decide)
  exact XX.if_le hd ht z.1 z.2
theorem XX.tabIn {dflt lo hi : Int} {offs : Array Int} {len : Nat} {x : Int32} {off : Int} {tgt : Nat} (hd : decode M.2.1 pc = .ok (.tableswitch dflt lo hi offs, len)) (h1 : ¬ x.toInt < lo) (h2 : ¬ hi < x.toInt) (ho : offs[(x.toInt - lo).toNat]? = some off) (ht : (pc : Int) + off = (tgt : Int)) (k : XX G M R F cells slots ws tgt lv st) : XX G M R F cells slots ws pc lv (.int x :: st) := by
  intro p e s m args below meth c H locs ls hf hP hD hS hl
  exact lv_tableIn hf.1 hf.2.1 hd h1 h2 ho ht (k p e s m args below meth c H locs ls hf hP hD hS hl)
theorem XX.tabOut {dflt lo hi : Int} {offs : Array Int} {len : Nat} {x : Int32} {tgt : Nat} (hd : decode M.2.1 pc = .ok (.tableswitch dflt lo hi offs, len)) (h : x.toInt < lo ∨ hi < x.toInt) (ht : (pc : Int) + dflt = (tgt : Int)) (k : XX G M R F cells slots ws tgt lv st) : XX G M R F cells slots ws pc lv (.int x :: st) := by
  intro p e s m args below meth c H locs ls hf hP hD hS hl
  exact lv_tableOut hf.1 hf.2.1 hd h ht (k p e s m args below meth c H locs ls hf hP hD hS hl)
theorem XX.tp {x y : Int32} (h : x = y) (k : XX G M R F cells slots ws pc lv (.int y :: st)) : XX G M R F cells slots ws pc lv (.int x :: st) := by rw [h]; exact k
theorem XX.cg {ws2 : va_W} {lv2 : List (Nat × Value)} {st2 : List Value} (h1 : ws = ws2) (h2 : lv = lv2) (h3 : st = st2) (k : XX G M R F cells slots ws2 pc lv2 st2) : XX G M R F cells slots ws pc lv st := by rw [h1, h2, h3]; exact k
/-- fewer locals -/
theorem XX.lvs {lv2 : List (Nat × Value)} (is : List Nat) (h : lv_pick lv is = lv2) (k : XX G M R F cells slots ws pc lv2 st) : XX G M R F cells slots ws pc lv st := by
  intro p e s m args below meth c H locs ls hf hP hD hS hl
  exact k p e s m args below meth c H locs ls hf hP hD hS (lv_sub hl is h)
/-- another world: a part, or in another order -/
theorem XX.sub {ws2 : va_W} (is : List Nat) (h1 : is.filterMap (fun i => ws[i]?) = ws2) (hn : va_nd is = true) (h2 : is.map (fun i => ws[i]?) = ws2.map some) (k : XX G M R F cells slots ws2 pc lv st) : XX G M R F cells slots ws pc lv st := by
  intro p e s m args below meth c H locs ls hf hP hD hS hl
  exact k p e s m args below meth c H locs ls hf (hP.sub is h1) (hD.sub is hn h2) hS hl
theorem XX.wm {ws2 : va_W} (h1 : ∀ H : Heap, va_P G.1 xc_cl ws H → va_P G.1 xc_cl ws2 H) (h2 : va_D (xg_A G) ws → va_D (xg_A G) ws2) (k : XX G M R F cells slots ws2 pc lv st) : XX G M R F cells slots ws pc lv st := by
  intro p e s m args below meth c H locs ls hf hP hD hS hl
  exact k p e s m args below meth c H locs ls hf (h1 H hP) (h2 hD) hS hl
theorem XX.apart {a b : Nat} {q0 q1 : Nat} {x y : va_E} (h0 : ws[q0]? = some (a, x)) (h1 : ws[q1]? = some (b, y)) (hne : q0 ≠ q1) (k : a ≠ b → XX G M R F cells slots ws pc lv st) : XX G M R F cells slots ws pc lv st := by
  intro p e s m args below meth c H locs ls hf hP hD hS hl
  exact k (fun h => hne (hD.1 q0 q1 _ _ h0 h1 h)) p e s m args below meth c H locs ls hf hP hD hS hl
theorem XX.widen {c2 s2 : Nat} (h1 : cells ≤ c2) (h2 : slots ≤ s2) (k : XX G M R F c2 s2 ws pc lv st) : XX G M R F cells slots ws pc lv st := by
  intro p e s m args below meth c H locs ls hf hP hD hS hl
  exact W.widen h1 h2 (k p e s m args below meth c H locs ls hf hP hD hS hl)
theorem XX.get {idx ci f q0 a : Nat} {fs : List Value} {v : Value} (hl0 : xx_fl M.1.cls idx ci f) (hd : decode M.2.1 pc = .ok (.getfield idx, 3)) (he : ws[q0]? = some (a, .inr (ci, fs))) (hv : fs[f]? = some v) (k : XX G M R F cells slots ws (pc + 3) lv (v :: st)) : XX G M R F cells slots ws pc lv (.ref a :: st) := by
  intro p e s m args below meth c H locs ls hf hP hD hS hl
  obtain ⟨C, T, N, ty, hcf, hk, hlk⟩ := hl0
  have hen := hf.2.2.2.2.2.2.2.2
  have hts : ∀ w ∈ xw_g, w.before args s = true := fun w h => hen.1 w h args
  rcases hlk with hlk | ⟨host, hlk⟩
  · exact va_get (D := G.1) hf.1 hf.2.1 hts hcf.2.1 hf.2.2.2.2.2.1 hen.2.2 hP q0 he hcf.1 f hk (hts _ hlk) (fun _ h => h) hv hd (k p e s m args below meth c H locs ls hf hP hD hS hl)
  · exact va_getN (D := G.1) hf.1 hf.2.1 hts hcf.2.1 hf.2.2.2.2.2.1 hen.2.2 hP q0 he hcf.1 f hk (va_Nw.use rfl (hen.2.1.1 _ hlk)) (fun _ h => h) hv hd (k p e s m args below meth c H locs ls hf hP hD hS hl)
theorem XX.put {idx ci f q0 a : Nat} {fs : List Value} {t : FieldType} {v : Value} {ws2 : va_W} (hl0 : xx_fp M.1.cls idx ci f t) (hd : decode M.2.1 pc = .ok (.putfield idx, 3)) (he : ws[q0]? = some (a, .inr (ci, fs))) (hn : narrow t v = v) (hfit : fits t v = true) (hlt : f < fs.length) (h2 : ws.set q0 (a, .inr (ci, fs.set f v)) = ws2) (k : XX G M R F cells slots ws2 (pc + 3) lv st) : XX G M R F cells slots ws pc lv (v :: .ref a :: st) := by
  intro p e s m args below meth c H locs ls hf hP hD hS hl
  subst h2
  obtain ⟨C, T, N, ty, hcf, hk, hfin, htt, hlk⟩ := hl0
  have hen := hf.2.2.2.2.2.2.2.2
  have hts : ∀ w ∈ xw_g, w.before args s = true := fun w h => hen.1 w h args
  rcases hlk with hlk | ⟨host, hlk⟩
  · exact va_put (D := G.1) hf.1 hf.2.1 hts hcf.2.1 ty hcf.2.2.1 hcf.2.2.2 hf.2.2.2.2.2.1 hen.2.2 hP hD hS q0 he hcf.1 f hk (hts _ hlk) (fun _ h => h) hfin htt hn hfit hlt hd (fun H1 locs1 hP1 hD1 hS1 => k p e s m args below meth c H1 locs1 ls hf hP1 hD1 hS1 hl)
  · exact va_putN (D := G.1) hf.1 hf.2.1 hts hcf.2.1 ty hcf.2.2.1 hcf.2.2.2 hf.2.2.2.2.2.1 hen.2.2 hP hD hS q0 he hcf.1 f hk (va_Nw.use rfl (hen.2.1.1 _ hlk)) (fun _ h => h) hfin htt hn hfit hlt hd (fun H1 locs1 hP1 hD1 hS1 => k p e s m args below meth c H1 locs1 ls hf hP1 hD1 hS1 hl)
theorem XX.putF {idx ci f q0 a : Nat} {fs : List Value} {t : FieldType} {v : Value} {ws2 : va_W} (hl0 : xx_ff M.1.cls idx ci f t) (hin : M.1.name = "<init>") (hd : decode M.2.1 pc = .ok (.putfield idx, 3)) (he : ws[q0]? = some (a, .inr (ci, fs))) (hn : narrow t v = v) (hfit : fits t v = true) (hlt : f < fs.length) (h2 : ws.set q0 (a, .inr (ci, fs.set f v)) = ws2) (k : XX G M R F cells slots ws2 (pc + 3) lv st) : XX G M R F cells slots ws pc lv (v :: .ref a :: st) := by
  intro p e s m args below meth c H locs ls hf hP hD hS hl
  subst h2
  obtain ⟨C, T, N, ty, hcf, hk, hfin, hown, htt, hlk⟩ := hl0
  have hen := hf.2.2.2.2.2.2.2.2
  have hts : ∀ w ∈ xw_g, w.before args s = true := fun w h => hen.1 w h args
  have hin9 : meth.name = "<init>" := by
    rcases hf.2.2.2.2.2.2.1 with h | h
    · exact h.1.trans hin
    · rw [hin] at h; exact absurd h (by decide)
  exact va_putF (D := G.1) hf.1 hf.2.1 hts hcf.2.1 ty hcf.2.2.1 hcf.2.2.2 hf.2.2.2.2.2.1 hen.2.2 hP hD hS q0 he hcf.1 f hk (hts _ hlk) (fun _ h => h) hfin hin9 hown htt hn hfit hlt hd (fun H1 locs1 hP1 hD1 hS1 => k p e s m args below meth c H1 locs1 ls hf hP1 hD1 hS1 hl)
theorem XX.new {idx ci N : Nat} {fs : List Value} (h0 : xx_nw M.1.cls idx ci fs N) (hd : decode M.2.1 pc = .ok (.new idx, 3)) (hc : cells + 1 ≤ R.cells ∧ slots + N ≤ R.slots) (k : ∀ q : Nat, XX G M R F (cells + 1) (slots + N) (ws ++ [(q, .inr (ci, fs))]) (pc + 3) lv (.ref q :: st)) : XX G M R F cells slots ws pc lv st := by
  intro p e s m args below meth c H locs ls hf hP hD hS hl
  obtain ⟨C, T, ty, hcf, h1, h2, h3, h4⟩ := h0
  have hen := hf.2.2.2.2.2.2.2.2
  have hts : ∀ w ∈ xw_g, w.before args s = true := fun w h => hen.1 w h args
  exact va_new (D := G.1) hf.1 hf.2.1 hts hcf.2.1 ty hcf.2.2.1 hf.2.2.2.2.2.1 (hts _ h1) (hts _ h2) (hts _ h3) hen.2.2 hP hD hS (fun q h => Nat.le_trans hf.2.2.2.2.2.2.2.1 h) hcf.1 h4 hc.1 hc.2 hd (fun q H1 hP1 hD1 hS1 => k q p e s m args below meth c H1 locs ls hf hP1 hD1 hS1 hl)
theorem XX.iald {q0 a n j : Nat} {f : Nat → Int32} (hd : decode M.2.1 pc = .ok (.iaload, 1)) (he : ws[q0]? = some (a, .inl (G.2.1 1, n, .inl f))) (hj : j < n) (hn : n < 2 ^ 31) (k : XX G M R F cells slots ws (pc + 1) lv (.int (f j) :: st)) : XX G M R F cells slots ws pc lv (.int (nI j) :: .ref a :: st) := by
  intro p e s m args below meth c H locs ls hf hP hD hS hl
  refine va_iald (D := G.1) hf.1 hf.2.1 hf.2.2.2.2.2.2.2.2.2.2 hP q0 1 he rfl (pk_in j n hj rfl hn) hd ?_
  rw [pk_cl j rfl (by omega)]
  exact k p e s m args below meth c H locs ls hf hP hD hS hl
theorem XX.bald {q0 a n j : Nat} {f : Nat → Int32} (hd : decode M.2.1 pc = .ok (.baload, 1)) (he : ws[q0]? = some (a, .inl (G.2.1 0, n, .inl f))) (hj : j < n) (hn : n < 2 ^ 31) (k : XX G M R F cells slots ws (pc + 1) lv (.int (f j) :: st)) : XX G M R F cells slots ws pc lv (.int (nI j) :: .ref a :: st) := by
  intro p e s m args below meth c H locs ls hf hP hD hS hl
  refine va_bald (D := G.1) hf.1 hf.2.1 hf.2.2.2.2.2.2.2.2.2.2 hP q0 0 he rfl (pk_in j n hj rfl hn) hd ?_
  rw [pk_cl j rfl (by omega)]
  exact k p e s m args below meth c H locs ls hf hP hD hS hl
theorem XX.lald {q0 a n j : Nat} {f : Nat → Int64} (hd : decode M.2.1 pc = .ok (.laload, 1)) (he : ws[q0]? = some (a, .inl (G.2.1 2, n, .inr (.inl f)))) (hj : j < n) (hn : n < 2 ^ 31) (k : XX G M R F cells slots ws (pc + 1) lv (.long (f j) :: st)) : XX G M R F cells slots ws pc lv (.int (nI j) :: .ref a :: st) := by
  intro p e s m args below meth c H locs ls hf hP hD hS hl
  refine va_lald (D := G.1) hf.1 hf.2.1 hf.2.2.2.2.2.2.2.2.2.2 hP q0 2 he rfl (pk_in j n hj rfl hn) hd ?_
  rw [pk_cl j rfl (by omega)]
  exact k p e s m args below meth c H locs ls hf hP hD hS hl
theorem XX.iast {q0 a n j : Nat} {f : Nat → Int32} {x : Int32} {ws2 : va_W} (hd : decode M.2.1 pc = .ok (.iastore, 1)) (he : ws[q0]? = some (a, .inl (G.2.1 1, n, .inl f))) (hj : j < n) (hn : n < 2 ^ 31) (h2 : ws.set q0 (a, .inl (G.2.1 1, n, .inl (upd f j x))) = ws2) (k : XX G M R F cells slots ws2 (pc + 1) lv st) : XX G M R F cells slots ws pc lv (.int x :: .int (nI j) :: .ref a :: st) := by
  intro p e s m args below meth c H locs ls hf hP hD hS hl
  subst h2
  refine va_iast (D := G.1) hf.1 hf.2.1 hf.2.2.2.2.2.2.2.2.2.2 hP hD hS q0 1 he rfl (pk_in j n hj rfl hn) hd ?_
  rw [pk_cl j rfl (by omega)]
  exact (fun H1 locs1 hP1 hD1 hS1 => k p e s m args below meth c H1 locs1 ls hf hP1 hD1 hS1 hl)
theorem XX.bast {q0 a n j : Nat} {f : Nat → Int32} {x : Int32} {ws2 : va_W} (hd : decode M.2.1 pc = .ok (.bastore, 1)) (he : ws[q0]? = some (a, .inl (G.2.1 0, n, .inl f))) (hj : j < n) (hn : n < 2 ^ 31) (h2 : ws.set q0 (a, .inl (G.2.1 0, n, .inl (upd f j (vp_nar .byte x)))) = ws2) (k : XX G M R F cells slots ws2 (pc + 1) lv st) : XX G M R F cells slots ws pc lv (.int x :: .int (nI j) :: .ref a :: st) := by
  intro p e s m args below meth c H locs ls hf hP hD hS hl
  subst h2
  refine va_bast (D := G.1) hf.1 hf.2.1 hf.2.2.2.2.2.2.2.2.2.2 hP hD hS q0 0 he rfl (pk_in j n hj rfl hn) hd ?_
  rw [pk_cl j rfl (by omega)]
  exact (fun H1 locs1 hP1 hD1 hS1 => k p e s m args below meth c H1 locs1 ls hf hP1 hD1 hS1 hl)
theorem XX.last {q0 a n j : Nat} {f : Nat → Int64} {x : Int64} {ws2 : va_W} (hd : decode M.2.1 pc = .ok (.lastore, 1)) (he : ws[q0]? = some (a, .inl (G.2.1 2, n, .inr (.inl f)))) (hj : j < n) (hn : n < 2 ^ 31) (h2 : ws.set q0 (a, .inl (G.2.1 2, n, .inr (.inl (vp_updL f j x)))) = ws2) (k : XX G M R F cells slots ws2 (pc + 1) lv st) : XX G M R F cells slots ws pc lv (.long x :: .int (nI j) :: .ref a :: st) := by
  intro p e s m args below meth c H locs ls hf hP hD hS hl
  subst h2
  refine va_last (D := G.1) hf.1 hf.2.1 hf.2.2.2.2.2.2.2.2.2.2 hP hD hS q0 2 he rfl (pk_in j n hj rfl hn) hd ?_
  rw [pk_cl j rfl (by omega)]
  exact (fun H1 locs1 hP1 hD1 hS1 => k p e s m args below meth c H1 locs1 ls hf hP1 hD1 hS1 hl)
theorem XX.aald {q0 a n j : Nat} {f : Nat → Option Nat} (hd : decode M.2.1 pc = .ok (.aaload, 1)) (he : ws[q0]? = some (a, .inl (G.2.1 3, n, .inr (.inr (.inr (.inr f)))))) (hj : j < n) (hn : n < 2 ^ 31) (k : XX G M R F cells slots ws (pc + 1) lv (va_rf (f j) :: st)) : XX G M R F cells slots ws pc lv (.int (nI j) :: .ref a :: st) := by
  intro p e s m args below meth c H locs ls hf hP hD hS hl
  refine va_aldq (D := G.1) hf.1 hf.2.1 hf.2.2.2.2.2.2.2.2.2.2 hP q0 3 he rfl (pk_in j n hj rfl hn) hd ?_
  rw [pk_cl j rfl (by omega)]
  exact k p e s m args below meth c H locs ls hf hP hD hS hl
theorem XX.aast {q0 qk a n j v : Nat} {vs : List Value} {f : Nat → Option Nat} {r : vw_C} {ws2 : va_W} {ci : Nat} (hd : decode M.2.1 pc = .ok (.aastore, 1)) (he : ws[q0]? = some (a, .inl (G.2.1 3, n, .inr (.inr (.inr (.inr f)))))) (hv : ws[qk]? = some (v, .inr (ci, vs))) (hc : xc_cl[ci]? = some r) (hr : r.1 = "LineSorter$Key") (hj : j < n) (hn : n < 2 ^ 31) (h2 : ws.set q0 (a, .inl (G.2.1 3, n, .inr (.inr (.inr (.inr (va_up f j (some v))))))) = ws2) (k : XX G M R F cells slots ws2 (pc + 1) lv st) : XX G M R F cells slots ws pc lv (.ref v :: .int (nI j) :: .ref a :: st) := by
  intro p e s m args below meth c H locs ls hf hP hD hS hl
  subst h2
  refine va_astq (D := G.1) (r := r) (v := v) hf.1 hf.2.1 hf.2.2.2.2.2.2.2.2.2.2 hP hD hS q0 3 qk ci he (by rw [hr]; rfl) hv hc (pk_in j n hj rfl hn) hd ?_
  rw [pk_cl j rfl (by omega)]
  exact (fun H1 locs1 hP1 hD1 hS1 => k p e s m args below meth c H1 locs1 ls hf hP1 hD1 hS1 hl)
theorem XX.alen {q0 a t0 : Nat} {x : vp_A} {ty : FieldType} (hd : decode M.2.1 pc = .ok (.arraylength, 1)) (he : ws[q0]? = some (a, .inl (G.2.1 t0, x))) (ht : (xg_ty G)[t0]? = some (G.2.1 t0, ty)) (k : XX G M R F cells slots ws (pc + 1) lv (.int (nI x.1) :: st)) : XX G M R F cells slots ws pc lv (.ref a :: st) := by
  intro p e s m args below meth c H locs ls hf hP hD hS hl
  exact va_alen (D := G.1) hf.1 hf.2.1 hf.2.2.2.2.2.2.2.2.2.2 hP q0 t0 he ht rfl hd (k p e s m args below meth c H locs ls hf hP hD hS hl)
theorem XX.newI {n : Nat} (hd : decode M.2.1 pc = .ok (.newarray .int, 2)) (hw : Cond.arrayClass .int ∈ xw_g) (hn : n < 60000000) (hc : cells + 1 ≤ R.cells ∧ slots + n ≤ R.slots) (k : ∀ q : Nat, XX G M R F (cells + 1) (slots + n) (ws ++ [(q, .inl (G.2.1 1, n, .inl (fun _ => 0)))]) (pc + 2) lv (.ref q :: st)) : XX G M R F cells slots ws pc lv (.int (nI n) :: st) := by
  intro p e s m args below meth c H locs ls hf hP hD hS hl
  have hen := hf.2.2.2.2.2.2.2.2
  have hts : ∀ w ∈ xw_g, w.before args s = true := fun w h => hen.1 w h args
  refine va_newa (D := G.1) (atype := .int) (ty := .int) (a0 := (n, .inl (fun _ => 0))) hf.1 hf.2.1 (hts _ hw) rfl hen.2.2 hP hD hS (fun q h => Nat.le_trans hf.2.2.2.2.2.2.2.1 h) (fun _ => rfl) (nI_pos (by omega)) (nI_clamp (by omega)) (by show n * 4 ≤ _; omega) hc.1 hc.2 hd (fun q cA H1 hK1 hP1 hD1 hS1 => ?_)
  have e1 : s.vm.findClass ("[" ++ FieldType.toString .int) = some cA := (hK1.2 4 _ rfl).2
  have e2 : s.vm.findClass ("[" ++ FieldType.toString .int) = some (G.2.1 1) := (hen.2.2.2 1 _ rfl).2
  have e3 : cA = G.2.1 1 := Option.some.inj (e1.symm.trans e2)
  subst e3
  exact k q p e s m args below meth c H1 locs ls hf hP1 hD1 hS1 hl
theorem XX.newB {n : Nat} (hd : decode M.2.1 pc = .ok (.newarray .byte, 2)) (hw : Cond.arrayClass .byte ∈ xw_g) (hn : n < 60000000) (hc : cells + 1 ≤ R.cells ∧ slots + n ≤ R.slots) (k : ∀ q : Nat, XX G M R F (cells + 1) (slots + n) (ws ++ [(q, .inl (G.2.1 0, n, .inl (fun _ => 0)))]) (pc + 2) lv (.ref q :: st)) : XX G M R F cells slots ws pc lv (.int (nI n) :: st) := by
  intro p e s m args below meth c H locs ls hf hP hD hS hl
  have hen := hf.2.2.2.2.2.2.2.2
  have hts : ∀ w ∈ xw_g, w.before args s = true := fun w h => hen.1 w h args
  refine va_newa (D := G.1) (atype := .byte) (ty := .byte) (a0 := (n, .inl (fun _ => 0))) hf.1 hf.2.1 (hts _ hw) rfl hen.2.2 hP hD hS (fun q h => Nat.le_trans hf.2.2.2.2.2.2.2.1 h) (fun _ => rfl) (nI_pos (by omega)) (nI_clamp (by omega)) (by show n * 1 ≤ _; omega) hc.1 hc.2 hd (fun q cA H1 hK1 hP1 hD1 hS1 => ?_)
  have e1 : s.vm.findClass ("[" ++ FieldType.toString .byte) = some cA := (hK1.2 4 _ rfl).2
  have e2 : s.vm.findClass ("[" ++ FieldType.toString .byte) = some (G.2.1 0) := (hen.2.2.2 0 _ rfl).2
  have e3 : cA = G.2.1 0 := Option.some.inj (e1.symm.trans e2)
  subst e3
  exact k q p e s m args below meth c H1 locs ls hf hP1 hD1 hS1 hl
theorem XX.newL {n : Nat} (hd : decode M.2.1 pc = .ok (.newarray .long, 2)) (hw : Cond.arrayClass .long ∈ xw_g) (hn : n < 60000000) (hc : cells + 1 ≤ R.cells ∧ slots + n ≤ R.slots) (k : ∀ q : Nat, XX G M R F (cells + 1) (slots + n) (ws ++ [(q, .inl (G.2.1 2, n, .inr (.inl (fun _ => 0))))]) (pc + 2) lv (.ref q :: st)) : XX G M R F cells slots ws pc lv (.int (nI n) :: st) := by
  intro p e s m args below meth c H locs ls hf hP hD hS hl
  have hen := hf.2.2.2.2.2.2.2.2
  have hts : ∀ w ∈ xw_g, w.before args s = true := fun w h => hen.1 w h args
  refine va_newa (D := G.1) (atype := .long) (ty := .long) (a0 := (n, .inr (.inl (fun _ => 0)))) hf.1 hf.2.1 (hts _ hw) rfl hen.2.2 hP hD hS (fun q h => Nat.le_trans hf.2.2.2.2.2.2.2.1 h) (fun _ => rfl) (nI_pos (by omega)) (nI_clamp (by omega)) (by show n * 8 ≤ _; omega) hc.1 hc.2 hd (fun q cA H1 hK1 hP1 hD1 hS1 => ?_)
  have e1 : s.vm.findClass ("[" ++ FieldType.toString .long) = some cA := (hK1.2 4 _ rfl).2
  have e2 : s.vm.findClass ("[" ++ FieldType.toString .long) = some (G.2.1 2) := (hen.2.2.2 2 _ rfl).2
  have e3 : cA = G.2.1 2 := Option.some.inj (e1.symm.trans e2)
  subst e3
  exact k q p e s m args below meth c H1 locs ls hf hP1 hD1 hS1 hl
theorem XX.newK {n idx : Nat} (hd : decode M.2.1 pc = .ok (.anewarray idx, 3)) (hw : Cond.classLink M.1.cls idx "LineSorter$Key" ∈ xw_g) (hn : n < 60000000) (hc : cells + 1 ≤ R.cells ∧ slots + n ≤ R.slots) (k : ∀ q : Nat, XX G M R F (cells + 1) (slots + n) (ws ++ [(q, .inl (G.2.1 3, n, .inr (.inr (.inr (.inr (fun _ => none))))))]) (pc + 3) lv (.ref q :: st)) : XX G M R F cells slots ws pc lv (.int (nI n) :: st) := by
  intro p e s m args below meth c H locs ls hf hP hD hS hl
  have hen := hf.2.2.2.2.2.2.2.2
  have hts : ∀ w ∈ xw_g, w.before args s = true := fun w h => hen.1 w h args
  refine va_newq (D := G.1) (N' := n) hf.1 hf.2.1 hf.2.2.2.2.2.1 (hts _ hw) hen.2.1.2.2.2.2.1 hen.2.2 hP hD hS (fun q h => Nat.le_trans hf.2.2.2.2.2.2.2.1 h) (nI_pos (by omega)) (nI_clamp (by omega)) (by omega) hc.1 hc.2 hd (fun q cA H1 hK1 hP1 hD1 hS1 => ?_)
  obtain ⟨_, _, _, _, _, e1⟩ := (hK1.2 4 _ rfl).2
  obtain ⟨_, _, _, _, _, e2⟩ := (hen.2.2.2 3 _ rfl).2
  have e3 : cA = G.2.1 3 := Option.some.inj (e1.symm.trans e2)
  subst e3
  exact k q p e s m args below meth c H1 locs ls hf hP1 hD1 hS1 hl
theorem XX.callS {Mk : XM} {n idx : Nat} {As rest : List Value} {rmk : Room} {P : Option Value → va_W → Prop} (hM : MM G Mk rmk As ws P) (hk : xx_mt Mk n) (hst : Cond.static Mk.1 ∈ xw_g) (hlk : Cond.methodLink M.1.cls idx Mk.1 ∈ xw_g) (hn : As.length = n) (hd : decode M.2.1 pc = .ok (.invokestatic idx, 3)) (hR : rmk.frames + 1 ≤ R.frames ∧ 8 + (Mk.2.2.1 + 11) + rmk.locals ≤ R.locals) (hC : cells + rmk.cells ≤ R.cells ∧ slots + rmk.slots ≤ R.slots) (hw : (rest.map fun v => v.category).sum ≤ 8) (hst0 : st = As.reverse ++ rest)
    (k : ∀ (r : Option Value) (ws1 : va_W), P r ws1 → XX G M R F (cells + rmk.cells) (slots + rmk.slots) ws1 (pc + 3) lv (r.toList ++ rest)) : XX G M R F cells slots ws pc lv st := by
  intro p e s m args below meth c H locs ls hf hP hD hS hl
  subst hst0
  have hen := hf.2.2.2.2.2.2.2.2
  have hts : ∀ w ∈ xw_g, w.before args s = true := fun w h => hen.1 w h args
  exact xx_after (va_runS (Ts := xw_g) (own := M.1.cls) ⟨hf.1, hf.2.1, hf.2.2.1, hf.2.2.2.2.2.1, hts⟩ hM ⟨callB_of n hts (xx_good hk.1) rfl rfl rfl (hts _ hk.2.1) (hts _ hlk) hk.2.2 hR, hts _ hst⟩ ⟨xx_blind G As ws, fun U hU hW => ⟨rfl, by rw [hU]; exact Nat.le_trans hf.2.2.2.2.2.2.2.1 hS.1, hen.moved hW (by rw [hU]; exact hS.2.1), by rw [hU]; exact hP, hD⟩⟩ rfl hn hl.1 rfl (lv_room hw) hd hC) hS (fun r ws1 H1 locs1 hp hP1 hD1 hS1 => k r ws1 hp p e s m args below meth c H1 locs1 ls hf hP1 hD1 hS1 hl)
theorem XX.callV {Mk : XM} {n idx ci q0 b : Nat} {As rest fs : List Value} {q : vw_C} {rmk : Room} {P : Option Value → va_W → Prop} (hM : MM G Mk rmk (.ref b :: As) ws P) (hk : xx_mt Mk n) (hi : Cond.instanceMethod Mk.1 ∈ xw_g ∧ Cond.selects Mk.1.cls Mk.1 Mk.1 ∈ xw_g) (hlk : Cond.methodLink M.1.cls idx Mk.1 ∈ xw_g ∨ ∃ host : String, Cond.methodLinkNest M.1.cls idx Mk.1 host ∈ xw_n) (hn : As.length = n) (hd : decode M.2.1 pc = .ok (.invokevirtual idx, 3)) (he : ws[q0]? = some (b, .inr (ci, fs))) (hc : xc_cl[ci]? = some q) (hq : q.1 = Mk.1.cls) (hR : rmk.frames + 1 ≤ R.frames ∧ 8 + (Mk.2.2.1 + 11) + rmk.locals ≤ R.locals) (hC : cells + rmk.cells ≤ R.cells ∧ slots + rmk.slots ≤ R.slots) (hw : (rest.map fun v => v.category).sum ≤ 8) (hst0 : st = As.reverse ++ .ref b :: rest)
    (k : ∀ (r : Option Value) (ws1 : va_W), P r ws1 → XX G M R F (cells + rmk.cells) (slots + rmk.slots) ws1 (pc + 3) lv (r.toList ++ rest)) : XX G M R F cells slots ws pc lv st := by
  intro p e s m args below meth c H locs ls hf hP hD hS hl
  subst hst0
  have hen := hf.2.2.2.2.2.2.2.2
  have hts : ∀ w ∈ xw_g, w.before args s = true := fun w h => hen.1 w h args
  have hrc := va_recv hen.2.2 hP hc he
  rw [hq] at hrc
  have hp : PreV s H Mk.1.cls b (xx_pc G (.ref b :: As) ws) As := ⟨xx_blind G _ ws, hrc, fun U hU hW => ⟨rfl, by rw [hU]; exact Nat.le_trans hf.2.2.2.2.2.2.2.1 hS.1, hen.moved hW (by rw [hU]; exact hS.2.1), by rw [hU]; exact hP, hD⟩⟩
  rcases hlk with hlk | ⟨host, hlk⟩
  · exact xx_after (va_runV (Ts := xw_g) (own := M.1.cls) ⟨hf.1, hf.2.1, hf.2.2.1, hf.2.2.2.2.2.1, hts⟩ hM ⟨callB_of n hts (xx_good hk.1) rfl rfl rfl (hts _ hk.2.1) (hts _ hlk) hk.2.2 hR, hts _ hi.1, hts _ hi.2⟩ hp rfl hn hl.1 rfl (lv_room hw) hd hC) hS (fun r ws1 H1 locs1 hp hP1 hD1 hS1 => k r ws1 hp p e s m args below meth c H1 locs1 ls hf hP1 hD1 hS1 hl)
  · exact xx_after (va_runVN (Ts := xw_g) (own := M.1.cls) ⟨hf.1, hf.2.1, hf.2.2.1, hf.2.2.2.2.2.1, hts⟩ hM ⟨va_cnB n hts (xx_good hk.1) rfl rfl rfl (hen.2.1.1 _ hlk) (hts _ hk.2.1) hk.2.2 hR, hts _ hi.1, hts _ hi.2⟩ hp rfl hn hl.1 rfl (lv_room hw) hd hC) hS (fun r ws1 H1 locs1 hp hP1 hD1 hS1 => k r ws1 hp p e s m args below meth c H1 locs1 ls hf hP1 hD1 hS1 hl)
theorem XX.callI {yk : MethodName} {bk : ByteArray} {lk n idx b : Nat} {As rest : List Value} {rmk : Room} {P : Option Value → va_W → Prop} (hM : MM G (yk, bk, lk, none) rmk (.ref b :: As) ws P) (hk : xx_mt (yk, bk, lk, none) n) (hi : Cond.instanceMethod yk ∈ xw_g) (hnm : yk.name = "<init>") (hlk : Cond.methodLink M.1.cls idx yk ∈ xw_g ∨ ∃ host : String, Cond.methodLinkNest M.1.cls idx yk host ∈ xw_n) (hn : As.length = n) (hd : decode M.2.1 pc = .ok (.invokespecial idx, 3)) (hR : rmk.frames + 1 ≤ R.frames ∧ 8 + (lk + 11) + rmk.locals ≤ R.locals) (hC : cells + rmk.cells ≤ R.cells ∧ slots + rmk.slots ≤ R.slots) (hw : (rest.map fun v => v.category).sum ≤ 8) (hst0 : st = As.reverse ++ .ref b :: rest)
    (k : ∀ (r : Option Value) (ws1 : va_W), P r ws1 → XX G M R F (cells + rmk.cells) (slots + rmk.slots) ws1 (pc + 3) lv (r.toList ++ rest)) : XX G M R F cells slots ws pc lv st := by
  intro p e s m args below meth c H locs ls hf hP hD hS hl
  subst hst0
  have hen := hf.2.2.2.2.2.2.2.2
  have hts : ∀ w ∈ xw_g, w.before args s = true := fun w h => hen.1 w h args
  have hp : PreS s H (xx_pc G (.ref b :: As) ws) (.ref b :: As) := ⟨xx_blind G _ ws, fun U hU hW => ⟨rfl, by rw [hU]; exact Nat.le_trans hf.2.2.2.2.2.2.2.1 hS.1, hen.moved hW (by rw [hU]; exact hS.2.1), by rw [hU]; exact hP, hD⟩⟩
  rcases hlk with hlk | ⟨host, hlk⟩
  · exact xx_after (va_runI (Ts := xw_g) (own := M.1.cls) ⟨hf.1, hf.2.1, hf.2.2.1, hf.2.2.2.2.2.1, hts⟩ hM ⟨callB_of n hts (xx_good hk.1) rfl rfl rfl (hts _ hk.2.1) (hts _ hlk) hk.2.2 hR, hnm, hts _ hi⟩ hp rfl hn hl.1 rfl (lv_room hw) hd hC) hS (fun r ws1 H1 locs1 hp hP1 hD1 hS1 => k r ws1 hp p e s m args below meth c H1 locs1 ls hf hP1 hD1 hS1 hl)
  · exact xx_after (va_runIN (Ts := xw_g) (own := M.1.cls) ⟨hf.1, hf.2.1, hf.2.2.1, hf.2.2.2.2.2.1, hts⟩ hM ⟨va_cnB n hts (xx_good hk.1) rfl rfl rfl (hen.2.1.1 _ hlk) (hts _ hk.2.1) hk.2.2 hR, hnm, hts _ hi⟩ hp rfl hn hl.1 rfl (lv_room hw) hd hC) hS (fun r ws1 H1 locs1 hp hP1 hD1 hS1 => k r ws1 hp p e s m args below meth c H1 locs1 ls hf hP1 hD1 hS1 hl)
theorem XX.objInit {idx a : Nat} (hd : decode M.2.1 pc = .ok (.invokespecial idx, 3)) (h1 : Cond.methodLink M.1.cls idx objectInit ∈ xw_g) (h2 : Cond.instanceMethod objectInit ∈ xw_g) (h3 : Cond.code objectInit ⟨#[0xb1]⟩ 1 none ∈ xw_g) (hR : 1 ≤ R.frames) (hR2 : (st.map fun v => v.category).sum + 12 ≤ R.locals) (k : XX G M R F cells slots ws (pc + 3) lv st) : XX G M R F cells slots ws pc lv (.ref a :: st) := by
  intro p e s m args below meth c H locs ls hf hP hD hS hl
  have hen := hf.2.2.2.2.2.2.2.2
  refine W.objInit hf.1 hf.2.1 hf.2.2.2.2.2.1 (hen.1 _ h1 args) (hen.1 _ h2 args) (hen.1 _ h3 args) rfl (by rw [hf.2.2.1]; exact hl.1) rfl hd hR ?_ (k p e s m args below meth c H locs ls hf hP hD hS hl)
  show 2 * 0 + (st.map fun v => v.category).sum + 12 ≤ R.locals
  omega
theorem XX.mmin {idx : Nat} {x y : Int32} (hd : decode M.2.1 pc = .ok (.invokestatic idx, 3)) (h1 : Cond.methodLink M.1.cls idx Lib.Math.min.name ∈ xw_g) (h2 : Cond.static Lib.Math.min.name ∈ xw_g) (h3 : Cond.initialized "java/lang/Math" ∈ xw_g) (h4 : Cond.code Lib.Math.min.name Lib.Math.min.code 2 (some .int) ∈ xw_g) (hR : 1 ≤ R.frames) (hR2 : (st.map fun v => v.category).sum + 13 ≤ R.locals) (hC : cells ≤ R.cells ∧ slots ≤ R.slots) (k : XX G M R F cells slots ws (pc + 3) lv (.int (if y < x then y else x) :: st)) : XX G M R F cells slots ws pc lv (.int y :: .int x :: st) := by
  intro p e s m args below meth c H locs ls hf hP hD hS hl
  have hen := hf.2.2.2.2.2.2.2.2
  exact va_mmin hf.1 hf.2.1 (by rw [hf.2.2.1]; exact hl.1.symm) hf.2.2.2.2.2.1 (hen.1 _ h1 args) (hen.1 _ h2 args) (hen.1 _ h3 args) (hen.1 _ h4 args) hR hR2 hC.1 hC.2 hd (k p e s m args below meth c H locs ls hf hP hD hS hl)
theorem XX.mmax {idx : Nat} {x y : Int32} (hd : decode M.2.1 pc = .ok (.invokestatic idx, 3)) (h1 : Cond.methodLink M.1.cls idx Lib.Math.max.name ∈ xw_g) (h2 : Cond.static Lib.Math.max.name ∈ xw_g) (h3 : Cond.initialized "java/lang/Math" ∈ xw_g) (h4 : Cond.code Lib.Math.max.name Lib.Math.max.code 2 (some .int) ∈ xw_g) (hR : 1 ≤ R.frames) (hR2 : (st.map fun v => v.category).sum + 13 ≤ R.locals) (hC : cells ≤ R.cells ∧ slots ≤ R.slots) (k : XX G M R F cells slots ws (pc + 3) lv (.int (if x < y then y else x) :: st)) : XX G M R F cells slots ws pc lv (.int y :: .int x :: st) := by
  intro p e s m args below meth c H locs ls hf hP hD hS hl
  have hen := hf.2.2.2.2.2.2.2.2
  exact va_mmax hf.1 hf.2.1 (by rw [hf.2.2.1]; exact hl.1.symm) hf.2.2.2.2.2.1 (hen.1 _ h1 args) (hen.1 _ h2 args) (hen.1 _ h3 args) (hen.1 _ h4 args) hR hR2 hC.1 hC.2 hd (k p e s m args below meth c H locs ls hf hP hD hS hl)
theorem XX.iret {rm : Room} {P : Option Value → va_W → Prop} {v : Int32} (hd : decode M.2.1 pc = .ok (.ireturn, 1)) (hr : M.2.2.2 = some .int) (hc : cells ≤ rm.cells ∧ slots ≤ rm.slots) (hp : P (some (.int v)) ws) : XX G M R (xx_F G P rm) cells slots ws pc lv [.int v] := by
  intro p e s m args below meth c H locs ls hf hP hD hS hl
  refine W.widen hc.1 hc.2 ?_
  exact W.iret hf.1 hf.2.1 (hf.2.2.2.1.trans hr) (fun t ht hW => ⟨hS.F ht, _, ws, rfl, hp, by rw [ht]; exact hP, hD⟩) hS.2.2 hd hf.2.2.2.2.1
theorem XX.zret {rm : Room} {P : Option Value → va_W → Prop} {v : Int32} (hd : decode M.2.1 pc = .ok (.ireturn, 1)) (hr : M.2.2.2 = some .boolean) (hn : narrow .boolean (.int v) = .int v) (hc : cells ≤ rm.cells ∧ slots ≤ rm.slots) (hp : P (some (.int v)) ws) : XX G M R (xx_F G P rm) cells slots ws pc lv [.int v] := by
  intro p e s m args below meth c H locs ls hf hP hD hS hl
  refine W.widen hc.1 hc.2 ?_
  exact W.zret hf.1 hf.2.1 (hf.2.2.2.1.trans hr) hn (fun t ht hW => ⟨hS.F ht, _, ws, rfl, hp, by rw [ht]; exact hP, hD⟩) hS.2.2 hd hf.2.2.2.2.1
theorem XX.vret {rm : Room} {P : Option Value → va_W → Prop} (hd : decode M.2.1 pc = .ok (.return_, 1)) (hr : M.2.2.2 = none) (hc : cells ≤ rm.cells ∧ slots ≤ rm.slots) (hp : P none ws) : XX G M R (xx_F G P rm) cells slots ws pc lv [] := by
  intro p e s m args below meth c H locs ls hf hP hD hS hl
  refine W.widen hc.1 hc.2 ?_
  exact W.vret hf.1 hf.2.1 (hf.2.2.2.1.trans hr) (fun t ht hW => ⟨hS.F ht, _, ws, rfl, hp, by rw [ht]; exact hP, hD⟩) hS.2.2 hd hf.2.2.2.2.1
theorem XX.aret {rm : Room} {P : Option Value → va_W → Prop} {a : Nat} {t : FieldType} (hd : decode M.2.1 pc = .ok (.areturn, 1)) (hr : M.2.2.2 = some t) (ht : (∃ n, t = .object n) ∨ ∃ u, t = .array u) (hc : cells ≤ rm.cells ∧ slots ≤ rm.slots) (hp : P (some (.ref a)) ws) : XX G M R (xx_F G P rm) cells slots ws pc lv [.ref a] := by
  intro p e s m args below meth c H locs ls hf hP hD hS hl
  refine W.widen hc.1 hc.2 ?_
  exact W.aret hf.1 hf.2.1 (hf.2.2.2.1.trans hr) ht (Or.inr ⟨a, rfl⟩) (fun t ht hW => ⟨hS.F ht, _, ws, rfl, hp, by rw [ht]; exact hP, hD⟩) hS.2.2 hd hf.2.2.2.2.1
end
