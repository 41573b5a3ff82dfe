/-! XR: as XX, while nothing has been written or made: for methods that only read, and for the way to a throw -/
def XR (G : XG) (M : XM) (R : Room) (F : XF) (ws : va_W) (pc : Nat) (lv : List (Nat × Value)) (st : List Value) : Prop :=
  ∀ (p : Program) (e : Env) (s : State) (m : MethodId) (args : Array Value) (below : List Frame) (meth : Method) (c : Code) (ls : Array Slot),
    xx_fx G M p s m meth c → va_P G.1 xc_cl ws s.heap → va_D (xg_A G) ws → lv_has ls M.2.2.1 lv →
    W p G.2.2.2 e R s m args below meth c s.heap [] 0 0 (F below args s) (F0 m pc ls st)
def xr_qc (r : Option Value) : Array Value → State → Outcome → State → Prop := fun _ st o t => o = .returned r ∧ t.heap = st.heap
/-- the contract of a method that only reads: it returns r, the heap as it was -/
def MR (G : XG) (M : XM) (rm : Room) (av : List Value) (ws : va_W) (r : Option Value) : Prop :=
  Met G.2.2.2 M.1 (xx_ws M) rm (xx_pc G av ws) (xr_qc r) 0 0 (fun _ => False)
def xr_F (r : Option Value) : XF := fun below args s => MQ below (xr_qc r) args s 0 0 (fun _ => False)
theorem MR.of {G : XG} {M : XM} {rm : Room} {av : List Value} {ws : va_W} {r : Option Value} (hy : plainName M.1.cls = true) (hlen : (lg_sl av).length ≤ M.2.2.1)
    (h : XR G M rm (xr_F r) ws 0 (lv_args 0 av) []) : MR G M rm av ws r := by
  refine Met.ofW (cc := M.2.1) (maxL := M.2.2.1) (ret := M.2.2.2) hy rfl ?_
  intro p e s m args below meth c s₁ B hml hv
  obtain ⟨rfl, hbase, hen, hP, hD⟩ := hv
  have hl := lv_entry av (n := M.2.2.1) hlen
  rw [lg_entry_eq]
  exact h p e s m _ below meth c _ ⟨B.exec, B.bytes, hml, B.returns, B.notSynchronized, findClass_of_methodNamed B.named, Or.inl ⟨(name_of_methodNamed B.named B.method).1, B.named⟩, hbase, hen⟩ hP hD hl
theorem xr_met {l : Launch} {y : MethodName} {ws : List Cond} {rm : Room} {Pc : Array Value → State → Prop} {Qc Q2 : Array Value → State → Outcome → State → Prop} {mc ms m2 n2 : Nat} {f1 f2 : Addr → Prop} (h : Met l y ws rm Pc Qc mc ms f1) (hq : ∀ a st o t, Pc a st → Qc a st o t → Q2 a st o t) (hc : mc ≤ m2) (hs : ms ≤ n2) (hf : ∀ q, f1 q → f2 q) : Met l y ws rm Pc Q2 m2 n2 f2 := by
  intro p e h1 h2 h3 s m args below h4 h5 h6 h7
  obtain ⟨n, o, a1, a2, a3, b1, L, ⟨b2, b3, b4⟩, b5⟩ := h p e h1 h2 h3 s m args below h4 h5 h6 h7
  exact ⟨n, o, a1, a2, a3, hq _ _ _ _ h6 b1, L, ⟨b2, b3, b4.weaken (fun _ h _ => h) hc hs⟩, fun q h => hf _ (b5 q h)⟩
theorem MR.mm {G : XG} {M : XM} {rm : Room} {av : List Value} {ws : va_W} {r : Option Value} (h : MR G M rm av ws r) : MM G M rm av ws (fun a b => a = r ∧ b = ws) := by
  refine xr_met h (fun a st o t hp hq => ?_) (Nat.zero_le _) (Nat.zero_le _) (fun q h => h.elim)
  obtain ⟨h1, h2⟩ := hq
  obtain ⟨_, _, _, h3, h4⟩ := hp
  exact ⟨⟨by rw [h2]; exact Nat.le_refl _, fun q _ _ => by rw [h2]⟩, r, ws, h1, ⟨rfl, rfl⟩, by rw [h2]; exact h3, h4⟩
section
variable {p : Program} {l : Launch} {e : Env} {R : Room} {s : State} {m : MethodId} {args : Array Value} {below : List Frame} {meth : Method} {c : Code} {Q : State → Prop}
theorem xr_after {r : Option Value} {a : Array Value} {pc : Nat} {ls : Array Slot} {st0 rest : List Value} (hr : va_Run p l e R s m args below meth c s.heap [] 0 0 0 0 (F0 m pc ls st0) rest (xr_qc r a) (fun _ => False))
    (kk : W p l e R s m args below meth c s.heap [] 0 0 Q (F0 m (pc + 3) ls (r.toList ++ rest))) : W p l e R s m args below meth c s.heap [] 0 0 Q (F0 m pc ls st0) := by
  intro T hT X
  obtain ⟨v, st₀, t, T', L, h0, X', hL, e1, e2, ⟨hv, hh⟩, st⟩ := hr T hT X
  cases hv
  have hL0 : L = [] := by
    cases L with
    | nil => rfl
    | cons x xs => exact (hL x List.mem_cons_self).elim
  subst hL0
  obtain ⟨t2, a1, b1⟩ := kk T' (by rw [e1, hh, h0]) X'
  exact ⟨t2, st t2 a1, b1⟩
end
section
variable {G : XG} {M : XM} {R : Room} {F : XF} {cells slots : Nat} {ws : va_W} {pc : Nat} {lv : List (Nat × Value)} {st : List Value}
theorem XR.xx (k : XX G M R F 0 0 ws pc lv st) : XR G M R F ws pc lv st := by
  intro p e s m args below meth c ls hf hP hD hl
  exact k p e s m args below meth c s.heap [] ls hf hP hD va_S.rf hl
theorem XR.iconst {n : Int} {v : Int32} (hd : decode M.2.1 pc = .ok (.iconst n, 1)) (hv : Int32.ofInt n = v) (k : XR G M R F ws (pc + 1) lv (.int v :: st)) : XR G M R F ws pc lv (st) := by
  intro p e s m args below meth c ls hf hP hD hl
  exact lv_iconst hf.1 hf.2.1 hd hv (k p e s m args below meth c ls hf hP hD hl)
theorem XR.bipush {n : Int} {v : Int32} (hd : decode M.2.1 pc = .ok (.bipush n, 2)) (hv : (Int8.ofInt n).toInt32 = v) (k : XR G M R F ws (pc + 2) lv (.int v :: st)) : XR G M R F ws pc lv (st) := by
  intro p e s m args below meth c ls hf hP hD hl
  exact lv_bipush hf.1 hf.2.1 hd hv (k p e s m args below meth c ls hf hP hD hl)
theorem XR.sipush {n : Int} {v : Int32} (hd : decode M.2.1 pc = .ok (.sipush n, 3)) (hv : (Int16.ofInt n).toInt32 = v) (k : XR G M R F ws (pc + 3) lv (.int v :: st)) : XR G M R F ws pc lv (st) := by
  intro p e s m args below meth c ls hf hP hD hl
  exact lv_sipush hf.1 hf.2.1 hd hv (k p e s m args below meth c ls hf hP hD hl)
theorem XR.lconst {n : Fin 2} {v : Int64} (hd : decode M.2.1 pc = .ok (.lconst n, 1)) (hv : Int64.ofNat (n : Nat) = v) (k : XR G M R F ws (pc + 1) lv (.long v :: st)) : XR G M R F ws pc lv (st) := by
  intro p e s m args below meth c ls hf hP hD hl
  exact lv_lconst hf.1 hf.2.1 hd hv (k p e s m args below meth c ls hf hP hD hl)
theorem XR.iload_n {j : Fin 4} {i : Nat} {x : Int32} (hd : decode M.2.1 pc = .ok (.iload_n j, 1)) (hi : (j : Nat) = i) (z : Nat) (hz : lv[z]? = some (i, .int x)) (k : XR G M R F ws (pc + 1) lv (.int x :: st)) : XR G M R F ws pc lv (st) := by
  intro p e s m args below meth c ls hf hP hD hl
  exact lv_iload_n hf.1 hf.2.1 hd hi (lv_at hl z hz) (k p e s m args below meth c ls hf hP hD hl)
theorem XR.iload {i : Nat} {x : Int32} (hd : decode M.2.1 pc = .ok (.iload i, 2)) (z : Nat) (hz : lv[z]? = some (i, .int x)) (k : XR G M R F ws (pc + 2) lv (.int x :: st)) : XR G M R F ws pc lv (st) := by
  intro p e s m args below meth c ls hf hP hD hl
  exact lv_iload hf.1 hf.2.1 hd (lv_at hl z hz) (k p e s m args below meth c ls hf hP hD hl)
theorem XR.lload_n {j : Fin 4} {i : Nat} {x : Int64} (hd : decode M.2.1 pc = .ok (.lload_n j, 1)) (hi : (j : Nat) = i) (z : Nat) (hz : lv[z]? = some (i, .long x)) (k : XR G M R F ws (pc + 1) lv (.long x :: st)) : XR G M R F ws pc lv (st) := by
  intro p e s m args below meth c ls hf hP hD hl
  exact lv_lload_n hf.1 hf.2.1 hd hi (lv_at hl z hz) (k p e s m args below meth c ls hf hP hD hl)
theorem XR.lload {i : Nat} {x : Int64} (hd : decode M.2.1 pc = .ok (.lload i, 2)) (z : Nat) (hz : lv[z]? = some (i, .long x)) (k : XR G M R F ws (pc + 2) lv (.long x :: st)) : XR G M R F ws pc lv (st) := by
  intro p e s m args below meth c ls hf hP hD hl
  exact lv_lload hf.1 hf.2.1 hd (lv_at hl z hz) (k p e s m args below meth c ls hf hP hD hl)
theorem XR.aload_n {j : Fin 4} {i : Nat} {x : Nat} (hd : decode M.2.1 pc = .ok (.aload_n j, 1)) (hi : (j : Nat) = i) (z : Nat) (hz : lv[z]? = some (i, .ref x)) (k : XR G M R F ws (pc + 1) lv (.ref x :: st)) : XR G M R F ws pc lv (st) := by
  intro p e s m args below meth c ls hf hP hD hl
  exact lv_aload_n hf.1 hf.2.1 hd hi (lv_at hl z hz) (k p e s m args below meth c ls hf hP hD hl)
theorem XR.aload {i : Nat} {x : Nat} (hd : decode M.2.1 pc = .ok (.aload i, 2)) (z : Nat) (hz : lv[z]? = some (i, .ref x)) (k : XR G M R F ws (pc + 2) lv (.ref x :: st)) : XR G M R F ws pc lv (st) := by
  intro p e s m args below meth c ls hf hP hD hl
  exact lv_aload hf.1 hf.2.1 hd (lv_at hl z hz) (k p e s m args below meth c ls hf hP hD hl)
theorem XR.istore_n {j : Fin 4} {i : Nat} {x : Int32} {lv2 : List (Nat × Value)} (hd : decode M.2.1 pc = .ok (.istore_n j, 1)) (hi : (j : Nat) = i) (hn : i < M.2.2.1) (h2 : (i, Value.int x) :: lv.filter (fun q => !(q.1 == i) && !(q.1 + 1 == i && q.2.category == 2)) = lv2) (k : XR G M R F ws (pc + 1) lv2 st) : XR G M R F ws pc lv (.int x :: st) := by
  intro p e s m args below meth c ls hf hP hD hl
  exact lv_istore_n hf.1 hf.2.1 hd hi hl hn h2 (fun ls2 hl2 => k p e s m args below meth c ls2 hf hP hD hl2)
theorem XR.istore {i : Nat} {x : Int32} {lv2 : List (Nat × Value)} (hd : decode M.2.1 pc = .ok (.istore i, 2)) (hn : i < M.2.2.1) (h2 : (i, Value.int x) :: lv.filter (fun q => !(q.1 == i) && !(q.1 + 1 == i && q.2.category == 2)) = lv2) (k : XR G M R F ws (pc + 2) lv2 st) : XR G M R F ws pc lv (.int x :: st) := by
  intro p e s m args below meth c ls hf hP hD hl
  exact lv_istore hf.1 hf.2.1 hd hl hn h2 (fun ls2 hl2 => k p e s m args below meth c ls2 hf hP hD hl2)
theorem XR.lstore_n {j : Fin 4} {i : Nat} {x : Int64} {lv2 : List (Nat × Value)} (hd : decode M.2.1 pc = .ok (.lstore_n j, 1)) (hi : (j : Nat) = i) (hn : i + 1 < M.2.2.1) (h2 : (i, Value.long x) :: lv.filter (fun q => !(q.1 == i) && (!(q.1 == i + 1) && !(q.1 + 1 == i && q.2.category == 2))) = lv2) (k : XR G M R F ws (pc + 1) lv2 st) : XR G M R F ws pc lv (.long x :: st) := by
  intro p e s m args below meth c ls hf hP hD hl
  exact lv_lstore_n hf.1 hf.2.1 hd hi hl hn h2 (fun ls2 hl2 => k p e s m args below meth c ls2 hf hP hD hl2)
theorem XR.lstore {i : Nat} {x : Int64} {lv2 : List (Nat × Value)} (hd : decode M.2.1 pc = .ok (.lstore i, 2)) (hn : i + 1 < M.2.2.1) (h2 : (i, Value.long x) :: lv.filter (fun q => !(q.1 == i) && (!(q.1 == i + 1) && !(q.1 + 1 == i && q.2.category == 2))) = lv2) (k : XR G M R F ws (pc + 2) lv2 st) : XR G M R F ws pc lv (.long x :: st) := by
  intro p e s m args below meth c ls hf hP hD hl
  exact lv_lstore hf.1 hf.2.1 hd hl hn h2 (fun ls2 hl2 => k p e s m args below meth c ls2 hf hP hD hl2)
theorem XR.astore_n {j : Fin 4} {i : Nat} {x : Nat} {lv2 : List (Nat × Value)} (hd : decode M.2.1 pc = .ok (.astore_n j, 1)) (hi : (j : Nat) = i) (hn : i < M.2.2.1) (h2 : (i, Value.ref x) :: lv.filter (fun q => !(q.1 == i) && !(q.1 + 1 == i && q.2.category == 2)) = lv2) (k : XR G M R F ws (pc + 1) lv2 st) : XR G M R F ws pc lv (.ref x :: st) := by
  intro p e s m args below meth c ls hf hP hD hl
  exact lv_astore_n hf.1 hf.2.1 hd hi hl hn h2 (fun ls2 hl2 => k p e s m args below meth c ls2 hf hP hD hl2)
theorem XR.astore {i : Nat} {x : Nat} {lv2 : List (Nat × Value)} (hd : decode M.2.1 pc = .ok (.astore i, 2)) (hn : i < M.2.2.1) (h2 : (i, Value.ref x) :: lv.filter (fun q => !(q.1 == i) && !(q.1 + 1 == i && q.2.category == 2)) = lv2) (k : XR G M R F ws (pc + 2) lv2 st) : XR G M R F ws pc lv (.ref x :: st) := by
  intro p e s m args below meth c ls hf hP hD hl
  exact lv_astore hf.1 hf.2.1 hd hl hn h2 (fun ls2 hl2 => k p e s m args below meth c ls2 hf hP hD hl2)
theorem XR.iinc {i z : Nat} {n : Int} {x v : Int32} {lv2 : List (Nat × Value)} (hd : decode M.2.1 pc = .ok (.iinc i n, 3)) (hz : lv[z]? = some (i, .int x)) (hv : x + Int32.ofInt n = v) (hn : i < M.2.2.1) (h2 : (i, Value.int v) :: lv.filter (fun q => !(q.1 == i) && !(q.1 + 1 == i && q.2.category == 2)) = lv2) (k : XR G M R F ws (pc + 3) lv2 st) : XR G M R F ws pc lv st := by
  intro p e s m args below meth c ls hf hP hD hl
  exact lv_iinc hf.1 hf.2.1 hd hl hz hv hn h2 (fun ls2 hl2 => k p e s m args below meth c ls2 hf hP hD hl2)
theorem XR.iadd {x y : Int32} (hd : decode M.2.1 pc = .ok (.iadd, 1))  (k : XR G M R F ws (pc + 1) lv (.int (x + y) :: st)) : XR G M R F ws pc lv (.int y :: .int x :: st) := by
  intro p e s m args below meth c ls hf hP hD hl
  exact lv_iadd hf.1 hf.2.1 hd  (k p e s m args below meth c ls hf hP hD hl)
theorem XR.isub {x y : Int32} (hd : decode M.2.1 pc = .ok (.isub, 1))  (k : XR G M R F ws (pc + 1) lv (.int (x - y) :: st)) : XR G M R F ws pc lv (.int y :: .int x :: st) := by
  intro p e s m args below meth c ls hf hP hD hl
  exact lv_isub hf.1 hf.2.1 hd  (k p e s m args below meth c ls hf hP hD hl)
theorem XR.imul {x y : Int32} (hd : decode M.2.1 pc = .ok (.imul, 1))  (k : XR G M R F ws (pc + 1) lv (.int (x * y) :: st)) : XR G M R F ws pc lv (.int y :: .int x :: st) := by
  intro p e s m args below meth c ls hf hP hD hl
  exact lv_imul hf.1 hf.2.1 hd  (k p e s m args below meth c ls hf hP hD hl)
theorem XR.iand {x y : Int32} (hd : decode M.2.1 pc = .ok (.iand, 1))  (k : XR G M R F ws (pc + 1) lv (.int (x &&& y) :: st)) : XR G M R F ws pc lv (.int y :: .int x :: st) := by
  intro p e s m args below meth c ls hf hP hD hl
  exact lv_iand hf.1 hf.2.1 hd  (k p e s m args below meth c ls hf hP hD hl)
theorem XR.ishl {x y : Int32} (hd : decode M.2.1 pc = .ok (.ishl, 1))  (k : XR G M R F ws (pc + 1) lv (.int (x <<< (y &&& 31)) :: st)) : XR G M R F ws pc lv (.int y :: .int x :: st) := by
  intro p e s m args below meth c ls hf hP hD hl
  exact lv_ishl hf.1 hf.2.1 hd  (k p e s m args below meth c ls hf hP hD hl)
theorem XR.ishr {x y : Int32} (hd : decode M.2.1 pc = .ok (.ishr, 1))  (k : XR G M R F ws (pc + 1) lv (.int (x >>> (y &&& 31)) :: st)) : XR G M R F ws pc lv (.int y :: .int x :: st) := by
  intro p e s m args below meth c ls hf hP hD hl
  exact lv_ishr hf.1 hf.2.1 hd  (k p e s m args below meth c ls hf hP hD hl)
theorem XR.idiv {x y : Int32} (hd : decode M.2.1 pc = .ok (.idiv, 1)) (hne : ¬ y = 0) (k : XR G M R F ws (pc + 1) lv (.int (x / y) :: st)) : XR G M R F ws pc lv (.int y :: .int x :: st) := by
  intro p e s m args below meth c ls hf hP hD hl
  exact lv_idiv hf.1 hf.2.1 hd hne (k p e s m args below meth c ls hf hP hD hl)
theorem XR.irem {x y : Int32} (hd : decode M.2.1 pc = .ok (.irem, 1)) (hne : ¬ y = 0) (k : XR G M R F ws (pc + 1) lv (.int (x - x / y * y) :: st)) : XR G M R F ws pc lv (.int y :: .int x :: st) := by
  intro p e s m args below meth c ls hf hP hD hl
  exact lv_irem hf.1 hf.2.1 hd hne (k p e s m args below meth c ls hf hP hD hl)
theorem XR.ineg {x : Int32} (hd : decode M.2.1 pc = .ok (.ineg, 1))  (k : XR G M R F ws (pc + 1) lv (.int (-x) :: st)) : XR G M R F ws pc lv (.int x :: st) := by
  intro p e s m args below meth c ls hf hP hD hl
  exact lv_ineg hf.1 hf.2.1 hd  (k p e s m args below meth c ls hf hP hD hl)
theorem XR.ladd {x y : Int64} (hd : decode M.2.1 pc = .ok (.ladd, 1))  (k : XR G M R F ws (pc + 1) lv (.long (x + y) :: st)) : XR G M R F ws pc lv (.long y :: .long x :: st) := by
  intro p e s m args below meth c ls hf hP hD hl
  exact lv_ladd hf.1 hf.2.1 hd  (k p e s m args below meth c ls hf hP hD hl)
theorem XR.lsub {x y : Int64} (hd : decode M.2.1 pc = .ok (.lsub, 1))  (k : XR G M R F ws (pc + 1) lv (.long (x - y) :: st)) : XR G M R F ws pc lv (.long y :: .long x :: st) := by
  intro p e s m args below meth c ls hf hP hD hl
  exact lv_lsub hf.1 hf.2.1 hd  (k p e s m args below meth c ls hf hP hD hl)
theorem XR.ldiv {x y : Int64} (hd : decode M.2.1 pc = .ok (.ldiv, 1)) (hne : ¬ y = 0) (k : XR G M R F ws (pc + 1) lv (.long (x / y) :: st)) : XR G M R F ws pc lv (.long y :: .long x :: st) := by
  intro p e s m args below meth c ls hf hP hD hl
  exact lv_ldiv hf.1 hf.2.1 hd hne (k p e s m args below meth c ls hf hP hD hl)
theorem XR.lcmp {x y : Int64} (hd : decode M.2.1 pc = .ok (.lcmp, 1))  (k : XR G M R F ws (pc + 1) lv (.int (lg_cmp x y) :: st)) : XR G M R F ws pc lv (.long y :: .long x :: st) := by
  intro p e s m args below meth c ls hf hP hD hl
  exact W.lcmp hf.1 hf.2.1 hd  (k p e s m args below meth c ls hf hP hD hl)
theorem XR.i2l {x : Int32} {v : Int64} (hd : decode M.2.1 pc = .ok (.i2l, 1)) (hv : x.toInt64 = v) (k : XR G M R F ws (pc + 1) lv (.long v :: st)) : XR G M R F ws pc lv (.int x :: st) := by
  intro p e s m args below meth c ls hf hP hD hl
  exact lv_i2l hf.1 hf.2.1 hd hv (k p e s m args below meth c ls hf hP hD hl)
theorem XR.l2i {x : Int64} {v : Int32} (hd : decode M.2.1 pc = .ok (.l2i, 1)) (hv : x.toInt32 = v) (k : XR G M R F ws (pc + 1) lv (.int v :: st)) : XR G M R F ws pc lv (.long x :: st) := by
  intro p e s m args below meth c ls hf hP hD hl
  exact lv_l2i hf.1 hf.2.1 hd hv (k p e s m args below meth c ls hf hP hD hl)
theorem XR.i2b {x : Int32} {v : Int32} (hd : decode M.2.1 pc = .ok (.i2b, 1)) (hv : x.toInt8.toInt32 = v) (k : XR G M R F ws (pc + 1) lv (.int v :: st)) : XR G M R F ws pc lv (.int x :: st) := by
  intro p e s m args below meth c ls hf hP hD hl
  exact lv_i2b hf.1 hf.2.1 hd hv (k p e s m args below meth c ls hf hP hD hl)
theorem XR.dup {va : Value} (hd : decode M.2.1 pc = .ok (.dup, 1)) (h1 : va.category = 1) (k : XR G M R F ws (pc + 1) lv (va :: va :: st)) : XR G M R F ws pc lv (va :: st) := by
  intro p e s m args below meth c ls hf hP hD hl
  exact lv_dup hf.1 hf.2.1 hd h1 (k p e s m args below meth c ls hf hP hD hl)
theorem XR.pop {va : Value} (hd : decode M.2.1 pc = .ok (.pop, 1)) (h1 : va.category = 1) (k : XR G M R F ws (pc + 1) lv (st)) : XR G M R F ws pc lv (va :: st) := by
  intro p e s m args below meth c ls hf hP hD hl
  exact lv_pop hf.1 hf.2.1 hd h1 (k p e s m args below meth c ls hf hP hD hl)
theorem XR.dup_x1 {va vb : Value} (hd : decode M.2.1 pc = .ok (.dup_x1, 1)) (h1 : va.category = 1) (h2 : vb.category = 1) (k : XR G M R F ws (pc + 1) lv (va :: vb :: va :: st)) : XR G M R F ws pc lv (va :: vb :: st) := by
  intro p e s m args below meth c ls hf hP hD hl
  exact lv_dup_x1 hf.1 hf.2.1 hd h1 h2 (k p e s m args below meth c ls hf hP hD hl)
theorem XR.dup_x2 {va vb vd : Value} (hd : decode M.2.1 pc = .ok (.dup_x2, 1)) (h1 : va.category = 1) (h2 : vb.category = 1) (h3 : vd.category = 1) (k : XR G M R F ws (pc + 1) lv (va :: vb :: vd :: va :: st)) : XR G M R F ws pc lv (va :: vb :: vd :: st) := by
  intro p e s m args below meth c ls hf hP hD hl
  exact lv_dup_x2 hf.1 hf.2.1 hd h1 h2 h3 (k p e s m args below meth c ls hf hP hD hl)
theorem XR.dup2 {va vb : Value} (hd : decode M.2.1 pc = .ok (.dup2, 1)) (h1 : va.category = 1) (h2 : vb.category = 1) (k : XR G M R F ws (pc + 1) lv (va :: vb :: va :: vb :: st)) : XR G M R F ws pc lv (va :: vb :: st) := by
  intro p e s m args below meth c ls hf hP hD hl
  exact lv_dup2_11 hf.1 hf.2.1 hd h1 h2 (k p e s m args below meth c ls hf hP hD hl)
theorem XR.ldc {idx : Nat} {v : Int32} (hd : decode M.2.1 pc = .ok (.ldc idx, 2)) (hw : Cond.constant M.1.cls idx v ∈ xw_g) (k : XR G M R F ws (pc + 2) lv (.int v :: st)) : XR G M R F ws pc lv st := by
  intro p e s m args below meth c ls hf hP hD hl
  exact lv_ldc hf.1 hf.2.1 hf.2.2.2.2.2.1 (hf.2.2.2.2.2.2.2.2.1 _ hw args) hd (k p e s m args below meth c ls hf hP hD hl)
theorem XR.goto {off : Int} {tgt : Nat} (hd : decode M.2.1 pc = .ok (.goto off, 3)) (ht : (pc : Int) + off = (tgt : Int)) (k : XR G M R F ws tgt lv st) : XR G M R F ws pc lv st := by
  intro p e s m args below meth c ls hf hP hD hl
  exact lv_goto hf.1 hf.2.1 hd ht (k p e s m args below meth c ls hf hP hD hl)
theorem XR.icmp_eq {x y : Int32} {off : Int} {tgt : Nat} (hd : decode M.2.1 pc = .ok (.if_icmp .eq off, 3)) (ht : (pc : Int) + off = (tgt : Int)) (kt : x = y → XR G M R F ws tgt lv st) (kf : ¬ x = y → XR G M R F ws (pc + 3) lv st) : XR G M R F ws pc lv (.int y :: .int x :: st) := by
  intro p e s m args below meth c ls hf hP hD hl
  exact lv_icmp_eq hf.1 hf.2.1 hd ht (fun h => kt h p e s m args below meth c ls hf hP hD hl) (fun h => kf h p e s m args below meth c ls hf hP hD hl)
theorem XR.if_eq {x : Int32} {off : Int} {tgt : Nat} (hd : decode M.2.1 pc = .ok (.ifCond .eq off, 3)) (ht : (pc : Int) + off = (tgt : Int)) (kt : x = 0 → XR G M R F ws tgt lv st) (kf : ¬ x = 0 → XR G M R F ws (pc + 3) lv st) : XR G M R F ws pc lv (.int x :: st) := by
  intro p e s m args below meth c ls hf hP hD hl
  exact lv_if_eq hf.1 hf.2.1 hd ht (fun h => kt h p e s m args below meth c ls hf hP hD hl) (fun h => kf h p e s m args below meth c ls hf hP hD hl)
theorem XR.ncmp_eq {a b : Nat} {off : Int} {tgt : Nat} (hd : decode M.2.1 pc = .ok (.if_icmp .eq off, 3)) (ht : (pc : Int) + off = (tgt : Int)) (ha : a < 2 ^ 31) (hb : b < 2 ^ 31) (kt : a = b → XR G M R F ws tgt lv st) (kf : a ≠ b → XR G M R F ws (pc + 3) lv st) : XR G M R F ws pc lv (.int (nI b) :: .int (nI a) :: st) := by
  have z := pk_eq (x := nI a) (y := nI b) a b (A := XR G M R F ws tgt lv st) (B := XR G M R F ws (pc + 3) lv st) (fun h => kt h) (fun h => kf h) rfl rfl ha hb
  exact XR.icmp_eq hd ht z.1 z.2
theorem XR.nif_eq {a : Nat} {off : Int} {tgt : Nat} (hd : decode M.2.1 pc = .ok (.ifCond .eq off, 3)) (ht : (pc : Int) + off = (tgt : Int)) (ha : a < 2 ^ 31) (kt : a = 0 → XR G M R F ws tgt lv st) (kf : 0 < a → XR G M R F ws (pc + 3) lv st) : XR G M R F ws pc lv (.int (nI a) :: st) := by
  have z := pk_eq (x := nI a) (y := (0 : Int32)) a 0 (A := XR G M R F ws tgt lv st) (B := XR G M R F ws (pc + 3) lv st) (fun h => kt (by omega)) (fun h => kf (by omega)) rfl rfl ha (by decide)
  exact XR.if_eq hd ht z.1 z.2
theorem XR.icmp_ne {x y : Int32} {off : Int} {tgt : Nat} (hd : decode M.2.1 pc = .ok (.if_icmp .ne off, 3)) (ht : (pc : Int) + off = (tgt : Int)) (kt : ¬ x = y → XR G M R F ws tgt lv st) (kf : x = y → XR G M R F ws (pc + 3) lv st) : XR G M R F ws pc lv (.int y :: .int x :: st) := by
  intro p e s m args below meth c ls hf hP hD hl
  exact lv_icmp_ne hf.1 hf.2.1 hd ht (fun h => kt h p e s m args below meth c ls hf hP hD hl) (fun h => kf h p e s m args below meth c ls hf hP hD hl)
theorem XR.if_ne {x : Int32} {off : Int} {tgt : Nat} (hd : decode M.2.1 pc = .ok (.ifCond .ne off, 3)) (ht : (pc : Int) + off = (tgt : Int)) (kt : ¬ x = 0 → XR G M R F ws tgt lv st) (kf : x = 0 → XR G M R F ws (pc + 3) lv st) : XR G M R F ws pc lv (.int x :: st) := by
  intro p e s m args below meth c ls hf hP hD hl
  exact lv_if_ne hf.1 hf.2.1 hd ht (fun h => kt h p e s m args below meth c ls hf hP hD hl) (fun h => kf h p e s m args below meth c ls hf hP hD hl)
theorem XR.ncmp_ne {a b : Nat} {off : Int} {tgt : Nat} (hd : decode M.2.1 pc = .ok (.if_icmp .ne off, 3)) (ht : (pc : Int) + off = (tgt : Int)) (ha : a < 2 ^ 31) (hb : b < 2 ^ 31) (kt : a ≠ b → XR G M R F ws tgt lv st) (kf : a = b → XR G M R F ws (pc + 3) lv st) : XR G M R F ws pc lv (.int (nI b) :: .int (nI a) :: st) := by
  have z := pk_eq (x := nI a) (y := nI b) a b (A := XR G M R F ws (pc + 3) lv st) (B := XR G M R F ws tgt lv st) (fun h => kf h) (fun h => kt h) rfl rfl ha hb
  exact XR.icmp_ne hd ht z.2 z.1
theorem XR.nif_ne {a : Nat} {off : Int} {tgt : Nat} (hd : decode M.2.1 pc = .ok (.ifCond .ne off, 3)) (ht : (pc : Int) + off = (tgt : Int)) (ha : a < 2 ^ 31) (kt : 0 < a → XR G M R F ws tgt lv st) (kf : a = 0 → XR G M R F ws (pc + 3) lv st) : XR G M R F ws pc lv (.int (nI a) :: st) := by
  have z := pk_eq (x := nI a) (y := (0 : Int32)) a 0 (A := XR G M R F ws (pc + 3) lv st) (B := XR G M R F ws tgt lv st) (fun h => kf (by omega)) (fun h => kt (by omega)) rfl rfl ha (by decide)
  exact XR.if_ne hd ht z.2 z.1
theorem XR.icmp_lt {x y : Int32} {off : Int} {tgt : Nat} (hd : decode M.2.1 pc = .ok (.if_icmp .lt off, 3)) (ht : (pc : Int) + off = (tgt : Int)) (kt : x < y → XR G M R F ws tgt lv st) (kf : ¬ x < y → XR G M R F ws (pc + 3) lv st) : XR G M R F ws pc lv (.int y :: .int x :: st) := by
  intro p e s m args below meth c ls hf hP hD hl
  exact lv_icmp_lt hf.1 hf.2.1 hd ht (fun h => kt h p e s m args below meth c ls hf hP hD hl) (fun h => kf h p e s m args below meth c ls hf hP hD hl)
theorem XR.if_lt {x : Int32} {off : Int} {tgt : Nat} (hd : decode M.2.1 pc = .ok (.ifCond .lt off, 3)) (ht : (pc : Int) + off = (tgt : Int)) (kt : x < 0 → XR G M R F ws tgt lv st) (kf : ¬ x < 0 → XR G M R F ws (pc + 3) lv st) : XR G M R F ws pc lv (.int x :: st) := by
  intro p e s m args below meth c ls hf hP hD hl
  exact lv_if_lt hf.1 hf.2.1 hd ht (fun h => kt h p e s m args below meth c ls hf hP hD hl) (fun h => kf h p e s m args below meth c ls hf hP hD hl)
theorem XR.ncmp_lt {a b : Nat} {off : Int} {tgt : Nat} (hd : decode M.2.1 pc = .ok (.if_icmp .lt off, 3)) (ht : (pc : Int) + off = (tgt : Int)) (ha : a < 2 ^ 31) (hb : b < 2 ^ 31) (kt : a < b → XR G M R F ws tgt lv st) (kf : b ≤ a → XR G M R F ws (pc + 3) lv st) : XR G M R F ws pc lv (.int (nI b) :: .int (nI a) :: st) := by
  have z := pk_lt (x := nI a) (y := nI b) a b (A := XR G M R F ws tgt lv st) (B := XR G M R F ws (pc + 3) lv st) (fun h => kt h) (fun h => kf h) rfl rfl ha hb
  exact XR.icmp_lt hd ht z.1 z.2
theorem XR.icmp_ge {x y : Int32} {off : Int} {tgt : Nat} (hd : decode M.2.1 pc = .ok (.if_icmp .ge off, 3)) (ht : (pc : Int) + off = (tgt : Int)) (kt : y ≤ x → XR G M R F ws tgt lv st) (kf : ¬ y ≤ x → XR G M R F ws (pc + 3) lv st) : XR G M R F ws pc lv (.int y :: .int x :: st) := by
  intro p e s m args below meth c ls hf hP hD hl
  exact lv_icmp_ge hf.1 hf.2.1 hd ht (fun h => kt h p e s m args below meth c ls hf hP hD hl) (fun h => kf h p e s m args below meth c ls hf hP hD hl)
theorem XR.if_ge {x : Int32} {off : Int} {tgt : Nat} (hd : decode M.2.1 pc = .ok (.ifCond .ge off, 3)) (ht : (pc : Int) + off = (tgt : Int)) (kt : 0 ≤ x → XR G M R F ws tgt lv st) (kf : ¬ 0 ≤ x → XR G M R F ws (pc + 3) lv st) : XR G M R F ws pc lv (.int x :: st) := by
  intro p e s m args below meth c ls hf hP hD hl
  exact lv_if_ge hf.1 hf.2.1 hd ht (fun h => kt h p e s m args below meth c ls hf hP hD hl) (fun h => kf h p e s m args below meth c ls hf hP hD hl)
theorem XR.ncmp_ge {a b : Nat} {off : Int} {tgt : Nat} (hd : decode M.2.1 pc = .ok (.if_icmp .ge off, 3)) (ht : (pc : Int) + off = (tgt : Int)) (ha : a < 2 ^ 31) (hb : b < 2 ^ 31) (kt : b ≤ a → XR G M R F ws tgt lv st) (kf : a < b → XR G M R F ws (pc + 3) lv st) : XR G M R F ws pc lv (.int (nI b) :: .int (nI a) :: st) := by
  have z := pk_le (x := nI b) (y := nI a) b a (A := XR G M R F ws tgt lv st) (B := XR G M R F ws (pc + 3) lv st) (fun h => kt h) (fun h => kf h) rfl rfl hb ha
  exact XR.icmp_ge hd ht z.1 z.2
theorem XR.icmp_gt {x y : Int32} {off : Int} {tgt : Nat} (hd : decode M.2.1 pc = .ok (.if_icmp .gt off, 3)) (ht : (pc : Int) + off = (tgt : Int)) (kt : y < x → XR G M R F ws tgt lv st) (kf : ¬ y < x → XR G M R F ws (pc + 3) lv st) : XR G M R F ws pc lv (.int y :: .int x :: st) := by
  intro p e s m args below meth c ls hf hP hD hl
  exact lv_icmp_gt hf.1 hf.2.1 hd ht (fun h => kt h p e s m args below meth c ls hf hP hD hl) (fun h => kf h p e s m args below meth c ls hf hP hD hl)
theorem XR.if_gt {x : Int32} {off : Int} {tgt : Nat} (hd : decode M.2.1 pc = .ok (.ifCond .gt off, 3)) (ht : (pc : Int) + off = (tgt : Int)) (kt : 0 < x → XR G M R F ws tgt lv st) (kf : ¬ 0 < x → XR G M R F ws (pc + 3) lv st) : XR G M R F ws pc lv (.int x :: st) := by
  intro p e s m args below meth c ls hf hP hD hl
  exact lv_if_gt hf.1 hf.2.1 hd ht (fun h => kt h p e s m args below meth c ls hf hP hD hl) (fun h => kf h p e s m args below meth c ls hf hP hD hl)
theorem XR.ncmp_gt {a b : Nat} {off : Int} {tgt : Nat} (hd : decode M.2.1 pc = .ok (.if_icmp .gt off, 3)) (ht : (pc : Int) + off = (tgt : Int)) (ha : a < 2 ^ 31) (hb : b < 2 ^ 31) (kt : b < a → XR G M R F ws tgt lv st) (kf : a ≤ b → XR G M R F ws (pc + 3) lv st) : XR G M R F ws pc lv (.int (nI b) :: .int (nI a) :: st) := by
  have z := pk_lt (x := nI b) (y := nI a) b a (A := XR G M R F ws tgt lv st) (B := XR G M R F ws (pc + 3) lv st) (fun h => kt h) (fun h => kf h) rfl rfl hb ha
  exact XR.icmp_gt hd ht z.1 z.2
theorem XR.nif_gt {a : Nat} {off : Int} {tgt : Nat} (hd : decode M.2.1 pc = .ok (.ifCond .gt off, 3)) (ht : (pc : Int) + off = (tgt : Int)) (ha : a < 2 ^ 31) (kt : 0 < a → XR G M R F ws tgt lv st) (kf : a = 0 → XR G M R F ws (pc + 3) lv st) : XR G M R F ws pc lv (.int (nI a) :: st) := by
  have z := pk_lt (x := (0 : Int32)) (y := nI a) 0 a (A := XR G M R F ws tgt lv st) (B := XR G M R F ws (pc + 3) lv st) (fun h => kt (by omega)) (fun h => kf (by omega)) rfl rfl (by decide) ha
  exact XR.if_gt hd ht z.1 z.2
theorem XR.icmp_le {x y : Int32} {off : Int} {tgt : Nat} (hd : decode M.2.1 pc = .ok (.if_icmp .le off, 3)) (ht : (pc : Int) + off = (tgt : Int)) (kt : x ≤ y → XR G M R F ws tgt lv st) (kf : ¬ x ≤ y → XR G M R F ws (pc + 3) lv st) : XR G M R F ws pc lv (.int y :: .int x :: st) := by
  intro p e s m args below meth c ls hf hP hD hl
  exact lv_icmp_le hf.1 hf.2.1 hd ht (fun h => kt h p e s m args below meth c ls hf hP hD hl) (fun h => kf h p e s m args below meth c ls hf hP hD hl)
theorem XR.if_le {x : Int32} {off : Int} {tgt : Nat} (hd : decode M.2.1 pc = .ok (.ifCond .le off, 3)) (ht : (pc : Int) + off = (tgt : Int)) (kt : x ≤ 0 → XR G M R F ws tgt lv st) (kf : ¬ x ≤ 0 → XR G M R F ws (pc + 3) lv st) : XR G M R F ws pc lv (.int x :: st) := by
  intro p e s m args below meth c ls hf hP hD hl
  exact lv_if_le hf.1 hf.2.1 hd ht (fun h => kt h p e s m args below meth c ls hf hP hD hl) (fun h => kf h p e s m args below meth c ls hf hP hD hl)
theorem XR.ncmp_le {a b : Nat} {off : Int} {tgt : Nat} (hd : decode M.2.1 pc = .ok (.if_icmp .le off, 3)) (ht : (pc : Int) + off = (tgt : Int)) (ha : a < 2 ^ 31) (hb : b < 2 ^ 31) (kt : a ≤ b → XR G M R F ws tgt lv st) (kf : b < a → XR G M R F ws (pc + 3) lv st) : XR G M R F ws pc lv (.int (nI b) :: .int (nI a) :: st) := by
  have z := pk_le (x := nI a) (y := nI b) a b (A := XR G M R F ws tgt lv st) (B := XR G M R F ws (pc + 3) lv st) (fun h => kt h) (fun h => kf h) rfl rfl ha hb
  exact XR.icmp_le hd ht z.1 z.2
theorem XR.nif_le {a : Nat} {off : Int} {tgt : Nat} (hd : decode M.2.1 pc = .ok (.ifCond .le off, 3)) (ht : (pc : Int) + off = (tgt : Int)) (ha : a < 2 ^ 31) (kt : a = 0 → XR G M R F ws tgt lv st) (kf : 0 < a → XR G M R F ws (pc + 3) lv st) : XR G M R F ws pc lv (.int (nI a) :: st) := by
  have z := pk_le (x := nI a) (y := (0 : Int32)) a 0 (A := XR G M R F ws tgt lv st) (B := XR G M R F ws (pc + 3) lv st) (fun h => kt (by omega)) (fun h => kf (by omega)) rfl rfl ha (by decide)
  exact XR.if_le hd ht z.1 z.2
theorem XR.tabIn {dflt lo hi : Int} {offs : Array Int} {len : Nat} {x : Int32} {off : Int} {tgt : Nat} (hd : decode M.2.1 pc = .ok (.tableswitch dflt lo hi offs, len)) (h1 : ¬ x.toInt < lo) (h2 : ¬ hi < x.toInt) (ho : offs[(x.toInt - lo).toNat]? = some off) (ht : (pc : Int) + off = (tgt : Int)) (k : XR G M R F ws tgt lv st) : XR G M R F ws pc lv (.int x :: st) := by
  intro p e s m args below meth c ls hf hP hD hl
  exact lv_tableIn hf.1 hf.2.1 hd h1 h2 ho ht (k p e s m args below meth c ls hf hP hD hl)
theorem XR.tabOut {dflt lo hi : Int} {offs : Array Int} {len : Nat} {x : Int32} {tgt : Nat} (hd : decode M.2.1 pc = .ok (.tableswitch dflt lo hi offs, len)) (h : x.toInt < lo ∨ hi < x.toInt) (ht : (pc : Int) + dflt = (tgt : Int)) (k : XR G M R F ws tgt lv st) : XR G M R F ws pc lv (.int x :: st) := by
  intro p e s m args below meth c ls hf hP hD hl
  exact lv_tableOut hf.1 hf.2.1 hd h ht (k p e s m args below meth c ls hf hP hD hl)
theorem XR.tp {x y : Int32} (h : x = y) (k : XR G M R F ws pc lv (.int y :: st)) : XR G M R F ws pc lv (.int x :: st) := by rw [h]; exact k
theorem XR.cg {ws2 : va_W} {lv2 : List (Nat × Value)} {st2 : List Value} (h1 : ws = ws2) (h2 : lv = lv2) (h3 : st = st2) (k : XR G M R F ws2 pc lv2 st2) : XR G M R F ws pc lv st := by rw [h1, h2, h3]; exact k
theorem XR.lvs {lv2 : List (Nat × Value)} (is : List Nat) (h : lv_pick lv is = lv2) (k : XR G M R F ws pc lv2 st) : XR G M R F ws pc lv st := by
  intro p e s m args below meth c ls hf hP hD hl
  exact k p e s m args below meth c ls hf hP hD (lv_sub hl is h)
theorem XR.sub {ws2 : va_W} (is : List Nat) (h1 : is.filterMap (fun i => ws[i]?) = ws2) (hn : va_nd is = true) (h2 : is.map (fun i => ws[i]?) = ws2.map some) (k : XR G M R F ws2 pc lv st) : XR G M R F ws pc lv st := by
  intro p e s m args below meth c ls hf hP hD hl
  exact k p e s m args below meth c ls hf (hP.sub is h1) (hD.sub is hn h2) hl
theorem XR.wm {ws2 : va_W} (h1 : ∀ H : Heap, va_P G.1 xc_cl ws H → va_P G.1 xc_cl ws2 H) (h2 : va_D (xg_A G) ws → va_D (xg_A G) ws2) (k : XR G M R F ws2 pc lv st) : XR G M R F ws pc lv st := by
  intro p e s m args below meth c ls hf hP hD hl
  exact k p e s m args below meth c ls hf (h1 _ hP) (h2 hD) hl
theorem XR.get {idx ci f q0 a : Nat} {fs : List Value} {v : Value} (hl0 : xx_fl M.1.cls idx ci f) (hd : decode M.2.1 pc = .ok (.getfield idx, 3)) (he : ws[q0]? = some (a, .inr (ci, fs))) (hv : fs[f]? = some v) (k : XR G M R F ws (pc + 3) lv (v :: st)) : XR G M R F ws pc lv (.ref a :: st) := by
  intro p e s m args below meth c ls hf hP hD hl
  obtain ⟨C, T, N, ty, hcf, hk, hlk⟩ := hl0
  have hen := hf.2.2.2.2.2.2.2.2
  have hts : ∀ w ∈ xw_g, w.before args s = true := fun w h => hen.1 w h args
  rcases hlk with hlk | ⟨host, hlk⟩
  · exact va_get (D := G.1) hf.1 hf.2.1 hts hcf.2.1 hf.2.2.2.2.2.1 hen.2.2 hP q0 he hcf.1 f hk (hts _ hlk) (fun _ h => h) hv hd (k p e s m args below meth c ls hf hP hD hl)
  · exact va_getN (D := G.1) hf.1 hf.2.1 hts hcf.2.1 hf.2.2.2.2.2.1 hen.2.2 hP q0 he hcf.1 f hk (va_Nw.use rfl (hen.2.1.1 _ hlk)) (fun _ h => h) hv hd (k p e s m args below meth c ls hf hP hD hl)
theorem XR.iald {q0 a n j : Nat} {f : Nat → Int32} (hd : decode M.2.1 pc = .ok (.iaload, 1)) (he : ws[q0]? = some (a, .inl (G.2.1 1, n, .inl f))) (hj : j < n) (hn : n < 2 ^ 31) (k : XR G M R F ws (pc + 1) lv (.int (f j) :: st)) : XR G M R F ws pc lv (.int (nI j) :: .ref a :: st) := by
  intro p e s m args below meth c ls hf hP hD hl
  refine va_iald (D := G.1) hf.1 hf.2.1 hf.2.2.2.2.2.2.2.2.2.2 hP q0 1 he rfl (pk_in j n hj rfl hn) hd ?_
  rw [pk_cl j rfl (by omega)]
  exact k p e s m args below meth c ls hf hP hD hl
theorem XR.bald {q0 a n j : Nat} {f : Nat → Int32} (hd : decode M.2.1 pc = .ok (.baload, 1)) (he : ws[q0]? = some (a, .inl (G.2.1 0, n, .inl f))) (hj : j < n) (hn : n < 2 ^ 31) (k : XR G M R F ws (pc + 1) lv (.int (f j) :: st)) : XR G M R F ws pc lv (.int (nI j) :: .ref a :: st) := by
  intro p e s m args below meth c ls hf hP hD hl
  refine va_bald (D := G.1) hf.1 hf.2.1 hf.2.2.2.2.2.2.2.2.2.2 hP q0 0 he rfl (pk_in j n hj rfl hn) hd ?_
  rw [pk_cl j rfl (by omega)]
  exact k p e s m args below meth c ls hf hP hD hl
theorem XR.lald {q0 a n j : Nat} {f : Nat → Int64} (hd : decode M.2.1 pc = .ok (.laload, 1)) (he : ws[q0]? = some (a, .inl (G.2.1 2, n, .inr (.inl f)))) (hj : j < n) (hn : n < 2 ^ 31) (k : XR G M R F ws (pc + 1) lv (.long (f j) :: st)) : XR G M R F ws pc lv (.int (nI j) :: .ref a :: st) := by
  intro p e s m args below meth c ls hf hP hD hl
  refine va_lald (D := G.1) hf.1 hf.2.1 hf.2.2.2.2.2.2.2.2.2.2 hP q0 2 he rfl (pk_in j n hj rfl hn) hd ?_
  rw [pk_cl j rfl (by omega)]
  exact k p e s m args below meth c ls hf hP hD hl
theorem XR.aald {q0 a n j : Nat} {f : Nat → Option Nat} (hd : decode M.2.1 pc = .ok (.aaload, 1)) (he : ws[q0]? = some (a, .inl (G.2.1 3, n, .inr (.inr (.inr (.inr f)))))) (hj : j < n) (hn : n < 2 ^ 31) (k : XR G M R F ws (pc + 1) lv (va_rf (f j) :: st)) : XR G M R F ws pc lv (.int (nI j) :: .ref a :: st) := by
  intro p e s m args below meth c ls hf hP hD hl
  refine va_aldq (D := G.1) hf.1 hf.2.1 hf.2.2.2.2.2.2.2.2.2.2 hP q0 3 he rfl (pk_in j n hj rfl hn) hd ?_
  rw [pk_cl j rfl (by omega)]
  exact k p e s m args below meth c ls hf hP hD hl
theorem XR.alen {q0 a t0 : Nat} {x : vp_A} {ty : FieldType} (hd : decode M.2.1 pc = .ok (.arraylength, 1)) (he : ws[q0]? = some (a, .inl (G.2.1 t0, x))) (ht : (xg_ty G)[t0]? = some (G.2.1 t0, ty)) (k : XR G M R F ws (pc + 1) lv (.int (nI x.1) :: st)) : XR G M R F ws pc lv (.ref a :: st) := by
  intro p e s m args below meth c ls hf hP hD hl
  exact va_alen (D := G.1) hf.1 hf.2.1 hf.2.2.2.2.2.2.2.2.2.2 hP q0 t0 he ht rfl hd (k p e s m args below meth c ls hf hP hD hl)
theorem XR.mmin {idx : Nat} {x y : Int32} (hd : decode M.2.1 pc = .ok (.invokestatic idx, 3)) (h1 : Cond.methodLink M.1.cls idx Lib.Math.min.name ∈ xw_g) (h2 : Cond.static Lib.Math.min.name ∈ xw_g) (h3 : Cond.initialized "java/lang/Math" ∈ xw_g) (h4 : Cond.code Lib.Math.min.name Lib.Math.min.code 2 (some .int) ∈ xw_g) (hR : 1 ≤ R.frames) (hR2 : (st.map fun v => v.category).sum + 13 ≤ R.locals) (hC : 0 ≤ R.cells ∧ 0 ≤ R.slots) (k : XR G M R F ws (pc + 3) lv (.int (if y < x then y else x) :: st)) : XR G M R F ws pc lv (.int y :: .int x :: st) := by
  intro p e s m args below meth c ls hf hP hD hl
  have hen := hf.2.2.2.2.2.2.2.2
  exact va_mmin hf.1 hf.2.1 (by rw [hf.2.2.1]; exact hl.1.symm) hf.2.2.2.2.2.1 (hen.1 _ h1 args) (hen.1 _ h2 args) (hen.1 _ h3 args) (hen.1 _ h4 args) hR hR2 hC.1 hC.2 hd (k p e s m args below meth c ls hf hP hD hl)
theorem XR.mmax {idx : Nat} {x y : Int32} (hd : decode M.2.1 pc = .ok (.invokestatic idx, 3)) (h1 : Cond.methodLink M.1.cls idx Lib.Math.max.name ∈ xw_g) (h2 : Cond.static Lib.Math.max.name ∈ xw_g) (h3 : Cond.initialized "java/lang/Math" ∈ xw_g) (h4 : Cond.code Lib.Math.max.name Lib.Math.max.code 2 (some .int) ∈ xw_g) (hR : 1 ≤ R.frames) (hR2 : (st.map fun v => v.category).sum + 13 ≤ R.locals) (hC : 0 ≤ R.cells ∧ 0 ≤ R.slots) (k : XR G M R F ws (pc + 3) lv (.int (if x < y then y else x) :: st)) : XR G M R F ws pc lv (.int y :: .int x :: st) := by
  intro p e s m args below meth c ls hf hP hD hl
  have hen := hf.2.2.2.2.2.2.2.2
  exact va_mmax hf.1 hf.2.1 (by rw [hf.2.2.1]; exact hl.1.symm) hf.2.2.2.2.2.1 (hen.1 _ h1 args) (hen.1 _ h2 args) (hen.1 _ h3 args) (hen.1 _ h4 args) hR hR2 hC.1 hC.2 hd (k p e s m args below meth c ls hf hP hD hl)
theorem XR.callS {Mk : XM} {n idx d : Nat} {As rest : List Value} {r : Option Value} (hM : MR G Mk (xr d 0 0) As ws r) (hk : xx_mt Mk n) (hst : Cond.static Mk.1 ∈ xw_g) (hlk : Cond.methodLink M.1.cls idx Mk.1 ∈ xw_g) (hn : As.length = n) (hd : decode M.2.1 pc = .ok (.invokestatic idx, 3)) (hR : d + 1 ≤ R.frames ∧ 8 + (Mk.2.2.1 + 11) + 40 * d ≤ R.locals) (hw : (rest.map fun v => v.category).sum ≤ 8) (hst0 : st = As.reverse ++ rest)
    (k : XR G M R F ws (pc + 3) lv (r.toList ++ rest)) : XR G M R F ws pc lv st := by
  intro p e s m args below meth c ls hf hP hD hl
  subst hst0
  have hen := hf.2.2.2.2.2.2.2.2
  have hts : ∀ w ∈ xw_g, w.before args s = true := fun w h => hen.1 w h args
  exact xr_after (va_runS (Ts := xw_g) (own := M.1.cls) ⟨hf.1, hf.2.1, hf.2.2.1, hf.2.2.2.2.2.1, hts⟩ hM ⟨callB_of n hts (xx_good hk.1) rfl rfl rfl (hts _ hk.2.1) (hts _ hlk) hk.2.2 hR, hts _ hst⟩ ⟨xx_blind G As ws, fun U hU hW => ⟨rfl, by rw [hU]; exact hf.2.2.2.2.2.2.2.1, hen.moved hW (fun _ _ _ => by rw [hU]), by rw [hU]; exact hP, hD⟩⟩ rfl hn hl.1 rfl (lv_room hw) hd ⟨Nat.zero_le _, Nat.zero_le _⟩) (k p e s m args below meth c ls hf hP hD hl)
theorem XR.callV {Mk : XM} {n idx ci q0 b d : Nat} {As rest fs : List Value} {q : vw_C} {r : Option Value} (hM : MR G Mk (xr d 0 0) (.ref b :: As) ws r) (hk : xx_mt Mk n) (hi : Cond.instanceMethod Mk.1 ∈ xw_g ∧ Cond.selects Mk.1.cls Mk.1 Mk.1 ∈ xw_g) (hlk : Cond.methodLink M.1.cls idx Mk.1 ∈ xw_g ∨ ∃ host : String, Cond.methodLinkNest M.1.cls idx Mk.1 host ∈ xw_n) (hn : As.length = n) (hd : decode M.2.1 pc = .ok (.invokevirtual idx, 3)) (he : ws[q0]? = some (b, .inr (ci, fs))) (hc : xc_cl[ci]? = some q) (hq : q.1 = Mk.1.cls) (hR : d + 1 ≤ R.frames ∧ 8 + (Mk.2.2.1 + 11) + 40 * d ≤ R.locals) (hw : (rest.map fun v => v.category).sum ≤ 8) (hst0 : st = As.reverse ++ .ref b :: rest)
    (k : XR G M R F ws (pc + 3) lv (r.toList ++ rest)) : XR G M R F ws pc lv st := by
  intro p e s m args below meth c ls hf hP hD hl
  subst hst0
  have hen := hf.2.2.2.2.2.2.2.2
  have hts : ∀ w ∈ xw_g, w.before args s = true := fun w h => hen.1 w h args
  have hrc := va_recv hen.2.2 hP hc he
  rw [hq] at hrc
  have hp : PreV s s.heap Mk.1.cls b (xx_pc G (.ref b :: As) ws) As := ⟨xx_blind G _ ws, hrc, fun U hU hW => ⟨rfl, by rw [hU]; exact hf.2.2.2.2.2.2.2.1, hen.moved hW (fun _ _ _ => by rw [hU]), by rw [hU]; exact hP, hD⟩⟩
  rcases hlk with hlk | ⟨host, hlk⟩
  · exact xr_after (va_runV (Ts := xw_g) (own := M.1.cls) ⟨hf.1, hf.2.1, hf.2.2.1, hf.2.2.2.2.2.1, hts⟩ hM ⟨callB_of n hts (xx_good hk.1) rfl rfl rfl (hts _ hk.2.1) (hts _ hlk) hk.2.2 hR, hts _ hi.1, hts _ hi.2⟩ hp rfl hn hl.1 rfl (lv_room hw) hd ⟨Nat.zero_le _, Nat.zero_le _⟩) (k p e s m args below meth c ls hf hP hD hl)
  · exact xr_after (va_runVN (Ts := xw_g) (own := M.1.cls) ⟨hf.1, hf.2.1, hf.2.2.1, hf.2.2.2.2.2.1, hts⟩ hM ⟨va_cnB n hts (xx_good hk.1) rfl rfl rfl (hen.2.1.1 _ hlk) (hts _ hk.2.1) hk.2.2 hR, hts _ hi.1, hts _ hi.2⟩ hp rfl hn hl.1 rfl (lv_room hw) hd ⟨Nat.zero_le _, Nat.zero_le _⟩) (k p e s m args below meth c ls hf hP hD hl)
theorem XR.iret {v : Int32} (hd : decode M.2.1 pc = .ok (.ireturn, 1)) (hr : M.2.2.2 = some .int) : XR G M R (xr_F (some (.int v))) ws pc lv [.int v] := by
  intro p e s m args below meth c ls hf hP hD hl
  exact W.iret hf.1 hf.2.1 (hf.2.2.2.1.trans hr) (fun t ht hW => ⟨rfl, ht⟩) (fun q h => by cases h) hd hf.2.2.2.2.1
theorem XR.zret {v : Int32} (hd : decode M.2.1 pc = .ok (.ireturn, 1)) (hr : M.2.2.2 = some .boolean) (hn : narrow .boolean (.int v) = .int v) : XR G M R (xr_F (some (.int v))) ws pc lv [.int v] := by
  intro p e s m args below meth c ls hf hP hD hl
  exact W.zret hf.1 hf.2.1 (hf.2.2.2.1.trans hr) hn (fun t ht hW => ⟨rfl, ht⟩) (fun q h => by cases h) hd hf.2.2.2.2.1
theorem XR.aret {a : Nat} {t : FieldType} (hd : decode M.2.1 pc = .ok (.areturn, 1)) (hr : M.2.2.2 = some t) (ht : (∃ n, t = .object n) ∨ ∃ u, t = .array u) : XR G M R (xr_F (some (.ref a))) ws pc lv [.ref a] := by
  intro p e s m args below meth c ls hf hP hD hl
  exact W.aret hf.1 hf.2.1 (hf.2.2.2.1.trans hr) ht (Or.inr ⟨a, rfl⟩) (fun t ht hW => ⟨rfl, ht⟩) (fun q h => by cases h) hd hf.2.2.2.2.1
theorem XX.callSr {Mk : XM} {n idx d : Nat} {As rest : List Value} {r : Option Value} (hM : MR G Mk (xr d 0 0) As ws r) (hk : xx_mt Mk n) (hst : Cond.static Mk.1 ∈ xw_g) (hlk : Cond.methodLink M.1.cls idx Mk.1 ∈ xw_g) (hn : As.length = n) (hd : decode M.2.1 pc = .ok (.invokestatic idx, 3)) (hR : d + 1 ≤ R.frames ∧ 8 + (Mk.2.2.1 + 11) + 40 * d ≤ R.locals) (hC : cells ≤ R.cells ∧ slots ≤ R.slots) (hw : (rest.map fun v => v.category).sum ≤ 8) (hst0 : st = As.reverse ++ rest)
    (k : XX G M R F cells slots ws (pc + 3) lv (r.toList ++ rest)) : XX G M R F cells slots ws pc lv st := by
  refine XX.callS hM.mm hk hst hlk hn hd hR ⟨hC.1, hC.2⟩ hw hst0 (fun r1 ws1 h => ?_)
  obtain ⟨h1, h2⟩ := h
  rw [h1, h2]
  exact k
theorem XX.callVr {Mk : XM} {n idx ci q0 b d : Nat} {As rest fs : List Value} {q : vw_C} {r : Option Value} (hM : MR G Mk (xr d 0 0) (.ref b :: As) ws r) (hk : xx_mt Mk n) (hi : Cond.instanceMethod Mk.1 ∈ xw_g ∧ Cond.selects Mk.1.cls Mk.1 Mk.1 ∈ xw_g) (hlk : Cond.methodLink M.1.cls idx Mk.1 ∈ xw_g ∨ ∃ host : String, Cond.methodLinkNest M.1.cls idx Mk.1 host ∈ xw_n) (hn : As.length = n) (hd : decode M.2.1 pc = .ok (.invokevirtual idx, 3)) (he : ws[q0]? = some (b, .inr (ci, fs))) (hc : xc_cl[ci]? = some q) (hq : q.1 = Mk.1.cls) (hR : d + 1 ≤ R.frames ∧ 8 + (Mk.2.2.1 + 11) + 40 * d ≤ R.locals) (hC : cells ≤ R.cells ∧ slots ≤ R.slots) (hw : (rest.map fun v => v.category).sum ≤ 8) (hst0 : st = As.reverse ++ .ref b :: rest)
    (k : XX G M R F cells slots ws (pc + 3) lv (r.toList ++ rest)) : XX G M R F cells slots ws pc lv st := by
  refine XX.callV hM.mm hk hi hlk hn hd he hc hq hR ⟨hC.1, hC.2⟩ hw hst0 (fun r1 ws1 h => ?_)
  obtain ⟨h1, h2⟩ := h
  rw [h1, h2]
  exact k
end
