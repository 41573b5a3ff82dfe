/-! THE CLAIM OUT OF ONE WALK OF THE LAW'S BODY. Your part is whole_start (and what it stands on); all else here is the same for every law, but numbers. -/
def R_law : String := "LineSorterLaw"
def lw_P (b : Addr) (xs : List Int32) (args : Array Value) (s : State) : Prop := args = #[.ref b] ∧ s.IntsAt b xs ∧ xs.length ≤ 3072 ∧ (Jvm.Cond.and given_1 narrow_1).before args s = true
def lw_Q (_ : Array Value) (s : State) (o : Outcome) (t : State) : Prop := o = .returned (some (.int 1)) ∧ Framed s o t [] 601024 7293034
def lw_Z (below : List Frame) (a : Array Value) (s : State) : State → Prop := fun t => ∃ o, t.status = .running ∧ Ended t below o ∧ lw_Q a s o t
/-- the law's own end, with 1 on the stack, nothing written that was there before, its room as the claim has it -/
theorem lw_ret {p : Program} {l : Launch} {e : Env} {s : State} {m : MethodId} {below : List Frame} {meth : Method} {c : Code} {b : Nat} (hx : p.tables.exec = Jvm.exec) (hb : c.code = code) (hr : meth.sig.returnType = ret) (hlocks : meth.locks = false) {pc : Nat} {H : Heap} {ls : Array Slot} (hdg : decode code pc = .ok (.ireturn, 1)) : W p l e room_1 s m #[Value.ref b] below meth c H [] 601024 7293034 (lw_Z below #[Value.ref b] s) (F0 m pc ls [.int 1]) := by
  intro T hT X
  obtain ⟨fs, hret, hrun, hended, hW, hframe⟩ := X.leave (v := some (.int 1)) (hlocks := hlocks) (fun h => by rw [hr] at h; cases h)
  have hmeth' : T.vm.method? m = some meth := X.method'
  refine ⟨T.setFrames fs, ?_, .returned (some (.int 1)), hrun, hended, rfl, ⟨_, rfl⟩, hW, hframe⟩
  jvm_step X.here [X.here.top, hx, hb, hdg, hmeth', hr, ret, narrow_b1]
  (try refine ⟨rfl, ?_⟩); (try refine ⟨rfl, ?_⟩)
  first | (intro acts; rw [hret _ acts rfl rfl rfl]) | rw [hret _ _ rfl rfl rfl]
  exact Steps.refl _
/-- what holds at the law's entry: the machine, the code, the tables' words (any of lw_tbl by 'hts w (by decide +kernel)'), the script of L ints xs at the cell b, what the Statement gives of the start (any of its parts by flat_of_before) -/
def lw_At (p : Program) (s : State) (m : MethodId) (meth : Method) (c : Code) (b L : Nat) (xs : Nat → Int32) : Prop :=
  p.tables.exec = Jvm.exec ∧ c.code = code ∧ meth.sig.returnType = ret ∧ c.maxLocals = 7 ∧ s.vm.findClass R_law = some m.cls ∧ (∀ w ∈ lw_tbl, w.before #[Value.ref b] s = true) ∧ va_X b L xs s s.heap ∧ b < s.heap.size ∧ meth.locks = false ∧ (Jvm.Cond.and given_1 narrow_1).before #[Value.ref b] s = true
/-! the law as a method, its own rules -/
abbrev m_L_law : XM := (x, code, 7, ret)
/-- the law's end, from a start with the script xs of L ints at b -/
def LF (G : XG) (b L : Nat) (xs : Nat → Int32) : XF := fun below args s t => (args = #[Value.ref b] ∧ va_X b L xs s s.heap ∧ b < s.heap.size ∧ s.heap.size ≤ G.2.2.1) → lw_Z below #[Value.ref b] s t
theorem w_vac {p : Program} {l : Launch} {e : Env} {R : Room} {s : State} {m : MethodId} {args : Array Value} {below : List Frame} {meth : Method} {c : Code} {H : Heap} {locs : List Loc} {cells slots : Nat} {Q : State → Prop} {g : JFrame} (h : ∀ t, Q t) : W p l e R s m args below meth c H locs cells slots Q g := fun _ _ _ => ⟨_, Steps.refl _, h _⟩
section
variable {G : XG} {M : XM} {R : Room} {cells slots : Nat} {ws : va_W} {pc : Nat} {lv : List (Nat × Value)} {st : List Value} {b L : Nat} {xs : Nat → Int32}
theorem XX.slen (hd : decode M.2.1 pc = .ok (.arraylength, 1)) (k : XX G M R (LF G b L xs) cells slots ws (pc + 1) lv (.int (nI L) :: st)) : XX G M R (LF G b L xs) cells slots ws pc lv (.ref b :: st) := by
  intro p e s m args below meth c H locs ls hf hP hD hS hl
  by_cases hh : args = #[Value.ref b] ∧ va_X b L xs s s.heap ∧ b < s.heap.size ∧ s.heap.size ≤ G.2.2.1
  · exact va_slen (A := xg_A G) hf.1 hf.2.1 hh.2.1 hh.2.2.1 (fun h => absurd (show G.2.2.1 ≤ b from h) (by have h1 := hh.2.2.2; have h2 := hh.2.2.1; omega)) hS hd (k p e s m args below meth c H locs ls hf hP hD hS hl)
  · exact w_vac (fun t z => absurd z hh)
theorem XX.sld {j : Nat} (hd : decode M.2.1 pc = .ok (.iaload, 1)) (hj : j < L) (hL : L < 2 ^ 31) (k : XX G M R (LF G b L xs) cells slots ws (pc + 1) lv (.int (xs j) :: st)) : XX G M R (LF G b L xs) cells slots ws pc lv (.int (nI j) :: .ref b :: st) := by
  intro p e s m args below meth c H locs ls hf hP hD hS hl
  by_cases hh : args = #[Value.ref b] ∧ va_X b L xs s s.heap ∧ b < s.heap.size ∧ s.heap.size ≤ G.2.2.1
  · refine va_sld (A := xg_A G) hf.1 hf.2.1 hh.2.1 hh.2.2.1 (fun h => absurd (show G.2.2.1 ≤ b from h) (by have h1 := hh.2.2.2; have h2 := hh.2.2.1; omega)) hS (pk_in j L hj rfl hL) hd ?_
    rw [pk_cl j rfl (by omega)]
    exact k p e s m args below meth c H locs ls hf hP hD hS hl
  · exact w_vac (fun t z => absurd z hh)
theorem XX.lret (hd : decode code pc = .ok (.ireturn, 1)) (hc : cells ≤ 601024) (hs : slots ≤ 7293034) : XX G m_L_law room_1 (LF G b L xs) cells slots ws pc lv [.int 1] := by
  intro p e s m args below meth c H locs ls hf hP hD hS hl
  by_cases hh : args = #[Value.ref b] ∧ va_X b L xs s s.heap ∧ b < s.heap.size ∧ s.heap.size ≤ G.2.2.1
  · obtain ⟨rfl, hX, hb, hsz⟩ := id hh
    refine va_forget (fun q hq => Nat.le_trans hsz (hS.2.2 q hq)) ?_
    refine W.widen hc hs ?_
    intro T hT X
    obtain ⟨t, a1, a2⟩ := lw_ret (l := G.2.2.2) (e := e) (s := s) (below := below) (b := b) (H := H) (ls := ls) hf.1 hf.2.1 hf.2.2.2.1 hf.2.2.2.2.1 hd T hT X
    exact ⟨t, a1, fun _ => a2⟩
  · exact w_vac (fun t z => absurd z hh)
end
/-- the law's world: the reference, the class, the row of one answer -/
abbrev LO (G : XG) (o : Nat) (gg : Nat → Int64) : Nat × va_E := (o, .inl (G.2.1 2, 1, .inr (.inl gg)))
section
variable {G : XG} {qm : Nat → Nat} {xm : Nat → Int32} {fm : Nat → Nat → Int32} {q : Nat → Nat} {x : Nat → Int32} {n : Nat → Nat} {f : Nat → Nat → Int32} {kf : Nat → Option Nat} {ks : va_W} {o : Nat × va_E}
theorem lw_pm : (wM G qm xm fm (wC G q x n f kf (ks ++ [o]))).Perm (wC G q x n f kf (ks ++ o :: wM G qm xm fm [])) := by
  have h : (wM G qm xm fm [] ++ wC G q x n f kf (ks ++ [o])).Perm (wC G q x n f kf (ks ++ [o]) ++ wM G qm xm fm []) := List.perm_append_comm
  have e : wC G q x n f kf (ks ++ [o]) ++ wM G qm xm fm [] = wC G q x n f kf (ks ++ o :: wM G qm xm fm []) := by
    show wC G q x n f kf ((ks ++ [o]) ++ wM G qm xm fm []) = _
    rw [List.append_assoc]; rfl
  rw [e] at h
  exact h
theorem lw_po : (wM G qm xm fm (wC G q x n f kf (ks ++ [o]))).Perm (o :: wM G qm xm fm (wC G q x n f kf ks)) := by
  have h : (wM G qm xm fm (wC G q x n f kf ks) ++ [o]).Perm (o :: wM G qm xm fm (wC G q x n f kf ks)) := List.perm_append_singleton _ _
  exact h
end
/-- from pc on, whatever state both sides hold alike, the law comes to its end -/
def LST (G : XG) (F : XF) (b a1 o : Nat) (qm : Nat → Nat) (C S pc k : Nat) : Prop := ∀ (q : Nat → Nat) (x : Nat → Int32) (n : Nat → Nat) (f : Nat → Nat → Int32) (kf : Nat → Option Nat) (ks : va_W) (bc : Nat) (br ka : Nat → Nat) (xm : Nat → Int32) (fm : Nat → Nat → Int32) (gg : Nat → Int64) (s : SS) (cells slots : Nat), q 0 = a1 → CI s x n f kf ks bc br ka → MI s xm fm → cells ≤ C → slots ≤ S + (2 * n 0 + 2 * n 1) →
  XX G m_L_law room_1 F cells slots (wM G qm xm fm (wC G q x n f kf (ks ++ [LO G o gg]))) pc [(0, .ref b), (1, .ref a1), (2, .ref (qm 0)), (3, .ref o), (4, .int (nI (6 * k)))] []
theorem lg_cmp_self (a : Int64) : lg_cmp a a = 0 := by
  unfold lg_cmp
  simp
theorem nI_nul {t : Nat} (h : nI t = 0) (ht : t < 2 ^ 31) : t = 0 := by
  have := congrArg Int32.toInt h
  rw [nI_toInt ht] at this
  have e : (0 : Int32).toInt = 0 := rfl
  omega
theorem gn_le {len bc : Nat} {n : Nat → Nat} (h1 : len + 4 ≤ 20000) (h2 : bc + 4 ≤ 20000) (h3 : n 0 ≤ 40000) (h4 : n 1 ≤ 40000) : gn len bc n 0 ≤ 40000 ∧ gn len bc n 1 ≤ 40000 := ⟨gr_le h1 h3, gr_le h2 h4⟩
theorem gn5_le {len bc : Nat} {n : Nat → Nat} {a b c d e : Int32} (h1 : len + 20 ≤ 20000) (h2 : bc ≤ len) (h3 : n 0 ≤ 40000) (h4 : n 1 ≤ 40000) : gn5 len bc n a b c d e 0 ≤ 40000 ∧ gn5 len bc n a b c d e 1 ≤ 40000 := by
  have ha := nbw_le a 4
  have hb := nbw_le b 4
  have hcc := nbw_le c 4
  have hd := nbw_le d 4
  unfold gn5
  have e1 := gn_le (len := len) (bc := bc) (n := n) (by omega) (by omega) h3 h4
  generalize gn len bc n = n1 at e1 ⊢
  have e2 := gn_le (len := len + 4) (bc := bc + nbw a 4) (n := n1) (by omega) (by omega) e1.1 e1.2
  generalize gn (len + 4) (bc + nbw a 4) n1 = n2 at e2 ⊢
  have e3 := gn_le (len := len + 4 + 4) (bc := bc + nbw a 4 + nbw b 4) (n := n2) (by omega) (by omega) e2.1 e2.2
  generalize gn (len + 4 + 4) (bc + nbw a 4 + nbw b 4) n2 = n3 at e3 ⊢
  have e4 := gn_le (len := len + 4 + 4 + 4) (bc := bc + nbw a 4 + nbw b 4 + nbw c 4) (n := n3) (by omega) (by omega) e3.1 e3.2
  generalize gn (len + 4 + 4 + 4) (bc + nbw a 4 + nbw b 4 + nbw c 4) n3 = n4 at e4 ⊢
  exact gn_le (by omega) (by omega) e4.1 e4.2
theorem fgr_le {s : SS} {bc : Nat} {n : Nat → Nat} {a b c d e : Int32} (h2 : bc ≤ s.len) (h3 : n 0 ≤ 40000) (h4 : n 1 ≤ 40000) : fgr (t_feed s) s.len bc n a b c d e ≤ 160000 := by
  unfold fgr
  split
  · rename_i h
    have h1 : s.len + 20 ≤ 20000 := by
      unfold t_feed tb at h
      rcases Nat.lt_or_ge 20000 (s.len + 20) with z | z
      · rw [if_pos (decide_eq_true z)] at h; cases h
      · exact z
    obtain ⟨g1, g2⟩ := gn5_le (a := a) (b := b) (c := c) (d := d) (e := e) h1 h2 h3 h4
    omega
  · omega
theorem t_sort_eq {s : SS} (h : SG s) : sel (t_sort s) (q_sort s) s = sel (t_sort s) (o_sort s) s ∧ (t_sort s = 0 → (q_sort s).rc = (o_sort s).rc) := by
  by_cases ht : t_sort s = 0
  · have hl : lnc s.B s.len ≤ 1000 := by
      unfold t_sort tb at ht
      rcases Nat.lt_or_ge 1000 (lnc s.B s.len) with z | z
      · rw [if_pos (decide_eq_true z)] at ht; cases ht
      · exact z
    have e := sort_eq h hl
    exact ⟨by rw [e], fun _ => by rw [e]⟩
  · exact ⟨by rw [sel_1 ht, sel_1 ht], fun z => absurd z ht⟩
theorem and31 (a : Int32) : ∃ j : Nat, a &&& nI 31 = nI j ∧ j ≤ 31 := by
  refine ⟨(a &&& nI 31).toBitVec.toNat, ?_, ?_⟩
  · apply Int32.toBitVec_inj.mp
    apply BitVec.eq_of_toNat_eq
    have h : (a &&& nI 31).toBitVec.toNat < 2 ^ 32 := (a &&& nI 31).toBitVec.isLt
    show _ = (Int32.ofNat _).toBitVec.toNat
    rw [Int32.toBitVec_ofNat']
    rw [BitVec.toNat_ofNat, Nat.mod_eq_of_lt h]
  · rw [Int32.toBitVec_and, BitVec.toNat_and]
    exact Nat.and_le_right
theorem law_cond {L k : Nat} (hL : L ≤ 3072) (hk : 6 * k ≤ L + 6) (h : ¬ nI L - nI 6 < nI (6 * k)) : 6 * k + 6 ≤ L := by
  rw [Int32.lt_iff_toInt_lt, nI_toInt (by omega), Int32.toInt_sub, nI_toInt (by omega), nI_toInt (by omega), Int.bmod_eq_of_le (by omega) (by omega)] at h
  omega
