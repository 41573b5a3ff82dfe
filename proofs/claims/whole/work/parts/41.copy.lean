/-! System.arraycopy between arrays of numbers -/
theorem ac_n : Cond.native arraycopyName ∈ xw_g := xw_in (mq_3 (List.mem_of_getElem? (i := 4) rfl)) rfl
theorem ac_s : Cond.static arraycopyName ∈ xw_g := xw_in (mq_3 (List.mem_of_getElem? (i := 3) rfl)) rfl
theorem ac_i : Cond.initialized "java/lang/System" ∈ xw_g := xw_in (mq_1 (List.mem_of_getElem? (i := 17) rfl)) rfl
section
variable {G : XG} {M : XM} {R : Room} {F : XF} {cells slots : Nat} {ws : va_W} {pc : Nat} {lv : List (Nat × Value)} {st : List Value}
theorem XX.copy {q0 q1 a0 a n0 n1 sp dp k idx t : Nat} {f g : Nat → Int32} {ty : FieldType} {ws2 : va_W} (hd : decode M.2.1 pc = .ok (.invokestatic idx, 3)) (h1 : Cond.methodLink M.1.cls idx arraycopyName ∈ xw_g) (he0 : ws[q0]? = some (a0, .inl (G.2.1 t, n0, .inl f))) (he1 : ws[q1]? = some (a, .inl (G.2.1 t, n1, .inl g))) (ht : (xg_ty G)[t]? = some (G.2.1 t, ty)) (hp : refKind ty = false) (b0 : sp + k ≤ n0) (b1 : dp + k ≤ n1) (m0 : n0 < 2 ^ 31) (m1 : n1 < 2 ^ 31) (hfit : ∀ i, i < k → fits ty (.int (f (sp + i))) = true) (hR : 1 ≤ R.frames) (hRl : (st.map fun v => v.category).sum + 18 ≤ R.locals) (h5 : ws.set q1 (a, .inl (G.2.1 t, n1, .inl (va_cpy f g sp dp k))) = ws2)
    (kk : XX G M R F cells slots ws2 (pc + 3) lv st) : XX G M R F cells slots ws pc lv (.int (nI k) :: .int (nI dp) :: .ref a :: .int (nI sp) :: .ref a0 :: st) := by
  intro p e s m args below meth c H locs ls hf hP hD hS hl
  subst h5
  have hen := hf.2.2.2.2.2.2.2.2
  have e1 : (nI sp).toNatClampNeg = sp := nI_clamp (by omega)
  have e2 : (nI dp).toNatClampNeg = dp := nI_clamp (by omega)
  have e3 : (nI k).toNatClampNeg = k := nI_clamp (by omega)
  refine va_copyi (D := G.1) (f := f) (g := g) (sp := nI sp) (dp := nI dp) (n := nI k) hf.1 hf.2.1 (by rw [hf.2.2.1]; exact hl.1.symm) hf.2.2.2.2.2.1 (hen.1 _ h1 args) (hen.1 _ ac_n args) (hen.1 _ ac_s args) (hen.1 _ ac_i args) hen.2.2 hP hD hS q0 q1 t t he0 he1 ht ht hp (nI_pos (by omega)) (nI_pos (by omega)) (nI_pos (by omega)) (by rw [e1, e3]; exact b0) (by rw [e2, e3]; exact b1) (by rw [e1, e3]; exact hfit) hR hRl hd ?_
  rw [e1, e2, e3]
  exact fun H1 locs1 hP1 hD1 hS1 => kk p e s m args below meth c H1 locs1 ls hf hP1 hD1 hS1 hl
end
