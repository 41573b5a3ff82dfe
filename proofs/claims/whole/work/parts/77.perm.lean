/-! worlds in another order, or less of them -/
theorem va_P.mem {D : va_G} {cl : List vw_C} {ws ws2 : va_W} {H : Heap} (h : va_P D cl ws H) (hp : ∀ q, q ∈ ws2 → q ∈ ws) : va_P D cl ws2 H := by
  intro k q hk
  obtain ⟨i, hi⟩ := List.mem_iff_getElem?.mp (hp q (List.mem_of_getElem? hk))
  exact h i q hi
theorem va_D.nd {A : Nat → Prop} {ws : va_W} (h : va_D A ws) : (ws.map Prod.fst).Nodup ∧ ∀ q, q ∈ ws → A q.1 := by
  refine ⟨?_, fun q hq => ?_⟩
  · rw [List.Nodup, List.pairwise_iff_getElem]
    intro i j hi hj hij he
    rw [List.length_map] at hi hj
    rw [List.getElem_map, List.getElem_map] at he
    have := h.1 i j _ _ (List.getElem?_eq_getElem hi) (List.getElem?_eq_getElem hj) he
    omega
  · obtain ⟨i, hi⟩ := List.mem_iff_getElem?.mp hq
    exact h.2 i q hi
theorem va_D.of_nd {A : Nat → Prop} {ws : va_W} (h : (ws.map Prod.fst).Nodup) (h2 : ∀ q, q ∈ ws → A q.1) : va_D A ws := by
  refine ⟨?_, fun k q hk => h2 q (List.mem_of_getElem? hk)⟩
  intro i j p q hi hj he
  obtain ⟨hi1, hi2⟩ := List.getElem?_eq_some_iff.mp hi
  obtain ⟨hj1, hj2⟩ := List.getElem?_eq_some_iff.mp hj
  rw [List.Nodup, List.pairwise_iff_getElem] at h
  rcases Nat.lt_trichotomy i j with hl | hl | hl
  · exact absurd (by rw [List.getElem_map, List.getElem_map, hi2, hj2]; exact he) (h i j (by rw [List.length_map]; exact hi1) (by rw [List.length_map]; exact hj1) hl)
  · exact hl
  · exact absurd (by rw [List.getElem_map, List.getElem_map, hi2, hj2]; exact he.symm) (h j i (by rw [List.length_map]; exact hj1) (by rw [List.length_map]; exact hi1) hl)
theorem va_D.pm {A : Nat → Prop} {ws l ws2 : va_W} (h : va_D A ws) (hp : ws.Perm (l ++ ws2)) : va_D A ws2 := by
  obtain ⟨h1, h2⟩ := h.nd
  have h3 := (hp.map Prod.fst).nodup_iff.mp h1
  rw [List.map_append] at h3
  exact va_D.of_nd (List.nodup_append.mp h3).2.1 (fun q hq => h2 q (hp.mem_iff.mpr (List.mem_append_right _ hq)))
section
variable {G : XG} {M : XM} {R : Room} {F : XF} {cells slots : Nat} {ws : va_W} {pc : Nat} {lv : List (Nat × Value)} {st : List Value}
theorem XX.pm {l ws2 : va_W} (hp : ws.Perm (l ++ ws2)) (k : XX G M R F cells slots ws2 pc lv st) : XX G M R F cells slots ws pc lv st :=
  XX.wm (fun _ h => h.mem (fun q hq => hp.mem_iff.mpr (List.mem_append_right _ hq))) (fun h => h.pm hp) k
theorem XX.perm {ws2 : va_W} (hp : ws.Perm ws2) (k : XX G M R F cells slots ws2 pc lv st) : XX G M R F cells slots ws pc lv st := XX.pm (l := []) hp k
end
/-- the class's world without its bytes; without its breaks -/
def wC2 (G : XG) (q : Nat → Nat) (x : Nat → Int32) (n : Nat → Nat) (f : Nat → Nat → Int32) (kf : Nat → Option Nat) (kl : va_W) : va_W :=
  (q 0, .inr (0, [.ref (q 1), .ref (q 4), .ref (q 5), .ref (q 10), .ref (q 13), .ref (q 15), .ref (q 18), .int (x 0), .int (x 1), .int (x 2)])) ::
  (q 1, .inr (1, [.ref (q 2), .int (x 3), .ref (q 3), .int (x 4)])) ::
  (q 3, .inl (G.2.1 1, n 1, .inl (f 1))) ::
  (q 4, .inr (2, [.ref (q 1), .int (x 5)])) ::
  (q 5, .inr (3, [.ref (q 1), .ref (q 4), .ref (q 6), .ref (q 7), .ref (q 8), .ref (q 9), .int (x 6), .int (x 7), .int (x 8), .int (x 9)])) ::
  (q 6, .inl (G.2.1 3, 6, .inr (.inr (.inr (.inr kf))))) ::
  (q 7, .inr (4, [.int (nI 1), .int (nI 1), .int (nI 0), .int (nI 0), .int (nI 0)])) ::
  (q 8, .inr (5, [.int (x 10), .int (x 11), .int (x 12), .int (x 13), .int (x 14)])) ::
  (q 9, .inr (5, [.int (x 15), .int (x 16), .int (x 17), .int (x 18), .int (x 19)])) ::
  (q 10, .inr (6, [.ref (q 5), .ref (q 11), .ref (q 12)])) ::
  (q 11, .inl (G.2.1 1, 1000, .inl (f 2))) ::
  (q 12, .inl (G.2.1 1, 1000, .inl (f 3))) ::
  (q 13, .inr (7, [.ref (q 14), .int (x 20)])) ::
  (q 14, .inl (G.2.1 1, 1000, .inl (f 4))) ::
  (q 15, .inr (8, [.ref (q 10), .ref (q 13), .ref (q 16), .ref (q 17), .int (x 21), .int (x 22), .int (x 23), .int (x 24)])) ::
  (q 16, .inl (G.2.1 1, 1000, .inl (f 5))) ::
  (q 17, .inl (G.2.1 1, 2000, .inl (f 6))) ::
  (q 18, .inl (G.2.1 1, 1000, .inl (f 7))) :: kl
def wC3 (G : XG) (q : Nat → Nat) (x : Nat → Int32) (n : Nat → Nat) (f : Nat → Nat → Int32) (kf : Nat → Option Nat) (kl : va_W) : va_W :=
  (q 0, .inr (0, [.ref (q 1), .ref (q 4), .ref (q 5), .ref (q 10), .ref (q 13), .ref (q 15), .ref (q 18), .int (x 0), .int (x 1), .int (x 2)])) ::
  (q 1, .inr (1, [.ref (q 2), .int (x 3), .ref (q 3), .int (x 4)])) ::
  (q 2, .inl (G.2.1 0, n 0, .inl (f 0))) ::
  (q 4, .inr (2, [.ref (q 1), .int (x 5)])) ::
  (q 5, .inr (3, [.ref (q 1), .ref (q 4), .ref (q 6), .ref (q 7), .ref (q 8), .ref (q 9), .int (x 6), .int (x 7), .int (x 8), .int (x 9)])) ::
  (q 6, .inl (G.2.1 3, 6, .inr (.inr (.inr (.inr kf))))) ::
  (q 7, .inr (4, [.int (nI 1), .int (nI 1), .int (nI 0), .int (nI 0), .int (nI 0)])) ::
  (q 8, .inr (5, [.int (x 10), .int (x 11), .int (x 12), .int (x 13), .int (x 14)])) ::
  (q 9, .inr (5, [.int (x 15), .int (x 16), .int (x 17), .int (x 18), .int (x 19)])) ::
  (q 10, .inr (6, [.ref (q 5), .ref (q 11), .ref (q 12)])) ::
  (q 11, .inl (G.2.1 1, 1000, .inl (f 2))) ::
  (q 12, .inl (G.2.1 1, 1000, .inl (f 3))) ::
  (q 13, .inr (7, [.ref (q 14), .int (x 20)])) ::
  (q 14, .inl (G.2.1 1, 1000, .inl (f 4))) ::
  (q 15, .inr (8, [.ref (q 10), .ref (q 13), .ref (q 16), .ref (q 17), .int (x 21), .int (x 22), .int (x 23), .int (x 24)])) ::
  (q 16, .inl (G.2.1 1, 1000, .inl (f 5))) ::
  (q 17, .inl (G.2.1 1, 2000, .inl (f 6))) ::
  (q 18, .inl (G.2.1 1, 1000, .inl (f 7))) :: kl
section
variable {G : XG} {q : Nat → Nat} {x : Nat → Int32} {n : Nat → Nat} {f : Nat → Nat → Int32} {kf : Nat → Option Nat} {kl : va_W}
theorem wC_2 : (wC G q x n f kf kl).Perm ((q 2, .inl (G.2.1 0, n 0, .inl (f 0))) :: wC2 G q x n f kf kl) := List.perm_middle (l₁ := [_, _])
theorem wC_3 : (wC G q x n f kf kl).Perm ((q 3, .inl (G.2.1 1, n 1, .inl (f 1))) :: wC3 G q x n f kf kl) := List.perm_middle (l₁ := [_, _, _])
end
