/-- the world of the class: q addresses, x int fields, n the two lengths that grow, f arrays, kf the row of keys, kl what else is there -/
def wC (G : XG) (q : Nat → Nat) (x : Nat → Int32) (n : Nat → Nat) (f : Nat → Nat → Int32) (kf : Nat → Option Nat) (kl : va_W) : va_W :=
  (q 0, .inr (0, [.ref (q 1), .ref (q 4), .ref (q 5), .ref (q 10), .ref (q 13), .ref (q 15), .ref (q 18), .int (x 0), .int (x 1), .int (x 2)])) ::
  (q 1, .inr (1, [.ref (q 2), .int (x 3), .ref (q 3), .int (x 4)])) ::
  (q 2, .inl (G.2.1 0, n 0, .inl (f 0))) ::
  (q 3, .inl (G.2.1 1, n 1, .inl (f 1))) ::
  (q 4, .inr (2, [.ref (q 1), .int (x 5)])) ::
  (q 5, .inr (3, [.ref (q 1), .ref (q 4), .ref (q 6), .ref (q 7), .ref (q 8), .ref (q 9), .int (x 6), .int (x 7), .int (x 8), .int (x 9)])) ::
  (q 6, .inl (G.2.1 3, 6, .inr (.inr (.inr (.inr kf))))) ::
  (q 7, .inr (4, [.int (nI 1), .int (nI 1), .int (nI 0), .int (nI 0), .int (nI 0)])) ::
  (q 8, .inr (5, [.int (x 10), .int (x 11), .int (x 12), .int (x 13), .int (x 14)])) ::
  (q 9, .inr (5, [.int (x 15), .int (x 16), .int (x 17), .int (x 18), .int (x 19)])) ::
  (q 10, .inr (6, [.ref (q 5), .ref (q 11), .ref (q 12)])) ::
  (q 11, .inl (G.2.1 1, 1000, .inl (f 2))) ::
  (q 12, .inl (G.2.1 1, 1000, .inl (f 3))) ::
  (q 13, .inr (7, [.ref (q 14), .int (x 20)])) ::
  (q 14, .inl (G.2.1 1, 1000, .inl (f 4))) ::
  (q 15, .inr (8, [.ref (q 10), .ref (q 13), .ref (q 16), .ref (q 17), .int (x 21), .int (x 22), .int (x 23), .int (x 24)])) ::
  (q 16, .inl (G.2.1 1, 1000, .inl (f 5))) ::
  (q 17, .inl (G.2.1 1, 2000, .inl (f 6))) ::
  (q 18, .inl (G.2.1 1, 1000, .inl (f 7))) :: kl
/-- the world of the reference -/
def wM (G : XG) (q : Nat → Nat) (x : Nat → Int32) (f : Nat → Nat → Int32) (kl : va_W) : va_W :=
  (q 0, .inr (9, [.ref (q 1), .int (x 0), .ref (q 2), .int (x 1), .int (x 2), .int (x 3), .int (x 4), .int (x 5), .int (x 6), .ref (q 3), .int (x 7), .int (x 8), .int (x 9), .ref (q 4), .ref (q 5), .int (x 10), .ref (q 6), .int (x 11), .ref (q 7), .ref (q 8), .ref (q 9), .int (x 12), .ref (q 10), .int (x 13), .int (x 14), .int (x 15), .int (x 16), .ref (q 11), .int (x 17), .int (x 18), .int (x 19), .ref (q 12)])) ::
  (q 1, .inl (G.2.1 0, 20000, .inl (f 0))) ::
  (q 2, .inl (G.2.1 1, 20001, .inl (f 1))) ::
  (q 3, .inl (G.2.1 1, 30, .inl (f 2))) ::
  (q 4, .inl (G.2.1 1, 6000, .inl (f 3))) ::
  (q 5, .inl (G.2.1 1, 6000, .inl (f 4))) ::
  (q 6, .inl (G.2.1 1, 1000, .inl (f 5))) ::
  (q 7, .inl (G.2.1 1, 1000, .inl (f 6))) ::
  (q 8, .inl (G.2.1 1, 1000, .inl (f 7))) ::
  (q 9, .inl (G.2.1 1, 1000, .inl (f 8))) ::
  (q 10, .inl (G.2.1 1, 1000, .inl (f 9))) ::
  (q 11, .inl (G.2.1 1, 500, .inl (f 10))) ::
  (q 12, .inl (G.2.1 1, 1000, .inl (f 11))) :: kl
def fup (f : Nat → Nat → Int32) (k : Nat) (g : Nat → Int32) : Nat → Nat → Int32 := fun i => if i = k then g else f i
def xr (d c s : Nat) : Room := { frames := d, cells := c, slots := s, locals := 40 * d }
def RX (r : Option Value) (ws : va_W) : Option Value → va_W → Prop := fun a b => a = r ∧ b = ws
