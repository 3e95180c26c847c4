
def cvN (D : F3) (c : Int32) (r : Nat) : Int32 := btR (D.1 r) c + 2 * btR (D.2.1 r) c + 3 * btR (D.2.2 r) c
def cqS (D : F3) (T X Y w h U V ty tx : Nat) : F3 → F3
  | (G0, G1, G2) => if cvN D (nI (X + cpX T w tx ty)) (Y + cpY T h tx ty) ≤ 0 then (G0, G1, G2) else
  (pB G0 (nI (U + tx)) (nI (V + ty)) (cvN D (nI (X + cpX T w tx ty)) (Y + cpY T h tx ty)) 1, pB G1 (nI (U + tx)) (nI (V + ty)) (cvN D (nI (X + cpX T w tx ty)) (Y + cpY T h tx ty)) 2, pB G2 (nI (U + tx)) (nI (V + ty)) (cvN D (nI (X + cpX T w tx ty)) (Y + cpY T h tx ty)) 3)
def cqL (D : F3) (T X Y w h U V ty : Nat) (s : F3) : Nat → F3
  | 0 => s
  | tx + 1 => cqS D T X Y w h U V ty tx (cqL D T X Y w h U V ty s tx)
def cqA (D : F3) (T X Y w h U V W : Nat) (s : F3) : Nat → F3
  | 0 => s
  | ty + 1 => cqL D T X Y w h U V ty (cqA D T X Y w h U V W s ty) W
/-- is there such a piece, and such a turn, and the cell -/
def cpZ (x y w h U V t : Int32) : Bool := decide (inF x y = true ∧ ¬ w ≤ 0 ∧ ¬ h ≤ 0 ∧ ¬ 32 - x < w ∧ ¬ 24 - y < h ∧ ¬ t < 0 ∧ ¬ 4 ≤ t ∧ inF U V = true)
