
/-- a text's first sixty signs behind another's place, an array's rows over another's -/
def rwF (G F : Nat → Int32) : Nat → Nat → Int32
  | 0 => G
  | r + 1 => upd (rwF G F r) r (F r)
/-! a piece copied by the reference: column by column within row by row of where it comes to lie -/
abbrev F3 : Type := (Nat → Int32) × (Nat → Int32) × (Nat → Int32)
def cpX (T w tx ty : Nat) : Nat := if T = 0 then tx else if T = 1 then ty else if T = 2 then w - 1 - tx else w - 1 - ty
def cpY (T h tx ty : Nat) : Nat := if T = 0 then ty else if T = 1 then h - 1 - tx else if T = 2 then h - 1 - ty else tx
def cpS (D : F3) (T X Y w h U V ty tx : Nat) (s : F3) : F3 := if cvR D.1 D.2.1 D.2.2 (nI (X + cpX T w tx ty)) (nI (Y + cpY T h tx ty)) ≤ 0 then s else
  (pB s.1 (nI (U + tx)) (nI (V + ty)) (cvR D.1 D.2.1 D.2.2 (nI (X + cpX T w tx ty)) (nI (Y + cpY T h tx ty))) 1, pB s.2.1 (nI (U + tx)) (nI (V + ty)) (cvR D.1 D.2.1 D.2.2 (nI (X + cpX T w tx ty)) (nI (Y + cpY T h tx ty))) 2, pB s.2.2 (nI (U + tx)) (nI (V + ty)) (cvR D.1 D.2.1 D.2.2 (nI (X + cpX T w tx ty)) (nI (Y + cpY T h tx ty))) 3)
def cpL (D : F3) (T X Y w h U V ty : Nat) (s : F3) : Nat → F3
  | 0 => s
  | tx + 1 => cpS D T X Y w h U V ty tx (cpL D T X Y w h U V ty s tx)
def cpA (D : F3) (T X Y w h U V W : Nat) (s : F3) : Nat → F3
  | 0 => s
  | ty + 1 => cpL D T X Y w h U V ty (cpA D T X Y w h U V W s ty) W
theorem inF_n {c r : Nat} (hc : c < 32) (hr : r < 24) : inF (nI c) (nI r) = true := decide_eq_true ⟨nI_pos (by omega), nI_ge hc (by decide), nI_pos (by omega), nI_ge hr (by decide)⟩
