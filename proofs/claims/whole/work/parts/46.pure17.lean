
abbrev SP : Type := Int32 × Int32 × Bool × (Nat → Int32) × (Nat → Int32) × (Nat → Int32)
def st00 (d : Nat) (up : Bool) (m : Int32) : SP → SP
  | (x, y, be, D0, D1, D2) => (x + m * jcs d, y + m * jrs d, pE be (x + m * jcs d) (y + m * jrs d), D0, D1, D2)
def st01 (d : Nat) (up : Bool) (m : Int32) : SP → SP
  | (x, y, be, D0, D1, D2) => (x + m * jcs d, y + m * jrs d, bE (pE be (x + m * jcs d) (y + m * jrs d)) (x + m * jcs d) (y + m * jrs d) d, bD up (pE be (x + m * jcs d) (y + m * jrs d)) (D0) (x + m * jcs d) (y + m * jrs d) d 1, bD up (pE be (x + m * jcs d) (y + m * jrs d)) (D1) (x + m * jcs d) (y + m * jrs d) d 2, bD up (pE be (x + m * jcs d) (y + m * jrs d)) (D2) (x + m * jcs d) (y + m * jrs d) d 3)
def st10 (d : Nat) (up : Bool) (m : Int32) : SP → SP
  | (x, y, be, D0, D1, D2) => (x + m * jcs d, y + m * jrs d, pE be (x + m * jcs d) (y + m * jrs d), sD up (pE be (x + m * jcs d) (y + m * jrs d)) D0 (x + m * jcs d) (y + m * jrs d) 1, sD up (pE be (x + m * jcs d) (y + m * jrs d)) D1 (x + m * jcs d) (y + m * jrs d) 2, sD up (pE be (x + m * jcs d) (y + m * jrs d)) D2 (x + m * jcs d) (y + m * jrs d) 3)
def st11 (d : Nat) (up : Bool) (m : Int32) : SP → SP
  | (x, y, be, D0, D1, D2) => (x + m * jcs d, y + m * jrs d, bE (pE be (x + m * jcs d) (y + m * jrs d)) (x + m * jcs d) (y + m * jrs d) d, bD up (pE be (x + m * jcs d) (y + m * jrs d)) (sD up (pE be (x + m * jcs d) (y + m * jrs d)) D0 (x + m * jcs d) (y + m * jrs d) 1) (x + m * jcs d) (y + m * jrs d) d 1, bD up (pE be (x + m * jcs d) (y + m * jrs d)) (sD up (pE be (x + m * jcs d) (y + m * jrs d)) D1 (x + m * jcs d) (y + m * jrs d) 2) (x + m * jcs d) (y + m * jrs d) d 2, bD up (pE be (x + m * jcs d) (y + m * jrs d)) (sD up (pE be (x + m * jcs d) (y + m * jrs d)) D2 (x + m * jcs d) (y + m * jrs d) 3) (x + m * jcs d) (y + m * jrs d) d 3)

theorem pE_in {x y : Int32} (h : inF x y = true) : pE false x y = false := by unfold pE; rw [h]; decide
theorem pDr_f {F : Nat → Int32} {x y v k : Int32} : pDr false F x y v k = pB F x y v k := if_neg Bool.false_ne_true
theorem vn_b (u : Bool) : vp_nar .boolean (bI u) = bI u := by cases u <;> rfl
def opn (c : Int32) : Bool := decide (c = 40 ∨ c = 91)
def cls (c : Int32) : Bool := decide (c = 41 ∨ c = 93)
/-- behind the bracket that closes -/
def bhR (S : Nat → Int32) (N : Nat) : Nat → Nat → Nat → Option Nat
  | 0, _, _ => none
  | f + 1, k, d => if opn (sg S N k) = true then bhR S N f (k + 1) (d + 1) else if cls (sg S N k) = true then (if 1 < d then bhR S N f (k + 1) (d - 1) else some (k + 1)) else (if 0 < d then bhR S N f (k + 1) d else some (k + 1))
