
theorem i_le {x y : Int32} : x ≤ y ↔ x.toInt ≤ y.toInt := Int32.le_iff_toInt_le
theorem i_lt {x y : Int32} : x < y ↔ x.toInt < y.toInt := Int32.lt_iff_toInt_lt
theorem dgR_t {c : Int32} (h1 : ¬ c ≤ 47) (h2 : ¬ 58 ≤ c) : dg c = true := by
  refine decide_eq_true ?_
  rw [i_le] at h1 h2
  rw [i_lt, i_lt]
  have e1 : (47 : Int32).toInt = 47 := by decide
  have e2 : (58 : Int32).toInt = 58 := by decide
  have e3 : (48 : Int32).toInt = 48 := by decide
  have e4 : (57 : Int32).toInt = 57 := by decide
  omega
theorem dgR_f {c : Int32} (h : c ≤ 47 ∨ 58 ≤ c) : dg c = false := by
  refine decide_eq_false ?_
  rw [i_le, i_le] at h
  rw [i_lt, i_lt]
  have e1 : (47 : Int32).toInt = 47 := by decide
  have e2 : (58 : Int32).toInt = 58 := by decide
  have e3 : (48 : Int32).toInt = 48 := by decide
  have e4 : (57 : Int32).toInt = 57 := by decide
  omega
def acR (z : Int32) : Int32 := if z = 1 then 1 else if z = 3 then -1 else 0
def dwR (z : Int32) : Int32 := if z = 2 then 1 else if z = 0 then -1 else 0
theorem acR_j {d : Nat} (h : d < 4) : acR (nI d) = jcs d := by
  match d, h with
  | 0, _ => decide
  | 1, _ => decide
  | 2, _ => decide
  | 3, _ => decide
theorem dwR_j {d : Nat} (h : d < 4) : dwR (nI d) = jrs d := by
  match d, h with
  | 0, _ => decide
  | 1, _ => decide
  | 2, _ => decide
  | 3, _ => decide
/-- are the macros there that are needed -/
def mcR (sz us : Nat → Int32) : Nat → Int32 → Bool
  | 0, _ => true
  | n + 1, nd => if btR nd (nI n) = 1 then (if 0 ≤ sz n then mcR sz us n (nd ||| us n) else false) else mcR sz us n nd
/-! the pen of the reference -/
def pE (be : Bool) (x y : Int32) : Bool := be || !inF x y
def pDr (be : Bool) (F : Nat → Int32) (x y v k : Int32) : Nat → Int32 := if be = true then F else pB F x y v k
def sD (up be : Bool) (F : Nat → Int32) (x y k : Int32) : Nat → Int32 := if up = true then F else pDr be F x y 3 k
theorem sD_t {be : Bool} {F : Nat → Int32} {x y k : Int32} : sD true be F x y k = F := if_pos rfl
theorem sD_f {be : Bool} {F : Nat → Int32} {x y k : Int32} : sD false be F x y k = pDr be F x y 3 k := if_neg Bool.false_ne_true
def bE (be : Bool) (x y : Int32) (d : Nat) : Bool := pE (pE be (x + (-1) * jcs ((d + 1) % 4)) (y + (-1) * jrs ((d + 1) % 4))) (x + 1 * jcs ((d + 1) % 4)) (y + 1 * jrs ((d + 1) % 4))
def bD (up be : Bool) (F : Nat → Int32) (x y : Int32) (d : Nat) (k : Int32) : Nat → Int32 := sD up (bE be x y d) (sD up (pE be (x + (-1) * jcs ((d + 1) % 4)) (y + (-1) * jrs ((d + 1) % 4))) F (x + (-1) * jcs ((d + 1) % 4)) (y + (-1) * jrs ((d + 1) % 4)) k) (x + 1 * jcs ((d + 1) % 4)) (y + 1 * jrs ((d + 1) % 4)) k
theorem bE_e {be : Bool} {x y : Int32} {d : Nat} : bE be x y d = pE (pE be (x + (-1) * jcs ((d + 1) % 4)) (y + (-1) * jrs ((d + 1) % 4))) (x + 1 * jcs ((d + 1) % 4)) (y + 1 * jrs ((d + 1) % 4)) := by
  cases h : bE be x y d <;> (rw [← h]; unfold bE; exact Eq.trans rfl rfl)
theorem bD_t {be : Bool} {F : Nat → Int32} {x y : Int32} {d : Nat} {k : Int32} : bD true be F x y d k = F := sD_t.trans sD_t
theorem bD_f {be : Bool} {F : Nat → Int32} {x y : Int32} {d : Nat} {k : Int32} : bD false be F x y d k = pDr (pE (pE be (x + (-1) * jcs ((d + 1) % 4)) (y + (-1) * jrs ((d + 1) % 4))) (x + 1 * jcs ((d + 1) % 4)) (y + 1 * jrs ((d + 1) % 4))) (pDr (pE be (x + (-1) * jcs ((d + 1) % 4)) (y + (-1) * jrs ((d + 1) % 4))) F (x + (-1) * jcs ((d + 1) % 4)) (y + (-1) * jrs ((d + 1) % 4)) 3 k) (x + 1 * jcs ((d + 1) % 4)) (y + 1 * jrs ((d + 1) % 4)) 3 k := by
  unfold bD bE
  rw [sD_f, sD_f]
theorem pE_dup {be : Bool} {x y : Int32} : pE (pE be x y) x y = pE be x y := by unfold pE; cases be <;> cases inF x y <;> rfl
theorem bo_if {be q : Bool} : (if be = true then (1 : Int32) else if q = true then 0 else 1) = bI (be || !q) := by cases be <;> cases q <;> rfl
