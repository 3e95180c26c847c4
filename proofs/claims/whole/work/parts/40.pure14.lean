
section DP
variable {l : Launch} {b : Nat} {D : va_G} {ta : Nat → ClassId} {Γ : jG} {ex : Prop} {own : String} {cc : ByteArray} {ret : Option FieldType} {nL cs ss pc : Nat} {rm : Room} {σ : List va_E} {L : List (Nat × Value)} {rest : List Value}
theorem j_dup2 (B : jB l b D ta Γ own cc ret nL rm) {va vb : Value} (hdg : decode cc pc = .ok (.dup2, 1)) (hva : va.category = 1) (hvb : vb.category = 1) (kk : jW l b D Γ ex cs ss nL σ L (pc + 1) (va :: vb :: va :: vb :: rest)) : jW l b D Γ ex cs ss nL σ L pc (va :: vb :: rest) := fun ls H locs hl hP hS hZ => lv_dup2_11 B.1 B.2.1 hdg hva hvb (kk ls H locs hl hP hS hZ)
end DP
/-! the reference's cells: itself, then its arrays -/
def rC (b : Nat) (ta : Nat → ClassId) (wt : Int32) (F0 : Nat → Int32) (F1 : Nat → Int32) (F2 : Nat → Int32) (HH : Nat → Int32) (kt : Nat → Int32) (kp : Nat → Int32) (a : Nat) (hi : Nat) (tm : Nat) (sN : Nat) (sx : Nat → Int32) (sy : Nat → Int32) (pt : Nat → Int64) (mn : Nat → Int32) (pl : Nat → Int32) (pN : Nat) (px : Nat → Int32) (py : Nat → Int32) (sn : Nat → Int32) (lt : Nat → Int32) (rc : Nat → Int64) (tx : Nat → Int32) (sz : Nat → Int32) (us : Nat → Int32) (D0 : Nat → Int32) (D1 : Nat → Int32) (D2 : Nat → Int32) (qx : Int32) (qy : Int32) (di : Nat) (up : Bool) (dn : Nat) (be : Bool) (op : Nat) (gs : Nat → Int32) (t0 : Nat → Int32) (fr : Nat → Int32) (lf : Nat → Int32) (pX : Nat → Int32) (pY : Nat → Int32) (pD : Nat → Int32) (pU : Nat → Int32) (X : List va_E) : List va_E :=
  .inr (7, [.int wt, .ref (b + 134), .ref (b + 135), .ref (b + 136), .ref (b + 137), .ref (b + 138), .ref (b + 139), .int (nI a), .int (nI hi), .int (nI tm), .int (nI sN), .ref (b + 140), .ref (b + 141), .ref (b + 142), .ref (b + 143), .ref (b + 144), .int (nI pN), .ref (b + 145), .ref (b + 146), .ref (b + 147), .ref (b + 148), .ref (b + 149), .ref (b + 150), .ref (b + 151), .ref (b + 152), .ref (b + 153), .ref (b + 154), .ref (b + 155), .int qx, .int qy, .int (nI di), .int (bI up), .int (nI dn), .int (bI be), .int (nI op), .ref (b + 156), .ref (b + 157), .ref (b + 158), .ref (b + 159), .ref (b + 160), .ref (b + 161), .ref (b + 162), .ref (b + 163)]) :: .inl (ta 0, 24, .inl F0) :: .inl (ta 0, 24, .inl F1) :: .inl (ta 0, 24, .inl F2) :: .inl (ta 0, 24, .inl HH) :: .inl (ta 0, 1152, .inl kt) :: .inl (ta 0, 64, .inl kp) :: .inl (ta 0, 4, .inl sx) :: .inl (ta 0, 4, .inl sy) :: .inl (ta 3, 4, .inr (.inl pt)) :: .inl (ta 0, 4, .inl mn) :: .inl (ta 0, 4, .inl pl) :: .inl (ta 0, 4, .inl px) :: .inl (ta 0, 4, .inl py) :: .inl (ta 0, 4, .inl sn) :: .inl (ta 0, 4, .inl lt) :: .inl (ta 3, 4, .inr (.inl rc)) :: .inl (ta 0, 300, .inl tx) :: .inl (ta 0, 5, .inl sz) :: .inl (ta 0, 5, .inl us) :: .inl (ta 0, 24, .inl D0) :: .inl (ta 0, 24, .inl D1) :: .inl (ta 0, 24, .inl D2) :: .inl (ta 0, 32, .inl gs) :: .inl (ta 0, 32, .inl t0) :: .inl (ta 0, 32, .inl fr) :: .inl (ta 0, 32, .inl lf) :: .inl (ta 0, 32, .inl pX) :: .inl (ta 0, 32, .inl pY) :: .inl (ta 0, 32, .inl pD) :: .inl (ta 2, 32, .inl pU) :: X
theorem rG {σ M : List va_E} {ix : Nat} {v : va_E} (hl : σ.length = 133) (h : M[ix]? = some v) : (σ ++ M)[133 + ix]? = some v := by
  rw [List.getElem?_append_right (by omega), show 133 + ix - σ.length = ix by omega]; exact h
theorem rT {σ M M2 : List va_E} {ix : Nat} {v : va_E} (hl : σ.length = 133) (h : M.set ix v = M2) : (σ ++ M).set (133 + ix) v = σ ++ M2 := by
  rw [List.set_append_right _ _ (by omega), show 133 + ix - σ.length = ix by omega, h]
/-- a bit of a row -/
def btR (x c : Int32) : Int32 := (x >>> (c &&& 31)) &&& 1
theorem in23 {r : Int32} (h0 : ¬ r < 0) (h : r ≤ 23) : vp_in r 24 := by
  rw [Int32.lt_iff_toInt_lt] at h0
  rw [Int32.le_iff_toInt_le] at h
  have e1 : (23 : Int32).toInt = 23 := by decide
  have e2 : (0 : Int32).toInt = 0 := by decide
  exact vp_in_iff.mpr ⟨by omega, by omega⟩
/-- a row of heads, none beyond the field -/
def hdI (HH : Nat → Int32) (r : Int32) : Int32 := if r < 0 then 0 else if r ≤ 23 then HH r.toNatClampNeg else 0
def lA1 (k : Nat) (z : Int32) : Int32 := if nI (k % 3) = 0 then z <<< (1 &&& 31) else if nI (k % 3) = 1 then z else (z.toUInt32 >>> ((1 : Int32).toUInt32 &&& Int32.toUInt32 31)).toInt32
def lA (HH : Nat → Int32) (r k : Nat) : Int32 := lA1 k (hdI HH (nI r - 1 + nI (k / 3)))
/-- the sum of eight neighbours, bit by bit: ones, twos, more -/
def ltS (HH : Nat → Int32) (r : Nat) : Nat → Int32 × Int32 × Int32
  | 0 => (0, 0, 0)
  | k + 1 => if nI k = 4 then ltS HH r k else ((ltS HH r k).1 ^^^ lA HH r k, (ltS HH r k).2.1 ^^^ ((ltS HH r k).1 &&& lA HH r k), (ltS HH r k).2.2 ||| ((ltS HH r k).2.1 &&& ((ltS HH r k).1 &&& lA HH r k)))
def litF (HH : Nat → Int32) (r : Nat) : Int32 := ((ltS HH r 9).1 ^^^ (ltS HH r 9).2.1) &&& ((ltS HH r 9).2.2 ^^^ (-1))
/-- three rows of rows kept -/
def ktF (K : Nat → Int32) (a : Nat) (F0 F1 F2 : Nat → Int32) : Nat → Nat → Int32
  | 0 => K
  | r + 1 => upd (upd (upd (ktF K a F0 F1 F2 r) (72 * a + r) (F0 r)) (72 * a + 24 + r) (F1 r)) (72 * a + 48 + r) (F2 r)
def kpF (kp : Nat → Int32) (a : Nat) (pl : Nat → Int32) : Nat → Nat → Int32
  | 0 => kp
  | r + 1 => upd (kpF kp a pl r) (4 * a + r) (pl r)
def khi (h : Nat) : Nat := if h < 16 then h + 1 else 16
def cntR (f : Nat → Int32) : Nat → Int32
  | 0 => 0
  | n + 1 => cntR f n + btR (f (n / 32)) (nI (n % 32))
def cvR (F0 F1 F2 : Nat → Int32) (c r : Int32) : Int32 := btR (F0 r.toNatClampNeg) c + 2 * btR (F1 r.toNatClampNeg) c + 3 * btR (F2 r.toNatClampNeg) c
