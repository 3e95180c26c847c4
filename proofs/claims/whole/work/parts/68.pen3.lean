
/-! single orders: class and reference -/
theorem cA_f {c : Int32} {d : Nat} {f : Int32} : cA c d f 0 = c + f * jcs d := by unfold cA; rw [Int32.zero_mul, Int32.add_zero]
theorem rA_f {r : Int32} {d : Nat} {f : Int32} : rA r d f 0 = r + f * jrs d := by unfold rA; rw [Int32.zero_mul, Int32.add_zero]
theorem pE_out {x y : Int32} (h : inF x y = false) : pE false x y = true := by unfold pE; rw [h]; decide
theorem sD_mk {up : Bool} {F : Nat → Int32} {x y k : Int32} : sD up false F x y k = mkB (!up) F x y k := by
  cases up with
  | true => rw [sD_t]; rfl
  | false => rw [sD_f, pDr_f]; rfl
theorem st10_in {d : Nat} {up : Bool} {x y : Int32} {D0 D1 D2 : Nat → Int32} (h : inF (cA x d 1 0) (rA y d 1 0) = true) : st10 d up 1 (x, y, false, D0, D1, D2) = (cA x d 1 0, rA y d 1 0, false, mkB (!up) D0 (cA x d 1 0) (rA y d 1 0) 1, mkB (!up) D1 (cA x d 1 0) (rA y d 1 0) 2, mkB (!up) D2 (cA x d 1 0) (rA y d 1 0) 3) := by
  rw [cA_f, rA_f] at *
  simp only [st10, pE_in h, sD_mk]
theorem st10_out {d : Nat} {up : Bool} {x y : Int32} {D0 D1 D2 : Nat → Int32} (h : inF (cA x d 1 0) (rA y d 1 0) = false) : (st10 d up 1 (x, y, false, D0, D1, D2)).2.2.1 = true := by
  rw [cA_f, rA_f] at h
  exact pE_out h
theorem st00_in {d : Nat} {up : Bool} {x y : Int32} {D0 D1 D2 : Nat → Int32} (h : inF (cA x d (-1) 0) (rA y d (-1) 0) = true) : st00 d up (-1) (x, y, false, D0, D1, D2) = (cA x d (-1) 0, rA y d (-1) 0, false, D0, D1, D2) := by
  rw [cA_f, rA_f] at *
  simp only [st00, pE_in h]
theorem st00_out {d : Nat} {up : Bool} {x y : Int32} {D0 D1 D2 : Nat → Int32} (h : inF (cA x d (-1) 0) (rA y d (-1) 0) = false) : (st00 d up (-1) (x, y, false, D0, D1, D2)).2.2.1 = true := by
  rw [cA_f, rA_f] at h
  exact pE_out h
