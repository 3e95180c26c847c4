
theorem tm_add {a z : Nat} {c : Int32} (h : c - 48 = nI z) : nI a + c - 48 = nI (a + z) := by
  rw [Int32.sub_eq_add_neg, Int32.add_assoc, ← Int32.sub_eq_add_neg, h, nI_add]
theorem dgA_0 {S : Nat → Int32} {N p : Nat} (h : dg (sg S N p) = false) : dgA S N p = 0 := by unfold dgA; rw [h]; rfl
theorem dgA_1 {S : Nat → Int32} {N p : Nat} (h : dg (sg S N p) = true) (h2 : dg (sg S N (p + 1)) = false) : dgA S N p = 1 := by unfold dgA; rw [h, h2]; rfl
theorem dgA_2 {S : Nat → Int32} {N p : Nat} (h : dg (sg S N p) = true) (h2 : dg (sg S N (p + 1)) = true) : dgA S N p = 2 := by unfold dgA; rw [h, h2]; rfl
theorem tm_0 {S : Nat → Int32} {N p : Nat} (h : dg (sg S N p) = false) : tmN S N p = 1 := by
  unfold tmN tmA; rw [dgA_0 h]; rfl
theorem tm_1 {S : Nat → Int32} {N p z : Nat} (h : dg (sg S N p) = true) (h2 : dg (sg S N (p + 1)) = false) (hz : z < 10) (e : sg S N p - 48 = nI z) : tmN S N p = 10 * 0 + z := by
  unfold tmN tmA; rw [dgA_1 h h2, if_pos (show nI 1 = 1 from rfl), e, nI_clamp (by omega)]; omega
theorem tm_2 {S : Nat → Int32} {N p z y : Nat} (h : dg (sg S N p) = true) (h2 : dg (sg S N (p + 1)) = true) (hz : z < 10) (hy : y < 10) (e : sg S N p - 48 = nI z) (e2 : sg S N (p + 1) - 48 = nI y) : tmN S N p = 10 * (10 * 0 + z) + y := by
  unfold tmN tmA
  rw [dgA_2 h h2, if_neg (by decide), if_pos (show nI 2 = 2 from rfl), e]
  have e4 : nI z * 10 = nI (z * 10) := pk_mul z 10
  rw [e4, tm_add e2, nI_clamp (by omega)]; omega
