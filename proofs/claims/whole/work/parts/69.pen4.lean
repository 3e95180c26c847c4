
theorem cA_b {x : Int32} {d : Nat} : cA x d (-1) 0 = x - jcs d := by rw [cA_f, Int32.sub_eq_add_neg, Int32.neg_mul, Int32.one_mul]
theorem rA_b {y : Int32} {d : Nat} : rA y d (-1) 0 = y - jrs d := by rw [rA_f, Int32.sub_eq_add_neg, Int32.neg_mul, Int32.one_mul]
theorem fV_3 {G0 G1 G2 : Nat → Int32} {x y : Int32} (hQ : QX G0 G1 G2) : fVal G0 G1 G2 x y = 3 ↔ (inF x y = true ∧ btR (G2 y.toNatClampNeg) x = 1) := by
  by_cases hin : inF x y = true
  · obtain ⟨C, R, hC, hR, rfl, rfl⟩ := inF_nn hin
    unfold fVal
    rw [if_pos hin, btR_b hC, tb_b hC, tb_b hC, tb_b hC]
    have h := hQ (nI R).toNatClampNeg C hC
    revert h
    cases tbn (G0 (nI R).toNatClampNeg) C <;> cases tbn (G1 (nI R).toNatClampNeg) C <;> cases tbn (G2 (nI R).toNatClampNeg) C <;> intro h <;> first | (exfalso; revert h; decide) | exact ⟨fun q => absurd q (by decide), fun q => absurd q.2 (by decide)⟩ | exact ⟨fun _ => ⟨hin, by decide⟩, fun _ => by decide⟩
  · unfold fVal
    rw [if_neg hin]
    exact ⟨fun q => absurd q (by decide), fun q => absurd q.1 hin⟩
