
theorem nI_and {a b : Nat} (ha : a < 2 ^ 32) (hb : b < 2 ^ 32) : nI a &&& nI b = nI (a &&& b) := by
  apply Int32.toBitVec_inj.mp
  rw [Int32.toBitVec_and]
  apply BitVec.eq_of_toNat_eq
  rw [BitVec.toNat_and, pk_tn ha, pk_tn hb, pk_tn (Nat.and_lt_two_pow a hb)]
theorem nI_ex (x : Int32) : ∃ n : Nat, n < 2 ^ 32 ∧ x = nI n := by
  refine ⟨x.toBitVec.toNat, x.toBitVec.isLt, ?_⟩
  apply Int32.toBitVec_inj.mp
  apply BitVec.eq_of_toNat_eq
  rw [pk_tn x.toBitVec.isLt]
theorem ush_n {n k : Nat} (hn : n < 2 ^ 32) (hk : (((nI k).toUInt32 &&& Int32.toUInt32 31).toBitVec % 32).toNat = k) : ush (nI k) (nI n) = nI (n / 2 ^ k) := pk_ushrN hn (nI k) k hk
theorem bc_pop {h l : Nat} (hh : h < 65536) (hl : l < 65536) : bcF (nI (65536 * h + l)) = nI (p16 h + p16 l) := by
  have hn : 65536 * h + l < 2 ^ 32 := by omega
  obtain ⟨c1, _, _⟩ := k1_cat hh hl
  have c2 := k2_cat hh hl
  have c3 := k3_cat hh hl
  obtain ⟨a1, a2, a3, a4, a5⟩ := g_ok hh
  obtain ⟨d1, d2, d3, d4, d5⟩ := g_ok hl
  have l1 : 65536 * g1 h + g1 l < 2 ^ 32 := by rw [← c1]; unfold k1; omega
  have l2 : 65536 * g2 h + g2 l < 2 ^ 31 := by omega
  have e1 : bc1 (nI (65536 * h + l)) = nI (65536 * g1 h + g1 l) := by
    unfold bc1
    have u : ush 1 (nI (65536 * h + l)) = nI ((65536 * h + l) / 2) := ush_n (k := 1) hn (by decide)
    have v : nI ((65536 * h + l) / 2) &&& 1431655765 = nI ((65536 * h + l) / 2 &&& 1431655765) := nI_and (b := 1431655765) (by omega) (by decide)
    have w : (65536 * h + l) / 2 &&& 1431655765 ≤ (65536 * h + l) / 2 := Nat.and_le_left
    rw [u, v, pk_sub (by omega), ← c1]
    rfl
  have e2 : bc2 (nI (65536 * g1 h + g1 l)) = nI (65536 * g2 h + g2 l) := by
    unfold bc2
    have u : ush 2 (nI (65536 * g1 h + g1 l)) = nI ((65536 * g1 h + g1 l) / 4) := ush_n (k := 2) l1 (by decide)
    have v : nI ((65536 * g1 h + g1 l) / 4) &&& 858993459 = nI ((65536 * g1 h + g1 l) / 4 &&& 858993459) := nI_and (b := 858993459) (by omega) (by decide)
    have w : nI (65536 * g1 h + g1 l) &&& 858993459 = nI ((65536 * g1 h + g1 l) &&& 858993459) := nI_and (b := 858993459) l1 (by decide)
    rw [u, v, w, nI_add, ← c2]
    rfl
  have e3 : bc3 (nI (65536 * g2 h + g2 l)) = nI (65536 * g3 h + g3 l) := by
    unfold bc3
    have u : ush 4 (nI (65536 * g2 h + g2 l)) = nI ((65536 * g2 h + g2 l) / 16) := ush_n (k := 4) (by omega) (by decide)
    rw [u, nI_add]
    have v : nI (65536 * g2 h + g2 l + (65536 * g2 h + g2 l) / 16) &&& 252645135 = nI ((65536 * g2 h + g2 l + (65536 * g2 h + g2 l) / 16) &&& 252645135) := nI_and (b := 252645135) (by omega) (by decide)
    rw [v, ← c3]
    rfl
  generalize hx : g3 h = x at *
  generalize hy : g3 l = y at *
  have lx : x ≤ 2056 := by omega
  have ly : y ≤ 2056 := by omega
  have e4 : bc4 (nI (65536 * x + y)) = nI (65536 * x + y + (65536 * x + y) / 256) := by
    unfold bc4
    have u : ush 8 (nI (65536 * x + y)) = nI ((65536 * x + y) / 256) := ush_n (k := 8) (by omega) (by decide)
    rw [u, nI_add]
  have e5 : bc5 (nI (65536 * x + y + (65536 * x + y) / 256)) = nI (65536 * x + y + (65536 * x + y) / 256 + (65536 * x + y + (65536 * x + y) / 256) / 65536) := by
    unfold bc5
    have u : ush 16 (nI (65536 * x + y + (65536 * x + y) / 256)) = nI ((65536 * x + y + (65536 * x + y) / 256) / 65536) := ush_n (k := 16) (by omega) (by decide)
    rw [u, nI_add]
  unfold bcF
  rw [e1, e2, e3, e4, e5, pk_andN (m := 63) (by omega) 6 (by decide)]
  refine congrArg nI ?_
  rw [← a5, ← d5]
  obtain ⟨x0, x1, ex, hx0, hx1⟩ : ∃ x0 x1, x = 256 * x1 + x0 ∧ x0 ≤ 8 ∧ x1 ≤ 8 := ⟨x % 256, x / 256, by omega, a3, a4⟩
  obtain ⟨y0, y1, ey, hy0, hy1⟩ : ∃ y0 y1, y = 256 * y1 + y0 ∧ y0 ≤ 8 ∧ y1 ≤ 8 := ⟨y % 256, y / 256, by omega, d3, d4⟩
  have q1 : x % 256 = x0 := by omega
  have q2 : x / 256 = x1 := by omega
  have q3 : y % 256 = y0 := by omega
  have q4 : y / 256 = y1 := by omega
  have q5 : (65536 * x + y) / 256 = 256 * x + y1 := by omega
  have q6 : (65536 * x + y + (256 * x + y1)) / 65536 = 256 * x1 + x0 + x1 := by omega
  rw [q5, q6, q1, q2, q3, q4, show (2 : Nat) ^ 6 = 64 by decide]
  omega
