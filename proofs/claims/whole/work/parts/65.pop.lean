
/-! the number of bits, in halves of sixteen -/
theorem land_cat {k q r M s : Nat} (hr : r < 2 ^ k) (hs : s < 2 ^ k) : (2 ^ k * q + r) &&& (2 ^ k * M + s) = 2 ^ k * (q &&& M) + (r &&& s) := by
  apply Nat.eq_of_testBit_eq
  intro j
  rw [Nat.testBit_and, Nat.testBit_two_pow_mul_add q hr, Nat.testBit_two_pow_mul_add M hs, Nat.testBit_two_pow_mul_add (q &&& M) (Nat.and_lt_two_pow r hs)]
  by_cases h : j < k
  · rw [if_pos h, if_pos h, if_pos h, Nat.testBit_and]
  · rw [if_neg h, if_neg h, if_neg h, Nat.testBit_and]
theorem land_low {k q r s : Nat} (hr : r < 2 ^ k) (hs : s < 2 ^ k) : (2 ^ k * q + r) &&& s = r &&& s := by
  have h := land_cat (q := q) (M := 0) hr hs
  rw [Nat.mul_zero, Nat.zero_add, Nat.and_zero, Nat.mul_zero, Nat.zero_add] at h
  exact h
def g1 (m : Nat) : Nat := m - (m / 2 &&& 21845)
def g2 (m : Nat) : Nat := (g1 m &&& 13107) + (g1 m / 4 &&& 13107)
def g3 (m : Nat) : Nat := (g2 m + g2 m / 16) &&& 3855
def k1 (n : Nat) : Nat := n - (n / 2 &&& 1431655765)
def k2 (n : Nat) : Nat := (n &&& 858993459) + (n / 4 &&& 858993459)
def k3 (n : Nat) : Nat := (n + n / 16) &&& 252645135
def p16 (m : Nat) : Nat := m % 2 + m / 2 % 2 + m / 4 % 2 + m / 8 % 2 + m / 16 % 2 + m / 32 % 2 + m / 64 % 2 + m / 128 % 2 + m / 256 % 2 + m / 512 % 2 + m / 1024 % 2 + m / 2048 % 2 + m / 4096 % 2 + m / 8192 % 2 + m / 16384 % 2 + m / 32768 % 2
def b1 (m : Nat) : Nat := m - (m / 2 &&& 85)
def b2 (m : Nat) : Nat := (b1 m &&& 51) + (b1 m / 4 &&& 51)
def b3 (m : Nat) : Nat := (b2 m + b2 m / 16) &&& 15
def j2 (n : Nat) : Nat := (n &&& 13107) + (n / 4 &&& 13107)
def j3 (n : Nat) : Nat := (n + n / 16) &&& 3855
def p8 (m : Nat) : Nat := m % 2 + m / 2 % 2 + m / 4 % 2 + m / 8 % 2 + m / 16 % 2 + m / 32 % 2 + m / 64 % 2 + m / 128 % 2
theorem b_ok8 : ∀ m, m < 256 → b2 m ≤ 68 ∧ b2 m % 16 ≤ 4 ∧ b3 m ≤ 8 ∧ b3 m = p8 m := by decide +kernel
theorem b_ok {m : Nat} (h : m < 256) : b2 m ≤ 68 ∧ b2 m % 16 ≤ 4 ∧ b3 m ≤ 8 ∧ b3 m = p8 m := b_ok8 m h
theorem g1_cat {h l : Nat} (hh : h < 256) (hl : l < 256) : g1 (256 * h + l) = 256 * b1 h + b1 l ∧ b1 h < 256 ∧ b1 l < 256 := by
  have e1 : (256 * h + l) / 2 = 256 * (h / 2) + (128 * (h % 2) + l / 2) := by omega
  have e2 : (256 * h + l) / 2 &&& 21845 = 256 * (h / 2 &&& 85) + (l / 2 &&& 85) := by
    rw [e1]
    have a := land_cat (k := 8) (q := h / 2) (r := 128 * (h % 2) + l / 2) (M := 85) (s := 85) (by omega) (by decide)
    have b := land_low (k := 7) (q := h % 2) (r := l / 2) (s := 85) (by omega) (by decide)
    rw [show (2 : Nat) ^ 7 = 128 by decide] at b
    rw [show (2 : Nat) ^ 8 = 256 by decide, b] at a
    exact a
  have i1 : h / 2 &&& 85 ≤ h / 2 := Nat.and_le_left
  have i2 : l / 2 &&& 85 ≤ l / 2 := Nat.and_le_left
  unfold g1 b1
  rw [e2]
  omega
theorem g2_cat {h l : Nat} (hh : h < 256) (hl : l < 256) : j2 (256 * b1 h + b1 l) = 256 * b2 h + b2 l := by
  obtain ⟨_, q1, q2⟩ := g1_cat hh hl
  unfold j2 b2
  generalize b1 h = x at *
  generalize b1 l = y at *
  have a := land_cat (k := 8) (q := x) (r := y) (M := 51) (s := 51) (by omega) (by decide)
  have e1 : (256 * x + y) / 4 = 256 * (x / 4) + (64 * (x % 4) + y / 4) := by omega
  have b := land_cat (k := 8) (q := x / 4) (r := 64 * (x % 4) + y / 4) (M := 51) (s := 51) (by omega) (by decide)
  have c := land_low (k := 6) (q := x % 4) (r := y / 4) (s := 51) (by omega) (by decide)
  rw [show (2 : Nat) ^ 6 = 64 by decide] at c
  rw [show (2 : Nat) ^ 8 = 256 by decide] at a b
  rw [c] at b
  have a : (256 * x + y) &&& 13107 = 256 * (x &&& 51) + (y &&& 51) := a
  have b : (256 * (x / 4) + (64 * (x % 4) + y / 4)) &&& 13107 = 256 * (x / 4 &&& 51) + (y / 4 &&& 51) := b
  rw [e1, a, b]
  omega
theorem g3_cat {h l : Nat} (hh : h < 256) (hl : l < 256) : j3 (256 * b2 h + b2 l) = 256 * b3 h + b3 l := by
  obtain ⟨a1, a2, _⟩ := b_ok hh
  obtain ⟨c1, c2, _⟩ := b_ok hl
  unfold j3 b3
  generalize b2 h = x at *
  generalize b2 l = y at *
  have e1 : 256 * x + y + (256 * x + y) / 16 = 256 * (x + x / 16) + (16 * (x % 16) + (y + y / 16)) := by omega
  have a := land_cat (k := 8) (q := x + x / 16) (r := 16 * (x % 16) + (y + y / 16)) (M := 15) (s := 15) (by omega) (by decide)
  have b := land_low (k := 4) (q := x % 16 + (y + y / 16) / 16) (r := (y + y / 16) % 16) (s := 15) (by omega) (by decide)
  have c := land_low (k := 4) (q := (y + y / 16) / 16) (r := (y + y / 16) % 16) (s := 15) (by omega) (by decide)
  rw [show (2 : Nat) ^ 4 = 16 by decide] at b c
  rw [show 16 * (x % 16 + (y + y / 16) / 16) + (y + y / 16) % 16 = 16 * (x % 16) + (y + y / 16) by omega] at b
  rw [show 16 * ((y + y / 16) / 16) + (y + y / 16) % 16 = y + y / 16 by omega] at c
  rw [show (2 : Nat) ^ 8 = 256 by decide, b, ← c] at a
  have a : (256 * (x + x / 16) + (16 * (x % 16) + (y + y / 16))) &&& 3855 = 256 * (x + x / 16 &&& 15) + (y + y / 16 &&& 15) := a
  rw [e1, a]
theorem p16_cat {h l : Nat} (hl : l < 256) : p16 (256 * h + l) = p8 h + p8 l := by
  unfold p16 p8
  have e : ∀ d, (256 * h + l) / (256 * d) = h / d := fun d => by rw [← Nat.div_div_eq_div_mul, show (256 * h + l) / 256 = h by omega]
  have e0 := e 1; have e1 := e 2; have e2 := e 4; have e3 := e 8; have e4 := e 16; have e5 := e 32; have e6 := e 64; have e7 := e 128
  simp only [Nat.mul_one, Nat.div_one, Nat.reduceMul] at e0 e1 e2 e3 e4 e5 e6 e7
  rw [e0, e1, e2, e3, e4, e5, e6, e7]
  have f0 : (256 * h + l) % 2 = l % 2 := by omega
  have f1 : (256 * h + l) / 2 % 2 = l / 2 % 2 := by omega
  have f2 : (256 * h + l) / 4 % 2 = l / 4 % 2 := by omega
  have f3 : (256 * h + l) / 8 % 2 = l / 8 % 2 := by omega
  have f4 : (256 * h + l) / 16 % 2 = l / 16 % 2 := by omega
  have f5 : (256 * h + l) / 32 % 2 = l / 32 % 2 := by omega
  have f6 : (256 * h + l) / 64 % 2 = l / 64 % 2 := by omega
  have f7 : (256 * h + l) / 128 % 2 = l / 128 % 2 := by omega
  rw [f0, f1, f2, f3, f4, f5, f6, f7]
  omega
theorem g_ok {m : Nat} (h : m < 65536) : g2 m ≤ 17476 ∧ g2 m % 16 ≤ 4 ∧ g3 m % 256 ≤ 8 ∧ g3 m / 256 ≤ 8 ∧ g3 m % 256 + g3 m / 256 = p16 m := by
  have hh : m / 256 < 256 := by omega
  have hl : m % 256 < 256 := by omega
  have em : 256 * (m / 256) + m % 256 = m := by omega
  have c1 := (g1_cat hh hl).1
  have c2 := g2_cat hh hl
  have c3 := g3_cat hh hl
  rw [em] at c1
  have d2 : g2 m = 256 * b2 (m / 256) + b2 (m % 256) := by rw [← c2, ← c1]; rfl
  have d3 : g3 m = 256 * b3 (m / 256) + b3 (m % 256) := by rw [← c3, ← d2]; rfl
  obtain ⟨u1, u2, u3, u4⟩ := b_ok hh
  obtain ⟨v1, v2, v3, v4⟩ := b_ok hl
  have pc := p16_cat (h := m / 256) hl
  rw [em] at pc
  have m1 : ∀ x y, y ≤ 8 → (256 * x + y) % 256 = y ∧ (256 * x + y) / 256 = x := fun x y h => ⟨by omega, by omega⟩
  have m2 : ∀ x y, (256 * x + y) % 16 = y % 16 := fun x y => by omega
  rw [d2, d3, pc, ← u4, ← v4, (m1 _ _ v3).1, (m1 _ _ v3).2, m2]
  exact ⟨by omega, v2, v3, u3, Nat.add_comm _ _⟩
theorem k1_cat {h l : Nat} (hh : h < 65536) (hl : l < 65536) : k1 (65536 * h + l) = 65536 * g1 h + g1 l ∧ g1 h < 65536 ∧ g1 l < 65536 := by
  have e1 : (65536 * h + l) / 2 = 65536 * (h / 2) + (32768 * (h % 2) + l / 2) := by omega
  have e2 : (65536 * h + l) / 2 &&& 1431655765 = 65536 * (h / 2 &&& 21845) + (l / 2 &&& 21845) := by
    rw [e1]
    have a := land_cat (k := 16) (q := h / 2) (r := 32768 * (h % 2) + l / 2) (M := 21845) (s := 21845) (by omega) (by decide)
    have b := land_low (k := 15) (q := h % 2) (r := l / 2) (s := 21845) (by omega) (by decide)
    rw [show (2 : Nat) ^ 15 = 32768 by decide] at b
    rw [show (2 : Nat) ^ 16 = 65536 by decide, b] at a
    exact a
  have i1 : h / 2 &&& 21845 ≤ h / 2 := Nat.and_le_left
  have i2 : l / 2 &&& 21845 ≤ l / 2 := Nat.and_le_left
  unfold k1 g1
  rw [e2]
  omega
theorem k2_cat {h l : Nat} (hh : h < 65536) (hl : l < 65536) : k2 (65536 * g1 h + g1 l) = 65536 * g2 h + g2 l := by
  obtain ⟨_, q1, q2⟩ := k1_cat hh hl
  unfold k2 g2
  generalize g1 h = x at *
  generalize g1 l = y at *
  have a := land_cat (k := 16) (q := x) (r := y) (M := 13107) (s := 13107) (by omega) (by decide)
  have e1 : (65536 * x + y) / 4 = 65536 * (x / 4) + (16384 * (x % 4) + y / 4) := by omega
  have b := land_cat (k := 16) (q := x / 4) (r := 16384 * (x % 4) + y / 4) (M := 13107) (s := 13107) (by omega) (by decide)
  have c := land_low (k := 14) (q := x % 4) (r := y / 4) (s := 13107) (by omega) (by decide)
  rw [show (2 : Nat) ^ 14 = 16384 by decide] at c
  rw [show (2 : Nat) ^ 16 = 65536 by decide] at a b
  rw [c] at b
  have a : (65536 * x + y) &&& 858993459 = 65536 * (x &&& 13107) + (y &&& 13107) := a
  have b : (65536 * (x / 4) + (16384 * (x % 4) + y / 4)) &&& 858993459 = 65536 * (x / 4 &&& 13107) + (y / 4 &&& 13107) := b
  rw [e1, a, b]
  omega
theorem k3_cat {h l : Nat} (hh : h < 65536) (hl : l < 65536) : k3 (65536 * g2 h + g2 l) = 65536 * g3 h + g3 l := by
  obtain ⟨a1, a2, _⟩ := g_ok hh
  obtain ⟨c1, c2, _⟩ := g_ok hl
  unfold k3 g3
  generalize g2 h = x at *
  generalize g2 l = y at *
  have e1 : 65536 * x + y + (65536 * x + y) / 16 = 65536 * (x + x / 16) + (4096 * (x % 16) + (y + y / 16)) := by omega
  have a := land_cat (k := 16) (q := x + x / 16) (r := 4096 * (x % 16) + (y + y / 16)) (M := 3855) (s := 3855) (by omega) (by decide)
  have b := land_low (k := 12) (q := x % 16 + (y + y / 16) / 4096) (r := (y + y / 16) % 4096) (s := 3855) (by omega) (by decide)
  have c := land_low (k := 12) (q := (y + y / 16) / 4096) (r := (y + y / 16) % 4096) (s := 3855) (by omega) (by decide)
  rw [show (2 : Nat) ^ 12 = 4096 by decide] at b c
  rw [show 4096 * (x % 16 + (y + y / 16) / 4096) + (y + y / 16) % 4096 = 4096 * (x % 16) + (y + y / 16) by omega] at b
  rw [show 4096 * ((y + y / 16) / 4096) + (y + y / 16) % 4096 = y + y / 16 by omega] at c
  rw [show (2 : Nat) ^ 16 = 65536 by decide, b, ← c] at a
  have a : (65536 * (x + x / 16) + (4096 * (x % 16) + (y + y / 16))) &&& 252645135 = 65536 * (x + x / 16 &&& 3855) + (y + y / 16 &&& 3855) := a
  rw [e1, a]
