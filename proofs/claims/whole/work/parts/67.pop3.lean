
def sb (n : Nat) : Nat → Nat
  | 0 => 0
  | i + 1 => sb n i + n / 2 ^ i % 2
def btS (x : Int32) : Nat → Int32
  | 0 => 0
  | i + 1 => btS x i + btR x (nI i)
theorem btR_n {n i : Nat} (hn : n < 2 ^ 32) (hi : i < 32) : btR (nI n) (nI i) = nI (n / 2 ^ i % 2) := by
  rw [btR_b hi]
  have h : tbn (nI n) i = decide (n / 2 ^ i % 2 = 1) := by
    unfold tbn
    rw [BitVec.getLsbD, pk_tn hn, Nat.testBit_eq_decide_div_mod_eq]
  rw [h]
  have h2 : n / 2 ^ i % 2 < 2 := Nat.mod_lt _ (by decide)
  rcases (show n / 2 ^ i % 2 = 0 ∨ n / 2 ^ i % 2 = 1 by omega) with q | q
  · rw [q]; rfl
  · rw [q]; rfl
theorem btS_n {n : Nat} (hn : n < 2 ^ 32) : ∀ i, i ≤ 32 → btS (nI n) i = nI (sb n i) := by
  intro i
  induction i with
  | zero => intro _; rfl
  | succ i ih => intro hi; rw [btS, sb, ih (by omega), btR_n hn (by omega), nI_add]
theorem sbq_cat {h l : Nat} (hl : l < 65536) : sb (65536 * h + l) 32 = p16 h + p16 l := by
  have e : ∀ d, (65536 * h + l) / (65536 * d) = h / d := fun d => by rw [← Nat.div_div_eq_div_mul, show (65536 * h + l) / 65536 = h by omega]
  have e0 : (65536 * h + l) / 2 ^ 16 % 2 = h / 1 % 2 := by have := e 1; rw [show (2 : Nat) ^ 16 = 65536 * 1 by decide, this]
  have f0 : (65536 * h + l) / 2 ^ 0 % 2 = l / 1 % 2 := by rw [show (2 : Nat) ^ 0 = 1 by decide]; omega
  have e1 : (65536 * h + l) / 2 ^ 17 % 2 = h / 2 % 2 := by have := e 2; rw [show (2 : Nat) ^ 17 = 65536 * 2 by decide, this]
  have f1 : (65536 * h + l) / 2 ^ 1 % 2 = l / 2 % 2 := by rw [show (2 : Nat) ^ 1 = 2 by decide]; omega
  have e2 : (65536 * h + l) / 2 ^ 18 % 2 = h / 4 % 2 := by have := e 4; rw [show (2 : Nat) ^ 18 = 65536 * 4 by decide, this]
  have f2 : (65536 * h + l) / 2 ^ 2 % 2 = l / 4 % 2 := by rw [show (2 : Nat) ^ 2 = 4 by decide]; omega
  have e3 : (65536 * h + l) / 2 ^ 19 % 2 = h / 8 % 2 := by have := e 8; rw [show (2 : Nat) ^ 19 = 65536 * 8 by decide, this]
  have f3 : (65536 * h + l) / 2 ^ 3 % 2 = l / 8 % 2 := by rw [show (2 : Nat) ^ 3 = 8 by decide]; omega
  have e4 : (65536 * h + l) / 2 ^ 20 % 2 = h / 16 % 2 := by have := e 16; rw [show (2 : Nat) ^ 20 = 65536 * 16 by decide, this]
  have f4 : (65536 * h + l) / 2 ^ 4 % 2 = l / 16 % 2 := by rw [show (2 : Nat) ^ 4 = 16 by decide]; omega
  have e5 : (65536 * h + l) / 2 ^ 21 % 2 = h / 32 % 2 := by have := e 32; rw [show (2 : Nat) ^ 21 = 65536 * 32 by decide, this]
  have f5 : (65536 * h + l) / 2 ^ 5 % 2 = l / 32 % 2 := by rw [show (2 : Nat) ^ 5 = 32 by decide]; omega
  have e6 : (65536 * h + l) / 2 ^ 22 % 2 = h / 64 % 2 := by have := e 64; rw [show (2 : Nat) ^ 22 = 65536 * 64 by decide, this]
  have f6 : (65536 * h + l) / 2 ^ 6 % 2 = l / 64 % 2 := by rw [show (2 : Nat) ^ 6 = 64 by decide]; omega
  have e7 : (65536 * h + l) / 2 ^ 23 % 2 = h / 128 % 2 := by have := e 128; rw [show (2 : Nat) ^ 23 = 65536 * 128 by decide, this]
  have f7 : (65536 * h + l) / 2 ^ 7 % 2 = l / 128 % 2 := by rw [show (2 : Nat) ^ 7 = 128 by decide]; omega
  have e8 : (65536 * h + l) / 2 ^ 24 % 2 = h / 256 % 2 := by have := e 256; rw [show (2 : Nat) ^ 24 = 65536 * 256 by decide, this]
  have f8 : (65536 * h + l) / 2 ^ 8 % 2 = l / 256 % 2 := by rw [show (2 : Nat) ^ 8 = 256 by decide]; omega
  have e9 : (65536 * h + l) / 2 ^ 25 % 2 = h / 512 % 2 := by have := e 512; rw [show (2 : Nat) ^ 25 = 65536 * 512 by decide, this]
  have f9 : (65536 * h + l) / 2 ^ 9 % 2 = l / 512 % 2 := by rw [show (2 : Nat) ^ 9 = 512 by decide]; omega
  have e10 : (65536 * h + l) / 2 ^ 26 % 2 = h / 1024 % 2 := by have := e 1024; rw [show (2 : Nat) ^ 26 = 65536 * 1024 by decide, this]
  have f10 : (65536 * h + l) / 2 ^ 10 % 2 = l / 1024 % 2 := by rw [show (2 : Nat) ^ 10 = 1024 by decide]; omega
  have e11 : (65536 * h + l) / 2 ^ 27 % 2 = h / 2048 % 2 := by have := e 2048; rw [show (2 : Nat) ^ 27 = 65536 * 2048 by decide, this]
  have f11 : (65536 * h + l) / 2 ^ 11 % 2 = l / 2048 % 2 := by rw [show (2 : Nat) ^ 11 = 2048 by decide]; omega
  have e12 : (65536 * h + l) / 2 ^ 28 % 2 = h / 4096 % 2 := by have := e 4096; rw [show (2 : Nat) ^ 28 = 65536 * 4096 by decide, this]
  have f12 : (65536 * h + l) / 2 ^ 12 % 2 = l / 4096 % 2 := by rw [show (2 : Nat) ^ 12 = 4096 by decide]; omega
  have e13 : (65536 * h + l) / 2 ^ 29 % 2 = h / 8192 % 2 := by have := e 8192; rw [show (2 : Nat) ^ 29 = 65536 * 8192 by decide, this]
  have f13 : (65536 * h + l) / 2 ^ 13 % 2 = l / 8192 % 2 := by rw [show (2 : Nat) ^ 13 = 8192 by decide]; omega
  have e14 : (65536 * h + l) / 2 ^ 30 % 2 = h / 16384 % 2 := by have := e 16384; rw [show (2 : Nat) ^ 30 = 65536 * 16384 by decide, this]
  have f14 : (65536 * h + l) / 2 ^ 14 % 2 = l / 16384 % 2 := by rw [show (2 : Nat) ^ 14 = 16384 by decide]; omega
  have e15 : (65536 * h + l) / 2 ^ 31 % 2 = h / 32768 % 2 := by have := e 32768; rw [show (2 : Nat) ^ 31 = 65536 * 32768 by decide, this]
  have f15 : (65536 * h + l) / 2 ^ 15 % 2 = l / 32768 % 2 := by rw [show (2 : Nat) ^ 15 = 32768 by decide]; omega
  simp only [sb]
  rw [f0, f1, f2, f3, f4, f5, f6, f7, f8, f9, f10, f11, f12, f13, f14, f15, e0, e1, e2, e3, e4, e5, e6, e7, e8, e9, e10, e11, e12, e13, e14, e15]
  unfold p16
  rw [Nat.div_one, Nat.div_one]
  omega

theorem btS_bc (x : Int32) : btS x 32 = bcF x := by
  obtain ⟨n, hn, rfl⟩ := nI_ex x
  have em : 65536 * (n / 65536) + n % 65536 = n := by omega
  have h1 := bc_pop (h := n / 65536) (l := n % 65536) (by omega) (by omega)
  have h2 := sbq_cat (h := n / 65536) (l := n % 65536) (by omega)
  rw [em] at h1 h2
  rw [btS_n hn 32 (by omega), h1, h2]
theorem cnt_row {f : Nat → Int32} {r : Nat} : ∀ i, i ≤ 32 → cntR f (32 * r + i) = cntR f (32 * r) + btS (f r) i := by
  intro i
  induction i with
  | zero => intro _; show _ = _ + 0; simp
  | succ i ih =>
    intro hi
    show cntR f (32 * r + i) + btR (f ((32 * r + i) / 32)) (nI ((32 * r + i) % 32)) = _
    rw [ih (by omega), show (32 * r + i) / 32 = r by omega, show (32 * r + i) % 32 = i by omega, btS, Int32.add_assoc]
theorem cnt_eq {f : Nat → Int32} : ∀ r, cntR f (32 * r) = cntF f r := by
  intro r
  induction r with
  | zero => rfl
  | succ r ih => rw [show 32 * (r + 1) = 32 * r + 32 by omega, cnt_row 32 (by omega), ih, btS_bc]; rfl
theorem cnt_768 {f : Nat → Int32} : cntR f 768 = cntF f 24 := cnt_eq 24
