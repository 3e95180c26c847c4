
/-! bits: pasted from kit/laws/BITS.to-paste (families bt, nx) -/
def bt (x : Int32) (i : Nat) : Bool := x.toBitVec.getLsbD i
theorem b_ext {x y : Int32} (h : ∀ i, i < 32 → bt x i = bt y i) : x = y := Int32.toBitVec_inj.mp (BitVec.eq_of_getLsbD_eq (fun i hi => h i hi))
theorem b_or (x y : Int32) (i : Nat) : bt (x ||| y) i = (bt x i || bt y i) := by unfold bt; rw [Int32.toBitVec_or, BitVec.getLsbD_or]
theorem b_and (x y : Int32) (i : Nat) : bt (x &&& y) i = (bt x i && bt y i) := by unfold bt; rw [Int32.toBitVec_and, BitVec.getLsbD_and]
theorem b_xor (x y : Int32) (i : Nat) : bt (x ^^^ y) i = (bt x i ^^ bt y i) := by unfold bt; rw [Int32.toBitVec_xor, BitVec.getLsbD_xor]
theorem b_big {x : Int32} {i : Nat} (h : 32 ≤ i) : bt x i = false := BitVec.getLsbD_of_ge _ _ h
theorem b_m1 : ∀ i, i < 32 → bt (-1) i = true := by decide +kernel
theorem b_0 (i : Nat) : bt 0 i = false := BitVec.getLsbD_zero
theorem s_l : ∀ n, n < 32 → ((nI n &&& 31).toBitVec.smod 32).toNat = n := by decide +kernel
theorem s_u : ∀ n, n < 32 → (((nI n).toUInt32 &&& Int32.toUInt32 31).toBitVec % 32).toNat = n := by decide +kernel
theorem b_shl (n : Nat) (hn : n < 32) (x : Int32) {i : Nat} (hi : i < 32) : bt (x <<< (nI n &&& 31)) i = (decide (n ≤ i) && bt x (i - n)) := by
  unfold bt
  rw [Int32.toBitVec_shiftLeft]
  show (x.toBitVec <<< ((nI n &&& 31).toBitVec.smod 32).toNat).getLsbD i = _
  rw [s_l n hn, BitVec.getLsbD_shiftLeft]
  rcases Nat.lt_or_ge i n with h | h
  · simp [h, Nat.not_le.mpr h]
  · simp [hi, h, Nat.not_lt.mpr h]
theorem b_ushr (n : Nat) (hn : n < 32) (x : Int32) (i : Nat) : bt ((x.toUInt32 >>> ((nI n).toUInt32 &&& Int32.toUInt32 31)).toInt32) i = bt x (n + i) := by
  show (x.toUInt32 >>> ((nI n).toUInt32 &&& Int32.toUInt32 31)).toBitVec.getLsbD i = x.toUInt32.toBitVec.getLsbD (n + i)
  rw [UInt32.toBitVec_shiftRight]
  show (x.toUInt32.toBitVec >>> (((nI n).toUInt32 &&& Int32.toUInt32 31).toBitVec % 32).toNat).getLsbD i = _
  rw [s_u n hn, BitVec.getLsbD_ushiftRight]
theorem nx_xor (a b : Nat) : nI a ^^^ nI b = nI (a ^^^ b) := by
  apply Int32.toBitVec_inj.1
  show BitVec.ofNat 32 a ^^^ BitVec.ofNat 32 b = BitVec.ofNat 32 (a ^^^ b)
  apply BitVec.eq_of_getLsbD_eq
  intro i hi
  simp [hi]
/-! the JDK's bitCount, step by step -/
def ush (s x : Int32) : Int32 := (x.toUInt32 >>> (s.toUInt32 &&& Int32.toUInt32 31)).toInt32
def bc1 (x : Int32) : Int32 := x - (ush 1 x &&& 1431655765)
def bc2 (x : Int32) : Int32 := (x &&& 858993459) + (ush 2 x &&& 858993459)
def bc3 (x : Int32) : Int32 := (x + ush 4 x) &&& 252645135
def bc4 (x : Int32) : Int32 := x + ush 8 x
def bc5 (x : Int32) : Int32 := x + ush 16 x
def bcF (x : Int32) : Int32 := bc5 (bc4 (bc3 (bc2 (bc1 x)))) &&& 63
def mnF (a b : Int32) : Int32 := if b < a then b else a
theorem fm_nn {T : Nat} (hT : T < 2 ^ 31) : 0 ≤ nI T ^^^ 16 := by
  show 0 ≤ nI T ^^^ nI 16
  rw [nx_xor]
  exact nI_pos' (Nat.xor_lt_two_pow hT (by decide))
theorem fm_rem {T : Nat} (hT : T < 2 ^ 31) : nI T - nI T / 16 * 16 = nI (T % 16) := pk_rem (d := 16) hT (by decide) (by decide)
/-- are two fields the same -/
def gEq (F0 F1 F2 E0 E1 E2 : Nat → Int32) : Bool := (List.range 24).all (fun k => decide (F0 k = E0 k ∧ F1 k = E1 k ∧ F2 k = E2 k))
theorem gEq_t {F0 F1 F2 E0 E1 E2 : Nat → Int32} (h : ∀ k, k < 24 → F0 k = E0 k ∧ F1 k = E1 k ∧ F2 k = E2 k) : gEq F0 F1 F2 E0 E1 E2 = true := List.all_eq_true.mpr (fun k hk => decide_eq_true (h k (List.mem_range.mp hk)))
theorem gEq_f {F0 F1 F2 E0 E1 E2 : Nat → Int32} {k : Nat} (hk : k < 24) (h : ¬ (F0 k = E0 k ∧ F1 k = E1 k ∧ F2 k = E2 k)) : gEq F0 F1 F2 E0 E1 E2 = false := by
  cases hg : gEq F0 F1 F2 E0 E1 E2 with
  | false => rfl
  | true => exact absurd (of_decide_eq_true (List.all_eq_true.mp hg k (List.mem_range.mpr hk))) h
def cntF (f : Nat → Int32) : Nat → Int32
  | 0 => 0
  | n + 1 => cntF f n + bcF (f n)
def selF (F0 F1 F2 : Nat → Int32) (v : Int32) : Nat → Int32 := fun k => if v = 1 then F0 k else if v = 2 then F1 k else F2 k
/-! the bits that are beside one, two, three heads, as the class counts them -/
def bsS (s : Int32 × Int32 × Int32) (near : Int32) : Int32 × Int32 × Int32 := (s.1 ||| near, s.2.1 ||| (s.1 &&& near), s.2.2 ||| (s.2.1 &&& near))
def bsR (x : Int32) (s : Int32 × Int32 × Int32) : Int32 × Int32 × Int32 := bsS (bsS (bsS s (x <<< (1 &&& 31))) x) (ush 1 x)
def bsG (F : Nat → Int32) : Nat → Nat → Int32 × Int32 × Int32 → Int32 × Int32 × Int32
  | 0, _, s => s
  | n + 1, k, s => if k < 24 then bsG F n (k + 1) (bsR (F k) s) else s
def bsd (F : Nat → Int32) (R : Nat) : Int32 := (bsG F (R + 2 - (R - 1)) (R - 1) (0, 0, 0)).1 &&& ((bsG F (R + 2 - (R - 1)) (R - 1) (0, 0, 0)).2.2 ^^^ (-1))
theorem bs_max {R : Nat} (hR : R < 24) : (if nI R - 1 < 0 then (0 : Int32) else nI R - 1) = nI (R - 1) := by
  cases R with
  | zero => rfl
  | succ R => rw [nI_pred, if_neg (nI_pos (by omega))]; rfl
theorem bsG_0 {F : Nat → Int32} {n k : Nat} {s : Int32 × Int32 × Int32} (h : ¬ k < 24) : bsG F n k s = s := by
  cases n
  · rfl
  · exact if_neg h
/-- the rows up to k from one picture, the others from another -/
def gUp (f g : Nat → Int32) (k : Nat) : Nat → Int32 := fun j => if j < k then f j else g j
theorem gUp_0 (f g : Nat → Int32) : gUp f g 0 = g := by funext j; simp [gUp]
theorem gUp_s (f g : Nat → Int32) (k : Nat) (x : Int32) (hx : x = f k) : upd (gUp f g k) k x = gUp f g (k + 1) := by
  funext j
  by_cases h : j = k
  · subst h; rw [pk_us, hx]; simp [gUp]
  · rw [pk_un h]; simp only [gUp]
    by_cases h2 : j < k
    · rw [if_pos h2, if_pos (by omega)]
    · rw [if_neg h2, if_neg (by omega)]
theorem gUp_e {f g : Nat → Int32} (hf : Z24 f) (hg : Z24 g) : gUp f g 24 = f := by
  funext j
  simp only [gUp]
  by_cases h : j < 24
  · rw [if_pos h]
  · rw [if_neg h, hf j (by omega), hg j (by omega)]
theorem gUp_at {f g : Nat → Int32} {k : Nat} : gUp f g k k = g k := by simp [gUp]
theorem s3 {α : Type} {σ : List α} {h t w : Nat} {x y z x' y' z' : α} (n1 : h ≠ t) (n2 : h ≠ w) (n3 : t ≠ w) : (((((σ.set h x).set t y).set w z).set h x').set t y').set w z' = ((σ.set h x').set t y').set w z' := by
  apply List.ext_getElem?
  intro i
  simp only [List.getElem?_set, List.length_set]
  by_cases a : h = i <;> by_cases b : t = i <;> by_cases c : w = i <;> simp_all
theorem s3_0 {α : Type} {σ : List α} {h t w : Nat} {x y z : α} (hh : σ[h]? = some x) (ht : σ[t]? = some y) (hw : σ[w]? = some z) : ((σ.set h x).set t y).set w z = σ := by rw [jset hh, jset ht, jset hw]
/-- a generation's rows, as the class makes them -/
def nxH (E0 E2 : Nat → Int32) : Nat → Int32 := fun k => if k < 24 then E2 k &&& bsd E0 k else 0
def nxW (E0 E1 E2 : Nat → Int32) : Nat → Int32 := fun k => (E2 k &&& (nxH E0 E2 k ^^^ (-1))) ||| E1 k
theorem nxH_at {E0 E2 : Nat → Int32} {k : Nat} (h : k < 24) : nxH E0 E2 k = E2 k &&& bsd E0 k := if_pos h
theorem nxH_z {E0 E2 : Nat → Int32} : Z24 (nxH E0 E2) := fun k h => if_neg (by omega)
theorem nxW_z {E0 E1 E2 : Nat → Int32} (h1 : Z24 E1) (h2 : Z24 E2) : Z24 (nxW E0 E1 E2) := fun k h => by simp [nxW, h1 k h, h2 k h]
