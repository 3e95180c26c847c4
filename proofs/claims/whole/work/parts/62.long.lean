
/-! a bit of a long: a source's pattern -/
def tbl (x : Int64) (i : Nat) : Bool := x.toBitVec.getLsbD i
theorem tbl_ext {x y : Int64} (h : ∀ i, i < 64 → tbl x i = tbl y i) : x = y := Int64.toBitVec_inj.mp (BitVec.eq_of_getLsbD_eq (fun i hi => h i hi))
theorem tbl_and {x y : Int64} {i : Nat} : tbl (x &&& y) i = (tbl x i && tbl y i) := by unfold tbl; rw [Int64.toBitVec_and, BitVec.getLsbD_and]
theorem tbl_one : ∀ i, i < 64 → tbl 1 i = decide (i = 0) := by decide +kernel
theorem tbl_0 : ∀ i, i < 64 → tbl 0 i = false := by decide +kernel
def bL (x : Bool) : Int64 := if x then 1 else 0
theorem bit1L {x : Int64} : x &&& 1 = bL (tbl x 0) := by
  apply tbl_ext
  intro i hi
  rw [tbl_and, tbl_one i hi]
  cases h : tbl x 0 with
  | false =>
    show _ = tbl 0 i
    rw [tbl_0 i hi]
    by_cases q : i = 0
    · subst q; rw [h]; rfl
    · simp [q]
  | true =>
    show _ = tbl 1 i
    rw [tbl_one i hi]
    by_cases q : i = 0
    · subst q; rw [h]; rfl
    · simp [q]
theorem smL_C : ∀ C, C < 64 → (((nI C).toInt64 &&& 63).toBitVec.smod 64).toNat = C := by decide +kernel
theorem usL_C : ∀ C, C < 64 → (((nI C).toInt64.toUInt64 &&& Int64.toUInt64 63).toBitVec % 64).toNat = C := by decide +kernel
theorem tbl_shr {x : Int64} {C : Nat} (hC : C < 64) : tbl (x >>> ((nI C).toInt64 &&& 63)) 0 = tbl x C := by
  unfold tbl
  rw [Int64.toBitVec_shiftRight]
  show (x.toBitVec.sshiftRight (((nI C).toInt64 &&& 63).toBitVec.smod 64).toNat).getLsbD 0 = _
  rw [smL_C C hC, BitVec.getLsbD_sshiftRight]
  simp [hC]
theorem tbl_ushr {x : Int64} {C : Nat} (hC : C < 64) : tbl (x.toUInt64 >>> ((nI C).toInt64.toUInt64 &&& Int64.toUInt64 63)).toInt64 0 = tbl x C := by
  unfold tbl
  show ((x.toUInt64 >>> ((nI C).toInt64.toUInt64 &&& Int64.toUInt64 63)).toBitVec).getLsbD 0 = _
  rw [UInt64.toBitVec_shiftRight]
  show (x.toBitVec >>> (((nI C).toInt64.toUInt64 &&& Int64.toUInt64 63).toBitVec % 64).toNat).getLsbD 0 = _
  rw [usL_C C hC, BitVec.getLsbD_ushiftRight]
  simp
/-- does a source send: the two ways of asking -/
theorem act_eq {pat : Int64} {P : Nat} (hP : P < 64) : (lg_cmp ((pat >>> ((nI P).toInt64 &&& 63)) &&& 1) 1 = 0) ↔ sAct pat P = true := by
  unfold sAct
  rw [bit1L, bit1L, tbl_shr hP, tbl_ushr hP]
  cases tbl pat P <;> decide
/-- the next place of a pattern -/
theorem plc_eq {P n : Nat} (h : P < n) (hn : n ≤ 64) : nI P + 1 - (nI P + 1) / nI n * nI n = nI (sNx n P) := by
  rw [nI_1, pk_rem (by omega) (by omega) (by omega)]
  unfold sNx
  by_cases q : P + 1 < n
  · rw [if_pos q, Nat.mod_eq_of_lt q]
  · rw [if_neg q, show P + 1 = n by omega, Nat.mod_self]
/-- is a cell a wire: the two ways of asking -/
theorem wire_eq {F0 F1 F2 : Nat → Int32} {C R : Nat} (hC : C < 32) (hR : R < 24) (hQ : QX F0 F1 F2) : (¬ F2 R &&& (1 <<< (nI C &&& 31)) = 0) ↔ fVal F0 F1 F2 (nI C) (nI R) = 3 := by
  have e : (F2 R &&& (1 <<< (nI C &&& 31)) = 0) ↔ tbn (F2 R) C = false := by
    constructor
    · intro h
      have h2 : tbn (F2 R &&& (1 <<< (nI C &&& 31))) C = false := by rw [h]; exact tbn_0 C hC
      rw [tbn_and, tbn_1 C hC C hC] at h2
      simpa using h2
    · intro h
      apply tbn_ext
      intro i hi
      rw [tbn_and, tbn_1 C hC i hi, tbn_0 i hi]
      by_cases q : i = C
      · subst q; rw [h]; rfl
      · simp [q]
  rw [e]
  unfold fVal
  rw [if_pos (inF_n hC hR), nI_clamp (by omega), tb_b hC, tb_b hC, tb_b hC]
  have h := hQ R C hC
  revert h
  cases tbn (F0 R) C <;> cases tbn (F1 R) C <;> cases tbn (F2 R) C <;> intro h <;> first | decide | (exfalso; revert h; decide)
/-- a put that changes nothing -/
theorem pB_id {F : Nat → Int32} {C R : Nat} {v k : Int32} (hC : C < 32) (hR : R < 24) (hv : ¬ v = k) (h : tbn (F R) C = false) : pB F (nI C) (nI R) v k = F := by
  funext r
  apply tbn_ext
  intro i hi
  rw [pB_bit hC hR hi]
  by_cases q : r = R ∧ i = C
  · rw [if_pos q, decide_eq_false hv, q.1, q.2, h]
  · rw [if_neg q]
