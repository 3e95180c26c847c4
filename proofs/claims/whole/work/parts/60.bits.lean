
/-! a bit of an int -/
def tbn (x : Int32) (i : Nat) : Bool := x.toBitVec.getLsbD i
theorem tbn_ext {x y : Int32} (h : ∀ i, i < 32 → tbn x i = tbn y i) : x = y := Int32.toBitVec_inj.mp (BitVec.eq_of_getLsbD_eq (fun i hi => h i hi))
theorem tbn_and {x y : Int32} {i : Nat} : tbn (x &&& y) i = (tbn x i && tbn y i) := by unfold tbn; rw [Int32.toBitVec_and, BitVec.getLsbD_and]
theorem tbn_or {x y : Int32} {i : Nat} : tbn (x ||| y) i = (tbn x i || tbn y i) := by unfold tbn; rw [Int32.toBitVec_or, BitVec.getLsbD_or]
theorem tbn_xor {x y : Int32} {i : Nat} : tbn (x ^^^ y) i = (tbn x i ^^ tbn y i) := by unfold tbn; rw [Int32.toBitVec_xor, BitVec.getLsbD_xor]
theorem tbn_m1 : ∀ i, i < 32 → tbn (-1) i = true := by decide +kernel
theorem tbn_0 : ∀ i, i < 32 → tbn 0 i = false := by decide +kernel
theorem tbn_not {x : Int32} {i : Nat} (hi : i < 32) : tbn (x ^^^ (-1)) i = !tbn x i := by rw [tbn_xor, tbn_m1 i hi]; cases tbn x i <;> rfl
/-- one column's bit -/
theorem tbn_1 : ∀ C, C < 32 → ∀ i, i < 32 → tbn (1 <<< (nI C &&& 31)) i = decide (i = C) := by decide +kernel
theorem tbn_one : ∀ i, i < 32 → tbn 1 i = decide (i = 0) := by decide +kernel
theorem sm_C : ∀ C, C < 32 → ((nI C &&& 31).toBitVec.smod 32).toNat = C := by decide +kernel
theorem us_C : ∀ C, C < 32 → (((nI C).toUInt32 &&& Int32.toUInt32 31).toBitVec % 32).toNat = C := by decide +kernel
theorem tbn_shr {x : Int32} {C : Nat} (hC : C < 32) : tbn (x >>> (nI C &&& 31)) 0 = tbn x C := by
  unfold tbn
  rw [Int32.toBitVec_shiftRight]
  show (x.toBitVec.sshiftRight ((nI C &&& 31).toBitVec.smod 32).toNat).getLsbD 0 = _
  rw [sm_C C hC, BitVec.getLsbD_sshiftRight]
  simp [hC]
theorem bit1 {x : Int32} : x &&& 1 = bI (tbn x 0) := by
  apply tbn_ext
  intro i hi
  rw [tbn_and, tbn_one i hi]
  cases h : tbn x 0 with
  | false =>
    show _ = tbn 0 i
    rw [tbn_0 i hi]
    by_cases q : i = 0
    · subst q; rw [h]; rfl
    · simp [q]
  | true =>
    show _ = tbn 1 i
    rw [tbn_one i hi]
    by_cases q : i = 0
    · subst q; rw [h]; rfl
    · simp [q]
theorem btR_b {x : Int32} {C : Nat} (hC : C < 32) : btR x (nI C) = bI (tbn x C) := by
  unfold btR
  rw [bit1, tbn_shr hC]
theorem tbn_ushr {x : Int32} {C : Nat} (hC : C < 32) : tbn (x.toUInt32 >>> ((nI C).toUInt32 &&& Int32.toUInt32 31)).toInt32 0 = tbn x C := by
  have h := pk_ushr x (nI C) C (us_C C hC)
  unfold tbn
  rw [BitVec.getLsbD, BitVec.getLsbD, h]
  simp [Nat.testBit, Nat.shiftRight_eq_div_pow]
theorem tb_b {x : Int32} {C : Nat} (hC : C < 32) : tb x (nI C) = tbn x C := by
  unfold tb
  rw [bit1, tbn_ushr hC]
  cases tbn x C <;> decide
/-! no cell has two states -/
def QX (F0 F1 F2 : Nat → Int32) : Prop := ∀ r, ∀ i, i < 32 → ¬ (tbn (F0 r) i = true ∧ tbn (F1 r) i = true) ∧ ¬ (tbn (F0 r) i = true ∧ tbn (F2 r) i = true) ∧ ¬ (tbn (F1 r) i = true ∧ tbn (F2 r) i = true)
theorem inF_nn {c r : Int32} (h : inF c r = true) : ∃ C R : Nat, C < 32 ∧ R < 24 ∧ c = nI C ∧ r = nI R := by
  have h1 := of_decide_eq_true h
  obtain ⟨C, hC, rfl⟩ := nI_of h1.1
  obtain ⟨R, hR, rfl⟩ := nI_of h1.2.2.1
  refine ⟨C, R, ?_, ?_, rfl, rfl⟩
  · exact (Nat.lt_or_ge C 32).elim id (fun q => absurd (nI_le (a := 32) q hC) h1.2.1)
  · exact (Nat.lt_or_ge R 24).elim id (fun q => absurd (nI_le (a := 24) q hR) h1.2.2.2)
/-- the bits of a row after a put -/
theorem pB_bit {F : Nat → Int32} {C R : Nat} {v k : Int32} (hC : C < 32) (hR : R < 24) {r i : Nat} (hi : i < 32) : tbn (pB F (nI C) (nI R) v k r) i = if r = R ∧ i = C then decide (v = k) else tbn (F r) i := by
  unfold pB
  rw [if_pos (inF_n hC hR), nI_clamp (by omega)]
  by_cases hr : r = R
  · subst hr
    rw [pk_us]
    by_cases hv : v = k
    · rw [if_pos hv, tbn_or, tbn_1 C hC i hi]
      by_cases q : i = C
      · simp [q, hv]
      · simp [q]
    · rw [if_neg hv, tbn_and, tbn_not hi, tbn_1 C hC i hi]
      by_cases q : i = C
      · simp [q, hv]
      · simp [q]
  · rw [pk_un hr, if_neg (fun q => hr q.1)]
theorem QX_k : PQk QX := by
  intro F0 F1 F2 c r v _ _ h
  by_cases hin : inF c r = true
  · obtain ⟨C, R, hC, hR, rfl, rfl⟩ := inF_nn hin
    intro r i hi
    rw [pB_bit hC hR hi, pB_bit hC hR hi, pB_bit hC hR hi]
    by_cases q : r = R ∧ i = C
    · rw [if_pos q, if_pos q, if_pos q]
      refine ⟨?_, ?_, ?_⟩ <;> (intro e; have e1 := of_decide_eq_true e.1; have e2 := of_decide_eq_true e.2; rw [e1] at e2; exact absurd e2 (by decide))
    · rw [if_neg q, if_neg q, if_neg q]; exact h r i hi
  · unfold pB; rw [if_neg hin, if_neg hin, if_neg hin]; exact h
/-- the two readings of a cell -/
theorem fV_cv {F0 F1 F2 : Nat → Int32} {c r : Int32} (hQ : QX F0 F1 F2) : fVal F0 F1 F2 c r = if inF c r = true then cvR F0 F1 F2 c r else -1 := by
  unfold fVal
  by_cases hin : inF c r = true
  · rw [if_pos hin, if_pos hin]
    obtain ⟨C, R, hC, hR, rfl, rfl⟩ := inF_nn hin
    unfold cvR
    rw [btR_b hC, btR_b hC, btR_b hC, tb_b hC, tb_b hC, tb_b hC]
    have h := hQ (nI R).toNatClampNeg C hC
    revert h
    cases tbn (F0 (nI R).toNatClampNeg) C <;> cases tbn (F1 (nI R).toNatClampNeg) C <;> cases tbn (F2 (nI R).toNatClampNeg) C <;> intro h <;> first | decide | (exfalso; revert h; decide)
  · rw [if_neg hin, if_neg hin]
/-- the macros that are there -/
theorem mt_mc {th hm sz us : Nat → Int32} (hs : ∀ j, j < 4 → (th j = 0 ↔ ¬ 0 ≤ sz j)) (hu : ∀ j, j < 4 → ¬ th j = 0 → hm j = us j) : ∀ n, n ≤ 4 → ∀ nd, mtF th hm n nd = mcR sz us n nd := by
  intro n
  induction n with
  | zero => intro _ nd; rfl
  | succ n ih =>
    intro hn nd
    rw [mtF, mcR]
    by_cases h1 : btR nd (nI n) = 1
    · have h1' : (nd >>> (nI n &&& 31)) &&& 1 = 1 := h1
      rw [if_pos h1, if_pos h1']
      by_cases h2 : th n = 0
      · rw [if_pos h2, if_neg ((hs n (by omega)).mp h2)]
      · rw [if_neg h2, if_pos (Decidable.not_not.mp (fun q => h2 ((hs n (by omega)).mpr q))), ih (by omega), hu n (by omega) h2]
    · have h1' : ¬ (nd >>> (nI n &&& 31)) &&& 1 = 1 := h1
      rw [if_neg h1, if_neg h1', ih (by omega)]
