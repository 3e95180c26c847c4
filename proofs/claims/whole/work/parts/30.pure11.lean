/-- an order of one sign, done: does it stay within the field; the pen then -/
def obX (ch : Int32) : Int32 × Int32 × Nat × Bool × Nat × (Nat → Int32) × (Nat → Int32) × (Nat → Int32) → Bool × (Int32 × Int32 × Nat × Bool × Nat × (Nat → Int32) × (Nat → Int32) × (Nat → Int32))
  | (c, r, d, u, o, F0, F1, F2) =>
    if ch = 70 then (if inF (cA c d 1 0) (rA r d 1 0) = true then (true, (cA c d 1 0, rA r d 1 0, d, u, o, mkB u F0 (cA (cA c d 1 0) d 0 0) (rA (rA r d 1 0) d 0 0) 1, mkB u F1 (cA (cA c d 1 0) d 0 0) (rA (rA r d 1 0) d 0 0) 2, mkB u F2 (cA (cA c d 1 0) d 0 0) (rA (rA r d 1 0) d 0 0) 3)) else (false, (c, r, d, u, o, F0, F1, F2))) else
    if ch = 66 then (if inF (cA c d (-1) 0) (rA r d (-1) 0) = true then (true, (cA c d (-1) 0, rA r d (-1) 0, d, u, o, F0, F1, F2)) else (false, (c, r, d, u, o, F0, F1, F2))) else
    if ch = 82 then (true, (c, r, (d + 1) % 4, u, o, F0, F1, F2)) else
    if ch = 76 then (true, (c, r, (d + 3) % 4, u, o, F0, F1, F2)) else
    if ch = 85 then (true, (c, r, d, false, o, F0, F1, F2)) else
    if ch = 68 then (true, (c, r, d, true, o, F0, F1, F2)) else
    if ch = 69 then (true, (c, r, d, u, o, if fVal (pB F0 c r 1 1) (pB F1 c r 1 2) (pB F2 c r 1 3) (cA c d (-1) 0) (rA r d (-1) 0) = 3 then pB (pB F0 c r 1 1) (cA c d (-1) 0) (rA r d (-1) 0) 2 1 else pB F0 c r 1 1, if fVal (pB F0 c r 1 1) (pB F1 c r 1 2) (pB F2 c r 1 3) (cA c d (-1) 0) (rA r d (-1) 0) = 3 then pB (pB F1 c r 1 2) (cA c d (-1) 0) (rA r d (-1) 0) 2 2 else pB F1 c r 1 2, if fVal (pB F0 c r 1 1) (pB F1 c r 1 2) (pB F2 c r 1 3) (cA c d (-1) 0) (rA r d (-1) 0) = 3 then pB (pB F2 c r 1 3) (cA c d (-1) 0) (rA r d (-1) 0) 2 3 else pB F2 c r 1 3)) else
    if ch = 87 then (true, (c, r, d, u, o, pB F0 c r 0 1, pB F1 c r 0 2, pB F2 c r 0 3)) else
    if ch = 60 then (if (inF (cA c d 4 0) (rA r d 4 0) && (inF (cA c d 2 (-1)) (rA r d 2 (-1)) && inF (cA c d 2 1) (rA r d 2 1))) = true then (true, (cA c d 4 0, rA r d 4 0, d, u, o, mkB u (mkB u (mkB u (mkB u (mkB u (mkB u (mkB u F0 (cA c d 1 0) (rA r d 1 0) 1) (cA c d 2 (-1)) (rA r d 2 (-1)) 1) (cA c d 2 1) (rA r d 2 1) 1) (cA c d 3 (-1)) (rA r d 3 (-1)) 1) (cA c d 3 0) (rA r d 3 0) 1) (cA c d 3 1) (rA r d 3 1) 1) (cA c d 4 0) (rA r d 4 0) 1, mkB u (mkB u (mkB u (mkB u (mkB u (mkB u (mkB u F1 (cA c d 1 0) (rA r d 1 0) 2) (cA c d 2 (-1)) (rA r d 2 (-1)) 2) (cA c d 2 1) (rA r d 2 1) 2) (cA c d 3 (-1)) (rA r d 3 (-1)) 2) (cA c d 3 0) (rA r d 3 0) 2) (cA c d 3 1) (rA r d 3 1) 2) (cA c d 4 0) (rA r d 4 0) 2, mkB u (mkB u (mkB u (mkB u (mkB u (mkB u (mkB u F2 (cA c d 1 0) (rA r d 1 0) 3) (cA c d 2 (-1)) (rA r d 2 (-1)) 3) (cA c d 2 1) (rA r d 2 1) 3) (cA c d 3 (-1)) (rA r d 3 (-1)) 3) (cA c d 3 0) (rA r d 3 0) 3) (cA c d 3 1) (rA r d 3 1) 3) (cA c d 4 0) (rA r d 4 0) 3)) else (false, (c, r, d, u, o, F0, F1, F2))) else
    (false, (c, r, d, u, o, F0, F1, F2))

abbrev PT : Type := Int32 × Int32 × Nat × Bool × Nat × (Nat → Int32) × (Nat → Int32) × (Nat → Int32)
def PV (P : PT) : Prop := P.2.2.1 < 4 ∧ P.2.2.2.2.1 ≤ 400
/-- so often -/
def pfT (one : PT → Bool × PT) : Nat → PT → Bool × PT
  | 0, P => (true, P)
  | n + 1, P => if (one P).1 = true then pfT one n (one P).2 else (false, (one P).2)
/-- one order done -/
def pfO (rec : (Nat → Int32) → Nat → Nat → Nat → PT → Bool × PT) (MS : Nat → Nat → Int32) (MN : Nat → Nat) (S : Nat → Int32) (N k e : Nat) : PT → Bool × PT
  | (c, r, d, u, o, F0, F1, F2) => if o < 400 then
      (if sg S N k = 40 then ((rec S N (k + 1) (e - 1) (c, r, d, u, o + 1, F0, F1, F2)).1, (c, r, d, u, (rec S N (k + 1) (e - 1) (c, r, d, u, o + 1, F0, F1, F2)).2.2.2.2.2))
       else if sg S N k = 64 then (if ¬ sg S N (k + 1) - 97 < 0 ∧ sg S N (k + 1) - 97 < 4 then rec (MS (sg S N (k + 1) - 97).toNatClampNeg) (MN (sg S N (k + 1) - 97).toNatClampNeg) 0 (MN (sg S N (k + 1) - 97).toNatClampNeg) (c, r, d, u, o + 1, F0, F1, F2) else (false, (c, r, d, u, o + 1, F0, F1, F2)))
       else if sg S N k = 91 then rec S N (k + 1) (e - 1) (c, r, d, u, o + 1, F0, F1, F2)
       else obX (sg S N k) (c, r, d, u, o + 1, F0, F1, F2))
    else (false, (c, r, d, u, o, F0, F1, F2))
def tmN (S : Nat → Int32) (N k : Nat) : Nat := (tmA S N k).toNatClampNeg
/-- the orders of a text from one place up to another -/
def pfL (rec : (Nat → Int32) → Nat → Nat → Nat → PT → Bool × PT) (MS : Nat → Nat → Int32) (MN : Nat → Nat) (S : Nat → Int32) (N to : Nat) : Nat → Nat → PT → Bool × PT
  | 0, _, P => (true, P)
  | f + 1, k, P => if k < to then (match eoO (eoD S N 4 3) S N 4 (k + dgA S N k) with
      | none => (false, P)
      | some e => if (pfT (pfO rec MS MN S N (k + dgA S N k) e) (tmN S N k) P).1 = true then pfL rec MS MN S N to f e (pfT (pfO rec MS MN S N (k + dgA S N k) e) (tmN S N k) P).2 else (false, (pfT (pfO rec MS MN S N (k + dgA S N k) e) (tmN S N k) P).2)) else (true, P)
def pfD (MS : Nat → Nat → Int32) (MN : Nat → Nat) : Nat → (Nat → Int32) → Nat → Nat → Nat → PT → Bool × PT
  | 0, _, _, _, _, P => (false, P)
  | m + 1, S, N, f, t, P => pfL (pfD MS MN m) MS MN S N t 60 f P
/-- a text's two cells, apart from the pen's -/
def tX (b : Nat) (ta : Nat → ClassId) (σ : List va_E) (x s : Nat) (S : Nat → Int32) (N : Nat) : Prop := σ[x]? = some (.inr (5, [.ref (b + s), .int (nI N)])) ∧ σ[s]? = some (.inl (ta 1, 60, .inl S)) ∧ Fc S ∧ N ≤ 60 ∧ (9 ≠ x ∧ 11 ≠ x ∧ 12 ≠ x ∧ 13 ≠ x) ∧ (9 ≠ s ∧ 11 ≠ s ∧ 12 ≠ s ∧ 13 ≠ s)
section TXs
variable {b : Nat} {ta : Nat → ClassId} {σ : List va_E} {x s : Nat} {S : Nat → Int32} {N : Nat} {c r : Int32} {d : Nat} {u : Bool} {o : Nat} {F0 F1 F2 : Nat → Int32}
theorem tX_x (T : tX b ta σ x s S N) : (pS b ta σ 9 10 11 12 13 c r d u o F0 F1 F2)[x]? = some (.inr (5, [.ref (b + s), .int (nI N)])) := pS_o T.2.2.2.2.1.1 T.2.2.2.2.1.2.1 T.2.2.2.2.1.2.2.1 T.2.2.2.2.1.2.2.2 T.1
theorem tX_s (T : tX b ta σ x s S N) : (pS b ta σ 9 10 11 12 13 c r d u o F0 F1 F2)[s]? = some (.inl (ta 1, 60, .inl S)) := pS_o T.2.2.2.2.2.1 T.2.2.2.2.2.2.1 T.2.2.2.2.2.2.2.1 T.2.2.2.2.2.2.2.2 T.2.1
end TXs
theorem dg_nI {c : Int32} (h : dg c = true) : ∃ z, z < 10 ∧ c - 48 = nI z := by
  have h1 := of_decide_eq_true h
  have h2 : ¬ c < 0 := fun q => h1.1 (Int32.lt_of_lt_of_le q (by decide))
  obtain ⟨C, hC, rfl⟩ := nI_of h2
  have h48 : 48 ≤ C := (Nat.lt_or_ge C 48).elim (fun q => absurd (nI_lt (a := C) (b := 48) q (by decide)) h1.1) id
  have h57 : C ≤ 57 := (Nat.lt_or_ge 57 C).elim (fun q => absurd (nI_lt (a := 57) (b := C) q hC) h1.2) id
  exact ⟨C - 48, by omega, pk_sub (a := C) (b := 48) h48⟩
theorem tm_nI (S : Nat → Int32) (N k : Nat) : tmA S N k = nI (tmN S N k) ∧ tmN S N k ≤ 99 := by
  have key : ∀ z, z ≤ 99 → tmA S N k = nI z → tmA S N k = nI (tmN S N k) ∧ tmN S N k ≤ 99 := by
    intro z hz h
    have h2 : tmN S N k = z := by unfold tmN; rw [h]; exact nI_clamp (by omega)
    rw [h2]; exact ⟨h, hz⟩
  cases h0 : dg (sg S N k) with
  | false =>
    have hd : dgA S N k = 0 := by simp [dgA, h0]
    exact key 1 (by omega) (by unfold tmA; rw [hd]; rfl)
  | true =>
    obtain ⟨z, hz, e1⟩ := dg_nI h0
    cases h1 : dg (sg S N (k + 1)) with
    | false =>
      have hd : dgA S N k = 1 := by simp [dgA, h0, h1]
      exact key z (by omega) (by unfold tmA; rw [hd, if_pos (show nI 1 = 1 from rfl)]; exact e1)
    | true =>
      obtain ⟨y, hy, e2⟩ := dg_nI h1
      have hd : dgA S N k = 2 := by simp [dgA, h0, h1]
      refine key (z * 10 + y) (by omega) ?_
      unfold tmA
      rw [hd, if_neg (by decide), if_pos (show nI 2 = 2 from rfl), e1]
      have e3 : nI z * 10 + sg S N (k + 1) - 48 = nI z * 10 + (sg S N (k + 1) - 48) := by rw [Int32.sub_eq_add_neg, Int32.add_assoc, ← Int32.sub_eq_add_neg]
      rw [e3, e2]
      have e4 : nI z * 10 = nI (z * 10) := pk_mul z 10
      rw [e4, nI_add]
