
/-! what a drawing keeps of the sheet: whatever a put keeps -/
def PQ (Q : (Nat → Int32) → (Nat → Int32) → (Nat → Int32) → Prop) (P : PT) : Prop := Q P.2.2.2.2.2.1 P.2.2.2.2.2.2.1 P.2.2.2.2.2.2.2
theorem PQ_ite {Q : (Nat → Int32) → (Nat → Int32) → (Nat → Int32) → Prop} {p : Prop} [Decidable p] {A B : Bool × PT} (h1 : PQ Q A.2) (h2 : PQ Q B.2) : PQ Q (if p then A else B).2 := by split <;> assumption
def PQk (Q : (Nat → Int32) → (Nat → Int32) → (Nat → Int32) → Prop) : Prop := ∀ (F0 F1 F2 : Nat → Int32) (c r v : Int32), ¬ v < 0 → v ≤ 3 → Q F0 F1 F2 → Q (pB F0 c r v 1) (pB F1 c r v 2) (pB F2 c r v 3)
section PQs
variable {Q : (Nat → Int32) → (Nat → Int32) → (Nat → Int32) → Prop}
theorem mkB_Q (hQ : PQk Q) {F0 F1 F2 : Nat → Int32} (u : Bool) (c r : Int32) (h : Q F0 F1 F2) : Q (mkB u F0 c r 1) (mkB u F1 c r 2) (mkB u F2 c r 3) := by
  cases u with
  | false => exact h
  | true => exact hQ _ _ _ _ _ _ (by decide) (by decide) h
theorem obX_Q (hQ : PQk Q) {ch : Int32} {P : PT} (h : PQ Q P) : PQ Q (obX ch P).2 := by
  obtain ⟨c, r, d, u, o, F0, F1, F2⟩ := P
  have h : Q F0 F1 F2 := h
  simp only [obX]
  refine PQ_ite (PQ_ite (mkB_Q hQ _ _ _ h) h) (PQ_ite (PQ_ite h h) (PQ_ite h (PQ_ite h (PQ_ite h (PQ_ite h (PQ_ite ?_ (PQ_ite (hQ _ _ _ _ _ _ (by decide) (by decide) h) (PQ_ite (PQ_ite ?_ h) h))))))))
  · show Q (if _ then _ else _) (if _ then _ else _) (if _ then _ else _)
    split
    · exact hQ _ _ _ _ _ _ (by decide) (by decide) (hQ _ _ _ _ _ _ (by decide) (by decide) h)
    · exact hQ _ _ _ _ _ _ (by decide) (by decide) h
  · exact mkB_Q hQ _ _ _ (mkB_Q hQ _ _ _ (mkB_Q hQ _ _ _ (mkB_Q hQ _ _ _ (mkB_Q hQ _ _ _ (mkB_Q hQ _ _ _ (mkB_Q hQ _ _ _ h))))))
theorem pfO_Q (hQ : PQk Q) {rec : (Nat → Int32) → Nat → Nat → Nat → PT → Bool × PT} (hR : ∀ S N f t P, PQ Q P → PQ Q (rec S N f t P).2) {MS : Nat → Nat → Int32} {MN : Nat → Nat} {S : Nat → Int32} {N k e : Nat} {P : PT} (h : PQ Q P) : PQ Q (pfO rec MS MN S N k e P).2 := by
  obtain ⟨c, r, d, u, o, F0, F1, F2⟩ := P
  have hv : PQ Q (c, r, d, u, o + 1, F0, F1, F2) := h
  by_cases ho : o < 400
  · simp only [pfO, if_pos ho]
    split
    · exact hR _ _ _ _ _ hv
    · split
      · split
        · exact hR _ _ _ _ _ hv
        · exact hv
      · split
        · exact hR _ _ _ _ _ hv
        · exact obX_Q hQ hv
  · simp only [pfO, if_neg ho]; exact h
theorem pfT_Q {one : PT → Bool × PT} (h1 : ∀ P, PQ Q P → PQ Q (one P).2) : ∀ n P, PQ Q P → PQ Q (pfT one n P).2 := by
  intro n
  induction n with
  | zero => intro P h; exact h
  | succ n ih =>
    intro P h
    unfold pfT
    split
    · exact ih _ (h1 P h)
    · exact h1 P h
theorem pfL_Q (hQ : PQk Q) {rec : (Nat → Int32) → Nat → Nat → Nat → PT → Bool × PT} (hR : ∀ S N f t P, PQ Q P → PQ Q (rec S N f t P).2) {MS : Nat → Nat → Int32} {MN : Nat → Nat} {S : Nat → Int32} {N to : Nat} : ∀ f k P, PQ Q P → PQ Q (pfL rec MS MN S N to f k P).2 := by
  intro f
  induction f with
  | zero => intro k P h; exact h
  | succ f ih =>
    intro k P h
    unfold pfL
    split
    · cases eoO (eoD S N 4 3) S N 4 (k + dgA S N k) with
      | none => exact h
      | some e =>
        dsimp only
        split
        · exact ih _ _ (pfT_Q (fun P h => pfO_Q hQ hR h) _ _ h)
        · exact pfT_Q (fun P h => pfO_Q hQ hR h) _ _ h
    · exact h
theorem pfD_Q (hQ : PQk Q) {MS : Nat → Nat → Int32} {MN : Nat → Nat} : ∀ m S N f t P, PQ Q P → PQ Q (pfD MS MN m S N f t P).2 := by
  intro m
  induction m with
  | zero => intro S N f t P h; exact h
  | succ m ih => intro S N f t P h; exact pfL_Q hQ ih _ _ _ h
end PQs
def QZ (F0 F1 F2 : Nat → Int32) : Prop := Z24 F0 ∧ Z24 F1 ∧ Z24 F2
theorem QZ_k : PQk QZ := fun _ _ _ _ _ _ _ _ h => ⟨pB_z h.1, pB_z h.2.1, pB_z h.2.2⟩
/-- a drawing: does it stay within the field; the pen and the sheet at its end -/
def drX (MS : Nat → Nat → Int32) (MN : Nat → Nat) (S : Nat → Int32) (N : Nat) (x y : Int32) (d : Nat) (F0 F1 F2 : Nat → Int32) : Bool × PT := pfD MS MN 20 S N 0 N (x, y, d, true, 0, F0, F1, F2)
theorem drX_z {MS : Nat → Nat → Int32} {MN : Nat → Nat} {S : Nat → Int32} {N : Nat} {x y : Int32} {d : Nat} {F0 F1 F2 : Nat → Int32} (h0 : Z24 F0) (h1 : Z24 F1) (h2 : Z24 F2) : QZ (drX MS MN S N x y d F0 F1 F2).2.2.2.2.2.2.1 (drX MS MN S N x y d F0 F1 F2).2.2.2.2.2.2.2.1 (drX MS MN S N x y d F0 F1 F2).2.2.2.2.2.2.2.2 := pfD_Q QZ_k 20 S N 0 N _ (show QZ F0 F1 F2 from ⟨h0, h1, h2⟩)
theorem drX_v {MS : Nat → Nat → Int32} {MN : Nat → Nat} {S : Nat → Int32} {N : Nat} {x y : Int32} {d : Nat} {F0 F1 F2 : Nat → Int32} (hd : d < 4) : (drX MS MN S N x y d F0 F1 F2).2.2.2.1 < 4 ∧ (drX MS MN S N x y d F0 F1 F2).2.2.2.2.2.1 ≤ 400 := pfD_PV 20 S N 0 N _ (show PV (x, y, d, true, 0, F0, F1, F2) from ⟨hd, by show 0 ≤ 400; decide⟩)
