
/-! a drawing: class and reference -/
theorem dr_tx {S : Nat → Int32} {N : Nat} {th : Nat → Int32} {MS : Nat → Nat → Int32} {MN : Nat → Nat} {us : Nat → Int32} {fx : FX} (T : TI S N th MS MN fx.2.2.2.2.2.2.2.2.2.2.2.2.2.2.2.2.2.2.2.2.2.2.1 fx.2.2.2.2.2.2.2.2.2.2.2.2.2.2.2.2.2.2.2.2.2.2.2.1 us) (hio : ioF S N 4 = true) (hmt : mtF th (hmM MS MN) 4 (hmF S N N) = true) : ∃ Th : Nat → Prop, Th 4 ∧ TXr fx (vf_upd MS 4 S) (vf_upd MN 4 N) Th ∧ TXs (vf_upd MS 4 S) (vf_upd MN 4 N) Th := by
  obtain ⟨Q, q1, q2, q3⟩ := mt_Q 4 (Nat.le_refl _) _ hmt
  refine ⟨fun t => t = 4 ∨ Q t, Or.inl rfl, fun t ht => ?_, fun t ht => ?_, fun t ht k j h64 e hj => ?_⟩
  · rcases ht with e | e
    · subst e
      rw [vf_s, vf_s]
      exact ⟨by omega, T.2.1, T.1, TI_sg T⟩
    · have h4 := q2 t e
      have hne : ¬ t = 4 := by have := h4.1; omega
      rw [vf_ne hne, vf_ne hne]
      obtain ⟨a1, a2, a3, a4, a5⟩ := T.2.2.2.2.2 t h4.1
      obtain ⟨b1, b2, b3, b4⟩ := a5 h4.2
      refine ⟨by have := h4.1; omega, b1, a1, ?_⟩
      funext p
      unfold sg
      by_cases h : p < MN t
      · rw [if_pos h, if_pos h]; exact (b4 p (by omega)).symm
      · rw [if_neg h, if_neg h]
  · rcases ht with e | e
    · subst e
      rw [vf_s, vf_s]
      exact ⟨by omega, T.1, of_decide_eq_true hio⟩
    · have h4 := q2 t e
      have hne : ¬ t = 4 := by have := h4.1; omega
      rw [vf_ne hne, vf_ne hne]
      obtain ⟨a1, a2, a3, a4, a5⟩ := T.2.2.2.2.2 t h4.1
      obtain ⟨b1, b2, b3, b4⟩ := a5 h4.2
      exact ⟨by have := h4.1; omega, a1, of_decide_eq_true b2⟩
  · rcases ht with e1 | e1
    · subst e1
      rw [vf_s, vf_s] at h64 e
      exact Or.inr (q1 j hj (hm_bit hj h64 e N (sg_in (by rw [h64]; decide))))
    · have h4 := q2 t e1
      have hne : ¬ t = 4 := by have := h4.1; omega
      rw [vf_ne hne, vf_ne hne] at h64 e
      exact Or.inr (q3 t e1 j hj (hm_bit (by have := h4.1; omega) h64 e (MN t) (sg_in (by rw [h64]; decide))))
theorem dr_all {l : Launch} {b : Nat} {D : va_G} {ta : Nat → ClassId} {σ : List va_E} (hl : σ.length = 133) {S : Nat → Int32} {N : Nat} {th : Nat → Int32} {MS : Nat → Nat → Int32} {MN : Nat → Nat} {us : Nat → Int32} {fx : FX} (T : TI S N th MS MN fx.2.2.2.2.2.2.2.2.2.2.2.2.2.2.2.2.2.2.2.2.2.2.1 fx.2.2.2.2.2.2.2.2.2.2.2.2.2.2.2.2.2.2.2.2.2.2.2.1 us) (hio : ioF S N 4 = true) (hmt : mtF th (hmM MS MN) 4 (hmF S N N) = true) {x y : Int32} {d : Nat} (hin : inF x y = true) (hd : d < 4) {F0 F1 F2 : Nat → Int32} (hQ : QX F0 F1 F2) (hZ : QZ F0 F1 F2) (op : Nat) (G : GK) :
    ((drX MS MN S N x y d F0 F1 F2).1 = true → QX (drX MS MN S N x y d F0 F1 F2).2.2.2.2.2.2.1 (drX MS MN S N x y d F0 F1 F2).2.2.2.2.2.2.2.1 (drX MS MN S N x y d F0 F1 F2).2.2.2.2.2.2.2.2 ∧ ∃ G2 : GK, jC l b D ta False y_M_goThrough b_M_goThrough 6 none (rL 5) [.ref (b + 133)] (rH b ta σ fx (x, y, d, true, 0, F0, F1, F2) false op G) none (rH b ta σ fx (drX MS MN S N x y d F0 F1 F2).2 false 0 G2)) ∧
    (¬ (drX MS MN S N x y d F0 F1 F2).1 = true → ∃ (P2 : PT) (op2 : Nat) (G2 : GK), QZs P2 ∧ jC l b D ta False y_M_goThrough b_M_goThrough 6 none (rL 5) [.ref (b + 133)] (rH b ta σ fx (x, y, d, true, 0, F0, F1, F2) false op G) none (rH b ta σ fx P2 true op2 G2)) := by
  obtain ⟨Th, h4, hR, hX⟩ := dr_tx T hio hmt
  have hP : PIn (x, y, d, true, 0, F0, F1, F2) := ⟨hd, Nat.zero_le _, hin, hQ, hZ⟩
  have h := go_all (l := l) (b := b) (D := D) (ta := ta) hl hR hX h4 hP op G
  have e : pfD (vf_upd MS 4 S) (vf_upd MN 4 N) 20 (vf_upd MS 4 S 4) (vf_upd MN 4 N 4) 0 (vf_upd MN 4 N 4) (x, y, d, true, 0, F0, F1, F2) = drX MS MN S N x y d F0 F1 F2 := by
    rw [vf_s, vf_s, ← pfD_c (MS := MS) (MN := MN) (fun j hj => ⟨(vf_ne (by omega)).symm, (vf_ne (by omega)).symm⟩) 20]
    rfl
  rw [e] at h
  exact ⟨fun q => ⟨(h.1 q).1.2.2.2.1, (h.1 q).2⟩, h.2⟩
