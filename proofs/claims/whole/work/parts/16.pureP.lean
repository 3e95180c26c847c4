
/-! the pen: its cell p, its sheet's cells g, h, t, w; its state c, r (where it stands), d (direction), u (down), o (orders done), and the sheet's rows -/
def pO (b g : Nat) (c r : Int32) (d : Nat) (u : Bool) (o : Nat) : va_E := .inr (2, [.ref (b + g), .int c, .int r, .int (nI d), .int (bI u), .int (nI o)])
def aI (ta : Nat → ClassId) (F : Nat → Int32) : va_E := .inl (ta 0, 24, .inl F)
def pS (b : Nat) (ta : Nat → ClassId) (σ : List va_E) (p g h t w : Nat) (c r : Int32) (d : Nat) (u : Bool) (o : Nat) (F0 F1 F2 : Nat → Int32) : List va_E := (((σ.set p (pO b g c r d u o)).set h (aI ta F0)).set t (aI ta F1)).set w (aI ta F2)
def pW (b : Nat) (σ : List va_E) (p g h t w : Nat) : Prop := (p < σ.length ∧ h < σ.length ∧ t < σ.length ∧ w < σ.length) ∧ σ[g]? = some (.inr (0, [.ref (b + h), .ref (b + t), .ref (b + w)])) ∧ (p ≠ g ∧ p ≠ h ∧ p ≠ t ∧ p ≠ w) ∧ (g ≠ h ∧ g ≠ t ∧ g ≠ w) ∧ h ≠ t ∧ h ≠ w ∧ t ≠ w
section PS
variable {b : Nat} {ta : Nat → ClassId} {σ : List va_E} {p g h t w : Nat} {c r c' r' : Int32} {d d' : Nat} {u u' : Bool} {o o' : Nat} {F0 F1 F2 G0 G1 G2 : Nat → Int32}
theorem pS_p (H : pW b σ p g h t w) : (pS b ta σ p g h t w c r d u o F0 F1 F2)[p]? = some (.inr (2, [.ref (b + g), .int c, .int r, .int (nI d), .int (bI u), .int (nI o)])) := by
  obtain ⟨⟨h1, h2, h3, h4⟩, h5, ⟨n1, n2, n3, n4⟩, ⟨n5, n6, n7⟩, n8, n9, n10⟩ := H
  unfold pS
  rw [List.getElem?_set_ne n4.symm, List.getElem?_set_ne n3.symm, List.getElem?_set_ne n2.symm, List.getElem?_set_self h1]
  rfl
theorem pS_g (H : pW b σ p g h t w) : (pS b ta σ p g h t w c r d u o F0 F1 F2)[g]? = some (.inr (0, [.ref (b + h), .ref (b + t), .ref (b + w)])) := by
  obtain ⟨⟨h1, h2, h3, h4⟩, h5, ⟨n1, n2, n3, n4⟩, ⟨n5, n6, n7⟩, n8, n9, n10⟩ := H
  unfold pS
  rw [List.getElem?_set_ne n7.symm, List.getElem?_set_ne n6.symm, List.getElem?_set_ne n5.symm, List.getElem?_set_ne n1]
  exact h5
theorem pS_h (H : pW b σ p g h t w) : (pS b ta σ p g h t w c r d u o F0 F1 F2)[h]? = some (.inl (ta 0, 24, .inl F0)) := by
  obtain ⟨⟨h1, h2, h3, h4⟩, h5, ⟨n1, n2, n3, n4⟩, ⟨n5, n6, n7⟩, n8, n9, n10⟩ := H
  unfold pS
  rw [List.getElem?_set_ne n9.symm, List.getElem?_set_ne n8.symm, List.getElem?_set_self (by simpa using h2)]
  rfl
theorem pS_t (H : pW b σ p g h t w) : (pS b ta σ p g h t w c r d u o F0 F1 F2)[t]? = some (.inl (ta 0, 24, .inl F1)) := by
  obtain ⟨⟨h1, h2, h3, h4⟩, h5, ⟨n1, n2, n3, n4⟩, ⟨n5, n6, n7⟩, n8, n9, n10⟩ := H
  unfold pS
  rw [List.getElem?_set_ne n10.symm, List.getElem?_set_self (by simpa using h3)]
  rfl
theorem pS_w (H : pW b σ p g h t w) : (pS b ta σ p g h t w c r d u o F0 F1 F2)[w]? = some (.inl (ta 0, 24, .inl F2)) := by
  obtain ⟨⟨h1, h2, h3, h4⟩, h5, ⟨n1, n2, n3, n4⟩, ⟨n5, n6, n7⟩, n8, n9, n10⟩ := H
  unfold pS
  rw [List.getElem?_set_self (by simpa using h4)]
  rfl
theorem pS_wp (H : pW b σ p g h t w) : (pS b ta σ p g h t w c r d u o F0 F1 F2).set p (.inr (2, [.ref (b + g), .int c', .int r', .int (nI d'), .int (bI u'), .int (nI o')])) = pS b ta σ p g h t w c' r' d' u' o' F0 F1 F2 := by
  obtain ⟨-, -, ⟨n1, n2, n3, n4⟩, -, n8, n9, n10⟩ := H
  unfold pS
  rw [List.set_comm _ _ n4.symm, List.set_comm _ _ n3.symm, List.set_comm _ _ n2.symm, List.set_set]
  rfl
theorem pS_wf (H : pW b σ p g h t w) : (((pS b ta σ p g h t w c r d u o F0 F1 F2).set h (.inl (ta 0, 24, .inl G0))).set t (.inl (ta 0, 24, .inl G1))).set w (.inl (ta 0, 24, .inl G2)) = pS b ta σ p g h t w c r d u o G0 G1 G2 := by
  obtain ⟨-, -, -, -, n8, n9, n10⟩ := H
  exact s3 n8 n9 n10
theorem pS_pS (H : pW b σ p g h t w) : pS b ta (pS b ta σ p g h t w c r d u o F0 F1 F2) p g h t w c' r' d' u' o' G0 G1 G2 = pS b ta σ p g h t w c' r' d' u' o' G0 G1 G2 := by
  have h1 := pS_wp (c := c) (r := r) (d := d) (u := u) (o := o) (c' := c') (r' := r') (d' := d') (u' := u') (o' := o') (F0 := F0) (F1 := F1) (F2 := F2) (ta := ta) H
  have h2 := pS_wf (c := c') (r := r') (d := d') (u := u') (o := o') (F0 := F0) (F1 := F1) (F2 := F2) (G0 := G0) (G1 := G1) (G2 := G2) (ta := ta) H
  rw [← h2, ← h1]
  rfl
end PS
def cA (c : Int32) (d : Nat) (f a : Int32) : Int32 := c + f * jcs d + a * jcs ((d + 1) % 4)
def rA (r : Int32) (d : Nat) (f a : Int32) : Int32 := r + f * jrs d + a * jrs ((d + 1) % 4)
def mkB (u : Bool) (F : Nat → Int32) (c r k : Int32) : Nat → Int32 := if u = true then pB F c r 3 k else F
