
section PS2
variable {b : Nat} {ta : Nat → ClassId} {σ : List va_E} {p g h t w q : Nat} {c r c' r' : Int32} {d d' : Nat} {u u' : Bool} {o o' : Nat} {F0 F1 F2 G0 G1 G2 : Nat → Int32} {e e' : va_E}
theorem pS_o (n1 : p ≠ q) (n2 : h ≠ q) (n3 : t ≠ q) (n4 : w ≠ q) (hq : σ[q]? = some e) : (pS b ta σ p g h t w c r d u o F0 F1 F2)[q]? = some e := by
  unfold pS
  rw [List.getElem?_set_ne n4, List.getElem?_set_ne n3, List.getElem?_set_ne n2, List.getElem?_set_ne n1]
  exact hq
/-- any cell at p beside a grid's rows -/
def gS (ta : Nat → ClassId) (σ : List va_E) (p h t w : Nat) (e : va_E) (F0 F1 F2 : Nat → Int32) : List va_E := (((σ.set p e).set h (aI ta F0)).set t (aI ta F1)).set w (aI ta F2)
theorem gS_p (H : pW b σ p g h t w) : (gS ta σ p h t w e F0 F1 F2)[p]? = some e := by
  obtain ⟨⟨h1, h2, h3, h4⟩, h5, ⟨n1, n2, n3, n4⟩, ⟨n5, n6, n7⟩, n8, n9, n10⟩ := H
  unfold gS
  rw [List.getElem?_set_ne n4.symm, List.getElem?_set_ne n3.symm, List.getElem?_set_ne n2.symm, List.getElem?_set_self h1]
theorem gS_g (H : pW b σ p g h t w) : (gS ta σ p h t w e F0 F1 F2)[g]? = some (.inr (0, [.ref (b + h), .ref (b + t), .ref (b + w)])) := by
  obtain ⟨⟨h1, h2, h3, h4⟩, h5, ⟨n1, n2, n3, n4⟩, ⟨n5, n6, n7⟩, n8, n9, n10⟩ := H
  unfold gS
  rw [List.getElem?_set_ne n7.symm, List.getElem?_set_ne n6.symm, List.getElem?_set_ne n5.symm, List.getElem?_set_ne n1]
  exact h5
theorem gS_h (H : pW b σ p g h t w) : (gS ta σ p h t w e F0 F1 F2)[h]? = some (.inl (ta 0, 24, .inl F0)) := by
  obtain ⟨⟨h1, h2, h3, h4⟩, h5, ⟨n1, n2, n3, n4⟩, ⟨n5, n6, n7⟩, n8, n9, n10⟩ := H
  unfold gS
  rw [List.getElem?_set_ne n9.symm, List.getElem?_set_ne n8.symm, List.getElem?_set_self (by simpa using h2)]
  rfl
theorem gS_t (H : pW b σ p g h t w) : (gS ta σ p h t w e F0 F1 F2)[t]? = some (.inl (ta 0, 24, .inl F1)) := by
  obtain ⟨⟨h1, h2, h3, h4⟩, h5, ⟨n1, n2, n3, n4⟩, ⟨n5, n6, n7⟩, n8, n9, n10⟩ := H
  unfold gS
  rw [List.getElem?_set_ne n10.symm, List.getElem?_set_self (by simpa using h3)]
  rfl
theorem gS_w (H : pW b σ p g h t w) : (gS ta σ p h t w e F0 F1 F2)[w]? = some (.inl (ta 0, 24, .inl F2)) := by
  obtain ⟨⟨h1, h2, h3, h4⟩, h5, ⟨n1, n2, n3, n4⟩, ⟨n5, n6, n7⟩, n8, n9, n10⟩ := H
  unfold gS
  rw [List.getElem?_set_self (by simpa using h4)]
  rfl
theorem gS_wp (H : pW b σ p g h t w) : (gS ta σ p h t w e F0 F1 F2).set p e' = gS ta σ p h t w e' F0 F1 F2 := by
  obtain ⟨-, -, ⟨n1, n2, n3, n4⟩, -, n8, n9, n10⟩ := H
  unfold gS
  rw [List.set_comm _ _ n4.symm, List.set_comm _ _ n3.symm, List.set_comm _ _ n2.symm, List.set_set]
theorem gS_wf (H : pW b σ p g h t w) : (((gS ta σ p h t w e F0 F1 F2).set h (.inl (ta 0, 24, .inl G0))).set t (.inl (ta 0, 24, .inl G1))).set w (.inl (ta 0, 24, .inl G2)) = gS ta σ p h t w e G0 G1 G2 := by
  obtain ⟨-, -, -, -, n8, n9, n10⟩ := H
  exact s3 n8 n9 n10
end PS2
theorem lgc {x y : Int64} : lg_cmp x y = 0 ↔ x = y := by
  unfold lg_cmp
  constructor
  · intro h
    split at h
    · exact absurd h (by decide)
    · split at h
      · first | assumption | exact absurd h (by decide)
      · first | assumption | exact absurd h (by decide)
  · intro h
    subst h
    simp
/-- does a source's pattern send at a place -/
def sAct (pat : Int64) (P : Nat) : Bool := decide ((pat.toUInt64 >>> ((nI P).toInt64.toUInt64 &&& Int64.toUInt64 63)).toInt64 &&& 1 = 1)
def sNx (n P : Nat) : Nat := if P + 1 < n then P + 1 else 0
def sO (c r : Int32) (pat : Int64) (n P : Nat) : va_E := .inr (4, [.int c, .int r, .long pat, .int (nI n), .int (nI P)])
def sB (pat : Int64) (P : Nat) (F0 F1 F2 F : Nat → Int32) (c r k : Int32) : Nat → Int32 := if sAct pat P = true ∧ fVal F0 F1 F2 c r = 3 then pB F c r 1 k else F
def rO (c r hc lt : Int32) (hb : Int64) : va_E := .inr (3, [.int c, .int r, .int hc, .int lt, .long hb])
