
section KW
variable {l : Launch} {b : Nat} {D : va_G} {ta : Nat → ClassId} {Γ : jG} {ex : Prop} {own : String} {cc : ByteArray} {ret : Option FieldType} {nL cs ss pc : Nat} {rm : Room} {σ : List va_E} {L : List (Nat × Value)} {rest : List Value}
theorem j_aaldN (B : jB l b D ta Γ own cc ret nL rm) {q n t k : Nat} {C : String} {f : Nat → Option Nat} {z : Nat} (ht : (jT ta)[t]? = some (ta t, .object C)) (hq : σ[q]? = some (.inl (ta t, n, .inr (.inr (.inr (.inr f)))))) (hk : k < n) (hz : f k = some z) (hdg : decode cc pc = .ok (.aaload, 1)) (kk : jW l b D Γ ex cs ss nL σ L (pc + 1) (.ref z :: rest)) (hn : n ≤ 2147483647 := by decide) : jW l b D Γ ex cs ss nL σ L pc (.int (nI k) :: .ref (b + q) :: rest) :=
  j_aald B ht hq (j_cl hk hn).2 (by rw [(j_cl hk hn).1]; exact hz) hdg kk
end KW
theorem vf_s {α : Type} {f : Nat → α} {k : Nat} {x : α} : vf_upd f k x k = x := if_pos rfl
theorem vf_ss {α : Type} {f : Nat → α} {k : Nat} {x y : α} : vf_upd (vf_upd f k x) k y = vf_upd f k y := by funext j; by_cases h : j = k <;> simp [vf_upd, h]
theorem vf_id {α : Type} {f : Nat → α} {k : Nat} : vf_upd f k (f k) = f := by funext j; by_cases h : j = k <;> simp [vf_upd, h]
theorem vf_ne {α : Type} {f : Nat → α} {k j : Nat} {x : α} (h : j ≠ k) : vf_upd f k x j = f j := if_neg h
section HC2
variable {b : Nat} {ta : Nat → ClassId} {F0 : Nat → Int32} {F1 : Nat → Int32} {F2 : Nat → Int32} {A0 : Nat → Int32} {A1 : Nat → Int32} {A2 : Nat → Int32} {ec : Int32} {er : Int32} {ed : Nat} {eu : Bool} {eo : Nat} {P0 : Nat → Int32} {P1 : Nat → Int32} {P2 : Nat → Int32} {S : Nat → Int32} {N : Nat} {th : Nat → Int32} {MS : Nat → Nat → Int32} {MN : Nat → Nat} {so : Nat → Int32 × Int32 × Int64 × Nat × Nat} {qo : Nat → Int32 × Int32 × Int32 × Int32 × Int64} {sN : Nat} {qN : Nat} {kN : Nat} {tN : Nat} {M0 : Nat → Nat → Int32} {M1 : Nat → Nat → Int32} {M2 : Nat → Nat → Int32} {mp : Nat → Nat → Int32} {X : List va_E}
theorem hC_len : (hC b ta F0 F1 F2 A0 A1 A2 ec er ed eu eo P0 P1 P2 S N th MS MN so qo sN qN kN tN M0 M1 M2 mp X).length = 133 + X.length := by simp [hC, mL_len]; omega
theorem hC_mo_g (j : Nat) (hj : j < 16) (G0 G1 G2 : Nat → Int32) : (((hC b ta F0 F1 F2 A0 A1 A2 ec er ed eu eo P0 P1 P2 S N th MS MN so qo sN qN kN tN M0 M1 M2 mp X).set (39 + 6 * j) (.inl (ta 0, 24, .inl G0))).set (40 + 6 * j) (.inl (ta 0, 24, .inl G1))).set (41 + 6 * j) (.inl (ta 0, 24, .inl G2)) = hC b ta F0 F1 F2 A0 A1 A2 ec er ed eu eo P0 P1 P2 S N th MS MN so qo sN qN kN tN (vf_upd M0 j G0) (vf_upd M1 j G1) (vf_upd M2 j G2) mp X := by
  match j, hj with
  | 0, _ => rfl
  | 1, _ => rfl
  | 2, _ => rfl
  | 3, _ => rfl
  | 4, _ => rfl
  | 5, _ => rfl
  | 6, _ => rfl
  | 7, _ => rfl
  | 8, _ => rfl
  | 9, _ => rfl
  | 10, _ => rfl
  | 11, _ => rfl
  | 12, _ => rfl
  | 13, _ => rfl
  | 14, _ => rfl
  | 15, _ => rfl
  | k + 16, h => exact absurd h (by omega)
theorem hC_mo_p (j : Nat) (hj : j < 16) (g : Nat → Int32) : (hC b ta F0 F1 F2 A0 A1 A2 ec er ed eu eo P0 P1 P2 S N th MS MN so qo sN qN kN tN M0 M1 M2 mp X).set (42 + 6 * j) (.inl (ta 0, 4, .inl g)) = hC b ta F0 F1 F2 A0 A1 A2 ec er ed eu eo P0 P1 P2 S N th MS MN so qo sN qN kN tN M0 M1 M2 (vf_upd mp j g) X := by
  match j, hj with
  | 0, _ => rfl
  | 1, _ => rfl
  | 2, _ => rfl
  | 3, _ => rfl
  | 4, _ => rfl
  | 5, _ => rfl
  | 6, _ => rfl
  | 7, _ => rfl
  | 8, _ => rfl
  | 9, _ => rfl
  | 10, _ => rfl
  | 11, _ => rfl
  | 12, _ => rfl
  | 13, _ => rfl
  | 14, _ => rfl
  | 15, _ => rfl
  | k + 16, h => exact absurd h (by omega)
theorem hC_gS {j : Nat} (hj : j < 4) (z : Int32 × Int32 × Int64 × Nat × Nat) (G0 G1 G2 : Nat → Int32) : gS ta (hC b ta F0 F1 F2 A0 A1 A2 ec er ed eu eo P0 P1 P2 S N th MS MN so qo sN qN kN tN M0 M1 M2 mp X) (29 + j) 2 3 4 (sE z) G0 G1 G2 = hC b ta G0 G1 G2 A0 A1 A2 ec er ed eu eo P0 P1 P2 S N th MS MN (vf_upd so j z) qo sN qN kN tN M0 M1 M2 mp X := by
  match j, hj with
  | 0, _ => rfl
  | 1, _ => rfl
  | 2, _ => rfl
  | 3, _ => rfl
theorem hC_pW {j : Nat} (hj : j < 4) : pW b (hC b ta F0 F1 F2 A0 A1 A2 ec er ed eu eo P0 P1 P2 S N th MS MN so qo sN qN kN tN M0 M1 M2 mp X) (29 + j) 1 2 3 4 := by
  refine ⟨⟨?_, ?_, ?_, ?_⟩, rfl, ⟨?_, ?_, ?_, ?_⟩, ⟨?_, ?_, ?_⟩, ?_, ?_, ?_⟩ <;> first | (rw [hC_len]; omega) | omega
theorem hC_pWp : pW b (hC b ta F0 F1 F2 A0 A1 A2 ec er ed eu eo P0 P1 P2 S N th MS MN so qo sN qN kN tN M0 M1 M2 mp X) 9 10 11 12 13 := by
  refine ⟨⟨?_, ?_, ?_, ?_⟩, rfl, ⟨?_, ?_, ?_, ?_⟩, ⟨?_, ?_, ?_⟩, ?_, ?_, ?_⟩ <;> first | (rw [hC_len]; omega) | omega
end HC2
/-! a piece copied, turned: the class goes through the piece's cells -/
def ptS (A0 A1 A2 : Nat → Int32) (x y ww hh tx ty t : Int32) (Y X : Nat) (s : (Nat → Int32) × (Nat → Int32) × (Nat → Int32)) : (Nat → Int32) × (Nat → Int32) × (Nat → Int32) :=
  if fVal A0 A1 A2 (x + nI X) (y + nI Y) = 0 then s else (pB s.1 (tx + tuX (nI X) (nI Y) ww hh t) (ty + tuY (nI X) (nI Y) ww hh t) (fVal A0 A1 A2 (x + nI X) (y + nI Y)) 1, pB s.2.1 (tx + tuX (nI X) (nI Y) ww hh t) (ty + tuY (nI X) (nI Y) ww hh t) (fVal A0 A1 A2 (x + nI X) (y + nI Y)) 2, pB s.2.2 (tx + tuX (nI X) (nI Y) ww hh t) (ty + tuY (nI X) (nI Y) ww hh t) (fVal A0 A1 A2 (x + nI X) (y + nI Y)) 3)
def ptR (A0 A1 A2 : Nat → Int32) (x y ww hh tx ty t : Int32) (Y : Nat) : Nat → (Nat → Int32) × (Nat → Int32) × (Nat → Int32) → (Nat → Int32) × (Nat → Int32) × (Nat → Int32)
  | 0, s => s
  | n + 1, s => ptS A0 A1 A2 x y ww hh tx ty t Y n (ptR A0 A1 A2 x y ww hh tx ty t Y n s)
def ptA (A0 A1 A2 : Nat → Int32) (x y ww hh tx ty t : Int32) (Wd : Nat) : Nat → (Nat → Int32) × (Nat → Int32) × (Nat → Int32) → (Nat → Int32) × (Nat → Int32) × (Nat → Int32)
  | 0, s => s
  | n + 1, s => ptR A0 A1 A2 x y ww hh tx ty t n Wd (ptA A0 A1 A2 x y ww hh tx ty t Wd n s)

/-- the least p from p on, of so many, at which the field is as it was -/
def perF (F0 F1 F2 : Nat → Int32) (M0 M1 M2 : Nat → Nat → Int32) (tN kN : Nat) : Nat → Nat → Nat
  | 0, _ => 0
  | n + 1, p => if gEq F0 F1 F2 (M0 ((tN - p) % 16)) (M1 ((tN - p) % 16)) (M2 ((tN - p) % 16)) = true then p else perF F0 F1 F2 M0 M1 M2 tN kN n (p + 1)
