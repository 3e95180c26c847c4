
/-! the class's heap: 133 cells, then any others -/
def gO (b g : Nat) : va_E := .inr (0, [.ref (b + (g + 1)), .ref (b + (g + 2)), .ref (b + (g + 3))])
def xO (b s N : Nat) : va_E := .inr (5, [.ref (b + s), .int (nI N)])
def aC (ta : Nat → ClassId) (S : Nat → Int32) : va_E := .inl (ta 1, 60, .inl S)
def sE (z : Int32 × Int32 × Int64 × Nat × Nat) : va_E := .inr (4, [.int z.1, .int z.2.1, .long z.2.2.1, .int (nI z.2.2.2.1), .int (nI z.2.2.2.2)])
def qE (z : Int32 × Int32 × Int32 × Int32 × Int64) : va_E := .inr (3, [.int z.1, .int z.2.1, .int z.2.2.1, .int z.2.2.2.1, .long z.2.2.2.2])
def aR (ta : Nat → ClassId) (t n : Nat) (f : Nat → Option Nat) : va_E := .inl (ta t, n, .inr (.inr (.inr (.inr f))))
def mB (b : Nat) (ta : Nat → ClassId) (M0 M1 M2 mp : Nat → Nat → Int32) (j : Nat) : List va_E := [.inr (1, [.ref (b + (38 + 6 * j)), .ref (b + (42 + 6 * j))]), .inr (0, [.ref (b + (39 + 6 * j)), .ref (b + (40 + 6 * j)), .ref (b + (41 + 6 * j))]), aI ta (M0 j), aI ta (M1 j), aI ta (M2 j), .inl (ta 0, 4, .inl (mp j))]
def mL (b : Nat) (ta : Nat → ClassId) (M0 M1 M2 mp : Nat → Nat → Int32) : List va_E := (List.range 16).flatMap (mB b ta M0 M1 M2 mp)
def hC (b : Nat) (ta : Nat → ClassId) (F0 : Nat → Int32) (F1 : Nat → Int32) (F2 : Nat → Int32) (A0 : Nat → Int32) (A1 : Nat → Int32) (A2 : Nat → Int32) (ec : Int32) (er : Int32) (ed : Nat) (eu : Bool) (eo : Nat) (P0 : Nat → Int32) (P1 : Nat → Int32) (P2 : Nat → Int32) (S : Nat → Int32) (N : Nat) (th : Nat → Int32) (MS : Nat → Nat → Int32) (MN : Nat → Nat) (so : Nat → Int32 × Int32 × Int64 × Nat × Nat) (qo : Nat → Int32 × Int32 × Int32 × Int32 × Int64) (sN : Nat) (qN : Nat) (kN : Nat) (tN : Nat) (M0 : Nat → Nat → Int32) (M1 : Nat → Nat → Int32) (M2 : Nat → Nat → Int32) (mp : Nat → Nat → Int32) (X : List va_E) : List va_E :=
  .inr (6, [.ref (b + 1), .ref (b + 5), .ref (b + 9), .ref (b + 14), .ref (b + 16), .ref (b + 17), .ref (b + 18), .int (nI sN), .ref (b + 19), .int (nI qN), .ref (b + 20), .int (nI kN), .int (nI tN)]) ::
  .inr (0, [.ref (b + 2), .ref (b + 3), .ref (b + 4)]) :: aI ta F0 :: aI ta F1 :: aI ta F2 ::
  .inr (0, [.ref (b + 6), .ref (b + 7), .ref (b + 8)]) :: aI ta A0 :: aI ta A1 :: aI ta A2 ::
  pO b 10 ec er ed eu eo :: .inr (0, [.ref (b + 11), .ref (b + 12), .ref (b + 13)]) :: aI ta P0 :: aI ta P1 :: aI ta P2 ::
  xO b 15 N :: aC ta S :: aR ta 4 4 (fun j => if j < 4 then some (b + (21 + 2 * j)) else none) :: .inl (ta 2, 4, .inl th) :: aR ta 5 4 (fun j => if j < 4 then some (b + (29 + j)) else none) :: aR ta 6 4 (fun j => if j < 4 then some (b + (33 + j)) else none) :: aR ta 7 16 (fun j => if j < 16 then some (b + (37 + 6 * j)) else none) ::
  xO b 22 (MN 0) :: aC ta (MS 0) :: xO b 24 (MN 1) :: aC ta (MS 1) :: xO b 26 (MN 2) :: aC ta (MS 2) :: xO b 28 (MN 3) :: aC ta (MS 3) ::
  sE (so 0) :: sE (so 1) :: sE (so 2) :: sE (so 3) :: qE (qo 0) :: qE (qo 1) :: qE (qo 2) :: qE (qo 3) :: (mL b ta M0 M1 M2 mp ++ X)
section HC
variable {b : Nat} {ta : Nat → ClassId} {F0 : Nat → Int32} {F1 : Nat → Int32} {F2 : Nat → Int32} {A0 : Nat → Int32} {A1 : Nat → Int32} {A2 : Nat → Int32} {ec : Int32} {er : Int32} {ed : Nat} {eu : Bool} {eo : Nat} {P0 : Nat → Int32} {P1 : Nat → Int32} {P2 : Nat → Int32} {S : Nat → Int32} {N : Nat} {th : Nat → Int32} {MS : Nat → Nat → Int32} {MN : Nat → Nat} {so : Nat → Int32 × Int32 × Int64 × Nat × Nat} {qo : Nat → Int32 × Int32 × Int32 × Int32 × Int64} {sN : Nat} {qN : Nat} {kN : Nat} {tN : Nat} {M0 : Nat → Nat → Int32} {M1 : Nat → Nat → Int32} {M2 : Nat → Nat → Int32} {mp : Nat → Nat → Int32} {X : List va_E}
theorem hC_so {j : Nat} (hj : j < 4) : (hC b ta F0 F1 F2 A0 A1 A2 ec er ed eu eo P0 P1 P2 S N th MS MN so qo sN qN kN tN M0 M1 M2 mp X)[29 + j]? = some (.inr (4, [.int (so j).1, .int (so j).2.1, .long (so j).2.2.1, .int (nI (so j).2.2.2.1), .int (nI (so j).2.2.2.2)])) := by
  match j, hj with
  | 0, _ => rfl
  | 1, _ => rfl
  | 2, _ => rfl
  | 3, _ => rfl
theorem hC_qo {j : Nat} (hj : j < 4) : (hC b ta F0 F1 F2 A0 A1 A2 ec er ed eu eo P0 P1 P2 S N th MS MN so qo sN qN kN tN M0 M1 M2 mp X)[33 + j]? = some (.inr (3, [.int (qo j).1, .int (qo j).2.1, .int (qo j).2.2.1, .int (qo j).2.2.2.1, .long (qo j).2.2.2.2])) := by
  match j, hj with
  | 0, _ => rfl
  | 1, _ => rfl
  | 2, _ => rfl
  | 3, _ => rfl
theorem hC_mx {j : Nat} (hj : j < 4) : (hC b ta F0 F1 F2 A0 A1 A2 ec er ed eu eo P0 P1 P2 S N th MS MN so qo sN qN kN tN M0 M1 M2 mp X)[21 + 2 * j]? = some (.inr (5, [.ref (b + (22 + 2 * j)), .int (nI (MN j))])) := by
  match j, hj with
  | 0, _ => rfl
  | 1, _ => rfl
  | 2, _ => rfl
  | 3, _ => rfl
theorem hC_ms {j : Nat} (hj : j < 4) : (hC b ta F0 F1 F2 A0 A1 A2 ec er ed eu eo P0 P1 P2 S N th MS MN so qo sN qN kN tN M0 M1 M2 mp X)[22 + 2 * j]? = some (.inl (ta 1, 60, .inl (MS j))) := by
  match j, hj with
  | 0, _ => rfl
  | 1, _ => rfl
  | 2, _ => rfl
  | 3, _ => rfl
theorem hC_so_set {j : Nat} (hj : j < 4) (z : Int32 × Int32 × Int64 × Nat × Nat) : (hC b ta F0 F1 F2 A0 A1 A2 ec er ed eu eo P0 P1 P2 S N th MS MN so qo sN qN kN tN M0 M1 M2 mp X).set (29 + j) (sE z) = hC b ta F0 F1 F2 A0 A1 A2 ec er ed eu eo P0 P1 P2 S N th MS MN (vf_upd so j z) qo sN qN kN tN M0 M1 M2 mp X := by
  match j, hj with
  | 0, _ => rfl
  | 1, _ => rfl
  | 2, _ => rfl
  | 3, _ => rfl
theorem hC_qo_set {j : Nat} (hj : j < 4) (z : Int32 × Int32 × Int32 × Int32 × Int64) : (hC b ta F0 F1 F2 A0 A1 A2 ec er ed eu eo P0 P1 P2 S N th MS MN so qo sN qN kN tN M0 M1 M2 mp X).set (33 + j) (qE z) = hC b ta F0 F1 F2 A0 A1 A2 ec er ed eu eo P0 P1 P2 S N th MS MN so (vf_upd qo j z) sN qN kN tN M0 M1 M2 mp X := by
  match j, hj with
  | 0, _ => rfl
  | 1, _ => rfl
  | 2, _ => rfl
  | 3, _ => rfl
theorem hC_mac_set {j : Nat} (hj : j < 4) (T : Nat → Int32) (n : Nat) : ((hC b ta F0 F1 F2 A0 A1 A2 ec er ed eu eo P0 P1 P2 S N th MS MN so qo sN qN kN tN M0 M1 M2 mp X).set (22 + 2 * j) (.inl (ta 1, 60, .inl T))).set (21 + 2 * j) (.inr (5, [.ref (b + (22 + 2 * j)), .int (nI n)])) = hC b ta F0 F1 F2 A0 A1 A2 ec er ed eu eo P0 P1 P2 S N th (vf_upd MS j T) (vf_upd MN j n) so qo sN qN kN tN M0 M1 M2 mp X := by
  match j, hj with
  | 0, _ => rfl
  | 1, _ => rfl
  | 2, _ => rfl
  | 3, _ => rfl
theorem mL_len : (mL b ta M0 M1 M2 mp).length = 96 := rfl
theorem hC_mo (j : Nat) (hj : j < 16) : (hC b ta F0 F1 F2 A0 A1 A2 ec er ed eu eo P0 P1 P2 S N th MS MN so qo sN qN kN tN M0 M1 M2 mp X)[37 + 6 * j]? = some (.inr (1, [.ref (b + (38 + 6 * j)), .ref (b + (42 + 6 * j))])) ∧ (hC b ta F0 F1 F2 A0 A1 A2 ec er ed eu eo P0 P1 P2 S N th MS MN so qo sN qN kN tN M0 M1 M2 mp X)[38 + 6 * j]? = some (.inr (0, [.ref (b + (39 + 6 * j)), .ref (b + (40 + 6 * j)), .ref (b + (41 + 6 * j))])) ∧ (hC b ta F0 F1 F2 A0 A1 A2 ec er ed eu eo P0 P1 P2 S N th MS MN so qo sN qN kN tN M0 M1 M2 mp X)[39 + 6 * j]? = some (.inl (ta 0, 24, .inl (M0 j))) ∧ (hC b ta F0 F1 F2 A0 A1 A2 ec er ed eu eo P0 P1 P2 S N th MS MN so qo sN qN kN tN M0 M1 M2 mp X)[40 + 6 * j]? = some (.inl (ta 0, 24, .inl (M1 j))) ∧ (hC b ta F0 F1 F2 A0 A1 A2 ec er ed eu eo P0 P1 P2 S N th MS MN so qo sN qN kN tN M0 M1 M2 mp X)[41 + 6 * j]? = some (.inl (ta 0, 24, .inl (M2 j))) ∧ (hC b ta F0 F1 F2 A0 A1 A2 ec er ed eu eo P0 P1 P2 S N th MS MN so qo sN qN kN tN M0 M1 M2 mp X)[42 + 6 * j]? = some (.inl (ta 0, 4, .inl (mp j))) := by
  match j, hj with
  | 0, _ => exact ⟨rfl, rfl, rfl, rfl, rfl, rfl⟩
  | 1, _ => exact ⟨rfl, rfl, rfl, rfl, rfl, rfl⟩
  | 2, _ => exact ⟨rfl, rfl, rfl, rfl, rfl, rfl⟩
  | 3, _ => exact ⟨rfl, rfl, rfl, rfl, rfl, rfl⟩
  | 4, _ => exact ⟨rfl, rfl, rfl, rfl, rfl, rfl⟩
  | 5, _ => exact ⟨rfl, rfl, rfl, rfl, rfl, rfl⟩
  | 6, _ => exact ⟨rfl, rfl, rfl, rfl, rfl, rfl⟩
  | 7, _ => exact ⟨rfl, rfl, rfl, rfl, rfl, rfl⟩
  | 8, _ => exact ⟨rfl, rfl, rfl, rfl, rfl, rfl⟩
  | 9, _ => exact ⟨rfl, rfl, rfl, rfl, rfl, rfl⟩
  | 10, _ => exact ⟨rfl, rfl, rfl, rfl, rfl, rfl⟩
  | 11, _ => exact ⟨rfl, rfl, rfl, rfl, rfl, rfl⟩
  | 12, _ => exact ⟨rfl, rfl, rfl, rfl, rfl, rfl⟩
  | 13, _ => exact ⟨rfl, rfl, rfl, rfl, rfl, rfl⟩
  | 14, _ => exact ⟨rfl, rfl, rfl, rfl, rfl, rfl⟩
  | 15, _ => exact ⟨rfl, rfl, rfl, rfl, rfl, rfl⟩
  | k + 16, h => exact absurd h (by omega)
theorem hC_mo_set (j : Nat) (hj : j < 16) (G0 G1 G2 g : Nat → Int32) : ((((hC b ta F0 F1 F2 A0 A1 A2 ec er ed eu eo P0 P1 P2 S N th MS MN so qo sN qN kN tN M0 M1 M2 mp X).set (39 + 6 * j) (aI ta G0)).set (40 + 6 * j) (aI ta G1)).set (41 + 6 * j) (aI ta G2)).set (42 + 6 * j) (.inl (ta 0, 4, .inl g)) = hC b ta F0 F1 F2 A0 A1 A2 ec er ed eu eo P0 P1 P2 S N th MS MN so qo sN qN kN tN (vf_upd M0 j G0) (vf_upd M1 j G1) (vf_upd M2 j G2) (vf_upd mp j g) X := by
  match j, hj with
  | 0, _ => rfl
  | 1, _ => rfl
  | 2, _ => rfl
  | 3, _ => rfl
  | 4, _ => rfl
  | 5, _ => rfl
  | 6, _ => rfl
  | 7, _ => rfl
  | 8, _ => rfl
  | 9, _ => rfl
  | 10, _ => rfl
  | 11, _ => rfl
  | 12, _ => rfl
  | 13, _ => rfl
  | 14, _ => rfl
  | 15, _ => rfl
  | k + 16, h => exact absurd h (by omega)
end HC

def isP (x y ww hh : Int32) : Bool := decide (inF x y = true ∧ ¬ ww < 1 ∧ ¬ 32 - x < ww ∧ ¬ hh < 1 ∧ ¬ 24 - y < hh)
def tuX (x y ww hh t : Int32) : Int32 := if t = 1 then hh - 1 - y else if t = 2 then ww - 1 - x else if t = 3 then y else x
def tuY (x y ww hh t : Int32) : Int32 := if t = 1 then x else if t = 2 then hh - 1 - y else if t = 3 then ww - 1 - x else y
