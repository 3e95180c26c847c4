
/-! one or two heads beside a wire: as the class finds it, as the reference finds it -/
def rwx (F : Nat → Int32) (R j : Nat) : Int32 := if 1 ≤ R + j ∧ R + j ≤ 24 then F (R + j - 1) else 0
theorem hdI_r {F : Nat → Int32} {R j : Nat} (hR : R < 24) (hj : j ≤ 2) : hdI F (nI R - 1 + nI j) = rwx F R j := by
  unfold hdI rwx
  by_cases h0 : R + j = 0
  · have e1 : R = 0 := by omega
    have e2 : j = 0 := by omega
    subst e1 e2
    rw [if_pos (by decide), if_neg (by omega)]
  · have e : nI R - 1 + nI j = nI (R + j - 1) := by
      obtain ⟨z, hz⟩ : ∃ z, R + j = z + 1 := ⟨R + j - 1, by omega⟩
      have e1 : nI R - 1 + nI j = nI R + nI j - 1 := by rw [Int32.sub_eq_add_neg, Int32.sub_eq_add_neg, Int32.add_assoc, Int32.add_comm (-1), ← Int32.add_assoc]
      rw [e1, nI_add, hz, nI_pred]
      rfl
    rw [e, if_neg (nI_pos (by omega))]
    by_cases h1 : R + j ≤ 24
    · rw [if_pos (show nI (R + j - 1) ≤ 23 from nI_le (b := 23) (by omega) (by decide)), if_pos ⟨by omega, h1⟩, nI_clamp (by omega)]
    · rw [if_neg (show ¬ nI (R + j - 1) ≤ 23 from nI_ge (a := 23) (by omega) (by omega)), if_neg (fun q => h1 q.2)]
def lq (s : Int32 × Int32 × Int32) (w : Int32) : Int32 × Int32 × Int32 := (s.1 ^^^ w, s.2.1 ^^^ (s.1 &&& w), s.2.2 ||| (s.2.1 &&& (s.1 &&& w)))
theorem ltS_s {HH : Nat → Int32} {r k : Nat} (h : ¬ nI k = 4) : ltS HH r (k + 1) = lq (ltS HH r k) (lA HH r k) := if_neg h
theorem ltS_4 {HH : Nat → Int32} {r : Nat} : ltS HH r 5 = ltS HH r 4 := if_pos (by decide)
theorem lA_0 {HH : Nat → Int32} {r k : Nat} (h : k % 3 = 0) : lA HH r k = hdI HH (nI r - 1 + nI (k / 3)) <<< (1 &&& 31) := by unfold lA lA1; rw [h, if_pos (by decide)]
theorem lA_1 {HH : Nat → Int32} {r k : Nat} (h : k % 3 = 1) : lA HH r k = hdI HH (nI r - 1 + nI (k / 3)) := by unfold lA lA1; rw [h, if_neg (by decide), if_pos (by decide)]
theorem lA_2 {HH : Nat → Int32} {r k : Nat} (h : k % 3 = 2) : lA HH r k = ush 1 (hdI HH (nI r - 1 + nI (k / 3))) := by unfold lA lA1; rw [h, if_neg (by decide), if_neg (by decide)]; rfl
def l8 (a b c : Int32) : Int32 × Int32 × Int32 := lq (lq (lq (lq (lq (lq (lq (lq (0, 0, 0) (a <<< (1 &&& 31))) a) (ush 1 a)) (b <<< (1 &&& 31))) (ush 1 b)) (c <<< (1 &&& 31))) c) (ush 1 c)
theorem ltS_9 {HH : Nat → Int32} {r : Nat} (hr : r < 24) : ltS HH r 9 = l8 (rwx HH r 0) (rwx HH r 1) (rwx HH r 2) := by
  rw [ltS_s (k := 8) (by decide), ltS_s (k := 7) (by decide), ltS_s (k := 6) (by decide), ltS_s (k := 5) (by decide), ltS_4, ltS_s (k := 3) (by decide), ltS_s (k := 2) (by decide), ltS_s (k := 1) (by decide), ltS_s (k := 0) (by decide)]
  rw [lA_0 (k := 0) rfl, lA_1 (k := 1) rfl, lA_2 (k := 2) rfl, lA_0 (k := 3) rfl, lA_2 (k := 5) rfl, lA_0 (k := 6) rfl, lA_1 (k := 7) rfl, lA_2 (k := 8) rfl]
  rw [hdI_r (j := 0 / 3) hr (by decide), hdI_r (j := 3 / 3) hr (by decide), hdI_r (j := 6 / 3) hr (by decide)]
  rfl
theorem bsR_0 (s : Int32 × Int32 × Int32) : bsR 0 s = s := by
  have e1 : (0 : Int32) <<< (1 &&& 31) = 0 := by decide
  have e2 : ush 1 0 = 0 := by decide
  have z : ∀ s, bsS s 0 = s := fun s => by unfold bsS; simp
  unfold bsR
  rw [e1, e2, z, z, z]
theorem bs_3 {F : Nat → Int32} {R : Nat} (hR : R < 24) : bsG F (R + 2 - (R - 1)) (R - 1) (0, 0, 0) = bsR (rwx F R 2) (bsR (rwx F R 1) (bsR (rwx F R 0) (0, 0, 0))) := by
  have r1 : rwx F R 1 = F R := by unfold rwx; rw [if_pos ⟨by omega, by omega⟩]; rfl
  have r2 : R < 23 → rwx F R 2 = F (R + 1) := fun h => by unfold rwx; rw [if_pos ⟨by omega, by omega⟩]; rfl
  have r2' : ¬ R < 23 → rwx F R 2 = 0 := fun h => by unfold rwx; rw [if_neg (by omega)]
  cases R with
  | zero =>
    have r0 : rwx F 0 0 = 0 := rfl
    rw [r0, bsR_0, r1, r2 (by omega)]
    show bsG F 2 0 (0, 0, 0) = _
    rw [bsG, if_pos (by omega), bsG, if_pos (by omega), bsG]
  | succ R =>
    have r0 : rwx F (R + 1) 0 = F R := by unfold rwx; rw [if_pos ⟨by omega, by omega⟩]; rfl
    rw [show R + 1 + 2 - (R + 1 - 1) = 3 by omega, show R + 1 - 1 = R by omega, r0, r1]
    rw [bsG, if_pos (by omega), bsG, if_pos (by omega)]
    by_cases h : R + 1 < 23
    · rw [r2 h, bsG, if_pos (by omega), bsG]
    · rw [r2' h, bsR_0, bsG_0 (by omega)]
def qs1 (s : Bool × Bool × Bool) (n : Bool) : Bool × Bool × Bool := (s.1 || n, s.2.1 || (s.1 && n), s.2.2 || (s.2.1 && n))
def qb1 (l : List Bool) : Bool := (l.foldl qs1 (false, false, false)).1 && !(l.foldl qs1 (false, false, false)).2.2
def qs2 (s : Bool × Bool × Bool) (n : Bool) : Bool × Bool × Bool := (s.1 ^^ n, s.2.1 ^^ (s.1 && n), s.2.2 || (s.2.1 && (s.1 && n)))
def qb2 (l : List Bool) : Bool := ((l.foldl qs2 (false, false, false)).1 ^^ (l.foldl qs2 (false, false, false)).2.1) && !(l.foldl qs2 (false, false, false)).2.2
def t3 (s : Int32 × Int32 × Int32) (i : Nat) : Bool × Bool × Bool := (tbn s.1 i, tbn s.2.1 i, tbn s.2.2 i)
theorem t3_bs {s : Int32 × Int32 × Int32} {n : Int32} {i : Nat} : t3 (bsS s n) i = qs1 (t3 s i) (tbn n i) := by
  unfold t3 bsS qs1
  rw [tbn_or, tbn_or, tbn_or, tbn_and, tbn_and]
theorem t3_lq {s : Int32 × Int32 × Int32} {n : Int32} {i : Nat} : t3 (lq s n) i = qs2 (t3 s i) (tbn n i) := by
  unfold t3 lq qs2
  rw [tbn_xor, tbn_xor, tbn_or, tbn_and, tbn_and, tbn_and]
theorem t3_0 {i : Nat} (hi : i < 32) : t3 (0, 0, 0) i = (false, false, false) := by unfold t3; rw [tbn_0 i hi]
theorem bs_bits : ∀ e b0 b1 b2 b3 b4 b5 b6 b7 b8 : Bool, ¬ (e = true ∧ b4 = true) → (e && (qb1 [b0, b1, b2, b3, b4, b5, b6, b7, b8])) = (e && (qb2 [b0, b1, b2, b3, b5, b6, b7, b8])) := by decide +kernel
theorem bs_lit {F E : Nat → Int32} {R : Nat} (hR : R < 24) (hE : ∀ i, i < 32 → ¬ (tbn (E R) i = true ∧ tbn (F R) i = true)) : E R &&& bsd F R = E R &&& litF F R := by
  apply tbn_ext
  intro i hi
  have r1 : rwx F R 1 = F R := by unfold rwx; rw [if_pos ⟨by omega, by omega⟩]; rfl
  have h1 : t3 (bsG F (R + 2 - (R - 1)) (R - 1) (0, 0, 0)) i = [tbn (rwx F R 0 <<< (1 &&& 31)) i, tbn (rwx F R 0) i, tbn (ush 1 (rwx F R 0)) i, tbn (rwx F R 1 <<< (1 &&& 31)) i, tbn (rwx F R 1) i, tbn (ush 1 (rwx F R 1)) i, tbn (rwx F R 2 <<< (1 &&& 31)) i, tbn (rwx F R 2) i, tbn (ush 1 (rwx F R 2)) i].foldl qs1 (false, false, false) := by
    rw [bs_3 hR]
    simp only [bsR, t3_bs, t3_0 hi, List.foldl]
  have h2 : t3 (ltS F R 9) i = [tbn (rwx F R 0 <<< (1 &&& 31)) i, tbn (rwx F R 0) i, tbn (ush 1 (rwx F R 0)) i, tbn (rwx F R 1 <<< (1 &&& 31)) i, tbn (ush 1 (rwx F R 1)) i, tbn (rwx F R 2 <<< (1 &&& 31)) i, tbn (rwx F R 2) i, tbn (ush 1 (rwx F R 2)) i].foldl qs2 (false, false, false) := by
    rw [ltS_9 hR]
    simp only [l8, t3_lq, t3_0 hi, List.foldl]
  have g1 : tbn (bsd F R) i = ((t3 (bsG F (R + 2 - (R - 1)) (R - 1) (0, 0, 0)) i).1 && !(t3 (bsG F (R + 2 - (R - 1)) (R - 1) (0, 0, 0)) i).2.2) := by
    unfold bsd; rw [tbn_and, tbn_not hi]; rfl
  have g2 : tbn (litF F R) i = (((t3 (ltS F R 9) i).1 ^^ (t3 (ltS F R 9) i).2.1) && !(t3 (ltS F R 9) i).2.2) := by
    unfold litF; rw [tbn_and, tbn_xor, tbn_not hi]; rfl
  rw [tbn_and, tbn_and, g1, g2, h1, h2]
  exact bs_bits _ _ _ _ _ _ _ _ _ _ (by rw [r1]; exact hE i hi)
