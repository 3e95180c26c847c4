
/-! the diode: class and reference -/
def iC (c : Int32) : Bool := decide (¬ c < 0 ∧ ¬ 32 ≤ c)
def iR (r : Int32) : Bool := decide (¬ r < 0 ∧ ¬ 24 ≤ r)
theorem inF_s {c r : Int32} : inF c r = true ↔ (iC c = true ∧ iR r = true) := by
  unfold inF iC iR
  rw [decide_eq_true_iff, decide_eq_true_iff, decide_eq_true_iff]
  exact ⟨fun h => ⟨⟨h.1, h.2.1⟩, h.2.2⟩, fun h => ⟨h.1.1, h.1.2, h.2⟩⟩
def dC (C d : Nat) : Bool := !(iC (cA (nI C) d 4 0) && (iC (cA (nI C) d 2 (-1)) && iC (cA (nI C) d 2 1))) || (iC (cA (nI C) d 1 0) && (iC (cA (nI C) d 2 0) && (iC (cA (nI C) d 3 0) && (iC (cA (nI C) d 3 (-1)) && iC (cA (nI C) d 3 1)))))
def dR (C d : Nat) : Bool := !(iR (rA (nI C) d 4 0) && (iR (rA (nI C) d 2 (-1)) && iR (rA (nI C) d 2 1))) || (iR (rA (nI C) d 1 0) && (iR (rA (nI C) d 2 0) && (iR (rA (nI C) d 3 0) && (iR (rA (nI C) d 3 (-1)) && iR (rA (nI C) d 3 1)))))
theorem dio_C0 : ∀ C, C < 32 → ∀ d, d < 4 → dC C d = true := by decide +kernel
theorem dio_R0 : ∀ C, C < 24 → ∀ d, d < 4 → dR C d = true := by decide +kernel
theorem dio_b {a c d x y z u v : Bool} (h : (!(a && (c && d)) || (x && (y && (z && (u && v))))) = true) (ha : a = true) (hc : c = true) (hd : d = true) : x = true ∧ y = true ∧ z = true ∧ u = true ∧ v = true := by
  subst ha hc hd
  revert h
  cases x <;> cases y <;> cases z <;> cases u <;> cases v <;> decide
theorem dio_C (C : Nat) (hC : C < 32) (d : Nat) (hd : d < 4) (h1 : iC (cA (nI C) d 4 0) = true) (h2 : iC (cA (nI C) d 2 (-1)) = true) (h3 : iC (cA (nI C) d 2 1) = true) : iC (cA (nI C) d 1 0) = true ∧ iC (cA (nI C) d 2 0) = true ∧ iC (cA (nI C) d 3 0) = true ∧ iC (cA (nI C) d 3 (-1)) = true ∧ iC (cA (nI C) d 3 1) = true := dio_b (dio_C0 C hC d hd) h1 h2 h3
theorem dio_R (C : Nat) (hC : C < 24) (d : Nat) (hd : d < 4) (h1 : iR (rA (nI C) d 4 0) = true) (h2 : iR (rA (nI C) d 2 (-1)) = true) (h3 : iR (rA (nI C) d 2 1) = true) : iR (rA (nI C) d 1 0) = true ∧ iR (rA (nI C) d 2 0) = true ∧ iR (rA (nI C) d 3 0) = true ∧ iR (rA (nI C) d 3 (-1)) = true ∧ iR (rA (nI C) d 3 1) = true := dio_b (dio_R0 C hC d hd) h1 h2 h3
theorem dio_all {x y : Int32} {d : Nat} (hd : d < 4) (h : inF x y = true) (h4 : inF (cA x d 4 0) (rA y d 4 0) = true) (hm : inF (cA x d 2 (-1)) (rA y d 2 (-1)) = true) (hp : inF (cA x d 2 1) (rA y d 2 1) = true) : inF (cA x d 1 0) (rA y d 1 0) = true ∧ inF (cA x d 2 0) (rA y d 2 0) = true ∧ inF (cA x d 3 0) (rA y d 3 0) = true ∧ inF (cA x d 3 (-1)) (rA y d 3 (-1)) = true ∧ inF (cA x d 3 1) (rA y d 3 1) = true := by
  obtain ⟨C, R, hC, hR, rfl, rfl⟩ := inF_nn h
  rw [inF_s] at h4 hm hp
  have a := dio_C C hC d hd h4.1 hm.1 hp.1
  have c := dio_R R hR d hd h4.2 hm.2 hp.2
  exact ⟨inF_s.mpr ⟨a.1, c.1⟩, inF_s.mpr ⟨a.2.1, c.2.1⟩, inF_s.mpr ⟨a.2.2.1, c.2.2.1⟩, inF_s.mpr ⟨a.2.2.2.1, c.2.2.2.1⟩, inF_s.mpr ⟨a.2.2.2.2, c.2.2.2.2⟩⟩
theorem jc_2 : ∀ d, d < 4 → (1 : Int32) * jcs d + 1 * jcs d = 2 * jcs d ∧ (2 : Int32) * jcs d + 1 * jcs d = 3 * jcs d ∧ (3 : Int32) * jcs d + 1 * jcs d = 4 * jcs d := by decide +kernel
theorem jr_2 : ∀ d, d < 4 → (1 : Int32) * jrs d + 1 * jrs d = 2 * jrs d ∧ (2 : Int32) * jrs d + 1 * jrs d = 3 * jrs d ∧ (3 : Int32) * jrs d + 1 * jrs d = 4 * jrs d := by decide +kernel
theorem cA_12 {x : Int32} {d : Nat} (hd : d < 4) : cA x d 1 0 + 1 * jcs d = cA x d 2 0 := by rw [cA_f, cA_f, Int32.add_assoc, (jc_2 d hd).1]
theorem cA_23 {x : Int32} {d : Nat} (hd : d < 4) : cA x d 2 0 + 1 * jcs d = cA x d 3 0 := by rw [cA_f, cA_f, Int32.add_assoc, (jc_2 d hd).2.1]
theorem cA_34 {x : Int32} {d : Nat} (hd : d < 4) : cA x d 3 0 + 1 * jcs d = cA x d 4 0 := by rw [cA_f, cA_f, Int32.add_assoc, (jc_2 d hd).2.2]
theorem rA_12 {x : Int32} {d : Nat} (hd : d < 4) : rA x d 1 0 + 1 * jrs d = rA x d 2 0 := by rw [rA_f, rA_f, Int32.add_assoc, (jr_2 d hd).1]
theorem rA_23 {x : Int32} {d : Nat} (hd : d < 4) : rA x d 2 0 + 1 * jrs d = rA x d 3 0 := by rw [rA_f, rA_f, Int32.add_assoc, (jr_2 d hd).2.1]
theorem rA_34 {x : Int32} {d : Nat} (hd : d < 4) : rA x d 3 0 + 1 * jrs d = rA x d 4 0 := by rw [rA_f, rA_f, Int32.add_assoc, (jr_2 d hd).2.2]
theorem cA_a {x f a : Int32} {d : Nat} : cA x d f 0 + a * jcs ((d + 1) % 4) = cA x d f a := by rw [cA_f]; rfl
theorem rA_a {x f a : Int32} {d : Nat} : rA x d f 0 + a * jrs ((d + 1) % 4) = rA x d f a := by rw [rA_f]; rfl
theorem bE_in {x y xm ym xp yp : Int32} {d : Nat} (e1 : x + (-1) * jcs ((d + 1) % 4) = xm) (e2 : y + (-1) * jrs ((d + 1) % 4) = ym) (e3 : x + 1 * jcs ((d + 1) % 4) = xp) (e4 : y + 1 * jrs ((d + 1) % 4) = yp) (hm : inF xm ym = true) (hp : inF xp yp = true) : bE false x y d = false := by
  subst e1 e2 e3 e4
  unfold bE; rw [pE_in hm, pE_in hp]
theorem bD_in {up : Bool} {F : Nat → Int32} {x y xm ym xp yp k : Int32} {d : Nat} (e1 : x + (-1) * jcs ((d + 1) % 4) = xm) (e2 : y + (-1) * jrs ((d + 1) % 4) = ym) (e3 : x + 1 * jcs ((d + 1) % 4) = xp) (e4 : y + 1 * jrs ((d + 1) % 4) = yp) (hm : inF xm ym = true) (hp : inF xp yp = true) : bD up false F x y d k = mkB (!up) (mkB (!up) F xm ym k) xp yp k := by
  have hb := bE_in e1 e2 e3 e4 hm hp
  subst e1 e2 e3 e4
  unfold bD; rw [hb, pE_in hm, sD_mk, sD_mk]
theorem pE_t {x y : Int32} : pE true x y = true := rfl
theorem pE_o {be : Bool} {x y : Int32} (h : inF x y = false) : pE be x y = true := by unfold pE; rw [h]; cases be <;> rfl
theorem pB_comm {F : Nat → Int32} {x y x2 y2 v k : Int32} : pB (pB F x y v k) x2 y2 v k = pB (pB F x2 y2 v k) x y v k := by
  by_cases h1 : inF x y = true
  · by_cases h2 : inF x2 y2 = true
    · obtain ⟨C, R, hC, hR, rfl, rfl⟩ := inF_nn h1
      obtain ⟨C2, R2, hC2, hR2, rfl, rfl⟩ := inF_nn h2
      funext r
      apply tbn_ext
      intro i hi
      rw [pB_bit hC2 hR2 hi, pB_bit hC hR hi, pB_bit hC hR hi, pB_bit hC2 hR2 hi]
      split <;> split <;> rfl
    · have e : ∀ F : Nat → Int32, pB F x2 y2 v k = F := fun F => if_neg h2
      rw [e, e]
  · have e : ∀ F : Nat → Int32, pB F x y v k = F := fun F => if_neg h1
    rw [e, e]
theorem mkB_comm {u : Bool} {F : Nat → Int32} {x y x2 y2 k : Int32} : mkB u (mkB u F x y k) x2 y2 k = mkB u (mkB u F x2 y2 k) x y k := by
  cases u with
  | false =>
    have e : ∀ (F : Nat → Int32) (x y : Int32), mkB false F x y k = F := fun _ _ _ => if_neg Bool.false_ne_true
    rw [e, e, e, e]
  | true =>
    have e : ∀ (F : Nat → Int32) (x y : Int32), mkB true F x y k = pB F x y 3 k := fun _ _ _ => if_pos rfl
    rw [e, e, e, e]; exact pB_comm
def dioF (u : Bool) (x y : Int32) (d : Nat) (F : Nat → Int32) (k : Int32) : Nat → Int32 := mkB u (mkB u (mkB u (mkB u (mkB u (mkB u (mkB u F (cA x d 1 0) (rA y d 1 0) k) (cA x d 2 (-1)) (rA y d 2 (-1)) k) (cA x d 2 1) (rA y d 2 1) k) (cA x d 3 (-1)) (rA y d 3 (-1)) k) (cA x d 3 0) (rA y d 3 0) k) (cA x d 3 1) (rA y d 3 1) k) (cA x d 4 0) (rA y d 4 0) k
theorem dio_st {x y : Int32} {d : Nat} {up : Bool} {D0 D1 D2 : Nat → Int32} (hd : d < 4) (h : inF x y = true) (h4 : inF (cA x d 4 0) (rA y d 4 0) = true) (hm : inF (cA x d 2 (-1)) (rA y d 2 (-1)) = true) (hp : inF (cA x d 2 1) (rA y d 2 1) = true) : st10 d up 1 (st11 d up 1 (st01 d up 1 (st10 d up 1 (x, y, false, D0, D1, D2)))) = (cA x d 4 0, rA y d 4 0, false, dioF (!up) x y d D0 1, dioF (!up) x y d D1 2, dioF (!up) x y d D2 3) := by
  obtain ⟨h1, h2, h3, h3m, h3p⟩ := dio_all hd h h4 hm hp
  rw [st10_in h1]
  have e2 : ∀ A0 A1 A2 : Nat → Int32, st01 d up 1 (cA x d 1 0, rA y d 1 0, false, A0, A1, A2) = (cA x d 2 0, rA y d 2 0, false, mkB (!up) (mkB (!up) A0 (cA x d 2 (-1)) (rA y d 2 (-1)) 1) (cA x d 2 1) (rA y d 2 1) 1, mkB (!up) (mkB (!up) A1 (cA x d 2 (-1)) (rA y d 2 (-1)) 2) (cA x d 2 1) (rA y d 2 1) 2, mkB (!up) (mkB (!up) A2 (cA x d 2 (-1)) (rA y d 2 (-1)) 3) (cA x d 2 1) (rA y d 2 1) 3) := by
    intro A0 A1 A2
    unfold st01
    dsimp only
    rw [cA_12 hd, rA_12 hd, pE_in h2, bE_in cA_a rA_a cA_a rA_a hm hp, bD_in cA_a rA_a cA_a rA_a hm hp, bD_in cA_a rA_a cA_a rA_a hm hp, bD_in cA_a rA_a cA_a rA_a hm hp]
  have e3 : ∀ A0 A1 A2 : Nat → Int32, st11 d up 1 (cA x d 2 0, rA y d 2 0, false, A0, A1, A2) = (cA x d 3 0, rA y d 3 0, false, mkB (!up) (mkB (!up) (mkB (!up) A0 (cA x d 3 (-1)) (rA y d 3 (-1)) 1) (cA x d 3 0) (rA y d 3 0) 1) (cA x d 3 1) (rA y d 3 1) 1, mkB (!up) (mkB (!up) (mkB (!up) A1 (cA x d 3 (-1)) (rA y d 3 (-1)) 2) (cA x d 3 0) (rA y d 3 0) 2) (cA x d 3 1) (rA y d 3 1) 2, mkB (!up) (mkB (!up) (mkB (!up) A2 (cA x d 3 (-1)) (rA y d 3 (-1)) 3) (cA x d 3 0) (rA y d 3 0) 3) (cA x d 3 1) (rA y d 3 1) 3) := by
    intro A0 A1 A2
    unfold st11
    dsimp only
    rw [cA_23 hd, rA_23 hd, pE_in h3, sD_mk, sD_mk, sD_mk, bE_in cA_a rA_a cA_a rA_a h3m h3p, bD_in cA_a rA_a cA_a rA_a h3m h3p, bD_in cA_a rA_a cA_a rA_a h3m h3p, bD_in cA_a rA_a cA_a rA_a h3m h3p, mkB_comm (F := A0) (x := cA x d 3 0), mkB_comm (F := A1) (x := cA x d 3 0), mkB_comm (F := A2) (x := cA x d 3 0)]
  have e4 : ∀ A0 A1 A2 : Nat → Int32, st10 d up 1 (cA x d 3 0, rA y d 3 0, false, A0, A1, A2) = (cA x d 4 0, rA y d 4 0, false, mkB (!up) A0 (cA x d 4 0) (rA y d 4 0) 1, mkB (!up) A1 (cA x d 4 0) (rA y d 4 0) 2, mkB (!up) A2 (cA x d 4 0) (rA y d 4 0) 3) := by
    intro A0 A1 A2
    unfold st10
    dsimp only
    rw [cA_34 hd, rA_34 hd, pE_in h4, sD_mk, sD_mk, sD_mk]
  rw [e2, e3, e4]
  rfl
theorem pDr_z {be : Bool} {F : Nat → Int32} {x y v k : Int32} (h : Z24 F) : Z24 (pDr be F x y v k) := by
  unfold pDr
  split
  · exact h
  · exact pB_z h
theorem sD_z {up be : Bool} {F : Nat → Int32} {x y k : Int32} (h : Z24 F) : Z24 (sD up be F x y k) := by
  unfold sD
  split
  · exact h
  · exact pDr_z h
theorem bD_z {up be : Bool} {F : Nat → Int32} {x y : Int32} {d : Nat} {k : Int32} (h : Z24 F) : Z24 (bD up be F x y d k) := by
  unfold bD
  exact sD_z (sD_z h)
def SZ (s : SP) : Prop := QZ s.2.2.2.1 s.2.2.2.2.1 s.2.2.2.2.2
theorem st00_z {d : Nat} {up : Bool} {m : Int32} {s : SP} (h : SZ s) : SZ (st00 d up m s) := by
  obtain ⟨x, y, be, D0, D1, D2⟩ := s
  exact h
theorem st10_z {d : Nat} {up : Bool} {m : Int32} {s : SP} (h : SZ s) : SZ (st10 d up m s) := by
  obtain ⟨x, y, be, D0, D1, D2⟩ := s
  exact ⟨sD_z h.1, sD_z h.2.1, sD_z h.2.2⟩
theorem st01_z {d : Nat} {up : Bool} {m : Int32} {s : SP} (h : SZ s) : SZ (st01 d up m s) := by
  obtain ⟨x, y, be, D0, D1, D2⟩ := s
  exact ⟨bD_z h.1, bD_z h.2.1, bD_z h.2.2⟩
theorem st11_z {d : Nat} {up : Bool} {m : Int32} {s : SP} (h : SZ s) : SZ (st11 d up m s) := by
  obtain ⟨x, y, be, D0, D1, D2⟩ := s
  exact ⟨bD_z (sD_z h.1), bD_z (sD_z h.2.1), bD_z (sD_z h.2.2)⟩
theorem st10_b {d : Nat} {up : Bool} {s : SP} (h : s.2.2.1 = true ∨ inF (s.1 + 1 * jcs d) (s.2.1 + 1 * jrs d) = false) : (st10 d up 1 s).2.2.1 = true := by
  obtain ⟨x, y, be, D0, D1, D2⟩ := s
  rcases h with h | h
  · have h : be = true := h
    subst h; rfl
  · exact pE_o h
theorem st11_b {d : Nat} {up : Bool} {s : SP} (h : s.2.2.1 = true) : (st11 d up 1 s).2.2.1 = true := by
  obtain ⟨x, y, be, D0, D1, D2⟩ := s
  have h : be = true := h
  subst h; rfl
theorem st01_b {d : Nat} {up : Bool} {x y : Int32} {be : Bool} {D0 D1 D2 : Nat → Int32} (h : inF (x + 1 * jcs d + (-1) * jcs ((d + 1) % 4)) (y + 1 * jrs d + (-1) * jrs ((d + 1) % 4)) = false ∨ inF (x + 1 * jcs d + 1 * jcs ((d + 1) % 4)) (y + 1 * jrs d + 1 * jrs ((d + 1) % 4)) = false) : (st01 d up 1 (x, y, be, D0, D1, D2)).2.2.1 = true := by
  show bE _ _ _ d = true
  unfold bE
  rcases h with h | h
  · rw [pE_o (be := pE be _ _) h]; rfl
  · exact pE_o h
theorem dio_out {x y : Int32} {d : Nat} {up : Bool} {D0 D1 D2 : Nat → Int32} (hd : d < 4) (h : (inF (cA x d 4 0) (rA y d 4 0) && (inF (cA x d 2 (-1)) (rA y d 2 (-1)) && inF (cA x d 2 1) (rA y d 2 1))) = false) : (st10 d up 1 (st11 d up 1 (st01 d up 1 (st10 d up 1 (x, y, false, D0, D1, D2))))).2.2.1 = true := by
  have k : ∀ A0 A1 A2 : Nat → Int32, ∀ be, (inF (cA x d 2 (-1)) (rA y d 2 (-1)) = false ∨ inF (cA x d 2 1) (rA y d 2 1) = false) → (st01 d up 1 (x + 1 * jcs d, y + 1 * jrs d, be, A0, A1, A2)).2.2.1 = true := by
    intro A0 A1 A2 be q
    apply st01_b
    rw [← cA_f (c := x) (d := d) (f := 1), ← rA_f (r := y) (d := d) (f := 1), cA_12 hd, rA_12 hd, cA_a, rA_a, cA_a, rA_a]
    exact q
  cases h4 : inF (cA x d 4 0) (rA y d 4 0) with
  | false =>
    apply st10_b
    refine Or.inr ?_
    show inF (x + 1 * jcs d + 1 * jcs d + 1 * jcs d + 1 * jcs d) (y + 1 * jrs d + 1 * jrs d + 1 * jrs d + 1 * jrs d) = false
    rw [← cA_f (c := x) (d := d) (f := 1), ← rA_f (r := y) (d := d) (f := 1), cA_12 hd, rA_12 hd, cA_23 hd, rA_23 hd, cA_34 hd, rA_34 hd, h4]
  | true =>
    apply st10_b
    refine Or.inl (st11_b (k _ _ _ _ ?_))
    rw [h4] at h
    cases hm : inF (cA x d 2 (-1)) (rA y d 2 (-1)) with
    | false => exact Or.inl rfl
    | true => rw [hm] at h; exact Or.inr h
