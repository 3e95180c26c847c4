
/-- sources taken back: the first k places from a list -/
def bkS (so : Nat → Int32 × Int32 × Int64 × Nat × Nat) (mq : Nat → Nat) (k : Nat) : Nat → Int32 × Int32 × Int64 × Nat × Nat := fun j => if j < k then ((so j).1, (so j).2.1, (so j).2.2.1, (so j).2.2.2.1, mq j) else so j
theorem bkS_0 {so : Nat → Int32 × Int32 × Int64 × Nat × Nat} {mq : Nat → Nat} : bkS so mq 0 = so := by funext j; simp [bkS]
theorem bkS_s {so : Nat → Int32 × Int32 × Int64 × Nat × Nat} {mq : Nat → Nat} {k : Nat} : vf_upd (bkS so mq k) k ((bkS so mq k k).1, (bkS so mq k k).2.1, (bkS so mq k k).2.2.1, (bkS so mq k k).2.2.2.1, mq k) = bkS so mq (k + 1) := by
  funext j
  by_cases h : j = k
  · subst h; simp [vf_upd, bkS]
  · rw [vf_ne h]
    simp only [bkS]
    by_cases h2 : j < k
    · rw [if_pos h2, if_pos (by omega)]
    · rw [if_neg h2, if_neg (by omega)]
theorem gUp_z {f g : Nat → Int32} {k n : Nat} (hk : k ≤ n) (hg : ∀ j, n ≤ j → g j = 0) : ∀ j, n ≤ j → gUp f g k j = 0 := fun j hj => by simp only [gUp]; rw [if_neg (by omega)]; exact hg j hj
/-- the sources act, one after the other -/
def sSt (k : Nat) (s : (Nat → Int32 × Int32 × Int64 × Nat × Nat) × (Nat → Int32) × (Nat → Int32) × (Nat → Int32)) : (Nat → Int32 × Int32 × Int64 × Nat × Nat) × (Nat → Int32) × (Nat → Int32) × (Nat → Int32) :=
  (vf_upd s.1 k ((s.1 k).1, (s.1 k).2.1, (s.1 k).2.2.1, (s.1 k).2.2.2.1, sNx (s.1 k).2.2.2.1 (s.1 k).2.2.2.2),
   sB (s.1 k).2.2.1 (s.1 k).2.2.2.2 s.2.1 s.2.2.1 s.2.2.2 s.2.1 (s.1 k).1 (s.1 k).2.1 1, sB (s.1 k).2.2.1 (s.1 k).2.2.2.2 s.2.1 s.2.2.1 s.2.2.2 s.2.2.1 (s.1 k).1 (s.1 k).2.1 2, sB (s.1 k).2.2.1 (s.1 k).2.2.2.2 s.2.1 s.2.2.1 s.2.2.2 s.2.2.2 (s.1 k).1 (s.1 k).2.1 3)
def sIt (s : (Nat → Int32 × Int32 × Int64 × Nat × Nat) × (Nat → Int32) × (Nat → Int32) × (Nat → Int32)) : Nat → (Nat → Int32 × Int32 × Int64 × Nat × Nat) × (Nat → Int32) × (Nat → Int32) × (Nat → Int32)
  | 0 => s
  | n + 1 => sSt n (sIt s n)
theorem sIt_at (s : (Nat → Int32 × Int32 × Int64 × Nat × Nat) × (Nat → Int32) × (Nat → Int32) × (Nat → Int32)) : ∀ k j, k ≤ j → (sIt s k).1 j = s.1 j := by
  intro k
  induction k with
  | zero => intro j _; rfl
  | succ k ih => intro j hj; show vf_upd (sIt s k).1 k _ j = _; rw [vf_ne (by omega)]; exact ih j (by omega)
theorem pB_z {F : Nat → Int32} {c r v k : Int32} (h : Z24 F) : Z24 (pB F c r v k) := by
  intro j hj
  unfold pB
  split
  · rename_i hin
    have h2 := vp_in_iff.mp (inF_in hin)
    rw [pk_un]
    · exact h j hj
    · intro e
      have h3 : r.toNatClampNeg = r.toInt.toNat := rfl
      omega
  · exact h j hj
theorem sB_z {pat : Int64} {P : Nat} {F0 F1 F2 F : Nat → Int32} {c r k : Int32} (h : Z24 F) : Z24 (sB pat P F0 F1 F2 F c r k) := by
  unfold sB
  split
  · exact pB_z h
  · exact h
theorem sIt_z {so : Nat → Int32 × Int32 × Int64 × Nat × Nat} {F0 F1 F2 : Nat → Int32} (h0 : Z24 F0) (h1 : Z24 F1) (h2 : Z24 F2) : ∀ k, Z24 (sIt (so, F0, F1, F2) k).2.1 ∧ Z24 (sIt (so, F0, F1, F2) k).2.2.1 ∧ Z24 (sIt (so, F0, F1, F2) k).2.2.2 := by
  intro k
  induction k with
  | zero => exact ⟨h0, h1, h2⟩
  | succ k ih => exact ⟨sB_z ih.1, sB_z ih.2.1, sB_z ih.2.2⟩
/-- the probes look -/
def qSt (F0 F1 F2 : Nat → Int32) (tm : Int32) (z : Int32 × Int32 × Int32 × Int32 × Int64) : Int32 × Int32 × Int32 × Int32 × Int64 :=
  if fVal F0 F1 F2 z.1 z.2.1 = 1 then (z.1, z.2.1, z.2.2.1 + 1, tm, z.2.2.2.2 * 2 + (1 : Int32).toInt64) else (z.1, z.2.1, z.2.2.1, z.2.2.2.1, z.2.2.2.2 * 2 + (0 : Int32).toInt64)
def qIt (F0 F1 F2 : Nat → Int32) (tm : Int32) (qo : Nat → Int32 × Int32 × Int32 × Int32 × Int64) (k : Nat) : Nat → Int32 × Int32 × Int32 × Int32 × Int64 := fun j => if j < k then qSt F0 F1 F2 tm (qo j) else qo j
theorem qIt_0 {F0 F1 F2 : Nat → Int32} {tm : Int32} {qo : Nat → Int32 × Int32 × Int32 × Int32 × Int64} : qIt F0 F1 F2 tm qo 0 = qo := by funext j; simp [qIt]
theorem qIt_k {F0 F1 F2 : Nat → Int32} {tm : Int32} {qo : Nat → Int32 × Int32 × Int32 × Int32 × Int64} {k : Nat} : qIt F0 F1 F2 tm qo k k = qo k := by simp [qIt]
theorem qIt_s {F0 F1 F2 : Nat → Int32} {tm : Int32} {qo : Nat → Int32 × Int32 × Int32 × Int32 × Int64} {k : Nat} {z : Int32 × Int32 × Int32 × Int32 × Int64} (hz : z = qSt F0 F1 F2 tm (qo k)) : vf_upd (qIt F0 F1 F2 tm qo k) k z = qIt F0 F1 F2 tm qo (k + 1) := by
  funext j
  by_cases h : j = k
  · subst h; rw [vf_s, hz]; simp [qIt]
  · rw [vf_ne h]
    simp only [qIt]
    by_cases h2 : j < k
    · rw [if_pos h2, if_pos (by omega)]
    · rw [if_neg h2, if_neg (by omega)]
def kpM (so : Nat → Int32 × Int32 × Int64 × Nat × Nat) : Nat → Int32 := fun j => nI (so j).2.2.2.2
theorem mn16 {k : Nat} (h : k ≤ 16) : mnF (nI (k + 1)) 16 = nI (min (k + 1) 16) := by
  unfold mnF
  by_cases h2 : k = 16
  · subst h2; rfl
  · rw [if_neg (show ¬ (16 : Int32) < nI (k + 1) from nI_nlt (a := 16) (b := k + 1) (by omega) (by decide)), Nat.min_eq_left (by omega)]
section HC3
variable {b : Nat} {ta : Nat → ClassId} {F0 : Nat → Int32} {F1 : Nat → Int32} {F2 : Nat → Int32} {A0 : Nat → Int32} {A1 : Nat → Int32} {A2 : Nat → Int32} {ec : Int32} {er : Int32} {ed : Nat} {eu : Bool} {eo : Nat} {P0 : Nat → Int32} {P1 : Nat → Int32} {P2 : Nat → Int32} {S : Nat → Int32} {N : Nat} {th : Nat → Int32} {MS : Nat → Nat → Int32} {MN : Nat → Nat} {so : Nat → Int32 × Int32 × Int64 × Nat × Nat} {qo : Nat → Int32 × Int32 × Int32 × Int32 × Int64} {sN : Nat} {qN : Nat} {kN : Nat} {tN : Nat} {M0 : Nat → Nat → Int32} {M1 : Nat → Nat → Int32} {M2 : Nat → Nat → Int32} {mp : Nat → Nat → Int32} {X : List va_E}
theorem hC_pl {g : Nat → Int32} (j : Nat) (hj : j < 16) (hg : mp j = g) : (hC b ta F0 F1 F2 A0 A1 A2 ec er ed eu eo P0 P1 P2 S N th MS MN so qo sN qN kN tN M0 M1 M2 mp X)[42 + 6 * j]? = some (.inl (ta 0, 4, .inl g)) := by rw [← hg]; exact (hC_mo j hj).2.2.2.2.2
end HC3
