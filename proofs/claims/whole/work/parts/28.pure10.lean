
/-! a generation as a whole: field, draft, sources, probes, kept, time, moments -/
abbrev GT : Type := ((Nat → Int32) × (Nat → Int32) × (Nat → Int32)) × ((Nat → Int32) × (Nat → Int32) × (Nat → Int32)) × (Nat → Int32 × Int32 × Int64 × Nat × Nat) × (Nat → Int32 × Int32 × Int32 × Int32 × Int64) × Nat × Nat × ((Nat → Nat → Int32) × (Nat → Nat → Int32) × (Nat → Nat → Int32)) × (Nat → Nat → Int32)
def gnF (sN : Nat) (g : GT) : (Nat → Int32) × (Nat → Int32) × (Nat → Int32) := (nxH (sIt (g.2.2.1, g.1.1, g.1.2.1, g.1.2.2) sN).2.1 (sIt (g.2.2.1, g.1.1, g.1.2.1, g.1.2.2) sN).2.2.2, (sIt (g.2.2.1, g.1.1, g.1.2.1, g.1.2.2) sN).2.1, nxW (sIt (g.2.2.1, g.1.1, g.1.2.1, g.1.2.2) sN).2.1 (sIt (g.2.2.1, g.1.1, g.1.2.1, g.1.2.2) sN).2.2.1 (sIt (g.2.2.1, g.1.1, g.1.2.1, g.1.2.2) sN).2.2.2)
def gen (sN qN : Nat) (g : GT) : GT := (gnF sN g, gnF sN g, (sIt (g.2.2.1, g.1.1, g.1.2.1, g.1.2.2) sN).1, qIt (gnF sN g).1 (gnF sN g).2.1 (gnF sN g).2.2 (nI (g.2.2.2.2.2.1 + 1)) g.2.2.2.1 qN, min (g.2.2.2.2.1 + 1) 16, g.2.2.2.2.2.1 + 1,
  (vf_upd g.2.2.2.2.2.2.1.1 (g.2.2.2.2.2.1 % 16) g.1.1, vf_upd g.2.2.2.2.2.2.1.2.1 (g.2.2.2.2.2.1 % 16) g.1.2.1, vf_upd g.2.2.2.2.2.2.1.2.2 (g.2.2.2.2.2.1 % 16) g.1.2.2), vf_upd g.2.2.2.2.2.2.2 (g.2.2.2.2.2.1 % 16) (gUp (kpM g.2.2.1) (g.2.2.2.2.2.2.2 (g.2.2.2.2.2.1 % 16)) 4))
def genN (sN qN : Nat) (g : GT) : Nat → GT
  | 0 => g
  | n + 1 => gen sN qN (genN sN qN g n)
/-- what a generation needs -/
def GI (g : GT) : Prop := g.2.2.2.2.1 ≤ 16 ∧ (∀ k, k < 4 → (g.2.2.1 k).2.2.2.1 < 2 ^ 31 ∧ (g.2.2.1 k).2.2.2.2 < 2 ^ 30) ∧ (Z24 g.1.1 ∧ Z24 g.1.2.1 ∧ Z24 g.1.2.2) ∧ (Z24 g.2.1.1 ∧ Z24 g.2.1.2.1 ∧ Z24 g.2.1.2.2) ∧ ∀ j, Z24 (g.2.2.2.2.2.2.1.1 j) ∧ Z24 (g.2.2.2.2.2.2.1.2.1 j) ∧ Z24 (g.2.2.2.2.2.2.1.2.2 j)
theorem vf_z {M : Nat → Nat → Int32} {k : Nat} {F : Nat → Int32} (hM : ∀ j, Z24 (M j)) (hF : Z24 F) : ∀ j, Z24 (vf_upd M k F j) := by
  intro j
  by_cases h : j = k
  · subst h; rw [vf_s]; exact hF
  · rw [vf_ne h]; exact hM j
theorem sIt_so {so : Nat → Int32 × Int32 × Int64 × Nat × Nat} {F : (Nat → Int32) × (Nat → Int32) × (Nat → Int32)} (h : ∀ k, k < 4 → (so k).2.2.2.1 < 2 ^ 31 ∧ (so k).2.2.2.2 < 2 ^ 30) : ∀ n, n ≤ 4 → ∀ k, k < 4 → ((sIt (so, F) n).1 k).2.2.2.1 < 2 ^ 31 ∧ ((sIt (so, F) n).1 k).2.2.2.2 < 2 ^ 30 + n := by
  intro n
  induction n with
  | zero => intro _ k hk; have := h k hk; exact ⟨this.1, this.2⟩
  | succ n ih =>
    intro hn k hk
    have h1 := ih (by omega) k hk
    by_cases e : k = n
    · subst e
      have h2 : (sIt (so, F) (k + 1)).1 k = (((sIt (so, F) k).1 k).1, ((sIt (so, F) k).1 k).2.1, ((sIt (so, F) k).1 k).2.2.1, ((sIt (so, F) k).1 k).2.2.2.1, sNx ((sIt (so, F) k).1 k).2.2.2.1 ((sIt (so, F) k).1 k).2.2.2.2) := vf_s
      rw [h2]
      refine ⟨h1.1, ?_⟩
      show sNx _ _ < _
      unfold sNx
      split <;> omega
    · have h2 : (sIt (so, F) (n + 1)).1 k = (sIt (so, F) n).1 k := vf_ne e
      rw [h2]
      exact ⟨h1.1, by omega⟩
def prv : Nat → Option Nat
  | 0 => none
  | n + 1 => some n
theorem prv_d (j : Nat) : nI j + Int32.ofInt (-1) = rI (prv j) := by
  cases j with
  | zero => rfl
  | succ j => exact pk_m1 j
theorem prv_0 {k : Nat} (hk : k ≤ 4) (h : rI (prv k) < 0) : k = 0 := by
  cases k with
  | zero => rfl
  | succ k => exact absurd h (nI_pos (by omega))
theorem prv_s {k : Nat} (h : ¬ rI (prv k) < 0) : ∃ j, k = j + 1 := by
  cases k with
  | zero => exact absurd (by decide) h
  | succ k => exact ⟨k, rfl⟩
/-- are the macros there that are needed, from the last letter down -/
def mtF (th hm : Nat → Int32) : Nat → Int32 → Bool
  | 0, _ => true
  | n + 1, nd => if (nd >>> (nI n &&& 31)) &&& 1 = 1 then (if th n = 0 then false else mtF th hm n (nd ||| hm n)) else mtF th hm n nd
def hmM (MS : Nat → Nat → Int32) (MN : Nat → Nat) (j : Nat) : Int32 := hmF (MS j) (MN j) (MN j)

theorem genN_t (sN qN : Nat) (g : GT) : ∀ k, (genN sN qN g k).2.2.2.2.2.1 = g.2.2.2.2.2.1 + k := by
  intro k
  induction k with
  | zero => rfl
  | succ k ih => show (genN sN qN g k).2.2.2.2.2.1 + 1 = _; rw [ih]; omega
