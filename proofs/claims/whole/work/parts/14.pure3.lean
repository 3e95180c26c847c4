
/-! texts -/
def Fc (S : Nat → Int32) : Prop := ∀ k, narrow .char (.int (S k)) = .int (S k) ∧ fits .char (.int (S k)) = true
def Z60 (f : Nat → Int32) : Prop := ∀ k, 60 ≤ k → f k = 0
theorem z60 {f g : Nat → Int32} (hf : Z60 f) (hg : Z60 g) : va_cpy f g 0 0 60 = f := by
  funext k
  rcases Nat.lt_or_ge k 60 with h | h
  · rw [pk_cpy_in (Nat.zero_le _) (by omega)]; congr 1; omega
  · rw [pk_cpy_out (by omega), hf k h, hg k h]
/-- the sign at a place, 0 where there is none -/
def sg (S : Nat → Int32) (N k : Nat) : Int32 := if k < N then S k else 0
def dg (c : Int32) : Bool := decide (¬ c < 48 ∧ ¬ 57 < c)
def cl (c : Int32) : Bool := decide (c = 41 ∨ c = 93)
def dgA (S : Nat → Int32) (N k : Nat) : Nat := if dg (sg S N k) = true then (if dg (sg S N (k + 1)) = true then 2 else 1) else 0
theorem dgA_le (S : Nat → Int32) (N k : Nat) : dgA S N k ≤ 2 := by unfold dgA; split; (split <;> omega); omega
def tmA (S : Nat → Int32) (N k : Nat) : Int32 := if nI (dgA S N k) = 1 then sg S N k - 48 else if nI (dgA S N k) = 2 then (sg S N k - 48) * 10 + sg S N (k + 1) - 48 else 1
def hmF (S : Nat → Int32) (N : Nat) : Nat → Int32
  | 0 => 0
  | n + 1 => if sg S N n = 64 ∧ ¬ sg S N (n + 1) - 97 < 0 ∧ ¬ 4 ≤ sg S N (n + 1) - 97 then hmF S N n ||| (1 <<< ((sg S N (n + 1) - 97) &&& 31)) else hmF S N n
theorem sg_in {S : Nat → Int32} {N k : Nat} (h : ¬ sg S N k = 0) : k < N := by
  rcases Nat.lt_or_ge k N with q | q
  · exact q
  · exact absurd (if_neg (by omega)) h
/-- an end that may be wanting -/
def rI : Option Nat → Int32
  | none => -1
  | some k => nI k
def sing (c : Int32) : Bool := decide (c = 70 ∨ c = 66 ∨ c = 82 ∨ c = 76 ∨ c = 85 ∨ c = 68 ∨ c = 69 ∨ c = 87 ∨ c = 60)
def eoB (rec : Nat → Option Nat) (S : Nat → Int32) (N k : Nat) (c : Int32) : Option Nat := match rec k with
  | none => none
  | some e => if sg S N e = c then some (e + 1) else none
def eoO (rec : Nat → Option Nat) (S : Nat → Int32) (N Lt k : Nat) : Option Nat :=
  if sg S N k = 40 then eoB rec S N (k + 1) 41
  else if sg S N k = 91 then eoB rec S N (k + 1) 93
  else if sg S N k = 64 then (if ¬ sg S N (k + 1) - 97 < 0 ∧ ¬ nI Lt ≤ sg S N (k + 1) - 97 then some (k + 2) else none)
  else if sing (sg S N k) = true then some (k + 1) else none
def eoS (rec : Nat → Option Nat) (S : Nat → Int32) (N Lt : Nat) : Nat → Nat → Option Nat
  | 0, k => some k
  | f + 1, k => if k < N ∧ cl (sg S N k) = false then (match eoO rec S N Lt (k + dgA S N k) with
    | none => none
    | some e => eoS rec S N Lt f e) else some k
theorem eoS_s {rec : Nat → Option Nat} {S : Nat → Int32} {N Lt f k : Nat} : eoS rec S N Lt (f + 1) k = if k < N ∧ cl (sg S N k) = false then (match eoO rec S N Lt (k + dgA S N k) with
    | none => none
    | some e => eoS rec S N Lt f e) else some k := rfl
def eoD (S : Nat → Int32) (N Lt : Nat) : Nat → Nat → Option Nat
  | 0, _ => none
  | m + 1, k => eoS (eoD S N Lt m) S N Lt 60 k
theorem eoB_le {rec : Nat → Option Nat} {S : Nat → Int32} {N k e : Nat} {c : Int32} (hc : ¬ c = 0) (h : eoB rec S N k c = some e) : e ≤ N := by
  unfold eoB at h
  cases hr : rec k with
  | none => rw [hr] at h; cases h
  | some z =>
    rw [hr] at h
    by_cases hz : sg S N z = c
    · simp only [hz, if_true] at h
      have := sg_in (S := S) (N := N) (k := z) (by rw [hz]; exact hc)
      cases h
      omega
    · simp only [hz, if_false] at h
      cases h
theorem eoO_le {rec : Nat → Option Nat} {S : Nat → Int32} {N Lt k e : Nat} (h : eoO rec S N Lt k = some e) : e ≤ N := by
  unfold eoO at h
  split at h
  · exact eoB_le (by decide) h
  · split at h
    · exact eoB_le (by decide) h
    · split at h
      · rename_i h64
        split at h
        · rename_i hq
          have h2 : ¬ sg S N (k + 1) = 0 := fun q => hq.1 (by rw [q]; decide)
          have := sg_in h2
          cases h
          omega
        · cases h
      · split at h
        · rename_i hs
          have h2 : ¬ sg S N k = 0 := fun q => by rw [q] at hs; exact absurd hs (by decide)
          have := sg_in h2
          cases h
          omega
        · cases h
theorem eoS_le {rec : Nat → Option Nat} {S : Nat → Int32} {N Lt : Nat} : ∀ (f k e : Nat), k ≤ N → eoS rec S N Lt f k = some e → e ≤ N := by
  intro f
  induction f with
  | zero => intro k e hk h; cases h; exact hk
  | succ f ih =>
    intro k e hk h
    unfold eoS at h
    split at h
    · cases ho : eoO rec S N Lt (k + dgA S N k) with
      | none => rw [ho] at h; cases h
      | some z => rw [ho] at h; exact ih z e (eoO_le ho) h
    · cases h; exact hk
/-- the rest of the loop from an end on -/
def eoW (rec : Nat → Option Nat) (S : Nat → Int32) (N Lt f : Nat) : Option Nat → Option Nat
  | none => none
  | some k => eoS rec S N Lt f k
theorem rI_neg {a : Option Nat} (ha : ∀ k, a = some k → k ≤ 60) (h : rI a < 0) : a = none := by
  cases a with
  | none => rfl
  | some k => exact absurd h (nI_pos (by have := ha k rfl; omega))
theorem rI_pos {a : Option Nat} (h : ¬ rI a < 0) : ∃ k, a = some k := by
  cases a with
  | none => exact absurd (by decide) h
  | some k => exact ⟨k, rfl⟩
