
theorem m1_d {d : Nat} (h : 1 ≤ d) : nI d + (-1) = nI (d - 1) := by
  obtain ⟨e, rfl⟩ : ∃ e, d = e + 1 := ⟨d - 1, by omega⟩
  exact pk_m1 e
theorem upd2 {f : Nat → Int32} {k : Nat} {x y : Int32} : upd (upd f k x) k y = upd f k y := by
  funext j
  by_cases h : j = k
  · subst h; rw [pk_us, pk_us]
  · rw [pk_un h, pk_un h, pk_un h]
def dg3 (S : Nat → Int32) (N p : Nat) : Nat := if dg (sg S N p) = true then (if dg (sg S N (p + 1)) = true then (if dg (sg S N (p + 1 + 1)) = true then 3 else 2) else 1) else 0
theorem dg3_le {S : Nat → Int32} {N p : Nat} : dg3 S N p ≤ 3 := by unfold dg3; split <;> (try split) <;> (try split) <;> omega
/-- the reading of a text: is it a row of orders; the macros that it holds -/
def rdS (S : Nat → Int32) (N : Nat) : Nat → Nat → Nat → Nat → Int32 → Bool × Int32
  | 0, _, _, _, u => (false, u)
  | f + 1, p, d, o, u => if p < N then
      (if 2 < dg3 S N p then (false, u)
       else if opn (sg S N (p + dg3 S N p)) = true then (if d = 3 then (false, u) else rdS S N f (p + dg3 S N p + 1) (d + 1) (2 * o + (if sg S N (p + dg3 S N p) = 40 then 0 else 1)) u)
       else if cls (sg S N (p + dg3 S N p)) = true then (if 0 < dg3 S N p ∨ d = 0 ∨ ¬ o % 2 = (if sg S N (p + dg3 S N p) = 41 then 0 else 1) then (false, u) else rdS S N f (p + dg3 S N p + 1) (d - 1) (o / 2) u)
       else if sg S N (p + dg3 S N p) = 64 then (if sg S N (p + dg3 S N p + 1) - 97 < 0 ∨ ¬ sg S N (p + dg3 S N p + 1) - 97 ≤ 3 then (false, u) else rdS S N f (p + dg3 S N p + 1 + 1) d o (u ||| (1 <<< ((sg S N (p + dg3 S N p + 1) - 97) &&& 31))))
       else if sing (sg S N (p + dg3 S N p)) = true then rdS S N f (p + dg3 S N p + 1) d o u else (false, u))
    else (decide (d = 0), u)
def rdF (S : Nat → Int32) (N : Nat) : Bool × Int32 := rdS S N 61 0 0 0 0
/-- a macro's text -/
def cpT (tx : Nat → Int32) (j : Nat) : Nat → Nat → Int32
  | 0 => tx
  | k + 1 => upd (cpT tx j k) (60 * j + k) (cpT tx j k (240 + k))
