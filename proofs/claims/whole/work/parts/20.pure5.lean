
section KS
variable {l : Launch} {b : Nat} {D : va_G} {ta : Nat → ClassId} {Γ : jG} {ex : Prop} {own : String} {cc : ByteArray} {ret : Option FieldType} {nL cs ss pc d d' : Nat} {rm : Room} {σ : List va_E} {L : List (Nat × Value)} {rest : List Value} {x y v : Int32}
theorem j_ishrE (B : jB l b D ta Γ own cc ret nL rm) (hv : x >>> (y &&& 31) = v) (hd : decode cc pc = .ok (.ishr, 1)) (kk : jW l b D Γ ex cs ss nL σ L (pc + 1) (.int v :: rest)) : jW l b D Γ ex cs ss nL σ L pc (.int y :: .int x :: rest) := by subst hv; exact j_ishr B hd kk
theorem k_callStr {y : MethodName} {cb : ByteArray} {mL : Nat} {ret' : Option FieldType} {as : List Value} {r : Option Value} {σ' : List va_E} {st0 st1 : List Value} {n index : Nat} (B : jB l b D ta Γ own cc ret nL (rL d)) (hM : jC l b D ta False y cb mL ret' (rL d') (.ref (ta 100) :: as) σ r σ') (hY : jY y cb mL ret' n) (hlink : Cond.methodLink own index y ∈ jWS) (hin : Cond.instanceMethod y ∈ jWS) (hse : Cond.selects "java/lang/String" y y ∈ jWS) (hn : as.length = n) (hd : d' < d) (hm : mL ≤ 21) (hs0 : st0 = as.reverse ++ .ref (ta 100) :: rest) (hs1 : r.toList ++ rest = st1) (hsum : (rest.map fun v => v.category).sum ≤ 8)
    (hdg : decode cc pc = .ok (.invokevirtual index, 3)) (kk : jW l b D Γ False 0 0 nL σ' L (pc + 3) st1) : jW l b D Γ False 0 0 nL σ L pc st0 := j_callStr (d := 0) (d' := 0) B hM hY hlink hin hse hn (k_room hd hm) ⟨Nat.le_refl _, Nat.le_refl _⟩ hs0 hs1 hsum hdg kk
end KS
def canE (c : Int32) : Bool := decide (¬ c < 0 ∧ ¬ 255 < c)
def ixL (x : Int32) : Nat → Nat → Int32
  | 0, _ => -1
  | n + 1, k => if jord k = x then nI k else ixL x n (k + 1)
def ixF (c : Int32) : Int32 := if canE c = true then ixL c.toInt8.toInt32 9 0 else -1
theorem ix_256 : ∀ C, C < 256 → (decide (ixF (nI C) < 0) = !sing (nI C)) := by decide +kernel
theorem ix_sing (c : Int32) : sing c = true ↔ ¬ ixF c < 0 := by
  by_cases hc : canE c = true
  · have h1 := of_decide_eq_true hc
    obtain ⟨C, hC, rfl⟩ := nI_of h1.1
    have h3 : C < 256 := by
      rcases Nat.lt_or_ge C 256 with q | q
      · exact q
      · exact absurd (nI_lt (a := 255) (b := C) (by omega) hC) h1.2
    have h4 := ix_256 C h3
    cases hs : sing (nI C) with
    | true => rw [hs] at h4; simp at h4; simpa using h4
    | false => rw [hs] at h4; simp at h4; simpa using h4
  · have h2 : ixF c = -1 := if_neg hc
    rw [h2]
    constructor
    · intro hs
      exfalso
      apply hc
      have h3 := of_decide_eq_true hs
      rcases h3 with h | h | h | h | h | h | h | h | h <;> (subst h; decide)
    · intro h; exact absurd (by decide) h
/-- is the whole text a row of orders that holds no macros but the first so many -/
def ioF (S : Nat → Int32) (N Lt : Nat) : Bool := decide (eoD S N Lt 4 0 = some N)
theorem eoD_le {S : Nat → Int32} {N Lt : Nat} (m : Nat) : ∀ k e, k ≤ N → eoD S N Lt m k = some e → e ≤ N := by
  cases m with
  | zero => intro k e _ h; cases h
  | succ m => intro k e hk h; exact eoS_le 60 k e hk h
theorem rI_eq {a : Option Nat} {N : Nat} (ha : ∀ k, a = some k → k ≤ N) (hN : N ≤ 60) : rI a = nI N ↔ a = some N := by
  cases a with
  | none => constructor
            · intro h
              have : (nI N) < 0 := by rw [← h]; decide
              exact absurd this (nI_pos (by omega))
            · intro h; cases h
  | some k =>
    have := ha k rfl
    constructor
    · intro h; rw [(nI_eq (by omega) (by omega)).mp h]
    · intro h; cases h; rfl
