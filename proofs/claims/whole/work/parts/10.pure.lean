/-! small words -/
def bI (x : Bool) : Int32 := if x = true then 1 else 0
theorem bI_t {x : Bool} (h : ¬ bI x = 0) : x = true := by
  cases x
  · exact absurd rfl h
  · rfl
theorem bI_f {x : Bool} (h : bI x = 0) : x = false := by
  cases x
  · rfl
  · exact absurd h (by decide)
theorem bF {x : Bool} (h : x = false) : ¬ x = true := by rw [h]; decide
theorem bI_nar (x : Bool) : narrow .boolean (.int (bI x)) = .int (bI x) := by cases x <;> rfl
theorem bI_fit (x : Bool) : fits .boolean (.int (bI x)) = true := by cases x <;> rfl
abbrev rL (d : Nat) : Room := { frames := d, cells := 0, slots := 0, locals := 40 * d }
theorem jset {α : Type} {σ : List α} {k : Nat} {e : α} (h : σ[k]? = some e) : σ.set k e = σ := by
  apply List.ext_getElem?
  intro i
  by_cases hi : k = i
  · subst hi; rw [js h, h]
  · rw [List.getElem?_set_ne hi]
theorem jloop {P : Nat → Prop} (h : ∀ n, (∀ m, m < n → P m) → P n) : ∀ n, P n := fun n => Nat.strongRecOn n h
theorem lp_ge {k n : Nat} (hn : n < 2 ^ 31) (hk : k ≤ n) (h : nI n ≤ nI k) : k = n := by
  have := (nI_leI hn (by omega)).mp h
  omega
theorem lp_lt {k n : Nat} (hn : n < 2 ^ 31) (hk : k ≤ n) (h : ¬ nI n ≤ nI k) : k < n := by
  rcases Nat.lt_or_ge k n with h1 | h1
  · exact h1
  · exact absurd (nI_le h1 (by omega)) h
section KC
variable {l : Launch} {b : Nat} {D : va_G} {ta : Nat → ClassId} {Γ : jG} {own : String} {cc : ByteArray} {ret : Option FieldType} {nL pc d d' : Nat} {σ : List va_E} {L : List (Nat × Value)} {rest : List Value}
variable {y : MethodName} {cb : ByteArray} {mL : Nat} {ret' : Option FieldType} {as : List Value} {r : Option Value} {σ' : List va_E} {st0 st1 : List Value} {n index q : Nat} {host : String}
theorem k_room (h : d' < d) (hm : mL ≤ 21) : (rL d').frames + 1 ≤ (rL d).frames ∧ 8 + (mL + 11) + (rL d').locals ≤ (rL d).locals := ⟨h, by show 8 + (mL + 11) + 40 * d' ≤ 40 * d; omega⟩
theorem k_callS (B : jB l b D ta Γ own cc ret nL (rL d)) (hM : jC l b D ta False y cb mL ret' (rL d') as σ r σ') (hY : jY y cb mL ret' n) (hlink : Cond.methodLink own index y ∈ jWS) (hst : Cond.static y ∈ jWS) (hn : as.length = n) (hd : d' < d) (hm : mL ≤ 21) (hs0 : st0 = as.reverse ++ rest) (hs1 : r.toList ++ rest = st1) (hsum : (rest.map fun v => v.category).sum ≤ 8)
    (hdg : decode cc pc = .ok (.invokestatic index, 3)) (kk : jW l b D Γ False 0 0 nL σ' L (pc + 3) st1) : jW l b D Γ False 0 0 nL σ L pc st0 := j_callS B hM hY hlink hst hn (k_room hd hm) ⟨Nat.le_refl _, Nat.le_refl _⟩ hs0 hs1 hsum hdg kk
theorem k_callSN (B : jB l b D ta Γ own cc ret nL (rL d)) (hM : jC l b D ta False y cb mL ret' (rL d') as σ r σ') (hY : jY y cb mL ret' n) (hlink : Cond.methodLinkNest own index y host ∈ jNW) (hst : Cond.static y ∈ jWS) (hn : as.length = n) (hd : d' < d) (hm : mL ≤ 21) (hs0 : st0 = as.reverse ++ rest) (hs1 : r.toList ++ rest = st1) (hsum : (rest.map fun v => v.category).sum ≤ 8)
    (hdg : decode cc pc = .ok (.invokestatic index, 3)) (kk : jW l b D Γ False 0 0 nL σ' L (pc + 3) st1) : jW l b D Γ False 0 0 nL σ L pc st0 := j_callSN B hM hY hlink hst hn (k_room hd hm) ⟨Nat.le_refl _, Nat.le_refl _⟩ hs0 hs1 hsum hdg kk
theorem k_callV {C : String} {T : u_T} {N ci : Nat} {fs : List Value} (B : jB l b D ta Γ own cc ret nL (rL d)) (hM : jC l b D ta False y cb mL ret' (rL d') (.ref (b + q) :: as) σ r σ') (hY : jY y cb mL ret' n) (hlink : Cond.methodLink own index y ∈ jWS) (hin : Cond.instanceMethod y ∈ jWS) (hse : Cond.selects C y y ∈ jWS) (hcl : vwCl[ci]? = some (C, T, N)) (hq : σ[q]? = some (.inr (ci, fs))) (hn : as.length = n) (hd : d' < d) (hm : mL ≤ 21) (hs0 : st0 = as.reverse ++ .ref (b + q) :: rest) (hs1 : r.toList ++ rest = st1) (hsum : (rest.map fun v => v.category).sum ≤ 8)
    (hdg : decode cc pc = .ok (.invokevirtual index, 3)) (kk : jW l b D Γ False 0 0 nL σ' L (pc + 3) st1) : jW l b D Γ False 0 0 nL σ L pc st0 := j_callV B hM hY hlink hin hse hcl hq hn (k_room hd hm) ⟨Nat.le_refl _, Nat.le_refl _⟩ hs0 hs1 hsum hdg kk
theorem k_callVN {C : String} {T : u_T} {N ci : Nat} {fs : List Value} (B : jB l b D ta Γ own cc ret nL (rL d)) (hM : jC l b D ta False y cb mL ret' (rL d') (.ref (b + q) :: as) σ r σ') (hY : jY y cb mL ret' n) (hlink : Cond.methodLinkNest own index y host ∈ jNW) (hin : Cond.instanceMethod y ∈ jWS) (hse : Cond.selects C y y ∈ jWS) (hcl : vwCl[ci]? = some (C, T, N)) (hq : σ[q]? = some (.inr (ci, fs))) (hn : as.length = n) (hd : d' < d) (hm : mL ≤ 21) (hs0 : st0 = as.reverse ++ .ref (b + q) :: rest) (hs1 : r.toList ++ rest = st1) (hsum : (rest.map fun v => v.category).sum ≤ 8)
    (hdg : decode cc pc = .ok (.invokevirtual index, 3)) (kk : jW l b D Γ False 0 0 nL σ' L (pc + 3) st1) : jW l b D Γ False 0 0 nL σ L pc st0 := j_callVN B hM hY hlink hin hse hcl hq hn (k_room hd hm) ⟨Nat.le_refl _, Nat.le_refl _⟩ hs0 hs1 hsum hdg kk
/-- arraycopy of a whole prefix -/
theorem k_copy (B : jB l b D ta Γ own cc ret nL (rL d)) {q q1 t m : Nat} {f g f' : Nat → Int32} {ty : FieldType} {k : Int32} (hlink : Cond.methodLink own index arraycopyName ∈ jWS) (hnat : Cond.native arraycopyName ∈ jWS) (hstat : Cond.static arraycopyName ∈ jWS) (hini : Cond.initialized "java/lang/System" ∈ jWS)
    (ht : (jT ta)[t]? = some (ta t, ty)) (hprim : refKind ty = false) (hq : σ[q]? = some (.inl (ta t, m, .inl f))) (hq1 : σ[q1]? = some (.inl (ta t, m, .inl g))) (hk : ¬ k < 0 ∧ k.toNatClampNeg = m) (hfit : ∀ i, i < m → fits ty (.int (f i)) = true) (hd0 : 1 ≤ d) (hr : (rest.map fun v => v.category).sum ≤ 8) (hf : va_cpy f g 0 0 m = f') (hdg : decode cc pc = .ok (.invokestatic index, 3))
    (kk : jW l b D Γ False 0 0 nL (σ.set q1 (.inl (ta t, m, .inl f'))) L (pc + 3) rest) : jW l b D Γ False 0 0 nL σ L pc (.int k :: .int 0 :: .ref (b + q1) :: .int 0 :: .ref (b + q) :: rest) := by
  refine j_copyi B (fun h => h) hlink hnat hstat hini ht hprim hq hq1 (by decide) (by decide) hk.1 ?_ ?_ ?_ hd0 ?_ hdg ?_
  · show 0 + k.toNatClampNeg ≤ m; omega
  · show 0 + k.toNatClampNeg ≤ m; omega
  · intro i hi; rw [hk.2] at hi; show fits ty (.int (f (0 + i))) = true; rw [Nat.zero_add]; exact hfit i hi
  · have : nativeFrameWords "java/lang/System" "arraycopy" 5 + 11 ≤ 32 := by decide +kernel
    show _ ≤ 40 * d
    omega
  · rw [hk.2]
    show jW l b D Γ False 0 0 nL (σ.set q1 (.inl (ta t, m, .inl (va_cpy f g 0 0 m)))) L (pc + 3) rest
    rw [hf]
    exact kk
end KC
def inF (c r : Int32) : Bool := decide (¬ c < 0 ∧ ¬ 32 ≤ c ∧ ¬ r < 0 ∧ ¬ 24 ≤ r)
theorem inF_in {c r : Int32} (h : inF c r = true) : vp_in r 24 := by
  have h1 := of_decide_eq_true h
  have h2 := h1.2.2.1
  have h3 := h1.2.2.2
  rw [Int32.lt_iff_toInt_lt] at h2
  rw [Int32.le_iff_toInt_le] at h3
  refine vp_in_iff.mpr ⟨?_, ?_⟩
  · have : (0 : Int32).toInt = 0 := by decide
    omega
  · have : (24 : Int32).toInt = 24 := by decide
    omega
def tb (x c : Int32) : Bool := decide ((x.toUInt32 >>> (c.toUInt32 &&& Int32.toUInt32 31)).toInt32 &&& 1 = 1)
/-- the value of a cell -/
def fVal (F0 F1 F2 : Nat → Int32) (c r : Int32) : Int32 := if inF c r = true then (if tb (F0 r.toNatClampNeg) c = true then 1 else if tb (F1 r.toNatClampNeg) c = true then 2 else if tb (F2 r.toNatClampNeg) c = true then 3 else 0) else -1
/-- one of the three rows of bits behind a cell's setting -/
def pB (F : Nat → Int32) (c r v k : Int32) : Nat → Int32 := if inF c r = true then upd F r.toNatClampNeg (if v = k then F r.toNatClampNeg ||| (1 <<< (c &&& 31)) else F r.toNatClampNeg &&& ((1 <<< (c &&& 31)) ^^^ (-1))) else F
/-- an array's picture: nothing beyond its length -/
def Z24 (f : Nat → Int32) : Prop := ∀ k, 24 ≤ k → f k = 0
theorem z24 {f g : Nat → Int32} (hf : Z24 f) (hg : Z24 g) : va_cpy f g 0 0 24 = f := by
  funext k
  rcases Nat.lt_or_ge k 24 with h | h
  · rw [pk_cpy_in (Nat.zero_le _) (by omega)]; congr 1; omega
  · rw [pk_cpy_out (by omega), hf k h, hg k h]
