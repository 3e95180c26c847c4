
theorem PV_ite {p : Prop} [Decidable p] {A B : Bool × PT} (h1 : PV A.2) (h2 : PV B.2) : PV (if p then A else B).2 := by split <;> assumption
theorem obX_PV {ch : Int32} {P : PT} (h : PV P) : PV (obX ch P).2 := by
  obtain ⟨c, r, d, u, o, F0, F1, F2⟩ := P
  obtain ⟨h1, h2⟩ := h
  have h1 : d < 4 := h1
  have h2 : o ≤ 400 := h2
  have m1 : (d + 1) % 4 < 4 := Nat.mod_lt _ (by decide)
  have m3 : (d + 3) % 4 < 4 := Nat.mod_lt _ (by decide)
  simp only [obX]
  exact PV_ite (PV_ite ⟨h1, h2⟩ ⟨h1, h2⟩) (PV_ite (PV_ite ⟨h1, h2⟩ ⟨h1, h2⟩) (PV_ite ⟨m1, h2⟩ (PV_ite ⟨m3, h2⟩ (PV_ite ⟨h1, h2⟩ (PV_ite ⟨h1, h2⟩ (PV_ite ⟨h1, h2⟩ (PV_ite ⟨h1, h2⟩ (PV_ite (PV_ite ⟨h1, h2⟩ ⟨h1, h2⟩) ⟨h1, h2⟩))))))))
theorem pfO_PV {rec : (Nat → Int32) → Nat → Nat → Nat → PT → Bool × PT} (hPV : ∀ S N f t P, PV P → PV (rec S N f t P).2) {MS : Nat → Nat → Int32} {MN : Nat → Nat} {S : Nat → Int32} {N k e : Nat} {P : PT} (h : PV P) : PV (pfO rec MS MN S N k e P).2 := by
  obtain ⟨c, r, d, u, o, F0, F1, F2⟩ := P
  have h1 : d < 4 := h.1
  have h2 : o ≤ 400 := h.2
  by_cases ho : o < 400
  · have hv : PV (c, r, d, u, o + 1, F0, F1, F2) := ⟨h1, by show o + 1 ≤ 400; omega⟩
    simp only [pfO, if_pos ho]
    split
    · exact ⟨h1, (hPV _ _ _ _ _ hv).2⟩
    · split
      · split
        · exact hPV _ _ _ _ _ hv
        · exact hv
      · split
        · exact hPV _ _ _ _ _ hv
        · exact obX_PV hv
  · simp only [pfO, if_neg ho]; exact ⟨h1, h2⟩
theorem pfT_PV {one : PT → Bool × PT} (h1 : ∀ P, PV P → PV (one P).2) : ∀ n P, PV P → PV (pfT one n P).2 := by
  intro n
  induction n with
  | zero => intro P h; exact h
  | succ n ih =>
    intro P h
    unfold pfT
    split
    · exact ih _ (h1 P h)
    · exact h1 P h
theorem pfL_PV {rec : (Nat → Int32) → Nat → Nat → Nat → PT → Bool × PT} (hPV : ∀ S N f t P, PV P → PV (rec S N f t P).2) {MS : Nat → Nat → Int32} {MN : Nat → Nat} {S : Nat → Int32} {N to : Nat} : ∀ f k P, PV P → PV (pfL rec MS MN S N to f k P).2 := by
  intro f
  induction f with
  | zero => intro k P h; exact h
  | succ f ih =>
    intro k P h
    unfold pfL
    split
    · cases eoO (eoD S N 4 3) S N 4 (k + dgA S N k) with
      | none => exact h
      | some e =>
        dsimp only
        split
        · exact ih _ _ (pfT_PV (fun P h => pfO_PV hPV h) _ _ h)
        · exact pfT_PV (fun P h => pfO_PV hPV h) _ _ h
    · exact h
theorem pfD_PV {MS : Nat → Nat → Int32} {MN : Nat → Nat} : ∀ m S N f t P, PV P → PV (pfD MS MN m S N f t P).2 := by
  intro m
  induction m with
  | zero => intro S N f t P h; exact h
  | succ m ih => intro S N f t P h; exact pfL_PV ih _ _ _ h
/-! what it says that an order has an end -/
theorem eo_br {rec : Nat → Option Nat} {S : Nat → Int32} {N Lt k e : Nat} (h : eoO rec S N Lt k = some e) (hc : sg S N k = 40 ∨ sg S N k = 91) : 1 ≤ e ∧ k + 1 ≤ N := by
  have hk : k < N := sg_in (S := S) (fun q => by rcases hc with c | c <;> (rw [q] at c; exact absurd c (by decide)))
  refine ⟨?_, hk⟩
  have key : ∀ c, eoB rec S N (k + 1) c = some e → 1 ≤ e := by
    intro c hb
    unfold eoB at hb
    cases hr : rec (k + 1) with
    | none => rw [hr] at hb; cases hb
    | some z =>
      rw [hr] at hb
      by_cases hz : sg S N z = c
      · simp only [hz, if_true] at hb; cases hb; omega
      · simp only [hz, if_false] at hb; cases hb
  rcases hc with c | c
  · rw [eoO, if_pos c] at h; exact key _ h
  · rw [eoO, if_neg (by rw [c]; decide), if_pos c] at h; exact key _ h
theorem eo_mac {rec : Nat → Option Nat} {S : Nat → Int32} {N k e : Nat} (h : eoO rec S N 4 k = some e) (hc : sg S N k = 64) : ∃ j, j < 4 ∧ sg S N (k + 1) - 97 = nI j := by
  rw [eoO, if_neg (by rw [hc]; decide), if_neg (by rw [hc]; decide), if_pos hc] at h
  split at h
  · rename_i hq
    obtain ⟨j, hj, e1⟩ := nI_of hq.1
    refine ⟨j, ?_, e1⟩
    rcases Nat.lt_or_ge j 4 with q | q
    · exact q
    · exact absurd (by rw [e1]; exact nI_le q hj) hq.2
  · cases h
theorem eo_sing {rec : Nat → Option Nat} {S : Nat → Int32} {N Lt k e : Nat} (h : eoO rec S N Lt k = some e) (h1 : ¬ sg S N k = 40) (h2 : ¬ sg S N k = 64) (h3 : ¬ sg S N k = 91) : sing (sg S N k) = true := by
  rw [eoO, if_neg h1, if_neg h3, if_neg h2] at h
  split at h
  · assumption
  · cases h
theorem pfL_s {rec : (Nat → Int32) → Nat → Nat → Nat → PT → Bool × PT} {MS : Nat → Nat → Int32} {MN : Nat → Nat} {S : Nat → Int32} {N to f k : Nat} {P : PT} : pfL rec MS MN S N to (f + 1) k P = if k < to then (match eoO (eoD S N 4 3) S N 4 (k + dgA S N k) with
      | none => (false, P)
      | some e => if (pfT (pfO rec MS MN S N (k + dgA S N k) e) (tmN S N k) P).1 = true then pfL rec MS MN S N to f e (pfT (pfO rec MS MN S N (k + dgA S N k) e) (tmN S N k) P).2 else (false, (pfT (pfO rec MS MN S N (k + dgA S N k) e) (tmN S N k) P).2)) else (true, P) := rfl
theorem rI_ge {a : Option Nat} (h : 0 ≤ rI a) : ∃ k, a = some k := rI_pos (Int32.not_lt.mpr h)
theorem rI_lt {a : Option Nat} (ha : ∀ k, a = some k → k ≤ 60) (h : ¬ 0 ≤ rI a) : a = none := rI_neg ha (Int32.not_le.mp h)
