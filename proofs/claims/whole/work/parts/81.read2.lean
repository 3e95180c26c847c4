
/-! the macros that a text holds -/
section HM
variable {S : Nat → Int32} {N : Nat}
def Al (S : Nat → Int32) (N Lt k z : Nat) : Prop := ∀ i, k ≤ i → i < z → sg S N i = 64 → ¬ nI Lt ≤ sg S N (i + 1) - 97
theorem dgA_at {p i : Nat} (h : p ≤ i) (h2 : i < p + dgA S N p) : dg (sg S N i) = true := by
  unfold dgA at h2
  cases h0 : dg (sg S N p) with
  | false => rw [h0] at h2; exact absurd h2 (by simp; omega)
  | true =>
    rw [h0] at h2
    cases h1 : dg (sg S N (p + 1)) with
    | false =>
      rw [h1] at h2
      have : i = p := by simp at h2; omega
      subst this; exact h0
    | true =>
      rw [h1] at h2
      have : i = p ∨ i = p + 1 := by simp at h2; omega
      rcases this with q | q
      · subst q; exact h0
      · subst q; exact h1
theorem dg_64 {c : Int32} (h : dg c = true) : ¬ c = 64 := fun q => by rw [q] at h; exact absurd h (by decide)
theorem eo_Al {rec : Nat → Option Nat} {Lt : Nat} (hr : ∀ k e, rec k = some e → Al S N Lt k e) {k e : Nat} (h : eoO rec S N Lt k = some e) : Al S N Lt k e := by
  have key : ∀ c, ¬ c = 64 → ¬ sg S N k = 64 → eoB rec S N (k + 1) c = some e → Al S N Lt k e := by
    intro c hc h0 hb
    unfold eoB at hb
    cases hp : rec (k + 1) with
    | none => rw [hp] at hb; cases hb
    | some z =>
      rw [hp] at hb
      by_cases hz : sg S N z = c
      · simp only [hz, if_true] at hb
        cases hb
        intro i h1 h2 h64
        rcases Nat.lt_or_ge k i with q | q
        · rcases Nat.lt_or_ge i z with g | g
          · exact hr _ _ hp i (by omega) g h64
          · have e1 : i = z := by omega
            rw [e1, hz] at h64; exact absurd h64 hc
        · have e1 : i = k := by omega
          rw [e1] at h64; exact absurd h64 h0
      · simp only [hz, if_false] at hb; cases hb
  unfold eoO at h
  split at h
  · rename_i c1; exact key 41 (by decide) (by rw [c1]; decide) h
  · split at h
    · rename_i c2; exact key 93 (by decide) (by rw [c2]; decide) h
    · split at h
      · split at h
        · rename_i hq
          cases h
          intro i h1 h2 h64
          have e1 : i = k ∨ i = k + 1 := by omega
          rcases e1 with q | q
          · subst q; exact hq.2
          · subst q; rw [h64] at hq; exact absurd (by decide) hq.1
        · cases h
      · rename_i c3
        split at h
        · cases h
          intro i h1 h2 h64
          have e1 : i = k := by omega
          subst e1; exact absurd h64 c3
        · cases h
theorem eoS_Al {rec : Nat → Option Nat} {Lt : Nat} (hr : ∀ k e, rec k = some e → Al S N Lt k e) : ∀ n k e, eoS rec S N Lt n k = some e → Al S N Lt k e := by
  intro n
  induction n with
  | zero => intro k e h; cases h; intro i h1 h2; omega
  | succ n ih =>
    intro k e h
    rw [eoS_s] at h
    by_cases hc : k < N ∧ cl (sg S N k) = false
    · rw [if_pos hc] at h
      cases ho : eoO rec S N Lt (k + dgA S N k) with
      | none => rw [ho] at h; cases h
      | some z =>
        rw [ho] at h
        intro i h1 h2 h64
        rcases Nat.lt_or_ge i (k + dgA S N k) with q | q
        · exact absurd h64 (dg_64 (dgA_at h1 q))
        · rcases Nat.lt_or_ge i z with g | g
          · exact eo_Al hr ho i q g h64
          · exact ih z e h i g h2 h64
    · rw [if_neg hc] at h; cases h; intro i h1 h2; omega
theorem eoD_Al {Lt : Nat} : ∀ m k e, eoD S N Lt m k = some e → Al S N Lt k e := by
  intro m
  induction m with
  | zero => intro k e h; cases h
  | succ m ih => intro k e h; exact eoS_Al ih 60 k e h
theorem eo_La {rec rec2 : Nat → Option Nat} {Lt : Nat} (hg : ∀ k e, rec k = some e → k ≤ e) {k e : Nat} (hr : ∀ z, k < z → z < e → rec (k + 1) = some z → rec2 (k + 1) = some z) (hA : Al S N Lt k e) (h : eoO rec S N 4 k = some e) : eoO rec2 S N Lt k = some e := by
  have key : ∀ c, eoB rec S N (k + 1) c = some e → eoB rec2 S N (k + 1) c = some e := by
    intro c hb
    unfold eoB at hb ⊢
    cases hp : rec (k + 1) with
    | none => rw [hp] at hb; cases hb
    | some z =>
      rw [hp] at hb
      have hz1 := hg _ _ hp
      by_cases hz : sg S N z = c
      · simp only [hz, if_true] at hb
        cases hb
        rw [hr z (by omega) (by omega) hp]
        simp only [hz, if_true]
      · simp only [hz, if_false] at hb; cases hb
  unfold eoO at h ⊢
  split
  · rename_i c1; rw [if_pos c1] at h; exact key _ h
  · rename_i c1; rw [if_neg c1] at h
    split
    · rename_i c2; rw [if_pos c2] at h; exact key _ h
    · rename_i c2; rw [if_neg c2] at h
      split
      · rename_i c3; rw [if_pos c3] at h
        by_cases hq : ¬ sg S N (k + 1) - 97 < 0 ∧ ¬ nI 4 ≤ sg S N (k + 1) - 97
        · rw [if_pos hq] at h
          have e1 : k + 2 = e := Option.some.inj h
          rw [if_pos ⟨hq.1, hA k (Nat.le_refl _) (by omega) c3⟩]; exact h
        · rw [if_neg hq] at h; cases h
      · rename_i c3; rw [if_neg c3] at h; exact h
theorem eoS_La {rec rec2 : Nat → Option Nat} {Lt : Nat} (hg : ∀ k e, rec k = some e → k ≤ e) (hr : ∀ k z, Al S N Lt k z → rec k = some z → rec2 k = some z) : ∀ n k e, Al S N Lt k e → eoS rec S N 4 n k = some e → eoS rec2 S N Lt n k = some e := by
  intro n
  induction n with
  | zero => intro k e _ h; exact h
  | succ n ih =>
    intro k e hA h
    rw [eoS_s] at h ⊢
    by_cases hc : k < N ∧ cl (sg S N k) = false
    · rw [if_pos hc] at h ⊢
      cases ho : eoO rec S N 4 (k + dgA S N k) with
      | none => rw [ho] at h; cases h
      | some z =>
        rw [ho] at h
        have h1 := eoO_gt hg ho
        have h2 := eoS_ge hg _ _ _ h
        rw [eo_La (rec2 := rec2) (Lt := Lt) hg (fun z2 q1 q2 q3 => hr _ _ (fun i a c => hA i (by omega) (by omega)) q3) (fun i a c => hA i (by omega) (by omega)) ho]
        exact ih z e (fun i a c => hA i (by omega) c) h
    · rw [if_neg hc] at h ⊢; exact h
theorem eoD_La {Lt : Nat} : ∀ m k e, Al S N Lt k e → eoD S N 4 m k = some e → eoD S N Lt m k = some e := by
  intro m
  induction m with
  | zero => intro k e _ h; cases h
  | succ m ih => intro k e hA h; exact eoS_La (eoD_ge m) ih 60 k e hA h
theorem hm_or : ∀ h, h < 16 → ∀ j, j < 4 → nI h ||| (1 <<< (nI j &&& 31)) = nI (h ||| 2 ^ j) := by decide +kernel
theorem hm_sh : ∀ h, h < 16 → ∀ L, L < 4 → (nI h >>> (nI L &&& 31) = 0 ↔ h < 2 ^ L) := by decide +kernel
theorem hm_lt : ∀ h, h < 16 → ∀ j, j < 4 → h ||| 2 ^ j < 16 ∧ ∀ L, L < 4 → (h ||| 2 ^ j < 2 ^ L ↔ (h < 2 ^ L ∧ j < L)) := by decide +kernel
theorem hm_b : ∀ n, ∃ h, h < 16 ∧ hmF S N n = nI h ∧ ∀ L, L < 4 → (h < 2 ^ L ↔ ∀ i, i < n → sg S N i = 64 → ¬ sg S N (i + 1) - 97 < 0 → ¬ 4 ≤ sg S N (i + 1) - 97 → ¬ nI L ≤ sg S N (i + 1) - 97) := by
  intro n
  induction n with
  | zero => exact ⟨0, by decide, rfl, fun L hL => ⟨fun _ i hi => absurd hi (by omega), fun _ => Nat.two_pow_pos L⟩⟩
  | succ n ih =>
    obtain ⟨h, h1, h2, h3⟩ := ih
    rw [hmF]
    by_cases hc : sg S N n = 64 ∧ ¬ sg S N (n + 1) - 97 < 0 ∧ ¬ 4 ≤ sg S N (n + 1) - 97
    · rw [if_pos hc]
      obtain ⟨j, hj, e1⟩ := nI_of hc.2.1
      have hj4 : j < 4 := (Nat.lt_or_ge j 4).elim id (fun q => absurd (by rw [e1]; exact nI_le (a := 4) q hj) hc.2.2)
      have k := hm_lt h h1 j hj4
      refine ⟨h ||| 2 ^ j, k.1, by rw [h2, e1, hm_or h h1 j hj4], fun L hL => ?_⟩
      rw [k.2 L hL, h3 L hL]
      constructor
      · intro ⟨a, c⟩ i hi q1 q2 q3
        rcases Nat.lt_or_ge i n with g | g
        · exact a i g q1 q2 q3
        · have e2 : i = n := by omega
          subst e2
          rw [e1]; exact nI_ge c (by omega)
      · intro a
        refine ⟨fun i hi => a i (by omega), ?_⟩
        have := a n (by omega) hc.1 hc.2.1 hc.2.2
        rw [e1] at this
        exact (Nat.lt_or_ge j L).elim id (fun q => absurd (nI_le q hj) this)
    · rw [if_neg hc]
      refine ⟨h, h1, h2, fun L hL => ?_⟩
      rw [h3 L hL]
      constructor
      · intro a i hi q1 q2 q3
        rcases Nat.lt_or_ge i n with g | g
        · exact a i g q1 q2 q3
        · have e2 : i = n := by omega
          subst e2
          exact absurd ⟨q1, q2, q3⟩ hc
      · intro a i hi; exact a i (by omega)
/-- a line that can be a macro -/
theorem io_hm {L : Nat} (hL : L < 4) : ioF S N L = true ↔ (ioF S N 4 = true ∧ hmF S N N >>> (nI L &&& 31) = 0) := by
  obtain ⟨h, h1, h2, h3⟩ := hm_b (S := S) (N := N) N
  rw [h2, hm_sh h h1 L hL, h3 L hL]
  unfold ioF
  rw [decide_eq_true_iff, decide_eq_true_iff]
  constructor
  · intro k
    refine ⟨eoD_mono (by omega) 4 4 (Nat.le_refl _) 0 N k, fun i hi q1 q2 q3 => eoD_Al 4 0 N k i (by omega) hi q1⟩
  · intro ⟨k, a⟩
    refine eoD_La 4 0 N (fun i _ hi q1 => ?_) k
    have h4 := eoD_Al 4 0 N k i (by omega) hi q1
    by_cases q2 : sg S N (i + 1) - 97 < 0
    · intro q
      have hn : ¬ nI L < 0 := nI_pos (by omega)
      exact hn (Int32.lt_of_le_of_lt q q2)
    · exact a i hi q1 q2 h4
/-- a macro that is held has its bit -/
theorem hm_bit {k j : Nat} (hj : j < 4) (h64 : sg S N k = 64) (e : sg S N (k + 1) - 97 = nI j) : ∀ n, k < n → tbn (hmF S N n) j = true := by
  intro n
  induction n with
  | zero => intro h; omega
  | succ n ih =>
    intro h
    rw [hmF]
    rcases Nat.lt_or_ge k n with q | q
    · split
      · rw [tbn_or, ih q]; rfl
      · exact ih q
    · have e1 : k = n := by omega
      subst e1
      have c2 : ¬ nI j < 0 := nI_pos (by omega)
      have c3 : ¬ 4 ≤ nI j := nI_ge (b := 4) hj (by decide)
      rw [if_pos ⟨h64, by rw [e]; exact c2, by rw [e]; exact c3⟩, e, tbn_or, tbn_1 j (by omega) j (by omega)]
      simp
end HM
/-- the macros that are needed, closed -/
theorem mt_Q {th hm : Nat → Int32} : ∀ n, n ≤ 4 → ∀ nd, mtF th hm n nd = true → ∃ Q : Nat → Prop, (∀ j, j < n → tbn nd j = true → Q j) ∧ (∀ j, Q j → j < n ∧ ¬ th j = 0) ∧ (∀ j, Q j → ∀ i, i < j → tbn (hm j) i = true → Q i) := by
  intro n
  induction n with
  | zero => intro _ nd _; exact ⟨fun _ => False, fun j hj => absurd hj (by omega), fun j h => h.elim, fun j h => h.elim⟩
  | succ n ih =>
    intro hn nd h
    have hb : ((nd >>> (nI n &&& 31)) &&& 1 = 1) ↔ tbn nd n = true := by
      rw [bit1, tbn_shr (by omega)]
      cases tbn nd n <;> decide
    rw [mtF] at h
    by_cases h1 : (nd >>> (nI n &&& 31)) &&& 1 = 1
    · rw [if_pos h1] at h
      by_cases h2 : th n = 0
      · rw [if_pos h2] at h; exact absurd h Bool.false_ne_true
      · rw [if_neg h2] at h
        obtain ⟨Q, q1, q2, q3⟩ := ih (by omega) _ h
        refine ⟨fun j => Q j ∨ j = n, fun j hj hq => ?_, fun j hq => ?_, fun j hq i hi hb2 => ?_⟩
        · rcases Nat.lt_or_ge j n with g | g
          · exact Or.inl (q1 j g (by rw [tbn_or, hq]; rfl))
          · exact Or.inr (by omega)
        · rcases hq with g | g
          · exact ⟨by have := (q2 j g).1; omega, (q2 j g).2⟩
          · subst g; exact ⟨by omega, h2⟩
        · rcases hq with g | g
          · exact Or.inl (q3 j g i hi hb2)
          · subst g; exact Or.inl (q1 i hi (by rw [tbn_or, hb2, Bool.or_true]))
    · rw [if_neg h1] at h
      obtain ⟨Q, q1, q2, q3⟩ := ih (by omega) _ h
      refine ⟨Q, fun j hj hq => ?_, fun j hq => ⟨by have := (q2 j hq).1; omega, (q2 j hq).2⟩, q3⟩
      rcases Nat.lt_or_ge j n with g | g
      · exact q1 j g hq
      · have e1 : j = n := by omega
        subst e1
        exact absurd (hb.mpr hq) h1
