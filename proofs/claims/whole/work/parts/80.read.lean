
/-! reading a text: class and reference -/
section RD
variable {S : Nat → Int32} {N : Nat}
theorem lt_4 {x : Int32} : 3 < x ↔ nI 4 ≤ x := by
  rw [i_lt, i_le, show (3 : Int32).toInt = 3 from by decide, show (nI 4).toInt = 4 from by decide]
  omega
theorem dg3_A {p : Nat} (h : ¬ 2 < dg3 S N p) : dg3 S N p = dgA S N p := by
  unfold dg3 at h ⊢
  unfold dgA
  cases h0 : dg (sg S N p) with
  | false => rfl
  | true =>
    rw [h0] at h
    cases h1 : dg (sg S N (p + 1)) with
    | false => rfl
    | true =>
      rw [h1] at h
      cases h2 : dg (sg S N (p + 1 + 1)) with
      | false => rfl
      | true => rw [h2] at h; exact absurd (by decide) h
theorem dgA_3 {p : Nat} (h : dg (sg S N (p + dgA S N p)) = false) : dg3 S N p = dgA S N p := by
  unfold dgA at h ⊢
  unfold dg3
  cases h0 : dg (sg S N p) with
  | false => rfl
  | true =>
    rw [h0] at h
    cases h1 : dg (sg S N (p + 1)) with
    | false => rfl
    | true =>
      rw [h1] at h
      have h : dg (sg S N (p + 1 + 1)) = false := h
      rw [h]; rfl
theorem opn_c {c : Int32} (h : opn c = true) : c = 40 ∨ c = 91 := of_decide_eq_true h
theorem cls_c {c : Int32} (h : cls c = true) : c = 41 ∨ c = 93 := of_decide_eq_true h
theorem opn_in {k : Nat} (h : opn (sg S N k) = true) : k < N := sg_in (fun q => by rw [q] at h; exact absurd h (by decide))
theorem cls_in {k : Nat} (h : cls (sg S N k) = true) : k < N := sg_in (fun q => by rw [q] at h; exact absurd h (by decide))
theorem sng_in {k : Nat} (h : sing (sg S N k) = true) : k < N := sg_in (fun q => by rw [q] at h; exact absurd h (by decide))
theorem ltr_in {k : Nat} (h : ¬ sg S N k - 97 < 0) : k < N := sg_in (fun q => by rw [q] at h; exact absurd (by decide) h)
/-- enough is enough -/
theorem rdS_s {f p d o : Nat} {u : Int32} : rdS S N (f + 1) p d o u = if p < N then
      (if 2 < dg3 S N p then (false, u)
       else if opn (sg S N (p + dg3 S N p)) = true then (if d = 3 then (false, u) else rdS S N f (p + dg3 S N p + 1) (d + 1) (2 * o + (if sg S N (p + dg3 S N p) = 40 then 0 else 1)) u)
       else if cls (sg S N (p + dg3 S N p)) = true then (if 0 < dg3 S N p ∨ d = 0 ∨ ¬ o % 2 = (if sg S N (p + dg3 S N p) = 41 then 0 else 1) then (false, u) else rdS S N f (p + dg3 S N p + 1) (d - 1) (o / 2) u)
       else if sg S N (p + dg3 S N p) = 64 then (if sg S N (p + dg3 S N p + 1) - 97 < 0 ∨ ¬ sg S N (p + dg3 S N p + 1) - 97 ≤ 3 then (false, u) else rdS S N f (p + dg3 S N p + 1 + 1) d o (u ||| (1 <<< ((sg S N (p + dg3 S N p + 1) - 97) &&& 31))))
       else if sing (sg S N (p + dg3 S N p)) = true then rdS S N f (p + dg3 S N p + 1) d o u else (false, u))
    else (decide (d = 0), u) := rfl
theorem rdS_f : ∀ n p d o u, p ≤ N → N < p + n → rdS S N (n + 1) p d o u = rdS S N n p d o u := by
  intro n
  induction n with
  | zero =>
    intro p d o u h0 h
    omega
  | succ n ih =>
    intro p d o u h0 h
    rw [rdS_s (f := n + 1), rdS_s (f := n) (p := p) (d := d) (o := o) (u := u)]
    by_cases hp : p < N
    · rw [if_pos hp, if_pos hp]
      by_cases h2 : 2 < dg3 S N p
      · rw [if_pos h2, if_pos h2]
      · rw [if_neg h2, if_neg h2]
        by_cases ho : opn (sg S N (p + dg3 S N p)) = true
        · have := opn_in ho
          rw [if_pos ho, if_pos ho, ih _ _ _ _ (by omega) (by omega)]
        · rw [if_neg ho, if_neg ho]
          by_cases hc : cls (sg S N (p + dg3 S N p)) = true
          · have := cls_in hc
            rw [if_pos hc, if_pos hc, ih _ _ _ _ (by omega) (by omega)]
          · rw [if_neg hc, if_neg hc]
            by_cases h64 : sg S N (p + dg3 S N p) = 64
            · rw [if_pos h64, if_pos h64]
              by_cases h3 : sg S N (p + dg3 S N p + 1) - 97 < 0 ∨ ¬ sg S N (p + dg3 S N p + 1) - 97 ≤ 3
              · rw [if_pos h3, if_pos h3]
              · have hl : ¬ sg S N (p + dg3 S N p + 1) - 97 < 0 := fun q => h3 (Or.inl q)
                have := ltr_in hl
                rw [if_neg h3, if_neg h3, ih _ _ _ _ (by omega) (by omega)]
            · rw [if_neg h64, if_neg h64]
              by_cases hs : sing (sg S N (p + dg3 S N p)) = true
              · have := sng_in hs
                rw [if_pos hs, if_pos hs, ih _ _ _ _ (by omega) (by omega)]
              · rw [if_neg hs, if_neg hs]
    · rw [if_neg hp, if_neg hp]
theorem rdS_g {n n2 p d o : Nat} {u : Int32} (h0 : p ≤ N) (h : N < p + n) (h2 : n ≤ n2) : rdS S N n2 p d o u = rdS S N n p d o u := by
  obtain ⟨m, rfl⟩ : ∃ m, n2 = n + m := ⟨n2 - n, by omega⟩
  clear h2
  induction m with
  | zero => rfl
  | succ m ih => rw [← ih]; exact rdS_f (n + m) p d o u h0 (by omega)
theorem eoS_f {rec : Nat → Option Nat} {Lt : Nat} (hr : ∀ k e, rec k = some e → k ≤ e) : ∀ n k, N ≤ k + n → eoS rec S N Lt (n + 1) k = eoS rec S N Lt n k := by
  intro n
  induction n with
  | zero =>
    intro k h
    rw [eoS_s, if_neg (fun q => absurd q.1 (by omega))]
    rfl
  | succ n ih =>
    intro k h
    rw [eoS_s, eoS_s (f := n)]
    by_cases hc : k < N ∧ cl (sg S N k) = false
    · rw [if_pos hc, if_pos hc]
      cases ho : eoO rec S N Lt (k + dgA S N k) with
      | none => rfl
      | some e => have := eoO_gt hr ho; exact ih e (by omega)
    · rw [if_neg hc, if_neg hc]
theorem eoS_fu {rec : Nat → Option Nat} {Lt : Nat} (hr : ∀ k e, rec k = some e → k ≤ e) {n k : Nat} (h : N ≤ k + n) : ∀ m, eoS rec S N Lt (n + m) k = eoS rec S N Lt n k := by
  intro m
  induction m with
  | zero => rfl
  | succ m ih => rw [← ih]; exact eoS_f hr (n + m) k (by omega)
/-- the reading, with fuel enough -/
def rdR (S : Nat → Int32) (N p d o : Nat) (u : Int32) : Bool × Int32 := rdS S N (N + 1) p d o u
theorem rdR_s {p d o : Nat} {u : Int32} : rdR S N p d o u = if p < N then
      (if 2 < dg3 S N p then (false, u)
       else if opn (sg S N (p + dg3 S N p)) = true then (if d = 3 then (false, u) else rdR S N (p + dg3 S N p + 1) (d + 1) (2 * o + (if sg S N (p + dg3 S N p) = 40 then 0 else 1)) u)
       else if cls (sg S N (p + dg3 S N p)) = true then (if 0 < dg3 S N p ∨ d = 0 ∨ ¬ o % 2 = (if sg S N (p + dg3 S N p) = 41 then 0 else 1) then (false, u) else rdR S N (p + dg3 S N p + 1) (d - 1) (o / 2) u)
       else if sg S N (p + dg3 S N p) = 64 then (if sg S N (p + dg3 S N p + 1) - 97 < 0 ∨ ¬ sg S N (p + dg3 S N p + 1) - 97 ≤ 3 then (false, u) else rdR S N (p + dg3 S N p + 1 + 1) d o (u ||| (1 <<< ((sg S N (p + dg3 S N p + 1) - 97) &&& 31))))
       else if sing (sg S N (p + dg3 S N p)) = true then rdR S N (p + dg3 S N p + 1) d o u else (false, u))
    else (decide (d = 0), u) := by
  have k : ∀ q d o u, p < q → q ≤ N → rdS S N N q d o u = rdR S N q d o u := fun q d o u h h0 => (rdS_f N q d o u h0 (by omega)).symm
  rw [show rdR S N p d o u = rdS S N (N + 1) p d o u from rfl, rdS_s]
  by_cases hp : p < N
  · rw [if_pos hp, if_pos hp]
    by_cases h2 : 2 < dg3 S N p
    · rw [if_pos h2, if_pos h2]
    · rw [if_neg h2, if_neg h2]
      by_cases ho : opn (sg S N (p + dg3 S N p)) = true
      · have := opn_in ho
        rw [if_pos ho, if_pos ho, k _ _ _ _ (by omega) (by omega)]
      · rw [if_neg ho, if_neg ho]
        by_cases hc : cls (sg S N (p + dg3 S N p)) = true
        · have := cls_in hc
          rw [if_pos hc, if_pos hc, k _ _ _ _ (by omega) (by omega)]
        · rw [if_neg hc, if_neg hc]
          by_cases h64 : sg S N (p + dg3 S N p) = 64
          · rw [if_pos h64, if_pos h64]
            by_cases h3 : sg S N (p + dg3 S N p + 1) - 97 < 0 ∨ ¬ sg S N (p + dg3 S N p + 1) - 97 ≤ 3
            · rw [if_pos h3, if_pos h3]
            · have hl : ¬ sg S N (p + dg3 S N p + 1) - 97 < 0 := fun q => h3 (Or.inl q)
              have := ltr_in hl
              rw [if_neg h3, if_neg h3, k _ _ _ _ (by omega) (by omega)]
          · rw [if_neg h64, if_neg h64]
            by_cases hs : sing (sg S N (p + dg3 S N p)) = true
            · have := sng_in hs
              rw [if_pos hs, if_pos hs, k _ _ _ _ (by omega) (by omega)]
            · rw [if_neg hs, if_neg hs]
  · rw [if_neg hp, if_neg hp]
theorem rdF_R (hN : N ≤ 60) : rdF S N = rdR S N 0 0 0 0 := rdS_g (n := N + 1) (n2 := 61) (by omega) (by omega) (by omega)
/-- the macros held so far -/
theorem hmF_no {n : Nat} (h : ¬ sg S N n = 64) : hmF S N (n + 1) = hmF S N n := by rw [hmF, if_neg (fun q => h q.1)]
theorem hmF_dg {p : Nat} : ∀ g, g ≤ dgA S N p → hmF S N (p + g) = hmF S N p := by
  intro g
  induction g with
  | zero => intro _; rfl
  | succ g ih =>
    intro h
    have hd : dg (sg S N (p + g)) = true := by
      unfold dgA at h
      cases h0 : dg (sg S N p) with
      | false => rw [h0] at h; exact absurd h (by simp)
      | true =>
        rw [h0] at h
        cases h1 : dg (sg S N (p + 1)) with
        | false =>
          rw [h1] at h
          have : g = 0 := by simp at h; omega
          subst this; exact h0
        | true =>
          rw [h1] at h
          have : g = 0 ∨ g = 1 := by simp at h; omega
          rcases this with q | q
          · subst q; exact h0
          · subst q; exact h1
    rw [← ih (by omega)]
    exact hmF_no (n := p + g) (fun q => by rw [q] at hd; exact absurd hd (by decide))
theorem rd_hm (hN : N ≤ 60) : ∀ n p d o, N - p ≤ n → p ≤ N → (rdR S N p d o (hmF S N p)).1 = true → (rdR S N p d o (hmF S N p)).2 = hmF S N N := by
  intro n
  induction n with
  | zero =>
    intro p d o h hp ht
    have e : p = N := by omega
    subst e
    rw [rdR_s, if_neg (Nat.lt_irrefl _)]
  | succ n ih =>
    intro p d o h hp ht
    rw [rdR_s] at ht ⊢
    by_cases hpN : p < N
    · rw [if_pos hpN] at ht ⊢
      by_cases h2 : 2 < dg3 S N p
      · rw [if_pos h2] at ht; exact absurd ht Bool.false_ne_true
      · rw [if_neg h2] at ht ⊢
        have e3 := dg3_A h2
        rw [e3] at ht ⊢
        have hm0 : hmF S N (p + dgA S N p) = hmF S N p := hmF_dg _ (Nat.le_refl _)
        have hle := dgA_le S N p
        by_cases ho : opn (sg S N (p + dgA S N p)) = true
        · rw [if_pos ho] at ht ⊢
          by_cases h3 : d = 3
          · rw [if_pos h3] at ht; exact absurd ht Bool.false_ne_true
          · rw [if_neg h3] at ht ⊢
            have hi := opn_in ho
            have hm1 : hmF S N (p + dgA S N p + 1) = hmF S N p := by rw [hmF_no (fun q => by rw [q] at ho; exact absurd ho (by decide)), hm0]
            rw [← hm1] at ht ⊢
            exact ih _ _ _ (by omega) (by omega) ht
        · rw [if_neg ho] at ht ⊢
          by_cases hc : cls (sg S N (p + dgA S N p)) = true
          · rw [if_pos hc] at ht ⊢
            by_cases h3 : 0 < dgA S N p ∨ d = 0 ∨ ¬ o % 2 = (if sg S N (p + dgA S N p) = 41 then 0 else 1)
            · rw [if_pos h3] at ht; exact absurd ht Bool.false_ne_true
            · rw [if_neg h3] at ht ⊢
              have hi := cls_in hc
              have hm1 : hmF S N (p + dgA S N p + 1) = hmF S N p := by rw [hmF_no (fun q => by rw [q] at hc; exact absurd hc (by decide)), hm0]
              rw [← hm1] at ht ⊢
              exact ih _ _ _ (by omega) (by omega) ht
          · rw [if_neg hc] at ht ⊢
            by_cases h64 : sg S N (p + dgA S N p) = 64
            · rw [if_pos h64] at ht ⊢
              by_cases h3 : sg S N (p + dgA S N p + 1) - 97 < 0 ∨ ¬ sg S N (p + dgA S N p + 1) - 97 ≤ 3
              · rw [if_pos h3] at ht; exact absurd ht Bool.false_ne_true
              · rw [if_neg h3] at ht ⊢
                have hl : ¬ sg S N (p + dgA S N p + 1) - 97 < 0 := fun q => h3 (Or.inl q)
                have hl3 : sg S N (p + dgA S N p + 1) - 97 ≤ 3 := Decidable.not_not.mp (fun q => h3 (Or.inr q))
                have hl4 : ¬ 4 ≤ sg S N (p + dgA S N p + 1) - 97 := fun q => absurd (Int32.le_trans q hl3) (by decide)
                have hi := ltr_in hl
                have hm1 : hmF S N (p + dgA S N p + 1) = hmF S N p ||| (1 <<< ((sg S N (p + dgA S N p + 1) - 97) &&& 31)) := by rw [hmF, if_pos ⟨h64, hl, hl4⟩, hm0]
                have hm2 : hmF S N (p + dgA S N p + 1 + 1) = hmF S N p ||| (1 <<< ((sg S N (p + dgA S N p + 1) - 97) &&& 31)) := by rw [hmF_no (fun q => by rw [q] at hl; exact absurd (by decide) hl), hm1]
                rw [← hm2] at ht ⊢
                exact ih _ _ _ (by omega) (by omega) ht
            · rw [if_neg h64] at ht ⊢
              by_cases hs : sing (sg S N (p + dgA S N p)) = true
              · rw [if_pos hs] at ht ⊢
                have hi := sng_in hs
                have hm1 : hmF S N (p + dgA S N p + 1) = hmF S N p := by rw [hmF_no h64, hm0]
                rw [← hm1] at ht ⊢
                exact ih _ _ _ (by omega) (by omega) ht
              · rw [if_neg hs] at ht; exact absurd ht Bool.false_ne_true
    · have e : p = N := by omega
      subst e
      rw [if_neg hpN]
/-- what is read does not hang on what is held so far -/
theorem rd_u : ∀ n p d o u u2, (rdS S N n p d o u).1 = (rdS S N n p d o u2).1 := by
  intro n
  induction n with
  | zero => intro p d o u u2; rfl
  | succ n ih =>
    intro p d o u u2
    rw [rdS, rdS]
    by_cases h1 : p < N
    · rw [if_pos h1, if_pos h1]
      by_cases h2 : 2 < dg3 S N p
      · rw [if_pos h2, if_pos h2]
      · rw [if_neg h2, if_neg h2]
        by_cases h3 : opn (sg S N (p + dg3 S N p)) = true
        · rw [if_pos h3, if_pos h3]
          by_cases h4 : d = 3
          · rw [if_pos h4, if_pos h4]
          · rw [if_neg h4, if_neg h4]; exact ih _ _ _ _ _
        · rw [if_neg h3, if_neg h3]
          by_cases h4 : cls (sg S N (p + dg3 S N p)) = true
          · rw [if_pos h4, if_pos h4]
            by_cases h5 : 0 < dg3 S N p ∨ d = 0 ∨ ¬ o % 2 = (if sg S N (p + dg3 S N p) = 41 then 0 else 1)
            · rw [if_pos h5, if_pos h5]
            · rw [if_neg h5, if_neg h5]; exact ih _ _ _ _ _
          · rw [if_neg h4, if_neg h4]
            by_cases h5 : sg S N (p + dg3 S N p) = 64
            · rw [if_pos h5, if_pos h5]
              by_cases h6 : sg S N (p + dg3 S N p + 1) - 97 < 0 ∨ ¬ sg S N (p + dg3 S N p + 1) - 97 ≤ 3
              · rw [if_pos h6, if_pos h6]
              · rw [if_neg h6, if_neg h6]; exact ih _ _ _ _ _
            · rw [if_neg h5, if_neg h5]
              by_cases h6 : sing (sg S N (p + dg3 S N p)) = true
              · rw [if_pos h6, if_pos h6]; exact ih _ _ _ _ _
              · rw [if_neg h6, if_neg h6]
    · rw [if_neg h1, if_neg h1]
def rdB (S : Nat → Int32) (N p d o : Nat) : Bool := (rdR S N p d o 0).1
theorem rdB_u {p d o : Nat} {u : Int32} : (rdR S N p d o u).1 = rdB S N p d o := rd_u _ _ _ _ _ _
/-- the closing sign that is due -/
def clo (o : Nat) : Int32 := if o % 2 = 0 then 41 else 93
/-- a stretch, with fuel enough -/
def eoE (S : Nat → Int32) (N m p : Nat) : Option Nat := eoS (eoD S N 4 m) S N 4 60 p
theorem eoE_s {m p : Nat} (hN : N ≤ 60) : eoE S N m p = if p < N ∧ cl (sg S N p) = false then (match eoO (eoD S N 4 m) S N 4 (p + dgA S N p) with
    | none => none
    | some e => eoE S N m e) else some p := by
  unfold eoE
  rw [show (60 : Nat) = 59 + 1 from rfl, eoS_s]
  by_cases hc : p < N ∧ cl (sg S N p) = false
  · rw [if_pos hc, if_pos hc]
    cases ho : eoO (eoD S N 4 m) S N 4 (p + dgA S N p) with
    | none => rfl
    | some e => have := eoO_gt (eoD_ge m) ho; exact (eoS_f (eoD_ge m) 59 e (by omega)).symm
  · rw [if_neg hc, if_neg hc]
def rdP (S : Nat → Int32) (N p d o : Nat) : Prop := ∃ z, eoE S N (3 - d) p = some z ∧ (d = 0 → z = N) ∧ (0 < d → sg S N z = clo o ∧ rdB S N (z + 1) (d - 1) (o / 2) = true)
theorem rdP_none {p d o : Nat} (h : eoE S N (3 - d) p = none) : ¬ rdP S N p d o := by
  intro ⟨z, hz, _⟩; rw [h] at hz; cases hz
theorem rdP_e {p q d o : Nat} (h : eoE S N (3 - d) p = eoE S N (3 - d) q) : rdP S N p d o ↔ rdP S N q d o := by unfold rdP; rw [h]
theorem cls_dg {c : Int32} (h : cls c = true) : dg c = false ∧ opn c = false := by
  rcases cls_c h with q | q <;> (subst q; decide)
theorem opn_cl {c : Int32} (h : opn c = true) : cls c = false ∧ dg c = false := by
  rcases opn_c h with q | q <;> (subst q; decide)
theorem clo_o {c : Int32} {o : Nat} (h : opn c = true) : clo (2 * o + (if c = 40 then 0 else 1)) = (if c = 40 then 41 else 93) ∧ (2 * o + (if c = 40 then 0 else 1)) / 2 = o := by
  unfold clo
  by_cases q : c = 40
  · rw [if_pos q, if_pos q]
    exact ⟨if_pos (by omega), by omega⟩
  · rw [if_neg q, if_neg q]
    exact ⟨if_neg (by omega), by omega⟩
theorem clo_c {c : Int32} {o : Nat} (h : cls c = true) : o % 2 = (if c = 41 then 0 else 1) ↔ c = clo o := by
  unfold clo
  rcases cls_c h with q | q
  · subst q
    by_cases g : o % 2 = 0
    · rw [g]; exact ⟨fun _ => rfl, fun _ => rfl⟩
    · rw [if_neg g]; exact ⟨fun k => absurd k g, fun k => absurd k (by decide)⟩
  · subst q
    by_cases g : o % 2 = 0
    · rw [if_pos g, g]; exact ⟨fun k => absurd k (by decide), fun k => absurd k (by decide)⟩
    · rw [if_neg g]; exact ⟨fun _ => rfl, fun _ => by show o % 2 = 1; omega⟩
theorem eoO_none {rec : Nat → Option Nat} {Lt k : Nat} (h1 : opn (sg S N k) = false) (h2 : ¬ sg S N k = 64) (h3 : ¬ sing (sg S N k) = true) : eoO rec S N Lt k = none := by
  have n := of_decide_eq_false h1
  rw [eoO, if_neg (fun q => n (Or.inl q)), if_neg (fun q => n (Or.inr q)), if_neg h2, if_neg h3]
theorem dg_sing {c : Int32} (h : dg c = true) : opn c = false ∧ ¬ c = 64 ∧ ¬ sing c = true := by
  refine ⟨(dg_no h).1, fun q => ?_, fun q => ?_⟩
  · rw [q] at h; exact absurd h (by decide)
  · rw [(sing_no q).1] at h; exact Bool.false_ne_true h
theorem eoO_open {m k : Nat} (ho : opn (sg S N k) = true) : eoO (eoD S N 4 (m + 1)) S N 4 k = (match eoE S N m (k + 1) with
    | none => none
    | some z => if sg S N z = (if sg S N k = 40 then 41 else 93) then some (z + 1) else none) := by
  unfold eoO
  by_cases c : sg S N k = 40
  · rw [if_pos c, if_pos c]; rfl
  · have c2 : sg S N k = 91 := (opn_c ho).elim (fun q => absurd q c) id
    rw [if_neg c, if_pos c2, if_neg c]; rfl
theorem eoO_open0 {k : Nat} (ho : opn (sg S N k) = true) : eoO (eoD S N 4 0) S N 4 k = none := by
  unfold eoO
  by_cases c : sg S N k = 40
  · rw [if_pos c]; rfl
  · have c2 : sg S N k = 91 := (opn_c ho).elim (fun q => absurd q c) id
    rw [if_neg c, if_pos c2]; rfl
theorem rd_iff (hN : N ≤ 60) : ∀ n p d o, N - p ≤ n → p ≤ N → d ≤ 3 → (rdB S N p d o = true ↔ rdP S N p d o) := by
  intro n
  induction n with
  | zero =>
    intro p d o h hp hd
    have e : p = N := by omega
    subst e
    unfold rdB
    rw [rdR_s, if_neg (Nat.lt_irrefl _)]
    unfold rdP
    rw [eoE_s hN, if_neg (fun q => absurd q.1 (Nat.lt_irrefl _))]
    rcases Nat.eq_zero_or_pos d with q | q
    · subst q
      exact ⟨fun _ => ⟨p, rfl, fun _ => rfl, fun g => absurd g (by omega)⟩, fun _ => rfl⟩
    · refine ⟨fun k => absurd (of_decide_eq_true k) (by omega), fun ⟨z, hz, _, k2⟩ => ?_⟩
      cases hz
      have k3 := (k2 q).1
      rw [show sg S p p = 0 from if_neg (Nat.lt_irrefl _)] at k3
      unfold clo at k3
      split at k3 <;> exact absurd k3 (by decide)
  | succ n ih =>
    intro p d o h hp hd
    by_cases hpN : p < N
    · unfold rdB
      rw [rdR_s, if_pos hpN]
      cases hcl : cls (sg S N p) with
      | true =>
        have hdg := cls_dg hcl
        have h3 : dg3 S N p = 0 := by unfold dg3; rw [hdg.1]; rfl
        rw [h3, if_neg (by omega), Nat.add_zero, if_neg (bF hdg.2), if_pos hcl]
        unfold rdP
        rw [eoE_s hN, if_neg (c := p < N ∧ cl (sg S N p) = false) (fun q => by have := q.2; rw [show cl (sg S N p) = cls (sg S N p) from rfl, hcl] at this; exact Bool.noConfusion this)]
        by_cases h5 : 0 < 0 ∨ d = 0 ∨ ¬ o % 2 = (if sg S N p = 41 then 0 else 1)
        · rw [if_pos h5]
          refine ⟨fun k => absurd k Bool.false_ne_true, fun ⟨z, hz, k1, k2⟩ => ?_⟩
          cases hz
          exfalso
          rcases h5 with q | q | q
          · omega
          · have := k1 q; omega
          · rcases Nat.eq_zero_or_pos d with g | g
            · have := k1 g; omega
            · exact q ((clo_c hcl).mpr (k2 g).1)
        · rw [if_neg h5]
          have hd0 : ¬ d = 0 := fun q => h5 (Or.inr (Or.inl q))
          have hoo : o % 2 = (if sg S N p = 41 then 0 else 1) := Decidable.not_not.mp (fun q => h5 (Or.inr (Or.inr q)))
          refine ⟨fun k => ⟨p, rfl, fun q => absurd q hd0, fun _ => ⟨(clo_c hcl).mp hoo, k⟩⟩, fun ⟨z, hz, k1, k2⟩ => ?_⟩
          cases hz
          exact (k2 (by omega)).2
      | false =>
        have hE : eoE S N (3 - d) p = (match eoO (eoD S N 4 (3 - d)) S N 4 (p + dgA S N p) with
            | none => none
            | some e => eoE S N (3 - d) e) := by rw [eoE_s hN, if_pos ⟨hpN, hcl⟩]
        have hle := dgA_le S N p
        by_cases h2 : 2 < dg3 S N p
        · rw [if_pos h2]
          have hd3 : dg (sg S N (p + dgA S N p)) = true := by
            cases q : dg (sg S N (p + dgA S N p)) with
            | true => rfl
            | false => rw [dgA_3 q] at h2; omega
          have hs := dg_sing hd3
          rw [eoO_none hs.1 hs.2.1 hs.2.2] at hE
          exact ⟨fun k => absurd k Bool.false_ne_true, fun k => absurd k (rdP_none hE)⟩
        · rw [if_neg h2, dg3_A h2]
          by_cases ho : opn (sg S N (p + dgA S N p)) = true
          · rw [if_pos ho]
            by_cases h3 : d = 3
            · rw [if_pos h3]
              subst h3
              rw [show 3 - 3 = 0 from rfl, eoO_open0 ho] at hE
              exact ⟨fun k => absurd k Bool.false_ne_true, fun k => absurd k (rdP_none hE)⟩
            · rw [if_neg h3]
              have hi := opn_in ho
              have i1 := ih (p + dgA S N p + 1) (d + 1) (2 * o + (if sg S N (p + dgA S N p) = 40 then 0 else 1)) (by omega) (by omega) (by omega)
              rw [rdB_u]
              rw [i1]
              obtain ⟨m, hm⟩ : ∃ m, 3 - d = m + 1 := ⟨2 - d, by omega⟩
              have hm2 : 3 - (d + 1) = m := by omega
              rw [hm, eoO_open ho] at hE
              unfold rdP
              rw [hm, hm2, (clo_o ho).1, (clo_o ho).2]
              cases hz1 : eoE S N m (p + dgA S N p + 1) with
              | none =>
                rw [hz1] at hE
                dsimp only at hE
                rw [hE]
                exact ⟨fun ⟨z, k, _⟩ => (by cases k), fun ⟨z, k, _⟩ => (by cases k)⟩
              | some z1 =>
                rw [hz1] at hE
                dsimp only at hE
                by_cases hc : sg S N z1 = (if sg S N (p + dgA S N p) = 40 then 41 else 93)
                · rw [if_pos hc] at hE
                  dsimp only at hE
                  have hz1N : z1 < N := sg_in (by rw [hc]; split <;> decide)
                  have hz1p := eoS_ge (eoD_ge m) _ _ _ hz1
                  have i2 := ih (z1 + 1) d o (by omega) (by omega) hd
                  unfold rdP at i2
                  rw [hm] at i2
                  rw [hE, ← i2]
                  refine ⟨fun ⟨z, k1, _, k3⟩ => ?_, fun k => ⟨z1, rfl, fun q => absurd q (by omega), fun _ => ⟨hc, k⟩⟩⟩
                  cases k1
                  exact (k3 (by omega)).2
                · rw [if_neg hc] at hE
                  dsimp only at hE
                  rw [hE]
                  refine ⟨fun ⟨z, k1, _, k3⟩ => ?_, fun ⟨z, k, _⟩ => by cases k⟩
                  cases k1
                  exact absurd (k3 (by omega)).1 hc
          · rw [if_neg ho]
            have ho := eq_false_of_ne_true ho
            by_cases hc : cls (sg S N (p + dgA S N p)) = true
            · rw [if_pos hc]
              have hg : 0 < dgA S N p := by
                rcases Nat.eq_zero_or_pos (dgA S N p) with q | q
                · rw [q, Nat.add_zero, hcl] at hc; exact absurd hc Bool.false_ne_true
                · exact q
              rw [if_pos (Or.inl hg)]
              have h64 : ¬ sg S N (p + dgA S N p) = 64 := fun q => by rw [q] at hc; exact absurd hc (by decide)
              have hs : ¬ sing (sg S N (p + dgA S N p)) = true := fun q => by rw [(sing_no q).2.2.1] at hc; exact Bool.false_ne_true hc
              rw [eoO_none ho h64 hs] at hE
              exact ⟨fun k => absurd k Bool.false_ne_true, fun k => absurd k (rdP_none hE)⟩
            · rw [if_neg hc]
              have n := of_decide_eq_false ho
              by_cases h64 : sg S N (p + dgA S N p) = 64
              · rw [if_pos h64]
                have hO : eoO (eoD S N 4 (3 - d)) S N 4 (p + dgA S N p) = if ¬ sg S N (p + dgA S N p + 1) - 97 < 0 ∧ ¬ nI 4 ≤ sg S N (p + dgA S N p + 1) - 97 then some (p + dgA S N p + 2) else none := by
                  rw [eoO, if_neg (fun q => n (Or.inl q)), if_neg (fun q => n (Or.inr q)), if_pos h64]
                by_cases h3 : sg S N (p + dgA S N p + 1) - 97 < 0 ∨ ¬ sg S N (p + dgA S N p + 1) - 97 ≤ 3
                · rw [if_pos h3]
                  rw [hO, if_neg (fun q => h3.elim q.1 (fun g => q.2 (lt_4.mp (Int32.not_le.mp g))))] at hE
                  exact ⟨fun k => absurd k Bool.false_ne_true, fun k => absurd k (rdP_none hE)⟩
                · rw [if_neg h3]
                  have hl : ¬ sg S N (p + dgA S N p + 1) - 97 < 0 := fun q => h3 (Or.inl q)
                  have hl3 : sg S N (p + dgA S N p + 1) - 97 ≤ 3 := Decidable.not_not.mp (fun q => h3 (Or.inr q))
                  have hi := ltr_in hl
                  rw [hO, if_pos ⟨hl, fun q => absurd (Int32.le_trans (q : (4 : Int32) ≤ _) hl3) (by decide)⟩] at hE
                  rw [rdB_u, rdP_e hE]
                  exact ih (p + dgA S N p + 1 + 1) d o (by omega) (by omega) hd
              · rw [if_neg h64]
                by_cases hs : sing (sg S N (p + dgA S N p)) = true
                · rw [if_pos hs]
                  have hi := sng_in hs
                  have hO : eoO (eoD S N 4 (3 - d)) S N 4 (p + dgA S N p) = some (p + dgA S N p + 1) := by
                    rw [eoO, if_neg (fun q => n (Or.inl q)), if_neg (fun q => n (Or.inr q)), if_neg h64, if_pos hs]
                  rw [hO] at hE
                  rw [rdB_u, rdP_e hE]
                  exact ih (p + dgA S N p + 1) d o (by omega) (by omega) hd
                · rw [if_neg hs]
                  rw [eoO_none ho h64 hs] at hE
                  exact ⟨fun k => absurd k Bool.false_ne_true, fun k => absurd k (rdP_none hE)⟩
    · have e : p = N := by omega
      exact ih p d o (by omega) hp hd
/-- both read the same texts as rows of orders -/
theorem rd_io (hN : N ≤ 60) : (rdF S N).1 = ioF S N 4 := by
  rw [rdF_R hN, rdB_u]
  have h := rd_iff (S := S) hN N 0 0 0 (by omega) (by omega) (by omega)
  unfold rdP at h
  rw [Bool.eq_iff_iff, h]
  unfold ioF
  rw [decide_eq_true_iff]
  constructor
  · intro ⟨z, hz, k, _⟩
    have := k rfl
    subst this
    exact hz
  · intro hz
    exact ⟨N, hz, fun _ => rfl, fun q => absurd q (by omega)⟩
theorem rd_hF (hN : N ≤ 60) (h : ioF S N 4 = true) : (rdF S N).2 = hmF S N N := by
  rw [rdF_R hN]
  exact rd_hm hN N 0 0 0 (by omega) (by omega) (by rw [rdB_u]; rw [← rd_io hN, rdF_R hN, rdB_u] at h; exact h)
end RD
