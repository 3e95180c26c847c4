
/-! the texts: class and reference -/
def TI (S : Nat → Int32) (N : Nat) (th : Nat → Int32) (MS : Nat → Nat → Int32) (MN : Nat → Nat) (tx sz us : Nat → Int32) : Prop :=
  N ≤ 60 ∧ sz 4 = nI N ∧ Fc S ∧ Z60 S ∧ (∀ k, k < 60 → S k = tx (240 + k)) ∧ ∀ j, j < 4 → MN j ≤ 60 ∧ Fc (MS j) ∧ Z60 (MS j) ∧ (th j = 0 → sz j = -1) ∧ (¬ th j = 0 → sz j = nI (MN j) ∧ ioF (MS j) (MN j) j = true ∧ us j = hmF (MS j) (MN j) (MN j) ∧ ∀ k, k < 60 → MS j k = tx (60 * j + k))
theorem ch_fc : ∀ C, C < 127 → (narrow .char (.int (nI C)) = .int (nI C) ∧ fits .char (.int (nI C)) = true) := by decide +kernel
section TIs
variable {S : Nat → Int32} {N : Nat} {th : Nat → Int32} {MS : Nat → Nat → Int32} {MN : Nat → Nat} {tx sz us : Nat → Int32}
theorem TI_type (T : TI S N th MS MN tx sz us) {C : Nat} (hC : C ≤ 126) (hN : N < 60) : TI (upd S N (nI C)) (N + 1) th MS MN (upd tx (240 + N) (nI C)) (upd sz 4 (nI (N + 1))) us := by
  obtain ⟨t1, t2, t3, t4, t5, t6⟩ := T
  refine ⟨hN, pk_us, fun k => ?_, fun k hk => ?_, fun k hk => ?_, fun j hj => ?_⟩
  · by_cases e : k = N
    · subst e; rw [pk_us]; exact ch_fc C (by omega)
    · rw [pk_un e]; exact t3 k
  · rw [pk_un (by omega)]; exact t4 k hk
  · by_cases e : k = N
    · subst e; rw [pk_us, pk_us]
    · rw [pk_un e, pk_un (by omega)]; exact t5 k hk
  · obtain ⟨a1, a2, a3, a4, a5⟩ := t6 j hj
    refine ⟨a1, a2, a3, fun h => by rw [pk_un (by omega)]; exact a4 h, fun h => ?_⟩
    obtain ⟨b1, b2, b3, b4⟩ := a5 h
    exact ⟨by rw [pk_un (by omega)]; exact b1, b2, b3, fun k hk => by rw [pk_un (by omega)]; exact b4 k hk⟩
theorem TI_wipe (T : TI S N th MS MN tx sz us) : TI S 0 th MS MN tx (upd sz 4 0) us := by
  obtain ⟨t1, t2, t3, t4, t5, t6⟩ := T
  refine ⟨by omega, pk_us, t3, t4, t5, fun j hj => ?_⟩
  obtain ⟨a1, a2, a3, a4, a5⟩ := t6 j hj
  refine ⟨a1, a2, a3, fun h => by rw [pk_un (by omega)]; exact a4 h, fun h => ?_⟩
  obtain ⟨b1, b2, b3, b4⟩ := a5 h
  exact ⟨by rw [pk_un (by omega)]; exact b1, b2, b3, b4⟩
theorem TI_us (T : TI S N th MS MN tx sz us) {v : Int32} : TI S N th MS MN tx sz (upd us 4 v) := by
  obtain ⟨t1, t2, t3, t4, t5, t6⟩ := T
  refine ⟨t1, t2, t3, t4, t5, fun j hj => ?_⟩
  obtain ⟨a1, a2, a3, a4, a5⟩ := t6 j hj
  refine ⟨a1, a2, a3, a4, fun h => ?_⟩
  obtain ⟨b1, b2, b3, b4⟩ := a5 h
  exact ⟨b1, b2, by rw [pk_un (by omega)]; exact b3, b4⟩
theorem cpT_at {j : Nat} (hj : j < 4) : ∀ n, n ≤ 60 → ∀ i, cpT tx j n i = if 60 * j ≤ i ∧ i < 60 * j + n then tx (240 + (i - 60 * j)) else tx i := by
  intro n
  induction n with
  | zero => intro _ i; rw [if_neg (by omega)]; rfl
  | succ n ih =>
    intro hn i
    rw [cpT]
    by_cases e : i = 60 * j + n
    · subst e
      rw [pk_us, if_pos (by omega), ih (by omega), if_neg (by omega), Nat.add_sub_cancel_left]
    · rw [pk_un e, ih (by omega) i]
      by_cases c : 60 * j ≤ i ∧ i < 60 * j + n
      · rw [if_pos c, if_pos (by omega)]
      · rw [if_neg c, if_neg (by omega)]
theorem TI_macro (T : TI S N th MS MN tx sz us) {j : Nat} (hj : j < 4) (hio : ioF S N j = true) {u v : Int32} (hu : u = hmF S N N) : TI S 0 (upd th j (vp_nar .boolean 1)) (vf_upd MS j S) (vf_upd MN j N) (cpT tx j 60) (upd (upd sz j (sz 4)) 4 0) (upd (upd us 4 v) j u) := by
  obtain ⟨t1, t2, t3, t4, t5, t6⟩ := T
  refine ⟨by omega, pk_us, t3, t4, fun k hk => ?_, fun i hi => ?_⟩
  · rw [cpT_at hj 60 (by omega), if_neg (by omega)]; exact t5 k hk
  · rw [pk_un (show ¬ i = 4 by omega)]
    by_cases e : i = j
    · subst e
      rw [vf_s, vf_s, pk_us, pk_us, pk_us]
      refine ⟨t1, t3, t4, fun h => absurd h (by decide), fun _ => ⟨t2, hio, hu, fun k hk => ?_⟩⟩
      rw [cpT_at hj 60 (by omega), if_pos (by omega), Nat.add_sub_cancel_left]; exact t5 k hk
    · rw [vf_ne e, vf_ne e, pk_un e, pk_un e, pk_un e, pk_un (show ¬ i = 4 by omega)]
      obtain ⟨a1, a2, a3, a4, a5⟩ := t6 i hi
      refine ⟨a1, a2, a3, a4, fun h => ?_⟩
      obtain ⟨b1, b2, b3, b4⟩ := a5 h
      refine ⟨b1, b2, b3, fun k hk => ?_⟩
      rw [cpT_at hj 60 (by omega), if_neg (by omega)]; exact b4 k hk
theorem TI_sg (T : TI S N th MS MN tx sz us) : sg (fun i => tx (60 * 4 + i)) N = sg S N := by
  funext p
  unfold sg
  by_cases h : p < N
  · rw [if_pos h, if_pos h]; exact (T.2.2.2.2.1 p (by have := T.1; omega)).symm
  · rw [if_neg h, if_neg h]
theorem rdS_c {S2 : Nat → Int32} (h : sg S N = sg S2 N) : ∀ n p d o u, rdS S N n p d o u = rdS S2 N n p d o u := by
  intro n
  have h3 : ∀ p, dg3 S N p = dg3 S2 N p := fun p => by unfold dg3; rw [h]
  induction n with
  | zero => intro p d o u; rfl
  | succ n ih =>
    intro p d o u
    rw [rdS, rdS, h, h3, ih, ih, ih, ih]
theorem TI_rd (T : TI S N th MS MN tx sz us) : rdF (fun i => tx (60 * 4 + i)) N = rdF S N := rdS_c (TI_sg T) _ _ _ _ _
/-- what the one calls orders the other does; the macros held -/
theorem TI_io (T : TI S N th MS MN tx sz us) : (rdF (fun i => tx (60 * 4 + i)) N).1 = ioF S N 4 := by rw [TI_rd T]; exact rd_io T.1
theorem TI_hm (T : TI S N th MS MN tx sz us) (h : ioF S N 4 = true) : (rdF (fun i => tx (60 * 4 + i)) N).2 = hmF S N N := by rw [TI_rd T]; exact rd_hF T.1 h
theorem TI_mac (T : TI S N th MS MN tx sz us) {j : Nat} (hj : j < 4) : ioF S N j = true ↔ ((rdF (fun i => tx (60 * 4 + i)) N).1 = true ∧ (rdF (fun i => tx (60 * 4 + i)) N).2 >>> (nI j &&& 31) = 0) := by
  rw [io_hm hj, TI_io T]
  constructor
  · intro ⟨a, c⟩; exact ⟨a, by rw [TI_hm T a]; exact c⟩
  · intro ⟨a, c⟩; exact ⟨a, by rw [TI_hm T a] at c; exact c⟩
theorem TI_mt (T : TI S N th MS MN tx sz us) (h : ioF S N 4 = true) : mtF th (hmM MS MN) 4 (hmF S N N) = mcR sz (upd us 4 (rdF (fun i => tx (60 * 4 + i)) N).2) 4 ((upd us 4 (rdF (fun i => tx (60 * 4 + i)) N).2) 4) := by
  rw [pk_us, TI_hm T h]
  refine mt_mc (fun j hj => ?_) (fun j hj ht => ?_) 4 (Nat.le_refl _) _
  · obtain ⟨a1, a2, a3, a4, a5⟩ := T.2.2.2.2.2 j hj
    constructor
    · intro q; rw [a4 q]; decide
    · intro q
      by_cases c : th j = 0
      · exact c
      · exact absurd (by rw [(a5 c).1]; exact Int32.not_lt.mp (nI_pos (by omega))) q
  · obtain ⟨a1, a2, a3, a4, a5⟩ := T.2.2.2.2.2 j hj
    rw [pk_un (by omega)]
    exact ((a5 ht).2.2.1).symm
end TIs
/-! a drawing asks of the macros but those that are -/
theorem pfO_c {rec : (Nat → Int32) → Nat → Nat → Nat → PT → Bool × PT} {MS TS : Nat → Nat → Int32} {MN TN : Nat → Nat} (h : ∀ j, j < 4 → MS j = TS j ∧ MN j = TN j) {S : Nat → Int32} {N k e : Nat} : pfO rec MS MN S N k e = pfO rec TS TN S N k e := by
  funext P
  by_cases ho : P.2.2.2.2.1 < 400
  · rw [pfO_lt ho, pfO_lt ho]
    by_cases c : ¬ sg S N (k + 1) - 97 < 0 ∧ sg S N (k + 1) - 97 < 4
    · rw [if_pos c, if_pos c]
      obtain ⟨j, hj, e1⟩ := nI_of c.1
      have hj4 : j < 4 := (Nat.lt_or_ge j 4).elim id (fun q => absurd (by rw [e1]; exact nI_le (a := 4) q hj) (Int32.not_le.mpr c.2))
      rw [e1, nI_clamp (by omega), (h j hj4).1, (h j hj4).2]
    · rw [if_neg c, if_neg c]
  · rw [pfO_ge ho, pfO_ge ho]
theorem pfL_c {rec : (Nat → Int32) → Nat → Nat → Nat → PT → Bool × PT} {MS TS : Nat → Nat → Int32} {MN TN : Nat → Nat} (h : ∀ j, j < 4 → MS j = TS j ∧ MN j = TN j) {S : Nat → Int32} {N to : Nat} : ∀ f k P, pfL rec MS MN S N to f k P = pfL rec TS TN S N to f k P := by
  intro f
  induction f with
  | zero => intro k P; rfl
  | succ f ih =>
    intro k P
    rw [pfL_s, pfL_s]
    cases eoO (eoD S N 4 3) S N 4 (k + dgA S N k) with
    | none => rfl
    | some e => dsimp only; rw [pfO_c h, ih]
theorem pfD_c {MS TS : Nat → Nat → Int32} {MN TN : Nat → Nat} (h : ∀ j, j < 4 → MS j = TS j ∧ MN j = TN j) : ∀ m, pfD MS MN m = pfD TS TN m := by
  intro m
  induction m with
  | zero => rfl
  | succ m ih =>
    funext S N f t P
    show pfL (pfD MS MN m) MS MN S N t 60 f P = pfL (pfD TS TN m) TS TN S N t 60 f P
    rw [ih]
    exact pfL_c h 60 f P
