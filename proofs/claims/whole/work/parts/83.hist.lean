
/-! what is kept: class and reference -/
theorem ktF_at {K : Nat → Int32} {a : Nat} {F0 F1 F2 : Nat → Int32} : ∀ n, n ≤ 24 → ∀ i, ktF K a F0 F1 F2 n i = if 72 * a ≤ i ∧ i < 72 * a + n then F0 (i - 72 * a) else if 72 * a + 24 ≤ i ∧ i < 72 * a + 24 + n then F1 (i - (72 * a + 24)) else if 72 * a + 48 ≤ i ∧ i < 72 * a + 48 + n then F2 (i - (72 * a + 48)) else K i := by
  intro n
  induction n with
  | zero => intro _ i; rw [if_neg (by omega), if_neg (by omega), if_neg (by omega)]; rfl
  | succ n ih =>
    intro hn i
    rw [ktF]
    by_cases e3 : i = 72 * a + 48 + n
    · subst e3
      rw [pk_us, if_neg (by omega), if_neg (by omega), if_pos (by omega), Nat.add_sub_cancel_left]
    · rw [pk_un e3]
      by_cases e2 : i = 72 * a + 24 + n
      · subst e2
        rw [pk_us, if_neg (by omega), if_pos (by omega), Nat.add_sub_cancel_left]
      · rw [pk_un e2]
        by_cases e1 : i = 72 * a + n
        · subst e1
          rw [pk_us, if_pos (by omega), Nat.add_sub_cancel_left]
        · rw [pk_un e1, ih (by omega) i]
          by_cases c1 : 72 * a ≤ i ∧ i < 72 * a + n
          · rw [if_pos c1, if_pos (by omega)]
          · rw [if_neg c1, if_neg (c := 72 * a ≤ i ∧ i < 72 * a + (n + 1)) (by omega)]
            by_cases c2 : 72 * a + 24 ≤ i ∧ i < 72 * a + 24 + n
            · rw [if_pos c2, if_pos (by omega)]
            · rw [if_neg c2, if_neg (c := 72 * a + 24 ≤ i ∧ i < 72 * a + 24 + (n + 1)) (by omega)]
              by_cases c3 : 72 * a + 48 ≤ i ∧ i < 72 * a + 48 + n
              · rw [if_pos c3, if_pos (by omega)]
              · rw [if_neg c3, if_neg (by omega)]
theorem kpF_at {kp : Nat → Int32} {a : Nat} {pl : Nat → Int32} : ∀ n i, kpF kp a pl n i = if 4 * a ≤ i ∧ i < 4 * a + n then pl (i - 4 * a) else kp i := by
  intro n
  induction n with
  | zero => intro i; rw [if_neg (by omega)]; rfl
  | succ n ih =>
    intro i
    rw [kpF]
    by_cases e : i = 4 * a + n
    · subst e; rw [pk_us, if_pos (by omega), Nat.add_sub_cancel_left]
    · rw [pk_un e, ih i]
      by_cases c : 4 * a ≤ i ∧ i < 4 * a + n
      · rw [if_pos c, if_pos (by omega)]
      · rw [if_neg c, if_neg (by omega)]
/-- one moment kept by both -/
def hMo (sN : Nat) (ln : Nat → Nat) (M0 M1 M2 mp kt kp : Nat → Int32) (A : Nat) : Prop := (∀ r, r < 24 → M0 r = kt (72 * A + r) ∧ M1 r = kt (72 * A + 24 + r) ∧ M2 r = kt (72 * A + 48 + r)) ∧ QX M0 M1 M2 ∧ ∀ k, k < 4 → ∃ m, mp k = nI m ∧ kp (4 * A + k) = nI m ∧ (k < sN → m < ln k) ∧ (sN ≤ k → m = 0)
def hist (sN : Nat) (ln : Nat → Nat) (kN tN : Nat) (M0 M1 M2 mp : Nat → Nat → Int32) (a : Nat) (kt kp : Nat → Int32) : Prop := kN ≤ tN ∧ kN ≤ 16 ∧ a < 16 ∧ ∀ q, 1 ≤ q → q ≤ kN → hMo sN ln (M0 ((tN - q) % 16)) (M1 ((tN - q) % 16)) (M2 ((tN - q) % 16)) (mp ((tN - q) % 16)) kt kp ((a + 16 - q) % 16)
def slen (so : (Nat → Int32 × Int32 × Int64 × Nat × Nat)) (k : Nat) : Nat := (so k).2.2.2.1
theorem hist_0 {sN : Nat} {ln : Nat → Nat} {tN : Nat} {M0 M1 M2 mp : Nat → Nat → Int32} {a : Nat} {kt kp : Nat → Int32} (ha : a < 16) : hist sN ln 0 tN M0 M1 M2 mp a kt kp := ⟨by omega, by omega, ha, fun q h1 h2 => absurd h1 (by omega)⟩
theorem hist_keep {sN : Nat} {ln : Nat → Nat} {kN tN : Nat} {M0 M1 M2 mp : Nat → Nat → Int32} {a : Nat} {kt kp : Nat → Int32} (h : hist sN ln kN tN M0 M1 M2 mp a kt kp) {F0 F1 F2 pm pl : Nat → Int32} (hQ : QX F0 F1 F2) (hm : ∀ k, k < 4 → ∃ m, pm k = nI m ∧ pl k = nI m ∧ (k < sN → m < ln k) ∧ (sN ≤ k → m = 0)) : hist sN ln (min (kN + 1) 16) (tN + 1) (vf_upd M0 (tN % 16) F0) (vf_upd M1 (tN % 16) F1) (vf_upd M2 (tN % 16) F2) (vf_upd mp (tN % 16) pm) ((a + 1) % 16) (ktF kt a F0 F1 F2 24) (kpF kp a pl 4) := by
  obtain ⟨h1, h2, ha, hh⟩ := h
  refine ⟨by omega, by omega, Nat.mod_lt _ (by decide), fun q q1 q2 => ?_⟩
  rcases Nat.lt_or_ge 1 q with g | g
  · have o := hh (q - 1) (by omega) (by omega)
    have e1 : (tN - (q - 1)) % 16 = (tN + 1 - q) % 16 := by congr 1; omega
    have e2 : (a + 16 - (q - 1)) % 16 = ((a + 1) % 16 + 16 - q) % 16 := by omega
    rw [e1, e2] at o
    have n1 : ¬ (tN + 1 - q) % 16 = tN % 16 := by omega
    have n2 : ((a + 1) % 16 + 16 - q) % 16 < a ∨ a < ((a + 1) % 16 + 16 - q) % 16 := by omega
    generalize (tN + 1 - q) % 16 = A at *
    generalize ((a + 1) % 16 + 16 - q) % 16 = B at *
    rw [vf_ne n1, vf_ne n1, vf_ne n1, vf_ne n1]
    obtain ⟨o1, o2, o3⟩ := o
    refine ⟨fun r hr => ?_, o2, fun k hk => ?_⟩
    · rw [ktF_at 24 (by omega), ktF_at 24 (by omega), ktF_at 24 (by omega), if_neg (by omega), if_neg (by omega), if_neg (by omega), if_neg (by omega), if_neg (by omega), if_neg (by omega), if_neg (by omega), if_neg (by omega), if_neg (by omega)]
      exact o1 r hr
    · rw [kpF_at, if_neg (by omega)]
      exact o3 k hk
  · have e0 : q = 1 := by omega
    subst e0
    have e1 : (tN + 1 - 1) % 16 = tN % 16 := by congr 1
    have e2 : ((a + 1) % 16 + 16 - 1) % 16 = a := by omega
    rw [e1, e2, vf_s, vf_s, vf_s, vf_s]
    refine ⟨fun r hr => ?_, hQ, fun k hk => ?_⟩
    · rw [ktF_at 24 (by omega), ktF_at 24 (by omega), ktF_at 24 (by omega), if_pos (by omega), if_neg (by omega), if_pos (by omega), if_neg (by omega), if_neg (by omega), if_pos (by omega)]
      rw [Nat.add_sub_cancel_left, Nat.add_sub_cancel_left, Nat.add_sub_cancel_left]
      exact ⟨rfl, rfl, rfl⟩
    · rw [kpF_at, if_pos (by omega), Nat.add_sub_cancel_left]
      exact hm k hk
theorem gsS_pl {sx sy : Nat → Int32} {pt : Nat → Int64} {mn : Nat → Int32} {s : (Nat → Int32) × (Nat → Int32) × (Nat → Int32)} : ∀ n k, n ≤ k → (gsS sx sy pt mn s n).2.2 k = s.2.2 k := by
  intro n
  induction n with
  | zero => intro k _; rfl
  | succ n ih =>
    intro k hk
    rw [gsS]
    generalize hg : gsS sx sy pt mn s n = g
    obtain ⟨G0, G2, q⟩ := g
    have h1 := ih k (by omega)
    rw [hg] at h1
    have h1 : q k = s.2.2 k := h1
    unfold gsT
    dsimp only
    split
    · show upd q n _ k = _
      rw [pk_un (by omega)]; exact h1
    · show upd q n _ k = _
      rw [pk_un (by omega)]; exact h1
theorem sIt_len {so : (Nat → Int32 × Int32 × Int64 × Nat × Nat)} {F : (Nat → Int32) × (Nat → Int32) × (Nat → Int32)} : ∀ n k, slen (sIt (so, F) n).1 k = slen so k := by
  intro n
  induction n with
  | zero => intro k; rfl
  | succ n ih =>
    intro k
    by_cases e : k = n
    · subst e
      unfold slen
      rw [show (sIt (so, F) (k + 1)).1 k = (((sIt (so, F) k).1 k).1, ((sIt (so, F) k).1 k).2.1, ((sIt (so, F) k).1 k).2.2.1, ((sIt (so, F) k).1 k).2.2.2.1, sNx ((sIt (so, F) k).1 k).2.2.2.1 ((sIt (so, F) k).1 k).2.2.2.2) from vf_s]
      exact ih k
    · unfold slen
      rw [show (sIt (so, F) (n + 1)).1 k = (sIt (so, F) n).1 k from vf_ne e]
      exact ih k
/-- class and reference between two generations -/
def RG (sN qN : Nat) (sx sy : Nat → Int32) (pt : Nat → Int64) (mn px py : Nat → Int32) (g : GT) (h : RT) : Prop :=
  h.1 = g.1 ∧ QX g.1.1 g.1.2.1 g.1.2.2 ∧ (Z24 g.1.1 ∧ Z24 g.1.2.1 ∧ Z24 g.1.2.2) ∧ (Z24 g.2.1.1 ∧ Z24 g.2.1.2.1 ∧ Z24 g.2.1.2.2) ∧ (∀ j, Z24 (g.2.2.2.2.2.2.1.1 j) ∧ Z24 (g.2.2.2.2.2.2.1.2.1 j) ∧ Z24 (g.2.2.2.2.2.2.1.2.2 j)) ∧ Z24 h.2.1 ∧
  tieS sN g.2.2.1 sx sy pt mn h.2.2.2.2.2.2.2.1 ∧ (∀ k, k < 4 → slen g.2.2.1 k ≤ 64 ∧ (sN ≤ k → (g.2.2.1 k).2.2.2.2 = 0 ∧ h.2.2.2.2.2.2.2.1 k = 0)) ∧ tieQ qN g.2.2.2.1 px py h.2.2.2.2.2.2.2.2.2.1 h.2.2.2.2.2.2.2.2.2.2 h.2.2.2.2.2.2.2.2.1 ∧
  h.2.2.2.2.2.1 = g.2.2.2.2.1 ∧ h.2.2.2.2.2.2.1 = g.2.2.2.2.2.1 ∧ hist sN (slen g.2.2.1) g.2.2.2.2.1 g.2.2.2.2.2.1 g.2.2.2.2.2.2.1.1 g.2.2.2.2.2.2.1.2.1 g.2.2.2.2.2.2.1.2.2 g.2.2.2.2.2.2.2 h.2.2.2.2.1 h.2.2.1 h.2.2.2.1
theorem RG_GI {sN qN : Nat} {sx sy : Nat → Int32} {pt : Nat → Int64} {mn px py : Nat → Int32} {g : GT} {h : RT} (R : RG sN qN sx sy pt mn px py g h) : GI g := by
  obtain ⟨r1, r2, r3, r4, r5, r6, r7, r8, r9, r10, r11, r12⟩ := R
  refine ⟨r12.2.1, fun k hk => ?_, r3, r4, r5⟩
  have h8 := r8 k hk
  have h9 : (g.2.2.1 k).2.2.2.1 ≤ 64 := h8.1
  refine ⟨by omega, ?_⟩
  rcases Nat.lt_or_ge k sN with q | q
  · have := (r7 k q).2.2.2.2.2.2; omega
  · rw [(h8.2 q).1]; omega
theorem khi_e {k : Nat} (h : k ≤ 16) : khi k = min (k + 1) 16 := by unfold khi; split <;> omega
theorem RG_s {sN qN : Nat} {sx sy : Nat → Int32} {pt : Nat → Int64} {mn px py : Nat → Int32} {g : GT} {h : RT} (hs4 : sN ≤ 4) (R : RG sN qN sx sy pt mn px py g h) : RG sN qN sx sy pt mn px py (gen sN qN g) (genR sN qN sx sy pt mn px py h) := by
  obtain ⟨⟨F0, F1, F2⟩, ⟨A0, A1, A2⟩, so, qo, kN, tN, ⟨M0, M1, M2⟩, mp⟩ := g
  obtain ⟨E, HH, kt, kp, a, hi, tm, pl, ⟨rc, sn, lt⟩⟩ := h
  obtain ⟨r1, r2, r3, r4, r5, r6, r7, r8, r9, r10, r11, r12⟩ := R
  have r1 : E = (F0, F1, F2) := r1
  have r2 : QX F0 F1 F2 := r2
  have r3 : Z24 F0 ∧ Z24 F1 ∧ Z24 F2 := r3
  have r5 : ∀ j, Z24 (M0 j) ∧ Z24 (M1 j) ∧ Z24 (M2 j) := r5
  have r6 : Z24 HH := r6
  have r7 : tieS sN so sx sy pt mn pl := r7
  have r8 : ∀ k, k < 4 → slen so k ≤ 64 ∧ (sN ≤ k → (so k).2.2.2.2 = 0 ∧ pl k = 0) := r8
  have r9 : tieQ qN qo px py sn lt rc := r9
  have r10 : hi = kN := r10
  have r11 : tm = tN := r11
  have r12 : hist sN (slen so) kN tN M0 M1 M2 mp a kt kp := r12
  subst r1 r10 r11
  obtain ⟨s1, s2, s3, s4, s5⟩ := src_tie (F1 := F1) r7 r2 sN (Nat.le_refl _)
  obtain ⟨z0, z1, z2⟩ := sIt_z (so := so) r3.1 r3.2.1 r3.2.2 sN
  have eRs : gRs sN sx sy pt mn ((F0, F1, F2), HH, kt, kp, a, hi, tm, pl, (rc, sn, lt)) = gsS sx sy pt mn (F0, F2, pl) sN := rfl
  have eRh : gRh sN sx sy pt mn ((F0, F1, F2), HH, kt, kp, a, hi, tm, pl, (rc, sn, lt)) = (sIt (so, F0, F1, F2) sN).2.1 := by
    show hcF HH (gsS sx sy pt mn (F0, F2, pl) sN).1 24 = _
    rw [s1]; exact hcF_e r6 z0
  have eF1 : (sIt (so, F0, F1, F2) sN).2.2.1 = F1 := s2.symm
  have eRn : gRn sN sx sy pt mn ((F0, F1, F2), HH, kt, kp, a, hi, tm, pl, (rc, sn, lt)) = gnF sN ((F0, F1, F2), (A0, A1, A2), so, qo, hi, tm, (M0, M1, M2), mp) := by
    show nsS (gRh sN sx sy pt mn ((F0, F1, F2), HH, kt, kp, a, hi, tm, pl, (rc, sn, lt))) ((gsS sx sy pt mn (F0, F2, pl) sN).1, F1, (gsS sx sy pt mn (F0, F2, pl) sN).2.1) 24 = _
    have hf := fld_tie s4 z0 z1 z2
    rw [eF1] at hf
    rw [eRh, s1, s3]
    refine hf.trans ?_
    show _ = (nxH (sIt (so, F0, F1, F2) sN).2.1 (sIt (so, F0, F1, F2) sN).2.2.2, (sIt (so, F0, F1, F2) sN).2.1, nxW (sIt (so, F0, F1, F2) sN).2.1 (sIt (so, F0, F1, F2) sN).2.2.1 (sIt (so, F0, F1, F2) sN).2.2.2)
    rw [eF1]
  have hgn : gnF sN ((F0, F1, F2), (A0, A1, A2), so, qo, hi, tm, (M0, M1, M2), mp) = (nxH (sIt (so, F0, F1, F2) sN).2.1 (sIt (so, F0, F1, F2) sN).2.2.2, (sIt (so, F0, F1, F2) sN).2.1, nxW (sIt (so, F0, F1, F2) sN).2.1 (sIt (so, F0, F1, F2) sN).2.2.1 (sIt (so, F0, F1, F2) sN).2.2.2) := rfl
  have hZ : Z24 (gnF sN ((F0, F1, F2), (A0, A1, A2), so, qo, hi, tm, (M0, M1, M2), mp)).1 ∧ Z24 (gnF sN ((F0, F1, F2), (A0, A1, A2), so, qo, hi, tm, (M0, M1, M2), mp)).2.1 ∧ Z24 (gnF sN ((F0, F1, F2), (A0, A1, A2), so, qo, hi, tm, (M0, M1, M2), mp)).2.2 := by
    rw [hgn]; exact ⟨nxH_z, z0, nxW_z z1 z2⟩
  refine ⟨eRn, ?_, hZ, hZ, fun j => ⟨vf_z (fun j => (r5 j).1) r3.1 j, vf_z (fun j => (r5 j).2.1) r3.2.1 j, vf_z (fun j => (r5 j).2.2) r3.2.2 j⟩, ?_, s5, fun k hk => ⟨?_, fun hq => ?_⟩, ?_, ?_, rfl, ?_⟩
  · show QX (gnF sN ((F0, F1, F2), (A0, A1, A2), so, qo, hi, tm, (M0, M1, M2), mp)).1 _ _
    rw [hgn]; exact nx_QX s4
  · show Z24 (gRh sN sx sy pt mn ((F0, F1, F2), HH, kt, kp, a, hi, tm, pl, (rc, sn, lt)))
    rw [eRh]; exact z0
  · show slen (sIt (so, F0, F1, F2) sN).1 k ≤ 64
    rw [sIt_len]; exact (r8 k hk).1
  · have h8 := (r8 k hk).2 hq
    refine ⟨?_, ?_⟩
    · show ((sIt (so, F0, F1, F2) sN).1 k).2.2.2.2 = 0
      rw [sIt_at _ sN k hq]; exact h8.1
    · show (gsS sx sy pt mn (F0, F2, pl) sN).2.2 k = 0
      rw [gsS_pl sN k hq]; exact h8.2
  · show tieQ qN (qIt (gnF sN ((F0, F1, F2), (A0, A1, A2), so, qo, hi, tm, (M0, M1, M2), mp)).1 (gnF sN ((F0, F1, F2), (A0, A1, A2), so, qo, hi, tm, (M0, M1, M2), mp)).2.1 (gnF sN ((F0, F1, F2), (A0, A1, A2), so, qo, hi, tm, (M0, M1, M2), mp)).2.2 (nI (tm + 1)) qo qN) px py (pbS px py (gRn sN sx sy pt mn ((F0, F1, F2), HH, kt, kp, a, hi, tm, pl, (rc, sn, lt))).1 (nI (tm + 1)) (rc, sn, lt) qN).2.1 (pbS px py (gRn sN sx sy pt mn ((F0, F1, F2), HH, kt, kp, a, hi, tm, pl, (rc, sn, lt))).1 (nI (tm + 1)) (rc, sn, lt) qN).2.2 (pbS px py (gRn sN sx sy pt mn ((F0, F1, F2), HH, kt, kp, a, hi, tm, pl, (rc, sn, lt))).1 (nI (tm + 1)) (rc, sn, lt) qN).1
    rw [eRn]
    exact prb_tie r9 qN (Nat.le_refl _)
  · show khi hi = min (hi + 1) 16
    exact khi_e r12.2.1
  · show hist sN (slen (sIt (so, F0, F1, F2) sN).1) (min (hi + 1) 16) (tm + 1) (vf_upd M0 (tm % 16) F0) (vf_upd M1 (tm % 16) F1) (vf_upd M2 (tm % 16) F2) (vf_upd mp (tm % 16) (gUp (kpM so) (mp (tm % 16)) 4)) ((a + 1) % 16) (ktF kt a F0 F1 F2 24) (kpF kp a pl 4)
    rw [show slen (sIt (so, F0, F1, F2) sN).1 = slen so from funext (fun k => sIt_len sN k)]
    refine hist_keep r12 r2 (fun k hk => ⟨(so k).2.2.2.2, ?_, ?_, fun q => (r7 k q).2.2.2.2.2.2.1, fun q => ((r8 k hk).2 q).1⟩)
    · show (if k < 4 then kpM so k else mp (tm % 16) k) = _
      rw [if_pos hk]; rfl
    · rcases Nat.lt_or_ge k sN with q | q
      · exact (r7 k q).2.2.2.2.2.1
      · have h8 : (so k).2.2.2.2 = 0 ∧ pl k = 0 := (r8 k hk).2 q
        rw [h8.2, h8.1]; rfl
theorem RG_n {sN qN : Nat} {sx sy : Nat → Int32} {pt : Nat → Int64} {mn px py : Nat → Int32} {g : GT} {h : RT} (hs4 : sN ≤ 4) (R : RG sN qN sx sy pt mn px py g h) : ∀ n, RG sN qN sx sy pt mn px py (genN sN qN g n) (genRN sN qN sx sy pt mn px py h n) := by
  intro n
  induction n with
  | zero => exact R
  | succ n ih => exact RG_s hs4 ih
/-! taken back, and what repeats -/
theorem bk1_at {kt : Nat → Int32} {A : Nat} {F : Nat → Int32} : ∀ n i, bk1 kt A F n i = if i < n then kt (72 * A + i) else F i := by
  intro n
  induction n with
  | zero => intro i; rw [if_neg (by omega)]; rfl
  | succ n ih =>
    intro i
    rw [bk1]
    by_cases e : i = n
    · subst e; rw [pk_us, if_pos (by omega)]
    · rw [pk_un e, ih i]
      by_cases c : i < n
      · rw [if_pos c, if_pos (by omega)]
      · rw [if_neg c, if_neg (by omega)]
theorem bk2_at {kt : Nat → Int32} {A : Nat} {F : Nat → Int32} : ∀ n i, bk2 kt A F n i = if i < n then kt (72 * A + 24 + i) else F i := by
  intro n
  induction n with
  | zero => intro i; rw [if_neg (by omega)]; rfl
  | succ n ih =>
    intro i
    rw [bk2]
    by_cases e : i = n
    · subst e; rw [pk_us, if_pos (by omega)]
    · rw [pk_un e, ih i]
      by_cases c : i < n
      · rw [if_pos c, if_pos (by omega)]
      · rw [if_neg c, if_neg (by omega)]
theorem bk3_at {kt : Nat → Int32} {A : Nat} {F : Nat → Int32} : ∀ n i, bk3 kt A F n i = if i < n then kt (72 * A + 48 + i) else F i := by
  intro n
  induction n with
  | zero => intro i; rw [if_neg (by omega)]; rfl
  | succ n ih =>
    intro i
    rw [bk3]
    by_cases e : i = n
    · subst e; rw [pk_us, if_pos (by omega)]
    · rw [pk_un e, ih i]
      by_cases c : i < n
      · rw [if_pos c, if_pos (by omega)]
      · rw [if_neg c, if_neg (by omega)]
theorem bkp_at {kp : Nat → Int32} {A : Nat} {pl : Nat → Int32} : ∀ n i, bkp kp A pl n i = if i < n then kp (4 * A + i) else pl i := by
  intro n
  induction n with
  | zero => intro i; rw [if_neg (by omega)]; rfl
  | succ n ih =>
    intro i
    rw [bkp]
    by_cases e : i = n
    · subst e; rw [pk_us, if_pos (by omega)]
    · rw [pk_un e, ih i]
      by_cases c : i < n
      · rw [if_pos c, if_pos (by omega)]
      · rw [if_neg c, if_neg (by omega)]
theorem hMo_F {sN : Nat} {ln : Nat → Nat} {M0 M1 M2 mp kt kp : Nat → Int32} {A : Nat} (h : hMo sN ln M0 M1 M2 mp kt kp A) (z0 : Z24 M0) (z1 : Z24 M1) (z2 : Z24 M2) {F0 F1 F2 : Nat → Int32} (y0 : Z24 F0) (y1 : Z24 F1) (y2 : Z24 F2) : bk1 kt A F0 24 = M0 ∧ bk2 kt A F1 24 = M1 ∧ bk3 kt A F2 24 = M2 := by
  refine ⟨funext (fun r => ?_), funext (fun r => ?_), funext (fun r => ?_)⟩
  · rw [bk1_at]
    split
    · rename_i q; exact ((h.1 r q).1).symm
    · rename_i q; rw [z0 r (by omega), y0 r (by omega)]
  · rw [bk2_at]
    split
    · rename_i q; exact ((h.1 r q).2.1).symm
    · rename_i q; rw [z1 r (by omega), y1 r (by omega)]
  · rw [bk3_at]
    split
    · rename_i q; exact ((h.1 r q).2.2).symm
    · rename_i q; rw [z2 r (by omega), y2 r (by omega)]
theorem smR_n {kt : Nat → Int32} {A : Nat} {F0 F1 F2 : Nat → Int32} : ∀ n, smR kt A F0 F1 F2 n = true ↔ ∀ r, r < n → kt (72 * A + r) = F0 r ∧ kt (72 * A + 24 + r) = F1 r ∧ kt (72 * A + 48 + r) = F2 r := by
  intro n
  induction n with
  | zero => exact ⟨fun _ r h => absurd h (by omega), fun _ => rfl⟩
  | succ n ih =>
    rw [smR, Bool.and_eq_true, Bool.and_eq_true, Bool.and_eq_true, decide_eq_true_iff, decide_eq_true_iff, decide_eq_true_iff, ih]
    constructor
    · intro h r hr
      rcases Nat.lt_or_ge r n with q | q
      · exact h.1 r q
      · have e : r = n := by omega
        subst e; exact h.2
    · intro h
      exact ⟨fun r hr => h r (by omega), h n (by omega)⟩
theorem gEq_n {F0 F1 F2 E0 E1 E2 : Nat → Int32} : gEq F0 F1 F2 E0 E1 E2 = true ↔ ∀ k, k < 24 → F0 k = E0 k ∧ F1 k = E1 k ∧ F2 k = E2 k := by
  constructor
  · intro h k hk
    by_cases c : F0 k = E0 k ∧ F1 k = E1 k ∧ F2 k = E2 k
    · exact c
    · rw [gEq_f hk c] at h; exact absurd h Bool.false_ne_true
  · exact gEq_t
theorem per_tie {sN : Nat} {ln : Nat → Nat} {kN tN : Nat} {M0 M1 M2 mp : Nat → Nat → Int32} {a : Nat} {kt kp F0 F1 F2 : Nat → Int32} (h : hist sN ln kN tN M0 M1 M2 mp a kt kp) : ∀ n p, 1 ≤ p → p + n = kN + 1 → perF F0 F1 F2 M0 M1 M2 tN kN n p = pdR kt a F0 F1 F2 n p := by
  intro n
  induction n with
  | zero => intro p _ _; rfl
  | succ n ih =>
    intro p h1 h2
    have o := (h.2.2.2 p h1 (by omega)).1
    rw [perF, pdR, ih (p + 1) (by omega) (by omega)]
    have e : gEq F0 F1 F2 (M0 ((tN - p) % 16)) (M1 ((tN - p) % 16)) (M2 ((tN - p) % 16)) = true ↔ smR kt ((a + 16 - p) % 16) F0 F1 F2 24 = true := by
      rw [gEq_n, smR_n]
      constructor
      · intro k r hr
        have := k r hr
        have o1 := o r hr
        exact ⟨o1.1.symm.trans this.1.symm, o1.2.1.symm.trans this.2.1.symm, o1.2.2.symm.trans this.2.2.symm⟩
      · intro k r hr
        have := k r hr
        have o1 := o r hr
        exact ⟨(o1.1.trans this.1).symm, (o1.2.1.trans this.2.1).symm, (o1.2.2.trans this.2.2).symm⟩
    by_cases c : smR kt ((a + 16 - p) % 16) F0 F1 F2 24 = true
    · rw [if_pos c, if_pos (e.mpr c)]
    · rw [if_neg c, if_neg (fun q => c (e.mp q))]
/-- a moment's places -/
theorem hMo_mq {sN : Nat} {ln : Nat → Nat} {M0 M1 M2 mp kt kp : Nat → Int32} {A : Nat} (h : hMo sN ln M0 M1 M2 mp kt kp A) : ∃ mq : Nat → Nat, ∀ k, k < 4 → mp k = nI (mq k) ∧ kp (4 * A + k) = nI (mq k) ∧ (k < sN → mq k < ln k) ∧ (sN ≤ k → mq k = 0) := by
  refine ⟨fun k => if hk : k < 4 then (h.2.2 k hk).choose else 0, fun k hk => ?_⟩
  simp only [dif_pos hk]
  exact (h.2.2 k hk).choose_spec
theorem hist_back {sN : Nat} {ln : Nat → Nat} {kN tN n : Nat} {M0 M1 M2 mp : Nat → Nat → Int32} {a : Nat} {kt kp : Nat → Int32} (h : hist sN ln kN tN M0 M1 M2 mp a kt kp) (h1 : 1 ≤ n) (hn : n ≤ kN) : hist sN ln (kN - n) (tN - n) M0 M1 M2 mp ((a + 16 - n) % 16) kt kp := by
  obtain ⟨k1, k2, ha, hh⟩ := h
  refine ⟨by omega, by omega, Nat.mod_lt _ (by decide), fun q q1 q2 => ?_⟩
  have o := hh (q + n) (by omega) (by omega)
  have e1 : (tN - (q + n)) % 16 = (tN - n - q) % 16 := by congr 1; omega
  have e2 : (a + 16 - (q + n)) % 16 = ((a + 16 - n) % 16 + 16 - q) % 16 := by omega
  rw [e1, e2] at o
  exact o
theorem hist_src {sN : Nat} {ln ln2 : Nat → Nat} {kN tN : Nat} {M0 M1 M2 mp : Nat → Nat → Int32} {a : Nat} {kt kp : Nat → Int32} (h : hist sN ln kN tN M0 M1 M2 mp a kt kp) (h0 : ∀ k, k < sN → ln2 k = ln k) (h1 : 0 < ln2 sN) : hist (sN + 1) ln2 kN tN M0 M1 M2 mp a kt kp := by
  obtain ⟨k1, k2, ha, hh⟩ := h
  refine ⟨k1, k2, ha, fun q q1 q2 => ?_⟩
  obtain ⟨o1, o2, o3⟩ := hh q q1 q2
  refine ⟨o1, o2, fun k hk => ?_⟩
  obtain ⟨m, m1, m2, m3, m4⟩ := o3 k hk
  refine ⟨m, m1, m2, fun g => ?_, fun g => m4 (by omega)⟩
  rcases Nat.lt_or_ge k sN with c | c
  · rw [h0 k c]; exact m3 c
  · have e : k = sN := by omega
    subst e
    rw [m4 (Nat.le_refl _)]; exact h1
