
theorem pbS_at {px py F : Nat → Int32} {t : Int32} {s : (Nat → Int64) × (Nat → Int32) × (Nat → Int32)} : ∀ n k, n ≤ k → (pbS px py F t s n).1 k = s.1 k ∧ (pbS px py F t s n).2.1 k = s.2.1 k := by
  intro n
  induction n with
  | zero => intro k _; exact ⟨rfl, rfl⟩
  | succ n ih =>
    intro k hk
    have h1 := ih k (by omega)
    rw [pbS]
    generalize pbS px py F t s n = g at h1 ⊢
    obtain ⟨rc, sn, lt⟩ := g
    have e : ¬ k = n := by omega
    unfold pbT
    dsimp only
    split
    · exact ⟨(show vp_updL rc n _ k = rc k from if_neg e).trans h1.1, (pk_un e).trans h1.2⟩
    · exact ⟨(show vp_updL rc n _ k = rc k from if_neg e).trans h1.1, (pk_un e).trans h1.2⟩
theorem gen_qo {sN qN : Nat} {g : GT} : ∀ n k, qN ≤ k → (genN sN qN g n).2.2.2.1 k = g.2.2.2.1 k := by
  intro n
  induction n with
  | zero => intro k _; rfl
  | succ n ih =>
    intro k hk
    show qIt _ _ _ _ (genN sN qN g n).2.2.2.1 qN k = _
    unfold qIt
    rw [if_neg (by omega)]; exact ih k hk
theorem genR_q {sN pN : Nat} {sx sy : Nat → Int32} {pt : Nat → Int64} {mn px py : Nat → Int32} {g : RT} : ∀ n k, pN ≤ k → (genRN sN pN sx sy pt mn px py g n).2.2.2.2.2.2.2.2.1 k = g.2.2.2.2.2.2.2.2.1 k ∧ (genRN sN pN sx sy pt mn px py g n).2.2.2.2.2.2.2.2.2.1 k = g.2.2.2.2.2.2.2.2.2.1 k := by
  intro n
  induction n with
  | zero => intro k _; exact ⟨rfl, rfl⟩
  | succ n ih =>
    intro k hk
    have h1 := ih k hk
    have h2 := pbS_at (px := px) (py := py) (F := (gRn sN sx sy pt mn (genRN sN pN sx sy pt mn px py g n)).1) (t := nI ((genRN sN pN sx sy pt mn px py g n).2.2.2.2.2.2.1 + 1)) (s := (genRN sN pN sx sy pt mn px py g n).2.2.2.2.2.2.2.2) pN k hk
    exact ⟨h2.1.trans h1.1, h2.2.trans h1.2⟩
theorem bkS_len {so : Nat → Int32 × Int32 × Int64 × Nat × Nat} {mq : Nat → Nat} : slen (bkS so mq 4) = slen so := by
  funext k
  unfold slen bkS
  split <;> rfl
set_option maxRecDepth 100000 in
set_option maxHeartbeats 200000 in
theorem call_run {l : Launch} {b : Nat} {D : va_G} {ta : Nat → ClassId} {B : Nat} {c : CSt} {r : RSt} (I : Inv B c r) (hB : B + 60 < 2 ^ 30) (x : Int32) : Pr l b D ta (B + 60) c r y_WF_run b_WF_run 3 (some .int) 4 [.int x] y_M_run b_M_run 3 3 [.int x] Int32 fI := by
  obtain ⟨F0, F1, F2, A0, A1, A2, ec, er, ed, eu, eo, P0, P1, P2, S, N, th, MS, MN, so, qo, sN, qN, kN, tN, M0, M1, M2, mp⟩ := c
  obtain ⟨wt, E0, E1, E2, HH, kt, kp, a, hi, tm, rN, sx, sy, pt, mn, pl, pN, px, py, sn, ltt, rc, tx, sz, us, D0, D1, D2, qx, qy, di, up, dn, be, op, gs, t0, fr, lf, pX, pY, pD, pU⟩ := r
  obtain ⟨R, ⟨n1, n2, n3, n4, n5⟩, zP, zD, T, U⟩ := I
  replace R : RG sN qN sx sy pt mn px py ((F0, F1, F2), (A0, A1, A2), so, qo, kN, tN, (M0, M1, M2), mp) ((E0, E1, E2), HH, kt, kp, a, hi, tm, pl, (rc, sn, ltt)) := R
  replace n1 : rN = sN := n1
  replace n2 : pN = qN := n2
  replace n3 : sN ≤ 4 := n3
  replace n4 : qN ≤ 4 := n4
  replace n5 : tN ≤ B := n5
  replace zP : Z24 P0 ∧ Z24 P1 ∧ Z24 P2 := zP
  replace zD : Z24 D0 ∧ Z24 D1 ∧ Z24 D2 := zD
  replace T : TI S N th MS MN tx sz us := T
  replace U : ∀ k, qN ≤ k → k < 4 → sn k = (qo k).2.2.1 ∧ (qo k).2.2.2.1 = -1 ∧ rc k = (qo k).2.2.2.2 := U
  subst n1 n2
  have R9 := R
  obtain ⟨r1, r2, r3, r4, r5, r6, r7, r8, r9, r10, r11, r12⟩ := R9
  replace r1 : (E0, E1, E2) = (F0, F1, F2) := r1
  cases r1
  replace r10 : hi = kN := r10
  replace r11 : tm = tN := r11
  subst r10 r11
  replace r2 : QX F0 F1 F2 := r2
  replace r3 : Z24 F0 ∧ Z24 F1 ∧ Z24 F2 := r3
  by_cases hf : x < 1 ∨ 60 < x
  · exact ⟨(F0, F1, F2, A0, A1, A2, ec, er, ed, eu, eo, P0, P1, P2, S, N, th, MS, MN, so, qo, rN, pN, hi, tm, M0, M1, M2, mp), (0, F0, F1, F2, HH, kt, kp, a, hi, tm, rN, sx, sy, pt, mn, pl, pN, px, py, sn, ltt, rc, tx, sz, us, D0, D1, D2, qx, qy, di, up, dn, be, op, gs, t0, fr, lf, pX, pY, pD, pU), -1, ⟨R, ⟨rfl, rfl, n3, n4, Nat.le_trans n5 (Nat.le_add_right _ _)⟩, zP, zD, T, U⟩, fun X => c_WF_run_f hf, fun σ X hl => c_M_run_f hl hf⟩
  · obtain ⟨n, hn, rfl⟩ := nI_of (x := x) (fun q => hf (Or.inl (Int32.lt_trans q (by decide))))
    have h1 : 1 ≤ n := (Nat.lt_or_ge n 1).elim (fun q => absurd (Or.inl (nI_lt (a := n) (b := 1) q (by decide))) hf) id
    have h60 : n ≤ 60 := (Nat.lt_or_ge 60 n).elim (fun q => absurd (Or.inr (nI_lt (a := 60) (b := n) q hn)) hf) id
    replace r7 : tieS rN so sx sy pt mn pl := r7
    replace r9 : tieQ pN qo px py sn ltt rc := r9
    replace r12 : hist rN (slen so) hi tm M0 M1 M2 mp a kt kp := r12
    have Rn := RG_n n3 R n
    have ht : tm + 60 < 2 ^ 30 := by omega
    have hF := Rn.1
    have e : cntR (selF (genRN rN pN sx sy pt mn px py ((F0, F1, F2), HH, kt, kp, a, hi, tm, pl, (rc, sn, ltt)) n).1.1 (genRN rN pN sx sy pt mn px py ((F0, F1, F2), HH, kt, kp, a, hi, tm, pl, (rc, sn, ltt)) n).1.2.1 (genRN rN pN sx sy pt mn px py ((F0, F1, F2), HH, kt, kp, a, hi, tm, pl, (rc, sn, ltt)) n).1.2.2 1) 768 = cntF (selF (genN rN pN ((F0, F1, F2), (A0, A1, A2), so, qo, hi, tm, (M0, M1, M2), mp) n).1.1 (genN rN pN ((F0, F1, F2), (A0, A1, A2), so, qo, hi, tm, (M0, M1, M2), mp) n).1.2.1 (genN rN pN ((F0, F1, F2), (A0, A1, A2), so, qo, hi, tm, (M0, M1, M2), mp) n).1.2.2 1) 24 := by rw [cnt_768, hF]
    have hs : ∀ k, k < rN → inF (sx k) (sy k) = true := fun k hk => by
      obtain ⟨⟨C, R2, hC, hR, e1, e2⟩, a1, a2, _⟩ := r7 k hk
      rw [a1, a2, e1, e2]; exact inF_n hC hR
    have hq : ∀ k, k < pN → inF (px k) (py k) = true := fun k hk => by
      obtain ⟨⟨C, R2, hC, hR, e1, e2⟩, a1, a2, _⟩ := r9 k hk
      rw [a1, a2, e1, e2]; exact inF_n hC hR
    have hm : ∀ k, k < rN → ¬ mn k = 0 := fun k hk => by
      obtain ⟨_, _, _, _, a4, _, a6, a7⟩ := r7 k hk
      rw [a4]; exact nI_ne0 (by omega) (by omega)
    refine ⟨((genN rN pN ((F0, F1, F2), (A0, A1, A2), so, qo, hi, tm, (M0, M1, M2), mp) n).1.1, (genN rN pN ((F0, F1, F2), (A0, A1, A2), so, qo, hi, tm, (M0, M1, M2), mp) n).1.2.1, (genN rN pN ((F0, F1, F2), (A0, A1, A2), so, qo, hi, tm, (M0, M1, M2), mp) n).1.2.2, (genN rN pN ((F0, F1, F2), (A0, A1, A2), so, qo, hi, tm, (M0, M1, M2), mp) n).2.1.1, (genN rN pN ((F0, F1, F2), (A0, A1, A2), so, qo, hi, tm, (M0, M1, M2), mp) n).2.1.2.1, (genN rN pN ((F0, F1, F2), (A0, A1, A2), so, qo, hi, tm, (M0, M1, M2), mp) n).2.1.2.2, ec, er, ed, eu, eo, P0, P1, P2, S, N, th, MS, MN, (genN rN pN ((F0, F1, F2), (A0, A1, A2), so, qo, hi, tm, (M0, M1, M2), mp) n).2.2.1, (genN rN pN ((F0, F1, F2), (A0, A1, A2), so, qo, hi, tm, (M0, M1, M2), mp) n).2.2.2.1, rN, pN, (genN rN pN ((F0, F1, F2), (A0, A1, A2), so, qo, hi, tm, (M0, M1, M2), mp) n).2.2.2.2.1, (genN rN pN ((F0, F1, F2), (A0, A1, A2), so, qo, hi, tm, (M0, M1, M2), mp) n).2.2.2.2.2.1, (genN rN pN ((F0, F1, F2), (A0, A1, A2), so, qo, hi, tm, (M0, M1, M2), mp) n).2.2.2.2.2.2.1.1, (genN rN pN ((F0, F1, F2), (A0, A1, A2), so, qo, hi, tm, (M0, M1, M2), mp) n).2.2.2.2.2.2.1.2.1, (genN rN pN ((F0, F1, F2), (A0, A1, A2), so, qo, hi, tm, (M0, M1, M2), mp) n).2.2.2.2.2.2.1.2.2, (genN rN pN ((F0, F1, F2), (A0, A1, A2), so, qo, hi, tm, (M0, M1, M2), mp) n).2.2.2.2.2.2.2), (0, (genRN rN pN sx sy pt mn px py ((F0, F1, F2), HH, kt, kp, a, hi, tm, pl, (rc, sn, ltt)) n).1.1, (genRN rN pN sx sy pt mn px py ((F0, F1, F2), HH, kt, kp, a, hi, tm, pl, (rc, sn, ltt)) n).1.2.1, (genRN rN pN sx sy pt mn px py ((F0, F1, F2), HH, kt, kp, a, hi, tm, pl, (rc, sn, ltt)) n).1.2.2, (genRN rN pN sx sy pt mn px py ((F0, F1, F2), HH, kt, kp, a, hi, tm, pl, (rc, sn, ltt)) n).2.1, (genRN rN pN sx sy pt mn px py ((F0, F1, F2), HH, kt, kp, a, hi, tm, pl, (rc, sn, ltt)) n).2.2.1, (genRN rN pN sx sy pt mn px py ((F0, F1, F2), HH, kt, kp, a, hi, tm, pl, (rc, sn, ltt)) n).2.2.2.1, (genRN rN pN sx sy pt mn px py ((F0, F1, F2), HH, kt, kp, a, hi, tm, pl, (rc, sn, ltt)) n).2.2.2.2.1, (genRN rN pN sx sy pt mn px py ((F0, F1, F2), HH, kt, kp, a, hi, tm, pl, (rc, sn, ltt)) n).2.2.2.2.2.1, (genRN rN pN sx sy pt mn px py ((F0, F1, F2), HH, kt, kp, a, hi, tm, pl, (rc, sn, ltt)) n).2.2.2.2.2.2.1, rN, sx, sy, pt, mn, (genRN rN pN sx sy pt mn px py ((F0, F1, F2), HH, kt, kp, a, hi, tm, pl, (rc, sn, ltt)) n).2.2.2.2.2.2.2.1, pN, px, py, (genRN rN pN sx sy pt mn px py ((F0, F1, F2), HH, kt, kp, a, hi, tm, pl, (rc, sn, ltt)) n).2.2.2.2.2.2.2.2.2.1, (genRN rN pN sx sy pt mn px py ((F0, F1, F2), HH, kt, kp, a, hi, tm, pl, (rc, sn, ltt)) n).2.2.2.2.2.2.2.2.2.2, (genRN rN pN sx sy pt mn px py ((F0, F1, F2), HH, kt, kp, a, hi, tm, pl, (rc, sn, ltt)) n).2.2.2.2.2.2.2.2.1, tx, sz, us, D0, D1, D2, qx, qy, di, up, dn, be, op, gs, t0, fr, lf, pX, pY, pD, pU), cntF (selF (genN rN pN ((F0, F1, F2), (A0, A1, A2), so, qo, hi, tm, (M0, M1, M2), mp) n).1.1 (genN rN pN ((F0, F1, F2), (A0, A1, A2), so, qo, hi, tm, (M0, M1, M2), mp) n).1.2.1 (genN rN pN ((F0, F1, F2), (A0, A1, A2), so, qo, hi, tm, (M0, M1, M2), mp) n).1.2.2 1) 24, ⟨Rn, ⟨rfl, rfl, n3, n4, ?_⟩, zP, zD, T, fun k q1 q2 => ?_⟩, fun X => c_WF_run_t h1 h60 ht n3 n4 (fun k => RG_GI (RG_n n3 R k)), fun σ X hl => by rw [← e]; exact c_M_run_t hl h1 h60 r12.2.2.1 r12.2.1 n3 n4 hs hq hm⟩
    · show (genN rN pN ((F0, F1, F2), (A0, A1, A2), so, qo, hi, tm, (M0, M1, M2), mp) n).2.2.2.2.2.1 ≤ B + 60
      rw [genN_t]; show tm + n ≤ B + 60; omega
    · show (genRN rN pN sx sy pt mn px py ((F0, F1, F2), HH, kt, kp, a, hi, tm, pl, (rc, sn, ltt)) n).2.2.2.2.2.2.2.2.2.1 k = ((genN rN pN ((F0, F1, F2), (A0, A1, A2), so, qo, hi, tm, (M0, M1, M2), mp) n).2.2.2.1 k).2.2.1 ∧ ((genN rN pN ((F0, F1, F2), (A0, A1, A2), so, qo, hi, tm, (M0, M1, M2), mp) n).2.2.2.1 k).2.2.2.1 = -1 ∧ (genRN rN pN sx sy pt mn px py ((F0, F1, F2), HH, kt, kp, a, hi, tm, pl, (rc, sn, ltt)) n).2.2.2.2.2.2.2.2.1 k = ((genN rN pN ((F0, F1, F2), (A0, A1, A2), so, qo, hi, tm, (M0, M1, M2), mp) n).2.2.2.1 k).2.2.2.2
      rw [gen_qo n k q1, (genR_q n k q1).1, (genR_q n k q1).2]
      exact U k q1 q2
set_option maxRecDepth 100000 in
set_option maxHeartbeats 200000 in
theorem call_back {l : Launch} {b : Nat} {D : va_G} {ta : Nat → ClassId} {B : Nat} {c : CSt} {r : RSt} (I : Inv B c r) (hB : B < 2 ^ 30) (x : Int32) : Pr l b D ta B c r y_WF_back b_WF_back 4 (some .boolean) 2 [.int x] y_M_back b_M_back 3 0 [.int x] Int32 fI := by
  obtain ⟨F0, F1, F2, A0, A1, A2, ec, er, ed, eu, eo, P0, P1, P2, S, N, th, MS, MN, so, qo, sN, qN, kN, tN, M0, M1, M2, mp⟩ := c
  obtain ⟨wt, E0, E1, E2, HH, kt, kp, a, hi, tm, rN, sx, sy, pt, mn, pl, pN, px, py, sn, ltt, rc, tx, sz, us, D0, D1, D2, qx, qy, di, up, dn, be, op, gs, t0, fr, lf, pX, pY, pD, pU⟩ := r
  obtain ⟨R, ⟨n1, n2, n3, n4, n5⟩, zP, zD, T, U⟩ := I
  replace R : RG sN qN sx sy pt mn px py ((F0, F1, F2), (A0, A1, A2), so, qo, kN, tN, (M0, M1, M2), mp) ((E0, E1, E2), HH, kt, kp, a, hi, tm, pl, (rc, sn, ltt)) := R
  replace n1 : rN = sN := n1
  replace n2 : pN = qN := n2
  replace n3 : sN ≤ 4 := n3
  replace n4 : qN ≤ 4 := n4
  replace n5 : tN ≤ B := n5
  replace zP : Z24 P0 ∧ Z24 P1 ∧ Z24 P2 := zP
  replace zD : Z24 D0 ∧ Z24 D1 ∧ Z24 D2 := zD
  replace T : TI S N th MS MN tx sz us := T
  replace U : ∀ k, qN ≤ k → k < 4 → sn k = (qo k).2.2.1 ∧ (qo k).2.2.2.1 = -1 ∧ rc k = (qo k).2.2.2.2 := U
  subst n1 n2
  have R9 := R
  obtain ⟨r1, r2, r3, r4, r5, r6, r7, r8, r9, r10, r11, r12⟩ := R9
  replace r1 : (E0, E1, E2) = (F0, F1, F2) := r1
  cases r1
  replace r10 : hi = kN := r10
  replace r11 : tm = tN := r11
  subst r10 r11
  replace r2 : QX F0 F1 F2 := r2
  replace r3 : Z24 F0 ∧ Z24 F1 ∧ Z24 F2 := r3
  replace r12 : hist rN (slen so) hi tm M0 M1 M2 mp a kt kp := r12
  by_cases hf : x < 1 ∨ nI hi < x
  · exact ⟨(F0, F1, F2, A0, A1, A2, ec, er, ed, eu, eo, P0, P1, P2, S, N, th, MS, MN, so, qo, rN, pN, hi, tm, M0, M1, M2, mp), (0, F0, F1, F2, HH, kt, kp, a, hi, tm, rN, sx, sy, pt, mn, pl, pN, px, py, sn, ltt, rc, tx, sz, us, D0, D1, D2, qx, qy, di, up, dn, be, op, gs, t0, fr, lf, pX, pY, pD, pU), 0, ⟨R, ⟨rfl, rfl, n3, n4, n5⟩, zP, zD, T, U⟩, fun X => c_WF_back_f r12.2.1 hf, fun σ X hl => c_M_back_f hl hf⟩
  · obtain ⟨n, hn, rfl⟩ := nI_of (x := x) (fun q => hf (Or.inl (Int32.lt_trans q (by decide))))
    have h1 : 1 ≤ n := (Nat.lt_or_ge n 1).elim (fun q => absurd (Or.inl (nI_lt (a := n) (b := 1) q (by decide))) hf) id
    have hh : n ≤ hi := (Nat.lt_or_ge hi n).elim (fun q => absurd (Or.inr (nI_lt q hn)) hf) id
    replace r7 : tieS rN so sx sy pt mn pl := r7
    replace r8 : ∀ k, k < 4 → slen so k ≤ 64 ∧ (rN ≤ k → (so k).2.2.2.2 = 0 ∧ pl k = 0) := r8
    replace r5 : ∀ j, Z24 (M0 j) ∧ Z24 (M1 j) ∧ Z24 (M2 j) := r5
    have o := r12.2.2.2 n h1 hh
    have ht : tm < 2 ^ 31 := by omega
    obtain ⟨mq, hmq⟩ := hMo_mq o
    have hF := hMo_F o (r5 _).1 (r5 _).2.1 (r5 _).2.2 r3.1 r3.2.1 r3.2.2
    have hi2 : RG rN pN sx sy pt mn px py ((M0 ((tm - n) % 16), M1 ((tm - n) % 16), M2 ((tm - n) % 16)), (A0, A1, A2), bkS so mq 4, qo, hi - n, tm - n, (M0, M1, M2), mp) ((bk1 kt ((a + 16 - n) % 16) F0 24, bk2 kt ((a + 16 - n) % 16) F1 24, bk3 kt ((a + 16 - n) % 16) F2 24), HH, kt, kp, ((a + 16 - n) % 16), hi - n, tm - n, bkp kp ((a + 16 - n) % 16) pl 4, (rc, sn, ltt)) := by
      refine ⟨?_, o.2.1, r5 _, r4, r5, r6, fun k hk => ?_, fun k hk => ⟨?_, fun q => ?_⟩, r9, rfl, rfl, ?_⟩
      · show (bk1 kt ((a + 16 - n) % 16) F0 24, bk2 kt ((a + 16 - n) % 16) F1 24, bk3 kt ((a + 16 - n) % 16) F2 24) = _
        rw [hF.1, hF.2.1, hF.2.2]
      · obtain ⟨b1, b2, b3, b4, b5, b6, b7, b8⟩ := r7 k hk
        have hk4 : k < 4 := by omega
        have es : bkS so mq 4 k = ((so k).1, (so k).2.1, (so k).2.2.1, (so k).2.2.2.1, mq k) := if_pos hk4
        show (∃ C R : Nat, C < 32 ∧ R < 24 ∧ (bkS so mq 4 k).1 = nI C ∧ (bkS so mq 4 k).2.1 = nI R) ∧ sx k = (bkS so mq 4 k).1 ∧ sy k = (bkS so mq 4 k).2.1 ∧ pt k = (bkS so mq 4 k).2.2.1 ∧ mn k = nI (bkS so mq 4 k).2.2.2.1 ∧ bkp kp ((a + 16 - n) % 16) pl 4 k = nI (bkS so mq 4 k).2.2.2.2 ∧ (bkS so mq 4 k).2.2.2.2 < (bkS so mq 4 k).2.2.2.1 ∧ (bkS so mq 4 k).2.2.2.1 ≤ 64
        rw [es, bkp_at, if_pos hk4]
        exact ⟨b1, b2, b3, b4, b5, (hmq k hk4).2.1, (hmq k hk4).2.2.1 hk, b8⟩
      · show slen (bkS so mq 4) k ≤ 64
        rw [bkS_len]; exact (r8 k hk).1
      · show (bkS so mq 4 k).2.2.2.2 = 0 ∧ bkp kp ((a + 16 - n) % 16) pl 4 k = 0
        rw [show bkS so mq 4 k = ((so k).1, (so k).2.1, (so k).2.2.1, (so k).2.2.2.1, mq k) from if_pos hk, bkp_at, if_pos hk, (hmq k hk).2.1, (hmq k hk).2.2.2 q]
        exact ⟨rfl, rfl⟩
      · show hist rN (slen (bkS so mq 4)) (hi - n) (tm - n) M0 M1 M2 mp ((a + 16 - n) % 16) kt kp
        rw [bkS_len]; exact hist_back r12 h1 hh
    exact ⟨(M0 ((tm - n) % 16), M1 ((tm - n) % 16), M2 ((tm - n) % 16), A0, A1, A2, ec, er, ed, eu, eo, P0, P1, P2, S, N, th, MS, MN, bkS so mq 4, qo, rN, pN, hi - n, tm - n, M0, M1, M2, mp), (0, bk1 kt ((a + 16 - n) % 16) F0 24, bk2 kt ((a + 16 - n) % 16) F1 24, bk3 kt ((a + 16 - n) % 16) F2 24, HH, kt, kp, ((a + 16 - n) % 16), hi - n, tm - n, rN, sx, sy, pt, mn, bkp kp ((a + 16 - n) % 16) pl 4, pN, px, py, sn, ltt, rc, tx, sz, us, D0, D1, D2, qx, qy, di, up, dn, be, op, gs, t0, fr, lf, pX, pY, pD, pU), 1, ⟨hi2, ⟨rfl, rfl, n3, n4, by show tm - n ≤ B; omega⟩, zP, zD, T, U⟩, fun X => c_WF_back_t h1 hh r12.1 ht (fun k hk => (hmq k hk).1) (r5 _).1 (r5 _).2.1 (r5 _).2.2 r3.1 r3.2.1 r3.2.2, fun σ X hl => c_M_back_t hl h1 hh r12.2.1 r12.2.2.1 r12.1⟩
set_option maxRecDepth 100000 in
set_option maxHeartbeats 200000 in
theorem call_look {l : Launch} {b : Nat} {D : va_G} {ta : Nat → ClassId} {B : Nat} {c : CSt} {r : RSt} (I : Inv B c r) (x : Int32) : Pr l b D ta B c r y_WF_look b_WF_look 2 (some .int) 2 [.int x] y_M_look b_M_look 2 2 [.int x] Int32 fI := by
  obtain ⟨F0, F1, F2, A0, A1, A2, ec, er, ed, eu, eo, P0, P1, P2, S, N, th, MS, MN, so, qo, sN, qN, kN, tN, M0, M1, M2, mp⟩ := c
  obtain ⟨wt, E0, E1, E2, HH, kt, kp, a, hi, tm, rN, sx, sy, pt, mn, pl, pN, px, py, sn, ltt, rc, tx, sz, us, D0, D1, D2, qx, qy, di, up, dn, be, op, gs, t0, fr, lf, pX, pY, pD, pU⟩ := r
  obtain ⟨R, ⟨n1, n2, n3, n4, n5⟩, zP, zD, T, U⟩ := I
  replace R : RG sN qN sx sy pt mn px py ((F0, F1, F2), (A0, A1, A2), so, qo, kN, tN, (M0, M1, M2), mp) ((E0, E1, E2), HH, kt, kp, a, hi, tm, pl, (rc, sn, ltt)) := R
  replace n1 : rN = sN := n1
  replace n2 : pN = qN := n2
  replace n3 : sN ≤ 4 := n3
  replace n4 : qN ≤ 4 := n4
  replace n5 : tN ≤ B := n5
  replace zP : Z24 P0 ∧ Z24 P1 ∧ Z24 P2 := zP
  replace zD : Z24 D0 ∧ Z24 D1 ∧ Z24 D2 := zD
  replace T : TI S N th MS MN tx sz us := T
  replace U : ∀ k, qN ≤ k → k < 4 → sn k = (qo k).2.2.1 ∧ (qo k).2.2.2.1 = -1 ∧ rc k = (qo k).2.2.2.2 := U
  subst n1 n2
  have R9 := R
  obtain ⟨r1, r2, r3, r4, r5, r6, r7, r8, r9, r10, r11, r12⟩ := R9
  replace r1 : (E0, E1, E2) = (F0, F1, F2) := r1
  cases r1
  replace r10 : hi = kN := r10
  replace r11 : tm = tN := r11
  subst r10 r11
  replace r2 : QX F0 F1 F2 := r2
  replace r3 : Z24 F0 ∧ Z24 F1 ∧ Z24 F2 := r3
  by_cases h0 : x = 0
  · subst h0
    have e : lkR F0 F1 F2 tm hi rN pN (sz 4) 0 = nI tm := rfl
    exact ⟨(F0, F1, F2, A0, A1, A2, ec, er, ed, eu, eo, P0, P1, P2, S, N, th, MS, MN, so, qo, rN, pN, hi, tm, M0, M1, M2, mp), (0, F0, F1, F2, HH, kt, kp, a, hi, tm, rN, sx, sy, pt, mn, pl, pN, px, py, sn, ltt, rc, tx, sz, us, D0, D1, D2, qx, qy, di, up, dn, be, op, gs, t0, fr, lf, pX, pY, pD, pU), nI tm, ⟨R, ⟨rfl, rfl, n3, n4, n5⟩, zP, zD, T, U⟩, fun X => c_WF_look_0, fun σ X hl => by rw [← e]; exact c_M_look hl 0⟩
  by_cases h1 : x = 1
  · subst h1
    have e : lkR F0 F1 F2 tm hi rN pN (sz 4) 1 = cntF (selF F0 F1 F2 1) 24 := by show cntR (selF F0 F1 F2 1) 768 = _; exact cnt_768
    exact ⟨(F0, F1, F2, A0, A1, A2, ec, er, ed, eu, eo, P0, P1, P2, S, N, th, MS, MN, so, qo, rN, pN, hi, tm, M0, M1, M2, mp), (0, F0, F1, F2, HH, kt, kp, a, hi, tm, rN, sx, sy, pt, mn, pl, pN, px, py, sn, ltt, rc, tx, sz, us, D0, D1, D2, qx, qy, di, up, dn, be, op, gs, t0, fr, lf, pX, pY, pD, pU), cntF (selF F0 F1 F2 1) 24, ⟨R, ⟨rfl, rfl, n3, n4, n5⟩, zP, zD, T, U⟩, fun X => c_WF_look_1, fun σ X hl => by rw [← e]; exact c_M_look hl 1⟩
  by_cases h2 : x = 2
  · subst h2
    have e : lkR F0 F1 F2 tm hi rN pN (sz 4) 2 = cntF (selF F0 F1 F2 2) 24 := by show cntR (selF F0 F1 F2 2) 768 = _; exact cnt_768
    exact ⟨(F0, F1, F2, A0, A1, A2, ec, er, ed, eu, eo, P0, P1, P2, S, N, th, MS, MN, so, qo, rN, pN, hi, tm, M0, M1, M2, mp), (0, F0, F1, F2, HH, kt, kp, a, hi, tm, rN, sx, sy, pt, mn, pl, pN, px, py, sn, ltt, rc, tx, sz, us, D0, D1, D2, qx, qy, di, up, dn, be, op, gs, t0, fr, lf, pX, pY, pD, pU), cntF (selF F0 F1 F2 2) 24, ⟨R, ⟨rfl, rfl, n3, n4, n5⟩, zP, zD, T, U⟩, fun X => c_WF_look_2, fun σ X hl => by rw [← e]; exact c_M_look hl 2⟩
  by_cases h3 : x = 3
  · subst h3
    have e : lkR F0 F1 F2 tm hi rN pN (sz 4) 3 = cntF (selF F0 F1 F2 3) 24 := by show cntR (selF F0 F1 F2 3) 768 = _; exact cnt_768
    exact ⟨(F0, F1, F2, A0, A1, A2, ec, er, ed, eu, eo, P0, P1, P2, S, N, th, MS, MN, so, qo, rN, pN, hi, tm, M0, M1, M2, mp), (0, F0, F1, F2, HH, kt, kp, a, hi, tm, rN, sx, sy, pt, mn, pl, pN, px, py, sn, ltt, rc, tx, sz, us, D0, D1, D2, qx, qy, di, up, dn, be, op, gs, t0, fr, lf, pX, pY, pD, pU), cntF (selF F0 F1 F2 3) 24, ⟨R, ⟨rfl, rfl, n3, n4, n5⟩, zP, zD, T, U⟩, fun X => c_WF_look_3, fun σ X hl => by rw [← e]; exact c_M_look hl 3⟩
  by_cases h4 : x = 4
  · subst h4
    have e : lkR F0 F1 F2 tm hi rN pN (sz 4) 4 = nI hi := rfl
    exact ⟨(F0, F1, F2, A0, A1, A2, ec, er, ed, eu, eo, P0, P1, P2, S, N, th, MS, MN, so, qo, rN, pN, hi, tm, M0, M1, M2, mp), (0, F0, F1, F2, HH, kt, kp, a, hi, tm, rN, sx, sy, pt, mn, pl, pN, px, py, sn, ltt, rc, tx, sz, us, D0, D1, D2, qx, qy, di, up, dn, be, op, gs, t0, fr, lf, pX, pY, pD, pU), nI hi, ⟨R, ⟨rfl, rfl, n3, n4, n5⟩, zP, zD, T, U⟩, fun X => c_WF_look_4, fun σ X hl => by rw [← e]; exact c_M_look hl 4⟩
  by_cases h5 : x = 5
  · subst h5
    have e : lkR F0 F1 F2 tm hi rN pN (sz 4) 5 = nI rN := rfl
    exact ⟨(F0, F1, F2, A0, A1, A2, ec, er, ed, eu, eo, P0, P1, P2, S, N, th, MS, MN, so, qo, rN, pN, hi, tm, M0, M1, M2, mp), (0, F0, F1, F2, HH, kt, kp, a, hi, tm, rN, sx, sy, pt, mn, pl, pN, px, py, sn, ltt, rc, tx, sz, us, D0, D1, D2, qx, qy, di, up, dn, be, op, gs, t0, fr, lf, pX, pY, pD, pU), nI rN, ⟨R, ⟨rfl, rfl, n3, n4, n5⟩, zP, zD, T, U⟩, fun X => c_WF_look_5, fun σ X hl => by rw [← e]; exact c_M_look hl 5⟩
  by_cases h6 : x = 6
  · subst h6
    have e : lkR F0 F1 F2 tm hi rN pN (sz 4) 6 = nI pN := rfl
    exact ⟨(F0, F1, F2, A0, A1, A2, ec, er, ed, eu, eo, P0, P1, P2, S, N, th, MS, MN, so, qo, rN, pN, hi, tm, M0, M1, M2, mp), (0, F0, F1, F2, HH, kt, kp, a, hi, tm, rN, sx, sy, pt, mn, pl, pN, px, py, sn, ltt, rc, tx, sz, us, D0, D1, D2, qx, qy, di, up, dn, be, op, gs, t0, fr, lf, pX, pY, pD, pU), nI pN, ⟨R, ⟨rfl, rfl, n3, n4, n5⟩, zP, zD, T, U⟩, fun X => c_WF_look_6, fun σ X hl => by rw [← e]; exact c_M_look hl 6⟩
  by_cases h7 : x = 7
  · subst h7
    have e : lkR F0 F1 F2 tm hi rN pN (sz 4) 7 = nI N := T.2.1
    exact ⟨(F0, F1, F2, A0, A1, A2, ec, er, ed, eu, eo, P0, P1, P2, S, N, th, MS, MN, so, qo, rN, pN, hi, tm, M0, M1, M2, mp), (0, F0, F1, F2, HH, kt, kp, a, hi, tm, rN, sx, sy, pt, mn, pl, pN, px, py, sn, ltt, rc, tx, sz, us, D0, D1, D2, qx, qy, di, up, dn, be, op, gs, t0, fr, lf, pX, pY, pD, pU), nI N, ⟨R, ⟨rfl, rfl, n3, n4, n5⟩, zP, zD, T, U⟩, fun X => c_WF_look_7, fun σ X hl => by rw [← e]; exact c_M_look hl 7⟩
  have hx : x.toInt < 0 ∨ 7 < x.toInt := by
    by_cases q : x.toInt < 0 ∨ 7 < x.toInt
    · exact q
    · exfalso
      have hb : 0 ≤ x.toInt ∧ x.toInt ≤ 7 := by omega
      have hc : x.toInt = 0 ∨ x.toInt = 1 ∨ x.toInt = 2 ∨ x.toInt = 3 ∨ x.toInt = 4 ∨ x.toInt = 5 ∨ x.toInt = 6 ∨ x.toInt = 7 := by omega
      rcases hc with q | q | q | q | q | q | q | q
      · exact h0 (Int32.toInt_inj.mp (q.trans (by decide)))
      · exact h1 (Int32.toInt_inj.mp (q.trans (by decide)))
      · exact h2 (Int32.toInt_inj.mp (q.trans (by decide)))
      · exact h3 (Int32.toInt_inj.mp (q.trans (by decide)))
      · exact h4 (Int32.toInt_inj.mp (q.trans (by decide)))
      · exact h5 (Int32.toInt_inj.mp (q.trans (by decide)))
      · exact h6 (Int32.toInt_inj.mp (q.trans (by decide)))
      · exact h7 (Int32.toInt_inj.mp (q.trans (by decide)))
  have e : lkR F0 F1 F2 tm hi rN pN (sz 4) x = -1 := by
    unfold lkR
    by_cases h : 4 ≤ x
    · rw [if_pos h, if_neg h4, if_neg h5, if_neg h6, if_neg h7]
    · rw [if_neg h, if_neg h0]
      have hz : x ≤ 0 := by
        rw [i_le] at h ⊢
        have e1 : (4 : Int32).toInt = 4 := by decide
        have e2 : (0 : Int32).toInt = 0 := by decide
        rw [e1] at h
        rw [e2]
        omega
      rw [if_pos hz]
  exact ⟨(F0, F1, F2, A0, A1, A2, ec, er, ed, eu, eo, P0, P1, P2, S, N, th, MS, MN, so, qo, rN, pN, hi, tm, M0, M1, M2, mp), (0, F0, F1, F2, HH, kt, kp, a, hi, tm, rN, sx, sy, pt, mn, pl, pN, px, py, sn, ltt, rc, tx, sz, us, D0, D1, D2, qx, qy, di, up, dn, be, op, gs, t0, fr, lf, pX, pY, pD, pU), -1, ⟨R, ⟨rfl, rfl, n3, n4, n5⟩, zP, zD, T, U⟩, fun X => c_WF_look_x hx, fun σ X hl => by rw [← e]; exact c_M_look hl x⟩
