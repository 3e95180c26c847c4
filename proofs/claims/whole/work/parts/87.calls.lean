set_option maxRecDepth 100000 in
set_option maxHeartbeats 200000 in
theorem call_wipe {l : Launch} {b : Nat} {D : va_G} {ta : Nat → ClassId} {B : Nat} {c : CSt} {r : RSt} (I : Inv B c r) : Pr l b D ta B c r y_WF_wipe b_WF_wipe 1 none 1 [] y_M_wipe b_M_wipe 1 0 [] Unit fV := by
  obtain ⟨F0, F1, F2, A0, A1, A2, ec, er, ed, eu, eo, P0, P1, P2, S, N, th, MS, MN, so, qo, sN, qN, kN, tN, M0, M1, M2, mp⟩ := c
  obtain ⟨wt, E0, E1, E2, HH, kt, kp, a, hi, tm, rN, sx, sy, pt, mn, pl, pN, px, py, sn, ltt, rc, tx, sz, us, D0, D1, D2, qx, qy, di, up, dn, be, op, gs, t0, fr, lf, pX, pY, pD, pU⟩ := r
  obtain ⟨R, ⟨n1, n2, n3, n4, n5⟩, zP, zD, T, U⟩ := I
  replace R : RG sN qN sx sy pt mn px py ((F0, F1, F2), (A0, A1, A2), so, qo, kN, tN, (M0, M1, M2), mp) ((E0, E1, E2), HH, kt, kp, a, hi, tm, pl, (rc, sn, ltt)) := R
  replace n1 : rN = sN := n1
  replace n2 : pN = qN := n2
  replace n3 : sN ≤ 4 := n3
  replace n4 : qN ≤ 4 := n4
  replace n5 : tN ≤ B := n5
  replace zP : Z24 P0 ∧ Z24 P1 ∧ Z24 P2 := zP
  replace zD : Z24 D0 ∧ Z24 D1 ∧ Z24 D2 := zD
  replace T : TI S N th MS MN tx sz us := T
  replace U : ∀ k, qN ≤ k → k < 4 → sn k = (qo k).2.2.1 ∧ (qo k).2.2.2.1 = -1 ∧ rc k = (qo k).2.2.2.2 := U
  subst n1 n2
  have R9 := R
  obtain ⟨r1, r2, r3, r4, r5, r6, r7, r8, r9, r10, r11, r12⟩ := R9
  replace r1 : (E0, E1, E2) = (F0, F1, F2) := r1
  cases r1
  replace r10 : hi = kN := r10
  replace r11 : tm = tN := r11
  subst r10 r11
  replace r2 : QX F0 F1 F2 := r2
  replace r3 : Z24 F0 ∧ Z24 F1 ∧ Z24 F2 := r3
  exact ⟨(F0, F1, F2, A0, A1, A2, ec, er, ed, eu, eo, P0, P1, P2, S, 0, th, MS, MN, so, qo, rN, pN, hi, tm, M0, M1, M2, mp), (0, F0, F1, F2, HH, kt, kp, a, hi, tm, rN, sx, sy, pt, mn, pl, pN, px, py, sn, ltt, rc, tx, upd sz 4 0, us, D0, D1, D2, qx, qy, di, up, dn, be, op, gs, t0, fr, lf, pX, pY, pD, pU), (), ⟨R, ⟨rfl, rfl, n3, n4, n5⟩, zP, zD, TI_wipe T, U⟩, fun X => c_WF_wipe, fun σ X hl => c_M_wipe hl⟩
set_option maxRecDepth 100000 in
set_option maxHeartbeats 200000 in
theorem call_type {l : Launch} {b : Nat} {D : va_G} {ta : Nat → ClassId} {B : Nat} {c : CSt} {r : RSt} (I : Inv B c r) (x : Int32) : Pr l b D ta B c r y_WF_type b_WF_type 2 (some .boolean) 1 [.int x] y_M_type b_M_type 2 0 [.int x] Int32 fI := by
  obtain ⟨F0, F1, F2, A0, A1, A2, ec, er, ed, eu, eo, P0, P1, P2, S, N, th, MS, MN, so, qo, sN, qN, kN, tN, M0, M1, M2, mp⟩ := c
  obtain ⟨wt, E0, E1, E2, HH, kt, kp, a, hi, tm, rN, sx, sy, pt, mn, pl, pN, px, py, sn, ltt, rc, tx, sz, us, D0, D1, D2, qx, qy, di, up, dn, be, op, gs, t0, fr, lf, pX, pY, pD, pU⟩ := r
  obtain ⟨R, ⟨n1, n2, n3, n4, n5⟩, zP, zD, T, U⟩ := I
  replace R : RG sN qN sx sy pt mn px py ((F0, F1, F2), (A0, A1, A2), so, qo, kN, tN, (M0, M1, M2), mp) ((E0, E1, E2), HH, kt, kp, a, hi, tm, pl, (rc, sn, ltt)) := R
  replace n1 : rN = sN := n1
  replace n2 : pN = qN := n2
  replace n3 : sN ≤ 4 := n3
  replace n4 : qN ≤ 4 := n4
  replace n5 : tN ≤ B := n5
  replace zP : Z24 P0 ∧ Z24 P1 ∧ Z24 P2 := zP
  replace zD : Z24 D0 ∧ Z24 D1 ∧ Z24 D2 := zD
  replace T : TI S N th MS MN tx sz us := T
  replace U : ∀ k, qN ≤ k → k < 4 → sn k = (qo k).2.2.1 ∧ (qo k).2.2.2.1 = -1 ∧ rc k = (qo k).2.2.2.2 := U
  subst n1 n2
  have R9 := R
  obtain ⟨r1, r2, r3, r4, r5, r6, r7, r8, r9, r10, r11, r12⟩ := R9
  replace r1 : (E0, E1, E2) = (F0, F1, F2) := r1
  cases r1
  replace r10 : hi = kN := r10
  replace r11 : tm = tN := r11
  subst r10 r11
  replace r2 : QX F0 F1 F2 := r2
  replace r3 : Z24 F0 ∧ Z24 F1 ∧ Z24 F2 := r3
  by_cases h1 : x < 33
  · exact ⟨(F0, F1, F2, A0, A1, A2, ec, er, ed, eu, eo, P0, P1, P2, S, N, th, MS, MN, so, qo, rN, pN, hi, tm, M0, M1, M2, mp), (0, F0, F1, F2, HH, kt, kp, a, hi, tm, rN, sx, sy, pt, mn, pl, pN, px, py, sn, ltt, rc, tx, sz, us, D0, D1, D2, qx, qy, di, up, dn, be, op, gs, t0, fr, lf, pX, pY, pD, pU), 0, ⟨R, ⟨rfl, rfl, n3, n4, n5⟩, zP, zD, T, U⟩, fun X => c_WF_type_f (Or.inl h1), fun σ X hl => c_M_type_f hl (Or.inl h1)⟩
  by_cases h2 : 126 < x
  · exact ⟨(F0, F1, F2, A0, A1, A2, ec, er, ed, eu, eo, P0, P1, P2, S, N, th, MS, MN, so, qo, rN, pN, hi, tm, M0, M1, M2, mp), (0, F0, F1, F2, HH, kt, kp, a, hi, tm, rN, sx, sy, pt, mn, pl, pN, px, py, sn, ltt, rc, tx, sz, us, D0, D1, D2, qx, qy, di, up, dn, be, op, gs, t0, fr, lf, pX, pY, pD, pU), 0, ⟨R, ⟨rfl, rfl, n3, n4, n5⟩, zP, zD, T, U⟩, fun X => c_WF_type_f (Or.inr (Or.inl h2)), fun σ X hl => c_M_type_f hl (Or.inr (Or.inl h2))⟩
  by_cases h3 : N = 60
  · have hsz : sz 4 = 60 := by rw [T.2.1, h3]; rfl
    exact ⟨(F0, F1, F2, A0, A1, A2, ec, er, ed, eu, eo, P0, P1, P2, S, N, th, MS, MN, so, qo, rN, pN, hi, tm, M0, M1, M2, mp), (0, F0, F1, F2, HH, kt, kp, a, hi, tm, rN, sx, sy, pt, mn, pl, pN, px, py, sn, ltt, rc, tx, sz, us, D0, D1, D2, qx, qy, di, up, dn, be, op, gs, t0, fr, lf, pX, pY, pD, pU), 0, ⟨R, ⟨rfl, rfl, n3, n4, n5⟩, zP, zD, T, U⟩, fun X => c_WF_type_f (Or.inr (Or.inr h3)), fun σ X hl => c_M_type_f hl (Or.inr (Or.inr hsz))⟩
  obtain ⟨C, hC, rfl⟩ := nI_of (x := x) (fun q => h1 (Int32.lt_trans q (by decide)))
  have hC33 : 33 ≤ C := (Nat.lt_or_ge C 33).elim (fun q => absurd (nI_lt (a := C) (b := 33) q (by decide)) h1) id
  have hC126 : C ≤ 126 := (Nat.lt_or_ge 126 C).elim (fun q => absurd (nI_lt (a := 126) (b := C) q hC) h2) id
  have hN : N < 60 := by have := T.1; omega
  exact ⟨(F0, F1, F2, A0, A1, A2, ec, er, ed, eu, eo, P0, P1, P2, upd S N (nI C), N + 1, th, MS, MN, so, qo, rN, pN, hi, tm, M0, M1, M2, mp), (0, F0, F1, F2, HH, kt, kp, a, hi, tm, rN, sx, sy, pt, mn, pl, pN, px, py, sn, ltt, rc, upd tx (240 + N) (nI C), upd sz 4 (nI (N + 1)), us, D0, D1, D2, qx, qy, di, up, dn, be, op, gs, t0, fr, lf, pX, pY, pD, pU), 1, ⟨R, ⟨rfl, rfl, n3, n4, n5⟩, zP, zD, TI_type T hC126 hN, U⟩, fun X => c_WF_type_t hC33 hC126 hN, fun σ X hl => c_M_type_t hl hC33 hC126 T.2.1 hN⟩
set_option maxRecDepth 100000 in
set_option maxHeartbeats 200000 in
theorem call_cell {l : Launch} {b : Nat} {D : va_G} {ta : Nat → ClassId} {B : Nat} {c : CSt} {r : RSt} (I : Inv B c r) (x y : Int32) : Pr l b D ta B c r y_WF_cell b_WF_cell 3 (some .int) 2 [.int x, .int y] y_M_cell b_M_cell 3 1 [.int x, .int y] Int32 fI := by
  obtain ⟨F0, F1, F2, A0, A1, A2, ec, er, ed, eu, eo, P0, P1, P2, S, N, th, MS, MN, so, qo, sN, qN, kN, tN, M0, M1, M2, mp⟩ := c
  obtain ⟨wt, E0, E1, E2, HH, kt, kp, a, hi, tm, rN, sx, sy, pt, mn, pl, pN, px, py, sn, ltt, rc, tx, sz, us, D0, D1, D2, qx, qy, di, up, dn, be, op, gs, t0, fr, lf, pX, pY, pD, pU⟩ := r
  obtain ⟨R, ⟨n1, n2, n3, n4, n5⟩, zP, zD, T, U⟩ := I
  replace R : RG sN qN sx sy pt mn px py ((F0, F1, F2), (A0, A1, A2), so, qo, kN, tN, (M0, M1, M2), mp) ((E0, E1, E2), HH, kt, kp, a, hi, tm, pl, (rc, sn, ltt)) := R
  replace n1 : rN = sN := n1
  replace n2 : pN = qN := n2
  replace n3 : sN ≤ 4 := n3
  replace n4 : qN ≤ 4 := n4
  replace n5 : tN ≤ B := n5
  replace zP : Z24 P0 ∧ Z24 P1 ∧ Z24 P2 := zP
  replace zD : Z24 D0 ∧ Z24 D1 ∧ Z24 D2 := zD
  replace T : TI S N th MS MN tx sz us := T
  replace U : ∀ k, qN ≤ k → k < 4 → sn k = (qo k).2.2.1 ∧ (qo k).2.2.2.1 = -1 ∧ rc k = (qo k).2.2.2.2 := U
  subst n1 n2
  have R9 := R
  obtain ⟨r1, r2, r3, r4, r5, r6, r7, r8, r9, r10, r11, r12⟩ := R9
  replace r1 : (E0, E1, E2) = (F0, F1, F2) := r1
  cases r1
  replace r10 : hi = kN := r10
  replace r11 : tm = tN := r11
  subst r10 r11
  replace r2 : QX F0 F1 F2 := r2
  replace r3 : Z24 F0 ∧ Z24 F1 ∧ Z24 F2 := r3
  have e := fV_cv (c := x) (r := y) r2
  exact ⟨(F0, F1, F2, A0, A1, A2, ec, er, ed, eu, eo, P0, P1, P2, S, N, th, MS, MN, so, qo, rN, pN, hi, tm, M0, M1, M2, mp), (0, F0, F1, F2, HH, kt, kp, a, hi, tm, rN, sx, sy, pt, mn, pl, pN, px, py, sn, ltt, rc, tx, sz, us, D0, D1, D2, qx, qy, di, up, dn, be, op, gs, t0, fr, lf, pX, pY, pD, pU), fVal F0 F1 F2 x y, ⟨R, ⟨rfl, rfl, n3, n4, n5⟩, zP, zD, T, U⟩, fun X => c_WF_cell x y, fun σ X hl => by rw [e]; exact c_M_cell hl x y⟩
set_option maxRecDepth 100000 in
set_option maxHeartbeats 200000 in
theorem call_set {l : Launch} {b : Nat} {D : va_G} {ta : Nat → ClassId} {B : Nat} {c : CSt} {r : RSt} (I : Inv B c r) (x y v : Int32) : Pr l b D ta B c r y_WF_set b_WF_set 4 (some .boolean) 2 [.int x, .int y, .int v] y_M_set b_M_set 4 1 [.int x, .int y, .int v] Int32 fI := by
  obtain ⟨F0, F1, F2, A0, A1, A2, ec, er, ed, eu, eo, P0, P1, P2, S, N, th, MS, MN, so, qo, sN, qN, kN, tN, M0, M1, M2, mp⟩ := c
  obtain ⟨wt, E0, E1, E2, HH, kt, kp, a, hi, tm, rN, sx, sy, pt, mn, pl, pN, px, py, sn, ltt, rc, tx, sz, us, D0, D1, D2, qx, qy, di, up, dn, be, op, gs, t0, fr, lf, pX, pY, pD, pU⟩ := r
  obtain ⟨R, ⟨n1, n2, n3, n4, n5⟩, zP, zD, T, U⟩ := I
  replace R : RG sN qN sx sy pt mn px py ((F0, F1, F2), (A0, A1, A2), so, qo, kN, tN, (M0, M1, M2), mp) ((E0, E1, E2), HH, kt, kp, a, hi, tm, pl, (rc, sn, ltt)) := R
  replace n1 : rN = sN := n1
  replace n2 : pN = qN := n2
  replace n3 : sN ≤ 4 := n3
  replace n4 : qN ≤ 4 := n4
  replace n5 : tN ≤ B := n5
  replace zP : Z24 P0 ∧ Z24 P1 ∧ Z24 P2 := zP
  replace zD : Z24 D0 ∧ Z24 D1 ∧ Z24 D2 := zD
  replace T : TI S N th MS MN tx sz us := T
  replace U : ∀ k, qN ≤ k → k < 4 → sn k = (qo k).2.2.1 ∧ (qo k).2.2.2.1 = -1 ∧ rc k = (qo k).2.2.2.2 := U
  subst n1 n2
  have R9 := R
  obtain ⟨r1, r2, r3, r4, r5, r6, r7, r8, r9, r10, r11, r12⟩ := R9
  replace r1 : (E0, E1, E2) = (F0, F1, F2) := r1
  cases r1
  replace r10 : hi = kN := r10
  replace r11 : tm = tN := r11
  subst r10 r11
  replace r2 : QX F0 F1 F2 := r2
  replace r3 : Z24 F0 ∧ Z24 F1 ∧ Z24 F2 := r3
  by_cases hf : inF x y = true ∧ ¬ v < 0 ∧ v ≤ 3
  · exact ⟨(pB F0 x y v 1, pB F1 x y v 2, pB F2 x y v 3, A0, A1, A2, ec, er, ed, eu, eo, P0, P1, P2, S, N, th, MS, MN, so, qo, rN, pN, 0, tm, M0, M1, M2, mp), (0, pB F0 x y v 1, pB F1 x y v 2, pB F2 x y v 3, HH, kt, kp, a, 0, tm, rN, sx, sy, pt, mn, pl, pN, px, py, sn, ltt, rc, tx, sz, us, D0, D1, D2, qx, qy, di, up, dn, be, op, gs, t0, fr, lf, pX, pY, pD, pU), 1, ⟨RG_new R (QX_k _ _ _ x y v hf.2.1 hf.2.2 r2) (QZ_k _ _ _ x y v hf.2.1 hf.2.2 r3) r4, ⟨rfl, rfl, n3, n4, n5⟩, zP, zD, T, U⟩, fun X => c_WF_set_t hf.1 hf.2.1 hf.2.2, fun σ X hl => c_M_set_t hl hf.1 hf.2.1 hf.2.2⟩
  · exact ⟨(F0, F1, F2, A0, A1, A2, ec, er, ed, eu, eo, P0, P1, P2, S, N, th, MS, MN, so, qo, rN, pN, hi, tm, M0, M1, M2, mp), (0, F0, F1, F2, HH, kt, kp, a, hi, tm, rN, sx, sy, pt, mn, pl, pN, px, py, sn, ltt, rc, tx, sz, us, D0, D1, D2, qx, qy, di, up, dn, be, op, gs, t0, fr, lf, pX, pY, pD, pU), 0, ⟨R, ⟨rfl, rfl, n3, n4, n5⟩, zP, zD, T, U⟩, fun X => c_WF_set_f hf, fun σ X hl => c_M_set_f hl hf⟩
set_option maxRecDepth 100000 in
set_option maxHeartbeats 200000 in
theorem call_probe {l : Launch} {b : Nat} {D : va_G} {ta : Nat → ClassId} {B : Nat} {c : CSt} {r : RSt} (I : Inv B c r) (x y : Int32) : Pr l b D ta B c r y_WF_probe b_WF_probe 3 (some .int) 1 [.int x, .int y] y_M_probe b_M_probe 3 1 [.int x, .int y] Int32 fI := by
  obtain ⟨F0, F1, F2, A0, A1, A2, ec, er, ed, eu, eo, P0, P1, P2, S, N, th, MS, MN, so, qo, sN, qN, kN, tN, M0, M1, M2, mp⟩ := c
  obtain ⟨wt, E0, E1, E2, HH, kt, kp, a, hi, tm, rN, sx, sy, pt, mn, pl, pN, px, py, sn, ltt, rc, tx, sz, us, D0, D1, D2, qx, qy, di, up, dn, be, op, gs, t0, fr, lf, pX, pY, pD, pU⟩ := r
  obtain ⟨R, ⟨n1, n2, n3, n4, n5⟩, zP, zD, T, U⟩ := I
  replace R : RG sN qN sx sy pt mn px py ((F0, F1, F2), (A0, A1, A2), so, qo, kN, tN, (M0, M1, M2), mp) ((E0, E1, E2), HH, kt, kp, a, hi, tm, pl, (rc, sn, ltt)) := R
  replace n1 : rN = sN := n1
  replace n2 : pN = qN := n2
  replace n3 : sN ≤ 4 := n3
  replace n4 : qN ≤ 4 := n4
  replace n5 : tN ≤ B := n5
  replace zP : Z24 P0 ∧ Z24 P1 ∧ Z24 P2 := zP
  replace zD : Z24 D0 ∧ Z24 D1 ∧ Z24 D2 := zD
  replace T : TI S N th MS MN tx sz us := T
  replace U : ∀ k, qN ≤ k → k < 4 → sn k = (qo k).2.2.1 ∧ (qo k).2.2.2.1 = -1 ∧ rc k = (qo k).2.2.2.2 := U
  subst n1 n2
  have R9 := R
  obtain ⟨r1, r2, r3, r4, r5, r6, r7, r8, r9, r10, r11, r12⟩ := R9
  replace r1 : (E0, E1, E2) = (F0, F1, F2) := r1
  cases r1
  replace r10 : hi = kN := r10
  replace r11 : tm = tN := r11
  subst r10 r11
  replace r2 : QX F0 F1 F2 := r2
  replace r3 : Z24 F0 ∧ Z24 F1 ∧ Z24 F2 := r3
  by_cases hf : inF x y = true ∧ pN < 4
  · have hi2 : RG rN (pN + 1) sx sy pt mn (upd px pN x) (upd py pN y) ((F0, F1, F2), (A0, A1, A2), so, vf_upd qo pN (x, y, (qo pN).2.2.1, (qo pN).2.2.2.1, (qo pN).2.2.2.2), hi, tm, (M0, M1, M2), mp) ((F0, F1, F2), HH, kt, kp, a, hi, tm, pl, (rc, sn, upd ltt pN (-1))) := by
      refine ⟨rfl, r2, r3, r4, r5, r6, r7, r8, fun k hk => ?_, rfl, rfl, r12⟩
      replace r9 : tieQ pN qo px py sn ltt rc := r9
      show (∃ C R : Nat, C < 32 ∧ R < 24 ∧ (vf_upd qo pN (x, y, (qo pN).2.2.1, (qo pN).2.2.2.1, (qo pN).2.2.2.2) k).1 = nI C ∧ (vf_upd qo pN (x, y, (qo pN).2.2.1, (qo pN).2.2.2.1, (qo pN).2.2.2.2) k).2.1 = nI R) ∧ upd px pN x k = (vf_upd qo pN (x, y, (qo pN).2.2.1, (qo pN).2.2.2.1, (qo pN).2.2.2.2) k).1 ∧ upd py pN y k = (vf_upd qo pN (x, y, (qo pN).2.2.1, (qo pN).2.2.2.1, (qo pN).2.2.2.2) k).2.1 ∧ sn k = (vf_upd qo pN (x, y, (qo pN).2.2.1, (qo pN).2.2.2.1, (qo pN).2.2.2.2) k).2.2.1 ∧ upd ltt pN (-1) k = (vf_upd qo pN (x, y, (qo pN).2.2.1, (qo pN).2.2.2.1, (qo pN).2.2.2.2) k).2.2.2.1 ∧ rc k = (vf_upd qo pN (x, y, (qo pN).2.2.1, (qo pN).2.2.2.1, (qo pN).2.2.2.2) k).2.2.2.2
      by_cases e : k = pN
      · subst e
        obtain ⟨u1, u2, u3⟩ := U k (Nat.le_refl _) hf.2
        rw [vf_s, pk_us, pk_us, pk_us]
        obtain ⟨C, R2, hC, hR, e1, e2⟩ := inF_nn hf.1
        exact ⟨⟨C, R2, hC, hR, e1, e2⟩, rfl, rfl, u1, u2.symm, u3⟩
      · rw [vf_ne e, pk_un e, pk_un e, pk_un e]
        exact r9 k (by omega)
    exact ⟨(F0, F1, F2, A0, A1, A2, ec, er, ed, eu, eo, P0, P1, P2, S, N, th, MS, MN, so, vf_upd qo pN (x, y, (qo pN).2.2.1, (qo pN).2.2.2.1, (qo pN).2.2.2.2), rN, pN + 1, hi, tm, M0, M1, M2, mp), (0, F0, F1, F2, HH, kt, kp, a, hi, tm, rN, sx, sy, pt, mn, pl, pN + 1, upd px pN x, upd py pN y, sn, upd ltt pN (-1), rc, tx, sz, us, D0, D1, D2, qx, qy, di, up, dn, be, op, gs, t0, fr, lf, pX, pY, pD, pU), nI pN, ⟨hi2, ⟨rfl, rfl, n3, hf.2, n5⟩, zP, zD, T, fun k h1 h2 => by show sn k = (vf_upd qo pN (x, y, (qo pN).2.2.1, (qo pN).2.2.2.1, (qo pN).2.2.2.2) k).2.2.1 ∧ (vf_upd qo pN (x, y, (qo pN).2.2.1, (qo pN).2.2.2.1, (qo pN).2.2.2.2) k).2.2.2.1 = -1 ∧ rc k = (vf_upd qo pN (x, y, (qo pN).2.2.1, (qo pN).2.2.2.1, (qo pN).2.2.2.2) k).2.2.2.2; rw [vf_ne (by have : pN + 1 ≤ k := h1; omega)]; exact U k (by have : pN + 1 ≤ k := h1; omega) h2⟩, fun X => c_WF_probe_t hf.1 hf.2, fun σ X hl => c_M_probe_t hl hf.1 hf.2⟩
  · exact ⟨(F0, F1, F2, A0, A1, A2, ec, er, ed, eu, eo, P0, P1, P2, S, N, th, MS, MN, so, qo, rN, pN, hi, tm, M0, M1, M2, mp), (0, F0, F1, F2, HH, kt, kp, a, hi, tm, rN, sx, sy, pt, mn, pl, pN, px, py, sn, ltt, rc, tx, sz, us, D0, D1, D2, qx, qy, di, up, dn, be, op, gs, t0, fr, lf, pX, pY, pD, pU), -1, ⟨R, ⟨rfl, rfl, n3, n4, n5⟩, zP, zD, T, U⟩, fun X => c_WF_probe_f n4 hf, fun σ X hl => c_M_probe_f hl (fun q => hf ⟨q.1, (Nat.lt_or_ge pN 4).elim id (fun g => absurd (by rw [show pN = 4 by omega]; rfl) q.2)⟩)⟩
set_option maxRecDepth 100000 in
set_option maxHeartbeats 200000 in
theorem call_source {l : Launch} {b : Nat} {D : va_G} {ta : Nat → ClassId} {B : Nat} {c : CSt} {r : RSt} (I : Inv B c r) (x y : Int32) (pat : Int64) (m : Int32) : Pr l b D ta B c r y_WF_source b_WF_source 6 (some .int) 1 [.int x, .int y, .long pat, .int m] y_M_source b_M_source 6 1 [.int x, .int y, .long pat, .int m] Int32 fI := by
  obtain ⟨F0, F1, F2, A0, A1, A2, ec, er, ed, eu, eo, P0, P1, P2, S, N, th, MS, MN, so, qo, sN, qN, kN, tN, M0, M1, M2, mp⟩ := c
  obtain ⟨wt, E0, E1, E2, HH, kt, kp, a, hi, tm, rN, sx, sy, pt, mn, pl, pN, px, py, sn, ltt, rc, tx, sz, us, D0, D1, D2, qx, qy, di, up, dn, be, op, gs, t0, fr, lf, pX, pY, pD, pU⟩ := r
  obtain ⟨R, ⟨n1, n2, n3, n4, n5⟩, zP, zD, T, U⟩ := I
  replace R : RG sN qN sx sy pt mn px py ((F0, F1, F2), (A0, A1, A2), so, qo, kN, tN, (M0, M1, M2), mp) ((E0, E1, E2), HH, kt, kp, a, hi, tm, pl, (rc, sn, ltt)) := R
  replace n1 : rN = sN := n1
  replace n2 : pN = qN := n2
  replace n3 : sN ≤ 4 := n3
  replace n4 : qN ≤ 4 := n4
  replace n5 : tN ≤ B := n5
  replace zP : Z24 P0 ∧ Z24 P1 ∧ Z24 P2 := zP
  replace zD : Z24 D0 ∧ Z24 D1 ∧ Z24 D2 := zD
  replace T : TI S N th MS MN tx sz us := T
  replace U : ∀ k, qN ≤ k → k < 4 → sn k = (qo k).2.2.1 ∧ (qo k).2.2.2.1 = -1 ∧ rc k = (qo k).2.2.2.2 := U
  subst n1 n2
  have R9 := R
  obtain ⟨r1, r2, r3, r4, r5, r6, r7, r8, r9, r10, r11, r12⟩ := R9
  replace r1 : (E0, E1, E2) = (F0, F1, F2) := r1
  cases r1
  replace r10 : hi = kN := r10
  replace r11 : tm = tN := r11
  subst r10 r11
  replace r2 : QX F0 F1 F2 := r2
  replace r3 : Z24 F0 ∧ Z24 F1 ∧ Z24 F2 := r3
  by_cases hf : inF x y = true ∧ ¬ m < 1 ∧ ¬ 64 < m ∧ rN < 4
  · obtain ⟨n, hn, rfl⟩ := nI_of (x := m) (fun q => hf.2.1 (Int32.lt_trans q (by decide)))
    have hn1 : 1 ≤ n := (Nat.lt_or_ge n 1).elim (fun q => absurd (nI_lt (a := n) (b := 1) q (by decide)) hf.2.1) id
    have hn64 : n ≤ 64 := (Nat.lt_or_ge 64 n).elim (fun q => absurd (nI_lt (a := 64) (b := n) q hn) hf.2.2.1) id
    replace r7 : tieS rN so sx sy pt mn pl := r7
    replace r8 : ∀ k, k < 4 → slen so k ≤ 64 ∧ (rN ≤ k → (so k).2.2.2.2 = 0 ∧ pl k = 0) := r8
    replace r12 : hist rN (slen so) hi tm M0 M1 M2 mp a kt kp := r12
    have hi2 : RG (rN + 1) pN (upd sx rN x) (upd sy rN y) (vp_updL pt rN pat) (upd mn rN (nI n)) px py ((F0, F1, F2), (A0, A1, A2), vf_upd so rN (x, y, pat, n, 0), qo, hi, tm, (M0, M1, M2), mp) ((F0, F1, F2), HH, kt, kp, a, hi, tm, pl, (rc, sn, ltt)) := by
      refine ⟨rfl, r2, r3, r4, r5, r6, fun k hk => ?_, fun k hk => ⟨?_, fun q => ?_⟩, r9, rfl, rfl, ?_⟩
      · show (∃ C R : Nat, C < 32 ∧ R < 24 ∧ (vf_upd so rN (x, y, pat, n, 0) k).1 = nI C ∧ (vf_upd so rN (x, y, pat, n, 0) k).2.1 = nI R) ∧ upd sx rN x k = (vf_upd so rN (x, y, pat, n, 0) k).1 ∧ upd sy rN y k = (vf_upd so rN (x, y, pat, n, 0) k).2.1 ∧ vp_updL pt rN pat k = (vf_upd so rN (x, y, pat, n, 0) k).2.2.1 ∧ upd mn rN (nI n) k = nI (vf_upd so rN (x, y, pat, n, 0) k).2.2.2.1 ∧ pl k = nI (vf_upd so rN (x, y, pat, n, 0) k).2.2.2.2 ∧ (vf_upd so rN (x, y, pat, n, 0) k).2.2.2.2 < (vf_upd so rN (x, y, pat, n, 0) k).2.2.2.1 ∧ (vf_upd so rN (x, y, pat, n, 0) k).2.2.2.1 ≤ 64
        by_cases e : k = rN
        · subst e
          rw [vf_s, pk_us, pk_us, pk_us, show vp_updL pt k pat k = pat from if_pos rfl]
          obtain ⟨C, R2, hC, hR, e1, e2⟩ := inF_nn hf.1
          exact ⟨⟨C, R2, hC, hR, e1, e2⟩, rfl, rfl, rfl, rfl, ((r8 k (by omega)).2 (Nat.le_refl _)).2, hn1, hn64⟩
        · rw [vf_ne e, pk_un e, pk_un e, pk_un e, show vp_updL pt rN pat k = pt k from if_neg e]
          exact r7 k (by omega)
      · show (vf_upd so rN (x, y, pat, n, 0) k).2.2.2.1 ≤ 64
        by_cases e : k = rN
        · subst e; rw [vf_s]; exact hn64
        · rw [vf_ne e]; exact (r8 k hk).1
      · show (vf_upd so rN (x, y, pat, n, 0) k).2.2.2.2 = 0 ∧ pl k = 0
        have e : ¬ k = rN := by omega
        rw [vf_ne e]; exact (r8 k hk).2 (by omega)
      · show hist (rN + 1) (slen (vf_upd so rN (x, y, pat, n, 0))) hi tm M0 M1 M2 mp a kt kp
        refine hist_src r12 (fun k hk => ?_) ?_
        · unfold slen; rw [vf_ne (by omega)]
        · unfold slen; rw [vf_s]; exact hn1
    exact ⟨(F0, F1, F2, A0, A1, A2, ec, er, ed, eu, eo, P0, P1, P2, S, N, th, MS, MN, vf_upd so rN (x, y, pat, n, 0), qo, rN + 1, pN, hi, tm, M0, M1, M2, mp), (0, F0, F1, F2, HH, kt, kp, a, hi, tm, rN + 1, upd sx rN x, upd sy rN y, vp_updL pt rN pat, upd mn rN (nI n), pl, pN, px, py, sn, ltt, rc, tx, sz, us, D0, D1, D2, qx, qy, di, up, dn, be, op, gs, t0, fr, lf, pX, pY, pD, pU), nI rN, ⟨hi2, ⟨rfl, rfl, hf.2.2.2, n4, n5⟩, zP, zD, T, U⟩, fun X => c_WF_source_t hf.1 hn1 hn64 hf.2.2.2, fun σ X hl => c_M_source_t hl hf.1 hn1 hn64 hf.2.2.2⟩
  · exact ⟨(F0, F1, F2, A0, A1, A2, ec, er, ed, eu, eo, P0, P1, P2, S, N, th, MS, MN, so, qo, rN, pN, hi, tm, M0, M1, M2, mp), (0, F0, F1, F2, HH, kt, kp, a, hi, tm, rN, sx, sy, pt, mn, pl, pN, px, py, sn, ltt, rc, tx, sz, us, D0, D1, D2, qx, qy, di, up, dn, be, op, gs, t0, fr, lf, pX, pY, pD, pU), -1, ⟨R, ⟨rfl, rfl, n3, n4, n5⟩, zP, zD, T, U⟩, fun X => c_WF_source_f n3 hf, fun σ X hl => c_M_source_f hl (fun q => hf ⟨q.1, q.2.1, q.2.2.1, (Nat.lt_or_ge rN 4).elim id (fun g => absurd (by rw [show rN = 4 by omega]; rfl) q.2.2.2)⟩)⟩
set_option maxRecDepth 100000 in
set_option maxHeartbeats 200000 in
theorem call_record {l : Launch} {b : Nat} {D : va_G} {ta : Nat → ClassId} {B : Nat} {c : CSt} {r : RSt} (I : Inv B c r) (x : Int32) : Pr l b D ta B c r y_WF_record b_WF_record 2 (some .long) 0 [.int x] y_M_record b_M_record 2 0 [.int x] Int64 fJ := by
  obtain ⟨F0, F1, F2, A0, A1, A2, ec, er, ed, eu, eo, P0, P1, P2, S, N, th, MS, MN, so, qo, sN, qN, kN, tN, M0, M1, M2, mp⟩ := c
  obtain ⟨wt, E0, E1, E2, HH, kt, kp, a, hi, tm, rN, sx, sy, pt, mn, pl, pN, px, py, sn, ltt, rc, tx, sz, us, D0, D1, D2, qx, qy, di, up, dn, be, op, gs, t0, fr, lf, pX, pY, pD, pU⟩ := r
  obtain ⟨R, ⟨n1, n2, n3, n4, n5⟩, zP, zD, T, U⟩ := I
  replace R : RG sN qN sx sy pt mn px py ((F0, F1, F2), (A0, A1, A2), so, qo, kN, tN, (M0, M1, M2), mp) ((E0, E1, E2), HH, kt, kp, a, hi, tm, pl, (rc, sn, ltt)) := R
  replace n1 : rN = sN := n1
  replace n2 : pN = qN := n2
  replace n3 : sN ≤ 4 := n3
  replace n4 : qN ≤ 4 := n4
  replace n5 : tN ≤ B := n5
  replace zP : Z24 P0 ∧ Z24 P1 ∧ Z24 P2 := zP
  replace zD : Z24 D0 ∧ Z24 D1 ∧ Z24 D2 := zD
  replace T : TI S N th MS MN tx sz us := T
  replace U : ∀ k, qN ≤ k → k < 4 → sn k = (qo k).2.2.1 ∧ (qo k).2.2.2.1 = -1 ∧ rc k = (qo k).2.2.2.2 := U
  subst n1 n2
  have R9 := R
  obtain ⟨r1, r2, r3, r4, r5, r6, r7, r8, r9, r10, r11, r12⟩ := R9
  replace r1 : (E0, E1, E2) = (F0, F1, F2) := r1
  cases r1
  replace r10 : hi = kN := r10
  replace r11 : tm = tN := r11
  subst r10 r11
  replace r2 : QX F0 F1 F2 := r2
  replace r3 : Z24 F0 ∧ Z24 F1 ∧ Z24 F2 := r3
  by_cases hf : x < 0 ∨ nI pN ≤ x
  · exact ⟨(F0, F1, F2, A0, A1, A2, ec, er, ed, eu, eo, P0, P1, P2, S, N, th, MS, MN, so, qo, rN, pN, hi, tm, M0, M1, M2, mp), (0, F0, F1, F2, HH, kt, kp, a, hi, tm, rN, sx, sy, pt, mn, pl, pN, px, py, sn, ltt, rc, tx, sz, us, D0, D1, D2, qx, qy, di, up, dn, be, op, gs, t0, fr, lf, pX, pY, pD, pU), 0, ⟨R, ⟨rfl, rfl, n3, n4, n5⟩, zP, zD, T, U⟩, fun X => c_WF_record_f n4 hf, fun σ X hl => c_M_record_f hl hf⟩
  · obtain ⟨k, hk, rfl⟩ := nI_of (x := x) (fun q => hf (Or.inl q))
    have hkp : k < pN := (Nat.lt_or_ge k pN).elim id (fun q => absurd (Or.inr (nI_le q hk)) hf)
    replace r9 : tieQ pN qo px py sn ltt rc := r9
    exact ⟨(F0, F1, F2, A0, A1, A2, ec, er, ed, eu, eo, P0, P1, P2, S, N, th, MS, MN, so, qo, rN, pN, hi, tm, M0, M1, M2, mp), (0, F0, F1, F2, HH, kt, kp, a, hi, tm, rN, sx, sy, pt, mn, pl, pN, px, py, sn, ltt, rc, tx, sz, us, D0, D1, D2, qx, qy, di, up, dn, be, op, gs, t0, fr, lf, pX, pY, pD, pU), (qo k).2.2.2.2, ⟨R, ⟨rfl, rfl, n3, n4, n5⟩, zP, zD, T, U⟩, fun X => c_WF_record_t hkp n4, fun σ X hl => by rw [← (r9 k hkp).2.2.2.2.2]; exact c_M_record_t hl hkp n4⟩
set_option maxRecDepth 100000 in
set_option maxHeartbeats 200000 in
theorem call_period {l : Launch} {b : Nat} {D : va_G} {ta : Nat → ClassId} {B : Nat} {c : CSt} {r : RSt} (I : Inv B c r) (hB : B < 2 ^ 30) : Pr l b D ta B c r y_WF_period b_WF_period 2 (some .int) 2 [] y_M_period b_M_period 5 0 [] Int32 fI := by
  obtain ⟨F0, F1, F2, A0, A1, A2, ec, er, ed, eu, eo, P0, P1, P2, S, N, th, MS, MN, so, qo, sN, qN, kN, tN, M0, M1, M2, mp⟩ := c
  obtain ⟨wt, E0, E1, E2, HH, kt, kp, a, hi, tm, rN, sx, sy, pt, mn, pl, pN, px, py, sn, ltt, rc, tx, sz, us, D0, D1, D2, qx, qy, di, up, dn, be, op, gs, t0, fr, lf, pX, pY, pD, pU⟩ := r
  obtain ⟨R, ⟨n1, n2, n3, n4, n5⟩, zP, zD, T, U⟩ := I
  replace R : RG sN qN sx sy pt mn px py ((F0, F1, F2), (A0, A1, A2), so, qo, kN, tN, (M0, M1, M2), mp) ((E0, E1, E2), HH, kt, kp, a, hi, tm, pl, (rc, sn, ltt)) := R
  replace n1 : rN = sN := n1
  replace n2 : pN = qN := n2
  replace n3 : sN ≤ 4 := n3
  replace n4 : qN ≤ 4 := n4
  replace n5 : tN ≤ B := n5
  replace zP : Z24 P0 ∧ Z24 P1 ∧ Z24 P2 := zP
  replace zD : Z24 D0 ∧ Z24 D1 ∧ Z24 D2 := zD
  replace T : TI S N th MS MN tx sz us := T
  replace U : ∀ k, qN ≤ k → k < 4 → sn k = (qo k).2.2.1 ∧ (qo k).2.2.2.1 = -1 ∧ rc k = (qo k).2.2.2.2 := U
  subst n1 n2
  have R9 := R
  obtain ⟨r1, r2, r3, r4, r5, r6, r7, r8, r9, r10, r11, r12⟩ := R9
  replace r1 : (E0, E1, E2) = (F0, F1, F2) := r1
  cases r1
  replace r10 : hi = kN := r10
  replace r11 : tm = tN := r11
  subst r10 r11
  replace r2 : QX F0 F1 F2 := r2
  replace r3 : Z24 F0 ∧ Z24 F1 ∧ Z24 F2 := r3
  replace r12 : hist rN (slen so) hi tm M0 M1 M2 mp a kt kp := r12
  have ht : tm < 2 ^ 31 := by omega
  exact ⟨(F0, F1, F2, A0, A1, A2, ec, er, ed, eu, eo, P0, P1, P2, S, N, th, MS, MN, so, qo, rN, pN, hi, tm, M0, M1, M2, mp), (0, F0, F1, F2, HH, kt, kp, a, hi, tm, rN, sx, sy, pt, mn, pl, pN, px, py, sn, ltt, rc, tx, sz, us, D0, D1, D2, qx, qy, di, up, dn, be, op, gs, t0, fr, lf, pX, pY, pD, pU), nI (perF F0 F1 F2 M0 M1 M2 tm hi hi 1), ⟨R, ⟨rfl, rfl, n3, n4, n5⟩, zP, zD, T, U⟩, fun X => c_WF_period r12.1 r12.2.1 ht, fun σ X hl => by rw [per_tie r12 hi 1 (Nat.le_refl _) (by omega)]; exact c_M_period hl r12.2.1 r12.2.2.1⟩
