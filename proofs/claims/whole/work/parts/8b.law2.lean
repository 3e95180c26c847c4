set_option maxRecDepth 100000 in
set_option maxHeartbeats 4000000 in
theorem call_seen {l : Launch} {b : Nat} {D : va_G} {ta : Nat → ClassId} (hst : l.stackTraces = false) {B : Nat} {c : CSt} {r : RSt} (I : Inv B c r) (x v : Int32) (f : Nat → Int64) : ∃ (c2 : CSt) (k z2 : Int32) (f2 : Nat → Int64) (r2 : RSt), Inv B c2 r2 ∧ r2.1 = k ∧ (k = 0 → f2 0 = z2.toInt64) ∧ jCW l b D ta y_Lw_seen b_Lw_seen 5 (some .int) [(0, 10, 13, 13)] (rK 7 1 6) [.ref (b + 0), .int x, .int v, .ref (b + 164)] (lH b ta c r f) (some (.int k)) (lH b ta c2 r f2) ∧ jC l b D ta False y_M_seen b_M_seen 3 (some .int) (rL 0) [.ref (b + 133), .int x, .int v] (lH b ta c2 r f2) (some (.int z2)) (lH b ta c2 r2 f2) := by
  obtain ⟨F0, F1, F2, A0, A1, A2, ec, er, ed, eu, eo, P0, P1, P2, S, N, th, MS, MN, so, qo, sN, qN, kN, tN, M0, M1, M2, mp⟩ := c
  obtain ⟨wt, E0, E1, E2, HH, kt, kp, a, hi, tm, rN, sx, sy, pt, mn, pl, pN, px, py, sn, ltt, rc, tx, sz, us, D0, D1, D2, qx, qy, di, up, dn, be, op, gs, t0, fr, lf, pX, pY, pD, pU⟩ := r
  obtain ⟨R, ⟨n1, n2, n3, n4, n5⟩, zP, zD, T, U⟩ := I
  replace R : RG sN qN sx sy pt mn px py ((F0, F1, F2), (A0, A1, A2), so, qo, kN, tN, (M0, M1, M2), mp) ((E0, E1, E2), HH, kt, kp, a, hi, tm, pl, (rc, sn, ltt)) := R
  replace n1 : rN = sN := n1
  replace n2 : pN = qN := n2
  replace n3 : sN ≤ 4 := n3
  replace n4 : qN ≤ 4 := n4
  replace n5 : tN ≤ B := n5
  replace zP : Z24 P0 ∧ Z24 P1 ∧ Z24 P2 := zP
  replace zD : Z24 D0 ∧ Z24 D1 ∧ Z24 D2 := zD
  replace T : TI S N th MS MN tx sz us := T
  replace U : ∀ k, qN ≤ k → k < 4 → sn k = (qo k).2.2.1 ∧ (qo k).2.2.2.1 = -1 ∧ rc k = (qo k).2.2.2.2 := U
  subst n1 n2
  have R9 := R
  obtain ⟨r1, r2, r3, r4, r5, r6, r7, r8, r9, r10, r11, r12⟩ := R9
  replace r1 : (E0, E1, E2) = (F0, F1, F2) := r1
  cases r1
  replace r10 : hi = kN := r10
  replace r11 : tm = tN := r11
  subst r10 r11
  replace r2 : QX F0 F1 F2 := r2
  replace r3 : Z24 F0 ∧ Z24 F1 ∧ Z24 F2 := r3
  by_cases hf : x < 0 ∨ nI pN ≤ x ∨ v < 0 ∨ 1 < v
  · exact ⟨(F0, F1, F2, A0, A1, A2, ec, er, ed, eu, eo, P0, P1, P2, S, N, th, MS, MN, so, qo, rN, pN, hi, tm, M0, M1, M2, mp), 1, 0, f, (1, F0, F1, F2, HH, kt, kp, a, hi, tm, rN, sx, sy, pt, mn, pl, pN, px, py, sn, ltt, rc, tx, sz, us, D0, D1, D2, qx, qy, di, up, dn, be, op, gs, t0, fr, lf, pX, pY, pD, pU), ⟨R, ⟨rfl, rfl, n3, n4, n5⟩, zP, zD, T, U⟩, rfl, fun q => absurd q (by decide), L_seen_1 (fun X => x_WF_seen_1 hst hf), by rw [lH_e, lH_e]; exact c_M_seen_f cH_len hf⟩
  · replace r9 : tieQ pN qo px py sn ltt rc := r9
    obtain ⟨k, hk, rfl⟩ := nI_of (x := x) (fun q => hf (Or.inl q))
    have hkp : k < pN := (Nat.lt_or_ge k pN).elim id (fun q => absurd (Or.inr (Or.inl (nI_le q hk))) hf)
    obtain ⟨w, hw, rfl⟩ := nI_of (x := v) (fun q => hf (Or.inr (Or.inr (Or.inl q))))
    have hw1 : w = 0 ∨ w = 1 := by
      rcases Nat.lt_or_ge 1 w with q | q
      · exact absurd (Or.inr (Or.inr (Or.inr (nI_lt (a := 1) q hw)))) hf
      · omega
    rcases hw1 with q | q
    · subst q
      exact ⟨(F0, F1, F2, A0, A1, A2, ec, er, ed, eu, eo, P0, P1, P2, S, N, th, MS, MN, so, qo, rN, pN, hi, tm, M0, M1, M2, mp), 0, (qo k).2.2.1, vp_updL f 0 ((qo k).2.2.1).toInt64, (0, F0, F1, F2, HH, kt, kp, a, hi, tm, rN, sx, sy, pt, mn, pl, pN, px, py, sn, ltt, rc, tx, sz, us, D0, D1, D2, qx, qy, di, up, dn, be, op, gs, t0, fr, lf, pX, pY, pD, pU), ⟨R, ⟨rfl, rfl, n3, n4, n5⟩, zP, zD, T, U⟩, rfl, fun _ => if_pos rfl, L_seen_0 (fun X => c_WF_seen_0 hkp n4), by rw [lH_e, lH_e, ← (r9 k hkp).2.2.2.1]; exact c_M_seen_0 cH_len hkp n4⟩
    · subst q
      exact ⟨(F0, F1, F2, A0, A1, A2, ec, er, ed, eu, eo, P0, P1, P2, S, N, th, MS, MN, so, qo, rN, pN, hi, tm, M0, M1, M2, mp), 0, (qo k).2.2.2.1, vp_updL f 0 ((qo k).2.2.2.1).toInt64, (0, F0, F1, F2, HH, kt, kp, a, hi, tm, rN, sx, sy, pt, mn, pl, pN, px, py, sn, ltt, rc, tx, sz, us, D0, D1, D2, qx, qy, di, up, dn, be, op, gs, t0, fr, lf, pX, pY, pD, pU), ⟨R, ⟨rfl, rfl, n3, n4, n5⟩, zP, zD, T, U⟩, rfl, fun _ => if_pos rfl, L_seen_0 (fun X => c_WF_seen_1 hkp n4), by rw [lH_e, lH_e, ← (r9 k hkp).2.2.2.2.1]; exact c_M_seen_1 cH_len hkp n4⟩
set_option maxRecDepth 100000 in
set_option maxHeartbeats 4000000 in
theorem call_macro {l : Launch} {b : Nat} {D : va_G} {ta : Nat → ClassId} (hst : l.stackTraces = false) {B : Nat} {c : CSt} {r : RSt} (I : Inv B c r) (z : Int32) (f : Nat → Int64) : ∃ (c2 : CSt) (k z2 : Int32) (f2 : Nat → Int64) (r2 : RSt), Inv B c2 r2 ∧ r2.1 = k ∧ f2 = f ∧ z2 = 0 ∧ jCW l b D ta y_Lw_macro b_Lw_macro 3 (some .int) [(0, 5, 8, 13), (0, 5, 11, 15)] (rK 30 1 6) [.ref (b + 0), .int z] (lH b ta c r f) (some (.int k)) (lH b ta c2 r f2) ∧ jC l b D ta False y_M_macro b_M_macro 3 none (rL 2) [.ref (b + 133), .int z] (lH b ta c2 r f2) (none) (lH b ta c2 r2 f2) := by
  obtain ⟨F0, F1, F2, A0, A1, A2, ec, er, ed, eu, eo, P0, P1, P2, S, N, th, MS, MN, so, qo, sN, qN, kN, tN, M0, M1, M2, mp⟩ := c
  obtain ⟨wt, E0, E1, E2, HH, kt, kp, a, hi, tm, rN, sx, sy, pt, mn, pl, pN, px, py, sn, ltt, rc, tx, sz, us, D0, D1, D2, qx, qy, di, up, dn, be, op, gs, t0, fr, lf, pX, pY, pD, pU⟩ := r
  obtain ⟨R, ⟨n1, n2, n3, n4, n5⟩, zP, zD, T, U⟩ := I
  replace R : RG sN qN sx sy pt mn px py ((F0, F1, F2), (A0, A1, A2), so, qo, kN, tN, (M0, M1, M2), mp) ((E0, E1, E2), HH, kt, kp, a, hi, tm, pl, (rc, sn, ltt)) := R
  replace n1 : rN = sN := n1
  replace n2 : pN = qN := n2
  replace n3 : sN ≤ 4 := n3
  replace n4 : qN ≤ 4 := n4
  replace n5 : tN ≤ B := n5
  replace zP : Z24 P0 ∧ Z24 P1 ∧ Z24 P2 := zP
  replace zD : Z24 D0 ∧ Z24 D1 ∧ Z24 D2 := zD
  replace T : TI S N th MS MN tx sz us := T
  replace U : ∀ k, qN ≤ k → k < 4 → sn k = (qo k).2.2.1 ∧ (qo k).2.2.2.1 = -1 ∧ rc k = (qo k).2.2.2.2 := U
  subst n1 n2
  have R9 := R
  obtain ⟨r1, r2, r3, r4, r5, r6, r7, r8, r9, r10, r11, r12⟩ := R9
  replace r1 : (E0, E1, E2) = (F0, F1, F2) := r1
  cases r1
  replace r10 : hi = kN := r10
  replace r11 : tm = tN := r11
  subst r10 r11
  replace r2 : QX F0 F1 F2 := r2
  replace r3 : Z24 F0 ∧ Z24 F1 ∧ Z24 F2 := r3
  by_cases hf : z < 0 ∨ 4 ≤ z
  · have hf2 : z < 0 ∨ 3 < z := hf.imp id (fun q => lt_4.mpr q)
    exact ⟨(F0, F1, F2, A0, A1, A2, ec, er, ed, eu, eo, P0, P1, P2, S, N, th, MS, MN, so, qo, rN, pN, hi, tm, M0, M1, M2, mp), 1, 0, f, (1, F0, F1, F2, HH, kt, kp, a, hi, tm, rN, sx, sy, pt, mn, pl, pN, px, py, sn, ltt, rc, tx, sz, us, D0, D1, D2, qx, qy, di, up, dn, be, op, gs, t0, fr, lf, pX, pY, pD, pU), ⟨R, ⟨rfl, rfl, n3, n4, n5⟩, zP, zD, T, U⟩, rfl, rfl, rfl, L_macro_1 (fun X => x_WF_macro_1 hst hf), by rw [lH_e, lH_e]; exact c_M_macro_1 cH_len hf2⟩
  · obtain ⟨j, hj0, rfl⟩ := nI_of (x := z) (fun q => hf (Or.inl q))
    have hj : j < 4 := (Nat.lt_or_ge j 4).elim id (fun q => absurd (Or.inr (nI_le (a := 4) q hj0)) hf)
    cases hio : ioF S N j with
    | false =>
      have hn : ¬ ((rdF (fun i => tx (60 * 4 + i)) N).1 = true ∧ (rdF (fun i => tx (60 * 4 + i)) N).2 >>> (nI j &&& 31) = 0) := fun q => bF hio ((TI_mac T hj).mpr q)
      exact ⟨(F0, F1, F2, A0, A1, A2, ec, er, ed, eu, eo, P0, P1, P2, S, N, th, MS, MN, so, qo, rN, pN, hi, tm, M0, M1, M2, mp), 2, 0, f, (2, F0, F1, F2, HH, kt, kp, a, hi, tm, rN, sx, sy, pt, mn, pl, pN, px, py, sn, ltt, rc, tx, sz, upd us 4 (rdF (fun i => tx (60 * 4 + i)) N).2, D0, D1, D2, qx, qy, di, up, dn, be, op, gs, t0, fr, lf, pX, pY, pD, pU), ⟨R, ⟨rfl, rfl, n3, n4, n5⟩, zP, zD, TI_us T, U⟩, rfl, rfl, rfl, L_macro_2 (fun X => x_WF_macro_2 hst hj T.2.2.1 T.1 hio), by rw [lH_e, lH_e]; exact c_M_macro_2 cH_len T.2.1 T.1 hj hn⟩
    | true =>
      have hm := (TI_mac T hj).mp hio
      have h4 : ioF S N 4 = true := by rw [← TI_io T]; exact hm.1
      exact ⟨(F0, F1, F2, A0, A1, A2, ec, er, ed, eu, eo, P0, P1, P2, S, 0, upd th j (vp_nar .boolean 1), vf_upd MS j S, vf_upd MN j N, so, qo, rN, pN, hi, tm, M0, M1, M2, mp), 0, 0, f, (0, F0, F1, F2, HH, kt, kp, a, hi, tm, rN, sx, sy, pt, mn, pl, pN, px, py, sn, ltt, rc, cpT tx j 60, upd (upd sz j (sz 4)) 4 0, upd (upd us 4 (rdF (fun i => tx (60 * 4 + i)) N).2) j (rdF (fun i => tx (60 * 4 + i)) N).2, D0, D1, D2, qx, qy, di, up, dn, be, op, gs, t0, fr, lf, pX, pY, pD, pU), ⟨R, ⟨rfl, rfl, n3, n4, n5⟩, zP, zD, TI_macro T hj hio (TI_hm T h4), U⟩, rfl, rfl, rfl, L_macro_0 (fun X => c_WF_macro_t hj T.2.2.1 T.1 T.2.2.2.1 (fun j hj => (T.2.2.2.2.2 j hj).2.2.1) hio), by rw [lH_e, lH_e]; exact c_M_macro_0 cH_len T.2.1 T.1 hj hm.1 hm.2⟩
set_option maxRecDepth 100000 in
set_option maxHeartbeats 4000000 in
theorem call_draw {l : Launch} {b : Nat} {D : va_G} {ta : Nat → ClassId} (hst : l.stackTraces = false) {B : Nat} {c : CSt} {r : RSt} (I : Inv B c r) (x y d : Int32) (f : Nat → Int64) : ∃ (c2 : CSt) (k z2 : Int32) (f2 : Nat → Int64) (r2 : RSt), Inv B c2 r2 ∧ r2.1 = k ∧ (k = 0 → f2 0 = z2.toInt64) ∧ jCW l b D ta y_Lw_draw b_Lw_draw 6 (some .int) [(0, 12, 15, 13), (0, 12, 19, 15), (0, 12, 23, 17)] (rK 89 1 6) [.ref (b + 0), .int x, .int y, .int d, .ref (b + 164)] (lH b ta c r f) (some (.int k)) (lH b ta c2 r f2) ∧ jC l b D ta False y_M_draw b_M_draw 5 (some .int) (rL 6) [.ref (b + 133), .int x, .int y, .int d] (lH b ta c2 r f2) (some (.int z2)) (lH b ta c2 r2 f2) := by
  obtain ⟨F0, F1, F2, A0, A1, A2, ec, er, ed, eu, eo, P0, P1, P2, S, N, th, MS, MN, so, qo, sN, qN, kN, tN, M0, M1, M2, mp⟩ := c
  obtain ⟨wt, E0, E1, E2, HH, kt, kp, a, hi, tm, rN, sx, sy, pt, mn, pl, pN, px, py, sn, ltt, rc, tx, sz, us, D0, D1, D2, qx, qy, di, up, dn, be, op, gs, t0, fr, lf, pX, pY, pD, pU⟩ := r
  obtain ⟨R, ⟨n1, n2, n3, n4, n5⟩, zP, zD, T, U⟩ := I
  replace R : RG sN qN sx sy pt mn px py ((F0, F1, F2), (A0, A1, A2), so, qo, kN, tN, (M0, M1, M2), mp) ((E0, E1, E2), HH, kt, kp, a, hi, tm, pl, (rc, sn, ltt)) := R
  replace n1 : rN = sN := n1
  replace n2 : pN = qN := n2
  replace n3 : sN ≤ 4 := n3
  replace n4 : qN ≤ 4 := n4
  replace n5 : tN ≤ B := n5
  replace zP : Z24 P0 ∧ Z24 P1 ∧ Z24 P2 := zP
  replace zD : Z24 D0 ∧ Z24 D1 ∧ Z24 D2 := zD
  replace T : TI S N th MS MN tx sz us := T
  replace U : ∀ k, qN ≤ k → k < 4 → sn k = (qo k).2.2.1 ∧ (qo k).2.2.2.1 = -1 ∧ rc k = (qo k).2.2.2.2 := U
  subst n1 n2
  have R9 := R
  obtain ⟨r1, r2, r3, r4, r5, r6, r7, r8, r9, r10, r11, r12⟩ := R9
  replace r1 : (E0, E1, E2) = (F0, F1, F2) := r1
  cases r1
  replace r10 : hi = kN := r10
  replace r11 : tm = tN := r11
  subst r10 r11
  replace r2 : QX F0 F1 F2 := r2
  replace r3 : Z24 F0 ∧ Z24 F1 ∧ Z24 F2 := r3
  by_cases hf : inF x y = true ∧ ¬ d < 0 ∧ d < 4
  · obtain ⟨hin, hd0, hd4⟩ := hf
    obtain ⟨dd, hd1, rfl⟩ := nI_of (x := d) hd0
    have hd : dd < 4 := (Nat.lt_or_ge dd 4).elim id (fun q => absurd (nI_le (a := 4) q hd1) (Int32.not_le.mpr hd4))
    have hMS : ∀ j, j < 4 → Fc (MS j) ∧ MN j ≤ 60 := fun j hj => ⟨(T.2.2.2.2.2 j hj).2.1, (T.2.2.2.2.2 j hj).1⟩
    by_cases h2 : ioF S N 4 = true ∧ mtF th (hmM MS MN) 4 (hmF S N N) = true
    · have k1 : (rdF (fun i => tx (60 * 4 + i)) N).1 = true := by rw [TI_io T]; exact h2.1
      have k2 : mcR sz (upd us 4 (rdF (fun i => tx (60 * 4 + i)) N).2) 4 ((upd us 4 (rdF (fun i => tx (60 * 4 + i)) N).2) 4) = true := by rw [← TI_mt T h2.1]; exact h2.2
      have hz := drX_z (MS := MS) (MN := MN) (S := S) (N := N) (x := x) (y := y) (d := dd) r3.1 r3.2.1 r3.2.2
      cases hq : (drX MS MN S N x y dd F0 F1 F2).1 with
      | true =>
        have hg := (dr_all (l := l) (b := b) (D := D) (ta := ta) (σ := cH b ta ((drX MS MN S N x y dd F0 F1 F2).2.2.2.2.2.2.1, (drX MS MN S N x y dd F0 F1 F2).2.2.2.2.2.2.2.1, (drX MS MN S N x y dd F0 F1 F2).2.2.2.2.2.2.2.2, A0, A1, A2, (drX MS MN S N x y dd F0 F1 F2).2.1, (drX MS MN S N x y dd F0 F1 F2).2.2.1, (drX MS MN S N x y dd F0 F1 F2).2.2.2.1, (drX MS MN S N x y dd F0 F1 F2).2.2.2.2.1, (drX MS MN S N x y dd F0 F1 F2).2.2.2.2.2.1, (drX MS MN S N x y dd F0 F1 F2).2.2.2.2.2.2.1, (drX MS MN S N x y dd F0 F1 F2).2.2.2.2.2.2.2.1, (drX MS MN S N x y dd F0 F1 F2).2.2.2.2.2.2.2.2, S, 0, th, MS, MN, so, qo, rN, pN, 0, tm, M0, M1, M2, mp) []) cH_len (fx := (0, F0, F1, F2, HH, kt, kp, a, hi, tm, rN, sx, sy, pt, mn, pl, pN, px, py, sn, ltt, rc, tx, sz, upd us 4 (rdF (fun i => tx (60 * 4 + i)) N).2, [oC ta (vp_updL f 0 (nI (drX MS MN S N x y dd F0 F1 F2).2.2.2.2.2.1).toInt64)])) T h2.1 h2.2 hin hd r2 r3 op (gs, t0, fr, lf, pX, pY, pD, pU)).1 hq
        obtain ⟨hQx, G2, hgo⟩ := hg
        have k0 := c_M_draw_0 (l := l) (b := b) (D := D) (ta := ta) (σ := cH b ta ((drX MS MN S N x y dd F0 F1 F2).2.2.2.2.2.2.1, (drX MS MN S N x y dd F0 F1 F2).2.2.2.2.2.2.2.1, (drX MS MN S N x y dd F0 F1 F2).2.2.2.2.2.2.2.2, A0, A1, A2, (drX MS MN S N x y dd F0 F1 F2).2.1, (drX MS MN S N x y dd F0 F1 F2).2.2.1, (drX MS MN S N x y dd F0 F1 F2).2.2.2.1, (drX MS MN S N x y dd F0 F1 F2).2.2.2.2.1, (drX MS MN S N x y dd F0 F1 F2).2.2.2.2.2.1, (drX MS MN S N x y dd F0 F1 F2).2.2.2.2.2.2.1, (drX MS MN S N x y dd F0 F1 F2).2.2.2.2.2.2.2.1, (drX MS MN S N x y dd F0 F1 F2).2.2.2.2.2.2.2.2, S, 0, th, MS, MN, so, qo, rN, pN, 0, tm, M0, M1, M2, mp) []) cH_len (wt := wt) (F0 := F0) (F1 := F1) (F2 := F2) (HH := HH) (kt := kt) (kp := kp) (a := a) (hi := hi) (tm := tm) (sN := rN) (sx := sx) (sy := sy) (pt := pt) (mn := mn) (pl := pl) (pN := pN) (px := px) (py := py) (sn := sn) (lt := ltt) (rc := rc) (tx := tx) (sz := sz) (us := us) (D0 := D0) (D1 := D1) (D2 := D2) (qx := qx) (qy := qy) (di := di) (up := up) (dn := dn) (be := be) (op := op) (gs := gs) (t0 := t0) (fr := fr) (lf := lf) (pX := pX) (pY := pY) (pD := pD) (pU := pU) (X := [oC ta (vp_updL f 0 (nI (drX MS MN S N x y dd F0 F1 F2).2.2.2.2.2.1).toInt64)]) T.2.1 T.1 hin hd (E0 := (drX MS MN S N x y dd F0 F1 F2).2.2.2.2.2.2.1) (E1 := (drX MS MN S N x y dd F0 F1 F2).2.2.2.2.2.2.2.1) (E2 := (drX MS MN S N x y dd F0 F1 F2).2.2.2.2.2.2.2.2) (x2 := (drX MS MN S N x y dd F0 F1 F2).2.1) (y2 := (drX MS MN S N x y dd F0 F1 F2).2.2.1) (d2 := (drX MS MN S N x y dd F0 F1 F2).2.2.2.1) (u2 := !(drX MS MN S N x y dd F0 F1 F2).2.2.2.2.1) (o2 := (drX MS MN S N x y dd F0 F1 F2).2.2.2.2.2.1) (p2 := 0) (g2 := G2.1) (q2 := G2.2.1) (f2 := G2.2.2.1) (l2 := G2.2.2.2.1) (xx := G2.2.2.2.2.1) (yy := G2.2.2.2.2.2.1) (dd := G2.2.2.2.2.2.2.1) (uu := G2.2.2.2.2.2.2.2) k1 k2 (by rw [rwF_e zD.1 r3.1, rwF_e zD.2.1 r3.2.1, rwF_e zD.2.2 r3.2.2]; exact hgo)
        rw [rwF_e r3.1 hz.1, rwF_e r3.2.1 hz.2.1, rwF_e r3.2.2 hz.2.2] at k0
        exact ⟨((drX MS MN S N x y dd F0 F1 F2).2.2.2.2.2.2.1, (drX MS MN S N x y dd F0 F1 F2).2.2.2.2.2.2.2.1, (drX MS MN S N x y dd F0 F1 F2).2.2.2.2.2.2.2.2, A0, A1, A2, (drX MS MN S N x y dd F0 F1 F2).2.1, (drX MS MN S N x y dd F0 F1 F2).2.2.1, (drX MS MN S N x y dd F0 F1 F2).2.2.2.1, (drX MS MN S N x y dd F0 F1 F2).2.2.2.2.1, (drX MS MN S N x y dd F0 F1 F2).2.2.2.2.2.1, (drX MS MN S N x y dd F0 F1 F2).2.2.2.2.2.2.1, (drX MS MN S N x y dd F0 F1 F2).2.2.2.2.2.2.2.1, (drX MS MN S N x y dd F0 F1 F2).2.2.2.2.2.2.2.2, S, 0, th, MS, MN, so, qo, rN, pN, 0, tm, M0, M1, M2, mp), 0, nI (drX MS MN S N x y dd F0 F1 F2).2.2.2.2.2.1, (vp_updL f 0 (nI (drX MS MN S N x y dd F0 F1 F2).2.2.2.2.2.1).toInt64), (0, (drX MS MN S N x y dd F0 F1 F2).2.2.2.2.2.2.1, (drX MS MN S N x y dd F0 F1 F2).2.2.2.2.2.2.2.1, (drX MS MN S N x y dd F0 F1 F2).2.2.2.2.2.2.2.2, HH, kt, kp, a, 0, tm, rN, sx, sy, pt, mn, pl, pN, px, py, sn, ltt, rc, tx, upd sz 4 0, upd us 4 (rdF (fun i => tx (60 * 4 + i)) N).2, (drX MS MN S N x y dd F0 F1 F2).2.2.2.2.2.2.1, (drX MS MN S N x y dd F0 F1 F2).2.2.2.2.2.2.2.1, (drX MS MN S N x y dd F0 F1 F2).2.2.2.2.2.2.2.2, (drX MS MN S N x y dd F0 F1 F2).2.1, (drX MS MN S N x y dd F0 F1 F2).2.2.1, (drX MS MN S N x y dd F0 F1 F2).2.2.2.1, (!(drX MS MN S N x y dd F0 F1 F2).2.2.2.2.1), (drX MS MN S N x y dd F0 F1 F2).2.2.2.2.2.1, false, 0, G2.1, G2.2.1, G2.2.2.1, G2.2.2.2.1, G2.2.2.2.2.1, G2.2.2.2.2.2.1, G2.2.2.2.2.2.2.1, G2.2.2.2.2.2.2.2), ⟨RG_new R hQx hz r4, ⟨rfl, rfl, n3, n4, n5⟩, hz, hz, TI_wipe (TI_us T), U⟩, rfl, fun _ => if_pos rfl, L_draw_0 (fun X => c_WF_draw_t hd T.2.2.1 T.1 hMS r3.1 r3.2.1 r3.2.2 zP.1 zP.2.1 zP.2.2 hin h2.1 h2.2 hq), by rw [lH_e, lH_e]; exact k0⟩
      | false =>
        have hg := (dr_all (l := l) (b := b) (D := D) (ta := ta) (σ := cH b ta (F0, F1, F2, A0, A1, A2, (drX MS MN S N x y dd F0 F1 F2).2.1, (drX MS MN S N x y dd F0 F1 F2).2.2.1, (drX MS MN S N x y dd F0 F1 F2).2.2.2.1, (drX MS MN S N x y dd F0 F1 F2).2.2.2.2.1, (drX MS MN S N x y dd F0 F1 F2).2.2.2.2.2.1, (drX MS MN S N x y dd F0 F1 F2).2.2.2.2.2.2.1, (drX MS MN S N x y dd F0 F1 F2).2.2.2.2.2.2.2.1, (drX MS MN S N x y dd F0 F1 F2).2.2.2.2.2.2.2.2, S, N, th, MS, MN, so, qo, rN, pN, hi, tm, M0, M1, M2, mp) []) cH_len (fx := (0, F0, F1, F2, HH, kt, kp, a, hi, tm, rN, sx, sy, pt, mn, pl, pN, px, py, sn, ltt, rc, tx, sz, upd us 4 (rdF (fun i => tx (60 * 4 + i)) N).2, [oC ta f])) T h2.1 h2.2 hin hd r2 r3 op (gs, t0, fr, lf, pX, pY, pD, pU)).2 (bF hq)
        obtain ⟨Px, ox, G2, hz2, hgo⟩ := hg
        have k0 := c_M_draw_3 (l := l) (b := b) (D := D) (ta := ta) (σ := cH b ta (F0, F1, F2, A0, A1, A2, (drX MS MN S N x y dd F0 F1 F2).2.1, (drX MS MN S N x y dd F0 F1 F2).2.2.1, (drX MS MN S N x y dd F0 F1 F2).2.2.2.1, (drX MS MN S N x y dd F0 F1 F2).2.2.2.2.1, (drX MS MN S N x y dd F0 F1 F2).2.2.2.2.2.1, (drX MS MN S N x y dd F0 F1 F2).2.2.2.2.2.2.1, (drX MS MN S N x y dd F0 F1 F2).2.2.2.2.2.2.2.1, (drX MS MN S N x y dd F0 F1 F2).2.2.2.2.2.2.2.2, S, N, th, MS, MN, so, qo, rN, pN, hi, tm, M0, M1, M2, mp) []) cH_len (wt := wt) (F0 := F0) (F1 := F1) (F2 := F2) (HH := HH) (kt := kt) (kp := kp) (a := a) (hi := hi) (tm := tm) (sN := rN) (sx := sx) (sy := sy) (pt := pt) (mn := mn) (pl := pl) (pN := pN) (px := px) (py := py) (sn := sn) (lt := ltt) (rc := rc) (tx := tx) (sz := sz) (us := us) (D0 := D0) (D1 := D1) (D2 := D2) (qx := qx) (qy := qy) (di := di) (up := up) (dn := dn) (be := be) (op := op) (gs := gs) (t0 := t0) (fr := fr) (lf := lf) (pX := pX) (pY := pY) (pD := pD) (pU := pU) (X := [oC ta f]) T.2.1 T.1 hin hd (E0 := Px.2.2.2.2.2.1) (E1 := Px.2.2.2.2.2.2.1) (E2 := Px.2.2.2.2.2.2.2) (x2 := Px.1) (y2 := Px.2.1) (d2 := Px.2.2.1) (u2 := !Px.2.2.2.1) (o2 := Px.2.2.2.2.1) (p2 := ox) (g2 := G2.1) (q2 := G2.2.1) (f2 := G2.2.2.1) (l2 := G2.2.2.2.1) (xx := G2.2.2.2.2.1) (yy := G2.2.2.2.2.2.1) (dd := G2.2.2.2.2.2.2.1) (uu := G2.2.2.2.2.2.2.2) k1 k2 (by rw [rwF_e zD.1 r3.1, rwF_e zD.2.1 r3.2.1, rwF_e zD.2.2 r3.2.2]; exact hgo)
        exact ⟨(F0, F1, F2, A0, A1, A2, (drX MS MN S N x y dd F0 F1 F2).2.1, (drX MS MN S N x y dd F0 F1 F2).2.2.1, (drX MS MN S N x y dd F0 F1 F2).2.2.2.1, (drX MS MN S N x y dd F0 F1 F2).2.2.2.2.1, (drX MS MN S N x y dd F0 F1 F2).2.2.2.2.2.1, (drX MS MN S N x y dd F0 F1 F2).2.2.2.2.2.2.1, (drX MS MN S N x y dd F0 F1 F2).2.2.2.2.2.2.2.1, (drX MS MN S N x y dd F0 F1 F2).2.2.2.2.2.2.2.2, S, N, th, MS, MN, so, qo, rN, pN, hi, tm, M0, M1, M2, mp), 3, 0, f, (3, F0, F1, F2, HH, kt, kp, a, hi, tm, rN, sx, sy, pt, mn, pl, pN, px, py, sn, ltt, rc, tx, sz, upd us 4 (rdF (fun i => tx (60 * 4 + i)) N).2, Px.2.2.2.2.2.1, Px.2.2.2.2.2.2.1, Px.2.2.2.2.2.2.2, Px.1, Px.2.1, Px.2.2.1, (!Px.2.2.2.1), Px.2.2.2.2.1, true, ox, G2.1, G2.2.1, G2.2.2.1, G2.2.2.2.1, G2.2.2.2.2.1, G2.2.2.2.2.2.1, G2.2.2.2.2.2.2.1, G2.2.2.2.2.2.2.2), ⟨R, ⟨rfl, rfl, n3, n4, n5⟩, hz, hz2, TI_us T, U⟩, rfl, fun q => absurd q (by decide), L_draw_3 (fun X => x_WF_draw_3 hst hd T.2.2.1 T.1 hMS r3.1 r3.2.1 r3.2.2 zP.1 zP.2.1 zP.2.2 hin h2.1 h2.2 hq), by rw [lH_e, lH_e]; exact k0⟩
    · have hn : ¬ ((rdF (fun i => tx (60 * 4 + i)) N).1 = true ∧ mcR sz (upd us 4 (rdF (fun i => tx (60 * 4 + i)) N).2) 4 ((upd us 4 (rdF (fun i => tx (60 * 4 + i)) N).2) 4) = true) := fun q => h2 ⟨by rw [← TI_io T]; exact q.1, by rw [TI_mt T (by rw [← TI_io T]; exact q.1)]; exact q.2⟩
      exact ⟨(F0, F1, F2, A0, A1, A2, ec, er, ed, eu, eo, P0, P1, P2, S, N, th, MS, MN, so, qo, rN, pN, hi, tm, M0, M1, M2, mp), 2, 0, f, (2, F0, F1, F2, HH, kt, kp, a, hi, tm, rN, sx, sy, pt, mn, pl, pN, px, py, sn, ltt, rc, tx, sz, upd us 4 (rdF (fun i => tx (60 * 4 + i)) N).2, D0, D1, D2, qx, qy, di, up, dn, be, op, gs, t0, fr, lf, pX, pY, pD, pU), ⟨R, ⟨rfl, rfl, n3, n4, n5⟩, zP, zD, TI_us T, U⟩, rfl, fun q => absurd q (by decide), L_draw_2 (fun X => x_WF_draw_2 hst hd T.2.2.1 T.1 hMS hin h2), by rw [lH_e, lH_e]; exact c_M_draw_2 cH_len T.2.1 T.1 hin hd hn⟩
  · have hf2 : ¬ (inF x y = true ∧ ¬ d < 0 ∧ d ≤ 3) := fun q => hf ⟨q.1, q.2.1, Int32.not_le.mp (fun g => absurd (lt_4.mpr g) (Int32.not_lt.mpr q.2.2))⟩
    exact ⟨(F0, F1, F2, A0, A1, A2, ec, er, ed, eu, eo, P0, P1, P2, S, N, th, MS, MN, so, qo, rN, pN, hi, tm, M0, M1, M2, mp), 1, 0, f, (1, F0, F1, F2, HH, kt, kp, a, hi, tm, rN, sx, sy, pt, mn, pl, pN, px, py, sn, ltt, rc, tx, sz, us, D0, D1, D2, qx, qy, di, up, dn, be, op, gs, t0, fr, lf, pX, pY, pD, pU), ⟨R, ⟨rfl, rfl, n3, n4, n5⟩, zP, zD, T, U⟩, rfl, fun q => absurd q (by decide), L_draw_1 (fun X => x_WF_draw_1 hst hf), by rw [lH_e, lH_e]; exact c_M_draw_1 cH_len hf2⟩
