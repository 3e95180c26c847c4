
/-! sources and probes: class and reference -/
def tieS (sN : Nat) (so : Nat → Int32 × Int32 × Int64 × Nat × Nat) (sx sy : Nat → Int32) (pt : Nat → Int64) (mn pl : Nat → Int32) : Prop := ∀ k, k < sN → (∃ C R : Nat, C < 32 ∧ R < 24 ∧ (so k).1 = nI C ∧ (so k).2.1 = nI R) ∧ sx k = (so k).1 ∧ sy k = (so k).2.1 ∧ pt k = (so k).2.2.1 ∧ mn k = nI (so k).2.2.2.1 ∧ pl k = nI (so k).2.2.2.2 ∧ (so k).2.2.2.2 < (so k).2.2.2.1 ∧ (so k).2.2.2.1 ≤ 64
theorem src_step {sN k : Nat} {so : Nat → Int32 × Int32 × Int64 × Nat × Nat} {sx sy : Nat → Int32} {pt : Nat → Int64} {mn q G0 G1 G2 : Nat → Int32} (hk : k < sN) (ht : tieS sN so sx sy pt mn q) (hQ : QX G0 G1 G2) :
    gsT sx sy pt mn k (G0, G2, q) = ((sSt k (so, G0, G1, G2)).2.1, (sSt k (so, G0, G1, G2)).2.2.2, upd q k (nI (sNx (so k).2.2.2.1 (so k).2.2.2.2))) ∧ (sSt k (so, G0, G1, G2)).2.2.1 = G1 ∧ QX (sSt k (so, G0, G1, G2)).2.1 (sSt k (so, G0, G1, G2)).2.2.1 (sSt k (so, G0, G1, G2)).2.2.2 ∧ tieS sN (sSt k (so, G0, G1, G2)).1 sx sy pt mn (upd q k (nI (sNx (so k).2.2.2.1 (so k).2.2.2.2))) := by
  obtain ⟨⟨C, R, hC, hR, e1, e2⟩, f1, f2, f3, f4, f5, f6, f7⟩ := ht k hk
  have hpl : q k + 1 - (q k + 1) / mn k * mn k = nI (sNx (so k).2.2.2.1 (so k).2.2.2.2) := by rw [f5, f4]; exact plc_eq f6 f7
  have hcl : (sy k).toNatClampNeg = R := by rw [f2, e2]; exact nI_clamp (by omega)
  have ha := act_eq (pat := (so k).2.2.1) (P := (so k).2.2.2.2) (by omega)
  have hw := wire_eq hC hR hQ
  have hcond : (lg_cmp ((pt k >>> ((q k).toInt64 &&& 63)) &&& 1) 1 = 0 ∧ ¬ G2 (sy k).toNatClampNeg &&& (1 <<< (sx k &&& 31)) = 0) ↔ (sAct (so k).2.2.1 (so k).2.2.2.2 = true ∧ fVal G0 G1 G2 (so k).1 (so k).2.1 = 3) := by
    rw [hcl, f3, f5, f1, e1, e2, ha, hw]
  have htie : tieS sN (sSt k (so, G0, G1, G2)).1 sx sy pt mn (upd q k (nI (sNx (so k).2.2.2.1 (so k).2.2.2.2))) := by
    intro j hj
    by_cases ej : j = k
    · subst ej
      have e3 : (sSt j (so, G0, G1, G2)).1 j = ((so j).1, (so j).2.1, (so j).2.2.1, (so j).2.2.2.1, sNx (so j).2.2.2.1 (so j).2.2.2.2) := vf_s
      rw [e3, pk_us]
      refine ⟨⟨C, R, hC, hR, e1, e2⟩, f1, f2, f3, f4, rfl, ?_, f7⟩
      show sNx (so j).2.2.2.1 (so j).2.2.2.2 < (so j).2.2.2.1
      unfold sNx
      split <;> omega
    · have e3 : (sSt k (so, G0, G1, G2)).1 j = so j := vf_ne ej
      rw [e3, pk_un ej]
      exact ht j hj
  by_cases h : sAct (so k).2.2.1 (so k).2.2.2.2 = true ∧ fVal G0 G1 G2 (so k).1 (so k).2.1 = 3
  · have s0 : ∀ F kk, sB (so k).2.2.1 (so k).2.2.2.2 G0 G1 G2 F (so k).1 (so k).2.1 kk = pB F (nI C) (nI R) 1 kk := fun F kk => by unfold sB; rw [if_pos h, e1, e2]
    have b2 : tbn (G2 R) C = true := by
      have h3 := h.2
      rw [e1, e2] at h3
      have h4 := hw.mpr h3
      cases hb : tbn (G2 R) C with
      | true => rfl
      | false =>
        exfalso
        apply h4
        apply tbn_ext
        intro i hi
        rw [tbn_and, tbn_1 C hC i hi, tbn_0 i hi]
        by_cases qi : i = C
        · subst qi; rw [hb]; rfl
        · simp [qi]
    have b1 : tbn (G1 R) C = false := by
      cases hb : tbn (G1 R) C with
      | false => rfl
      | true => exact absurd ⟨hb, b2⟩ (hQ R C hC).2.2
    have t0 : (sSt k (so, G0, G1, G2)).2.1 = pB G0 (nI C) (nI R) 1 1 := s0 G0 1
    have t1 : (sSt k (so, G0, G1, G2)).2.2.1 = pB G1 (nI C) (nI R) 1 2 := s0 G1 2
    have t2 : (sSt k (so, G0, G1, G2)).2.2.2 = pB G2 (nI C) (nI R) 1 3 := s0 G2 3
    refine ⟨?_, by rw [t1]; exact pB_id hC hR (by decide) b1, by rw [t0, t1, t2]; exact QX_k _ _ _ _ _ _ (by decide) (by decide) hQ, htie⟩
    rw [t0, t2]
    show (if _ then _ else _) = _
    rw [if_pos (hcond.mpr h), hpl, hcl, f1, e1]
    unfold pB
    rw [if_pos (inF_n hC hR), if_pos (inF_n hC hR), nI_clamp (by omega), if_pos rfl, if_neg (by decide)]
  · have s0 : ∀ F kk, sB (so k).2.2.1 (so k).2.2.2.2 G0 G1 G2 F (so k).1 (so k).2.1 kk = F := fun F kk => by unfold sB; rw [if_neg h]
    have t0 : (sSt k (so, G0, G1, G2)).2.1 = G0 := s0 G0 1
    have t1 : (sSt k (so, G0, G1, G2)).2.2.1 = G1 := s0 G1 2
    have t2 : (sSt k (so, G0, G1, G2)).2.2.2 = G2 := s0 G2 3
    refine ⟨?_, t1, by rw [t0, t1, t2]; exact hQ, htie⟩
    rw [t0, t2]
    show (if _ then _ else _) = _
    rw [if_neg (fun z => h (hcond.mp z)), hpl]
theorem src_tie {sN : Nat} {so : Nat → Int32 × Int32 × Int64 × Nat × Nat} {sx sy : Nat → Int32} {pt : Nat → Int64} {mn pl F0 F1 F2 : Nat → Int32} (ht : tieS sN so sx sy pt mn pl) (hQ : QX F0 F1 F2) : ∀ k, k ≤ sN →
    (gsS sx sy pt mn (F0, F2, pl) k).1 = (sIt (so, F0, F1, F2) k).2.1 ∧ F1 = (sIt (so, F0, F1, F2) k).2.2.1 ∧ (gsS sx sy pt mn (F0, F2, pl) k).2.1 = (sIt (so, F0, F1, F2) k).2.2.2 ∧ QX (sIt (so, F0, F1, F2) k).2.1 (sIt (so, F0, F1, F2) k).2.2.1 (sIt (so, F0, F1, F2) k).2.2.2 ∧ tieS sN (sIt (so, F0, F1, F2) k).1 sx sy pt mn (gsS sx sy pt mn (F0, F2, pl) k).2.2 := by
  intro k
  induction k with
  | zero => intro _; exact ⟨rfl, rfl, rfl, hQ, ht⟩
  | succ k ih =>
    intro hk
    obtain ⟨h0, h1, h2, h3, h4⟩ := ih (by omega)
    rw [gsS, sIt]
    generalize hs : sIt (so, F0, F1, F2) k = s at *
    generalize hg : gsS sx sy pt mn (F0, F2, pl) k = g at *
    obtain ⟨so1, G0, G1, G2⟩ := s
    obtain ⟨H0, H2, q⟩ := g
    have h0 : H0 = G0 := h0
    have h1 : F1 = G1 := h1
    have h2 : H2 = G2 := h2
    subst h0 h2
    obtain ⟨r1, r2, r3, r4⟩ := src_step (k := k) (by omega) h4 h3
    rw [r1]
    exact ⟨rfl, by rw [r2, ← h1], rfl, r3, r4⟩
def tieQ (pN : Nat) (qo : Nat → Int32 × Int32 × Int32 × Int32 × Int64) (px py sn lt : Nat → Int32) (rc : Nat → Int64) : Prop := ∀ k, k < pN → (∃ C R : Nat, C < 32 ∧ R < 24 ∧ (qo k).1 = nI C ∧ (qo k).2.1 = nI R) ∧ px k = (qo k).1 ∧ py k = (qo k).2.1 ∧ sn k = (qo k).2.2.1 ∧ lt k = (qo k).2.2.2.1 ∧ rc k = (qo k).2.2.2.2
theorem prb_tie {pN : Nat} {qo : Nat → Int32 × Int32 × Int32 × Int32 × Int64} {px py sn lt F0 F1 F2 : Nat → Int32} {rc : Nat → Int64} {t : Int32} (ht : tieQ pN qo px py sn lt rc) : ∀ k, k ≤ pN → tieQ pN (qIt F0 F1 F2 t qo k) px py (pbS px py F0 t (rc, sn, lt) k).2.1 (pbS px py F0 t (rc, sn, lt) k).2.2 (pbS px py F0 t (rc, sn, lt) k).1 := by
  intro k
  induction k with
  | zero => intro _; rw [qIt_0]; exact ht
  | succ k ih =>
    intro hk
    have h4 := ih (by omega)
    rw [← qIt_s (z := qSt F0 F1 F2 t (qo k)) rfl, pbS]
    generalize pbS px py F0 t (rc, sn, lt) k = g at *
    obtain ⟨rc1, sn1, lt1⟩ := g
    have h4 : tieQ pN (qIt F0 F1 F2 t qo k) px py sn1 lt1 rc1 := h4
    have hkk := h4 k (by omega)
    rw [qIt_k] at hkk
    obtain ⟨⟨C, R, hC, hR, e1, e2⟩, f1, f2, f3, f4, f5⟩ := hkk
    have hb : btR (F0 (py k).toNatClampNeg) (px k) = bI (tbn (F0 R) C) := by rw [f2, e2, nI_clamp (by omega), f1, e1]; exact btR_b hC
    have hv : fVal F0 F1 F2 (qo k).1 (qo k).2.1 = 1 ↔ tbn (F0 R) C = true := by
      rw [e1, e2]
      unfold fVal
      rw [if_pos (inF_n hC hR), nI_clamp (by omega), tb_b hC, tb_b hC, tb_b hC]
      cases tbn (F0 R) C <;> cases tbn (F1 R) C <;> cases tbn (F2 R) C <;> decide
    intro j hj
    by_cases ej : j = k
    · subst ej
      rw [vf_s]
      cases hq : tbn (F0 R) C with
      | true =>
        have p : pbT px py F0 t j (rc1, sn1, lt1) = (vp_updL rc1 j (rc1 j * 2 + (1 : Int32).toInt64), upd sn1 j (sn1 j + 1), upd lt1 j t) := by
          show (if _ then _ else _) = _
          rw [hb, hq, if_pos (by decide)]; rfl
        have z : qSt F0 F1 F2 t (qo j) = ((qo j).1, (qo j).2.1, (qo j).2.2.1 + 1, t, (qo j).2.2.2.2 * 2 + (1 : Int32).toInt64) := by unfold qSt; rw [if_pos (hv.mpr hq)]
        rw [p, z]
        exact ⟨⟨C, R, hC, hR, e1, e2⟩, f1, f2, by dsimp only; rw [pk_us, f3], by dsimp only; rw [pk_us], by dsimp only; rw [pk_uLs, f5]⟩
      | false =>
        have p : pbT px py F0 t j (rc1, sn1, lt1) = (vp_updL rc1 j (rc1 j * 2 + (0 : Int32).toInt64), upd sn1 j (sn1 j + 0), upd lt1 j (lt1 j)) := by
          show (if _ then _ else _) = _
          rw [hb, hq, if_neg (by decide)]; rfl
        have z : qSt F0 F1 F2 t (qo j) = ((qo j).1, (qo j).2.1, (qo j).2.2.1, (qo j).2.2.2.1, (qo j).2.2.2.2 * 2 + (0 : Int32).toInt64) := by unfold qSt; rw [if_neg (fun w => absurd (hv.mp w) (by rw [hq]; decide))]
        rw [p, z]
        exact ⟨⟨C, R, hC, hR, e1, e2⟩, f1, f2, by dsimp only; rw [pk_us, f3]; simp, by dsimp only; rw [pk_us, f4], by dsimp only; rw [pk_uLs, f5]⟩
    · rw [vf_ne ej]
      have hj2 := h4 j hj
      have p : (pbT px py F0 t k (rc1, sn1, lt1)).2.1 j = sn1 j ∧ (pbT px py F0 t k (rc1, sn1, lt1)).2.2 j = lt1 j ∧ (pbT px py F0 t k (rc1, sn1, lt1)).1 j = rc1 j := by
        simp only [pbT]
        split
        · exact ⟨pk_un ej, pk_un ej, pk_uLn ej⟩
        · exact ⟨pk_un ej, pk_un ej, pk_uLn ej⟩
      rw [p.1, p.2.1, p.2.2]
      exact hj2
