
theorem dgA_c {S S2 : Nat → Int32} {N : Nat} (h : sg S N = sg S2 N) (f : Nat) : dgA S N f = dgA S2 N f := by unfold dgA; rw [h]
theorem tmN_c {S S2 : Nat → Int32} {N : Nat} (h : sg S N = sg S2 N) (f : Nat) : tmN S N f = tmN S2 N f := by unfold tmN tmA; rw [dgA_c h, h]
theorem bhR_c {S S2 : Nat → Int32} {N : Nat} (h : sg S N = sg S2 N) : ∀ n k d, bhR S N n k d = bhR S2 N n k d := by
  intro n
  induction n with
  | zero => intro k d; rfl
  | succ n ih => intro k d; rw [bhR, bhR, h, ih, ih, ih]
/-- the reference's texts are those -/
def TXr (fx : FX) (TS : Nat → Nat → Int32) (TN : Nat → Nat) (Th : Nat → Prop) : Prop := ∀ t, Th t → t < 5 ∧ fx.2.2.2.2.2.2.2.2.2.2.2.2.2.2.2.2.2.2.2.2.2.2.2.1 t = nI (TN t) ∧ TN t ≤ 60 ∧ sg (fun i => fx.2.2.2.2.2.2.2.2.2.2.2.2.2.2.2.2.2.2.2.2.2.2.1 (60 * t + i)) (TN t) = sg (TS t) (TN t)
section MW
variable {l : Launch} {b : Nat} {D : va_G} {ta : Nat → ClassId} {σ : List va_E} {fx : FX} {TS : Nat → Nat → Int32} {TN : Nat → Nat} {Th : Nat → Prop}
theorem gM_i {t f : Nat} {P : PT} {be : Bool} {op : Nat} {G : GK} {t2 f2 : Nat} {P2 : PT} {be2 : Bool} {op2 : Nat} {G2 : GK} (h : ∀ Γ : jG, jB l b D ta Γ "WireFieldModel" b_M_goThrough none 6 (rL 5) → jW l b D Γ False 0 0 6 (rH b ta σ fx P2 be2 op2 G2) [(0, .ref (b + 133)), (1, .int (nI t2)), (2, .int (nI f2))] 9 [] → jW l b D Γ False 0 0 6 (rH b ta σ fx P be op G) [(0, .ref (b + 133)), (1, .int (nI t)), (2, .int (nI f))] 9 []) : gM l b D ta σ fx (t, f, P, be, op, G) (t2, f2, P2, be2, op2, G2) := h
theorem sz_4 {t p : Nat} {sz : Nat → Int32} {N : Nat} (ht : t < 5) (hz : sz t = nI N) (hp : p < N) (hN : N ≤ 60) : ¬ t < 4 → ¬ sz 4 ≤ nI p := by
  intro q
  have e : t = 4 := by omega
  subst e
  rw [hz]; exact nI_ge hp (by omega)
theorem upA {k : Nat} {x : Int32} {F : Nat → Int32} {i : Nat} (h : i < k) : upd F k x i = F i := pk_un (by omega)
theorem g_hd (hl : σ.length = 133) (hR : TXr fx TS TN Th) {t f : Nat} {P : PT} {op : Nat} {G : GK} (hT : Th t) (hO : oB TS TN t f) {Γ : jG} (B : jB l b D ta Γ "WireFieldModel" b_M_goThrough none 6 (rL 5)) (kk : jW l b D Γ False 0 0 6 (rH b ta σ fx P false op G) [(0, .ref (b + 133)), (1, .int (nI t)), (2, .int (nI (f + dgA (TS t) (TN t) f))), (3, .int (sg (TS t) (TN t) (f + dgA (TS t) (TN t) f))), (4, .int (nI (tmN (TS t) (TN t) f)))] 199 []) : jW l b D Γ False 0 0 6 (rH b ta σ fx P false op G) [(0, .ref (b + 133)), (1, .int (nI t)), (2, .int (nI f))] 9 [] := by
  obtain ⟨ht, hz, hN, hS⟩ := hR t hT
  obtain ⟨hf, n0, n1, n2, hnd⟩ := hO
  rw [← hS] at n0 n1 n2 hnd
  refine g_head hl (t := t) (p := f) (N := TN t) B ht hz hN (by omega) (sz_4 ht hz hf hN) n0 n1 n2 (by rw [dgA_c hS]; exact hnd) ?_
  rw [dgA_c hS, tmN_c hS, hS]
  exact kk
theorem mv_1 (hl : σ.length = 133) (hR : TXr fx TS TN Th) : MV1 (gM l b D ta σ fx) TS TN Th := by
  intro t f L P op G hT hO hL hc hop hP ho
  obtain ⟨ht, hz, hN, hS⟩ := hR t hT
  have h99 := (tm_nI (TS t) (TN t) f).2
  have hdg := dgA_le (TS t) (TN t) f
  have hf := hO.1
  have ho4 := hP.2.1
  rcases hc with hc | hc
  · refine ⟨(upd G.1 op 40, upd G.2.1 op (nI t), upd G.2.2.1 op (nI ((f + dgA (TS t) (TN t) f) + 1)), upd (upd G.2.2.2.1 op (nI (L + 1))) op (nI L), upd G.2.2.2.2.1 op P.1, upd G.2.2.2.2.2.1 op P.2.1, upd G.2.2.2.2.2.2.1 op (nI P.2.2.1), upd G.2.2.2.2.2.2.2 op (vp_nar .boolean (bI (!P.2.2.2.1)))), fun i hi => ⟨upA hi, upA hi, upA hi, (upA hi).trans (upA hi), upA hi, upA hi, upA hi, upA hi⟩, ⟨pk_us, pk_us, pk_us, pk_us, pk_us, pk_us, pk_us.trans (vn_b _)⟩, gM_i (fun Γ B kk => g_hd hl hR hT hO B (by rw [hc, hL]; exact g_open40_t hl (t := t) (p := (f + dgA (TS t) (TN t) f)) (N := TN t) (L := L) B ht hz hN (by omega) (by omega) hop ho kk))⟩
  · refine ⟨(upd G.1 op 91, upd G.2.1 op (nI t), upd G.2.2.1 op (nI ((f + dgA (TS t) (TN t) f) + 1)), upd (upd G.2.2.2.1 op (nI (L + 1))) op (nI L), upd G.2.2.2.2.1 op P.1, upd G.2.2.2.2.2.1 op P.2.1, upd G.2.2.2.2.2.2.1 op (nI P.2.2.1), upd G.2.2.2.2.2.2.2 op (vp_nar .boolean (bI (!P.2.2.2.1)))), fun i hi => ⟨upA hi, upA hi, upA hi, (upA hi).trans (upA hi), upA hi, upA hi, upA hi, upA hi⟩, ⟨pk_us, pk_us, pk_us, pk_us, pk_us, pk_us, pk_us.trans (vn_b _)⟩, gM_i (fun Γ B kk => g_hd hl hR hT hO B (by rw [hc, hL]; exact g_open91_t hl (t := t) (p := (f + dgA (TS t) (TN t) f)) (N := TN t) (L := L) B ht hz hN (by omega) (by omega) hop ho kk))⟩
theorem mv_2 (hl : σ.length = 133) (hR : TXr fx TS TN Th) : MV2 (gM l b D ta σ fx) TS TN Th := by
  intro t f L P op G hT hO hL hc hop hP ho
  obtain ⟨ht, hz, hN, hS⟩ := hR t hT
  have h99 := (tm_nI (TS t) (TN t) f).2
  have hdg := dgA_le (TS t) (TN t) f
  have hf := hO.1
  have ho4 := hP.2.1
  rcases hc with hc | hc
  · exact ⟨(t, (f + dgA (TS t) (TN t) f) + 1, bmp P, true, op + 1, (upd G.1 op 40, upd G.2.1 op (nI t), upd G.2.2.1 op (nI ((f + dgA (TS t) (TN t) f) + 1)), upd (upd G.2.2.2.1 op (nI (L + 1))) op (nI L), upd G.2.2.2.2.1 op P.1, upd G.2.2.2.2.2.1 op P.2.1, upd G.2.2.2.2.2.2.1 op (nI P.2.2.1), upd G.2.2.2.2.2.2.2 op (vp_nar .boolean (bI (!P.2.2.2.1))))), ⟨rfl, hP.2.2.2.2⟩, gM_i (fun Γ B kk => g_hd hl hR hT hO B (by rw [hc, hL]; exact g_open40_f hl (t := t) (p := (f + dgA (TS t) (TN t) f)) (N := TN t) (L := L) B ht hz hN (by omega) (by omega) hop (by omega) (by omega) kk))⟩
  · exact ⟨(t, (f + dgA (TS t) (TN t) f) + 1, bmp P, true, op + 1, (upd G.1 op 91, upd G.2.1 op (nI t), upd G.2.2.1 op (nI ((f + dgA (TS t) (TN t) f) + 1)), upd (upd G.2.2.2.1 op (nI (L + 1))) op (nI L), upd G.2.2.2.2.1 op P.1, upd G.2.2.2.2.2.1 op P.2.1, upd G.2.2.2.2.2.2.1 op (nI P.2.2.1), upd G.2.2.2.2.2.2.2 op (vp_nar .boolean (bI (!P.2.2.2.1))))), ⟨rfl, hP.2.2.2.2⟩, gM_i (fun Γ B kk => g_hd hl hR hT hO B (by rw [hc, hL]; exact g_open91_f hl (t := t) (p := (f + dgA (TS t) (TN t) f)) (N := TN t) (L := L) B ht hz hN (by omega) (by omega) hop (by omega) (by omega) kk))⟩
theorem mv_3 (hl : σ.length = 133) (hR : TXr fx TS TN Th) : MV3 (gM l b D ta σ fx) TS TN Th := by
  intro t f e P op G hT hO hL hc he hb
  obtain ⟨ht, hz, hN, hS⟩ := hR t hT
  have hdg := dgA_le (TS t) (TN t) f
  have hf := hO.1
  rw [← bhR_c hS] at hb
  rcases hc with hc | hc
  · exact gM_i (fun Γ B kk => g_hd hl hR hT hO B (by rw [hc, hL]; exact g_skip40 hl (t := t) (p := (f + dgA (TS t) (TN t) f)) (N := TN t) B ht hz hN (by omega) (by omega) (by rw [hS, hc]; decide) hb kk))
  · exact gM_i (fun Γ B kk => g_hd hl hR hT hO B (by rw [hc, hL]; exact g_skip91 hl (t := t) (p := (f + dgA (TS t) (TN t) f)) (N := TN t) B ht hz hN (by omega) (by omega) (by rw [hS, hc]; decide) hb kk))
theorem mv_4 (hl : σ.length = 133) (hR : TXr fx TS TN Th) : MV4 (gM l b D ta σ fx) TS TN Th := by
  intro t f L j P op G hT hO hL hc hj hop hP ho
  obtain ⟨ht, hz, hN, hS⟩ := hR t hT
  have h99 := (tm_nI (TS t) (TN t) f).2
  have hdg := dgA_le (TS t) (TN t) f
  have hf := hO.1
  have ho4 := hP.2.1
  exact ⟨(upd G.1 op 64, upd G.2.1 op (nI t), upd G.2.2.1 op (nI ((f + dgA (TS t) (TN t) f) + 2)), upd (upd G.2.2.2.1 op (nI (L + 1))) op (nI L), upd G.2.2.2.2.1 op P.1, upd G.2.2.2.2.2.1 op P.2.1, upd G.2.2.2.2.2.2.1 op (nI P.2.2.1), upd G.2.2.2.2.2.2.2 op (vp_nar .boolean (bI (!P.2.2.2.1)))), fun i hi => ⟨upA hi, upA hi, upA hi, (upA hi).trans (upA hi), upA hi, upA hi, upA hi, upA hi⟩, ⟨pk_us, pk_us, pk_us, pk_us, pk_us, pk_us, pk_us.trans (vn_b _)⟩, gM_i (fun Γ B kk => g_hd hl hR hT hO B (by rw [hc, hL]; exact g_open64_t hl (t := t) (p := (f + dgA (TS t) (TN t) f)) (N := TN t) (L := L) B ht hz hN (by omega) (by omega) hop ho (by rw [hS]; exact hj) kk))⟩
theorem mv_5 (hl : σ.length = 133) (hR : TXr fx TS TN Th) : MV5 (gM l b D ta σ fx) TS TN Th := by
  intro t f L j P op G hT hO hL hc hj hop hP ho
  obtain ⟨ht, hz, hN, hS⟩ := hR t hT
  have h99 := (tm_nI (TS t) (TN t) f).2
  have hdg := dgA_le (TS t) (TN t) f
  have hf := hO.1
  have ho4 := hP.2.1
  exact ⟨(j, 0, bmp P, true, op + 1, (upd G.1 op 64, upd G.2.1 op (nI t), upd G.2.2.1 op (nI ((f + dgA (TS t) (TN t) f) + 2)), upd (upd G.2.2.2.1 op (nI (L + 1))) op (nI L), upd G.2.2.2.2.1 op P.1, upd G.2.2.2.2.2.1 op P.2.1, upd G.2.2.2.2.2.2.1 op (nI P.2.2.1), upd G.2.2.2.2.2.2.2 op (vp_nar .boolean (bI (!P.2.2.2.1))))), ⟨rfl, hP.2.2.2.2⟩, gM_i (fun Γ B kk => g_hd hl hR hT hO B (by rw [hc, hL]; exact g_open64_f hl (t := t) (p := (f + dgA (TS t) (TN t) f)) (N := TN t) (L := L) B ht hz hN (by omega) (by omega) hop (by omega) (by omega) (by rw [hS]; exact hj) kk))⟩
theorem mv_6 (hl : σ.length = 133) (hR : TXr fx TS TN Th) : MV6 (gM l b D ta σ fx) TS TN Th := by
  intro t f j P op G hT hO hL hc hj
  obtain ⟨ht, hz, hN, hS⟩ := hR t hT
  have hdg := dgA_le (TS t) (TN t) f
  have hf := hO.1
  exact gM_i (fun Γ B kk => g_hd hl hR hT hO B (by rw [hc, hL]; exact g_skip64 hl (t := t) (p := (f + dgA (TS t) (TN t) f)) (N := TN t) B ht hz hN (by omega) kk))
theorem mv_a41 (hl : σ.length = 133) (hR : TXr fx TS TN Th) : MVa (gM l b D ta σ fx) TS TN Th 41 rs := by
  intro t p a f L P Q op G hT hc hop hL h1 h2 hE ho
  obtain ⟨ht, hz, hN, hS⟩ := hR t hT
  have hpN : p < TN t := sg_in (by rw [hc]; decide)
  have ho4 := h2.2.1
  obtain ⟨e1, e2, e3, e4, e5, e6, e7⟩ := hE
  have hc2 : sg (fun i => fx.2.2.2.2.2.2.2.2.2.2.2.2.2.2.2.2.2.2.2.2.2.2.1 (60 * t + i)) (TN t) p = 41 := by rw [hS]; exact hc
  have hQ2 : (G.2.2.2.2.1 op, G.2.2.2.2.2.1 op, P.2.2.1, P.2.2.2.1, Q.2.2.2.2) = rs P Q := by rw [e4, e5]; rfl
  exact ⟨(G.1, G.2.1, G.2.2.1, upd G.2.2.2.1 op (nI L), upd G.2.2.2.2.1 op (rs P Q).1, upd G.2.2.2.2.2.1 op (rs P Q).2.1, upd G.2.2.2.2.2.2.1 op (nI (rs P Q).2.2.1), upd G.2.2.2.2.2.2.2 op (vp_nar .boolean (bI (!(rs P Q).2.2.2.1)))), fun i hi => ⟨rfl, rfl, rfl, upA hi, upA hi, upA hi, upA hi, upA hi⟩, ⟨e1, e2, pk_us, pk_us, pk_us, pk_us, pk_us.trans (vn_b _)⟩, gM_i (fun Γ B kk => (by have k2 := kk; unfold rH rs at k2; dsimp only at k2; unfold rH; rw [← e4, ← e5] at k2; exact g_again41_t hl (t := t) (p := p) (N := TN t) (L := L) (f := f) B ht hz hN (by omega) (sz_4 ht hz hpN hN) hc2 hop e6 e7 e3 (by omega) e2 ho k2))⟩
theorem mv_f41 (hl : σ.length = 133) (hR : TXr fx TS TN Th) : MVf (gM l b D ta σ fx) TS TN Th 41 := by
  intro t p a f L P Q op G hT hc hop hL h1 h2 hE ho
  obtain ⟨ht, hz, hN, hS⟩ := hR t hT
  have hpN : p < TN t := sg_in (by rw [hc]; decide)
  have ho4 := h2.2.1
  obtain ⟨e1, e2, e3, e4, e5, e6, e7⟩ := hE
  have hc2 : sg (fun i => fx.2.2.2.2.2.2.2.2.2.2.2.2.2.2.2.2.2.2.2.2.2.2.1 (60 * t + i)) (TN t) p = 41 := by rw [hS]; exact hc
  have hQ2 : (G.2.2.2.2.1 op, G.2.2.2.2.2.1 op, P.2.2.1, P.2.2.2.1, Q.2.2.2.2) = rs P Q := by rw [e4, e5]; rfl
  exact ⟨(t, f, bmp (rs P Q), true, op + 1, (G.1, G.2.1, G.2.2.1, upd G.2.2.2.1 op (nI L), upd G.2.2.2.2.1 op (rs P Q).1, upd G.2.2.2.2.2.1 op (rs P Q).2.1, upd G.2.2.2.2.2.2.1 op (nI (rs P Q).2.2.1), upd G.2.2.2.2.2.2.2 op (vp_nar .boolean (bI (!(rs P Q).2.2.2.1))))), ⟨rfl, h2.2.2.2.2⟩, gM_i (fun Γ B kk => (by have k2 := kk; unfold rH rs at k2; dsimp only at k2; unfold rH; rw [← e4, ← e5] at k2; exact g_again41_f hl (t := t) (p := p) (N := TN t) (L := L) (f := f) B ht hz hN (by omega) (sz_4 ht hz hpN hN) hc2 hop e6 e7 e3 (by omega) e2 (by omega) (by omega) k2))⟩
theorem mv_p41 (hl : σ.length = 133) (hR : TXr fx TS TN Th) : MVp (gM l b D ta σ fx) TS TN Th 41 rs := by
  intro t p a f P Q op G hT hc hop h1 h2 hE
  obtain ⟨ht, hz, hN, hS⟩ := hR t hT
  have hpN : p < TN t := sg_in (by rw [hc]; decide)
  have ho4 := h2.2.1
  obtain ⟨e1, e2, e3, e4, e5, e6, e7⟩ := hE
  have hc2 : sg (fun i => fx.2.2.2.2.2.2.2.2.2.2.2.2.2.2.2.2.2.2.2.2.2.2.1 (60 * t + i)) (TN t) p = 41 := by rw [hS]; exact hc
  have hQ2 : (G.2.2.2.2.1 op, G.2.2.2.2.2.1 op, P.2.2.1, P.2.2.2.1, Q.2.2.2.2) = rs P Q := by rw [e4, e5]; rfl
  exact gM_i (fun Γ B kk => (by have k2 := kk; unfold rH rs at k2; dsimp only at k2; unfold rH; rw [← e4, ← e5] at k2; exact g_pop41 hl (t := t) (p := p) (N := TN t) (f := f) (t2 := a) B ht hz hN (by omega) (sz_4 ht hz hpN hN) hc2 hop e6 e7 e3 e2 e1 k2))
theorem mv_a93 (hl : σ.length = 133) (hR : TXr fx TS TN Th) : MVa (gM l b D ta σ fx) TS TN Th 93 (fun _ Q => Q) := by
  intro t p a f L P Q op G hT hc hop hL h1 h2 hE ho
  obtain ⟨ht, hz, hN, hS⟩ := hR t hT
  have hpN : p < TN t := sg_in (by rw [hc]; decide)
  have ho4 := h2.2.1
  obtain ⟨e1, e2, e3, e4, e5, e6, e7⟩ := hE
  have hc2 : sg (fun i => fx.2.2.2.2.2.2.2.2.2.2.2.2.2.2.2.2.2.2.2.2.2.2.1 (60 * t + i)) (TN t) p = 93 := by rw [hS]; exact hc
  exact ⟨(G.1, G.2.1, G.2.2.1, upd G.2.2.2.1 op (nI L), upd G.2.2.2.2.1 op Q.1, upd G.2.2.2.2.2.1 op Q.2.1, upd G.2.2.2.2.2.2.1 op (nI Q.2.2.1), upd G.2.2.2.2.2.2.2 op (vp_nar .boolean (bI (!Q.2.2.2.1)))), fun i hi => ⟨rfl, rfl, rfl, upA hi, upA hi, upA hi, upA hi, upA hi⟩, ⟨e1, e2, pk_us, pk_us, pk_us, pk_us, pk_us.trans (vn_b _)⟩, gM_i (fun Γ B kk => g_again93_t hl (t := t) (p := p) (N := TN t) (L := L) (f := f) B ht hz hN (by omega) (sz_4 ht hz hpN hN) hc2 hop e3 (by omega) e2 ho kk)⟩
theorem mv_f93 (hl : σ.length = 133) (hR : TXr fx TS TN Th) : MVf (gM l b D ta σ fx) TS TN Th 93 := by
  intro t p a f L P Q op G hT hc hop hL h1 h2 hE ho
  obtain ⟨ht, hz, hN, hS⟩ := hR t hT
  have hpN : p < TN t := sg_in (by rw [hc]; decide)
  have ho4 := h2.2.1
  obtain ⟨e1, e2, e3, e4, e5, e6, e7⟩ := hE
  have hc2 : sg (fun i => fx.2.2.2.2.2.2.2.2.2.2.2.2.2.2.2.2.2.2.2.2.2.2.1 (60 * t + i)) (TN t) p = 93 := by rw [hS]; exact hc
  exact ⟨(t, f, bmp Q, true, op + 1, (G.1, G.2.1, G.2.2.1, upd G.2.2.2.1 op (nI L), upd G.2.2.2.2.1 op Q.1, upd G.2.2.2.2.2.1 op Q.2.1, upd G.2.2.2.2.2.2.1 op (nI Q.2.2.1), upd G.2.2.2.2.2.2.2 op (vp_nar .boolean (bI (!Q.2.2.2.1))))), ⟨rfl, h2.2.2.2.2⟩, gM_i (fun Γ B kk => g_again93_f hl (t := t) (p := p) (N := TN t) (L := L) (f := f) B ht hz hN (by omega) (sz_4 ht hz hpN hN) hc2 hop e3 (by omega) e2 (by omega) (by omega) kk)⟩
theorem mv_p93 (hl : σ.length = 133) (hR : TXr fx TS TN Th) : MVp (gM l b D ta σ fx) TS TN Th 93 (fun _ Q => Q) := by
  intro t p a f P Q op G hT hc hop h1 h2 hE
  obtain ⟨ht, hz, hN, hS⟩ := hR t hT
  have hpN : p < TN t := sg_in (by rw [hc]; decide)
  have ho4 := h2.2.1
  obtain ⟨e1, e2, e3, e4, e5, e6, e7⟩ := hE
  have hc2 : sg (fun i => fx.2.2.2.2.2.2.2.2.2.2.2.2.2.2.2.2.2.2.2.2.2.2.1 (60 * t + i)) (TN t) p = 93 := by rw [hS]; exact hc
  exact gM_i (fun Γ B kk => g_pop93 hl (t := t) (p := p) (N := TN t) (f := f) (t2 := a) B ht hz hN (by omega) (sz_4 ht hz hpN hN) hc2 hop e3 e2 e1 kk)
theorem mv_z (hl : σ.length = 133) (hR : TXr fx TS TN Th) : MVz (gM l b D ta σ fx) TN Th := by
  intro t a f L P Q op G hT h4 hop hL h1 h2 hE ho
  obtain ⟨ht, hz, hN, hS⟩ := hR t hT
  have ho4 := h2.2.1
  obtain ⟨e1, e2, e3, e4, e5, e6, e7⟩ := hE
  have hc2 : sg (fun i => fx.2.2.2.2.2.2.2.2.2.2.2.2.2.2.2.2.2.2.2.2.2.2.1 (60 * t + i)) (TN t) (TN t) = 0 := if_neg (Nat.lt_irrefl _)
  exact ⟨(G.1, G.2.1, G.2.2.1, upd G.2.2.2.1 op (nI L), upd G.2.2.2.2.1 op Q.1, upd G.2.2.2.2.2.1 op Q.2.1, upd G.2.2.2.2.2.2.1 op (nI Q.2.2.1), upd G.2.2.2.2.2.2.2 op (vp_nar .boolean (bI (!Q.2.2.2.1)))), fun i hi => ⟨rfl, rfl, rfl, upA hi, upA hi, upA hi, upA hi, upA hi⟩, ⟨e1, e2, pk_us, pk_us, pk_us, pk_us, pk_us.trans (vn_b _)⟩, gM_i (fun Γ B kk => g_again0_t hl (t := t) (p := TN t) (N := TN t) (L := L) (f := f) B ht hz hN (by omega) (fun q => absurd h4 q) hc2 hop e3 (by omega) e2 ho kk)⟩
theorem mv_y (hl : σ.length = 133) (hR : TXr fx TS TN Th) : MVy (gM l b D ta σ fx) TN Th := by
  intro t a f L P Q op G hT h4 hop hL h1 h2 hE ho
  obtain ⟨ht, hz, hN, hS⟩ := hR t hT
  have ho4 := h2.2.1
  obtain ⟨e1, e2, e3, e4, e5, e6, e7⟩ := hE
  have hc2 : sg (fun i => fx.2.2.2.2.2.2.2.2.2.2.2.2.2.2.2.2.2.2.2.2.2.2.1 (60 * t + i)) (TN t) (TN t) = 0 := if_neg (Nat.lt_irrefl _)
  exact ⟨(t, 0, bmp Q, true, op + 1, (G.1, G.2.1, G.2.2.1, upd G.2.2.2.1 op (nI L), upd G.2.2.2.2.1 op Q.1, upd G.2.2.2.2.2.1 op Q.2.1, upd G.2.2.2.2.2.2.1 op (nI Q.2.2.1), upd G.2.2.2.2.2.2.2 op (vp_nar .boolean (bI (!Q.2.2.2.1))))), ⟨rfl, h2.2.2.2.2⟩, gM_i (fun Γ B kk => g_again0_f hl (t := t) (p := TN t) (N := TN t) (L := L) (f := f) B ht hz hN (by omega) (fun q => absurd h4 q) hc2 hop e3 (by omega) e2 (by omega) (by omega) kk)⟩
theorem mv_x (hl : σ.length = 133) (hR : TXr fx TS TN Th) : MVx (gM l b D ta σ fx) TN Th := by
  intro t a f P Q op G hT h4 hop h1 h2 hE
  obtain ⟨ht, hz, hN, hS⟩ := hR t hT
  have ho4 := h2.2.1
  obtain ⟨e1, e2, e3, e4, e5, e6, e7⟩ := hE
  have hc2 : sg (fun i => fx.2.2.2.2.2.2.2.2.2.2.2.2.2.2.2.2.2.2.2.2.2.2.1 (60 * t + i)) (TN t) (TN t) = 0 := if_neg (Nat.lt_irrefl _)
  exact gM_i (fun Γ B kk => g_pop0 hl (t := t) (p := TN t) (N := TN t) (f := f) (t2 := a) B ht hz hN (by omega) (fun q => absurd h4 q) hc2 hop e3 e2 e1 kk)

theorem bey (hl : σ.length = 133) {t p T op : Nat} {ch : Int32} {P : PT} {G : GK} (hT : T ≤ 99) {Γ : jG} (B : jB l b D ta Γ "WireFieldModel" b_M_goThrough none 6 (rL 5)) {k : Nat} (hk : k ≤ T) (kk : jW l b D Γ False 0 0 6 (rH b ta σ fx P true op G) [(0, .ref (b + 133)), (1, .int (nI t)), (2, .int (nI (p + 1)))] 9 []) : jW l b D Γ False 0 0 6 (rH b ta σ fx P true op G) [(0, .ref (b + 133)), (1, .int (nI t)), (2, .int (nI p)), (3, .int ch), (4, .int (nI T)), (5, .int (nI k))] 295 [] := by
  rcases Nat.lt_or_ge k T with q | q
  · exact g_singF hl (t := t) (p := p) (T := T) (ch := ch) B q hT kk
  · have e : k = T := by omega
    subst e
    exact g_singE hl (t := t) (p := p) (T := k) (ch := ch) B kk
theorem sing_run (hl : σ.length = 133) {ch : Int32} (hs : sing ch = true) {t p T op : Nat} {G : GK} (hT : T ≤ 99) : ∀ n k P, PIn P → k + n = T → ∃ P2 : PT, ((pfT (sgO ch) n P).1 = true → P2 = (pfT (sgO ch) n P).2 ∧ PIn P2) ∧ QZs P2 ∧ ∀ Γ : jG, jB l b D ta Γ "WireFieldModel" b_M_goThrough none 6 (rL 5) → jW l b D Γ False 0 0 6 (rH b ta σ fx P2 (!(pfT (sgO ch) n P).1) op G) [(0, .ref (b + 133)), (1, .int (nI t)), (2, .int (nI (p + 1)))] 9 [] → jW l b D Γ False 0 0 6 (rH b ta σ fx P false op G) [(0, .ref (b + 133)), (1, .int (nI t)), (2, .int (nI p)), (3, .int ch), (4, .int (nI T)), (5, .int (nI k))] 295 [] := by
  intro n
  induction n with
  | zero =>
    intro k P hP hk
    have e : k = T := by omega
    subst e
    exact ⟨P, fun _ => ⟨rfl, hP⟩, hP.2.2.2.2, fun Γ B kk => g_singE hl (t := t) (p := p) (T := k) (ch := ch) B kk⟩
  | succ n ih =>
    intro k P hP hk
    have hkT : k < T := by omega
    have h4 := hP.2.1
    by_cases ho : P.2.2.2.2.1 < 400
    · have e0 : sgO ch P = obX ch (bmp P) := if_pos ho
      obtain ⟨P2, h1, hz2, h2⟩ := ob_tie (l := l) (b := b) (D := D) (ta := ta) (fx := fx) hl hs hP ho op G
      cases hq : (obX ch (bmp P)).1 with
      | true =>
        obtain ⟨e1, hin⟩ := h1 hq
        have hb := PI_b hP ho
        have hv : PV (obX ch (bmp P)).2 := obX_PV ⟨hb.1, hb.2.1⟩
        have hx : PQ QX (obX ch (bmp P)).2 := obX_Q QX_k (show PQ QX (bmp P) from hb.2.2.2.1)
        have hI : PIn P2 := by rw [e1] at hin ⊢; exact ⟨hv.1, hv.2, hin, hx, by rw [← e1]; exact hz2⟩
        obtain ⟨P3, h3, hz3, h5⟩ := ih (k + 1) P2 hI (by omega)
        have e2 : pfT (sgO ch) (n + 1) P = pfT (sgO ch) n P2 := by rw [pfT_s, e0, if_pos hq, ← e1]
        rw [e2]
        rw [hq] at h2
        exact ⟨P3, h3, hz3, fun Γ B kk => g_sing1 hl (t := t) (p := p) (T := T) (ch := ch) (k := k) B hkT hT h2 (h5 Γ B kk)⟩
      | false =>
        have e2 : (pfT (sgO ch) (n + 1) P).1 = false := by rw [pfT_s, e0, if_neg (bF hq)]
        rw [e2]
        rw [hq] at h2
        exact ⟨P2, fun q => absurd q Bool.false_ne_true, hz2, fun Γ B kk => g_sing1 hl (t := t) (p := p) (T := T) (ch := ch) (k := k) B hkT hT h2 (bey hl hT B (by omega) kk)⟩
    · have e0 : sgO ch P = (false, P) := if_neg ho
      have e2 : (pfT (sgO ch) (n + 1) P).1 = false := by rw [pfT_s, e0]; rfl
      rw [e2]
      have h2 := c_M_obey_x (l := l) (b := b) (D := D) (ta := ta) (σ := σ) hl (wt := fx.1) (F0 := fx.2.1) (F1 := fx.2.2.1) (F2 := fx.2.2.2.1) (HH := fx.2.2.2.2.1) (kt := fx.2.2.2.2.2.1) (kp := fx.2.2.2.2.2.2.1) (a := fx.2.2.2.2.2.2.2.1) (hi := fx.2.2.2.2.2.2.2.2.1) (tm := fx.2.2.2.2.2.2.2.2.2.1) (sN := fx.2.2.2.2.2.2.2.2.2.2.1) (sx := fx.2.2.2.2.2.2.2.2.2.2.2.1) (sy := fx.2.2.2.2.2.2.2.2.2.2.2.2.1) (pt := fx.2.2.2.2.2.2.2.2.2.2.2.2.2.1) (mn := fx.2.2.2.2.2.2.2.2.2.2.2.2.2.2.1) (pl := fx.2.2.2.2.2.2.2.2.2.2.2.2.2.2.2.1) (pN := fx.2.2.2.2.2.2.2.2.2.2.2.2.2.2.2.2.1) (px := fx.2.2.2.2.2.2.2.2.2.2.2.2.2.2.2.2.2.1) (py := fx.2.2.2.2.2.2.2.2.2.2.2.2.2.2.2.2.2.2.1) (sn := fx.2.2.2.2.2.2.2.2.2.2.2.2.2.2.2.2.2.2.2.1) (lt := fx.2.2.2.2.2.2.2.2.2.2.2.2.2.2.2.2.2.2.2.2.1) (rc := fx.2.2.2.2.2.2.2.2.2.2.2.2.2.2.2.2.2.2.2.2.2.1) (tx := fx.2.2.2.2.2.2.2.2.2.2.2.2.2.2.2.2.2.2.2.2.2.2.1) (sz := fx.2.2.2.2.2.2.2.2.2.2.2.2.2.2.2.2.2.2.2.2.2.2.2.1) (us := fx.2.2.2.2.2.2.2.2.2.2.2.2.2.2.2.2.2.2.2.2.2.2.2.2.1) (X := fx.2.2.2.2.2.2.2.2.2.2.2.2.2.2.2.2.2.2.2.2.2.2.2.2.2) (D0 := P.2.2.2.2.2.1) (D1 := P.2.2.2.2.2.2.1) (D2 := P.2.2.2.2.2.2.2) (qx := P.1) (qy := P.2.1) (di := P.2.2.1) (up := !P.2.2.2.1) (op := op) (gs := G.1) (t0 := G.2.1) (fr := G.2.2.1) (lf := G.2.2.2.1) (pX := G.2.2.2.2.1) (pY := G.2.2.2.2.2.1) (pD := G.2.2.2.2.2.2.1) (pU := G.2.2.2.2.2.2.2) (ch := ch) (dn := P.2.2.2.2.1) (by omega) (by omega)
      exact ⟨bmp P, fun q => absurd q Bool.false_ne_true, hP.2.2.2.2, fun Γ B kk => g_sing1 hl (t := t) (p := p) (T := T) (ch := ch) (k := k) B hkT hT h2 (bey hl hT B (by omega) kk)⟩
theorem mv_7 (hl : σ.length = 133) (hR : TXr fx TS TN Th) : MV7 (gM l b D ta σ fx) TS TN Th := by
  intro t f P op G hT hO hs hP
  obtain ⟨ht, hz, hN, hS⟩ := hR t hT
  have h99 := (tm_nI (TS t) (TN t) f).2
  have hn := sing_no hs
  obtain ⟨P2, h1, hz2, h2⟩ := sing_run (l := l) (b := b) (D := D) (ta := ta) (fx := fx) hl hs (t := t) (p := (f + dgA (TS t) (TN t) f)) (op := op) (G := G) h99 (tmN (TS t) (TN t) f) 0 P hP (by omega)
  have hm : ∀ Γ : jG, jB l b D ta Γ "WireFieldModel" b_M_goThrough none 6 (rL 5) → jW l b D Γ False 0 0 6 (rH b ta σ fx P2 (!(pfT (sgO (sg (TS t) (TN t) (f + dgA (TS t) (TN t) f))) (tmN (TS t) (TN t) f) P).1) op G) [(0, .ref (b + 133)), (1, .int (nI t)), (2, .int (nI ((f + dgA (TS t) (TN t) f) + 1)))] 9 [] → jW l b D Γ False 0 0 6 (rH b ta σ fx P false op G) [(0, .ref (b + 133)), (1, .int (nI t)), (2, .int (nI f))] 9 [] := fun Γ B kk => g_hd hl hR hT hO B (g_sing0 hl (t := t) (p := (f + dgA (TS t) (TN t) f)) (T := tmN (TS t) (TN t) f) (ch := sg (TS t) (TN t) (f + dgA (TS t) (TN t) f)) B hn.2.2.2.2.1 hn.2.2.2.2.2.1 hn.2.2.2.2.2.2 (h2 Γ B kk))
  cases hq : (pfT (sgO (sg (TS t) (TN t) (f + dgA (TS t) (TN t) f))) (tmN (TS t) (TN t) f) P).1 with
  | true =>
    obtain ⟨e1, hI⟩ := h1 hq
    rw [hq] at hm
    refine ⟨fun _ => ⟨by rw [← e1]; exact hI, G, gA_r _ _, ?_⟩, fun q => absurd hq q⟩
    rw [← e1]
    exact gM_i hm
  | false =>
    rw [hq] at hm
    exact ⟨fun q => absurd (hq.symm.trans q) Bool.false_ne_true, fun _ => ⟨(t, (f + dgA (TS t) (TN t) f) + 1, P2, true, op, G), ⟨rfl, hz2⟩, gM_i hm⟩⟩
theorem mv_all (hl : σ.length = 133) (hR : TXr fx TS TN Th) : MVs (gM l b D ta σ fx) TS TN Th := ⟨mv_1 hl hR, mv_2 hl hR, mv_3 hl hR, mv_4 hl hR, mv_5 hl hR, mv_6 hl hR, mv_7 hl hR, mv_a41 hl hR, mv_f41 hl hR, mv_p41 hl hR, mv_a93 hl hR, mv_f93 hl hR, mv_p93 hl hR, mv_z hl hR, mv_y hl hR, mv_x hl hR⟩
/-- the whole walk -/
theorem go_all (hl : σ.length = 133) (hR : TXr fx TS TN Th) (hX : TXs TS TN Th) (h4 : Th 4) {P : PT} (hP : PIn P) (op : Nat) (G : GK) : ((pfD TS TN 20 (TS 4) (TN 4) 0 (TN 4) P).1 = true → PIn (pfD TS TN 20 (TS 4) (TN 4) 0 (TN 4) P).2 ∧ ∃ G2 : GK, jC l b D ta False y_M_goThrough b_M_goThrough 6 none (rL 5) [.ref (b + 133)] (rH b ta σ fx P false op G) none (rH b ta σ fx (pfD TS TN 20 (TS 4) (TN 4) 0 (TN 4) P).2 false 0 G2)) ∧ (¬ (pfD TS TN 20 (TS 4) (TN 4) 0 (TN 4) P).1 = true → ∃ (P2 : PT) (op2 : Nat) (G2 : GK), QZs P2 ∧ jC l b D ta False y_M_goThrough b_M_goThrough 6 none (rL 5) [.ref (b + 133)] (rH b ta σ fx P false op G) none (rH b ta σ fx P2 true op2 G2)) := by
  obtain ⟨ht, hz, hN, hS⟩ := hR 4 h4
  have hs := simD (M := (gM l b D ta σ fx)) gM_r gM_t (mv_all hl hR) hX 20 4 3 0 (TN 4) P 0 G h4 (by omega) (by omega) (by omega) hP (Nat.zero_le _) (hX.1 4 h4).2.2
  refine ⟨fun q => ?_, fun q => ?_⟩
  · obtain ⟨hI, G2, a2, m2⟩ := hs.1 q
    refine ⟨hI, G2, jC_of (own := "WireFieldModel") (by decide +kernel) (Nat.le_of_ble_eq_true rfl) rfl (fun Γ B KK => ?_)⟩
    exact g_start hl B (m2 Γ B (g_end hl (N := TN 4) B hz KK))
  · obtain ⟨⟨t2, p2, P2, be2, op2, G2⟩, ⟨hb, hz2⟩, m2⟩ := hs.2 q
    have hb : be2 = true := hb
    subst hb
    refine ⟨P2, op2, G2, hz2, jC_of (own := "WireFieldModel") (by decide +kernel) (Nat.le_of_ble_eq_true rfl) rfl (fun Γ B KK => ?_)⟩
    exact g_start hl B (m2 Γ B (g_beyond hl (t := t2) (p := p2) B KK))
end MW
