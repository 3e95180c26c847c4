
theorem ordS {M : GS → GS → Prop} {TS : Nat → Nat → Int32} {TN : Nat → Nat} {Th : Nat → Prop} (tr : ∀ a b c, M a b → M b c → M a c) (mv : MVs M TS TN Th) (hX : TXs TS TN Th) {m : Nat} (IH : SIM M TS TN Th m) {t kk f e op : Nat} (hT : Th t) (hkk : kk ≤ 3) (hm : 4 * t + kk ≤ m) (hop : op + m < 20) (hf : f < TN t) (hcl : cl (sg (TS t) (TN t) f) = false) (he : eoO (eoD (TS t) (TN t) t kk) (TS t) (TN t) t (f + dgA (TS t) (TN t) f) = some e) {P : PT} {G : GK} (hP : PIn P) : sC M (t, f, P, false, op, G) t e op G (pfT (pfO (pfD TS TN m) TS TN (TS t) (TN t) (f + dgA (TS t) (TN t) f) e) (tmN (TS t) (TN t) f) P) := by
  obtain ⟨m1, m2, m3, m4, m5, m6, m7, a41, f41, p41, a93, f93, p93, mz, my, mx⟩ := mv
  have hch := eo_ch he
  have hO : oB TS TN t f := gO_of hf hcl hch
  have h99 := (tm_nI (TS t) (TN t) f).2
  have hv := hX.1 t hT
  have he60 : e ≤ TN t := eoO_le he
  by_cases c40 : sg (TS t) (TN t) (f + dgA (TS t) (TN t) f) = 40
  · have hk1 : (f + dgA (TS t) (TN t) f) + 1 ≤ TN t := (eo_br he (Or.inl c40)).2
    obtain ⟨q, z, rfl, rfl, hz, hzs⟩ := eo_b40 he c40
    cases hT0 : tmN (TS t) (TN t) f with
    | zero => exact sC_one hP (m3 t f (z + 1) P op G hT hO hT0 (Or.inl c40) (by omega) (bh_top (c := 41) (by decide) (by rw [c40]; decide) hz hzs))
    | succ L =>
      refine rep_all (inn := pfD TS TN m (TS t) (TN t) ((f + dgA (TS t) (TN t) f) + 1) z) (rst := rs) (tI := t) (fI := (f + dgA (TS t) (TN t) f) + 1) (tZ := t) (zZ := z) (a := t) (f := (f + dgA (TS t) (TN t) f) + 1) tr ?_ ?_ ?_ (fun P Q h1 h2 => PI_r h1 h2) ?_ ?_ ?_ (by omega) hP ?_ ?_
      · intro P ho; rw [pfO_lt ho, if_pos c40] <;> rfl
      · intro P ho; rw [pfO_ge ho]
      · intro P G hP; exact IH t q _ z P (op + 1) G hT (by omega) (by omega) (by omega) hP hk1 hz
      · intro P Q G h1 h2 h3; exact p41 t z t _ P Q op G hT hzs (by omega) h1 h2 h3
      · intro P Q G L h1 h2 hL h3 ho; exact a41 t z t _ L P Q op G hT hzs (by omega) hL h1 h2 h3 ho
      · intro P Q G L h1 h2 hL h3 ho; exact f41 t z t _ L P Q op G hT hzs (by omega) hL h1 h2 h3 ho
      · intro ho; exact m1 t f L P op G hT hO hT0 (Or.inl c40) (by omega) hP ho
      · intro ho; exact m2 t f L P op G hT hO hT0 (Or.inl c40) (by omega) hP ho
  · by_cases c91 : sg (TS t) (TN t) (f + dgA (TS t) (TN t) f) = 91
    · have hk1 : (f + dgA (TS t) (TN t) f) + 1 ≤ TN t := (eo_br he (Or.inr c91)).2
      obtain ⟨q, z, rfl, rfl, hz, hzs⟩ := eo_b91 he c91
      have n64 : ¬ sg (TS t) (TN t) (f + dgA (TS t) (TN t) f) = 64 := by rw [c91]; decide
      cases hT0 : tmN (TS t) (TN t) f with
      | zero => exact sC_one hP (m3 t f (z + 1) P op G hT hO hT0 (Or.inr c91) (by omega) (bh_top (c := 93) (by decide) (by rw [c91]; decide) hz hzs))
      | succ L =>
        refine rep_all (inn := pfD TS TN m (TS t) (TN t) ((f + dgA (TS t) (TN t) f) + 1) z) (rst := fun _ Q => Q) (tI := t) (fI := (f + dgA (TS t) (TN t) f) + 1) (tZ := t) (zZ := z) (a := t) (f := (f + dgA (TS t) (TN t) f) + 1) tr ?_ ?_ ?_ (fun P Q h1 h2 => h2) ?_ ?_ ?_ (by omega) hP ?_ ?_
        · intro P ho; rw [pfO_lt ho, if_neg c40, if_neg n64, if_pos c91] <;> rfl
        · intro P ho; rw [pfO_ge ho]
        · intro P G hP; exact IH t q _ z P (op + 1) G hT (by omega) (by omega) (by omega) hP hk1 hz
        · intro P Q G h1 h2 h3; exact p93 t z t _ P Q op G hT hzs (by omega) h1 h2 h3
        · intro P Q G L h1 h2 hL h3 ho; exact a93 t z t _ L P Q op G hT hzs (by omega) hL h1 h2 h3 ho
        · intro P Q G L h1 h2 hL h3 ho; exact f93 t z t _ L P Q op G hT hzs (by omega) hL h1 h2 h3 ho
        · intro ho; exact m1 t f L P op G hT hO hT0 (Or.inr c91) (by omega) hP ho
        · intro ho; exact m2 t f L P op G hT hO hT0 (Or.inr c91) (by omega) hP ho
    · by_cases c64 : sg (TS t) (TN t) (f + dgA (TS t) (TN t) f) = 64
      · obtain ⟨rfl, j, hj, hjz⟩ := eo_m64 hv.1 he c64
        have hTj : Th j := hX.2 t hT _ j c64 hjz hj
        have hvj := hX.1 j hTj
        cases hT0 : tmN (TS t) (TN t) f with
        | zero => exact sC_one hP (m6 t f j P op G hT hO hT0 c64 hjz)
        | succ L =>
          refine rep_all (inn := pfD TS TN m (TS j) (TN j) 0 (TN j)) (rst := fun _ Q => Q) (tI := j) (fI := 0) (tZ := j) (zZ := TN j) (a := t) (f := (f + dgA (TS t) (TN t) f) + 2) tr ?_ ?_ ?_ (fun P Q h1 h2 => h2) ?_ ?_ ?_ (by omega) hP ?_ ?_
          · intro P ho
            rw [pfO_lt ho, if_neg c40, if_pos c64, if_pos ⟨by rw [hjz]; exact nI_pos (by omega), by rw [hjz]; exact nI_lt (b := 4) (by omega) (by decide)⟩, hjz, nI_clamp (by omega)] <;> rfl
          · intro P ho; rw [pfO_ge ho]
          · intro P G hP; exact IH j 3 0 (TN j) P (op + 1) G hTj (by omega) (by omega) (by omega) hP (Nat.zero_le _) hvj.2.2
          · intro P Q G h1 h2 h3; exact mx j t _ P Q op G hTj (by omega) (by omega) h1 h2 h3
          · intro P Q G L h1 h2 hL h3 ho; exact mz j t _ L P Q op G hTj (by omega) (by omega) hL h1 h2 h3 ho
          · intro P Q G L h1 h2 hL h3 ho; exact my j t _ L P Q op G hTj (by omega) (by omega) hL h1 h2 h3 ho
          · intro ho; exact m4 t f L j P op G hT hO hT0 c64 hjz (by omega) hP ho
          · intro ho; exact m5 t f L j P op G hT hO hT0 c64 hjz (by omega) hP ho
      · have hs : sing (sg (TS t) (TN t) (f + dgA (TS t) (TN t) f)) = true := eo_sing he c40 c64 c91
        have e1 := eo_s1 he hs
        subst e1
        have e2 : pfO (pfD TS TN m) TS TN (TS t) (TN t) (f + dgA (TS t) (TN t) f) ((f + dgA (TS t) (TN t) f) + 1) = sgO (sg (TS t) (TN t) (f + dgA (TS t) (TN t) f)) := by
          funext P
          by_cases ho : P.2.2.2.2.1 < 400
          · rw [pfO_lt ho, if_neg c40, if_neg c64, if_neg c91, sgO, if_pos ho]
          · rw [pfO_ge ho, sgO, if_neg ho]
        rw [e2]
        exact m7 t f P op G hT hO hs hP
theorem simL {M : GS → GS → Prop} {TS : Nat → Nat → Int32} {TN : Nat → Nat} {Th : Nat → Prop} (rf : ∀ a, M a a) (tr : ∀ a b c, M a b → M b c → M a c) (mv : MVs M TS TN Th) (hX : TXs TS TN Th) {m : Nat} (IH : SIM M TS TN Th m) {t kk to op : Nat} (hT : Th t) (hkk : kk ≤ 3) (hm : 4 * t + kk ≤ m) (hop : op + m < 20) : ∀ n n2 f P G, PIn P → to ≤ f + n → eoS (eoD (TS t) (TN t) t kk) (TS t) (TN t) t n2 f = some to → sC M (t, f, P, false, op, G) t to op G (pfL (pfD TS TN m) TS TN (TS t) (TN t) to n f P) := by
  intro n
  induction n with
  | zero =>
    intro n2 f P G hP hn hs
    have h1 := eoS_ge (eoD_ge kk) _ _ _ hs
    have e1 : f = to := by omega
    subst e1
    exact sC_one hP (rf _)
  | succ n ih =>
    intro n2 f P G hP hn hs
    have h1 := eoS_ge (eoD_ge kk) _ _ _ hs
    rw [pfL_s]
    by_cases hlt : f < to
    · rw [if_pos hlt]
      obtain ⟨n3, e, hfN, hcl, he, hs2⟩ := eoS_go hs hlt
      have hge := eoO_gt (eoD_ge kk) he
      rw [eoO_mono (eoD_mono (hX.1 t hT).1 kk 3 hkk) (hX.1 t hT).1 (Nat.le_refl 4) he]
      dsimp only
      have h2 := ordS tr mv hX IH hT hkk hm hop hfN hcl he (G := G) hP
      by_cases hq : (pfT (pfO (pfD TS TN m) TS TN (TS t) (TN t) (f + dgA (TS t) (TN t) f) e) (tmN (TS t) (TN t) f) P).1 = true
      · rw [if_pos hq]
        obtain ⟨hI, G1, a1, x1⟩ := h2.1 hq
        exact sC_pre tr x1 a1 (ih n3 e _ G1 hI (by omega) hs2)
      · rw [if_neg hq]
        exact sC_no rfl (h2.2 hq)
    · rw [if_neg hlt]
      have e1 : f = to := by omega
      subst e1
      exact sC_one hP (rf _)
theorem simD {M : GS → GS → Prop} {TS : Nat → Nat → Int32} {TN : Nat → Nat} {Th : Nat → Prop} (rf : ∀ a, M a a) (tr : ∀ a b c, M a b → M b c → M a c) (mv : MVs M TS TN Th) (hX : TXs TS TN Th) : ∀ m, SIM M TS TN Th m := by
  intro m
  induction m with
  | zero => intro t kk f to P op G hT hkk hm; omega
  | succ m ih =>
    intro t kk f to P op G hT hkk hm hop hP hf hs
    have hv := hX.1 t hT
    have hle := eoS_le _ _ _ hf hs
    exact simL rf tr mv hX ih hT hkk (by omega) (by omega) 60 60 f P G hP (by omega) hs
