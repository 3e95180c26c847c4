set_option maxRecDepth 100000 in
set_option maxHeartbeats 4000000 in
theorem c_Tx_isDigit {l : Launch} {b : Nat} {D : va_G} {ta : Nat → ClassId} {σ : List va_E} (c : Int32) : jC l b D ta False y_Tx_isDigit b_Tx_isDigit 1 (some .boolean) (rL 0) [.int c] (σ) (some (.int (bI (dg c)))) (σ) := by
  refine jC_of (own := "WireField$Text") (by decide +kernel) (Nat.le_of_ble_eq_true rfl) rfl (fun Γ B K => ?_)
  change jW l b D Γ False 0 0 1 (σ) [(0, .int c)] 0 []
  refine j_iload_n B d_Tx_isDigit_0 rfl 0 rfl ?_
  refine j_bipush (v := 48) B d_Tx_isDigit_1 (by decide) ?_
  refine j_icmp_lt B d_Tx_isDigit_3 rfl (fun h3 => ?_) (fun h3 => ?_)
  · -- 3 jump
    refine j_iconst (v := 0) B d_Tx_isDigit_16 (by decide) ?_
    exact j_zret B K (by decide) (by simp [bI, dg, h3]) rfl d_Tx_isDigit_17
  · -- 3 on
    refine j_iload_n B d_Tx_isDigit_6 rfl 0 rfl ?_
    refine j_bipush (v := 57) B d_Tx_isDigit_7 (by decide) ?_
    refine j_icmp_gt B d_Tx_isDigit_9 rfl (fun h9 => ?_) (fun h9 => ?_)
    · -- 9 jump
      refine j_iconst (v := 0) B d_Tx_isDigit_16 (by decide) ?_
      exact j_zret B K (by decide) (by simp [bI, dg, h3, h9]) rfl d_Tx_isDigit_17
    · -- 9 on
      refine j_iconst (v := 1) B d_Tx_isDigit_12 (by decide) ?_
      refine j_goto B d_Tx_isDigit_13 rfl ?_
      exact j_zret B K (by decide) (by simp [bI, dg, h3, h9]) rfl d_Tx_isDigit_17
set_option maxRecDepth 100000 in
set_option maxHeartbeats 4000000 in
theorem c_Tx_isClosing {l : Launch} {b : Nat} {D : va_G} {ta : Nat → ClassId} {σ : List va_E} (c : Int32) : jC l b D ta False y_Tx_isClosing b_Tx_isClosing 1 (some .boolean) (rL 0) [.int c] (σ) (some (.int (bI (cl c)))) (σ) := by
  refine jC_of (own := "WireField$Text") (by decide +kernel) (Nat.le_of_ble_eq_true rfl) rfl (fun Γ B K => ?_)
  change jW l b D Γ False 0 0 1 (σ) [(0, .int c)] 0 []
  refine j_iload_n B d_Tx_isClosing_0 rfl 0 rfl ?_
  refine j_bipush (v := 41) B d_Tx_isClosing_1 (by decide) ?_
  refine j_icmp_eq B d_Tx_isClosing_3 rfl (fun h3 => ?_) (fun h3 => ?_)
  · -- 3 jump
    refine j_iconst (v := 1) B d_Tx_isClosing_12 (by decide) ?_
    refine j_goto B d_Tx_isClosing_13 rfl ?_
    exact j_zret B K (by decide) (by simp [bI, cl, h3]) rfl d_Tx_isClosing_17
  · -- 3 on
    refine j_iload_n B d_Tx_isClosing_6 rfl 0 rfl ?_
    refine j_bipush (v := 93) B d_Tx_isClosing_7 (by decide) ?_
    refine j_icmp_ne B d_Tx_isClosing_9 rfl (fun h9 => ?_) (fun h9 => ?_)
    · -- 9 jump
      refine j_iconst (v := 0) B d_Tx_isClosing_16 (by decide) ?_
      exact j_zret B K (by decide) (by simp [bI, cl, h3, h9]) rfl d_Tx_isClosing_17
    · -- 9 on
      refine j_iconst (v := 1) B d_Tx_isClosing_12 (by decide) ?_
      refine j_goto B d_Tx_isClosing_13 rfl ?_
      exact j_zret B K (by decide) (by simp [bI, cl, h3, h9]) rfl d_Tx_isClosing_17
set_option maxRecDepth 100000 in
set_option maxHeartbeats 4000000 in
theorem c_Tx_signAt {l : Launch} {b : Nat} {D : va_G} {ta : Nat → ClassId} {σ : List va_E} {x s : Nat} {S : Nat → Int32} {N : Nat} (hx : σ[x]? = some (.inr (5, [.ref (b + s), .int (nI N)]))) (hs : σ[s]? = some (.inl (ta 1, 60, .inl S))) (hS : Fc S) (hN : N ≤ 60) {k : Nat} (hk : k < 2 ^ 31) : jC l b D ta False y_Tx_signAt b_Tx_signAt 2 (some .char) (rL 0) [.ref (b + x), .int (nI k)] (σ) (some (.int (sg S N k))) (σ) := by
  refine jC_of (own := "WireField$Text") (by decide +kernel) (Nat.le_of_ble_eq_true rfl) rfl (fun Γ B K => ?_)
  change jW l b D Γ False 0 0 2 (σ) [(0, .ref (b + x)), (1, .int (nI k))] 0 []
  refine j_iload_n B d_Tx_signAt_0 rfl 1 rfl ?_
  refine j_if_lt B d_Tx_signAt_1 rfl (fun h1 => absurd h1 (nI_pos hk)) (fun h1 => ?_)
  refine j_iload_n B d_Tx_signAt_4 rfl 1 rfl ?_
  refine j_aload_n B d_Tx_signAt_5 rfl 0 rfl ?_
  refine gf_Tx_15 B hx rfl d_Tx_signAt_6 ?_
  refine j_icmp_ge B d_Tx_signAt_9 rfl (fun h9 => ?_) (fun h9 => ?_)
  · -- 9 jump
    have h9 : ¬ k < N := fun q => absurd h9 (nI_ge q (by omega))
    refine j_iconst (v := 0) B d_Tx_signAt_21 (by decide) ?_
    exact j_zret B K (by decide) (by simp only [sg, h9, if_true, if_false]) rfl d_Tx_signAt_22
  · -- 9 on
    have h9 : k < N := (Nat.lt_or_ge k N).elim id (fun q => absurd (nI_le q hk) h9)
    refine j_aload_n B d_Tx_signAt_12 rfl 0 rfl ?_
    refine gf_Tx_9 B hx rfl d_Tx_signAt_13 ?_
    refine j_iload_n B d_Tx_signAt_16 rfl 1 rfl ?_
    refine j_caldN B rfl hs (by omega) d_Tx_signAt_17 ?_
    refine j_goto B d_Tx_signAt_18 rfl ?_
    exact j_zret B K (hS _).1 (by simp only [sg, h9, if_true, if_false]) rfl d_Tx_signAt_22
set_option maxRecDepth 100000 in
set_option maxHeartbeats 4000000 in
theorem c_Tx_digitsAt {l : Launch} {b : Nat} {D : va_G} {ta : Nat → ClassId} {σ : List va_E} {x s : Nat} {S : Nat → Int32} {N : Nat} (hx : σ[x]? = some (.inr (5, [.ref (b + s), .int (nI N)]))) (hs : σ[s]? = some (.inl (ta 1, 60, .inl S))) (hS : Fc S) (hN : N ≤ 60) {k : Nat} (hk : k < 2 ^ 30) : jC l b D ta False y_Tx_digitsAt b_Tx_digitsAt 2 (some .int) (rL 1) [.ref (b + x), .int (nI k)] (σ) (some (.int (nI (dgA S N k)))) (σ) := by
  refine jC_of (own := "WireField$Text") (by decide +kernel) (Nat.le_of_ble_eq_true rfl) rfl (fun Γ B K => ?_)
  change jW l b D Γ False 0 0 2 (σ) [(0, .ref (b + x)), (1, .int (nI k))] 0 []
  refine j_aload_n B d_Tx_digitsAt_0 rfl 0 rfl ?_
  refine j_iload_n B d_Tx_digitsAt_1 rfl 1 rfl ?_
  refine k_callV (as := [.int (nI k)]) (rest := []) (st1 := [.int (sg S N k)]) B (c_Tx_signAt hx hs hS hN (k := k) (by omega)) yf_Tx_signAt w_447 w_448 w_449 rfl hx rfl (by decide) (by decide) rfl rfl (Nat.le_of_ble_eq_true rfl) d_Tx_digitsAt_2 ?_
  refine k_callS (as := [.int (sg S N k)]) (rest := []) (st1 := [.int (bI (dg (sg S N k)))]) B (c_Tx_isDigit (sg S N k)) yf_Tx_isDigit w_458 w_459 rfl (by decide) (by decide) rfl rfl (Nat.le_of_ble_eq_true rfl) d_Tx_digitsAt_5 ?_
  refine j_if_ne B d_Tx_digitsAt_8 rfl (fun h8 => ?_) (fun h8 => ?_)
  · -- 8 jump
    replace h8 := bI_t h8
    refine j_aload_n B d_Tx_digitsAt_13 rfl 0 rfl ?_
    refine j_iload_n B d_Tx_digitsAt_14 rfl 1 rfl ?_
    refine j_iconst (v := 1) B d_Tx_digitsAt_15 (by decide) ?_
    refine j_iaddE (v := nI (k + 1)) B (nI_add k 1) d_Tx_digitsAt_16 ?_
    refine k_callV (as := [.int (nI (k + 1))]) (rest := []) (st1 := [.int (sg S N (k + 1))]) B (c_Tx_signAt hx hs hS hN (k := (k + 1)) (by omega)) yf_Tx_signAt w_447 w_448 w_449 rfl hx rfl (by decide) (by decide) rfl rfl (Nat.le_of_ble_eq_true rfl) d_Tx_digitsAt_17 ?_
    refine k_callS (as := [.int (sg S N (k + 1))]) (rest := []) (st1 := [.int (bI (dg (sg S N (k + 1))))]) B (c_Tx_isDigit (sg S N (k + 1))) yf_Tx_isDigit w_458 w_459 rfl (by decide) (by decide) rfl rfl (Nat.le_of_ble_eq_true rfl) d_Tx_digitsAt_20 ?_
    refine j_if_eq B d_Tx_digitsAt_23 rfl (fun h23 => ?_) (fun h23 => ?_)
    · -- 23 jump
      replace h23 := bI_f h23
      refine j_iconst (v := 1) B d_Tx_digitsAt_30 (by decide) ?_
      exact j_iret B K (by simp [dgA, nI, h8, h23]) rfl d_Tx_digitsAt_31
    · -- 23 on
      replace h23 := bI_t h23
      refine j_iconst (v := 2) B d_Tx_digitsAt_26 (by decide) ?_
      refine j_goto B d_Tx_digitsAt_27 rfl ?_
      exact j_iret B K (by simp [dgA, nI, h8, h23]) rfl d_Tx_digitsAt_31
  · -- 8 on
    replace h8 := bI_f h8
    refine j_iconst (v := 0) B d_Tx_digitsAt_11 (by decide) ?_
    exact j_iret B K (by simp [dgA, nI, h8]) rfl d_Tx_digitsAt_12
set_option maxRecDepth 100000 in
set_option maxHeartbeats 4000000 in
theorem c_Tx_timesAt {l : Launch} {b : Nat} {D : va_G} {ta : Nat → ClassId} {σ : List va_E} {x s : Nat} {S : Nat → Int32} {N : Nat} (hx : σ[x]? = some (.inr (5, [.ref (b + s), .int (nI N)]))) (hs : σ[s]? = some (.inl (ta 1, 60, .inl S))) (hS : Fc S) (hN : N ≤ 60) {k : Nat} (hk : k < 2 ^ 30) : jC l b D ta False y_Tx_timesAt b_Tx_timesAt 2 (some .int) (rL 2) [.ref (b + x), .int (nI k)] (σ) (some (.int (tmA S N k))) (σ) := by
  refine jC_of (own := "WireField$Text") (by decide +kernel) (Nat.le_of_ble_eq_true rfl) rfl (fun Γ B K => ?_)
  change jW l b D Γ False 0 0 2 (σ) [(0, .ref (b + x)), (1, .int (nI k))] 0 []
  refine j_aload_n B d_Tx_timesAt_0 rfl 0 rfl ?_
  refine j_iload_n B d_Tx_timesAt_1 rfl 1 rfl ?_
  refine k_callV (as := [.int (nI k)]) (rest := []) (st1 := [.int (nI (dgA S N k))]) B (c_Tx_digitsAt hx hs hS hN (k := k) (by omega)) yf_Tx_digitsAt w_454 w_455 w_456 rfl hx rfl (by decide) (by decide) rfl rfl (Nat.le_of_ble_eq_true rfl) d_Tx_timesAt_2 ?_
  by_cases s5_1 : nI (dgA S N k) = 1
  · -- 5 case 1
    refine j_lookup B d_Tx_timesAt_5 (by decide) (by rw [s5_1] <;> rfl) rfl ?_
    refine j_aload_n B d_Tx_timesAt_32 rfl 0 rfl ?_
    refine j_iload_n B d_Tx_timesAt_33 rfl 1 rfl ?_
    refine k_callV (as := [.int (nI k)]) (rest := []) (st1 := [.int (sg S N k)]) B (c_Tx_signAt hx hs hS hN (k := k) (by omega)) yf_Tx_signAt w_447 w_448 w_449 rfl hx rfl (by decide) (by decide) rfl rfl (Nat.le_of_ble_eq_true rfl) d_Tx_timesAt_34 ?_
    refine j_bipush (v := 48) B d_Tx_timesAt_37 (by decide) ?_
    refine j_isub B d_Tx_timesAt_39 ?_
    exact j_iret B K (by rw [tmA, if_pos s5_1]) rfl d_Tx_timesAt_40
  by_cases s5_2 : nI (dgA S N k) = 2
  · -- 5 case 2
    refine j_lookup B d_Tx_timesAt_5 (by decide) (by rw [s5_2] <;> rfl) rfl ?_
    refine j_aload_n B d_Tx_timesAt_41 rfl 0 rfl ?_
    refine j_iload_n B d_Tx_timesAt_42 rfl 1 rfl ?_
    refine k_callV (as := [.int (nI k)]) (rest := []) (st1 := [.int (sg S N k)]) B (c_Tx_signAt hx hs hS hN (k := k) (by omega)) yf_Tx_signAt w_447 w_448 w_449 rfl hx rfl (by decide) (by decide) rfl rfl (Nat.le_of_ble_eq_true rfl) d_Tx_timesAt_43 ?_
    refine j_bipush (v := 48) B d_Tx_timesAt_46 (by decide) ?_
    refine j_isub B d_Tx_timesAt_48 ?_
    refine j_bipush (v := 10) B d_Tx_timesAt_49 (by decide) ?_
    refine j_imul B d_Tx_timesAt_51 ?_
    refine j_aload_n B d_Tx_timesAt_52 rfl 0 rfl ?_
    refine j_iload_n B d_Tx_timesAt_53 rfl 1 rfl ?_
    refine j_iconst (v := 1) B d_Tx_timesAt_54 (by decide) ?_
    refine j_iaddE (v := nI (k + 1)) B (nI_add k 1) d_Tx_timesAt_55 ?_
    refine k_callV (as := [.int (nI (k + 1))]) (rest := [.int (((sg S N k) - 48) * 10)]) (st1 := [.int (sg S N (k + 1)), .int (((sg S N k) - 48) * 10)]) B (c_Tx_signAt hx hs hS hN (k := (k + 1)) (by omega)) yf_Tx_signAt w_447 w_448 w_449 rfl hx rfl (by decide) (by decide) rfl rfl (Nat.le_of_ble_eq_true rfl) d_Tx_timesAt_56 ?_
    refine j_iadd B d_Tx_timesAt_59 ?_
    refine j_bipush (v := 48) B d_Tx_timesAt_60 (by decide) ?_
    refine j_isub B d_Tx_timesAt_62 ?_
    exact j_iret B K (by rw [tmA, if_neg s5_1, if_pos s5_2]) rfl d_Tx_timesAt_63
  · -- 5 default
    refine j_lookup B d_Tx_timesAt_5 (by decide) (by rw [lv_osw (k := 1) s5_1 (by decide), lv_osw (k := 2) s5_2 (by decide)] <;> rfl) rfl ?_
    refine j_iconst (v := 1) B d_Tx_timesAt_64 (by decide) ?_
    exact j_iret B K (by rw [tmA, if_neg s5_1, if_neg s5_2]) rfl d_Tx_timesAt_65
set_option maxRecDepth 100000 in
set_option maxHeartbeats 4000000 in
theorem c_Tx_clear {l : Launch} {b : Nat} {D : va_G} {ta : Nat → ClassId} {σ : List va_E} {x s : Nat} {n : Int32} (hx : σ[x]? = some (.inr (5, [.ref (b + s), .int n]))) : jC l b D ta False y_Tx_clear b_Tx_clear 1 none (rL 0) [.ref (b + x)] (σ) none (σ.set x (.inr (5, [.ref (b + s), .int 0]))) := by
  refine jC_of (own := "WireField$Text") (by decide +kernel) (Nat.le_of_ble_eq_true rfl) rfl (fun Γ B K => ?_)
  change jW l b D Γ False 0 0 1 (σ) [(0, .ref (b + x))] 0 []
  refine j_aload_n B d_Tx_clear_0 rfl 0 rfl ?_
  refine j_iconst (v := 0) B d_Tx_clear_1 (by decide) ?_
  refine pf_Tx_15 B not_false hx rfl rfl (Nat.le_of_ble_eq_true rfl) d_Tx_clear_2 ?_
  exact j_vret B K rfl d_Tx_clear_5
set_option maxRecDepth 100000 in
set_option maxHeartbeats 4000000 in
theorem c_Tx_takeFrom {l : Launch} {b : Nat} {D : va_G} {ta : Nat → ClassId} {σ : List va_E} {x s : Nat} {S : Nat → Int32} {N : Nat} (hx : σ[x]? = some (.inr (5, [.ref (b + s), .int (nI N)]))) (hs : σ[s]? = some (.inl (ta 1, 60, .inl S))) {x2 s2 : Nat} {S2 : Nat → Int32} {N2 : Nat} (hx2 : σ[x2]? = some (.inr (5, [.ref (b + s2), .int (nI N2)]))) (hs2 : σ[s2]? = some (.inl (ta 1, 60, .inl S2))) (n1 : s ≠ x) (n2 : s ≠ x2) (n3 : s ≠ s2) (n4 : x ≠ x2) (n5 : x ≠ s2) (hS2 : Fc S2) (z2 : Z60 S2) (z1 : Z60 S) : jC l b D ta False y_Tx_takeFrom b_Tx_takeFrom 2 none (rL 1) [.ref (b + x), .ref (b + x2)] (σ) none ((σ.set s (.inl (ta 1, 60, .inl S2))).set x (.inr (5, [.ref (b + s), .int (nI N2)]))) := by
  refine jC_of (own := "WireField$Text") (by decide +kernel) (Nat.le_of_ble_eq_true rfl) rfl (fun Γ B K => ?_)
  change jW l b D Γ False 0 0 2 (σ) [(0, .ref (b + x)), (1, .ref (b + x2))] 0 []
  refine j_aload_n B d_Tx_takeFrom_0 rfl 1 rfl ?_
  refine gf_Tx_9 B hx2 rfl d_Tx_takeFrom_1 ?_
  refine j_iconst (v := 0) B d_Tx_takeFrom_4 (by decide) ?_
  refine j_aload_n B d_Tx_takeFrom_5 rfl 0 rfl ?_
  refine gf_Tx_9 B hx rfl d_Tx_takeFrom_6 ?_
  refine j_iconst (v := 0) B d_Tx_takeFrom_9 (by decide) ?_
  refine j_bipush (v := 60) B d_Tx_takeFrom_10 (by decide) ?_
  refine k_copy B w_683 w_259 w_258 w_20 rfl rfl hs2 hs ⟨by decide, by decide⟩ (fun i _ => (hS2 i).2) (by decide) (Nat.le_of_ble_eq_true rfl) (z60 z2 z1) d_Tx_takeFrom_12 ?_
  refine j_aload_n B d_Tx_takeFrom_15 rfl 0 rfl ?_
  refine j_aload_n B d_Tx_takeFrom_16 rfl 1 rfl ?_
  refine gf_Tx_15 B (jn n2 hx2) rfl d_Tx_takeFrom_17 ?_
  refine pf_Tx_15 B not_false (jn n1 hx) rfl rfl (Nat.le_of_ble_eq_true rfl) d_Tx_takeFrom_20 ?_
  exact j_vret B K rfl d_Tx_takeFrom_23
set_option maxRecDepth 100000 in
set_option maxHeartbeats 4000000 in
theorem c_Tx_add_f {l : Launch} {b : Nat} {D : va_G} {ta : Nat → ClassId} {σ : List va_E} {x s : Nat} {S : Nat → Int32} {N : Nat} (hx : σ[x]? = some (.inr (5, [.ref (b + s), .int (nI N)]))) (hs : σ[s]? = some (.inl (ta 1, 60, .inl S))) {c : Int32} (hc : c < 33 ∨ 126 < c ∨ N = 60) : jC l b D ta False y_Tx_add b_Tx_add 2 (some .boolean) (rL 0) [.ref (b + x), .int c] (σ) (some (.int 0)) (σ) := by
  refine jC_of (own := "WireField$Text") (by decide +kernel) (Nat.le_of_ble_eq_true rfl) rfl (fun Γ B K => ?_)
  change jW l b D Γ False 0 0 2 (σ) [(0, .ref (b + x)), (1, .int c)] 0 []
  refine j_iload_n B d_Tx_add_0 rfl 1 rfl ?_
  refine j_bipush (v := 33) B d_Tx_add_1 (by decide) ?_
  refine j_icmp_lt B d_Tx_add_3 rfl (fun h3 => ?_) (fun h3 => ?_)
  · -- 3 jump
    refine j_iconst (v := 0) B d_Tx_add_21 (by decide) ?_
    exact j_zret B K (by decide) rfl rfl d_Tx_add_22
  · -- 3 on
    refine j_iload_n B d_Tx_add_6 rfl 1 rfl ?_
    refine j_bipush (v := 126) B d_Tx_add_7 (by decide) ?_
    refine j_icmp_gt B d_Tx_add_9 rfl (fun h9 => ?_) (fun h9 => ?_)
    · -- 9 jump
      refine j_iconst (v := 0) B d_Tx_add_21 (by decide) ?_
      exact j_zret B K (by decide) rfl rfl d_Tx_add_22
    · -- 9 on
      refine j_aload_n B d_Tx_add_12 rfl 0 rfl ?_
      refine gf_Tx_15 B hx rfl d_Tx_add_13 ?_
      refine j_bipush (v := 60) B d_Tx_add_16 (by decide) ?_
      refine j_icmp_lt B d_Tx_add_18 rfl (fun h18 => ?_) (fun h18 => ?_)
      · -- 18 jump
        exact absurd hc (fun q => q.elim h3 (fun q => q.elim h9 (fun q => by rw [q] at h18; exact absurd h18 (by decide))))
      · -- 18 on
        refine j_iconst (v := 0) B d_Tx_add_21 (by decide) ?_
        exact j_zret B K (by decide) rfl rfl d_Tx_add_22
set_option maxRecDepth 100000 in
set_option maxHeartbeats 4000000 in
theorem c_Tx_add_t {l : Launch} {b : Nat} {D : va_G} {ta : Nat → ClassId} {σ : List va_E} {x s : Nat} {S : Nat → Int32} {N : Nat} (hx : σ[x]? = some (.inr (5, [.ref (b + s), .int (nI N)]))) (hs : σ[s]? = some (.inl (ta 1, 60, .inl S))) (nxs : s ≠ x) {C : Nat} (h33 : 33 ≤ C) (h126 : C ≤ 126) (hN : N < 60) : jC l b D ta False y_Tx_add b_Tx_add 2 (some .boolean) (rL 0) [.ref (b + x), .int (nI C)] (σ) (some (.int 1)) ((σ.set s (.inl (ta 1, 60, .inl (upd S N (nI C))))).set x (.inr (5, [.ref (b + s), .int (nI (N + 1))]))) := by
  refine jC_of (own := "WireField$Text") (by decide +kernel) (Nat.le_of_ble_eq_true rfl) rfl (fun Γ B K => ?_)
  change jW l b D Γ False 0 0 2 (σ) [(0, .ref (b + x)), (1, .int (nI C))] 0 []
  refine j_iload_n B d_Tx_add_0 rfl 1 rfl ?_
  refine j_bipush (v := 33) B d_Tx_add_1 (by decide) ?_
  refine j_icmp_lt B d_Tx_add_3 rfl (fun h3 => absurd h3 (nI_nlt (a := C) (b := 33) (by omega) (by omega))) (fun h3 => ?_)
  refine j_iload_n B d_Tx_add_6 rfl 1 rfl ?_
  refine j_bipush (v := 126) B d_Tx_add_7 (by decide) ?_
  refine j_icmp_gt B d_Tx_add_9 rfl (fun h9 => absurd h9 (nI_nlt (a := 126) (b := C) (by omega) (by omega))) (fun h9 => ?_)
  refine j_aload_n B d_Tx_add_12 rfl 0 rfl ?_
  refine gf_Tx_15 B hx rfl d_Tx_add_13 ?_
  refine j_bipush (v := 60) B d_Tx_add_16 (by decide) ?_
  refine j_icmp_lt B d_Tx_add_18 rfl (fun h18 => ?_) (fun h18 => absurd (nI_lt (a := N) (b := 60) (by omega) (by omega)) h18)
  refine j_aload_n B d_Tx_add_23 rfl 0 rfl ?_
  refine gf_Tx_9 B hx rfl d_Tx_add_24 ?_
  refine j_aload_n B d_Tx_add_27 rfl 0 rfl ?_
  refine gf_Tx_15 B hx rfl d_Tx_add_28 ?_
  refine j_iload_n B d_Tx_add_31 rfl 1 rfl ?_
  refine j_castN B not_false rfl hs (by omega) d_Tx_add_32 ?_
  refine j_aload_n B d_Tx_add_33 rfl 0 rfl ?_
  refine j_dup B d_Tx_add_34 rfl ?_
  refine gf_Tx_15 B (jn nxs hx) rfl d_Tx_add_35 ?_
  refine j_iconst (v := 1) B d_Tx_add_38 (by decide) ?_
  refine j_iaddE (v := nI (N + 1)) B (nI_add N 1) d_Tx_add_39 ?_
  refine pf_Tx_15 B not_false (jn nxs hx) rfl rfl (Nat.le_of_ble_eq_true rfl) d_Tx_add_40 ?_
  refine j_iconst (v := 1) B d_Tx_add_43 (by decide) ?_
  exact j_zret B K (by decide) rfl (by rw [show vp_nar .char (nI C) = nI C from by rw [vp_nar, (pk_charN (q := C) (by omega)).1]]; rfl) d_Tx_add_44
set_option maxRecDepth 100000 in
set_option maxHeartbeats 4000000 in
theorem c_Tx_heldMacros {l : Launch} {b : Nat} {D : va_G} {ta : Nat → ClassId} {σ : List va_E} {x s : Nat} {S : Nat → Int32} {N : Nat} (hx : σ[x]? = some (.inr (5, [.ref (b + s), .int (nI N)]))) (hs : σ[s]? = some (.inl (ta 1, 60, .inl S))) (hS : Fc S) (hN : N ≤ 60) : jC l b D ta False y_Tx_heldMacros b_Tx_heldMacros 4 (some .int) (rL 1) [.ref (b + x)] (σ) (some (.int (hmF S N N))) (σ) := by
  refine jC_of (own := "WireField$Text") (by decide +kernel) (Nat.le_of_ble_eq_true rfl) rfl (fun Γ B K => ?_)
  change jW l b D Γ False 0 0 4 (σ) [(0, .ref (b + x))] 0 []
  refine j_iconst (v := 0) B d_Tx_heldMacros_0 (by decide) ?_
  refine j_istore_n (L' := [(0, .ref (b + x)), (1, .int 0)]) B d_Tx_heldMacros_1 rfl (by decide) [1, 0] rfl ?_
  refine j_iconst (v := 0) B d_Tx_heldMacros_2 (by decide) ?_
  refine j_istore_n (L' := [(0, .ref (b + x)), (1, .int 0), (2, .int 0)]) B d_Tx_heldMacros_3 rfl (by decide) [1, 2, 0] rfl ?_
  have lp4 : ∀ (n4 : Nat) (k : Nat) (acc : Int32), N - k = n4 → (k ≤ N) → (acc = hmF S N k) → jW l b D Γ False 0 0 4 (σ) [(0, .ref (b + x)), (1, .int acc), (2, .int (nI k))] 4 [] := by
    refine jloop (fun n4 ih4 => ?_)
    intro k acc hn4 hk ha
    refine j_iload_n B d_Tx_heldMacros_4 rfl 2 rfl ?_
    refine j_aload_n B d_Tx_heldMacros_5 rfl 0 rfl ?_
    refine gf_Tx_15 B hx rfl d_Tx_heldMacros_6 ?_
    refine j_icmp_ge B d_Tx_heldMacros_9 rfl (fun h9 => ?_) (fun h9 => ?_)
    · -- 9 jump
      have hkN : k = N := lp_ge (by omega) hk h9
      subst hkN
      refine j_iload_n B d_Tx_heldMacros_54 rfl 1 rfl ?_
      exact j_iret B K ha rfl d_Tx_heldMacros_55
    · -- 9 on
      have hkN : k < N := lp_lt (by omega) hk h9
      refine j_aload_n B d_Tx_heldMacros_12 rfl 0 rfl ?_
      refine j_iload_n B d_Tx_heldMacros_13 rfl 2 rfl ?_
      refine j_iconst (v := 1) B d_Tx_heldMacros_14 (by decide) ?_
      refine j_iaddE (v := nI (k + 1)) B (nI_add k 1) d_Tx_heldMacros_15 ?_
      refine k_callV (as := [.int (nI (k + 1))]) (rest := []) (st1 := [.int (sg S N (k + 1))]) B (c_Tx_signAt hx hs hS hN (k := (k + 1)) (by omega)) yf_Tx_signAt w_447 w_448 w_449 rfl hx rfl (by decide) (by decide) rfl rfl (Nat.le_of_ble_eq_true rfl) d_Tx_heldMacros_16 ?_
      refine j_bipush (v := 97) B d_Tx_heldMacros_19 (by decide) ?_
      refine j_isub B d_Tx_heldMacros_21 ?_
      refine j_istore_n (L' := [(0, .ref (b + x)), (1, .int acc), (2, .int (nI k)), (3, .int ((sg S N (k + 1)) - 97))]) B d_Tx_heldMacros_22 rfl (by decide) [1, 2, 3, 0] rfl ?_
      refine j_aload_n B d_Tx_heldMacros_23 rfl 0 rfl ?_
      refine j_iload_n B d_Tx_heldMacros_24 rfl 2 rfl ?_
      refine k_callV (as := [.int (nI k)]) (rest := []) (st1 := [.int (sg S N k)]) B (c_Tx_signAt hx hs hS hN (k := k) (by omega)) yf_Tx_signAt w_447 w_448 w_449 rfl hx rfl (by decide) (by decide) rfl rfl (Nat.le_of_ble_eq_true rfl) d_Tx_heldMacros_25 ?_
      refine j_bipush (v := 64) B d_Tx_heldMacros_28 (by decide) ?_
      refine j_icmp_ne B d_Tx_heldMacros_30 rfl (fun h30 => ?_) (fun h30 => ?_)
      · -- 30 jump
        refine j_iinc (L' := [(0, .ref (b + x)), (1, .int acc), (2, .int (nI (k + 1))), (3, .int ((sg S N (k + 1)) - 97))]) (v := nI (k + 1)) B d_Tx_heldMacros_48 (k := 2) rfl (nI_succ k).symm (by decide) [1, 2, 0, 3] rfl ?_
        refine j_goto B d_Tx_heldMacros_51 rfl ?_
        refine jW.sub (L' := [(0, .ref (b + x)), (1, .int acc), (2, .int (nI (k + 1)))]) [0, 1, 2] rfl ?_; exact ih4 _ (by omega) (k + 1) acc rfl (by omega) (by rw [ha]; simp [hmF, h30])
      · -- 30 on
        refine j_iload_n B d_Tx_heldMacros_33 rfl 3 rfl ?_
        refine j_if_lt B d_Tx_heldMacros_34 rfl (fun h34 => ?_) (fun h34 => ?_)
        · -- 34 jump
          refine j_iinc (L' := [(0, .ref (b + x)), (1, .int acc), (2, .int (nI (k + 1))), (3, .int ((sg S N (k + 1)) - 97))]) (v := nI (k + 1)) B d_Tx_heldMacros_48 (k := 2) rfl (nI_succ k).symm (by decide) [1, 2, 0, 3] rfl ?_
          refine j_goto B d_Tx_heldMacros_51 rfl ?_
          refine jW.sub (L' := [(0, .ref (b + x)), (1, .int acc), (2, .int (nI (k + 1)))]) [0, 1, 2] rfl ?_; exact ih4 _ (by omega) (k + 1) acc rfl (by omega) (by rw [ha]; simp [hmF, h30, h34])
        · -- 34 on
          refine j_iload_n B d_Tx_heldMacros_37 rfl 3 rfl ?_
          refine j_iconst (v := 4) B d_Tx_heldMacros_38 (by decide) ?_
          refine j_icmp_ge B d_Tx_heldMacros_39 rfl (fun h39 => ?_) (fun h39 => ?_)
          · -- 39 jump
            refine j_iinc (L' := [(0, .ref (b + x)), (1, .int acc), (2, .int (nI (k + 1))), (3, .int ((sg S N (k + 1)) - 97))]) (v := nI (k + 1)) B d_Tx_heldMacros_48 (k := 2) rfl (nI_succ k).symm (by decide) [1, 2, 0, 3] rfl ?_
            refine j_goto B d_Tx_heldMacros_51 rfl ?_
            refine jW.sub (L' := [(0, .ref (b + x)), (1, .int acc), (2, .int (nI (k + 1)))]) [0, 1, 2] rfl ?_; exact ih4 _ (by omega) (k + 1) acc rfl (by omega) (by rw [ha]; simp [hmF, h30, h34, h39])
          · -- 39 on
            refine j_iload_n B d_Tx_heldMacros_42 rfl 1 rfl ?_
            refine j_iconst (v := 1) B d_Tx_heldMacros_43 (by decide) ?_
            refine j_iload_n B d_Tx_heldMacros_44 rfl 3 rfl ?_
            refine j_ishl B d_Tx_heldMacros_45 ?_
            refine j_ior B d_Tx_heldMacros_46 ?_
            refine j_istore_n (L' := [(0, .ref (b + x)), (1, .int (acc ||| (1 <<< (((sg S N (k + 1)) - 97) &&& 31)))), (2, .int (nI k)), (3, .int ((sg S N (k + 1)) - 97))]) B d_Tx_heldMacros_47 rfl (by decide) [1, 0, 2, 3] rfl ?_
            refine j_iinc (L' := [(0, .ref (b + x)), (1, .int (acc ||| (1 <<< (((sg S N (k + 1)) - 97) &&& 31)))), (2, .int (nI (k + 1))), (3, .int ((sg S N (k + 1)) - 97))]) (v := nI (k + 1)) B d_Tx_heldMacros_48 (k := 2) rfl (nI_succ k).symm (by decide) [1, 2, 0, 3] rfl ?_
            refine j_goto B d_Tx_heldMacros_51 rfl ?_
            refine jW.sub (L' := [(0, .ref (b + x)), (1, .int (acc ||| (1 <<< (((sg S N (k + 1)) - 97) &&& 31)))), (2, .int (nI (k + 1)))]) [0, 1, 2] rfl ?_; exact ih4 _ (by omega) (k + 1) (acc ||| (1 <<< (((sg S N (k + 1)) - 97) &&& 31))) rfl (by omega) (by rw [ha]; simp [hmF, h30, h34, h39])
  exact lp4 _ 0 0 rfl (by omega) rfl
set_option maxRecDepth 100000 in
set_option maxHeartbeats 4000000 in
theorem k_Tx_endOfOrders {l : Launch} {b : Nat} {D : va_G} {ta : Nat → ClassId} {σ : List va_E} {x s : Nat} {S : Nat → Int32} {N : Nat} (hx : σ[x]? = some (.inr (5, [.ref (b + s), .int (nI N)]))) (hs : σ[s]? = some (.inl (ta 1, 60, .inl S))) (hS : Fc S) (hN : N ≤ 60) {rec : Nat → Option Nat} {Lt d lv : Nat} (hO : ∀ k, k ≤ 62 → jC l b D ta False y_Tx_endOfOrder b_Tx_endOfOrder 6 (some .int) (rL lv) [.ref (b + x), .int (nI k), .int (nI d), .int (nI Lt)] σ (some (.int (rI (eoO rec S N Lt k)))) σ) {k0 : Nat} (hk0 : k0 ≤ N) : jC l b D ta False y_Tx_endOfOrders b_Tx_endOfOrders 6 (some .int) (rL (lv + 2)) [.ref (b + x), .int (nI k0), .int (nI d), .int (nI Lt)] (σ) (some (.int (rI (eoS rec S N Lt 60 k0)))) (σ) := by
  refine jC_of (own := "WireField$Text") (by decide +kernel) (Nat.le_of_ble_eq_true rfl) rfl (fun Γ B K => ?_)
  change jW l b D Γ False 0 0 6 (σ) [(0, .ref (b + x)), (1, .int (nI k0)), (2, .int (nI d)), (3, .int (nI Lt))] 0 []
  refine j_iload_n B d_Tx_endOfOrders_0 rfl 1 rfl ?_
  refine j_istore (L' := [(0, .ref (b + x)), (1, .int (nI k0)), (2, .int (nI d)), (3, .int (nI Lt)), (4, .int (nI k0))]) B d_Tx_endOfOrders_1 (by decide) [1, 2, 3, 4, 0] rfl ?_
  refine j_iconst (v := 0) B d_Tx_endOfOrders_3 (by decide) ?_
  refine j_istore (L' := [(0, .ref (b + x)), (1, .int (nI k0)), (2, .int (nI d)), (3, .int (nI Lt)), (4, .int (nI k0)), (5, .int 0)]) B d_Tx_endOfOrders_4 (by decide) [1, 2, 3, 4, 5, 0] rfl ?_
  have lp6 : ∀ (n6 : Nat) (rd : Nat) (a : Option Nat), 60 - rd = n6 → (rd ≤ 60) → (∀ k, a = some k → k ≤ N) → (eoW rec S N Lt (60 - rd) a = eoS rec S N Lt 60 k0) → jW l b D Γ False 0 0 6 (σ) [(0, .ref (b + x)), (2, .int (nI d)), (3, .int (nI Lt)), (4, .int (rI a)), (5, .int (nI rd))] 6 [] := by
    refine jloop (fun n6 ih6 => ?_)
    intro rd a hn6 hrd ha hI
    refine j_iload B d_Tx_endOfOrders_6 4 rfl ?_
    refine j_bipush (v := 60) B d_Tx_endOfOrders_8 (by decide) ?_
    refine j_icmp_ge B d_Tx_endOfOrders_10 rfl (fun h10 => ?_) (fun h10 => ?_)
    · -- 10 jump
      have h60 : rd = 60 := lp_ge (n := 60) (by decide) hrd h10
      subst h60
      have hE : a = eoS rec S N Lt 60 k0 := by rw [← hI]; cases a <;> rfl
      refine j_iload B d_Tx_endOfOrders_62 3 rfl ?_
      exact j_iret B K (by rw [← hE] <;> rfl) rfl d_Tx_endOfOrders_64
    · -- 10 on
      have h60 : rd < 60 := lp_lt (n := 60) (by decide) hrd h10
      refine j_iload B d_Tx_endOfOrders_13 3 rfl ?_
      refine j_if_lt B d_Tx_endOfOrders_15 rfl (fun h15 => ?_) (fun h15 => ?_)
      · -- 15 jump
        have hn0 := rI_neg (fun k h => Nat.le_trans (ha k h) hN) h15
        subst hn0
        have hE : none = eoS rec S N Lt 60 k0 := hI
        refine j_iload B d_Tx_endOfOrders_62 3 rfl ?_
        exact j_iret B K (by rw [← hE] <;> rfl) rfl d_Tx_endOfOrders_64
      · -- 15 on
        obtain ⟨k, hak⟩ := rI_pos h15
        subst hak
        have hk := ha k rfl
        change jW l b D Γ False 0 0 6 (σ) [(0, .ref (b + x)), (2, .int (nI d)), (3, .int (nI Lt)), (4, .int (nI k)), (5, .int (nI rd))] 18 []
        have hf : 60 - rd = (60 - (rd + 1)) + 1 := by omega
        have hI2 : eoS rec S N Lt (60 - rd) k = eoS rec S N Lt 60 k0 := hI
        rw [hf, eoS_s (f := 60 - (rd + 1)) (k := k)] at hI2
        refine j_iload B d_Tx_endOfOrders_18 3 rfl ?_
        refine j_aload_n B d_Tx_endOfOrders_20 rfl 0 rfl ?_
        refine gf_Tx_15 B hx rfl d_Tx_endOfOrders_21 ?_
        refine j_icmp_ge B d_Tx_endOfOrders_24 rfl (fun h24 => ?_) (fun h24 => ?_)
        · -- 24 jump
          have hkN : ¬ k < N := fun q => absurd h24 (nI_ge q (by omega))
          rw [if_neg (fun q => hkN q.1)] at hI2
          have hE : some k = eoS rec S N Lt 60 k0 := hI2
          refine j_iload B d_Tx_endOfOrders_62 3 rfl ?_
          exact j_iret B K (by rw [← hE] <;> rfl) rfl d_Tx_endOfOrders_64
        · -- 24 on
          have hkN : k < N := (Nat.lt_or_ge k N).elim id (fun q => absurd (nI_le q (by omega)) h24)
          refine j_aload_n B d_Tx_endOfOrders_27 rfl 0 rfl ?_
          refine j_iload B d_Tx_endOfOrders_28 3 rfl ?_
          refine k_callV (as := [.int (nI k)]) (rest := []) (st1 := [.int (sg S N k)]) B (c_Tx_signAt hx hs hS hN (k := k) (by omega)) yf_Tx_signAt w_447 w_448 w_449 rfl hx rfl (by omega) (by decide) rfl rfl (Nat.le_of_ble_eq_true rfl) d_Tx_endOfOrders_30 ?_
          refine k_callS (as := [.int (sg S N k)]) (rest := []) (st1 := [.int (bI (cl (sg S N k)))]) B (c_Tx_isClosing (sg S N k)) yf_Tx_isClosing w_451 w_452 rfl (by omega) (by decide) rfl rfl (Nat.le_of_ble_eq_true rfl) d_Tx_endOfOrders_33 ?_
          refine j_if_ne B d_Tx_endOfOrders_36 rfl (fun h36 => ?_) (fun h36 => ?_)
          · -- 36 jump
            replace h36 := bI_t h36
            rw [if_neg (fun q => by rw [h36] at q; exact absurd q.2 (by decide))] at hI2
            have hE : some k = eoS rec S N Lt 60 k0 := hI2
            refine j_iload B d_Tx_endOfOrders_62 3 rfl ?_
            exact j_iret B K (by rw [← hE] <;> rfl) rfl d_Tx_endOfOrders_64
          · -- 36 on
            replace h36 := bI_f h36
            rw [if_pos ⟨hkN, h36⟩] at hI2
            refine j_aload_n B d_Tx_endOfOrders_39 rfl 0 rfl ?_
            refine j_iload B d_Tx_endOfOrders_40 3 rfl ?_
            refine j_aload_n B d_Tx_endOfOrders_42 rfl 0 rfl ?_
            refine j_iload B d_Tx_endOfOrders_43 3 rfl ?_
            refine k_callV (as := [.int (nI k)]) (rest := [.int (nI k), .ref (b + x)]) (st1 := [.int (nI (dgA S N k)), .int (nI k), .ref (b + x)]) B (c_Tx_digitsAt hx hs hS hN (k := k) (by omega)) yf_Tx_digitsAt w_454 w_455 w_456 rfl hx rfl (by omega) (by decide) rfl rfl (Nat.le_of_ble_eq_true rfl) d_Tx_endOfOrders_45 ?_
            refine j_iaddE (v := nI (k + (dgA S N k))) B (nI_add k (dgA S N k)) d_Tx_endOfOrders_48 ?_
            refine j_iload_n B d_Tx_endOfOrders_49 rfl 1 rfl ?_
            refine j_iload_n B d_Tx_endOfOrders_50 rfl 2 rfl ?_
            refine k_callV (as := [.int (nI (k + (dgA S N k))), .int (nI d), .int (nI Lt)]) (rest := []) (st1 := [.int (rI (eoO rec S N Lt (k + (dgA S N k))))]) B (hO _ (by have := dgA_le S N k; omega)) yf_Tx_endOfOrder w_461 w_463 w_s8 rfl hx rfl (by omega) (by decide) rfl rfl (Nat.le_of_ble_eq_true rfl) d_Tx_endOfOrders_51 ?_
            refine j_istore (L' := [(0, .ref (b + x)), (2, .int (nI d)), (3, .int (nI Lt)), (4, .int (rI (eoO rec S N Lt (k + (dgA S N k))))), (5, .int (nI rd))]) B d_Tx_endOfOrders_54 (by decide) [1, 2, 3, 0, 4] rfl ?_
            refine j_iinc (L' := [(0, .ref (b + x)), (2, .int (nI d)), (3, .int (nI Lt)), (4, .int (rI (eoO rec S N Lt (k + (dgA S N k))))), (5, .int (nI (rd + 1)))]) (v := nI (rd + 1)) B d_Tx_endOfOrders_56 (k := 4) rfl (nI_succ rd).symm (by decide) [1, 2, 3, 4, 0] rfl ?_
            refine j_goto B d_Tx_endOfOrders_59 rfl ?_
            exact ih6 _ (by omega) (rd + 1) (eoO rec S N Lt (k + dgA S N k)) rfl (by omega) (fun z h => eoO_le h) (by rw [← hI2]; cases eoO rec S N Lt (k + dgA S N k) <;> rfl)
  refine jW.sub (L' := [(0, .ref (b + x)), (2, .int (nI d)), (3, .int (nI Lt)), (4, .int (nI k0)), (5, .int 0)]) [0, 2, 3, 4, 5] rfl ?_; exact lp6 _ 0 (some k0) rfl (by omega) (fun k h => by cases h; exact hk0) rfl
set_option maxRecDepth 100000 in
set_option maxHeartbeats 4000000 in
theorem k_Tx_endOfBracket_4 {l : Launch} {b : Nat} {D : va_G} {ta : Nat → ClassId} {σ : List va_E} {x s : Nat} {S : Nat → Int32} {N : Nat} (hx : σ[x]? = some (.inr (5, [.ref (b + s), .int (nI N)]))) (hs : σ[s]? = some (.inl (ta 1, 60, .inl S))) (hS : Fc S) (hN : N ≤ 60) {Lt lv : Nat} {k : Nat} {c : Int32} : jC l b D ta False y_Tx_endOfBracket b_Tx_endOfBracket 6 (some .int) (rL lv) [.ref (b + x), .int (nI k), .int c, .int (nI 4), .int (nI Lt)] (σ) (some (.int (rI (eoB (fun _ => none) S N k c)))) (σ) := by
  refine jC_of (own := "WireField$Text") (by decide +kernel) (Nat.le_of_ble_eq_true rfl) rfl (fun Γ B K => ?_)
  change jW l b D Γ False 0 0 6 (σ) [(0, .ref (b + x)), (1, .int (nI k)), (2, .int c), (3, .int (nI 4)), (4, .int (nI Lt))] 0 []
  refine j_iload_n B d_Tx_endOfBracket_0 rfl 3 rfl ?_
  refine j_iconst (v := 3) B d_Tx_endOfBracket_1 (by decide) ?_
  refine j_icmp_le B d_Tx_endOfBracket_2 rfl (fun h2 => absurd h2 (by decide)) (fun h2 => ?_)
  refine j_iconst (v := (-1)) B d_Tx_endOfBracket_5 (by decide) ?_
  exact j_iret B K rfl rfl d_Tx_endOfBracket_6
set_option maxRecDepth 100000 in
set_option maxHeartbeats 4000000 in
theorem k_Tx_endOfBracket {l : Launch} {b : Nat} {D : va_G} {ta : Nat → ClassId} {σ : List va_E} {x s : Nat} {S : Nat → Int32} {N : Nat} (hx : σ[x]? = some (.inr (5, [.ref (b + s), .int (nI N)]))) (hs : σ[s]? = some (.inl (ta 1, 60, .inl S))) (hS : Fc S) (hN : N ≤ 60) {rec : Nat → Option Nat} {Lt d lv : Nat} (hd : d ≤ 3) (hP : ∀ k, k ≤ N → jC l b D ta False y_Tx_endOfOrders b_Tx_endOfOrders 6 (some .int) (rL lv) [.ref (b + x), .int (nI k), .int (nI d), .int (nI Lt)] σ (some (.int (rI (rec k)))) σ) (hr : ∀ k e, k ≤ N → rec k = some e → e ≤ N) {k : Nat} (hk : k ≤ N) {c : Int32} : jC l b D ta False y_Tx_endOfBracket b_Tx_endOfBracket 6 (some .int) (rL (lv + 1)) [.ref (b + x), .int (nI k), .int c, .int (nI d), .int (nI Lt)] (σ) (some (.int (rI (eoB rec S N k c)))) (σ) := by
  refine jC_of (own := "WireField$Text") (by decide +kernel) (Nat.le_of_ble_eq_true rfl) rfl (fun Γ B K => ?_)
  change jW l b D Γ False 0 0 6 (σ) [(0, .ref (b + x)), (1, .int (nI k)), (2, .int c), (3, .int (nI d)), (4, .int (nI Lt))] 0 []
  refine j_iload_n B d_Tx_endOfBracket_0 rfl 3 rfl ?_
  refine j_iconst (v := 3) B d_Tx_endOfBracket_1 (by decide) ?_
  refine j_icmp_le B d_Tx_endOfBracket_2 rfl (fun h2 => ?_) (fun h2 => absurd (nI_le (a := d) (b := 3) hd (by decide)) h2)
  refine j_aload_n B d_Tx_endOfBracket_7 rfl 0 rfl ?_
  refine j_iload_n B d_Tx_endOfBracket_8 rfl 1 rfl ?_
  refine j_iload_n B d_Tx_endOfBracket_9 rfl 3 rfl ?_
  refine j_iload B d_Tx_endOfBracket_10 4 rfl ?_
  refine k_callV (as := [.int (nI k), .int (nI d), .int (nI Lt)]) (rest := []) (st1 := [.int (rI (rec k))]) B (hP _ hk) yf_Tx_endOfOrders w_443 w_445 w_s7 rfl hx rfl (by omega) (by decide) rfl rfl (Nat.le_of_ble_eq_true rfl) d_Tx_endOfBracket_12 ?_
  refine j_istore (L' := [(0, .ref (b + x)), (1, .int (nI k)), (2, .int c), (3, .int (nI d)), (4, .int (nI Lt)), (5, .int (rI (rec k)))]) B d_Tx_endOfBracket_15 (by decide) [1, 2, 3, 4, 5, 0] rfl ?_
  refine j_iload B d_Tx_endOfBracket_17 5 rfl ?_
  refine j_if_lt B d_Tx_endOfBracket_19 rfl (fun h19 => ?_) (fun h19 => ?_)
  · -- 19 jump
    have hn0 := rI_neg (fun e h => Nat.le_trans (hr k e hk h) hN) h19
    refine j_iconst (v := (-1)) B d_Tx_endOfBracket_39 (by decide) ?_
    exact j_iret B K (by simp only [eoB, hn0]; rfl) rfl d_Tx_endOfBracket_40
  · -- 19 on
    obtain ⟨e, he⟩ := rI_pos h19
    have hle := hr k e hk he
    rw [he]
    change jW l b D Γ False 0 0 6 (σ) [(0, .ref (b + x)), (1, .int (nI k)), (2, .int c), (3, .int (nI d)), (4, .int (nI Lt)), (5, .int (nI e))] 22 []
    refine j_aload_n B d_Tx_endOfBracket_22 rfl 0 rfl ?_
    refine j_iload B d_Tx_endOfBracket_23 5 rfl ?_
    refine k_callV (as := [.int (nI e)]) (rest := []) (st1 := [.int (sg S N e)]) B (c_Tx_signAt hx hs hS hN (k := e) (by omega)) yf_Tx_signAt w_447 w_448 w_449 rfl hx rfl (by omega) (by decide) rfl rfl (Nat.le_of_ble_eq_true rfl) d_Tx_endOfBracket_25 ?_
    refine j_iload_n B d_Tx_endOfBracket_28 rfl 2 rfl ?_
    refine j_icmp_ne B d_Tx_endOfBracket_29 rfl (fun h29 => ?_) (fun h29 => ?_)
    · -- 29 jump
      refine j_iconst (v := (-1)) B d_Tx_endOfBracket_39 (by decide) ?_
      exact j_iret B K (by simp only [eoB, he, h29, if_true, if_false]; rfl) rfl d_Tx_endOfBracket_40
    · -- 29 on
      refine j_iload B d_Tx_endOfBracket_32 5 rfl ?_
      refine j_iconst (v := 1) B d_Tx_endOfBracket_34 (by decide) ?_
      refine j_iaddE (v := nI (e + 1)) B (nI_add e 1) d_Tx_endOfBracket_35 ?_
      refine j_goto B d_Tx_endOfBracket_36 rfl ?_
      exact j_iret B K (by simp only [eoB, he, h29, if_true, if_false]; rfl) rfl d_Tx_endOfBracket_40
