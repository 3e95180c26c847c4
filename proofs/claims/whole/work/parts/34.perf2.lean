set_option maxRecDepth 100000 in
set_option maxHeartbeats 4000000 in
theorem k_WF_performOrder {l : Launch} {b : Nat} {D : va_G} {ta : Nat → ClassId} {σ : List va_E} (H : pW b σ 9 10 11 12 13) {v7 v9 v11 v12 : Int32} (h0 : σ[0]? = some (.inr (6, [.ref (b + 1), .ref (b + 5), .ref (b + 9), .ref (b + 14), .ref (b + 16), .ref (b + 17), .ref (b + 18), .int v7, .ref (b + 19), .int v9, .ref (b + 20), .int v11, .int v12]))) (h16 : σ[16]? = some (aR ta 4 4 (fun j => if j < 4 then some (b + (21 + 2 * j)) else none))) {MS : Nat → Nat → Int32} {MN : Nat → Nat} (hM : ∀ j, j < 4 → tX b ta σ (21 + 2 * j) (22 + 2 * j) (MS j) (MN j)) {x s : Nat} {S : Nat → Int32} {N : Nat} (T : tX b ta σ x s S N) {rec : (Nat → Int32) → Nat → Nat → Nat → PT → Bool × PT} {dp lv : Nat} (hlv : 27 ≤ lv) (hdp : dp < 2 ^ 20) (hrec : ∀ (x s : Nat) (S : Nat → Int32) (N : Nat), tX b ta σ x s S N → ∀ (f t : Nat) (c r : Int32) (d : Nat) (u : Bool) (o : Nat) (F0 F1 F2 : Nat → Int32), f ≤ N → t ≤ N → d < 4 → o ≤ 400 → jC l b D ta False y_WF_perform b_WF_perform 11 (some .boolean) (rL lv) [.ref (b + 0), .ref (b + x), .int (nI f), .int (nI t), .int (nI (dp + 1))] (pS b ta σ 9 10 11 12 13 c r d u o F0 F1 F2) (some (.int (bI (rec S N f t (c, r, d, u, o, F0, F1, F2)).1))) (pS b ta σ 9 10 11 12 13 (rec S N f t (c, r, d, u, o, F0, F1, F2)).2.1 (rec S N f t (c, r, d, u, o, F0, F1, F2)).2.2.1 (rec S N f t (c, r, d, u, o, F0, F1, F2)).2.2.2.1 (rec S N f t (c, r, d, u, o, F0, F1, F2)).2.2.2.2.1 (rec S N f t (c, r, d, u, o, F0, F1, F2)).2.2.2.2.2.1 (rec S N f t (c, r, d, u, o, F0, F1, F2)).2.2.2.2.2.2.1 (rec S N f t (c, r, d, u, o, F0, F1, F2)).2.2.2.2.2.2.2.1 (rec S N f t (c, r, d, u, o, F0, F1, F2)).2.2.2.2.2.2.2.2)) (hPV : ∀ S N f t P, PV P → PV (rec S N f t P).2) {c r : Int32} {d : Nat} {u : Bool} {o : Nat} {F0 F1 F2 : Nat → Int32} (hd : d < 4) (ho : o ≤ 400) {k e : Nat} (hk : k ≤ 62) (he : eoO (eoD S N 4 3) S N 4 k = some e) : jC l b D ta False y_WF_performOrder b_WF_performOrder 5 (some .boolean) (rL (lv + 2)) [.ref (b + 0), .ref (b + x), .int (nI k), .int (nI e), .int (nI dp)] (pS b ta σ 9 10 11 12 13 c r d u o F0 F1 F2) (some (.int (bI (pfO rec MS MN S N k e (c, r, d, u, o, F0, F1, F2)).1))) (pS b ta σ 9 10 11 12 13 ((pfO rec MS MN S N k e (c, r, d, u, o, F0, F1, F2)).2.1) ((pfO rec MS MN S N k e (c, r, d, u, o, F0, F1, F2)).2.2.1) ((pfO rec MS MN S N k e (c, r, d, u, o, F0, F1, F2)).2.2.2.1) ((pfO rec MS MN S N k e (c, r, d, u, o, F0, F1, F2)).2.2.2.2.1) ((pfO rec MS MN S N k e (c, r, d, u, o, F0, F1, F2)).2.2.2.2.2.1) ((pfO rec MS MN S N k e (c, r, d, u, o, F0, F1, F2)).2.2.2.2.2.2.1) ((pfO rec MS MN S N k e (c, r, d, u, o, F0, F1, F2)).2.2.2.2.2.2.2.1) ((pfO rec MS MN S N k e (c, r, d, u, o, F0, F1, F2)).2.2.2.2.2.2.2.2)) := by
  refine jC_of (own := "WireField") (by decide +kernel) (Nat.le_of_ble_eq_true rfl) rfl (fun Γ B K => ?_)
  change jW l b D Γ False 0 0 5 (pS b ta σ 9 10 11 12 13 c r d u o F0 F1 F2) [(0, .ref (b + 0)), (1, .ref (b + x)), (2, .int (nI k)), (3, .int (nI e)), (4, .int (nI dp))] 0 []
  refine j_aload_n B d_WF_performOrder_0 rfl 0 rfl ?_
  refine gf_WF_22 B (pS_o (by decide) (by decide) (by decide) (by decide) h0) rfl d_WF_performOrder_1 ?_
  by_cases ho4 : o < 400
  · -- counted: t
    refine k_callV (as := []) (rest := []) (st1 := [.int 1]) B (c_Pe_countOrder_t H hd ho4) yf_Pe_countOrder w_598 w_599 w_600 rfl (pS_p H) rfl (by omega) (by decide) rfl rfl (Nat.le_of_ble_eq_true rfl) d_WF_performOrder_4 ?_
    refine j_if_ne B d_WF_performOrder_7 rfl (fun h7 => ?_) (fun h7 => absurd h7 (by decide))
    refine j_aload_n B d_WF_performOrder_12 rfl 1 rfl ?_
    refine j_iload_n B d_WF_performOrder_13 rfl 2 rfl ?_
    refine k_callV (as := [.int (nI k)]) (rest := []) (st1 := [.int (sg S N k)]) B (c_Tx_signAt (tX_x T) (tX_s T) T.2.2.1 T.2.2.2.1 (k := k) (by omega)) yf_Tx_signAt w_602 w_448 w_449 rfl (tX_x T) rfl (by omega) (by decide) rfl rfl (Nat.le_of_ble_eq_true rfl) d_WF_performOrder_14 ?_
    by_cases s17_40 : sg S N k = 40
    · -- 17 case 40
      refine j_lookup B d_WF_performOrder_17 (by decide) (by rw [s17_40] <;> rfl) rfl ?_
      have hb := eo_br he (Or.inl s17_40)
      have hq : pfO rec MS MN S N k e (c, r, d, u, o, F0, F1, F2) = ((rec S N (k + 1) (e - 1) (c, r, d, u, o + 1, F0, F1, F2)).1, (c, r, d, u, (rec S N (k + 1) (e - 1) (c, r, d, u, o + 1, F0, F1, F2)).2.2.2.2.2)) := (if_pos ho4).trans (if_pos s17_40)
      refine j_aload_n B d_WF_performOrder_52 rfl 0 rfl ?_
      refine j_aload_n B d_WF_performOrder_53 rfl 1 rfl ?_
      refine j_iload_n B d_WF_performOrder_54 rfl 2 rfl ?_
      refine j_iconst (v := 1) B d_WF_performOrder_55 (by decide) ?_
      refine j_iaddE (v := nI (k + 1)) B (nI_add k 1) d_WF_performOrder_56 ?_
      refine j_iload_n B d_WF_performOrder_57 rfl 3 rfl ?_
      refine j_iconst (v := 1) B d_WF_performOrder_58 (by decide) ?_
      refine j_isubE (v := nI (e - 1)) B (pk_sub (a := e) (b := 1) hb.1) d_WF_performOrder_59 ?_
      refine j_iload B d_WF_performOrder_60 4 rfl ?_
      refine j_iconst (v := 1) B d_WF_performOrder_62 (by decide) ?_
      refine j_iaddE (v := nI (dp + 1)) B (nI_add dp 1) d_WF_performOrder_63 ?_
      refine k_callV (as := [.ref (b + x), .int (nI (k + 1)), .int (nI (e - 1)), .int (nI (dp + 1))]) (rest := []) (st1 := [.int (bI (rec S N (k + 1) (e - 1) (c, r, d, u, o + 1, F0, F1, F2)).1)]) B (k_WF_performBranch H h0 h16 hM T hlv hdp hrec hPV hd (by omega) (f := k + 1) (t := e - 1) (eo_br he (Or.inl s17_40)).2 (by have := eoO_le he; omega)) yf_WF_performBranch w_603 w_605 w_s13 rfl (pS_o (by decide) (by decide) (by decide) (by decide) h0) rfl (by omega) (by decide) rfl rfl (Nat.le_of_ble_eq_true rfl) d_WF_performOrder_64 ?_
      exact j_zret B K (bI_nar _) (by rw [hq] <;> rfl) (by rw [hq]) d_WF_performOrder_67
    by_cases s17_64 : sg S N k = 64
    · -- 17 case 64
      refine j_lookup B d_WF_performOrder_17 (by decide) (by rw [s17_64] <;> rfl) rfl ?_
      obtain ⟨j, hj, hjz⟩ := eo_mac he s17_64
      have hq : pfO rec MS MN S N k e (c, r, d, u, o, F0, F1, F2) = rec (MS j) (MN j) 0 (MN j) (c, r, d, u, o + 1, F0, F1, F2) := by simp only [pfO]; rw [if_pos ho4, if_neg s17_40, if_pos s17_64, if_pos ⟨by rw [hjz]; exact nI_pos (by omega), by rw [hjz]; exact nI_lt (b := 4) hj (by decide)⟩, hjz, nI_clamp (by omega)]
      refine j_aload_n B d_WF_performOrder_84 rfl 0 rfl ?_
      refine j_aload_n B d_WF_performOrder_85 rfl 1 rfl ?_
      refine j_iload_n B d_WF_performOrder_86 rfl 2 rfl ?_
      refine j_iconst (v := 1) B d_WF_performOrder_87 (by decide) ?_
      refine j_iaddE (v := nI (k + 1)) B (nI_add k 1) d_WF_performOrder_88 ?_
      refine k_callV (as := [.int (nI (k + 1))]) (rest := [.ref (b + 0)]) (st1 := [.int (sg S N (k + 1)), .ref (b + 0)]) B (c_Tx_signAt (tX_x T) (tX_s T) T.2.2.1 T.2.2.2.1 (k := (k + 1)) (by omega)) yf_Tx_signAt w_602 w_448 w_449 rfl (tX_x T) rfl (by omega) (by decide) rfl rfl (Nat.le_of_ble_eq_true rfl) d_WF_performOrder_89 ?_
      refine j_bipush (v := 97) B d_WF_performOrder_92 (by decide) ?_
      refine j_isubE (v := nI j) B hjz d_WF_performOrder_94 ?_
      refine j_iload B d_WF_performOrder_95 4 rfl ?_
      refine j_iconst (v := 1) B d_WF_performOrder_97 (by decide) ?_
      refine j_iaddE (v := nI (dp + 1)) B (nI_add dp 1) d_WF_performOrder_98 ?_
      refine k_callV (as := [.int (nI j), .int (nI (dp + 1))]) (rest := []) (st1 := [.int (bI (rec (MS j) (MN j) 0 (MN j) (c, r, d, u, o + 1, F0, F1, F2)).1)]) B (k_WF_performMacro_t H h0 h16 hM hlv hdp hrec hPV hd (by omega) hj) yf_WF_performMacro w_607 w_609 w_s14 rfl (pS_o (by decide) (by decide) (by decide) (by decide) h0) rfl (by omega) (by decide) rfl rfl (Nat.le_of_ble_eq_true rfl) d_WF_performOrder_99 ?_
      exact j_zret B K (bI_nar _) (by rw [hq] <;> rfl) (by rw [hq]) d_WF_performOrder_102
    by_cases s17_91 : sg S N k = 91
    · -- 17 case 91
      refine j_lookup B d_WF_performOrder_17 (by decide) (by rw [s17_91] <;> rfl) rfl ?_
      have hb := eo_br he (Or.inr s17_91)
      have hq : pfO rec MS MN S N k e (c, r, d, u, o, F0, F1, F2) = rec S N (k + 1) (e - 1) (c, r, d, u, o + 1, F0, F1, F2) := (if_pos ho4).trans ((if_neg s17_40).trans ((if_neg s17_64).trans (if_pos s17_91)))
      refine j_aload_n B d_WF_performOrder_68 rfl 0 rfl ?_
      refine j_aload_n B d_WF_performOrder_69 rfl 1 rfl ?_
      refine j_iload_n B d_WF_performOrder_70 rfl 2 rfl ?_
      refine j_iconst (v := 1) B d_WF_performOrder_71 (by decide) ?_
      refine j_iaddE (v := nI (k + 1)) B (nI_add k 1) d_WF_performOrder_72 ?_
      refine j_iload_n B d_WF_performOrder_73 rfl 3 rfl ?_
      refine j_iconst (v := 1) B d_WF_performOrder_74 (by decide) ?_
      refine j_isubE (v := nI (e - 1)) B (pk_sub (a := e) (b := 1) hb.1) d_WF_performOrder_75 ?_
      refine j_iload B d_WF_performOrder_76 4 rfl ?_
      refine j_iconst (v := 1) B d_WF_performOrder_78 (by decide) ?_
      refine j_iaddE (v := nI (dp + 1)) B (nI_add dp 1) d_WF_performOrder_79 ?_
      refine k_callV (as := [.ref (b + x), .int (nI (k + 1)), .int (nI (e - 1)), .int (nI (dp + 1))]) (rest := []) (st1 := [.int (bI (rec S N (k + 1) (e - 1) (c, r, d, u, o + 1, F0, F1, F2)).1)]) B (hrec _ _ _ _ T _ _ _ _ _ _ _ _ _ _ hb.2 (by have := eoO_le he; omega) hd (by omega)) yf_WF_perform w_581 w_583 w_s11 rfl (pS_o (by decide) (by decide) (by decide) (by decide) h0) rfl (by omega) (by decide) rfl rfl (Nat.le_of_ble_eq_true rfl) d_WF_performOrder_80 ?_
      exact j_zret B K (bI_nar _) (by rw [hq] <;> rfl) (by rw [hq]) d_WF_performOrder_83
    · -- 17 default
      refine j_lookup B d_WF_performOrder_17 (by decide) (by rw [lv_osw (k := 40) s17_40 (by decide), lv_osw (k := 64) s17_64 (by decide), lv_osw (k := 91) s17_91 (by decide)] <;> rfl) rfl ?_
      have hq : pfO rec MS MN S N k e (c, r, d, u, o, F0, F1, F2) = obX (sg S N k) (c, r, d, u, o + 1, F0, F1, F2) := (if_pos ho4).trans ((if_neg s17_40).trans ((if_neg s17_64).trans (if_neg s17_91)))
      refine j_aload_n B d_WF_performOrder_103 rfl 0 rfl ?_
      refine gf_WF_22 B (pS_o (by decide) (by decide) (by decide) (by decide) h0) rfl d_WF_performOrder_104 ?_
      refine j_aload_n B d_WF_performOrder_107 rfl 1 rfl ?_
      refine j_iload_n B d_WF_performOrder_108 rfl 2 rfl ?_
      refine k_callV (as := [.int (nI k)]) (rest := [.ref (b + 9)]) (st1 := [.int (sg S N k), .ref (b + 9)]) B (c_Tx_signAt (tX_x T) (tX_s T) T.2.2.1 T.2.2.2.1 (k := k) (by omega)) yf_Tx_signAt w_602 w_448 w_449 rfl (tX_x T) rfl (by omega) (by decide) rfl rfl (Nat.le_of_ble_eq_true rfl) d_WF_performOrder_109 ?_
      refine k_callV (as := [.int (sg S N k)]) (rest := []) (st1 := [.int (bI (obX (sg S N k) (c, r, d, u, o + 1, F0, F1, F2)).1)]) B (c_Pe_obeyX H hd (eo_sing he s17_40 s17_64 s17_91)) yf_Pe_obey w_611 w_612 w_613 rfl (pS_p H) rfl (by omega) (by decide) rfl rfl (Nat.le_of_ble_eq_true rfl) d_WF_performOrder_112 ?_
      exact j_zret B K (bI_nar _) (by rw [hq] <;> rfl) (by rw [hq]) d_WF_performOrder_115
  · -- counted: f
    refine k_callV (as := []) (rest := []) (st1 := [.int 0]) B (c_Pe_countOrder_f H hd ho4 (by omega)) yf_Pe_countOrder w_598 w_599 w_600 rfl (pS_p H) rfl (by omega) (by decide) rfl rfl (Nat.le_of_ble_eq_true rfl) d_WF_performOrder_4 ?_
    have hq : pfO rec MS MN S N k e (c, r, d, u, o, F0, F1, F2) = (false, (c, r, d, u, o, F0, F1, F2)) := if_neg ho4
    refine j_if_ne B d_WF_performOrder_7 rfl (fun h7 => absurd rfl h7) (fun h7 => ?_)
    refine j_iconst (v := 0) B d_WF_performOrder_10 (by decide) ?_
    exact j_zret B K (by decide) (by rw [hq] <;> rfl) (by rw [hq]) d_WF_performOrder_11
set_option maxRecDepth 100000 in
set_option maxHeartbeats 4000000 in
theorem k_WF_perform {l : Launch} {b : Nat} {D : va_G} {ta : Nat → ClassId} {σ : List va_E} (H : pW b σ 9 10 11 12 13) {v7 v9 v11 v12 : Int32} (h0 : σ[0]? = some (.inr (6, [.ref (b + 1), .ref (b + 5), .ref (b + 9), .ref (b + 14), .ref (b + 16), .ref (b + 17), .ref (b + 18), .int v7, .ref (b + 19), .int v9, .ref (b + 20), .int v11, .int v12]))) (h16 : σ[16]? = some (aR ta 4 4 (fun j => if j < 4 then some (b + (21 + 2 * j)) else none))) {MS : Nat → Nat → Int32} {MN : Nat → Nat} (hM : ∀ j, j < 4 → tX b ta σ (21 + 2 * j) (22 + 2 * j) (MS j) (MN j)) {x s : Nat} {S : Nat → Int32} {N : Nat} (T : tX b ta σ x s S N) {rec : (Nat → Int32) → Nat → Nat → Nat → PT → Bool × PT} {dp lv : Nat} (hlv : 27 ≤ lv) (hdp : dp < 2 ^ 20) (hrec : ∀ (x s : Nat) (S : Nat → Int32) (N : Nat), tX b ta σ x s S N → ∀ (f t : Nat) (c r : Int32) (d : Nat) (u : Bool) (o : Nat) (F0 F1 F2 : Nat → Int32), f ≤ N → t ≤ N → d < 4 → o ≤ 400 → jC l b D ta False y_WF_perform b_WF_perform 11 (some .boolean) (rL lv) [.ref (b + 0), .ref (b + x), .int (nI f), .int (nI t), .int (nI (dp + 1))] (pS b ta σ 9 10 11 12 13 c r d u o F0 F1 F2) (some (.int (bI (rec S N f t (c, r, d, u, o, F0, F1, F2)).1))) (pS b ta σ 9 10 11 12 13 (rec S N f t (c, r, d, u, o, F0, F1, F2)).2.1 (rec S N f t (c, r, d, u, o, F0, F1, F2)).2.2.1 (rec S N f t (c, r, d, u, o, F0, F1, F2)).2.2.2.1 (rec S N f t (c, r, d, u, o, F0, F1, F2)).2.2.2.2.1 (rec S N f t (c, r, d, u, o, F0, F1, F2)).2.2.2.2.2.1 (rec S N f t (c, r, d, u, o, F0, F1, F2)).2.2.2.2.2.2.1 (rec S N f t (c, r, d, u, o, F0, F1, F2)).2.2.2.2.2.2.2.1 (rec S N f t (c, r, d, u, o, F0, F1, F2)).2.2.2.2.2.2.2.2)) (hPV : ∀ S N f t P, PV P → PV (rec S N f t P).2) {c r : Int32} {d : Nat} {u : Bool} {o : Nat} {F0 F1 F2 : Nat → Int32} (hd : d < 4) (ho : o ≤ 400) (hd20 : dp ≤ 20) {f t : Nat} (hf : f ≤ N) (ht : t ≤ N) : jC l b D ta False y_WF_perform b_WF_perform 11 (some .boolean) (rL (lv + 3)) [.ref (b + 0), .ref (b + x), .int (nI f), .int (nI t), .int (nI dp)] (pS b ta σ 9 10 11 12 13 c r d u o F0 F1 F2) (some (.int (bI (pfL rec MS MN S N t 60 f (c, r, d, u, o, F0, F1, F2)).1))) (pS b ta σ 9 10 11 12 13 ((pfL rec MS MN S N t 60 f (c, r, d, u, o, F0, F1, F2)).2.1) ((pfL rec MS MN S N t 60 f (c, r, d, u, o, F0, F1, F2)).2.2.1) ((pfL rec MS MN S N t 60 f (c, r, d, u, o, F0, F1, F2)).2.2.2.1) ((pfL rec MS MN S N t 60 f (c, r, d, u, o, F0, F1, F2)).2.2.2.2.1) ((pfL rec MS MN S N t 60 f (c, r, d, u, o, F0, F1, F2)).2.2.2.2.2.1) ((pfL rec MS MN S N t 60 f (c, r, d, u, o, F0, F1, F2)).2.2.2.2.2.2.1) ((pfL rec MS MN S N t 60 f (c, r, d, u, o, F0, F1, F2)).2.2.2.2.2.2.2.1) ((pfL rec MS MN S N t 60 f (c, r, d, u, o, F0, F1, F2)).2.2.2.2.2.2.2.2)) := by
  have hN60 := T.2.2.2.1
  refine jC_of (own := "WireField") (by decide +kernel) (Nat.le_of_ble_eq_true rfl) rfl (fun Γ B K => ?_)
  change jW l b D Γ False 0 0 11 (pS b ta σ 9 10 11 12 13 c r d u o F0 F1 F2) [(0, .ref (b + 0)), (1, .ref (b + x)), (2, .int (nI f)), (3, .int (nI t)), (4, .int (nI dp))] 0 []
  refine j_iload B d_WF_perform_0 4 rfl ?_
  refine j_bipush (v := 20) B d_WF_perform_2 (by decide) ?_
  refine j_icmp_le B d_WF_perform_4 rfl (fun h4 => ?_) (fun h4 => absurd (nI_le (a := dp) (b := 20) hd20 (by decide)) h4)
  refine j_iload_n B d_WF_perform_9 rfl 2 rfl ?_
  refine j_istore (L' := [(0, .ref (b + 0)), (1, .ref (b + x)), (2, .int (nI f)), (3, .int (nI t)), (4, .int (nI dp)), (5, .int (nI f))]) B d_WF_perform_10 (by decide) [1, 2, 3, 4, 5, 0] rfl ?_
  refine j_iconst (v := 0) B d_WF_perform_12 (by decide) ?_
  refine j_istore (L' := [(0, .ref (b + 0)), (1, .ref (b + x)), (2, .int (nI f)), (3, .int (nI t)), (4, .int (nI dp)), (5, .int (nI f)), (6, .int 0)]) B d_WF_perform_13 (by decide) [1, 2, 3, 4, 5, 6, 0] rfl ?_
  have lp15 : ∀ (n15 : Nat) (rd : Nat) (k : Nat) (c1 : Int32) (r1 : Int32) (d1 : Nat) (u1 : Bool) (o1 : Nat) (G0 : Nat → Int32) (G1 : Nat → Int32) (G2 : Nat → Int32), 60 - rd = n15 → (rd ≤ 60) → (k ≤ N) → (d1 < 4) → (o1 ≤ 400) → (pfL rec MS MN S N t (60 - rd) k (c1, r1, d1, u1, o1, G0, G1, G2) = pfL rec MS MN S N t 60 f (c, r, d, u, o, F0, F1, F2)) → jW l b D Γ False 0 0 11 (pS b ta σ 9 10 11 12 13 c1 r1 d1 u1 o1 G0 G1 G2) [(0, .ref (b + 0)), (1, .ref (b + x)), (2, .int (nI f)), (3, .int (nI t)), (4, .int (nI dp)), (5, .int (nI k)), (6, .int (nI rd))] 15 [] := by
    refine jloop (fun n15 ih15 => ?_)
    intro rd k c1 r1 d1 u1 o1 G0 G1 G2 hn15 hrd hk hd1 ho1 hI
    refine j_iload B d_WF_perform_15 6 rfl ?_
    refine j_bipush (v := 60) B d_WF_perform_17 (by decide) ?_
    refine j_icmp_ge B d_WF_perform_19 rfl (fun h19 => ?_) (fun h19 => ?_)
    · -- 19 jump
      have h60 : rd = 60 := lp_ge (n := 60) (by decide) hrd h19
      subst h60
      have hE : (true, (c1, r1, d1, u1, o1, G0, G1, G2)) = pfL rec MS MN S N t 60 f (c, r, d, u, o, F0, F1, F2) := hI
      refine j_iconst (v := 1) B d_WF_perform_104 (by decide) ?_
      exact j_zret B K (by decide) (by rw [← hE] <;> rfl) (by rw [← hE]) d_WF_perform_105
    · -- 19 on
      have h60 : rd < 60 := lp_lt (n := 60) (by decide) hrd h19
      rw [show 60 - rd = (60 - (rd + 1)) + 1 by omega, pfL_s] at hI
      refine j_iload B d_WF_perform_22 5 rfl ?_
      refine j_iload_n B d_WF_perform_24 rfl 3 rfl ?_
      refine j_icmp_ge B d_WF_perform_25 rfl (fun h25 => ?_) (fun h25 => ?_)
      · -- 25 jump
        rw [if_neg (fun q => absurd h25 (nI_ge q (by omega)))] at hI
        have hE : (true, (c1, r1, d1, u1, o1, G0, G1, G2)) = pfL rec MS MN S N t 60 f (c, r, d, u, o, F0, F1, F2) := hI
        refine j_iconst (v := 1) B d_WF_perform_104 (by decide) ?_
        exact j_zret B K (by decide) (by rw [← hE] <;> rfl) (by rw [← hE]) d_WF_perform_105
      · -- 25 on
        have hkt : k < t := (Nat.lt_or_ge k t).elim id (fun q => absurd (nI_le q (by omega)) h25)
        rw [if_pos hkt] at hI
        refine j_aload_n B d_WF_perform_28 rfl 1 rfl ?_
        refine j_iload B d_WF_perform_29 5 rfl ?_
        refine k_callV (as := [.int (nI k)]) (rest := []) (st1 := [.int (tmA S N k)]) B (c_Tx_timesAt (tX_x T) (tX_s T) T.2.2.1 T.2.2.2.1 (k := k) (by omega)) yf_Tx_timesAt w_585 w_586 w_587 rfl (tX_x T) rfl (by omega) (by decide) rfl rfl (Nat.le_of_ble_eq_true rfl) d_WF_perform_31 ?_
        rw [(tm_nI S N k).1]
        refine j_istore (L' := [(0, .ref (b + 0)), (1, .ref (b + x)), (2, .int (nI f)), (3, .int (nI t)), (4, .int (nI dp)), (5, .int (nI k)), (6, .int (nI rd)), (7, .int (nI (tmN S N k)))]) B d_WF_perform_34 (by decide) [1, 2, 3, 4, 5, 6, 7, 0] rfl ?_
        refine j_iload B d_WF_perform_36 5 rfl ?_
        refine j_aload_n B d_WF_perform_38 rfl 1 rfl ?_
        refine j_iload B d_WF_perform_39 5 rfl ?_
        refine k_callV (as := [.int (nI k)]) (rest := [.int (nI k)]) (st1 := [.int (nI (dgA S N k)), .int (nI k)]) B (c_Tx_digitsAt (tX_x T) (tX_s T) T.2.2.1 T.2.2.2.1 (k := k) (by omega)) yf_Tx_digitsAt w_589 w_455 w_456 rfl (tX_x T) rfl (by omega) (by decide) rfl rfl (Nat.le_of_ble_eq_true rfl) d_WF_perform_41 ?_
        refine j_iaddE (v := nI (k + (dgA S N k))) B (nI_add k (dgA S N k)) d_WF_perform_44 ?_
        refine j_istore (L' := [(0, .ref (b + 0)), (1, .ref (b + x)), (2, .int (nI f)), (3, .int (nI t)), (4, .int (nI dp)), (5, .int (nI k)), (6, .int (nI rd)), (7, .int (nI (tmN S N k))), (8, .int (nI (k + (dgA S N k))))]) B d_WF_perform_45 (by decide) [1, 2, 3, 4, 5, 6, 7, 8, 0] rfl ?_
        refine j_aload_n B d_WF_perform_47 rfl 1 rfl ?_
        refine j_iload B d_WF_perform_48 8 rfl ?_
        refine k_callV (as := [.int (nI (k + (dgA S N k)))]) (rest := []) (st1 := [.int (rI (eoO (eoD S N 4 3) S N 4 (k + dgA S N k)))]) B (c_Tx_behindOrder (tX_x T) (tX_s T) T.2.2.1 T.2.2.2.1 (k := k + dgA S N k) (by have := dgA_le S N k; omega)) yf_Tx_behindOrder w_590 w_591 w_592 rfl (tX_x T) rfl (by omega) (by decide) rfl rfl (Nat.le_of_ble_eq_true rfl) d_WF_perform_50 ?_
        refine j_istore (L' := [(0, .ref (b + 0)), (1, .ref (b + x)), (2, .int (nI f)), (3, .int (nI t)), (4, .int (nI dp)), (5, .int (nI k)), (6, .int (nI rd)), (7, .int (nI (tmN S N k))), (8, .int (nI (k + (dgA S N k)))), (9, .int (rI (eoO (eoD S N 4 3) S N 4 (k + dgA S N k))))]) B d_WF_perform_53 (by decide) [1, 2, 3, 4, 5, 6, 7, 8, 9, 0] rfl ?_
        refine j_iload B d_WF_perform_55 9 rfl ?_
        refine j_if_ge B d_WF_perform_57 rfl (fun h57 => ?_) (fun h57 => ?_)
        · -- 57 jump
          obtain ⟨e, he⟩ := rI_ge h57
          have hle := eoO_le he
          rw [he]
          change jW l b D Γ False 0 0 11 (pS b ta σ 9 10 11 12 13 c1 r1 d1 u1 o1 G0 G1 G2) [(0, .ref (b + 0)), (1, .ref (b + x)), (2, .int (nI f)), (3, .int (nI t)), (4, .int (nI dp)), (5, .int (nI k)), (6, .int (nI rd)), (7, .int (nI (tmN S N k))), (8, .int (nI (k + (dgA S N k)))), (9, .int (nI e))] 62 []
          rw [he] at hI
          dsimp only at hI
          refine j_iconst (v := 0) B d_WF_perform_62 (by decide) ?_
          refine j_istore (L' := [(0, .ref (b + 0)), (1, .ref (b + x)), (2, .int (nI f)), (3, .int (nI t)), (4, .int (nI dp)), (5, .int (nI k)), (6, .int (nI rd)), (7, .int (nI (tmN S N k))), (8, .int (nI (k + (dgA S N k)))), (9, .int (nI e)), (10, .int 0)]) B d_WF_perform_63 (by decide) [1, 2, 3, 4, 5, 6, 7, 8, 9, 10, 0] rfl ?_
          have lp65 : ∀ (n65 : Nat) (i : Nat) (c2 : Int32) (r2 : Int32) (d2 : Nat) (u2 : Bool) (o2 : Nat) (E0 : Nat → Int32) (E1 : Nat → Int32) (E2 : Nat → Int32), tmN S N k - i = n65 → (i ≤ tmN S N k) → (d2 < 4) → (o2 ≤ 400) → (pfT (pfO rec MS MN S N (k + dgA S N k) e) (tmN S N k - i) (c2, r2, d2, u2, o2, E0, E1, E2) = pfT (pfO rec MS MN S N (k + dgA S N k) e) (tmN S N k) (c1, r1, d1, u1, o1, G0, G1, G2)) → jW l b D Γ False 0 0 11 (pS b ta σ 9 10 11 12 13 c2 r2 d2 u2 o2 E0 E1 E2) [(0, .ref (b + 0)), (1, .ref (b + x)), (2, .int (nI f)), (3, .int (nI t)), (4, .int (nI dp)), (5, .int (nI k)), (6, .int (nI rd)), (7, .int (nI (tmN S N k))), (8, .int (nI (k + (dgA S N k)))), (9, .int (nI e)), (10, .int (nI i))] 65 [] := by
            refine jloop (fun n65 ih65 => ?_)
            intro i c2 r2 d2 u2 o2 E0 E1 E2 hn65 hi hd2 ho2 hJ
            refine j_iload B d_WF_perform_65 10 rfl ?_
            refine j_iload B d_WF_perform_67 7 rfl ?_
            refine j_icmp_ge B d_WF_perform_69 rfl (fun h69 => ?_) (fun h69 => ?_)
            · -- 69 jump
              have hit : i = tmN S N k := lp_ge (by have := (tm_nI S N k).2; omega) hi h69
              have hz : pfT (pfO rec MS MN S N (k + dgA S N k) e) (tmN S N k - i) (c2, r2, d2, u2, o2, E0, E1, E2) = (true, (c2, r2, d2, u2, o2, E0, E1, E2)) := by rw [hit, Nat.sub_self]; rfl
              refine j_iload B d_WF_perform_94 9 rfl ?_
              refine j_istore (L' := [(0, .ref (b + 0)), (1, .ref (b + x)), (2, .int (nI f)), (3, .int (nI t)), (4, .int (nI dp)), (5, .int (nI e)), (6, .int (nI rd)), (7, .int (nI (tmN S N k))), (8, .int (nI (k + (dgA S N k)))), (9, .int (nI e)), (10, .int (nI i))]) B d_WF_perform_96 (by decide) [1, 2, 3, 4, 5, 0, 6, 7, 8, 9, 10] rfl ?_
              refine j_iinc (L' := [(0, .ref (b + 0)), (1, .ref (b + x)), (2, .int (nI f)), (3, .int (nI t)), (4, .int (nI dp)), (5, .int (nI e)), (6, .int (nI (rd + 1))), (7, .int (nI (tmN S N k))), (8, .int (nI (k + (dgA S N k)))), (9, .int (nI e)), (10, .int (nI i))]) (v := nI (rd + 1)) B d_WF_perform_98 (k := 6) rfl (nI_succ rd).symm (by decide) [1, 2, 3, 4, 5, 6, 0, 7, 8, 9, 10] rfl ?_
              refine j_goto B d_WF_perform_101 rfl ?_
              refine jW.sub (L' := [(0, .ref (b + 0)), (1, .ref (b + x)), (2, .int (nI f)), (3, .int (nI t)), (4, .int (nI dp)), (5, .int (nI e)), (6, .int (nI (rd + 1)))]) [0, 1, 2, 3, 4, 5, 6] rfl ?_; exact ih15 _ (by omega) (rd + 1) e c2 r2 d2 u2 o2 E0 E1 E2 rfl (by omega) hle hd2 ho2 (by rw [if_pos (by rw [← hJ, hz])] at hI; rw [← hI, ← hJ, hz])
            · -- 69 on
              have hit : i < tmN S N k := lp_lt (by have := (tm_nI S N k).2; omega) hi h69
              refine j_aload_n B d_WF_perform_72 rfl 0 rfl ?_
              refine j_aload_n B d_WF_perform_73 rfl 1 rfl ?_
              refine j_iload B d_WF_perform_74 8 rfl ?_
              refine j_iload B d_WF_perform_76 9 rfl ?_
              refine j_iload B d_WF_perform_78 4 rfl ?_
              refine k_callV (as := [.ref (b + x), .int (nI (k + (dgA S N k))), .int (nI e), .int (nI dp)]) (rest := []) (st1 := [.int (bI (pfO rec MS MN S N (k + dgA S N k) e (c2, r2, d2, u2, o2, E0, E1, E2)).1)]) B (k_WF_performOrder H h0 h16 hM T hlv hdp hrec hPV hd2 ho2 (by have := dgA_le S N k; omega) he) yf_WF_performOrder w_594 w_596 w_s12 rfl (pS_o (by decide) (by decide) (by decide) (by decide) h0) rfl (by omega) (by decide) rfl rfl (Nat.le_of_ble_eq_true rfl) d_WF_perform_80 ?_
              refine j_if_ne B d_WF_perform_83 rfl (fun h83 => ?_) (fun h83 => ?_)
              · -- 83 jump
                replace h83 := bI_t h83
                refine j_iinc (L' := [(0, .ref (b + 0)), (1, .ref (b + x)), (2, .int (nI f)), (3, .int (nI t)), (4, .int (nI dp)), (5, .int (nI k)), (6, .int (nI rd)), (7, .int (nI (tmN S N k))), (8, .int (nI (k + (dgA S N k)))), (9, .int (nI e)), (10, .int (nI (i + 1)))]) (v := nI (i + 1)) B d_WF_perform_88 (k := 10) rfl (nI_succ i).symm (by decide) [1, 2, 3, 4, 5, 6, 7, 8, 9, 10, 0] rfl ?_
                refine j_goto B d_WF_perform_91 rfl ?_
                exact ih65 _ (by omega) (i + 1) ((pfO rec MS MN S N (k + dgA S N k) e (c2, r2, d2, u2, o2, E0, E1, E2)).2.1) ((pfO rec MS MN S N (k + dgA S N k) e (c2, r2, d2, u2, o2, E0, E1, E2)).2.2.1) ((pfO rec MS MN S N (k + dgA S N k) e (c2, r2, d2, u2, o2, E0, E1, E2)).2.2.2.1) ((pfO rec MS MN S N (k + dgA S N k) e (c2, r2, d2, u2, o2, E0, E1, E2)).2.2.2.2.1) ((pfO rec MS MN S N (k + dgA S N k) e (c2, r2, d2, u2, o2, E0, E1, E2)).2.2.2.2.2.1) ((pfO rec MS MN S N (k + dgA S N k) e (c2, r2, d2, u2, o2, E0, E1, E2)).2.2.2.2.2.2.1) ((pfO rec MS MN S N (k + dgA S N k) e (c2, r2, d2, u2, o2, E0, E1, E2)).2.2.2.2.2.2.2.1) ((pfO rec MS MN S N (k + dgA S N k) e (c2, r2, d2, u2, o2, E0, E1, E2)).2.2.2.2.2.2.2.2) rfl (by omega) (pfO_PV hPV (P := (c2, r2, d2, u2, o2, E0, E1, E2)) ⟨hd2, ho2⟩).1 (pfO_PV hPV (P := (c2, r2, d2, u2, o2, E0, E1, E2)) ⟨hd2, ho2⟩).2 (by rw [← hJ, show tmN S N k - i = (tmN S N k - (i + 1)) + 1 by omega, pfT, if_pos h83])
              · -- 83 on
                replace h83 := bI_f h83
                have hz : pfT (pfO rec MS MN S N (k + dgA S N k) e) (tmN S N k - i) (c2, r2, d2, u2, o2, E0, E1, E2) = (false, (pfO rec MS MN S N (k + dgA S N k) e (c2, r2, d2, u2, o2, E0, E1, E2)).2) := by rw [show tmN S N k - i = (tmN S N k - (i + 1)) + 1 by omega, pfT, if_neg (bF h83)]
                have hE : (false, (pfO rec MS MN S N (k + dgA S N k) e (c2, r2, d2, u2, o2, E0, E1, E2)).2) = pfL rec MS MN S N t 60 f (c, r, d, u, o, F0, F1, F2) := by rw [← hI, if_neg (by rw [← hJ, hz]; exact Bool.false_ne_true), ← hJ, hz]
                refine j_iconst (v := 0) B d_WF_perform_86 (by decide) ?_
                exact j_zret B K (by decide) (by rw [← hE] <;> rfl) (by rw [← hE]) d_WF_perform_87
          exact lp65 _ 0 c1 r1 d1 u1 o1 G0 G1 G2 rfl (by omega) hd1 ho1 rfl
        · -- 57 on
          have hn0 := rI_lt (fun z h => Nat.le_trans (eoO_le h) hN60) h57
          rw [hn0] at hI
          have hE : (false, (c1, r1, d1, u1, o1, G0, G1, G2)) = pfL rec MS MN S N t 60 f (c, r, d, u, o, F0, F1, F2) := hI
          refine j_iconst (v := 0) B d_WF_perform_60 (by decide) ?_
          exact j_zret B K (by decide) (by rw [← hE] <;> rfl) (by rw [← hE]) d_WF_perform_61
  exact lp15 _ 0 f c r d u o F0 F1 F2 rfl (by omega) hf hd ho rfl
set_option maxRecDepth 100000 in
set_option maxHeartbeats 4000000 in
theorem k_WF_perform_21 {l : Launch} {b : Nat} {D : va_G} {ta : Nat → ClassId} {σ : List va_E} (H : pW b σ 9 10 11 12 13) {v7 v9 v11 v12 : Int32} (h0 : σ[0]? = some (.inr (6, [.ref (b + 1), .ref (b + 5), .ref (b + 9), .ref (b + 14), .ref (b + 16), .ref (b + 17), .ref (b + 18), .int v7, .ref (b + 19), .int v9, .ref (b + 20), .int v11, .int v12]))) (h16 : σ[16]? = some (aR ta 4 4 (fun j => if j < 4 then some (b + (21 + 2 * j)) else none))) {MS : Nat → Nat → Int32} {MN : Nat → Nat} (hM : ∀ j, j < 4 → tX b ta σ (21 + 2 * j) (22 + 2 * j) (MS j) (MN j)) {x s : Nat} {S : Nat → Int32} {N : Nat} (T : tX b ta σ x s S N) {lv : Nat} {c r : Int32} {d : Nat} {u : Bool} {o : Nat} {F0 F1 F2 : Nat → Int32} (hd : d < 4) (ho : o ≤ 400) {f t : Nat} : jC l b D ta False y_WF_perform b_WF_perform 11 (some .boolean) (rL lv) [.ref (b + 0), .ref (b + x), .int (nI f), .int (nI t), .int (nI 21)] (pS b ta σ 9 10 11 12 13 c r d u o F0 F1 F2) (some (.int 0)) (pS b ta σ 9 10 11 12 13 c r d u o F0 F1 F2) := by
  refine jC_of (own := "WireField") (by decide +kernel) (Nat.le_of_ble_eq_true rfl) rfl (fun Γ B K => ?_)
  change jW l b D Γ False 0 0 11 (pS b ta σ 9 10 11 12 13 c r d u o F0 F1 F2) [(0, .ref (b + 0)), (1, .ref (b + x)), (2, .int (nI f)), (3, .int (nI t)), (4, .int (nI 21))] 0 []
  refine j_iload B d_WF_perform_0 4 rfl ?_
  refine j_bipush (v := 20) B d_WF_perform_2 (by decide) ?_
  refine j_icmp_le B d_WF_perform_4 rfl (fun h4 => absurd h4 (by decide)) (fun h4 => ?_)
  refine j_iconst (v := 0) B d_WF_perform_7 (by decide) ?_
  exact j_zret B K (by decide) rfl rfl d_WF_perform_8

set_option maxRecDepth 100000 in
theorem c_WF_performD {l : Launch} {b : Nat} {D : va_G} {ta : Nat → ClassId} {σ : List va_E} (H : pW b σ 9 10 11 12 13) {v7 v9 v11 v12 : Int32} (h0 : σ[0]? = some (.inr (6, [.ref (b + 1), .ref (b + 5), .ref (b + 9), .ref (b + 14), .ref (b + 16), .ref (b + 17), .ref (b + 18), .int v7, .ref (b + 19), .int v9, .ref (b + 20), .int v11, .int v12]))) (h16 : σ[16]? = some (aR ta 4 4 (fun j => if j < 4 then some (b + (21 + 2 * j)) else none))) {MS : Nat → Nat → Int32} {MN : Nat → Nat} (hM : ∀ j, j < 4 → tX b ta σ (21 + 2 * j) (22 + 2 * j) (MS j) (MN j)) : ∀ m dp, dp + m = 21 → ∀ (x s : Nat) (S : Nat → Int32) (N : Nat), tX b ta σ x s S N → ∀ (f t : Nat) (c r : Int32) (d : Nat) (u : Bool) (o : Nat) (F0 F1 F2 : Nat → Int32), f ≤ N → t ≤ N → d < 4 → o ≤ 400 → jC l b D ta False y_WF_perform b_WF_perform 11 (some .boolean) (rL (27 + 3 * m)) [.ref (b + 0), .ref (b + x), .int (nI f), .int (nI t), .int (nI dp)] (pS b ta σ 9 10 11 12 13 c r d u o F0 F1 F2) (some (.int (bI (pfD MS MN m S N f t (c, r, d, u, o, F0, F1, F2)).1))) (pS b ta σ 9 10 11 12 13 ((pfD MS MN m S N f t (c, r, d, u, o, F0, F1, F2)).2.1) ((pfD MS MN m S N f t (c, r, d, u, o, F0, F1, F2)).2.2.1) ((pfD MS MN m S N f t (c, r, d, u, o, F0, F1, F2)).2.2.2.1) ((pfD MS MN m S N f t (c, r, d, u, o, F0, F1, F2)).2.2.2.2.1) ((pfD MS MN m S N f t (c, r, d, u, o, F0, F1, F2)).2.2.2.2.2.1) ((pfD MS MN m S N f t (c, r, d, u, o, F0, F1, F2)).2.2.2.2.2.2.1) ((pfD MS MN m S N f t (c, r, d, u, o, F0, F1, F2)).2.2.2.2.2.2.2.1) ((pfD MS MN m S N f t (c, r, d, u, o, F0, F1, F2)).2.2.2.2.2.2.2.2)) := by
  intro m
  induction m with
  | zero =>
    intro dp hm x s S N T f t c r d u o F0 F1 F2 hf ht hd ho
    have e1 : dp = 21 := by omega
    subst e1
    exact k_WF_perform_21 H h0 h16 hM T hd ho
  | succ m ih =>
    intro dp hm x s S N T f t c r d u o F0 F1 F2 hf ht hd ho
    exact k_WF_perform (rec := pfD MS MN m) (lv := 27 + 3 * m) H h0 h16 hM T (by omega) (by omega) (ih (dp + 1) (by omega)) (fun S N f t P h => pfD_PV m S N f t P h) hd ho (by omega) hf ht
