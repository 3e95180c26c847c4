set_option maxRecDepth 100000 in
set_option maxHeartbeats 4000000 in
theorem c_WF_source_t {l : Launch} {b : Nat} {D : va_G} {ta : Nat → ClassId} {F0 : Nat → Int32} {F1 : Nat → Int32} {F2 : Nat → Int32} {A0 : Nat → Int32} {A1 : Nat → Int32} {A2 : Nat → Int32} {ec : Int32} {er : Int32} {ed : Nat} {eu : Bool} {eo : Nat} {P0 : Nat → Int32} {P1 : Nat → Int32} {P2 : Nat → Int32} {S : Nat → Int32} {N : Nat} {th : Nat → Int32} {MS : Nat → Nat → Int32} {MN : Nat → Nat} {so : Nat → Int32 × Int32 × Int64 × Nat × Nat} {qo : Nat → Int32 × Int32 × Int32 × Int32 × Int64} {sN : Nat} {qN : Nat} {kN : Nat} {tN : Nat} {M0 : Nat → Nat → Int32} {M1 : Nat → Nat → Int32} {M2 : Nat → Nat → Int32} {mp : Nat → Nat → Int32} {X : List va_E} {x y : Int32} {pat : Int64} {n : Nat} (hin : inF x y = true) (h1 : 1 ≤ n) (h64 : n ≤ 64) (hs4 : sN < 4) : jC l b D ta False y_WF_source b_WF_source 6 (some .int) (rL 1) [.ref (b + 0), .int x, .int y, .long pat, .int (nI n)] (hC b ta F0 F1 F2 A0 A1 A2 ec er ed eu eo P0 P1 P2 S N th MS MN so qo sN qN kN tN M0 M1 M2 mp X) (some (.int (nI sN))) (hC b ta F0 F1 F2 A0 A1 A2 ec er ed eu eo P0 P1 P2 S N th MS MN (vf_upd so sN (x, y, pat, n, 0)) qo (sN + 1) qN kN tN M0 M1 M2 mp X) := by
  refine jC_of (own := "WireField") (by decide +kernel) (Nat.le_of_ble_eq_true rfl) rfl (fun Γ B K => ?_)
  change jW l b D Γ False 0 0 6 (hC b ta F0 F1 F2 A0 A1 A2 ec er ed eu eo P0 P1 P2 S N th MS MN so qo sN qN kN tN M0 M1 M2 mp X) [(0, .ref (b + 0)), (1, .int x), (2, .int y), (3, .long pat), (5, .int (nI n))] 0 []
  refine j_iload_n B d_WF_source_0 rfl 1 rfl ?_
  refine j_iload_n B d_WF_source_1 rfl 2 rfl ?_
  refine k_callS (as := [.int x, .int y]) (rest := []) (st1 := [.int (bI (inF x y))]) B (c_WF_isWithin x y) yf_WF_isWithin w_226 w_227 rfl (by decide) (by decide) rfl rfl (Nat.le_of_ble_eq_true rfl) d_WF_source_2 ?_
  refine j_if_eq B d_WF_source_5 rfl (fun h5 => absurd (bI_f h5) (by rw [hin]; decide)) (fun h5 => ?_)
  refine j_iload B d_WF_source_8 4 rfl ?_
  refine j_iconst (v := 1) B d_WF_source_10 (by decide) ?_
  refine j_icmp_lt B d_WF_source_11 rfl (fun h11 => absurd h11 (nI_nlt (a := n) (b := 1) h1 (by omega))) (fun h11 => ?_)
  refine j_iload B d_WF_source_14 4 rfl ?_
  refine j_bipush (v := 64) B d_WF_source_16 (by decide) ?_
  refine j_icmp_gt B d_WF_source_18 rfl (fun h18 => absurd h18 (nI_nlt (a := 64) (b := n) h64 (by decide))) (fun h18 => ?_)
  refine j_aload_n B d_WF_source_21 rfl 0 rfl ?_
  refine gf_WF_47 B rfl rfl d_WF_source_22 ?_
  refine j_iconst (v := 4) B d_WF_source_25 (by decide) ?_
  refine j_icmp_lt B d_WF_source_26 rfl (fun h26 => ?_) (fun h26 => absurd (nI_lt (a := sN) (b := 4) hs4 (by decide)) h26)
  refine j_aload_n B d_WF_source_31 rfl 0 rfl ?_
  refine gf_WF_43 B rfl rfl d_WF_source_32 ?_
  refine j_aload_n B d_WF_source_35 rfl 0 rfl ?_
  refine gf_WF_47 B rfl rfl d_WF_source_36 ?_
  refine j_aaldN (z := b + (29 + sN)) B rfl rfl (by omega) (if_pos (by omega)) d_WF_source_39 ?_
  refine j_iload_n B d_WF_source_40 rfl 1 rfl ?_
  refine j_iload_n B d_WF_source_41 rfl 2 rfl ?_
  refine j_lload_n B d_WF_source_42 rfl 3 rfl ?_
  refine j_iload B d_WF_source_43 4 rfl ?_
  refine k_callV (as := [.int x, .int y, .long pat, .int (nI n)]) (rest := []) (st1 := []) B (c_So_begin (hC_so hs4) x y pat n) yf_So_begin w_274 w_275 w_276 rfl (hC_so hs4) rfl (by decide) (by decide) rfl rfl (Nat.le_of_ble_eq_true rfl) d_WF_source_45 ?_
  refine jW.heap (σ2 := hC b ta F0 F1 F2 A0 A1 A2 ec er ed eu eo P0 P1 P2 S N th MS MN (vf_upd so sN (x, y, pat, n, 0)) qo sN qN kN tN M0 M1 M2 mp X) (hC_so_set hs4 (x, y, pat, n, 0)) ?_
  refine j_aload_n B d_WF_source_48 rfl 0 rfl ?_
  refine j_dup B d_WF_source_49 rfl ?_
  refine gf_WF_47 B rfl rfl d_WF_source_50 ?_
  refine j_iconst (v := 1) B d_WF_source_53 (by decide) ?_
  refine j_iaddE (v := nI (sN + 1)) B (nI_add sN 1) d_WF_source_54 ?_
  refine pf_WF_47 B not_false rfl rfl rfl (Nat.le_of_ble_eq_true rfl) d_WF_source_55 ?_
  refine jW.heap (σ2 := hC b ta F0 F1 F2 A0 A1 A2 ec er ed eu eo P0 P1 P2 S N th MS MN (vf_upd so sN (x, y, pat, n, 0)) qo (sN + 1) qN kN tN M0 M1 M2 mp X) rfl ?_
  refine j_aload_n B d_WF_source_58 rfl 0 rfl ?_
  refine gf_WF_47 B rfl rfl d_WF_source_59 ?_
  refine j_iconst (v := 1) B d_WF_source_62 (by decide) ?_
  refine j_isubE (v := nI sN) B (nI_pred sN) d_WF_source_63 ?_
  exact j_iret B K rfl rfl d_WF_source_64
set_option maxRecDepth 100000 in
set_option maxHeartbeats 4000000 in
theorem c_WF_source_f {l : Launch} {b : Nat} {D : va_G} {ta : Nat → ClassId} {F0 : Nat → Int32} {F1 : Nat → Int32} {F2 : Nat → Int32} {A0 : Nat → Int32} {A1 : Nat → Int32} {A2 : Nat → Int32} {ec : Int32} {er : Int32} {ed : Nat} {eu : Bool} {eo : Nat} {P0 : Nat → Int32} {P1 : Nat → Int32} {P2 : Nat → Int32} {S : Nat → Int32} {N : Nat} {th : Nat → Int32} {MS : Nat → Nat → Int32} {MN : Nat → Nat} {so : Nat → Int32 × Int32 × Int64 × Nat × Nat} {qo : Nat → Int32 × Int32 × Int32 × Int32 × Int64} {sN : Nat} {qN : Nat} {kN : Nat} {tN : Nat} {M0 : Nat → Nat → Int32} {M1 : Nat → Nat → Int32} {M2 : Nat → Nat → Int32} {mp : Nat → Nat → Int32} {X : List va_E} {x y : Int32} {pat : Int64} {n : Int32} (hsN : sN ≤ 4) (hf : ¬ (inF x y = true ∧ ¬ n < 1 ∧ ¬ 64 < n ∧ sN < 4)) : jC l b D ta False y_WF_source b_WF_source 6 (some .int) (rL 1) [.ref (b + 0), .int x, .int y, .long pat, .int n] (hC b ta F0 F1 F2 A0 A1 A2 ec er ed eu eo P0 P1 P2 S N th MS MN so qo sN qN kN tN M0 M1 M2 mp X) (some (.int (-1))) (hC b ta F0 F1 F2 A0 A1 A2 ec er ed eu eo P0 P1 P2 S N th MS MN so qo sN qN kN tN M0 M1 M2 mp X) := by
  refine jC_of (own := "WireField") (by decide +kernel) (Nat.le_of_ble_eq_true rfl) rfl (fun Γ B K => ?_)
  change jW l b D Γ False 0 0 6 (hC b ta F0 F1 F2 A0 A1 A2 ec er ed eu eo P0 P1 P2 S N th MS MN so qo sN qN kN tN M0 M1 M2 mp X) [(0, .ref (b + 0)), (1, .int x), (2, .int y), (3, .long pat), (5, .int n)] 0 []
  refine j_iload_n B d_WF_source_0 rfl 1 rfl ?_
  refine j_iload_n B d_WF_source_1 rfl 2 rfl ?_
  refine k_callS (as := [.int x, .int y]) (rest := []) (st1 := [.int (bI (inF x y))]) B (c_WF_isWithin x y) yf_WF_isWithin w_226 w_227 rfl (by decide) (by decide) rfl rfl (Nat.le_of_ble_eq_true rfl) d_WF_source_2 ?_
  refine j_if_eq B d_WF_source_5 rfl (fun h5 => ?_) (fun h5 => ?_)
  · -- 5 jump
    replace h5 := bI_f h5
    refine j_iconst (v := (-1)) B d_WF_source_29 (by decide) ?_
    exact j_iret B K rfl rfl d_WF_source_30
  · -- 5 on
    replace h5 := bI_t h5
    refine j_iload B d_WF_source_8 4 rfl ?_
    refine j_iconst (v := 1) B d_WF_source_10 (by decide) ?_
    refine j_icmp_lt B d_WF_source_11 rfl (fun h11 => ?_) (fun h11 => ?_)
    · -- 11 jump
      refine j_iconst (v := (-1)) B d_WF_source_29 (by decide) ?_
      exact j_iret B K rfl rfl d_WF_source_30
    · -- 11 on
      refine j_iload B d_WF_source_14 4 rfl ?_
      refine j_bipush (v := 64) B d_WF_source_16 (by decide) ?_
      refine j_icmp_gt B d_WF_source_18 rfl (fun h18 => ?_) (fun h18 => ?_)
      · -- 18 jump
        refine j_iconst (v := (-1)) B d_WF_source_29 (by decide) ?_
        exact j_iret B K rfl rfl d_WF_source_30
      · -- 18 on
        refine j_aload_n B d_WF_source_21 rfl 0 rfl ?_
        refine gf_WF_47 B rfl rfl d_WF_source_22 ?_
        refine j_iconst (v := 4) B d_WF_source_25 (by decide) ?_
        refine j_icmp_lt B d_WF_source_26 rfl (fun h26 => ?_) (fun h26 => ?_)
        · -- 26 jump
          exact absurd ⟨h5, h11, h18, (nI_ltI (a := sN) (b := 4) (by omega) (by decide)).mp h26⟩ hf
        · -- 26 on
          refine j_iconst (v := (-1)) B d_WF_source_29 (by decide) ?_
          exact j_iret B K rfl rfl d_WF_source_30
set_option maxRecDepth 100000 in
set_option maxHeartbeats 4000000 in
theorem c_WF_probe_t {l : Launch} {b : Nat} {D : va_G} {ta : Nat → ClassId} {F0 : Nat → Int32} {F1 : Nat → Int32} {F2 : Nat → Int32} {A0 : Nat → Int32} {A1 : Nat → Int32} {A2 : Nat → Int32} {ec : Int32} {er : Int32} {ed : Nat} {eu : Bool} {eo : Nat} {P0 : Nat → Int32} {P1 : Nat → Int32} {P2 : Nat → Int32} {S : Nat → Int32} {N : Nat} {th : Nat → Int32} {MS : Nat → Nat → Int32} {MN : Nat → Nat} {so : Nat → Int32 × Int32 × Int64 × Nat × Nat} {qo : Nat → Int32 × Int32 × Int32 × Int32 × Int64} {sN : Nat} {qN : Nat} {kN : Nat} {tN : Nat} {M0 : Nat → Nat → Int32} {M1 : Nat → Nat → Int32} {M2 : Nat → Nat → Int32} {mp : Nat → Nat → Int32} {X : List va_E} {x y : Int32} (hin : inF x y = true) (hq4 : qN < 4) : jC l b D ta False y_WF_probe b_WF_probe 3 (some .int) (rL 1) [.ref (b + 0), .int x, .int y] (hC b ta F0 F1 F2 A0 A1 A2 ec er ed eu eo P0 P1 P2 S N th MS MN so qo sN qN kN tN M0 M1 M2 mp X) (some (.int (nI qN))) (hC b ta F0 F1 F2 A0 A1 A2 ec er ed eu eo P0 P1 P2 S N th MS MN so (vf_upd qo qN (x, y, (qo qN).2.2.1, (qo qN).2.2.2.1, (qo qN).2.2.2.2)) sN (qN + 1) kN tN M0 M1 M2 mp X) := by
  refine jC_of (own := "WireField") (by decide +kernel) (Nat.le_of_ble_eq_true rfl) rfl (fun Γ B K => ?_)
  change jW l b D Γ False 0 0 3 (hC b ta F0 F1 F2 A0 A1 A2 ec er ed eu eo P0 P1 P2 S N th MS MN so qo sN qN kN tN M0 M1 M2 mp X) [(0, .ref (b + 0)), (1, .int x), (2, .int y)] 0 []
  refine j_iload_n B d_WF_probe_0 rfl 1 rfl ?_
  refine j_iload_n B d_WF_probe_1 rfl 2 rfl ?_
  refine k_callS (as := [.int x, .int y]) (rest := []) (st1 := [.int (bI (inF x y))]) B (c_WF_isWithin x y) yf_WF_isWithin w_226 w_227 rfl (by decide) (by decide) rfl rfl (Nat.le_of_ble_eq_true rfl) d_WF_probe_2 ?_
  refine j_if_eq B d_WF_probe_5 rfl (fun h5 => absurd (bI_f h5) (by rw [hin]; decide)) (fun h5 => ?_)
  refine j_aload_n B d_WF_probe_8 rfl 0 rfl ?_
  refine gf_WF_57 B rfl rfl d_WF_probe_9 ?_
  refine j_iconst (v := 4) B d_WF_probe_12 (by decide) ?_
  refine j_icmp_lt B d_WF_probe_13 rfl (fun h13 => ?_) (fun h13 => absurd (nI_lt (a := qN) (b := 4) hq4 (by decide)) h13)
  refine j_aload_n B d_WF_probe_18 rfl 0 rfl ?_
  refine gf_WF_53 B rfl rfl d_WF_probe_19 ?_
  refine j_aload_n B d_WF_probe_22 rfl 0 rfl ?_
  refine gf_WF_57 B rfl rfl d_WF_probe_23 ?_
  refine j_aaldN (z := b + (33 + qN)) B rfl rfl (by omega) (if_pos (by omega)) d_WF_probe_26 ?_
  refine j_iload_n B d_WF_probe_27 rfl 1 rfl ?_
  refine j_iload_n B d_WF_probe_28 rfl 2 rfl ?_
  refine k_callV (as := [.int x, .int y]) (rest := []) (st1 := []) B (c_Pr_begin (hC_qo hq4) x y) yf_Pr_begin w_282 w_283 w_284 rfl (hC_qo hq4) rfl (by decide) (by decide) rfl rfl (Nat.le_of_ble_eq_true rfl) d_WF_probe_29 ?_
  refine jW.heap (σ2 := hC b ta F0 F1 F2 A0 A1 A2 ec er ed eu eo P0 P1 P2 S N th MS MN so (vf_upd qo qN (x, y, (qo qN).2.2.1, (qo qN).2.2.2.1, (qo qN).2.2.2.2)) sN qN kN tN M0 M1 M2 mp X) (hC_qo_set hq4 (x, y, (qo qN).2.2.1, (qo qN).2.2.2.1, (qo qN).2.2.2.2)) ?_
  refine j_aload_n B d_WF_probe_32 rfl 0 rfl ?_
  refine j_dup B d_WF_probe_33 rfl ?_
  refine gf_WF_57 B rfl rfl d_WF_probe_34 ?_
  refine j_iconst (v := 1) B d_WF_probe_37 (by decide) ?_
  refine j_iaddE (v := nI (qN + 1)) B (nI_add qN 1) d_WF_probe_38 ?_
  refine pf_WF_57 B not_false rfl rfl rfl (Nat.le_of_ble_eq_true rfl) d_WF_probe_39 ?_
  refine jW.heap (σ2 := hC b ta F0 F1 F2 A0 A1 A2 ec er ed eu eo P0 P1 P2 S N th MS MN so (vf_upd qo qN (x, y, (qo qN).2.2.1, (qo qN).2.2.2.1, (qo qN).2.2.2.2)) sN (qN + 1) kN tN M0 M1 M2 mp X) rfl ?_
  refine j_aload_n B d_WF_probe_42 rfl 0 rfl ?_
  refine gf_WF_57 B rfl rfl d_WF_probe_43 ?_
  refine j_iconst (v := 1) B d_WF_probe_46 (by decide) ?_
  refine j_isubE (v := nI qN) B (nI_pred qN) d_WF_probe_47 ?_
  exact j_iret B K rfl rfl d_WF_probe_48
set_option maxRecDepth 100000 in
set_option maxHeartbeats 4000000 in
theorem c_WF_probe_f {l : Launch} {b : Nat} {D : va_G} {ta : Nat → ClassId} {F0 : Nat → Int32} {F1 : Nat → Int32} {F2 : Nat → Int32} {A0 : Nat → Int32} {A1 : Nat → Int32} {A2 : Nat → Int32} {ec : Int32} {er : Int32} {ed : Nat} {eu : Bool} {eo : Nat} {P0 : Nat → Int32} {P1 : Nat → Int32} {P2 : Nat → Int32} {S : Nat → Int32} {N : Nat} {th : Nat → Int32} {MS : Nat → Nat → Int32} {MN : Nat → Nat} {so : Nat → Int32 × Int32 × Int64 × Nat × Nat} {qo : Nat → Int32 × Int32 × Int32 × Int32 × Int64} {sN : Nat} {qN : Nat} {kN : Nat} {tN : Nat} {M0 : Nat → Nat → Int32} {M1 : Nat → Nat → Int32} {M2 : Nat → Nat → Int32} {mp : Nat → Nat → Int32} {X : List va_E} {x y : Int32} (hqN : qN ≤ 4) (hf : ¬ (inF x y = true ∧ qN < 4)) : jC l b D ta False y_WF_probe b_WF_probe 3 (some .int) (rL 1) [.ref (b + 0), .int x, .int y] (hC b ta F0 F1 F2 A0 A1 A2 ec er ed eu eo P0 P1 P2 S N th MS MN so qo sN qN kN tN M0 M1 M2 mp X) (some (.int (-1))) (hC b ta F0 F1 F2 A0 A1 A2 ec er ed eu eo P0 P1 P2 S N th MS MN so qo sN qN kN tN M0 M1 M2 mp X) := by
  refine jC_of (own := "WireField") (by decide +kernel) (Nat.le_of_ble_eq_true rfl) rfl (fun Γ B K => ?_)
  change jW l b D Γ False 0 0 3 (hC b ta F0 F1 F2 A0 A1 A2 ec er ed eu eo P0 P1 P2 S N th MS MN so qo sN qN kN tN M0 M1 M2 mp X) [(0, .ref (b + 0)), (1, .int x), (2, .int y)] 0 []
  refine j_iload_n B d_WF_probe_0 rfl 1 rfl ?_
  refine j_iload_n B d_WF_probe_1 rfl 2 rfl ?_
  refine k_callS (as := [.int x, .int y]) (rest := []) (st1 := [.int (bI (inF x y))]) B (c_WF_isWithin x y) yf_WF_isWithin w_226 w_227 rfl (by decide) (by decide) rfl rfl (Nat.le_of_ble_eq_true rfl) d_WF_probe_2 ?_
  refine j_if_eq B d_WF_probe_5 rfl (fun h5 => ?_) (fun h5 => ?_)
  · -- 5 jump
    replace h5 := bI_f h5
    refine j_iconst (v := (-1)) B d_WF_probe_16 (by decide) ?_
    exact j_iret B K rfl rfl d_WF_probe_17
  · -- 5 on
    replace h5 := bI_t h5
    refine j_aload_n B d_WF_probe_8 rfl 0 rfl ?_
    refine gf_WF_57 B rfl rfl d_WF_probe_9 ?_
    refine j_iconst (v := 4) B d_WF_probe_12 (by decide) ?_
    refine j_icmp_lt B d_WF_probe_13 rfl (fun h13 => ?_) (fun h13 => ?_)
    · -- 13 jump
      exact absurd ⟨h5, (nI_ltI (a := qN) (b := 4) (by omega) (by decide)).mp h13⟩ hf
    · -- 13 on
      refine j_iconst (v := (-1)) B d_WF_probe_16 (by decide) ?_
      exact j_iret B K rfl rfl d_WF_probe_17
set_option maxRecDepth 100000 in
set_option maxHeartbeats 4000000 in
theorem c_WF_seen_0 {l : Launch} {b : Nat} {D : va_G} {ta : Nat → ClassId} {F0 : Nat → Int32} {F1 : Nat → Int32} {F2 : Nat → Int32} {A0 : Nat → Int32} {A1 : Nat → Int32} {A2 : Nat → Int32} {ec : Int32} {er : Int32} {ed : Nat} {eu : Bool} {eo : Nat} {P0 : Nat → Int32} {P1 : Nat → Int32} {P2 : Nat → Int32} {S : Nat → Int32} {N : Nat} {th : Nat → Int32} {MS : Nat → Nat → Int32} {MN : Nat → Nat} {so : Nat → Int32 × Int32 × Int64 × Nat × Nat} {qo : Nat → Int32 × Int32 × Int32 × Int32 × Int64} {sN : Nat} {qN : Nat} {kN : Nat} {tN : Nat} {M0 : Nat → Nat → Int32} {M1 : Nat → Nat → Int32} {M2 : Nat → Nat → Int32} {mp : Nat → Nat → Int32} {X : List va_E} {k : Nat} (hk : k < qN) (hqN : qN ≤ 4) : jC l b D ta False y_WF_seen b_WF_seen 3 (some .int) (rL 0) [.ref (b + 0), .int (nI k), .int 0] (hC b ta F0 F1 F2 A0 A1 A2 ec er ed eu eo P0 P1 P2 S N th MS MN so qo sN qN kN tN M0 M1 M2 mp X) (some (.int ((qo k).2.2.1))) (hC b ta F0 F1 F2 A0 A1 A2 ec er ed eu eo P0 P1 P2 S N th MS MN so qo sN qN kN tN M0 M1 M2 mp X) := by
  refine jC_of (own := "WireField") (by decide +kernel) (Nat.le_of_ble_eq_true rfl) rfl (fun Γ B K => ?_)
  change jW l b D Γ False 0 0 3 (hC b ta F0 F1 F2 A0 A1 A2 ec er ed eu eo P0 P1 P2 S N th MS MN so qo sN qN kN tN M0 M1 M2 mp X) [(0, .ref (b + 0)), (1, .int (nI k)), (2, .int 0)] 0 []
  refine j_iload_n B d_WF_seen_0 rfl 1 rfl ?_
  refine j_if_lt B d_WF_seen_1 rfl (fun h1 => absurd h1 (nI_pos (by omega))) (fun h1 => ?_)
  refine j_iload_n B d_WF_seen_4 rfl 1 rfl ?_
  refine j_aload_n B d_WF_seen_5 rfl 0 rfl ?_
  refine gf_WF_57 B rfl rfl d_WF_seen_6 ?_
  refine j_icmp_ge B d_WF_seen_9 rfl (fun h9 => absurd h9 (nI_ge hk (by omega))) (fun h9 => ?_)
  refine j_iload_n B d_WF_seen_12 rfl 2 rfl ?_
  refine j_if_lt B d_WF_seen_13 rfl (fun h13 => absurd h13 (by decide)) (fun h13 => ?_)
  refine j_iload_n B d_WF_seen_16 rfl 2 rfl ?_
  refine j_iconst (v := 1) B d_WF_seen_17 (by decide) ?_
  refine j_icmp_le B d_WF_seen_18 rfl (fun h18 => ?_) (fun h18 => absurd (by decide) h18)
  refine j_iload_n B d_WF_seen_31 rfl 2 rfl ?_
  refine j_if_ne B d_WF_seen_32 rfl (fun h32 => absurd rfl h32) (fun h32 => ?_)
  refine j_aload_n B d_WF_seen_35 rfl 0 rfl ?_
  refine gf_WF_53 B rfl rfl d_WF_seen_36 ?_
  refine j_iload_n B d_WF_seen_39 rfl 1 rfl ?_
  refine j_aaldN (z := b + (33 + k)) B rfl rfl (by omega) (if_pos (by omega)) d_WF_seen_40 ?_
  refine gf_WF_191 B (hC_qo (j := k) (by omega)) rfl d_WF_seen_41 ?_
  refine j_goto B d_WF_seen_44 rfl ?_
  exact j_iret B K rfl rfl d_WF_seen_56
set_option maxRecDepth 100000 in
set_option maxHeartbeats 4000000 in
theorem c_WF_seen_1 {l : Launch} {b : Nat} {D : va_G} {ta : Nat → ClassId} {F0 : Nat → Int32} {F1 : Nat → Int32} {F2 : Nat → Int32} {A0 : Nat → Int32} {A1 : Nat → Int32} {A2 : Nat → Int32} {ec : Int32} {er : Int32} {ed : Nat} {eu : Bool} {eo : Nat} {P0 : Nat → Int32} {P1 : Nat → Int32} {P2 : Nat → Int32} {S : Nat → Int32} {N : Nat} {th : Nat → Int32} {MS : Nat → Nat → Int32} {MN : Nat → Nat} {so : Nat → Int32 × Int32 × Int64 × Nat × Nat} {qo : Nat → Int32 × Int32 × Int32 × Int32 × Int64} {sN : Nat} {qN : Nat} {kN : Nat} {tN : Nat} {M0 : Nat → Nat → Int32} {M1 : Nat → Nat → Int32} {M2 : Nat → Nat → Int32} {mp : Nat → Nat → Int32} {X : List va_E} {k : Nat} (hk : k < qN) (hqN : qN ≤ 4) : jC l b D ta False y_WF_seen b_WF_seen 3 (some .int) (rL 0) [.ref (b + 0), .int (nI k), .int 1] (hC b ta F0 F1 F2 A0 A1 A2 ec er ed eu eo P0 P1 P2 S N th MS MN so qo sN qN kN tN M0 M1 M2 mp X) (some (.int ((qo k).2.2.2.1))) (hC b ta F0 F1 F2 A0 A1 A2 ec er ed eu eo P0 P1 P2 S N th MS MN so qo sN qN kN tN M0 M1 M2 mp X) := by
  refine jC_of (own := "WireField") (by decide +kernel) (Nat.le_of_ble_eq_true rfl) rfl (fun Γ B K => ?_)
  change jW l b D Γ False 0 0 3 (hC b ta F0 F1 F2 A0 A1 A2 ec er ed eu eo P0 P1 P2 S N th MS MN so qo sN qN kN tN M0 M1 M2 mp X) [(0, .ref (b + 0)), (1, .int (nI k)), (2, .int 1)] 0 []
  refine j_iload_n B d_WF_seen_0 rfl 1 rfl ?_
  refine j_if_lt B d_WF_seen_1 rfl (fun h1 => absurd h1 (nI_pos (by omega))) (fun h1 => ?_)
  refine j_iload_n B d_WF_seen_4 rfl 1 rfl ?_
  refine j_aload_n B d_WF_seen_5 rfl 0 rfl ?_
  refine gf_WF_57 B rfl rfl d_WF_seen_6 ?_
  refine j_icmp_ge B d_WF_seen_9 rfl (fun h9 => absurd h9 (nI_ge hk (by omega))) (fun h9 => ?_)
  refine j_iload_n B d_WF_seen_12 rfl 2 rfl ?_
  refine j_if_lt B d_WF_seen_13 rfl (fun h13 => absurd h13 (by decide)) (fun h13 => ?_)
  refine j_iload_n B d_WF_seen_16 rfl 2 rfl ?_
  refine j_iconst (v := 1) B d_WF_seen_17 (by decide) ?_
  refine j_icmp_le B d_WF_seen_18 rfl (fun h18 => ?_) (fun h18 => absurd (by decide) h18)
  refine j_iload_n B d_WF_seen_31 rfl 2 rfl ?_
  refine j_if_ne B d_WF_seen_32 rfl (fun h32 => ?_) (fun h32 => absurd h32 (by decide))
  refine j_aload_n B d_WF_seen_47 rfl 0 rfl ?_
  refine gf_WF_53 B rfl rfl d_WF_seen_48 ?_
  refine j_iload_n B d_WF_seen_51 rfl 1 rfl ?_
  refine j_aaldN (z := b + (33 + k)) B rfl rfl (by omega) (if_pos (by omega)) d_WF_seen_52 ?_
  refine gf_WF_194 B (hC_qo (j := k) (by omega)) rfl d_WF_seen_53 ?_
  exact j_iret B K rfl rfl d_WF_seen_56
set_option maxRecDepth 100000 in
set_option maxHeartbeats 4000000 in
theorem c_WF_record_t {l : Launch} {b : Nat} {D : va_G} {ta : Nat → ClassId} {F0 : Nat → Int32} {F1 : Nat → Int32} {F2 : Nat → Int32} {A0 : Nat → Int32} {A1 : Nat → Int32} {A2 : Nat → Int32} {ec : Int32} {er : Int32} {ed : Nat} {eu : Bool} {eo : Nat} {P0 : Nat → Int32} {P1 : Nat → Int32} {P2 : Nat → Int32} {S : Nat → Int32} {N : Nat} {th : Nat → Int32} {MS : Nat → Nat → Int32} {MN : Nat → Nat} {so : Nat → Int32 × Int32 × Int64 × Nat × Nat} {qo : Nat → Int32 × Int32 × Int32 × Int32 × Int64} {sN : Nat} {qN : Nat} {kN : Nat} {tN : Nat} {M0 : Nat → Nat → Int32} {M1 : Nat → Nat → Int32} {M2 : Nat → Nat → Int32} {mp : Nat → Nat → Int32} {X : List va_E} {k : Nat} (hk : k < qN) (hqN : qN ≤ 4) : jC l b D ta False y_WF_record b_WF_record 2 (some .long) (rL 0) [.ref (b + 0), .int (nI k)] (hC b ta F0 F1 F2 A0 A1 A2 ec er ed eu eo P0 P1 P2 S N th MS MN so qo sN qN kN tN M0 M1 M2 mp X) (some (.long ((qo k).2.2.2.2))) (hC b ta F0 F1 F2 A0 A1 A2 ec er ed eu eo P0 P1 P2 S N th MS MN so qo sN qN kN tN M0 M1 M2 mp X) := by
  refine jC_of (own := "WireField") (by decide +kernel) (Nat.le_of_ble_eq_true rfl) rfl (fun Γ B K => ?_)
  change jW l b D Γ False 0 0 2 (hC b ta F0 F1 F2 A0 A1 A2 ec er ed eu eo P0 P1 P2 S N th MS MN so qo sN qN kN tN M0 M1 M2 mp X) [(0, .ref (b + 0)), (1, .int (nI k))] 0 []
  refine j_iload_n B d_WF_record_0 rfl 1 rfl ?_
  refine j_if_lt B d_WF_record_1 rfl (fun h1 => absurd h1 (nI_pos (by omega))) (fun h1 => ?_)
  refine j_iload_n B d_WF_record_4 rfl 1 rfl ?_
  refine j_aload_n B d_WF_record_5 rfl 0 rfl ?_
  refine gf_WF_57 B rfl rfl d_WF_record_6 ?_
  refine j_icmp_ge B d_WF_record_9 rfl (fun h9 => absurd h9 (nI_ge hk (by omega))) (fun h9 => ?_)
  refine j_aload_n B d_WF_record_12 rfl 0 rfl ?_
  refine gf_WF_53 B rfl rfl d_WF_record_13 ?_
  refine j_iload_n B d_WF_record_16 rfl 1 rfl ?_
  refine j_aaldN (z := b + (33 + k)) B rfl rfl (by omega) (if_pos (by omega)) d_WF_record_17 ?_
  refine gf_WF_197 B (hC_qo (j := k) (by omega)) rfl d_WF_record_18 ?_
  refine j_goto B d_WF_record_21 rfl ?_
  exact j_lret B K rfl rfl d_WF_record_25
set_option maxRecDepth 100000 in
set_option maxHeartbeats 4000000 in
theorem c_WF_record_f {l : Launch} {b : Nat} {D : va_G} {ta : Nat → ClassId} {F0 : Nat → Int32} {F1 : Nat → Int32} {F2 : Nat → Int32} {A0 : Nat → Int32} {A1 : Nat → Int32} {A2 : Nat → Int32} {ec : Int32} {er : Int32} {ed : Nat} {eu : Bool} {eo : Nat} {P0 : Nat → Int32} {P1 : Nat → Int32} {P2 : Nat → Int32} {S : Nat → Int32} {N : Nat} {th : Nat → Int32} {MS : Nat → Nat → Int32} {MN : Nat → Nat} {so : Nat → Int32 × Int32 × Int64 × Nat × Nat} {qo : Nat → Int32 × Int32 × Int32 × Int32 × Int64} {sN : Nat} {qN : Nat} {kN : Nat} {tN : Nat} {M0 : Nat → Nat → Int32} {M1 : Nat → Nat → Int32} {M2 : Nat → Nat → Int32} {mp : Nat → Nat → Int32} {X : List va_E} {k : Int32} (hqN : qN ≤ 4) (hf : k < 0 ∨ nI qN ≤ k) : jC l b D ta False y_WF_record b_WF_record 2 (some .long) (rL 0) [.ref (b + 0), .int k] (hC b ta F0 F1 F2 A0 A1 A2 ec er ed eu eo P0 P1 P2 S N th MS MN so qo sN qN kN tN M0 M1 M2 mp X) (some (.long 0)) (hC b ta F0 F1 F2 A0 A1 A2 ec er ed eu eo P0 P1 P2 S N th MS MN so qo sN qN kN tN M0 M1 M2 mp X) := by
  refine jC_of (own := "WireField") (by decide +kernel) (Nat.le_of_ble_eq_true rfl) rfl (fun Γ B K => ?_)
  change jW l b D Γ False 0 0 2 (hC b ta F0 F1 F2 A0 A1 A2 ec er ed eu eo P0 P1 P2 S N th MS MN so qo sN qN kN tN M0 M1 M2 mp X) [(0, .ref (b + 0)), (1, .int k)] 0 []
  refine j_iload_n B d_WF_record_0 rfl 1 rfl ?_
  refine j_if_lt B d_WF_record_1 rfl (fun h1 => ?_) (fun h1 => ?_)
  · -- 1 jump
    refine j_lconst (v := 0) B d_WF_record_24 (by decide) ?_
    exact j_lret B K rfl rfl d_WF_record_25
  · -- 1 on
    refine j_iload_n B d_WF_record_4 rfl 1 rfl ?_
    refine j_aload_n B d_WF_record_5 rfl 0 rfl ?_
    refine gf_WF_57 B rfl rfl d_WF_record_6 ?_
    refine j_icmp_ge B d_WF_record_9 rfl (fun h9 => ?_) (fun h9 => ?_)
    · -- 9 jump
      refine j_lconst (v := 0) B d_WF_record_24 (by decide) ?_
      exact j_lret B K rfl rfl d_WF_record_25
    · -- 9 on
      exact absurd hf (fun q => q.elim h1 h9)
set_option maxRecDepth 100000 in
set_option maxHeartbeats 4000000 in
theorem c_WF_momentAt {l : Launch} {b : Nat} {D : va_G} {ta : Nat → ClassId} {F0 : Nat → Int32} {F1 : Nat → Int32} {F2 : Nat → Int32} {A0 : Nat → Int32} {A1 : Nat → Int32} {A2 : Nat → Int32} {ec : Int32} {er : Int32} {ed : Nat} {eu : Bool} {eo : Nat} {P0 : Nat → Int32} {P1 : Nat → Int32} {P2 : Nat → Int32} {S : Nat → Int32} {N : Nat} {th : Nat → Int32} {MS : Nat → Nat → Int32} {MN : Nat → Nat} {so : Nat → Int32 × Int32 × Int64 × Nat × Nat} {qo : Nat → Int32 × Int32 × Int32 × Int32 × Int64} {sN : Nat} {qN : Nat} {kN : Nat} {tN : Nat} {M0 : Nat → Nat → Int32} {M1 : Nat → Nat → Int32} {M2 : Nat → Nat → Int32} {mp : Nat → Nat → Int32} {X : List va_E} {T : Nat} (hT : T < 2 ^ 31) : jC l b D ta False y_WF_momentAt b_WF_momentAt 2 (some (.object "WireField$Moment")) (rL 1) [.ref (b + 0), .int (nI T)] (hC b ta F0 F1 F2 A0 A1 A2 ec er ed eu eo P0 P1 P2 S N th MS MN so qo sN qN kN tN M0 M1 M2 mp X) (some (.ref (b + (37 + 6 * (T % 16))))) (hC b ta F0 F1 F2 A0 A1 A2 ec er ed eu eo P0 P1 P2 S N th MS MN so qo sN qN kN tN M0 M1 M2 mp X) := by
  refine jC_of (own := "WireField") (by decide +kernel) (Nat.le_of_ble_eq_true rfl) rfl (fun Γ B K => ?_)
  change jW l b D Γ False 0 0 2 (hC b ta F0 F1 F2 A0 A1 A2 ec er ed eu eo P0 P1 P2 S N th MS MN so qo sN qN kN tN M0 M1 M2 mp X) [(0, .ref (b + 0)), (1, .int (nI T))] 0 []
  refine j_aload_n B d_WF_momentAt_0 rfl 0 rfl ?_
  refine gf_WF_62 B rfl rfl d_WF_momentAt_1 ?_
  refine j_iload_n B d_WF_momentAt_4 rfl 1 rfl ?_
  refine j_bipush (v := 16) B d_WF_momentAt_5 (by decide) ?_
  refine k_callS (as := [.int (nI T), .int 16]) (rest := [.ref (b + 20)]) (st1 := [.int (nI (T % 16)), .ref (b + 20)]) B (c_Math_floorMod hT) yf_Math_floorMod w_302 w_303 rfl (by decide) (by decide) rfl rfl (Nat.le_of_ble_eq_true rfl) d_WF_momentAt_7 ?_
  refine j_aaldN (z := b + (37 + 6 * (T % 16))) B rfl rfl (by omega) (if_pos (by omega)) d_WF_momentAt_10 ?_
  exact j_aret B (Or.inl ⟨_, rfl⟩) K rfl rfl d_WF_momentAt_11
set_option maxRecDepth 100000 in
set_option maxHeartbeats 4000000 in
theorem c_WF_period {l : Launch} {b : Nat} {D : va_G} {ta : Nat → ClassId} {F0 : Nat → Int32} {F1 : Nat → Int32} {F2 : Nat → Int32} {A0 : Nat → Int32} {A1 : Nat → Int32} {A2 : Nat → Int32} {ec : Int32} {er : Int32} {ed : Nat} {eu : Bool} {eo : Nat} {P0 : Nat → Int32} {P1 : Nat → Int32} {P2 : Nat → Int32} {S : Nat → Int32} {N : Nat} {th : Nat → Int32} {MS : Nat → Nat → Int32} {MN : Nat → Nat} {so : Nat → Int32 × Int32 × Int64 × Nat × Nat} {qo : Nat → Int32 × Int32 × Int32 × Int32 × Int64} {sN : Nat} {qN : Nat} {kN : Nat} {tN : Nat} {M0 : Nat → Nat → Int32} {M1 : Nat → Nat → Int32} {M2 : Nat → Nat → Int32} {mp : Nat → Nat → Int32} {X : List va_E} (hkt : kN ≤ tN) (hk16 : kN ≤ 16) (htN : tN < 2 ^ 31) : jC l b D ta False y_WF_period b_WF_period 2 (some .int) (rL 2) [.ref (b + 0)] (hC b ta F0 F1 F2 A0 A1 A2 ec er ed eu eo P0 P1 P2 S N th MS MN so qo sN qN kN tN M0 M1 M2 mp X) (some (.int (nI (perF F0 F1 F2 M0 M1 M2 tN kN kN 1)))) (hC b ta F0 F1 F2 A0 A1 A2 ec er ed eu eo P0 P1 P2 S N th MS MN so qo sN qN kN tN M0 M1 M2 mp X) := by
  refine jC_of (own := "WireField") (by decide +kernel) (Nat.le_of_ble_eq_true rfl) rfl (fun Γ B K => ?_)
  change jW l b D Γ False 0 0 2 (hC b ta F0 F1 F2 A0 A1 A2 ec er ed eu eo P0 P1 P2 S N th MS MN so qo sN qN kN tN M0 M1 M2 mp X) [(0, .ref (b + 0))] 0 []
  refine j_iconst (v := 1) B d_WF_period_0 (by decide) ?_
  refine j_istore_n (L' := [(0, .ref (b + 0)), (1, .int 1)]) B d_WF_period_1 rfl (by decide) [1, 0] rfl ?_
  have lp2 : ∀ (n2 : Nat) (p : Nat), kN + 1 - p = n2 → (1 ≤ p ∧ p ≤ kN + 1) → (perF F0 F1 F2 M0 M1 M2 tN kN (kN + 1 - p) p = perF F0 F1 F2 M0 M1 M2 tN kN kN 1) → jW l b D Γ False 0 0 2 (hC b ta F0 F1 F2 A0 A1 A2 ec er ed eu eo P0 P1 P2 S N th MS MN so qo sN qN kN tN M0 M1 M2 mp X) [(0, .ref (b + 0)), (1, .int (nI p))] 2 [] := by
    refine jloop (fun n2 ih2 => ?_)
    intro p hn2 hp hI
    refine j_iload_n B d_WF_period_2 rfl 1 rfl ?_
    refine j_aload_n B d_WF_period_3 rfl 0 rfl ?_
    refine gf_WF_66 B rfl rfl d_WF_period_4 ?_
    refine j_icmp_gt B d_WF_period_7 rfl (fun h7 => ?_) (fun h7 => ?_)
    · -- 7 jump
      have hpk : kN + 1 - p = 0 := by have := (nI_ltI (a := kN) (b := p) (by omega) (by omega)).mp h7; omega
      refine j_iconst (v := 0) B d_WF_period_41 (by decide) ?_
      exact j_iret B K (by rw [hpk, perF] at hI; rw [← hI]; rfl) rfl d_WF_period_42
    · -- 7 on
      have hpk : p ≤ kN := (Nat.lt_or_ge kN p).elim (fun q => absurd (nI_lt q (by omega)) h7) id
      rw [show kN + 1 - p = (kN - p) + 1 by omega, perF] at hI
      refine j_aload_n B d_WF_period_10 rfl 0 rfl ?_
      refine gf_WF_12 B rfl rfl d_WF_period_11 ?_
      refine j_aload_n B d_WF_period_14 rfl 0 rfl ?_
      refine j_aload_n B d_WF_period_15 rfl 0 rfl ?_
      refine gf_WF_69 B rfl rfl d_WF_period_16 ?_
      refine j_iload_n B d_WF_period_19 rfl 1 rfl ?_
      refine j_isubE (v := nI (tN - p)) B (pk_sub (by omega)) d_WF_period_20 ?_
      refine k_callV (as := [.int (nI (tN - p))]) (rest := [.ref (b + 1)]) (st1 := [.ref (b + (37 + 6 * ((tN - p) % 16))), .ref (b + 1)]) B (c_WF_momentAt (by omega)) yf_WF_momentAt w_298 w_300 w_s4 rfl rfl rfl (by decide) (by decide) rfl rfl (Nat.le_of_ble_eq_true rfl) d_WF_period_21 ?_
      refine gf_WF_175 B (hC_mo ((tN - p) % 16) (Nat.mod_lt _ (by decide))).1 rfl d_WF_period_24 ?_
      refine k_callV (as := [.ref (b + (38 + 6 * ((tN - p) % 16)))]) (rest := []) (st1 := [.int (bI (gEq F0 F1 F2 (M0 ((tN - p) % 16)) (M1 ((tN - p) % 16)) (M2 ((tN - p) % 16))))]) B (c_G_isSameAs rfl rfl rfl rfl (hC_mo ((tN - p) % 16) (Nat.mod_lt _ (by decide))).2.1 (hC_mo ((tN - p) % 16) (Nat.mod_lt _ (by decide))).2.2.1 (hC_mo ((tN - p) % 16) (Nat.mod_lt _ (by decide))).2.2.2.1 (hC_mo ((tN - p) % 16) (Nat.mod_lt _ (by decide))).2.2.2.2.1) yf_G_isSameAs w_349 w_350 w_351 rfl rfl rfl (by decide) (by decide) rfl rfl (Nat.le_of_ble_eq_true rfl) d_WF_period_27 ?_
      refine j_if_eq B d_WF_period_30 rfl (fun h30 => ?_) (fun h30 => ?_)
      · -- 30 jump
        replace h30 := bI_f h30
        rw [if_neg (bF h30)] at hI
        refine j_iinc (L' := [(0, .ref (b + 0)), (1, .int (nI (p + 1)))]) (v := nI (p + 1)) B d_WF_period_35 (k := 1) rfl (nI_succ p).symm (by decide) [1, 0] rfl ?_
        refine j_goto B d_WF_period_38 rfl ?_
        exact ih2 _ (by omega) (p + 1) rfl (by omega) (by rw [← hI]; congr 1; omega)
      · -- 30 on
        replace h30 := bI_t h30
        rw [if_pos h30] at hI
        refine j_iload_n B d_WF_period_33 rfl 1 rfl ?_
        exact j_iret B K (by rw [← hI]) rfl d_WF_period_34
  exact lp2 _ 1 rfl (by omega) rfl
set_option maxRecDepth 100000 in
set_option maxHeartbeats 4000000 in
theorem c_WF_putTurned {l : Launch} {b : Nat} {D : va_G} {ta : Nat → ClassId} {F0 : Nat → Int32} {F1 : Nat → Int32} {F2 : Nat → Int32} {A0 : Nat → Int32} {A1 : Nat → Int32} {A2 : Nat → Int32} {ec : Int32} {er : Int32} {ed : Nat} {eu : Bool} {eo : Nat} {P0 : Nat → Int32} {P1 : Nat → Int32} {P2 : Nat → Int32} {S : Nat → Int32} {N : Nat} {th : Nat → Int32} {MS : Nat → Nat → Int32} {MN : Nat → Nat} {so : Nat → Int32 × Int32 × Int64 × Nat × Nat} {qo : Nat → Int32 × Int32 × Int32 × Int32 × Int64} {sN : Nat} {qN : Nat} {kN : Nat} {tN : Nat} {M0 : Nat → Nat → Int32} {M1 : Nat → Nat → Int32} {M2 : Nat → Nat → Int32} {mp : Nat → Nat → Int32} {X : List va_E} (x y tx ty t : Int32) {Wd Hd : Nat} (hWd : Wd < 2 ^ 30) (hHd : Hd < 2 ^ 30) : jC l b D ta False y_WF_putTurned b_WF_putTurned 13 none (rL 2) [.ref (b + 0), .int x, .int y, .int (nI Wd), .int (nI Hd), .int tx, .int ty, .int t] (hC b ta F0 F1 F2 A0 A1 A2 ec er ed eu eo P0 P1 P2 S N th MS MN so qo sN qN kN tN M0 M1 M2 mp X) none (hC b ta ((ptA A0 A1 A2 x y (nI Wd) (nI Hd) tx ty t Wd Hd (F0, F1, F2)).1) ((ptA A0 A1 A2 x y (nI Wd) (nI Hd) tx ty t Wd Hd (F0, F1, F2)).2.1) ((ptA A0 A1 A2 x y (nI Wd) (nI Hd) tx ty t Wd Hd (F0, F1, F2)).2.2) A0 A1 A2 ec er ed eu eo P0 P1 P2 S N th MS MN so qo sN qN kN tN M0 M1 M2 mp X) := by
  refine jC_of (own := "WireField") (by decide +kernel) (Nat.le_of_ble_eq_true rfl) rfl (fun Γ B K => ?_)
  change jW l b D Γ False 0 0 13 (hC b ta F0 F1 F2 A0 A1 A2 ec er ed eu eo P0 P1 P2 S N th MS MN so qo sN qN kN tN M0 M1 M2 mp X) [(0, .ref (b + 0)), (1, .int x), (2, .int y), (3, .int (nI Wd)), (4, .int (nI Hd)), (5, .int tx), (6, .int ty), (7, .int t)] 0 []
  refine j_iconst (v := 0) B d_WF_putTurned_0 (by decide) ?_
  refine j_istore (L' := [(0, .ref (b + 0)), (1, .int x), (2, .int y), (3, .int (nI Wd)), (4, .int (nI Hd)), (5, .int tx), (6, .int ty), (7, .int t), (8, .int 0)]) B d_WF_putTurned_1 (by decide) [1, 2, 3, 4, 5, 6, 7, 8, 0] rfl ?_
  have lp3 : ∀ (n3 : Nat) (iy : Nat), Hd - iy = n3 → (iy ≤ Hd) → jW l b D Γ False 0 0 13 (hC b ta ((ptA A0 A1 A2 x y (nI Wd) (nI Hd) tx ty t Wd iy (F0, F1, F2)).1) ((ptA A0 A1 A2 x y (nI Wd) (nI Hd) tx ty t Wd iy (F0, F1, F2)).2.1) ((ptA A0 A1 A2 x y (nI Wd) (nI Hd) tx ty t Wd iy (F0, F1, F2)).2.2) A0 A1 A2 ec er ed eu eo P0 P1 P2 S N th MS MN so qo sN qN kN tN M0 M1 M2 mp X) [(0, .ref (b + 0)), (1, .int x), (2, .int y), (3, .int (nI Wd)), (4, .int (nI Hd)), (5, .int tx), (6, .int ty), (7, .int t), (8, .int (nI iy))] 3 [] := by
    refine jloop (fun n3 ih3 => ?_)
    intro iy hn3 hy
    refine j_iload B d_WF_putTurned_3 8 rfl ?_
    refine j_iload B d_WF_putTurned_5 4 rfl ?_
    refine j_icmp_ge B d_WF_putTurned_7 rfl (fun h7 => ?_) (fun h7 => ?_)
    · -- 7 jump
      have hY := (lp_ge (by omega) hy h7).symm
      subst hY
      exact j_vret B K rfl d_WF_putTurned_100
    · -- 7 on
      have hY : iy < Hd := lp_lt (by omega) hy h7
      refine j_iconst (v := 0) B d_WF_putTurned_10 (by decide) ?_
      refine j_istore (L' := [(0, .ref (b + 0)), (1, .int x), (2, .int y), (3, .int (nI Wd)), (4, .int (nI Hd)), (5, .int tx), (6, .int ty), (7, .int t), (8, .int (nI iy)), (9, .int 0)]) B d_WF_putTurned_11 (by decide) [1, 2, 3, 4, 5, 6, 7, 8, 9, 0] rfl ?_
      have lp13 : ∀ (n13 : Nat) (ix : Nat), Wd - ix = n13 → (ix ≤ Wd) → jW l b D Γ False 0 0 13 (hC b ta ((ptR A0 A1 A2 x y (nI Wd) (nI Hd) tx ty t iy ix (ptA A0 A1 A2 x y (nI Wd) (nI Hd) tx ty t Wd iy (F0, F1, F2))).1) ((ptR A0 A1 A2 x y (nI Wd) (nI Hd) tx ty t iy ix (ptA A0 A1 A2 x y (nI Wd) (nI Hd) tx ty t Wd iy (F0, F1, F2))).2.1) ((ptR A0 A1 A2 x y (nI Wd) (nI Hd) tx ty t iy ix (ptA A0 A1 A2 x y (nI Wd) (nI Hd) tx ty t Wd iy (F0, F1, F2))).2.2) A0 A1 A2 ec er ed eu eo P0 P1 P2 S N th MS MN so qo sN qN kN tN M0 M1 M2 mp X) [(0, .ref (b + 0)), (1, .int x), (2, .int y), (3, .int (nI Wd)), (4, .int (nI Hd)), (5, .int tx), (6, .int ty), (7, .int t), (8, .int (nI iy)), (9, .int (nI ix))] 13 [] := by
        refine jloop (fun n13 ih13 => ?_)
        intro ix hn13 hx
        refine j_iload B d_WF_putTurned_13 9 rfl ?_
        refine j_iload_n B d_WF_putTurned_15 rfl 3 rfl ?_
        refine j_icmp_ge B d_WF_putTurned_16 rfl (fun h16 => ?_) (fun h16 => ?_)
        · -- 16 jump
          have hX := (lp_ge (by omega) hx h16).symm
          subst hX
          refine j_iinc (L' := [(0, .ref (b + 0)), (1, .int x), (2, .int y), (3, .int (nI Wd)), (4, .int (nI Hd)), (5, .int tx), (6, .int ty), (7, .int t), (8, .int (nI (iy + 1))), (9, .int (nI Wd))]) (v := nI (iy + 1)) B d_WF_putTurned_94 (k := 8) rfl (nI_succ iy).symm (by decide) [1, 2, 3, 4, 5, 6, 7, 8, 0, 9] rfl ?_
          refine j_goto B d_WF_putTurned_97 rfl ?_
          refine jW.sub (L' := [(0, .ref (b + 0)), (1, .int x), (2, .int y), (3, .int (nI Wd)), (4, .int (nI Hd)), (5, .int tx), (6, .int ty), (7, .int t), (8, .int (nI (iy + 1)))]) [0, 1, 2, 3, 4, 5, 6, 7, 8] rfl ?_; exact ih3 _ (by omega) (iy + 1) rfl (by omega)
        · -- 16 on
          have hX : ix < Wd := lp_lt (by omega) hx h16
          refine j_aload_n B d_WF_putTurned_19 rfl 0 rfl ?_
          refine gf_WF_16 B rfl rfl d_WF_putTurned_20 ?_
          refine j_iload_n B d_WF_putTurned_23 rfl 1 rfl ?_
          refine j_iload B d_WF_putTurned_24 9 rfl ?_
          refine j_iadd B d_WF_putTurned_26 ?_
          refine j_iload_n B d_WF_putTurned_27 rfl 2 rfl ?_
          refine j_iload B d_WF_putTurned_28 8 rfl ?_
          refine j_iadd B d_WF_putTurned_30 ?_
          refine k_callV (as := [.int (x + (nI ix)), .int (y + (nI iy))]) (rest := []) (st1 := [.int (fVal A0 A1 A2 (x + (nI ix)) (y + (nI iy)))]) B (c_G_valueAt rfl rfl rfl rfl (x + (nI ix)) (y + (nI iy))) yf_G_valueAt w_242 w_243 w_244 rfl rfl rfl (by decide) (by decide) rfl rfl (Nat.le_of_ble_eq_true rfl) d_WF_putTurned_31 ?_
          refine j_istore (L' := [(0, .ref (b + 0)), (1, .int x), (2, .int y), (3, .int (nI Wd)), (4, .int (nI Hd)), (5, .int tx), (6, .int ty), (7, .int t), (8, .int (nI iy)), (9, .int (nI ix)), (10, .int (fVal A0 A1 A2 (x + (nI ix)) (y + (nI iy))))]) B d_WF_putTurned_34 (by decide) [1, 2, 3, 4, 5, 6, 7, 8, 9, 10, 0] rfl ?_
          refine j_iload B d_WF_putTurned_36 10 rfl ?_
          refine j_if_eq B d_WF_putTurned_38 rfl (fun h38 => ?_) (fun h38 => ?_)
          · -- 38 jump
            refine j_iinc (L' := [(0, .ref (b + 0)), (1, .int x), (2, .int y), (3, .int (nI Wd)), (4, .int (nI Hd)), (5, .int tx), (6, .int ty), (7, .int t), (8, .int (nI iy)), (9, .int (nI (ix + 1))), (10, .int (fVal A0 A1 A2 (x + (nI ix)) (y + (nI iy))))]) (v := nI (ix + 1)) B d_WF_putTurned_88 (k := 9) rfl (nI_succ ix).symm (by decide) [1, 2, 3, 4, 5, 6, 7, 8, 9, 0, 10] rfl ?_
            refine j_goto B d_WF_putTurned_91 rfl ?_
            refine jW.sub (L' := [(0, .ref (b + 0)), (1, .int x), (2, .int y), (3, .int (nI Wd)), (4, .int (nI Hd)), (5, .int tx), (6, .int ty), (7, .int t), (8, .int (nI iy)), (9, .int (nI (ix + 1)))]) [0, 1, 2, 3, 4, 5, 6, 7, 8, 9] rfl ?_; refine jW.heap (σ2 := hC b ta ((ptR A0 A1 A2 x y (nI Wd) (nI Hd) tx ty t iy (ix + 1) (ptA A0 A1 A2 x y (nI Wd) (nI Hd) tx ty t Wd iy (F0, F1, F2))).1) ((ptR A0 A1 A2 x y (nI Wd) (nI Hd) tx ty t iy (ix + 1) (ptA A0 A1 A2 x y (nI Wd) (nI Hd) tx ty t Wd iy (F0, F1, F2))).2.1) ((ptR A0 A1 A2 x y (nI Wd) (nI Hd) tx ty t iy (ix + 1) (ptA A0 A1 A2 x y (nI Wd) (nI Hd) tx ty t Wd iy (F0, F1, F2))).2.2) A0 A1 A2 ec er ed eu eo P0 P1 P2 S N th MS MN so qo sN qN kN tN M0 M1 M2 mp X) (by simp only [ptR, ptS, h38, if_true, if_false]) ?_; exact ih13 _ (by omega) (ix + 1) rfl (by omega)
          · -- 38 on
            refine j_iload B d_WF_putTurned_41 5 rfl ?_
            refine j_iload B d_WF_putTurned_43 9 rfl ?_
            refine j_iload B d_WF_putTurned_45 8 rfl ?_
            refine j_iload_n B d_WF_putTurned_47 rfl 3 rfl ?_
            refine j_iload B d_WF_putTurned_48 4 rfl ?_
            refine j_iload B d_WF_putTurned_50 7 rfl ?_
            refine k_callS (as := [.int (nI ix), .int (nI iy), .int (nI Wd), .int (nI Hd), .int t]) (rest := [.int tx]) (st1 := [.int (tuX (nI ix) (nI iy) (nI Wd) (nI Hd) t), .int tx]) B (c_WF_turnedX (nI ix) (nI iy) (nI Wd) (nI Hd) t) yf_WF_turnedX w_264 w_265 rfl (by decide) (by decide) rfl rfl (Nat.le_of_ble_eq_true rfl) d_WF_putTurned_52 ?_
            refine j_iadd B d_WF_putTurned_55 ?_
            refine j_istore (L' := [(0, .ref (b + 0)), (1, .int x), (2, .int y), (3, .int (nI Wd)), (4, .int (nI Hd)), (5, .int tx), (6, .int ty), (7, .int t), (8, .int (nI iy)), (9, .int (nI ix)), (10, .int (fVal A0 A1 A2 (x + (nI ix)) (y + (nI iy)))), (11, .int (tx + (tuX (nI ix) (nI iy) (nI Wd) (nI Hd) t)))]) B d_WF_putTurned_56 (by decide) [1, 2, 3, 4, 5, 6, 7, 8, 9, 10, 11, 0] rfl ?_
            refine j_iload B d_WF_putTurned_58 6 rfl ?_
            refine j_iload B d_WF_putTurned_60 9 rfl ?_
            refine j_iload B d_WF_putTurned_62 8 rfl ?_
            refine j_iload_n B d_WF_putTurned_64 rfl 3 rfl ?_
            refine j_iload B d_WF_putTurned_65 4 rfl ?_
            refine j_iload B d_WF_putTurned_67 7 rfl ?_
            refine k_callS (as := [.int (nI ix), .int (nI iy), .int (nI Wd), .int (nI Hd), .int t]) (rest := [.int ty]) (st1 := [.int (tuY (nI ix) (nI iy) (nI Wd) (nI Hd) t), .int ty]) B (c_WF_turnedY (nI ix) (nI iy) (nI Wd) (nI Hd) t) yf_WF_turnedY w_267 w_268 rfl (by decide) (by decide) rfl rfl (Nat.le_of_ble_eq_true rfl) d_WF_putTurned_69 ?_
            refine j_iadd B d_WF_putTurned_72 ?_
            refine j_istore (L' := [(0, .ref (b + 0)), (1, .int x), (2, .int y), (3, .int (nI Wd)), (4, .int (nI Hd)), (5, .int tx), (6, .int ty), (7, .int t), (8, .int (nI iy)), (9, .int (nI ix)), (10, .int (fVal A0 A1 A2 (x + (nI ix)) (y + (nI iy)))), (11, .int (tx + (tuX (nI ix) (nI iy) (nI Wd) (nI Hd) t))), (12, .int (ty + (tuY (nI ix) (nI iy) (nI Wd) (nI Hd) t)))]) B d_WF_putTurned_73 (by decide) [1, 2, 3, 4, 5, 6, 7, 8, 9, 10, 11, 12, 0] rfl ?_
            refine j_aload_n B d_WF_putTurned_75 rfl 0 rfl ?_
            refine gf_WF_12 B rfl rfl d_WF_putTurned_76 ?_
            refine j_iload B d_WF_putTurned_79 11 rfl ?_
            refine j_iload B d_WF_putTurned_81 12 rfl ?_
            refine j_iload B d_WF_putTurned_83 10 rfl ?_
            refine k_callV (as := [.int (tx + (tuX (nI ix) (nI iy) (nI Wd) (nI Hd) t)), .int (ty + (tuY (nI ix) (nI iy) (nI Wd) (nI Hd) t)), .int (fVal A0 A1 A2 (x + (nI ix)) (y + (nI iy)))]) (rest := []) (st1 := []) B (c_G_put rfl rfl rfl rfl (by decide) (by decide) (by decide) (by decide) (by decide) (by decide) (tx + (tuX (nI ix) (nI iy) (nI Wd) (nI Hd) t)) (ty + (tuY (nI ix) (nI iy) (nI Wd) (nI Hd) t)) (fVal A0 A1 A2 (x + (nI ix)) (y + (nI iy)))) yf_G_put w_229 w_230 w_231 rfl rfl rfl (by decide) (by decide) rfl rfl (Nat.le_of_ble_eq_true rfl) d_WF_putTurned_85 ?_
            refine jW.heap (σ2 := hC b ta (pB ((ptR A0 A1 A2 x y (nI Wd) (nI Hd) tx ty t iy ix (ptA A0 A1 A2 x y (nI Wd) (nI Hd) tx ty t Wd iy (F0, F1, F2))).1) (tx + (tuX (nI ix) (nI iy) (nI Wd) (nI Hd) t)) (ty + (tuY (nI ix) (nI iy) (nI Wd) (nI Hd) t)) (fVal A0 A1 A2 (x + (nI ix)) (y + (nI iy))) 1) (pB ((ptR A0 A1 A2 x y (nI Wd) (nI Hd) tx ty t iy ix (ptA A0 A1 A2 x y (nI Wd) (nI Hd) tx ty t Wd iy (F0, F1, F2))).2.1) (tx + (tuX (nI ix) (nI iy) (nI Wd) (nI Hd) t)) (ty + (tuY (nI ix) (nI iy) (nI Wd) (nI Hd) t)) (fVal A0 A1 A2 (x + (nI ix)) (y + (nI iy))) 2) (pB ((ptR A0 A1 A2 x y (nI Wd) (nI Hd) tx ty t iy ix (ptA A0 A1 A2 x y (nI Wd) (nI Hd) tx ty t Wd iy (F0, F1, F2))).2.2) (tx + (tuX (nI ix) (nI iy) (nI Wd) (nI Hd) t)) (ty + (tuY (nI ix) (nI iy) (nI Wd) (nI Hd) t)) (fVal A0 A1 A2 (x + (nI ix)) (y + (nI iy))) 3) A0 A1 A2 ec er ed eu eo P0 P1 P2 S N th MS MN so qo sN qN kN tN M0 M1 M2 mp X) rfl ?_
            refine j_iinc (L' := [(0, .ref (b + 0)), (1, .int x), (2, .int y), (3, .int (nI Wd)), (4, .int (nI Hd)), (5, .int tx), (6, .int ty), (7, .int t), (8, .int (nI iy)), (9, .int (nI (ix + 1))), (10, .int (fVal A0 A1 A2 (x + (nI ix)) (y + (nI iy)))), (11, .int (tx + (tuX (nI ix) (nI iy) (nI Wd) (nI Hd) t))), (12, .int (ty + (tuY (nI ix) (nI iy) (nI Wd) (nI Hd) t)))]) (v := nI (ix + 1)) B d_WF_putTurned_88 (k := 9) rfl (nI_succ ix).symm (by decide) [1, 2, 3, 4, 5, 6, 7, 8, 9, 0, 10, 11, 12] rfl ?_
            refine j_goto B d_WF_putTurned_91 rfl ?_
            refine jW.sub (L' := [(0, .ref (b + 0)), (1, .int x), (2, .int y), (3, .int (nI Wd)), (4, .int (nI Hd)), (5, .int tx), (6, .int ty), (7, .int t), (8, .int (nI iy)), (9, .int (nI (ix + 1)))]) [0, 1, 2, 3, 4, 5, 6, 7, 8, 9] rfl ?_; refine jW.heap (σ2 := hC b ta ((ptR A0 A1 A2 x y (nI Wd) (nI Hd) tx ty t iy (ix + 1) (ptA A0 A1 A2 x y (nI Wd) (nI Hd) tx ty t Wd iy (F0, F1, F2))).1) ((ptR A0 A1 A2 x y (nI Wd) (nI Hd) tx ty t iy (ix + 1) (ptA A0 A1 A2 x y (nI Wd) (nI Hd) tx ty t Wd iy (F0, F1, F2))).2.1) ((ptR A0 A1 A2 x y (nI Wd) (nI Hd) tx ty t iy (ix + 1) (ptA A0 A1 A2 x y (nI Wd) (nI Hd) tx ty t Wd iy (F0, F1, F2))).2.2) A0 A1 A2 ec er ed eu eo P0 P1 P2 S N th MS MN so qo sN qN kN tN M0 M1 M2 mp X) (by simp only [ptR, ptS, h38, if_true, if_false]) ?_; exact ih13 _ (by omega) (ix + 1) rfl (by omega)
      exact lp13 _ 0 rfl (by omega)
  exact lp3 _ 0 rfl (by omega)
