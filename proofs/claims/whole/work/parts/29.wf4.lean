set_option maxRecDepth 100000 in
set_option maxHeartbeats 4000000 in
theorem c_WF_macrosOfLineAreThere {l : Launch} {b : Nat} {D : va_G} {ta : Nat → ClassId} {F0 : Nat → Int32} {F1 : Nat → Int32} {F2 : Nat → Int32} {A0 : Nat → Int32} {A1 : Nat → Int32} {A2 : Nat → Int32} {ec : Int32} {er : Int32} {ed : Nat} {eu : Bool} {eo : Nat} {P0 : Nat → Int32} {P1 : Nat → Int32} {P2 : Nat → Int32} {S : Nat → Int32} {N : Nat} {th : Nat → Int32} {MS : Nat → Nat → Int32} {MN : Nat → Nat} {so : Nat → Int32 × Int32 × Int64 × Nat × Nat} {qo : Nat → Int32 × Int32 × Int32 × Int32 × Int64} {sN : Nat} {qN : Nat} {kN : Nat} {tN : Nat} {M0 : Nat → Nat → Int32} {M1 : Nat → Nat → Int32} {M2 : Nat → Nat → Int32} {mp : Nat → Nat → Int32} {X : List va_E} (hS : Fc S) (hN : N ≤ 60) (hMS : ∀ j, j < 4 → Fc (MS j) ∧ MN j ≤ 60) : jC l b D ta False y_WF_macrosOfLineAreThere b_WF_macrosOfLineAreThere 3 (some .boolean) (rL 2) [.ref (b + 0)] (hC b ta F0 F1 F2 A0 A1 A2 ec er ed eu eo P0 P1 P2 S N th MS MN so qo sN qN kN tN M0 M1 M2 mp X) (some (.int (bI (mtF th (hmM MS MN) 4 (hmF S N N))))) (hC b ta F0 F1 F2 A0 A1 A2 ec er ed eu eo P0 P1 P2 S N th MS MN so qo sN qN kN tN M0 M1 M2 mp X) := by
  refine jC_of (own := "WireField") (by decide +kernel) (Nat.le_of_ble_eq_true rfl) rfl (fun Γ B K => ?_)
  change jW l b D Γ False 0 0 3 (hC b ta F0 F1 F2 A0 A1 A2 ec er ed eu eo P0 P1 P2 S N th MS MN so qo sN qN kN tN M0 M1 M2 mp X) [(0, .ref (b + 0))] 0 []
  refine j_aload_n B d_WF_macrosOfLineAreThere_0 rfl 0 rfl ?_
  refine gf_WF_29 B rfl rfl d_WF_macrosOfLineAreThere_1 ?_
  refine k_callV (as := []) (rest := []) (st1 := [.int (hmF S N N)]) B (c_Tx_heldMacros rfl rfl hS hN) yf_Tx_heldMacros w_556 w_557 w_558 rfl rfl rfl (by decide) (by decide) rfl rfl (Nat.le_of_ble_eq_true rfl) d_WF_macrosOfLineAreThere_4 ?_
  refine j_istore_n (L' := [(0, .ref (b + 0)), (1, .int (hmF S N N))]) B d_WF_macrosOfLineAreThere_7 rfl (by decide) [1, 0] rfl ?_
  refine j_iconst (v := 3) B d_WF_macrosOfLineAreThere_8 (by decide) ?_
  refine j_istore_n (L' := [(0, .ref (b + 0)), (1, .int (hmF S N N)), (2, .int 3)]) B d_WF_macrosOfLineAreThere_9 rfl (by decide) [1, 2, 0] rfl ?_
  have lp10 : ∀ (n10 : Nat) (k : Nat) (nd : Int32), k = n10 → (k ≤ 4) → (mtF th (hmM MS MN) k nd = mtF th (hmM MS MN) 4 (hmF S N N)) → jW l b D Γ False 0 0 3 (hC b ta F0 F1 F2 A0 A1 A2 ec er ed eu eo P0 P1 P2 S N th MS MN so qo sN qN kN tN M0 M1 M2 mp X) [(0, .ref (b + 0)), (1, .int nd), (2, .int (rI (prv k)))] 10 [] := by
    refine jloop (fun n10 ih10 => ?_)
    intro k nd hn10 hk hI
    refine j_iload_n B d_WF_macrosOfLineAreThere_10 rfl 2 rfl ?_
    refine j_if_lt B d_WF_macrosOfLineAreThere_11 rfl (fun h11 => ?_) (fun h11 => ?_)
    · -- 11 jump
      have hk0 := prv_0 hk h11
      subst hk0
      refine j_iconst (v := 1) B d_WF_macrosOfLineAreThere_52 (by decide) ?_
      exact j_zret B K (by decide) (by rw [← hI]; rfl) rfl d_WF_macrosOfLineAreThere_53
    · -- 11 on
      obtain ⟨j, hkj⟩ := prv_s h11
      subst hkj
      have hj : j < 4 := by omega
      change jW l b D Γ False 0 0 3 (hC b ta F0 F1 F2 A0 A1 A2 ec er ed eu eo P0 P1 P2 S N th MS MN so qo sN qN kN tN M0 M1 M2 mp X) [(0, .ref (b + 0)), (1, .int nd), (2, .int (nI j))] 14 []
      rw [mtF] at hI
      refine j_iload_n B d_WF_macrosOfLineAreThere_14 rfl 1 rfl ?_
      refine j_iload_n B d_WF_macrosOfLineAreThere_15 rfl 2 rfl ?_
      refine j_ishr B d_WF_macrosOfLineAreThere_16 ?_
      refine j_iconst (v := 1) B d_WF_macrosOfLineAreThere_17 (by decide) ?_
      refine j_iand B d_WF_macrosOfLineAreThere_18 ?_
      refine j_iconst (v := 1) B d_WF_macrosOfLineAreThere_19 (by decide) ?_
      refine j_icmp_ne B d_WF_macrosOfLineAreThere_20 rfl (fun h20 => ?_) (fun h20 => ?_)
      · -- 20 jump
        rw [if_neg h20] at hI
        refine j_iinc (L' := [(0, .ref (b + 0)), (1, .int nd), (2, .int (rI (prv j)))]) (v := rI (prv j)) B d_WF_macrosOfLineAreThere_46 (k := 2) rfl (prv_d j) (by decide) [1, 2, 0] rfl ?_
        refine j_goto B d_WF_macrosOfLineAreThere_49 rfl ?_
        exact ih10 _ (by omega) j nd rfl (by omega) hI
      · -- 20 on
        rw [if_pos h20] at hI
        refine j_aload_n B d_WF_macrosOfLineAreThere_23 rfl 0 rfl ?_
        refine gf_WF_37 B rfl rfl d_WF_macrosOfLineAreThere_24 ?_
        refine j_iload_n B d_WF_macrosOfLineAreThere_27 rfl 2 rfl ?_
        refine j_zaldN B rfl rfl (by omega) d_WF_macrosOfLineAreThere_28 ?_
        refine j_if_ne B d_WF_macrosOfLineAreThere_29 rfl (fun h29 => ?_) (fun h29 => ?_)
        · -- 29 jump
          rw [if_neg h29] at hI
          refine j_iload_n B d_WF_macrosOfLineAreThere_34 rfl 1 rfl ?_
          refine j_aload_n B d_WF_macrosOfLineAreThere_35 rfl 0 rfl ?_
          refine gf_WF_33 B rfl rfl d_WF_macrosOfLineAreThere_36 ?_
          refine j_iload_n B d_WF_macrosOfLineAreThere_39 rfl 2 rfl ?_
          refine j_aaldN (z := b + (21 + 2 * j)) B rfl rfl (by omega) (if_pos (by omega)) d_WF_macrosOfLineAreThere_40 ?_
          refine k_callV (as := []) (rest := [.int nd]) (st1 := [.int (hmF (MS j) (MN j) (MN j)), .int nd]) B (c_Tx_heldMacros (hC_mx hj) (hC_ms hj) (hMS j hj).1 (hMS j hj).2) yf_Tx_heldMacros w_556 w_557 w_558 rfl (hC_mx hj) rfl (by decide) (by decide) rfl rfl (Nat.le_of_ble_eq_true rfl) d_WF_macrosOfLineAreThere_41 ?_
          refine j_ior B d_WF_macrosOfLineAreThere_44 ?_
          refine j_istore_n (L' := [(0, .ref (b + 0)), (1, .int (nd ||| (hmF (MS j) (MN j) (MN j)))), (2, .int (nI j))]) B d_WF_macrosOfLineAreThere_45 rfl (by decide) [1, 0, 2] rfl ?_
          refine j_iinc (L' := [(0, .ref (b + 0)), (1, .int (nd ||| (hmF (MS j) (MN j) (MN j)))), (2, .int (rI (prv j)))]) (v := rI (prv j)) B d_WF_macrosOfLineAreThere_46 (k := 2) rfl (prv_d j) (by decide) [1, 2, 0] rfl ?_
          refine j_goto B d_WF_macrosOfLineAreThere_49 rfl ?_
          exact ih10 _ (by omega) j (nd ||| (hmF (MS j) (MN j) (MN j))) rfl (by omega) hI
        · -- 29 on
          rw [if_pos h29] at hI
          refine j_iconst (v := 0) B d_WF_macrosOfLineAreThere_32 (by decide) ?_
          exact j_zret B K (by decide) (by rw [← hI]; rfl) rfl d_WF_macrosOfLineAreThere_33
  exact lp10 _ 4 (hmF S N N) rfl (by omega) rfl
set_option maxRecDepth 100000 in
set_option maxHeartbeats 4000000 in
theorem c_WF_macro_t {l : Launch} {b : Nat} {D : va_G} {ta : Nat → ClassId} {F0 : Nat → Int32} {F1 : Nat → Int32} {F2 : Nat → Int32} {A0 : Nat → Int32} {A1 : Nat → Int32} {A2 : Nat → Int32} {ec : Int32} {er : Int32} {ed : Nat} {eu : Bool} {eo : Nat} {P0 : Nat → Int32} {P1 : Nat → Int32} {P2 : Nat → Int32} {S : Nat → Int32} {N : Nat} {th : Nat → Int32} {MS : Nat → Nat → Int32} {MN : Nat → Nat} {so : Nat → Int32 × Int32 × Int64 × Nat × Nat} {qo : Nat → Int32 × Int32 × Int32 × Int32 × Int64} {sN : Nat} {qN : Nat} {kN : Nat} {tN : Nat} {M0 : Nat → Nat → Int32} {M1 : Nat → Nat → Int32} {M2 : Nat → Nat → Int32} {mp : Nat → Nat → Int32} {X : List va_E} {j : Nat} (hj : j < 4) (hS : Fc S) (hN : N ≤ 60) (zS : Z60 S) (zMS : ∀ j, j < 4 → Z60 (MS j)) (hio : ioF S N j = true) : jC l b D ta False y_WF_macro b_WF_macro 2 none (rL 29) [.ref (b + 0), .int (nI j)] (hC b ta F0 F1 F2 A0 A1 A2 ec er ed eu eo P0 P1 P2 S N th MS MN so qo sN qN kN tN M0 M1 M2 mp X) none (hC b ta F0 F1 F2 A0 A1 A2 ec er ed eu eo P0 P1 P2 S 0 (upd th j (vp_nar .boolean 1)) (vf_upd MS j S) (vf_upd MN j N) so qo sN qN kN tN M0 M1 M2 mp X) := by
  refine jC_of (own := "WireField") (by decide +kernel) (Nat.le_of_ble_eq_true rfl) rfl (fun Γ B K => ?_)
  change jW l b D Γ False 0 0 2 (hC b ta F0 F1 F2 A0 A1 A2 ec er ed eu eo P0 P1 P2 S N th MS MN so qo sN qN kN tN M0 M1 M2 mp X) [(0, .ref (b + 0)), (1, .int (nI j))] 0 []
  refine j_iload_n B d_WF_macro_0 rfl 1 rfl ?_
  refine j_if_lt B d_WF_macro_1 rfl (fun h1 => absurd h1 (nI_pos (by omega))) (fun h1 => ?_)
  refine j_iload_n B d_WF_macro_4 rfl 1 rfl ?_
  refine j_iconst (v := 4) B d_WF_macro_5 (by decide) ?_
  refine j_icmp_lt B d_WF_macro_6 rfl (fun h6 => ?_) (fun h6 => absurd (nI_lt (b := 4) hj (by decide)) h6)
  refine j_aload_n B d_WF_macro_19 rfl 0 rfl ?_
  refine gf_WF_29 B rfl rfl d_WF_macro_20 ?_
  refine j_iload_n B d_WF_macro_23 rfl 1 rfl ?_
  refine k_callV (as := [.int (nI j)]) (rest := []) (st1 := [.int (bI (ioF S N j))]) B (c_Tx_isOrders rfl rfl hS hN j) yf_Tx_isOrders w_439 w_440 w_441 rfl rfl rfl (by decide) (by decide) rfl rfl (Nat.le_of_ble_eq_true rfl) d_WF_macro_24 ?_
  refine j_if_ne B d_WF_macro_27 rfl (fun h27 => ?_) (fun h27 => absurd (bI_f h27) (by rw [hio]; decide))
  refine j_aload_n B d_WF_macro_40 rfl 0 rfl ?_
  refine gf_WF_33 B rfl rfl d_WF_macro_41 ?_
  refine j_iload_n B d_WF_macro_44 rfl 1 rfl ?_
  refine j_aaldN (z := b + (21 + 2 * j)) B rfl rfl (by omega) (if_pos (by omega)) d_WF_macro_45 ?_
  refine j_aload_n B d_WF_macro_46 rfl 0 rfl ?_
  refine gf_WF_29 B rfl rfl d_WF_macro_47 ?_
  refine k_callV (as := [.ref (b + 14)]) (rest := []) (st1 := []) B (c_Tx_takeFrom (hC_mx hj) (hC_ms hj) rfl rfl (by omega) (by omega) (by omega) (by omega) (by omega) hS zS (zMS j hj)) yf_Tx_takeFrom w_679 w_680 w_681 rfl (hC_mx hj) rfl (by decide) (by decide) rfl rfl (Nat.le_of_ble_eq_true rfl) d_WF_macro_50 ?_
  refine jW.heap (σ2 := hC b ta F0 F1 F2 A0 A1 A2 ec er ed eu eo P0 P1 P2 S N th (vf_upd MS j S) (vf_upd MN j N) so qo sN qN kN tN M0 M1 M2 mp X) (hC_mac_set hj S N) ?_
  refine j_aload_n B d_WF_macro_53 rfl 0 rfl ?_
  refine gf_WF_37 B rfl rfl d_WF_macro_54 ?_
  refine j_iload_n B d_WF_macro_57 rfl 1 rfl ?_
  refine j_iconst (v := 1) B d_WF_macro_58 (by decide) ?_
  refine j_zastN B not_false rfl rfl (by omega) d_WF_macro_59 ?_
  refine jW.heap (σ2 := hC b ta F0 F1 F2 A0 A1 A2 ec er ed eu eo P0 P1 P2 S N (upd th j (vp_nar .boolean 1)) (vf_upd MS j S) (vf_upd MN j N) so qo sN qN kN tN M0 M1 M2 mp X) rfl ?_
  refine j_aload_n B d_WF_macro_60 rfl 0 rfl ?_
  refine gf_WF_29 B rfl rfl d_WF_macro_61 ?_
  refine k_callV (as := []) (rest := []) (st1 := []) B (c_Tx_clear rfl) yf_Tx_clear w_218 w_219 w_220 rfl rfl rfl (by decide) (by decide) rfl rfl (Nat.le_of_ble_eq_true rfl) d_WF_macro_64 ?_
  exact j_vret B K rfl d_WF_macro_67
set_option maxRecDepth 100000 in
set_option maxHeartbeats 4000000 in
theorem c_WF_run_t {l : Launch} {b : Nat} {D : va_G} {ta : Nat → ClassId} {F0 : Nat → Int32} {F1 : Nat → Int32} {F2 : Nat → Int32} {A0 : Nat → Int32} {A1 : Nat → Int32} {A2 : Nat → Int32} {ec : Int32} {er : Int32} {ed : Nat} {eu : Bool} {eo : Nat} {P0 : Nat → Int32} {P1 : Nat → Int32} {P2 : Nat → Int32} {S : Nat → Int32} {N : Nat} {th : Nat → Int32} {MS : Nat → Nat → Int32} {MN : Nat → Nat} {so : Nat → Int32 × Int32 × Int64 × Nat × Nat} {qo : Nat → Int32 × Int32 × Int32 × Int32 × Int64} {sN : Nat} {qN : Nat} {kN : Nat} {tN : Nat} {M0 : Nat → Nat → Int32} {M1 : Nat → Nat → Int32} {M2 : Nat → Nat → Int32} {mp : Nat → Nat → Int32} {X : List va_E} {n : Nat} (h1 : 1 ≤ n) (h60 : n ≤ 60) (htN : tN + 60 < 2 ^ 30) (hsN : sN ≤ 4) (hqN : qN ≤ 4) (hG : ∀ k, GI (genN sN qN ((F0, F1, F2), (A0, A1, A2), so, qo, kN, tN, (M0, M1, M2), mp) k)) : jC l b D ta False y_WF_run b_WF_run 3 (some .int) (rL 4) [.ref (b + 0), .int (nI n)] (hC b ta F0 F1 F2 A0 A1 A2 ec er ed eu eo P0 P1 P2 S N th MS MN so qo sN qN kN tN M0 M1 M2 mp X) (some (.int (cntF (selF (genN sN qN ((F0, F1, F2), (A0, A1, A2), so, qo, kN, tN, (M0, M1, M2), mp) n).1.1 (genN sN qN ((F0, F1, F2), (A0, A1, A2), so, qo, kN, tN, (M0, M1, M2), mp) n).1.2.1 (genN sN qN ((F0, F1, F2), (A0, A1, A2), so, qo, kN, tN, (M0, M1, M2), mp) n).1.2.2 1) 24))) (hC b ta ((genN sN qN ((F0, F1, F2), (A0, A1, A2), so, qo, kN, tN, (M0, M1, M2), mp) n).1.1) ((genN sN qN ((F0, F1, F2), (A0, A1, A2), so, qo, kN, tN, (M0, M1, M2), mp) n).1.2.1) ((genN sN qN ((F0, F1, F2), (A0, A1, A2), so, qo, kN, tN, (M0, M1, M2), mp) n).1.2.2) ((genN sN qN ((F0, F1, F2), (A0, A1, A2), so, qo, kN, tN, (M0, M1, M2), mp) n).2.1.1) ((genN sN qN ((F0, F1, F2), (A0, A1, A2), so, qo, kN, tN, (M0, M1, M2), mp) n).2.1.2.1) ((genN sN qN ((F0, F1, F2), (A0, A1, A2), so, qo, kN, tN, (M0, M1, M2), mp) n).2.1.2.2) ec er ed eu eo P0 P1 P2 S N th MS MN ((genN sN qN ((F0, F1, F2), (A0, A1, A2), so, qo, kN, tN, (M0, M1, M2), mp) n).2.2.1) ((genN sN qN ((F0, F1, F2), (A0, A1, A2), so, qo, kN, tN, (M0, M1, M2), mp) n).2.2.2.1) sN qN ((genN sN qN ((F0, F1, F2), (A0, A1, A2), so, qo, kN, tN, (M0, M1, M2), mp) n).2.2.2.2.1) ((genN sN qN ((F0, F1, F2), (A0, A1, A2), so, qo, kN, tN, (M0, M1, M2), mp) n).2.2.2.2.2.1) ((genN sN qN ((F0, F1, F2), (A0, A1, A2), so, qo, kN, tN, (M0, M1, M2), mp) n).2.2.2.2.2.2.1.1) ((genN sN qN ((F0, F1, F2), (A0, A1, A2), so, qo, kN, tN, (M0, M1, M2), mp) n).2.2.2.2.2.2.1.2.1) ((genN sN qN ((F0, F1, F2), (A0, A1, A2), so, qo, kN, tN, (M0, M1, M2), mp) n).2.2.2.2.2.2.1.2.2) ((genN sN qN ((F0, F1, F2), (A0, A1, A2), so, qo, kN, tN, (M0, M1, M2), mp) n).2.2.2.2.2.2.2) X) := by
  refine jC_of (own := "WireField") (by decide +kernel) (Nat.le_of_ble_eq_true rfl) rfl (fun Γ B K => ?_)
  change jW l b D Γ False 0 0 3 (hC b ta F0 F1 F2 A0 A1 A2 ec er ed eu eo P0 P1 P2 S N th MS MN so qo sN qN kN tN M0 M1 M2 mp X) [(0, .ref (b + 0)), (1, .int (nI n))] 0 []
  refine j_iload_n B d_WF_run_0 rfl 1 rfl ?_
  refine j_iconst (v := 1) B d_WF_run_1 (by decide) ?_
  refine j_icmp_lt B d_WF_run_2 rfl (fun h2 => absurd h2 (nI_nlt (a := n) (b := 1) h1 (by omega))) (fun h2 => ?_)
  refine j_iload_n B d_WF_run_5 rfl 1 rfl ?_
  refine j_bipush (v := 60) B d_WF_run_6 (by decide) ?_
  refine j_icmp_le B d_WF_run_8 rfl (fun h8 => ?_) (fun h8 => absurd (nI_le (a := n) (b := 60) h60 (by decide)) h8)
  refine j_iconst (v := 0) B d_WF_run_13 (by decide) ?_
  refine j_istore_n (L' := [(0, .ref (b + 0)), (1, .int (nI n)), (2, .int 0)]) B d_WF_run_14 rfl (by decide) [1, 2, 0] rfl ?_
  have lp15 : ∀ (n15 : Nat) (k : Nat), n - k = n15 → (k ≤ n) → jW l b D Γ False 0 0 3 (hC b ta ((genN sN qN ((F0, F1, F2), (A0, A1, A2), so, qo, kN, tN, (M0, M1, M2), mp) k).1.1) ((genN sN qN ((F0, F1, F2), (A0, A1, A2), so, qo, kN, tN, (M0, M1, M2), mp) k).1.2.1) ((genN sN qN ((F0, F1, F2), (A0, A1, A2), so, qo, kN, tN, (M0, M1, M2), mp) k).1.2.2) ((genN sN qN ((F0, F1, F2), (A0, A1, A2), so, qo, kN, tN, (M0, M1, M2), mp) k).2.1.1) ((genN sN qN ((F0, F1, F2), (A0, A1, A2), so, qo, kN, tN, (M0, M1, M2), mp) k).2.1.2.1) ((genN sN qN ((F0, F1, F2), (A0, A1, A2), so, qo, kN, tN, (M0, M1, M2), mp) k).2.1.2.2) ec er ed eu eo P0 P1 P2 S N th MS MN ((genN sN qN ((F0, F1, F2), (A0, A1, A2), so, qo, kN, tN, (M0, M1, M2), mp) k).2.2.1) ((genN sN qN ((F0, F1, F2), (A0, A1, A2), so, qo, kN, tN, (M0, M1, M2), mp) k).2.2.2.1) sN qN ((genN sN qN ((F0, F1, F2), (A0, A1, A2), so, qo, kN, tN, (M0, M1, M2), mp) k).2.2.2.2.1) ((genN sN qN ((F0, F1, F2), (A0, A1, A2), so, qo, kN, tN, (M0, M1, M2), mp) k).2.2.2.2.2.1) ((genN sN qN ((F0, F1, F2), (A0, A1, A2), so, qo, kN, tN, (M0, M1, M2), mp) k).2.2.2.2.2.2.1.1) ((genN sN qN ((F0, F1, F2), (A0, A1, A2), so, qo, kN, tN, (M0, M1, M2), mp) k).2.2.2.2.2.2.1.2.1) ((genN sN qN ((F0, F1, F2), (A0, A1, A2), so, qo, kN, tN, (M0, M1, M2), mp) k).2.2.2.2.2.2.1.2.2) ((genN sN qN ((F0, F1, F2), (A0, A1, A2), so, qo, kN, tN, (M0, M1, M2), mp) k).2.2.2.2.2.2.2) X) [(0, .ref (b + 0)), (1, .int (nI n)), (2, .int (nI k))] 15 [] := by
    refine jloop (fun n15 ih15 => ?_)
    intro k hn15 hk
    refine j_iload_n B d_WF_run_15 rfl 2 rfl ?_
    refine j_iload_n B d_WF_run_16 rfl 1 rfl ?_
    refine j_icmp_ge B d_WF_run_17 rfl (fun h17 => ?_) (fun h17 => ?_)
    · -- 17 jump
      have hkE := (lp_ge (by omega) hk h17).symm
      subst hkE
      refine j_aload_n B d_WF_run_30 rfl 0 rfl ?_
      refine gf_WF_12 B rfl rfl d_WF_run_31 ?_
      refine j_iconst (v := 1) B d_WF_run_34 (by decide) ?_
      refine k_callV (as := [.int 1]) (rest := []) (st1 := [.int (cntF (selF ((genN sN qN ((F0, F1, F2), (A0, A1, A2), so, qo, kN, tN, (M0, M1, M2), mp) n).1.1) ((genN sN qN ((F0, F1, F2), (A0, A1, A2), so, qo, kN, tN, (M0, M1, M2), mp) n).1.2.1) ((genN sN qN ((F0, F1, F2), (A0, A1, A2), so, qo, kN, tN, (M0, M1, M2), mp) n).1.2.2) 1) 24)]) B (c_G_count rfl rfl rfl rfl 1) yf_G_count w_331 w_332 w_333 rfl rfl rfl (by decide) (by decide) rfl rfl (Nat.le_of_ble_eq_true rfl) d_WF_run_35 ?_
      exact j_iret B K rfl rfl d_WF_run_38
    · -- 17 on
      have hk3 := lp_lt (by omega) hk h17
      refine j_aload_n B d_WF_run_20 rfl 0 rfl ?_
      refine k_callV (as := []) (rest := []) (st1 := []) B (c_WF_makeGeneration (by rw [genN_t sN qN ((F0, F1, F2), (A0, A1, A2), so, qo, kN, tN, (M0, M1, M2), mp) k]; show tN + k < 2 ^ 30; omega) (hG k).1 hsN hqN (hG k).2.1 ((hG k).2.2.2.2 _).1 ((hG k).2.2.2.2 _).2.1 ((hG k).2.2.2.2 _).2.2 (hG k).2.2.1.1 (hG k).2.2.1.2.1 (hG k).2.2.1.2.2 (hG k).2.2.2.1.1 (hG k).2.2.2.1.2.1 (hG k).2.2.2.1.2.2) yf_WF_makeGeneration w_290 w_292 w_s2 rfl rfl rfl (by decide) (by decide) rfl rfl (Nat.le_of_ble_eq_true rfl) d_WF_run_21 ?_
      refine j_iinc (L' := [(0, .ref (b + 0)), (1, .int (nI n)), (2, .int (nI (k + 1)))]) (v := nI (k + 1)) B d_WF_run_24 (k := 2) rfl (nI_succ k).symm (by decide) [1, 2, 0] rfl ?_
      refine j_goto B d_WF_run_27 rfl ?_
      exact ih15 _ (by omega) (k + 1) rfl (by omega)
  exact lp15 _ 0 rfl (by omega)
set_option maxRecDepth 100000 in
set_option maxHeartbeats 4000000 in
theorem c_WF_run_f {l : Launch} {b : Nat} {D : va_G} {ta : Nat → ClassId} {F0 : Nat → Int32} {F1 : Nat → Int32} {F2 : Nat → Int32} {A0 : Nat → Int32} {A1 : Nat → Int32} {A2 : Nat → Int32} {ec : Int32} {er : Int32} {ed : Nat} {eu : Bool} {eo : Nat} {P0 : Nat → Int32} {P1 : Nat → Int32} {P2 : Nat → Int32} {S : Nat → Int32} {N : Nat} {th : Nat → Int32} {MS : Nat → Nat → Int32} {MN : Nat → Nat} {so : Nat → Int32 × Int32 × Int64 × Nat × Nat} {qo : Nat → Int32 × Int32 × Int32 × Int32 × Int64} {sN : Nat} {qN : Nat} {kN : Nat} {tN : Nat} {M0 : Nat → Nat → Int32} {M1 : Nat → Nat → Int32} {M2 : Nat → Nat → Int32} {mp : Nat → Nat → Int32} {X : List va_E} {n : Int32} (hf : n < 1 ∨ 60 < n) : jC l b D ta False y_WF_run b_WF_run 3 (some .int) (rL 4) [.ref (b + 0), .int n] (hC b ta F0 F1 F2 A0 A1 A2 ec er ed eu eo P0 P1 P2 S N th MS MN so qo sN qN kN tN M0 M1 M2 mp X) (some (.int (-1))) (hC b ta F0 F1 F2 A0 A1 A2 ec er ed eu eo P0 P1 P2 S N th MS MN so qo sN qN kN tN M0 M1 M2 mp X) := by
  refine jC_of (own := "WireField") (by decide +kernel) (Nat.le_of_ble_eq_true rfl) rfl (fun Γ B K => ?_)
  change jW l b D Γ False 0 0 3 (hC b ta F0 F1 F2 A0 A1 A2 ec er ed eu eo P0 P1 P2 S N th MS MN so qo sN qN kN tN M0 M1 M2 mp X) [(0, .ref (b + 0)), (1, .int n)] 0 []
  refine j_iload_n B d_WF_run_0 rfl 1 rfl ?_
  refine j_iconst (v := 1) B d_WF_run_1 (by decide) ?_
  refine j_icmp_lt B d_WF_run_2 rfl (fun h2 => ?_) (fun h2 => ?_)
  · -- 2 jump
    refine j_iconst (v := (-1)) B d_WF_run_11 (by decide) ?_
    exact j_iret B K rfl rfl d_WF_run_12
  · -- 2 on
    refine j_iload_n B d_WF_run_5 rfl 1 rfl ?_
    refine j_bipush (v := 60) B d_WF_run_6 (by decide) ?_
    refine j_icmp_le B d_WF_run_8 rfl (fun h8 => ?_) (fun h8 => ?_)
    · -- 8 jump
      exact absurd hf (fun q => q.elim h2 (fun q => Int32.not_lt.mpr h8 q))
    · -- 8 on
      refine j_iconst (v := (-1)) B d_WF_run_11 (by decide) ?_
      exact j_iret B K rfl rfl d_WF_run_12
