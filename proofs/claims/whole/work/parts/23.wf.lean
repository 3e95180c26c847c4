set_option maxRecDepth 100000 in
set_option maxHeartbeats 4000000 in
theorem c_WF_type_t {l : Launch} {b : Nat} {D : va_G} {ta : Nat → ClassId} {F0 : Nat → Int32} {F1 : Nat → Int32} {F2 : Nat → Int32} {A0 : Nat → Int32} {A1 : Nat → Int32} {A2 : Nat → Int32} {ec : Int32} {er : Int32} {ed : Nat} {eu : Bool} {eo : Nat} {P0 : Nat → Int32} {P1 : Nat → Int32} {P2 : Nat → Int32} {S : Nat → Int32} {N : Nat} {th : Nat → Int32} {MS : Nat → Nat → Int32} {MN : Nat → Nat} {so : Nat → Int32 × Int32 × Int64 × Nat × Nat} {qo : Nat → Int32 × Int32 × Int32 × Int32 × Int64} {sN : Nat} {qN : Nat} {kN : Nat} {tN : Nat} {M0 : Nat → Nat → Int32} {M1 : Nat → Nat → Int32} {M2 : Nat → Nat → Int32} {mp : Nat → Nat → Int32} {X : List va_E} {C : Nat} (h33 : 33 ≤ C) (h126 : C ≤ 126) (hN : N < 60) : jC l b D ta False y_WF_type b_WF_type 2 (some .boolean) (rL 1) [.ref (b + 0), .int (nI C)] (hC b ta F0 F1 F2 A0 A1 A2 ec er ed eu eo P0 P1 P2 S N th MS MN so qo sN qN kN tN M0 M1 M2 mp X) (some (.int 1)) (hC b ta F0 F1 F2 A0 A1 A2 ec er ed eu eo P0 P1 P2 (upd S N (nI C)) (N + 1) th MS MN so qo sN qN kN tN M0 M1 M2 mp X) := by
  refine jC_of (own := "WireField") (by decide +kernel) (Nat.le_of_ble_eq_true rfl) rfl (fun Γ B K => ?_)
  change jW l b D Γ False 0 0 2 (hC b ta F0 F1 F2 A0 A1 A2 ec er ed eu eo P0 P1 P2 S N th MS MN so qo sN qN kN tN M0 M1 M2 mp X) [(0, .ref (b + 0)), (1, .int (nI C))] 0 []
  refine j_aload_n B d_WF_type_0 rfl 0 rfl ?_
  refine gf_WF_29 B rfl rfl d_WF_type_1 ?_
  refine j_iload_n B d_WF_type_4 rfl 1 rfl ?_
  refine k_callV (as := [.int (nI C)]) (rest := []) (st1 := [.int 1]) B (c_Tx_add_t rfl rfl (by decide) h33 h126 hN) yf_Tx_add w_210 w_211 w_212 rfl rfl rfl (by decide) (by decide) rfl rfl (Nat.le_of_ble_eq_true rfl) d_WF_type_5 ?_
  exact j_zret B K (by decide) rfl rfl d_WF_type_8
set_option maxRecDepth 100000 in
set_option maxHeartbeats 4000000 in
theorem c_WF_type_f {l : Launch} {b : Nat} {D : va_G} {ta : Nat → ClassId} {F0 : Nat → Int32} {F1 : Nat → Int32} {F2 : Nat → Int32} {A0 : Nat → Int32} {A1 : Nat → Int32} {A2 : Nat → Int32} {ec : Int32} {er : Int32} {ed : Nat} {eu : Bool} {eo : Nat} {P0 : Nat → Int32} {P1 : Nat → Int32} {P2 : Nat → Int32} {S : Nat → Int32} {N : Nat} {th : Nat → Int32} {MS : Nat → Nat → Int32} {MN : Nat → Nat} {so : Nat → Int32 × Int32 × Int64 × Nat × Nat} {qo : Nat → Int32 × Int32 × Int32 × Int32 × Int64} {sN : Nat} {qN : Nat} {kN : Nat} {tN : Nat} {M0 : Nat → Nat → Int32} {M1 : Nat → Nat → Int32} {M2 : Nat → Nat → Int32} {mp : Nat → Nat → Int32} {X : List va_E} {cc : Int32} (hc : cc < 33 ∨ 126 < cc ∨ N = 60) : jC l b D ta False y_WF_type b_WF_type 2 (some .boolean) (rL 1) [.ref (b + 0), .int cc] (hC b ta F0 F1 F2 A0 A1 A2 ec er ed eu eo P0 P1 P2 S N th MS MN so qo sN qN kN tN M0 M1 M2 mp X) (some (.int 0)) (hC b ta F0 F1 F2 A0 A1 A2 ec er ed eu eo P0 P1 P2 S N th MS MN so qo sN qN kN tN M0 M1 M2 mp X) := by
  refine jC_of (own := "WireField") (by decide +kernel) (Nat.le_of_ble_eq_true rfl) rfl (fun Γ B K => ?_)
  change jW l b D Γ False 0 0 2 (hC b ta F0 F1 F2 A0 A1 A2 ec er ed eu eo P0 P1 P2 S N th MS MN so qo sN qN kN tN M0 M1 M2 mp X) [(0, .ref (b + 0)), (1, .int cc)] 0 []
  refine j_aload_n B d_WF_type_0 rfl 0 rfl ?_
  refine gf_WF_29 B rfl rfl d_WF_type_1 ?_
  refine j_iload_n B d_WF_type_4 rfl 1 rfl ?_
  refine k_callV (as := [.int cc]) (rest := []) (st1 := [.int 0]) B (c_Tx_add_f rfl rfl hc) yf_Tx_add w_210 w_211 w_212 rfl rfl rfl (by decide) (by decide) rfl rfl (Nat.le_of_ble_eq_true rfl) d_WF_type_5 ?_
  exact j_zret B K (by decide) rfl rfl d_WF_type_8
set_option maxRecDepth 100000 in
set_option maxHeartbeats 4000000 in
theorem c_WF_wipe {l : Launch} {b : Nat} {D : va_G} {ta : Nat → ClassId} {F0 : Nat → Int32} {F1 : Nat → Int32} {F2 : Nat → Int32} {A0 : Nat → Int32} {A1 : Nat → Int32} {A2 : Nat → Int32} {ec : Int32} {er : Int32} {ed : Nat} {eu : Bool} {eo : Nat} {P0 : Nat → Int32} {P1 : Nat → Int32} {P2 : Nat → Int32} {S : Nat → Int32} {N : Nat} {th : Nat → Int32} {MS : Nat → Nat → Int32} {MN : Nat → Nat} {so : Nat → Int32 × Int32 × Int64 × Nat × Nat} {qo : Nat → Int32 × Int32 × Int32 × Int32 × Int64} {sN : Nat} {qN : Nat} {kN : Nat} {tN : Nat} {M0 : Nat → Nat → Int32} {M1 : Nat → Nat → Int32} {M2 : Nat → Nat → Int32} {mp : Nat → Nat → Int32} {X : List va_E} : jC l b D ta False y_WF_wipe b_WF_wipe 1 none (rL 1) [.ref (b + 0)] (hC b ta F0 F1 F2 A0 A1 A2 ec er ed eu eo P0 P1 P2 S N th MS MN so qo sN qN kN tN M0 M1 M2 mp X) none (hC b ta F0 F1 F2 A0 A1 A2 ec er ed eu eo P0 P1 P2 S 0 th MS MN so qo sN qN kN tN M0 M1 M2 mp X) := by
  refine jC_of (own := "WireField") (by decide +kernel) (Nat.le_of_ble_eq_true rfl) rfl (fun Γ B K => ?_)
  change jW l b D Γ False 0 0 1 (hC b ta F0 F1 F2 A0 A1 A2 ec er ed eu eo P0 P1 P2 S N th MS MN so qo sN qN kN tN M0 M1 M2 mp X) [(0, .ref (b + 0))] 0 []
  refine j_aload_n B d_WF_wipe_0 rfl 0 rfl ?_
  refine gf_WF_29 B rfl rfl d_WF_wipe_1 ?_
  refine k_callV (as := []) (rest := []) (st1 := []) B (c_Tx_clear rfl) yf_Tx_clear w_218 w_219 w_220 rfl rfl rfl (by decide) (by decide) rfl rfl (Nat.le_of_ble_eq_true rfl) d_WF_wipe_4 ?_
  exact j_vret B K rfl d_WF_wipe_7
set_option maxRecDepth 100000 in
set_option maxHeartbeats 4000000 in
theorem c_WF_forgetHistory {l : Launch} {b : Nat} {D : va_G} {ta : Nat → ClassId} {F0 : Nat → Int32} {F1 : Nat → Int32} {F2 : Nat → Int32} {A0 : Nat → Int32} {A1 : Nat → Int32} {A2 : Nat → Int32} {ec : Int32} {er : Int32} {ed : Nat} {eu : Bool} {eo : Nat} {P0 : Nat → Int32} {P1 : Nat → Int32} {P2 : Nat → Int32} {S : Nat → Int32} {N : Nat} {th : Nat → Int32} {MS : Nat → Nat → Int32} {MN : Nat → Nat} {so : Nat → Int32 × Int32 × Int64 × Nat × Nat} {qo : Nat → Int32 × Int32 × Int32 × Int32 × Int64} {sN : Nat} {qN : Nat} {kN : Nat} {tN : Nat} {M0 : Nat → Nat → Int32} {M1 : Nat → Nat → Int32} {M2 : Nat → Nat → Int32} {mp : Nat → Nat → Int32} {X : List va_E} : jC l b D ta False y_WF_forgetHistory b_WF_forgetHistory 1 none (rL 0) [.ref (b + 0)] (hC b ta F0 F1 F2 A0 A1 A2 ec er ed eu eo P0 P1 P2 S N th MS MN so qo sN qN kN tN M0 M1 M2 mp X) none (hC b ta F0 F1 F2 A0 A1 A2 ec er ed eu eo P0 P1 P2 S N th MS MN so qo sN qN 0 tN M0 M1 M2 mp X) := by
  refine jC_of (own := "WireField") (by decide +kernel) (Nat.le_of_ble_eq_true rfl) rfl (fun Γ B K => ?_)
  change jW l b D Γ False 0 0 1 (hC b ta F0 F1 F2 A0 A1 A2 ec er ed eu eo P0 P1 P2 S N th MS MN so qo sN qN kN tN M0 M1 M2 mp X) [(0, .ref (b + 0))] 0 []
  refine j_aload_n B d_WF_forgetHistory_0 rfl 0 rfl ?_
  refine j_iconst (v := 0) B d_WF_forgetHistory_1 (by decide) ?_
  refine pf_WF_66 B not_false rfl rfl rfl (Nat.le_of_ble_eq_true rfl) d_WF_forgetHistory_2 ?_
  refine jW.heap (σ2 := hC b ta F0 F1 F2 A0 A1 A2 ec er ed eu eo P0 P1 P2 S N th MS MN so qo sN qN 0 tN M0 M1 M2 mp X) rfl ?_
  exact j_vret B K rfl d_WF_forgetHistory_5
set_option maxRecDepth 100000 in
set_option maxHeartbeats 4000000 in
theorem c_WF_cell {l : Launch} {b : Nat} {D : va_G} {ta : Nat → ClassId} {F0 : Nat → Int32} {F1 : Nat → Int32} {F2 : Nat → Int32} {A0 : Nat → Int32} {A1 : Nat → Int32} {A2 : Nat → Int32} {ec : Int32} {er : Int32} {ed : Nat} {eu : Bool} {eo : Nat} {P0 : Nat → Int32} {P1 : Nat → Int32} {P2 : Nat → Int32} {S : Nat → Int32} {N : Nat} {th : Nat → Int32} {MS : Nat → Nat → Int32} {MN : Nat → Nat} {so : Nat → Int32 × Int32 × Int64 × Nat × Nat} {qo : Nat → Int32 × Int32 × Int32 × Int32 × Int64} {sN : Nat} {qN : Nat} {kN : Nat} {tN : Nat} {M0 : Nat → Nat → Int32} {M1 : Nat → Nat → Int32} {M2 : Nat → Nat → Int32} {mp : Nat → Nat → Int32} {X : List va_E} (x y : Int32) : jC l b D ta False y_WF_cell b_WF_cell 3 (some .int) (rL 2) [.ref (b + 0), .int x, .int y] (hC b ta F0 F1 F2 A0 A1 A2 ec er ed eu eo P0 P1 P2 S N th MS MN so qo sN qN kN tN M0 M1 M2 mp X) (some (.int (fVal F0 F1 F2 x y))) (hC b ta F0 F1 F2 A0 A1 A2 ec er ed eu eo P0 P1 P2 S N th MS MN so qo sN qN kN tN M0 M1 M2 mp X) := by
  refine jC_of (own := "WireField") (by decide +kernel) (Nat.le_of_ble_eq_true rfl) rfl (fun Γ B K => ?_)
  change jW l b D Γ False 0 0 3 (hC b ta F0 F1 F2 A0 A1 A2 ec er ed eu eo P0 P1 P2 S N th MS MN so qo sN qN kN tN M0 M1 M2 mp X) [(0, .ref (b + 0)), (1, .int x), (2, .int y)] 0 []
  refine j_aload_n B d_WF_cell_0 rfl 0 rfl ?_
  refine gf_WF_12 B rfl rfl d_WF_cell_1 ?_
  refine j_iload_n B d_WF_cell_4 rfl 1 rfl ?_
  refine j_iload_n B d_WF_cell_5 rfl 2 rfl ?_
  refine k_callV (as := [.int x, .int y]) (rest := []) (st1 := [.int (fVal F0 F1 F2 x y)]) B (c_G_valueAt rfl rfl rfl rfl x y) yf_G_valueAt w_242 w_243 w_244 rfl rfl rfl (by decide) (by decide) rfl rfl (Nat.le_of_ble_eq_true rfl) d_WF_cell_6 ?_
  exact j_iret B K rfl rfl d_WF_cell_9
set_option maxRecDepth 100000 in
set_option maxHeartbeats 4000000 in
theorem c_WF_set_t {l : Launch} {b : Nat} {D : va_G} {ta : Nat → ClassId} {F0 : Nat → Int32} {F1 : Nat → Int32} {F2 : Nat → Int32} {A0 : Nat → Int32} {A1 : Nat → Int32} {A2 : Nat → Int32} {ec : Int32} {er : Int32} {ed : Nat} {eu : Bool} {eo : Nat} {P0 : Nat → Int32} {P1 : Nat → Int32} {P2 : Nat → Int32} {S : Nat → Int32} {N : Nat} {th : Nat → Int32} {MS : Nat → Nat → Int32} {MN : Nat → Nat} {so : Nat → Int32 × Int32 × Int64 × Nat × Nat} {qo : Nat → Int32 × Int32 × Int32 × Int32 × Int64} {sN : Nat} {qN : Nat} {kN : Nat} {tN : Nat} {M0 : Nat → Nat → Int32} {M1 : Nat → Nat → Int32} {M2 : Nat → Nat → Int32} {mp : Nat → Nat → Int32} {X : List va_E} {x y v : Int32} (hin : inF x y = true) (h0 : ¬ v < 0) (h3 : v ≤ 3) : jC l b D ta False y_WF_set b_WF_set 4 (some .boolean) (rL 2) [.ref (b + 0), .int x, .int y, .int v] (hC b ta F0 F1 F2 A0 A1 A2 ec er ed eu eo P0 P1 P2 S N th MS MN so qo sN qN kN tN M0 M1 M2 mp X) (some (.int 1)) (hC b ta (pB F0 x y v 1) (pB F1 x y v 2) (pB F2 x y v 3) A0 A1 A2 ec er ed eu eo P0 P1 P2 S N th MS MN so qo sN qN 0 tN M0 M1 M2 mp X) := by
  refine jC_of (own := "WireField") (by decide +kernel) (Nat.le_of_ble_eq_true rfl) rfl (fun Γ B K => ?_)
  change jW l b D Γ False 0 0 4 (hC b ta F0 F1 F2 A0 A1 A2 ec er ed eu eo P0 P1 P2 S N th MS MN so qo sN qN kN tN M0 M1 M2 mp X) [(0, .ref (b + 0)), (1, .int x), (2, .int y), (3, .int v)] 0 []
  refine j_iload_n B d_WF_set_0 rfl 1 rfl ?_
  refine j_iload_n B d_WF_set_1 rfl 2 rfl ?_
  refine k_callS (as := [.int x, .int y]) (rest := []) (st1 := [.int (bI (inF x y))]) B (c_WF_isWithin x y) yf_WF_isWithin w_226 w_227 rfl (by decide) (by decide) rfl rfl (Nat.le_of_ble_eq_true rfl) d_WF_set_2 ?_
  refine j_if_eq B d_WF_set_5 rfl (fun h5 => absurd (bI_f h5) (by rw [hin]; decide)) (fun h5 => ?_)
  refine j_iload_n B d_WF_set_8 rfl 3 rfl ?_
  refine j_if_lt B d_WF_set_9 rfl (fun h9 => absurd h9 h0) (fun h9 => ?_)
  refine j_iload_n B d_WF_set_12 rfl 3 rfl ?_
  refine j_iconst (v := 3) B d_WF_set_13 (by decide) ?_
  refine j_icmp_le B d_WF_set_14 rfl (fun h14 => ?_) (fun h14 => absurd h3 h14)
  refine j_aload_n B d_WF_set_19 rfl 0 rfl ?_
  refine gf_WF_12 B rfl rfl d_WF_set_20 ?_
  refine j_iload_n B d_WF_set_23 rfl 1 rfl ?_
  refine j_iload_n B d_WF_set_24 rfl 2 rfl ?_
  refine j_iload_n B d_WF_set_25 rfl 3 rfl ?_
  refine k_callV (as := [.int x, .int y, .int v]) (rest := []) (st1 := []) B (c_G_put rfl rfl rfl rfl (by decide) (by decide) (by decide) (by decide) (by decide) (by decide) x y v) yf_G_put w_229 w_230 w_231 rfl rfl rfl (by decide) (by decide) rfl rfl (Nat.le_of_ble_eq_true rfl) d_WF_set_26 ?_
  refine jW.heap (σ2 := hC b ta (pB F0 x y v 1) (pB F1 x y v 2) (pB F2 x y v 3) A0 A1 A2 ec er ed eu eo P0 P1 P2 S N th MS MN so qo sN qN kN tN M0 M1 M2 mp X) rfl ?_
  refine j_aload_n B d_WF_set_29 rfl 0 rfl ?_
  refine k_callV (as := []) (rest := []) (st1 := []) B c_WF_forgetHistory yf_WF_forgetHistory w_234 w_236 w_s0 rfl rfl rfl (by decide) (by decide) rfl rfl (Nat.le_of_ble_eq_true rfl) d_WF_set_30 ?_
  refine j_iconst (v := 1) B d_WF_set_33 (by decide) ?_
  exact j_zret B K (by decide) rfl rfl d_WF_set_34
set_option maxRecDepth 100000 in
set_option maxHeartbeats 4000000 in
theorem c_WF_set_f {l : Launch} {b : Nat} {D : va_G} {ta : Nat → ClassId} {F0 : Nat → Int32} {F1 : Nat → Int32} {F2 : Nat → Int32} {A0 : Nat → Int32} {A1 : Nat → Int32} {A2 : Nat → Int32} {ec : Int32} {er : Int32} {ed : Nat} {eu : Bool} {eo : Nat} {P0 : Nat → Int32} {P1 : Nat → Int32} {P2 : Nat → Int32} {S : Nat → Int32} {N : Nat} {th : Nat → Int32} {MS : Nat → Nat → Int32} {MN : Nat → Nat} {so : Nat → Int32 × Int32 × Int64 × Nat × Nat} {qo : Nat → Int32 × Int32 × Int32 × Int32 × Int64} {sN : Nat} {qN : Nat} {kN : Nat} {tN : Nat} {M0 : Nat → Nat → Int32} {M1 : Nat → Nat → Int32} {M2 : Nat → Nat → Int32} {mp : Nat → Nat → Int32} {X : List va_E} {x y v : Int32} (hf : ¬ (inF x y = true ∧ ¬ v < 0 ∧ v ≤ 3)) : jC l b D ta False y_WF_set b_WF_set 4 (some .boolean) (rL 2) [.ref (b + 0), .int x, .int y, .int v] (hC b ta F0 F1 F2 A0 A1 A2 ec er ed eu eo P0 P1 P2 S N th MS MN so qo sN qN kN tN M0 M1 M2 mp X) (some (.int 0)) (hC b ta F0 F1 F2 A0 A1 A2 ec er ed eu eo P0 P1 P2 S N th MS MN so qo sN qN kN tN M0 M1 M2 mp X) := by
  refine jC_of (own := "WireField") (by decide +kernel) (Nat.le_of_ble_eq_true rfl) rfl (fun Γ B K => ?_)
  change jW l b D Γ False 0 0 4 (hC b ta F0 F1 F2 A0 A1 A2 ec er ed eu eo P0 P1 P2 S N th MS MN so qo sN qN kN tN M0 M1 M2 mp X) [(0, .ref (b + 0)), (1, .int x), (2, .int y), (3, .int v)] 0 []
  refine j_iload_n B d_WF_set_0 rfl 1 rfl ?_
  refine j_iload_n B d_WF_set_1 rfl 2 rfl ?_
  refine k_callS (as := [.int x, .int y]) (rest := []) (st1 := [.int (bI (inF x y))]) B (c_WF_isWithin x y) yf_WF_isWithin w_226 w_227 rfl (by decide) (by decide) rfl rfl (Nat.le_of_ble_eq_true rfl) d_WF_set_2 ?_
  refine j_if_eq B d_WF_set_5 rfl (fun h5 => ?_) (fun h5 => ?_)
  · -- 5 jump
    replace h5 := bI_f h5
    refine j_iconst (v := 0) B d_WF_set_17 (by decide) ?_
    exact j_zret B K (by decide) rfl rfl d_WF_set_18
  · -- 5 on
    replace h5 := bI_t h5
    refine j_iload_n B d_WF_set_8 rfl 3 rfl ?_
    refine j_if_lt B d_WF_set_9 rfl (fun h9 => ?_) (fun h9 => ?_)
    · -- 9 jump
      refine j_iconst (v := 0) B d_WF_set_17 (by decide) ?_
      exact j_zret B K (by decide) rfl rfl d_WF_set_18
    · -- 9 on
      refine j_iload_n B d_WF_set_12 rfl 3 rfl ?_
      refine j_iconst (v := 3) B d_WF_set_13 (by decide) ?_
      refine j_icmp_le B d_WF_set_14 rfl (fun h14 => ?_) (fun h14 => ?_)
      · -- 14 jump
        exact absurd ⟨h5, h9, h14⟩ hf
      · -- 14 on
        refine j_iconst (v := 0) B d_WF_set_17 (by decide) ?_
        exact j_zret B K (by decide) rfl rfl d_WF_set_18
set_option maxRecDepth 100000 in
set_option maxHeartbeats 4000000 in
theorem c_WF_isPiece {l : Launch} {b : Nat} {D : va_G} {ta : Nat → ClassId} {σ : List va_E} (x y ww hh : Int32) : jC l b D ta False y_WF_isPiece b_WF_isPiece 4 (some .boolean) (rL 1) [.int x, .int y, .int ww, .int hh] (σ) (some (.int (bI (isP x y ww hh)))) (σ) := by
  refine jC_of (own := "WireField") (by decide +kernel) (Nat.le_of_ble_eq_true rfl) rfl (fun Γ B K => ?_)
  change jW l b D Γ False 0 0 4 (σ) [(0, .int x), (1, .int y), (2, .int ww), (3, .int hh)] 0 []
  refine j_iload_n B d_WF_isPiece_0 rfl 0 rfl ?_
  refine j_iload_n B d_WF_isPiece_1 rfl 1 rfl ?_
  refine k_callS (as := [.int x, .int y]) (rest := []) (st1 := [.int (bI (inF x y))]) B (c_WF_isWithin x y) yf_WF_isWithin w_226 w_227 rfl (by decide) (by decide) rfl rfl (Nat.le_of_ble_eq_true rfl) d_WF_isPiece_2 ?_
  refine j_if_eq B d_WF_isPiece_5 rfl (fun h5 => ?_) (fun h5 => ?_)
  · -- 5 jump
    replace h5 := bI_f h5
    refine j_iconst (v := 0) B d_WF_isPiece_38 (by decide) ?_
    exact j_zret B K (by decide) (by simp [bI, isP, h5]) rfl d_WF_isPiece_39
  · -- 5 on
    replace h5 := bI_t h5
    refine j_iload_n B d_WF_isPiece_8 rfl 2 rfl ?_
    refine j_iconst (v := 1) B d_WF_isPiece_9 (by decide) ?_
    refine j_icmp_lt B d_WF_isPiece_10 rfl (fun h10 => ?_) (fun h10 => ?_)
    · -- 10 jump
      refine j_iconst (v := 0) B d_WF_isPiece_38 (by decide) ?_
      exact j_zret B K (by decide) (by simp [bI, isP, h5, h10]) rfl d_WF_isPiece_39
    · -- 10 on
      refine j_iload_n B d_WF_isPiece_13 rfl 2 rfl ?_
      refine j_bipush (v := 32) B d_WF_isPiece_14 (by decide) ?_
      refine j_iload_n B d_WF_isPiece_16 rfl 0 rfl ?_
      refine j_isub B d_WF_isPiece_17 ?_
      refine j_icmp_gt B d_WF_isPiece_18 rfl (fun h18 => ?_) (fun h18 => ?_)
      · -- 18 jump
        refine j_iconst (v := 0) B d_WF_isPiece_38 (by decide) ?_
        exact j_zret B K (by decide) (by simp [bI, isP, h5, h10, h18]) rfl d_WF_isPiece_39
      · -- 18 on
        refine j_iload_n B d_WF_isPiece_21 rfl 3 rfl ?_
        refine j_iconst (v := 1) B d_WF_isPiece_22 (by decide) ?_
        refine j_icmp_lt B d_WF_isPiece_23 rfl (fun h23 => ?_) (fun h23 => ?_)
        · -- 23 jump
          refine j_iconst (v := 0) B d_WF_isPiece_38 (by decide) ?_
          exact j_zret B K (by decide) (by simp [bI, isP, h5, h10, h18, h23]) rfl d_WF_isPiece_39
        · -- 23 on
          refine j_iload_n B d_WF_isPiece_26 rfl 3 rfl ?_
          refine j_bipush (v := 24) B d_WF_isPiece_27 (by decide) ?_
          refine j_iload_n B d_WF_isPiece_29 rfl 1 rfl ?_
          refine j_isub B d_WF_isPiece_30 ?_
          refine j_icmp_gt B d_WF_isPiece_31 rfl (fun h31 => ?_) (fun h31 => ?_)
          · -- 31 jump
            refine j_iconst (v := 0) B d_WF_isPiece_38 (by decide) ?_
            exact j_zret B K (by decide) (by simp [bI, isP, h5, h10, h18, h23, h31]) rfl d_WF_isPiece_39
          · -- 31 on
            refine j_iconst (v := 1) B d_WF_isPiece_34 (by decide) ?_
            refine j_goto B d_WF_isPiece_35 rfl ?_
            exact j_zret B K (by decide) (by simp [bI, isP, h5, h10, h18, h23, h31]) rfl d_WF_isPiece_39
set_option maxRecDepth 100000 in
set_option maxHeartbeats 4000000 in
theorem c_WF_turnedX {l : Launch} {b : Nat} {D : va_G} {ta : Nat → ClassId} {σ : List va_E} (x y ww hh t : Int32) : jC l b D ta False y_WF_turnedX b_WF_turnedX 5 (some .int) (rL 0) [.int x, .int y, .int ww, .int hh, .int t] (σ) (some (.int (tuX x y ww hh t))) (σ) := by
  refine jC_of (own := "WireField") (by decide +kernel) (Nat.le_of_ble_eq_true rfl) rfl (fun Γ B K => ?_)
  change jW l b D Γ False 0 0 5 (σ) [(0, .int x), (1, .int y), (2, .int ww), (3, .int hh), (4, .int t)] 0 []
  refine j_iload B d_WF_turnedX_0 4 rfl ?_
  by_cases s2_1 : t = 1
  · -- 2 case 1
    refine j_tableIn B d_WF_turnedX_2 (by rw [s2_1]; decide) (by rw [s2_1]; decide) (by rw [s2_1] <;> rfl) rfl ?_
    refine j_iload_n B d_WF_turnedX_28 rfl 3 rfl ?_
    refine j_iconst (v := 1) B d_WF_turnedX_29 (by decide) ?_
    refine j_isub B d_WF_turnedX_30 ?_
    refine j_iload_n B d_WF_turnedX_31 rfl 1 rfl ?_
    refine j_isub B d_WF_turnedX_32 ?_
    exact j_iret B K (by simp only [tuX, s2_1, if_true]) rfl d_WF_turnedX_33
  by_cases s2_2 : t = 2
  · -- 2 case 2
    refine j_tableIn B d_WF_turnedX_2 (by rw [s2_2]; decide) (by rw [s2_2]; decide) (by rw [s2_2] <;> rfl) rfl ?_
    refine j_iload_n B d_WF_turnedX_34 rfl 2 rfl ?_
    refine j_iconst (v := 1) B d_WF_turnedX_35 (by decide) ?_
    refine j_isub B d_WF_turnedX_36 ?_
    refine j_iload_n B d_WF_turnedX_37 rfl 0 rfl ?_
    refine j_isub B d_WF_turnedX_38 ?_
    exact j_iret B K (by rw [tuX, if_neg s2_1, if_pos s2_2]) rfl d_WF_turnedX_39
  by_cases s2_3 : t = 3
  · -- 2 case 3
    refine j_tableIn B d_WF_turnedX_2 (by rw [s2_3]; decide) (by rw [s2_3]; decide) (by rw [s2_3] <;> rfl) rfl ?_
    refine j_iload_n B d_WF_turnedX_40 rfl 1 rfl ?_
    exact j_iret B K (by rw [tuX, if_neg s2_1, if_neg s2_2, if_pos s2_3]) rfl d_WF_turnedX_41
  · -- 2 default
    refine j_tableOut B d_WF_turnedX_2 (by have n0 := lv_neT s2_1 (show (1 : Int32).toInt = 1 by decide); have n1 := lv_neT s2_2 (show (2 : Int32).toInt = 2 by decide); have n2 := lv_neT s2_3 (show (3 : Int32).toInt = 3 by decide); omega) rfl ?_
    refine j_iload_n B d_WF_turnedX_42 rfl 0 rfl ?_
    exact j_iret B K (by simp only [tuX, if_neg s2_1, if_neg s2_2, if_neg s2_3]) rfl d_WF_turnedX_43
set_option maxRecDepth 100000 in
set_option maxHeartbeats 4000000 in
theorem c_WF_turnedY {l : Launch} {b : Nat} {D : va_G} {ta : Nat → ClassId} {σ : List va_E} (x y ww hh t : Int32) : jC l b D ta False y_WF_turnedY b_WF_turnedY 5 (some .int) (rL 0) [.int x, .int y, .int ww, .int hh, .int t] (σ) (some (.int (tuY x y ww hh t))) (σ) := by
  refine jC_of (own := "WireField") (by decide +kernel) (Nat.le_of_ble_eq_true rfl) rfl (fun Γ B K => ?_)
  change jW l b D Γ False 0 0 5 (σ) [(0, .int x), (1, .int y), (2, .int ww), (3, .int hh), (4, .int t)] 0 []
  refine j_iload B d_WF_turnedY_0 4 rfl ?_
  by_cases s2_1 : t = 1
  · -- 2 case 1
    refine j_tableIn B d_WF_turnedY_2 (by rw [s2_1]; decide) (by rw [s2_1]; decide) (by rw [s2_1] <;> rfl) rfl ?_
    refine j_iload_n B d_WF_turnedY_28 rfl 0 rfl ?_
    exact j_iret B K (by simp only [tuY, s2_1, if_true]) rfl d_WF_turnedY_29
  by_cases s2_2 : t = 2
  · -- 2 case 2
    refine j_tableIn B d_WF_turnedY_2 (by rw [s2_2]; decide) (by rw [s2_2]; decide) (by rw [s2_2] <;> rfl) rfl ?_
    refine j_iload_n B d_WF_turnedY_30 rfl 3 rfl ?_
    refine j_iconst (v := 1) B d_WF_turnedY_31 (by decide) ?_
    refine j_isub B d_WF_turnedY_32 ?_
    refine j_iload_n B d_WF_turnedY_33 rfl 1 rfl ?_
    refine j_isub B d_WF_turnedY_34 ?_
    exact j_iret B K (by rw [tuY, if_neg s2_1, if_pos s2_2]) rfl d_WF_turnedY_35
  by_cases s2_3 : t = 3
  · -- 2 case 3
    refine j_tableIn B d_WF_turnedY_2 (by rw [s2_3]; decide) (by rw [s2_3]; decide) (by rw [s2_3] <;> rfl) rfl ?_
    refine j_iload_n B d_WF_turnedY_36 rfl 2 rfl ?_
    refine j_iconst (v := 1) B d_WF_turnedY_37 (by decide) ?_
    refine j_isub B d_WF_turnedY_38 ?_
    refine j_iload_n B d_WF_turnedY_39 rfl 0 rfl ?_
    refine j_isub B d_WF_turnedY_40 ?_
    exact j_iret B K (by rw [tuY, if_neg s2_1, if_neg s2_2, if_pos s2_3]) rfl d_WF_turnedY_41
  · -- 2 default
    refine j_tableOut B d_WF_turnedY_2 (by have n0 := lv_neT s2_1 (show (1 : Int32).toInt = 1 by decide); have n1 := lv_neT s2_2 (show (2 : Int32).toInt = 2 by decide); have n2 := lv_neT s2_3 (show (3 : Int32).toInt = 3 by decide); omega) rfl ?_
    refine j_iload_n B d_WF_turnedY_42 rfl 1 rfl ?_
    exact j_iret B K (by simp only [tuY, if_neg s2_1, if_neg s2_2, if_neg s2_3]) rfl d_WF_turnedY_43
set_option maxRecDepth 100000 in
set_option maxHeartbeats 4000000 in
theorem c_WF_look_0 {l : Launch} {b : Nat} {D : va_G} {ta : Nat → ClassId} {F0 : Nat → Int32} {F1 : Nat → Int32} {F2 : Nat → Int32} {A0 : Nat → Int32} {A1 : Nat → Int32} {A2 : Nat → Int32} {ec : Int32} {er : Int32} {ed : Nat} {eu : Bool} {eo : Nat} {P0 : Nat → Int32} {P1 : Nat → Int32} {P2 : Nat → Int32} {S : Nat → Int32} {N : Nat} {th : Nat → Int32} {MS : Nat → Nat → Int32} {MN : Nat → Nat} {so : Nat → Int32 × Int32 × Int64 × Nat × Nat} {qo : Nat → Int32 × Int32 × Int32 × Int32 × Int64} {sN : Nat} {qN : Nat} {kN : Nat} {tN : Nat} {M0 : Nat → Nat → Int32} {M1 : Nat → Nat → Int32} {M2 : Nat → Nat → Int32} {mp : Nat → Nat → Int32} {X : List va_E} : jC l b D ta False y_WF_look b_WF_look 2 (some .int) (rL 2) [.ref (b + 0), .int 0] (hC b ta F0 F1 F2 A0 A1 A2 ec er ed eu eo P0 P1 P2 S N th MS MN so qo sN qN kN tN M0 M1 M2 mp X) (some (.int (nI tN))) (hC b ta F0 F1 F2 A0 A1 A2 ec er ed eu eo P0 P1 P2 S N th MS MN so qo sN qN kN tN M0 M1 M2 mp X) := by
  refine jC_of (own := "WireField") (by decide +kernel) (Nat.le_of_ble_eq_true rfl) rfl (fun Γ B K => ?_)
  change jW l b D Γ False 0 0 2 (hC b ta F0 F1 F2 A0 A1 A2 ec er ed eu eo P0 P1 P2 S N th MS MN so qo sN qN kN tN M0 M1 M2 mp X) [(0, .ref (b + 0)), (1, .int 0)] 0 []
  refine j_iload_n B d_WF_look_0 rfl 1 rfl ?_
  refine j_tableIn B d_WF_look_1 (by decide) (by decide) rfl rfl ?_
  refine j_aload_n B d_WF_look_48 rfl 0 rfl ?_
  refine gf_WF_69 B rfl rfl d_WF_look_49 ?_
  exact j_iret B K rfl rfl d_WF_look_52
set_option maxRecDepth 100000 in
set_option maxHeartbeats 4000000 in
theorem c_WF_look_1 {l : Launch} {b : Nat} {D : va_G} {ta : Nat → ClassId} {F0 : Nat → Int32} {F1 : Nat → Int32} {F2 : Nat → Int32} {A0 : Nat → Int32} {A1 : Nat → Int32} {A2 : Nat → Int32} {ec : Int32} {er : Int32} {ed : Nat} {eu : Bool} {eo : Nat} {P0 : Nat → Int32} {P1 : Nat → Int32} {P2 : Nat → Int32} {S : Nat → Int32} {N : Nat} {th : Nat → Int32} {MS : Nat → Nat → Int32} {MN : Nat → Nat} {so : Nat → Int32 × Int32 × Int64 × Nat × Nat} {qo : Nat → Int32 × Int32 × Int32 × Int32 × Int64} {sN : Nat} {qN : Nat} {kN : Nat} {tN : Nat} {M0 : Nat → Nat → Int32} {M1 : Nat → Nat → Int32} {M2 : Nat → Nat → Int32} {mp : Nat → Nat → Int32} {X : List va_E} : jC l b D ta False y_WF_look b_WF_look 2 (some .int) (rL 2) [.ref (b + 0), .int 1] (hC b ta F0 F1 F2 A0 A1 A2 ec er ed eu eo P0 P1 P2 S N th MS MN so qo sN qN kN tN M0 M1 M2 mp X) (some (.int (cntF (selF F0 F1 F2 1) 24))) (hC b ta F0 F1 F2 A0 A1 A2 ec er ed eu eo P0 P1 P2 S N th MS MN so qo sN qN kN tN M0 M1 M2 mp X) := by
  refine jC_of (own := "WireField") (by decide +kernel) (Nat.le_of_ble_eq_true rfl) rfl (fun Γ B K => ?_)
  change jW l b D Γ False 0 0 2 (hC b ta F0 F1 F2 A0 A1 A2 ec er ed eu eo P0 P1 P2 S N th MS MN so qo sN qN kN tN M0 M1 M2 mp X) [(0, .ref (b + 0)), (1, .int 1)] 0 []
  refine j_iload_n B d_WF_look_0 rfl 1 rfl ?_
  refine j_tableIn B d_WF_look_1 (by decide) (by decide) rfl rfl ?_
  refine j_aload_n B d_WF_look_53 rfl 0 rfl ?_
  refine gf_WF_12 B rfl rfl d_WF_look_54 ?_
  refine j_iconst (v := 1) B d_WF_look_57 (by decide) ?_
  refine k_callV (as := [.int 1]) (rest := []) (st1 := [.int (cntF (selF F0 F1 F2 1) 24)]) B (c_G_count rfl rfl rfl rfl 1) yf_G_count w_331 w_332 w_333 rfl rfl rfl (by decide) (by decide) rfl rfl (Nat.le_of_ble_eq_true rfl) d_WF_look_58 ?_
  exact j_iret B K rfl rfl d_WF_look_61
set_option maxRecDepth 100000 in
set_option maxHeartbeats 4000000 in
theorem c_WF_look_2 {l : Launch} {b : Nat} {D : va_G} {ta : Nat → ClassId} {F0 : Nat → Int32} {F1 : Nat → Int32} {F2 : Nat → Int32} {A0 : Nat → Int32} {A1 : Nat → Int32} {A2 : Nat → Int32} {ec : Int32} {er : Int32} {ed : Nat} {eu : Bool} {eo : Nat} {P0 : Nat → Int32} {P1 : Nat → Int32} {P2 : Nat → Int32} {S : Nat → Int32} {N : Nat} {th : Nat → Int32} {MS : Nat → Nat → Int32} {MN : Nat → Nat} {so : Nat → Int32 × Int32 × Int64 × Nat × Nat} {qo : Nat → Int32 × Int32 × Int32 × Int32 × Int64} {sN : Nat} {qN : Nat} {kN : Nat} {tN : Nat} {M0 : Nat → Nat → Int32} {M1 : Nat → Nat → Int32} {M2 : Nat → Nat → Int32} {mp : Nat → Nat → Int32} {X : List va_E} : jC l b D ta False y_WF_look b_WF_look 2 (some .int) (rL 2) [.ref (b + 0), .int 2] (hC b ta F0 F1 F2 A0 A1 A2 ec er ed eu eo P0 P1 P2 S N th MS MN so qo sN qN kN tN M0 M1 M2 mp X) (some (.int (cntF (selF F0 F1 F2 2) 24))) (hC b ta F0 F1 F2 A0 A1 A2 ec er ed eu eo P0 P1 P2 S N th MS MN so qo sN qN kN tN M0 M1 M2 mp X) := by
  refine jC_of (own := "WireField") (by decide +kernel) (Nat.le_of_ble_eq_true rfl) rfl (fun Γ B K => ?_)
  change jW l b D Γ False 0 0 2 (hC b ta F0 F1 F2 A0 A1 A2 ec er ed eu eo P0 P1 P2 S N th MS MN so qo sN qN kN tN M0 M1 M2 mp X) [(0, .ref (b + 0)), (1, .int 2)] 0 []
  refine j_iload_n B d_WF_look_0 rfl 1 rfl ?_
  refine j_tableIn B d_WF_look_1 (by decide) (by decide) rfl rfl ?_
  refine j_aload_n B d_WF_look_62 rfl 0 rfl ?_
  refine gf_WF_12 B rfl rfl d_WF_look_63 ?_
  refine j_iconst (v := 2) B d_WF_look_66 (by decide) ?_
  refine k_callV (as := [.int 2]) (rest := []) (st1 := [.int (cntF (selF F0 F1 F2 2) 24)]) B (c_G_count rfl rfl rfl rfl 2) yf_G_count w_331 w_332 w_333 rfl rfl rfl (by decide) (by decide) rfl rfl (Nat.le_of_ble_eq_true rfl) d_WF_look_67 ?_
  exact j_iret B K rfl rfl d_WF_look_70
set_option maxRecDepth 100000 in
set_option maxHeartbeats 4000000 in
theorem c_WF_look_3 {l : Launch} {b : Nat} {D : va_G} {ta : Nat → ClassId} {F0 : Nat → Int32} {F1 : Nat → Int32} {F2 : Nat → Int32} {A0 : Nat → Int32} {A1 : Nat → Int32} {A2 : Nat → Int32} {ec : Int32} {er : Int32} {ed : Nat} {eu : Bool} {eo : Nat} {P0 : Nat → Int32} {P1 : Nat → Int32} {P2 : Nat → Int32} {S : Nat → Int32} {N : Nat} {th : Nat → Int32} {MS : Nat → Nat → Int32} {MN : Nat → Nat} {so : Nat → Int32 × Int32 × Int64 × Nat × Nat} {qo : Nat → Int32 × Int32 × Int32 × Int32 × Int64} {sN : Nat} {qN : Nat} {kN : Nat} {tN : Nat} {M0 : Nat → Nat → Int32} {M1 : Nat → Nat → Int32} {M2 : Nat → Nat → Int32} {mp : Nat → Nat → Int32} {X : List va_E} : jC l b D ta False y_WF_look b_WF_look 2 (some .int) (rL 2) [.ref (b + 0), .int 3] (hC b ta F0 F1 F2 A0 A1 A2 ec er ed eu eo P0 P1 P2 S N th MS MN so qo sN qN kN tN M0 M1 M2 mp X) (some (.int (cntF (selF F0 F1 F2 3) 24))) (hC b ta F0 F1 F2 A0 A1 A2 ec er ed eu eo P0 P1 P2 S N th MS MN so qo sN qN kN tN M0 M1 M2 mp X) := by
  refine jC_of (own := "WireField") (by decide +kernel) (Nat.le_of_ble_eq_true rfl) rfl (fun Γ B K => ?_)
  change jW l b D Γ False 0 0 2 (hC b ta F0 F1 F2 A0 A1 A2 ec er ed eu eo P0 P1 P2 S N th MS MN so qo sN qN kN tN M0 M1 M2 mp X) [(0, .ref (b + 0)), (1, .int 3)] 0 []
  refine j_iload_n B d_WF_look_0 rfl 1 rfl ?_
  refine j_tableIn B d_WF_look_1 (by decide) (by decide) rfl rfl ?_
  refine j_aload_n B d_WF_look_71 rfl 0 rfl ?_
  refine gf_WF_12 B rfl rfl d_WF_look_72 ?_
  refine j_iconst (v := 3) B d_WF_look_75 (by decide) ?_
  refine k_callV (as := [.int 3]) (rest := []) (st1 := [.int (cntF (selF F0 F1 F2 3) 24)]) B (c_G_count rfl rfl rfl rfl 3) yf_G_count w_331 w_332 w_333 rfl rfl rfl (by decide) (by decide) rfl rfl (Nat.le_of_ble_eq_true rfl) d_WF_look_76 ?_
  exact j_iret B K rfl rfl d_WF_look_79
set_option maxRecDepth 100000 in
set_option maxHeartbeats 4000000 in
theorem c_WF_look_4 {l : Launch} {b : Nat} {D : va_G} {ta : Nat → ClassId} {F0 : Nat → Int32} {F1 : Nat → Int32} {F2 : Nat → Int32} {A0 : Nat → Int32} {A1 : Nat → Int32} {A2 : Nat → Int32} {ec : Int32} {er : Int32} {ed : Nat} {eu : Bool} {eo : Nat} {P0 : Nat → Int32} {P1 : Nat → Int32} {P2 : Nat → Int32} {S : Nat → Int32} {N : Nat} {th : Nat → Int32} {MS : Nat → Nat → Int32} {MN : Nat → Nat} {so : Nat → Int32 × Int32 × Int64 × Nat × Nat} {qo : Nat → Int32 × Int32 × Int32 × Int32 × Int64} {sN : Nat} {qN : Nat} {kN : Nat} {tN : Nat} {M0 : Nat → Nat → Int32} {M1 : Nat → Nat → Int32} {M2 : Nat → Nat → Int32} {mp : Nat → Nat → Int32} {X : List va_E} : jC l b D ta False y_WF_look b_WF_look 2 (some .int) (rL 2) [.ref (b + 0), .int 4] (hC b ta F0 F1 F2 A0 A1 A2 ec er ed eu eo P0 P1 P2 S N th MS MN so qo sN qN kN tN M0 M1 M2 mp X) (some (.int (nI kN))) (hC b ta F0 F1 F2 A0 A1 A2 ec er ed eu eo P0 P1 P2 S N th MS MN so qo sN qN kN tN M0 M1 M2 mp X) := by
  refine jC_of (own := "WireField") (by decide +kernel) (Nat.le_of_ble_eq_true rfl) rfl (fun Γ B K => ?_)
  change jW l b D Γ False 0 0 2 (hC b ta F0 F1 F2 A0 A1 A2 ec er ed eu eo P0 P1 P2 S N th MS MN so qo sN qN kN tN M0 M1 M2 mp X) [(0, .ref (b + 0)), (1, .int 4)] 0 []
  refine j_iload_n B d_WF_look_0 rfl 1 rfl ?_
  refine j_tableIn B d_WF_look_1 (by decide) (by decide) rfl rfl ?_
  refine j_aload_n B d_WF_look_80 rfl 0 rfl ?_
  refine gf_WF_66 B rfl rfl d_WF_look_81 ?_
  exact j_iret B K rfl rfl d_WF_look_84
set_option maxRecDepth 100000 in
set_option maxHeartbeats 4000000 in
theorem c_WF_look_5 {l : Launch} {b : Nat} {D : va_G} {ta : Nat → ClassId} {F0 : Nat → Int32} {F1 : Nat → Int32} {F2 : Nat → Int32} {A0 : Nat → Int32} {A1 : Nat → Int32} {A2 : Nat → Int32} {ec : Int32} {er : Int32} {ed : Nat} {eu : Bool} {eo : Nat} {P0 : Nat → Int32} {P1 : Nat → Int32} {P2 : Nat → Int32} {S : Nat → Int32} {N : Nat} {th : Nat → Int32} {MS : Nat → Nat → Int32} {MN : Nat → Nat} {so : Nat → Int32 × Int32 × Int64 × Nat × Nat} {qo : Nat → Int32 × Int32 × Int32 × Int32 × Int64} {sN : Nat} {qN : Nat} {kN : Nat} {tN : Nat} {M0 : Nat → Nat → Int32} {M1 : Nat → Nat → Int32} {M2 : Nat → Nat → Int32} {mp : Nat → Nat → Int32} {X : List va_E} : jC l b D ta False y_WF_look b_WF_look 2 (some .int) (rL 2) [.ref (b + 0), .int 5] (hC b ta F0 F1 F2 A0 A1 A2 ec er ed eu eo P0 P1 P2 S N th MS MN so qo sN qN kN tN M0 M1 M2 mp X) (some (.int (nI sN))) (hC b ta F0 F1 F2 A0 A1 A2 ec er ed eu eo P0 P1 P2 S N th MS MN so qo sN qN kN tN M0 M1 M2 mp X) := by
  refine jC_of (own := "WireField") (by decide +kernel) (Nat.le_of_ble_eq_true rfl) rfl (fun Γ B K => ?_)
  change jW l b D Γ False 0 0 2 (hC b ta F0 F1 F2 A0 A1 A2 ec er ed eu eo P0 P1 P2 S N th MS MN so qo sN qN kN tN M0 M1 M2 mp X) [(0, .ref (b + 0)), (1, .int 5)] 0 []
  refine j_iload_n B d_WF_look_0 rfl 1 rfl ?_
  refine j_tableIn B d_WF_look_1 (by decide) (by decide) rfl rfl ?_
  refine j_aload_n B d_WF_look_85 rfl 0 rfl ?_
  refine gf_WF_47 B rfl rfl d_WF_look_86 ?_
  exact j_iret B K rfl rfl d_WF_look_89
set_option maxRecDepth 100000 in
set_option maxHeartbeats 4000000 in
theorem c_WF_look_6 {l : Launch} {b : Nat} {D : va_G} {ta : Nat → ClassId} {F0 : Nat → Int32} {F1 : Nat → Int32} {F2 : Nat → Int32} {A0 : Nat → Int32} {A1 : Nat → Int32} {A2 : Nat → Int32} {ec : Int32} {er : Int32} {ed : Nat} {eu : Bool} {eo : Nat} {P0 : Nat → Int32} {P1 : Nat → Int32} {P2 : Nat → Int32} {S : Nat → Int32} {N : Nat} {th : Nat → Int32} {MS : Nat → Nat → Int32} {MN : Nat → Nat} {so : Nat → Int32 × Int32 × Int64 × Nat × Nat} {qo : Nat → Int32 × Int32 × Int32 × Int32 × Int64} {sN : Nat} {qN : Nat} {kN : Nat} {tN : Nat} {M0 : Nat → Nat → Int32} {M1 : Nat → Nat → Int32} {M2 : Nat → Nat → Int32} {mp : Nat → Nat → Int32} {X : List va_E} : jC l b D ta False y_WF_look b_WF_look 2 (some .int) (rL 2) [.ref (b + 0), .int 6] (hC b ta F0 F1 F2 A0 A1 A2 ec er ed eu eo P0 P1 P2 S N th MS MN so qo sN qN kN tN M0 M1 M2 mp X) (some (.int (nI qN))) (hC b ta F0 F1 F2 A0 A1 A2 ec er ed eu eo P0 P1 P2 S N th MS MN so qo sN qN kN tN M0 M1 M2 mp X) := by
  refine jC_of (own := "WireField") (by decide +kernel) (Nat.le_of_ble_eq_true rfl) rfl (fun Γ B K => ?_)
  change jW l b D Γ False 0 0 2 (hC b ta F0 F1 F2 A0 A1 A2 ec er ed eu eo P0 P1 P2 S N th MS MN so qo sN qN kN tN M0 M1 M2 mp X) [(0, .ref (b + 0)), (1, .int 6)] 0 []
  refine j_iload_n B d_WF_look_0 rfl 1 rfl ?_
  refine j_tableIn B d_WF_look_1 (by decide) (by decide) rfl rfl ?_
  refine j_aload_n B d_WF_look_90 rfl 0 rfl ?_
  refine gf_WF_57 B rfl rfl d_WF_look_91 ?_
  exact j_iret B K rfl rfl d_WF_look_94
set_option maxRecDepth 100000 in
set_option maxHeartbeats 4000000 in
theorem c_WF_look_7 {l : Launch} {b : Nat} {D : va_G} {ta : Nat → ClassId} {F0 : Nat → Int32} {F1 : Nat → Int32} {F2 : Nat → Int32} {A0 : Nat → Int32} {A1 : Nat → Int32} {A2 : Nat → Int32} {ec : Int32} {er : Int32} {ed : Nat} {eu : Bool} {eo : Nat} {P0 : Nat → Int32} {P1 : Nat → Int32} {P2 : Nat → Int32} {S : Nat → Int32} {N : Nat} {th : Nat → Int32} {MS : Nat → Nat → Int32} {MN : Nat → Nat} {so : Nat → Int32 × Int32 × Int64 × Nat × Nat} {qo : Nat → Int32 × Int32 × Int32 × Int32 × Int64} {sN : Nat} {qN : Nat} {kN : Nat} {tN : Nat} {M0 : Nat → Nat → Int32} {M1 : Nat → Nat → Int32} {M2 : Nat → Nat → Int32} {mp : Nat → Nat → Int32} {X : List va_E} : jC l b D ta False y_WF_look b_WF_look 2 (some .int) (rL 2) [.ref (b + 0), .int 7] (hC b ta F0 F1 F2 A0 A1 A2 ec er ed eu eo P0 P1 P2 S N th MS MN so qo sN qN kN tN M0 M1 M2 mp X) (some (.int (nI N))) (hC b ta F0 F1 F2 A0 A1 A2 ec er ed eu eo P0 P1 P2 S N th MS MN so qo sN qN kN tN M0 M1 M2 mp X) := by
  refine jC_of (own := "WireField") (by decide +kernel) (Nat.le_of_ble_eq_true rfl) rfl (fun Γ B K => ?_)
  change jW l b D Γ False 0 0 2 (hC b ta F0 F1 F2 A0 A1 A2 ec er ed eu eo P0 P1 P2 S N th MS MN so qo sN qN kN tN M0 M1 M2 mp X) [(0, .ref (b + 0)), (1, .int 7)] 0 []
  refine j_iload_n B d_WF_look_0 rfl 1 rfl ?_
  refine j_tableIn B d_WF_look_1 (by decide) (by decide) rfl rfl ?_
  refine j_aload_n B d_WF_look_95 rfl 0 rfl ?_
  refine gf_WF_29 B rfl rfl d_WF_look_96 ?_
  refine gf_WF_107 B rfl rfl d_WF_look_99 ?_
  exact j_iret B K rfl rfl d_WF_look_102
set_option maxRecDepth 100000 in
set_option maxHeartbeats 4000000 in
theorem c_WF_look_x {l : Launch} {b : Nat} {D : va_G} {ta : Nat → ClassId} {F0 : Nat → Int32} {F1 : Nat → Int32} {F2 : Nat → Int32} {A0 : Nat → Int32} {A1 : Nat → Int32} {A2 : Nat → Int32} {ec : Int32} {er : Int32} {ed : Nat} {eu : Bool} {eo : Nat} {P0 : Nat → Int32} {P1 : Nat → Int32} {P2 : Nat → Int32} {S : Nat → Int32} {N : Nat} {th : Nat → Int32} {MS : Nat → Nat → Int32} {MN : Nat → Nat} {so : Nat → Int32 × Int32 × Int64 × Nat × Nat} {qo : Nat → Int32 × Int32 × Int32 × Int32 × Int64} {sN : Nat} {qN : Nat} {kN : Nat} {tN : Nat} {M0 : Nat → Nat → Int32} {M1 : Nat → Nat → Int32} {M2 : Nat → Nat → Int32} {mp : Nat → Nat → Int32} {X : List va_E} {k : Int32} (hk : k.toInt < 0 ∨ 7 < k.toInt) : jC l b D ta False y_WF_look b_WF_look 2 (some .int) (rL 2) [.ref (b + 0), .int k] (hC b ta F0 F1 F2 A0 A1 A2 ec er ed eu eo P0 P1 P2 S N th MS MN so qo sN qN kN tN M0 M1 M2 mp X) (some (.int (-1))) (hC b ta F0 F1 F2 A0 A1 A2 ec er ed eu eo P0 P1 P2 S N th MS MN so qo sN qN kN tN M0 M1 M2 mp X) := by
  refine jC_of (own := "WireField") (by decide +kernel) (Nat.le_of_ble_eq_true rfl) rfl (fun Γ B K => ?_)
  change jW l b D Γ False 0 0 2 (hC b ta F0 F1 F2 A0 A1 A2 ec er ed eu eo P0 P1 P2 S N th MS MN so qo sN qN kN tN M0 M1 M2 mp X) [(0, .ref (b + 0)), (1, .int k)] 0 []
  refine j_iload_n B d_WF_look_0 rfl 1 rfl ?_
  by_cases s1_0 : k = 0
  · -- 1 case 0
    refine j_tableIn B d_WF_look_1 (by rw [s1_0]; decide) (by rw [s1_0]; decide) (by rw [s1_0] <;> rfl) rfl ?_
    exact absurd hk (by rw [s1_0]; decide)
  by_cases s1_1 : k = 1
  · -- 1 case 1
    refine j_tableIn B d_WF_look_1 (by rw [s1_1]; decide) (by rw [s1_1]; decide) (by rw [s1_1] <;> rfl) rfl ?_
    exact absurd hk (by rw [s1_1]; decide)
  by_cases s1_2 : k = 2
  · -- 1 case 2
    refine j_tableIn B d_WF_look_1 (by rw [s1_2]; decide) (by rw [s1_2]; decide) (by rw [s1_2] <;> rfl) rfl ?_
    exact absurd hk (by rw [s1_2]; decide)
  by_cases s1_3 : k = 3
  · -- 1 case 3
    refine j_tableIn B d_WF_look_1 (by rw [s1_3]; decide) (by rw [s1_3]; decide) (by rw [s1_3] <;> rfl) rfl ?_
    exact absurd hk (by rw [s1_3]; decide)
  by_cases s1_4 : k = 4
  · -- 1 case 4
    refine j_tableIn B d_WF_look_1 (by rw [s1_4]; decide) (by rw [s1_4]; decide) (by rw [s1_4] <;> rfl) rfl ?_
    exact absurd hk (by rw [s1_4]; decide)
  by_cases s1_5 : k = 5
  · -- 1 case 5
    refine j_tableIn B d_WF_look_1 (by rw [s1_5]; decide) (by rw [s1_5]; decide) (by rw [s1_5] <;> rfl) rfl ?_
    exact absurd hk (by rw [s1_5]; decide)
  by_cases s1_6 : k = 6
  · -- 1 case 6
    refine j_tableIn B d_WF_look_1 (by rw [s1_6]; decide) (by rw [s1_6]; decide) (by rw [s1_6] <;> rfl) rfl ?_
    exact absurd hk (by rw [s1_6]; decide)
  by_cases s1_7 : k = 7
  · -- 1 case 7
    refine j_tableIn B d_WF_look_1 (by rw [s1_7]; decide) (by rw [s1_7]; decide) (by rw [s1_7] <;> rfl) rfl ?_
    exact absurd hk (by rw [s1_7]; decide)
  · -- 1 default
    refine j_tableOut B d_WF_look_1 (by have n0 := lv_neT s1_0 (show (0 : Int32).toInt = 0 by decide); have n1 := lv_neT s1_1 (show (1 : Int32).toInt = 1 by decide); have n2 := lv_neT s1_2 (show (2 : Int32).toInt = 2 by decide); have n3 := lv_neT s1_3 (show (3 : Int32).toInt = 3 by decide); have n4 := lv_neT s1_4 (show (4 : Int32).toInt = 4 by decide); have n5 := lv_neT s1_5 (show (5 : Int32).toInt = 5 by decide); have n6 := lv_neT s1_6 (show (6 : Int32).toInt = 6 by decide); have n7 := lv_neT s1_7 (show (7 : Int32).toInt = 7 by decide); omega) rfl ?_
    refine j_iconst (v := (-1)) B d_WF_look_103 (by decide) ?_
    exact j_iret B K rfl rfl d_WF_look_104
