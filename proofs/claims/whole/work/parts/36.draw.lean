set_option maxRecDepth 100000 in
set_option maxHeartbeats 4000000 in
theorem c_WF_draw_t {l : Launch} {b : Nat} {D : va_G} {ta : Nat → ClassId} {F0 : Nat → Int32} {F1 : Nat → Int32} {F2 : Nat → Int32} {A0 : Nat → Int32} {A1 : Nat → Int32} {A2 : Nat → Int32} {ec : Int32} {er : Int32} {ed : Nat} {eu : Bool} {eo : Nat} {P0 : Nat → Int32} {P1 : Nat → Int32} {P2 : Nat → Int32} {S : Nat → Int32} {N : Nat} {th : Nat → Int32} {MS : Nat → Nat → Int32} {MN : Nat → Nat} {so : Nat → Int32 × Int32 × Int64 × Nat × Nat} {qo : Nat → Int32 × Int32 × Int32 × Int32 × Int64} {sN : Nat} {qN : Nat} {kN : Nat} {tN : Nat} {M0 : Nat → Nat → Int32} {M1 : Nat → Nat → Int32} {M2 : Nat → Nat → Int32} {mp : Nat → Nat → Int32} {X : List va_E} {x y : Int32} {d : Nat} (hd : d < 4) (hS : Fc S) (hN : N ≤ 60) (hMS : ∀ j, j < 4 → Fc (MS j) ∧ MN j ≤ 60) (z0 : Z24 F0) (z1 : Z24 F1) (z2 : Z24 F2) (y0 : Z24 P0) (y1 : Z24 P1) (y2 : Z24 P2) (hin : inF x y = true) (hio : ioF S N 4 = true) (hmt : mtF th (hmM MS MN) 4 (hmF S N N) = true) (hdr : (drX MS MN S N x y d F0 F1 F2).1 = true) : jC l b D ta False y_WF_draw b_WF_draw 4 (some .int) (rL 88) [.ref (b + 0), .int x, .int y, .int (nI d)] (hC b ta F0 F1 F2 A0 A1 A2 ec er ed eu eo P0 P1 P2 S N th MS MN so qo sN qN kN tN M0 M1 M2 mp X) (some (.int (nI ((drX MS MN S N x y d F0 F1 F2).2.2.2.2.2.1)))) (hC b ta ((drX MS MN S N x y d F0 F1 F2).2.2.2.2.2.2.1) ((drX MS MN S N x y d F0 F1 F2).2.2.2.2.2.2.2.1) ((drX MS MN S N x y d F0 F1 F2).2.2.2.2.2.2.2.2) A0 A1 A2 ((drX MS MN S N x y d F0 F1 F2).2.1) ((drX MS MN S N x y d F0 F1 F2).2.2.1) ((drX MS MN S N x y d F0 F1 F2).2.2.2.1) ((drX MS MN S N x y d F0 F1 F2).2.2.2.2.1) ((drX MS MN S N x y d F0 F1 F2).2.2.2.2.2.1) ((drX MS MN S N x y d F0 F1 F2).2.2.2.2.2.2.1) ((drX MS MN S N x y d F0 F1 F2).2.2.2.2.2.2.2.1) ((drX MS MN S N x y d F0 F1 F2).2.2.2.2.2.2.2.2) S 0 th MS MN so qo sN qN 0 tN M0 M1 M2 mp X) := by
  have hqz := drX_z (MS := MS) (MN := MN) (S := S) (N := N) (x := x) (y := y) (d := d) z0 z1 z2
  refine jC_of (own := "WireField") (by decide +kernel) (Nat.le_of_ble_eq_true rfl) rfl (fun Γ B K => ?_)
  change jW l b D Γ False 0 0 4 (hC b ta F0 F1 F2 A0 A1 A2 ec er ed eu eo P0 P1 P2 S N th MS MN so qo sN qN kN tN M0 M1 M2 mp X) [(0, .ref (b + 0)), (1, .int x), (2, .int y), (3, .int (nI d))] 0 []
  refine j_iload_n B d_WF_draw_0 rfl 1 rfl ?_
  refine j_iload_n B d_WF_draw_1 rfl 2 rfl ?_
  refine k_callS (as := [.int x, .int y]) (rest := []) (st1 := [.int (bI (inF x y))]) B (c_WF_isWithin x y) yf_WF_isWithin w_226 w_227 rfl (by decide) (by decide) rfl rfl (Nat.le_of_ble_eq_true rfl) d_WF_draw_2 ?_
  refine j_if_eq B d_WF_draw_5 rfl (fun h5 => absurd (bI_f h5) (by rw [hin]; decide)) (fun h5 => ?_)
  refine j_iload_n B d_WF_draw_8 rfl 3 rfl ?_
  refine j_if_lt B d_WF_draw_9 rfl (fun h9 => absurd h9 (nI_pos (by omega))) (fun h9 => ?_)
  refine j_iload_n B d_WF_draw_12 rfl 3 rfl ?_
  refine j_iconst (v := 4) B d_WF_draw_13 (by decide) ?_
  refine j_icmp_lt B d_WF_draw_14 rfl (fun h14 => ?_) (fun h14 => absurd (nI_lt (b := 4) hd (by decide)) h14)
  refine j_aload_n B d_WF_draw_27 rfl 0 rfl ?_
  refine gf_WF_29 B rfl rfl d_WF_draw_28 ?_
  refine j_iconst (v := 4) B d_WF_draw_31 (by decide) ?_
  refine k_callV (as := [.int 4]) (rest := []) (st1 := [.int (bI (ioF S N 4))]) B (c_Tx_isOrders rfl rfl hS hN 4) yf_Tx_isOrders w_439 w_440 w_441 rfl rfl rfl (by decide) (by decide) rfl rfl (Nat.le_of_ble_eq_true rfl) d_WF_draw_32 ?_
  refine j_if_eq B d_WF_draw_35 rfl (fun h35 => absurd (bI_f h35) (by rw [hio]; decide)) (fun h35 => ?_)
  refine j_aload_n B d_WF_draw_38 rfl 0 rfl ?_
  refine k_callV (as := []) (rest := []) (st1 := [.int (bI (mtF th (hmM MS MN) 4 (hmF S N N)))]) B (c_WF_macrosOfLineAreThere hS hN hMS) yf_WF_macrosOfLineAreThere w_552 w_554 w_s10 rfl rfl rfl (by decide) (by decide) rfl rfl (Nat.le_of_ble_eq_true rfl) d_WF_draw_39 ?_
  refine j_if_ne B d_WF_draw_42 rfl (fun h42 => ?_) (fun h42 => absurd (bI_f h42) (by rw [hmt]; decide))
  refine j_aload_n B d_WF_draw_55 rfl 0 rfl ?_
  refine gf_WF_22 B rfl rfl d_WF_draw_56 ?_
  refine j_aload_n B d_WF_draw_59 rfl 0 rfl ?_
  refine gf_WF_12 B rfl rfl d_WF_draw_60 ?_
  refine j_iload_n B d_WF_draw_63 rfl 1 rfl ?_
  refine j_iload_n B d_WF_draw_64 rfl 2 rfl ?_
  refine j_iload_n B d_WF_draw_65 rfl 3 rfl ?_
  refine jW.heap (σ2 := pS b ta (hC b ta F0 F1 F2 A0 A1 A2 ec er ed eu eo P0 P1 P2 S N th MS MN so qo sN qN kN tN M0 M1 M2 mp X) 9 10 11 12 13 ec er ed eu eo P0 P1 P2) rfl ?_
  refine k_callV (as := [.ref (b + 1), .int x, .int y, .int (nI d)]) (rest := []) (st1 := []) B (c_Pe_begin hC_pWp (g2 := 1) (h2 := 2) (t2 := 3) (w2 := 4) rfl rfl rfl rfl (by decide) (by decide) (by decide) (by decide) (by decide) (by decide) (by decide) (by decide) (by decide) (by decide) (by decide) (by decide) (by decide) (by decide) (by decide) (by decide) z0 z1 z2 y0 y1 y2 x y d) yf_Pe_begin w_576 w_577 w_578 rfl rfl rfl (by decide) (by decide) rfl rfl (Nat.le_of_ble_eq_true rfl) d_WF_draw_66 ?_
  refine jW.heap (σ2 := hC b ta F0 F1 F2 A0 A1 A2 x y d true 0 F0 F1 F2 S N th MS MN so qo sN qN kN tN M0 M1 M2 mp X) rfl ?_
  refine j_aload_n B d_WF_draw_69 rfl 0 rfl ?_
  refine j_aload_n B d_WF_draw_70 rfl 0 rfl ?_
  refine gf_WF_29 B rfl rfl d_WF_draw_71 ?_
  refine j_iconst (v := 0) B d_WF_draw_74 (by decide) ?_
  refine j_aload_n B d_WF_draw_75 rfl 0 rfl ?_
  refine gf_WF_29 B rfl rfl d_WF_draw_76 ?_
  refine gf_WF_107 B rfl rfl d_WF_draw_79 ?_
  refine j_iconst (v := 1) B d_WF_draw_82 (by decide) ?_
  refine jW.heap (σ2 := pS b ta (hC b ta F0 F1 F2 A0 A1 A2 x y d true 0 F0 F1 F2 S N th MS MN so qo sN qN kN tN M0 M1 M2 mp X) 9 10 11 12 13 x y d true 0 F0 F1 F2) rfl ?_
  refine k_callV (as := [.ref (b + 14), .int 0, .int (nI N), .int 1]) (rest := []) (st1 := [.int (bI (drX MS MN S N x y d F0 F1 F2).1)]) B (c_WF_performD hC_pWp rfl rfl (fun j hj => ⟨hC_mx hj, hC_ms hj, (hMS j hj).1, (hMS j hj).2, ⟨by omega, by omega, by omega, by omega⟩, ⟨by omega, by omega, by omega, by omega⟩⟩) 20 1 rfl 14 15 S N ⟨rfl, rfl, hS, hN, ⟨by omega, by omega, by omega, by omega⟩, ⟨by omega, by omega, by omega, by omega⟩⟩ 0 N x y d true 0 F0 F1 F2 (Nat.zero_le _) (Nat.le_refl _) hd (by decide)) yf_WF_perform w_581 w_583 w_s11 rfl rfl rfl (by decide) (by decide) rfl rfl (Nat.le_of_ble_eq_true rfl) d_WF_draw_83 ?_
  refine jW.heap (σ2 := hC b ta F0 F1 F2 A0 A1 A2 ((drX MS MN S N x y d F0 F1 F2).2.1) ((drX MS MN S N x y d F0 F1 F2).2.2.1) ((drX MS MN S N x y d F0 F1 F2).2.2.2.1) ((drX MS MN S N x y d F0 F1 F2).2.2.2.2.1) ((drX MS MN S N x y d F0 F1 F2).2.2.2.2.2.1) ((drX MS MN S N x y d F0 F1 F2).2.2.2.2.2.2.1) ((drX MS MN S N x y d F0 F1 F2).2.2.2.2.2.2.2.1) ((drX MS MN S N x y d F0 F1 F2).2.2.2.2.2.2.2.2) S N th MS MN so qo sN qN kN tN M0 M1 M2 mp X) rfl ?_
  refine j_if_ne B d_WF_draw_86 rfl (fun h86 => ?_) (fun h86 => absurd (bI_f h86) (by rw [hdr]; decide))
  refine j_aload_n B d_WF_draw_99 rfl 0 rfl ?_
  refine gf_WF_12 B rfl rfl d_WF_draw_100 ?_
  refine j_aload_n B d_WF_draw_103 rfl 0 rfl ?_
  refine gf_WF_22 B rfl rfl d_WF_draw_104 ?_
  refine gf_WF_119 B rfl rfl d_WF_draw_107 ?_
  refine k_callV (as := [.ref (b + 10)]) (rest := []) (st1 := []) B (c_G_takeFrom rfl rfl rfl rfl rfl rfl rfl rfl (by decide) (by decide) (by decide) (by decide) (by decide) (by decide) (by decide) (by decide) (by decide) (by decide) (by decide) (by decide) (by decide) (by decide) (by decide) (by decide) (by decide) (by decide) hqz.1 hqz.2.1 hqz.2.2 z0 z1 z2) yf_G_takeFrom w_253 w_254 w_255 rfl rfl rfl (by decide) (by decide) rfl rfl (Nat.le_of_ble_eq_true rfl) d_WF_draw_110 ?_
  refine jW.heap (σ2 := hC b ta ((drX MS MN S N x y d F0 F1 F2).2.2.2.2.2.2.1) ((drX MS MN S N x y d F0 F1 F2).2.2.2.2.2.2.2.1) ((drX MS MN S N x y d F0 F1 F2).2.2.2.2.2.2.2.2) A0 A1 A2 ((drX MS MN S N x y d F0 F1 F2).2.1) ((drX MS MN S N x y d F0 F1 F2).2.2.1) ((drX MS MN S N x y d F0 F1 F2).2.2.2.1) ((drX MS MN S N x y d F0 F1 F2).2.2.2.2.1) ((drX MS MN S N x y d F0 F1 F2).2.2.2.2.2.1) ((drX MS MN S N x y d F0 F1 F2).2.2.2.2.2.2.1) ((drX MS MN S N x y d F0 F1 F2).2.2.2.2.2.2.2.1) ((drX MS MN S N x y d F0 F1 F2).2.2.2.2.2.2.2.2) S N th MS MN so qo sN qN kN tN M0 M1 M2 mp X) rfl ?_
  refine j_aload_n B d_WF_draw_113 rfl 0 rfl ?_
  refine gf_WF_29 B rfl rfl d_WF_draw_114 ?_
  refine k_callV (as := []) (rest := []) (st1 := []) B (c_Tx_clear rfl) yf_Tx_clear w_218 w_219 w_220 rfl rfl rfl (by decide) (by decide) rfl rfl (Nat.le_of_ble_eq_true rfl) d_WF_draw_117 ?_
  refine j_aload_n B d_WF_draw_120 rfl 0 rfl ?_
  refine k_callV (as := []) (rest := []) (st1 := []) B c_WF_forgetHistory yf_WF_forgetHistory w_234 w_236 w_s0 rfl rfl rfl (by decide) (by decide) rfl rfl (Nat.le_of_ble_eq_true rfl) d_WF_draw_121 ?_
  refine j_aload_n B d_WF_draw_124 rfl 0 rfl ?_
  refine gf_WF_22 B rfl rfl d_WF_draw_125 ?_
  refine gf_WF_132 B rfl rfl d_WF_draw_128 ?_
  exact j_iret B K rfl rfl d_WF_draw_131
