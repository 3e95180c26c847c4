set_option maxRecDepth 100000 in
set_option maxHeartbeats 4000000 in
theorem x_WF_draw_1 {l : Launch} {b : Nat} {D : va_G} {ta : Nat → ClassId} (hst : l.stackTraces = false) {F0 : Nat → Int32} {F1 : Nat → Int32} {F2 : Nat → Int32} {A0 : Nat → Int32} {A1 : Nat → Int32} {A2 : Nat → Int32} {ec : Int32} {er : Int32} {ed : Nat} {eu : Bool} {eo : Nat} {P0 : Nat → Int32} {P1 : Nat → Int32} {P2 : Nat → Int32} {S : Nat → Int32} {N : Nat} {th : Nat → Int32} {MS : Nat → Nat → Int32} {MN : Nat → Nat} {so : Nat → Int32 × Int32 × Int64 × Nat × Nat} {qo : Nat → Int32 × Int32 × Int32 × Int32 × Int64} {sN : Nat} {qN : Nat} {kN : Nat} {tN : Nat} {M0 : Nat → Nat → Int32} {M1 : Nat → Nat → Int32} {M2 : Nat → Nat → Int32} {mp : Nat → Nat → Int32} {X : List va_E} {x y d : Int32} (hf : ¬ (inF x y = true ∧ ¬ d < 0 ∧ d < 4)) : jTh l b D ta y_WF_draw b_WF_draw 4 (some .int) (rK 88 1 6) [.ref (b + 0), .int x, .int y, .int d] (hC b ta F0 F1 F2 A0 A1 A2 ec er ed eu eo P0 P1 P2 S N th MS MN so qo sN qN kN tN M0 M1 M2 mp X) "java/lang/IndexOutOfBoundsException" (hC b ta F0 F1 F2 A0 A1 A2 ec er ed eu eo P0 P1 P2 S N th MS MN so qo sN qN kN tN M0 M1 M2 mp X) := by
  refine jTh_of (own := "WireField") (by decide +kernel) (Nat.le_of_ble_eq_true rfl) rfl (fun Γ B htab K => ?_)
  change jW l b D Γ False 0 0 4 (hC b ta F0 F1 F2 A0 A1 A2 ec er ed eu eo P0 P1 P2 S N th MS MN so qo sN qN kN tN M0 M1 M2 mp X) [(0, .ref (b + 0)), (1, .int x), (2, .int y), (3, .int d)] 0 []
  refine j_iload_n B d_WF_draw_0 rfl 1 rfl ?_
  refine j_iload_n B d_WF_draw_1 rfl 2 rfl ?_
  refine kx_callS (as := [.int x, .int y]) (rest := []) (st1 := [.int (bI (inF x y))]) B (c_WF_isWithin x y) yf_WF_isWithin w_226 w_227 rfl (by decide) (by decide) rfl rfl (Nat.le_of_ble_eq_true rfl) d_WF_draw_2 ?_
  refine j_if_eq B d_WF_draw_5 rfl (fun h5 => ?_) (fun h5 => ?_)
  · -- 5 jump
    replace h5 := bI_f h5
    exact j_thr B hst htab (E := "java/lang/IndexOutOfBoundsException") (names := ["java/lang/RuntimeException", "java/lang/Exception"]) (by decide) (by decide) (by decide) w_371 w_12 (is := 85) (text := "there is no such cell or direction") (by decide) at_87 K (by decide) (by decide) (by decide) (by decide) d_WF_draw_17 d_WF_draw_20 d_WF_draw_21 d_WF_draw_23 d_WF_draw_26
  · -- 5 on
    replace h5 := bI_t h5
    refine j_iload_n B d_WF_draw_8 rfl 3 rfl ?_
    refine j_if_lt B d_WF_draw_9 rfl (fun h9 => ?_) (fun h9 => ?_)
    · -- 9 jump
      exact j_thr B hst htab (E := "java/lang/IndexOutOfBoundsException") (names := ["java/lang/RuntimeException", "java/lang/Exception"]) (by decide) (by decide) (by decide) w_371 w_12 (is := 85) (text := "there is no such cell or direction") (by decide) at_87 K (by decide) (by decide) (by decide) (by decide) d_WF_draw_17 d_WF_draw_20 d_WF_draw_21 d_WF_draw_23 d_WF_draw_26
    · -- 9 on
      refine j_iload_n B d_WF_draw_12 rfl 3 rfl ?_
      refine j_iconst (v := 4) B d_WF_draw_13 (by decide) ?_
      refine j_icmp_lt B d_WF_draw_14 rfl (fun h14 => ?_) (fun h14 => ?_)
      · -- 14 jump
        exact absurd ⟨h5, h9, h14⟩ hf
      · -- 14 on
        exact j_thr B hst htab (E := "java/lang/IndexOutOfBoundsException") (names := ["java/lang/RuntimeException", "java/lang/Exception"]) (by decide) (by decide) (by decide) w_371 w_12 (is := 85) (text := "there is no such cell or direction") (by decide) at_87 K (by decide) (by decide) (by decide) (by decide) d_WF_draw_17 d_WF_draw_20 d_WF_draw_21 d_WF_draw_23 d_WF_draw_26
set_option maxRecDepth 100000 in
set_option maxHeartbeats 4000000 in
theorem x_WF_draw_2 {l : Launch} {b : Nat} {D : va_G} {ta : Nat → ClassId} (hst : l.stackTraces = false) {F0 : Nat → Int32} {F1 : Nat → Int32} {F2 : Nat → Int32} {A0 : Nat → Int32} {A1 : Nat → Int32} {A2 : Nat → Int32} {ec : Int32} {er : Int32} {ed : Nat} {eu : Bool} {eo : Nat} {P0 : Nat → Int32} {P1 : Nat → Int32} {P2 : Nat → Int32} {S : Nat → Int32} {N : Nat} {th : Nat → Int32} {MS : Nat → Nat → Int32} {MN : Nat → Nat} {so : Nat → Int32 × Int32 × Int64 × Nat × Nat} {qo : Nat → Int32 × Int32 × Int32 × Int32 × Int64} {sN : Nat} {qN : Nat} {kN : Nat} {tN : Nat} {M0 : Nat → Nat → Int32} {M1 : Nat → Nat → Int32} {M2 : Nat → Nat → Int32} {mp : Nat → Nat → Int32} {X : List va_E} {x y : Int32} {d : Nat} (hd : d < 4) (hS : Fc S) (hN : N ≤ 60) (hMS : ∀ j, j < 4 → Fc (MS j) ∧ MN j ≤ 60) (hin : inF x y = true) (hf : ¬ (ioF S N 4 = true ∧ mtF th (hmM MS MN) 4 (hmF S N N) = true)) : jTh l b D ta y_WF_draw b_WF_draw 4 (some .int) (rK 88 1 6) [.ref (b + 0), .int x, .int y, .int (nI d)] (hC b ta F0 F1 F2 A0 A1 A2 ec er ed eu eo P0 P1 P2 S N th MS MN so qo sN qN kN tN M0 M1 M2 mp X) "java/lang/IllegalArgumentException" (hC b ta F0 F1 F2 A0 A1 A2 ec er ed eu eo P0 P1 P2 S N th MS MN so qo sN qN kN tN M0 M1 M2 mp X) := by
  refine jTh_of (own := "WireField") (by decide +kernel) (Nat.le_of_ble_eq_true rfl) rfl (fun Γ B htab K => ?_)
  change jW l b D Γ False 0 0 4 (hC b ta F0 F1 F2 A0 A1 A2 ec er ed eu eo P0 P1 P2 S N th MS MN so qo sN qN kN tN M0 M1 M2 mp X) [(0, .ref (b + 0)), (1, .int x), (2, .int y), (3, .int (nI d))] 0 []
  refine j_iload_n B d_WF_draw_0 rfl 1 rfl ?_
  refine j_iload_n B d_WF_draw_1 rfl 2 rfl ?_
  refine kx_callS (as := [.int x, .int y]) (rest := []) (st1 := [.int (bI (inF x y))]) B (c_WF_isWithin x y) yf_WF_isWithin w_226 w_227 rfl (by decide) (by decide) rfl rfl (Nat.le_of_ble_eq_true rfl) d_WF_draw_2 ?_
  refine j_if_eq B d_WF_draw_5 rfl (fun h5 => absurd (bI_f h5) (by rw [hin]; decide)) (fun h5 => ?_)
  refine j_iload_n B d_WF_draw_8 rfl 3 rfl ?_
  refine j_if_lt B d_WF_draw_9 rfl (fun h9 => absurd h9 (nI_pos (by omega))) (fun h9 => ?_)
  refine j_iload_n B d_WF_draw_12 rfl 3 rfl ?_
  refine j_iconst (v := 4) B d_WF_draw_13 (by decide) ?_
  refine j_icmp_lt B d_WF_draw_14 rfl (fun h14 => ?_) (fun h14 => absurd (nI_lt (b := 4) hd (by decide)) h14)
  refine j_aload_n B d_WF_draw_27 rfl 0 rfl ?_
  refine gf_WF_29 B rfl rfl d_WF_draw_28 ?_
  refine j_iconst (v := 4) B d_WF_draw_31 (by decide) ?_
  refine kx_callV (as := [.int 4]) (rest := []) (st1 := [.int (bI (ioF S N 4))]) B (c_Tx_isOrders rfl rfl hS hN 4) yf_Tx_isOrders w_439 w_440 w_441 rfl rfl rfl (by decide) (by decide) rfl rfl (Nat.le_of_ble_eq_true rfl) d_WF_draw_32 ?_
  refine j_if_eq B d_WF_draw_35 rfl (fun h35 => ?_) (fun h35 => ?_)
  · -- 35 jump
    replace h35 := bI_f h35
    exact j_thr B hst htab (E := "java/lang/IllegalArgumentException") (names := ["java/lang/RuntimeException", "java/lang/Exception"]) (by decide) (by decide) (by decide) w_560 w_19 (is := 100) (text := "the line can not be drawn") (by decide) at_102 K (by decide) (by decide) (by decide) (by decide) d_WF_draw_45 d_WF_draw_48 d_WF_draw_49 d_WF_draw_51 d_WF_draw_54
  · -- 35 on
    replace h35 := bI_t h35
    refine j_aload_n B d_WF_draw_38 rfl 0 rfl ?_
    refine kx_callV (as := []) (rest := []) (st1 := [.int (bI (mtF th (hmM MS MN) 4 (hmF S N N)))]) B (c_WF_macrosOfLineAreThere hS hN hMS) yf_WF_macrosOfLineAreThere w_552 w_554 w_s10 rfl rfl rfl (by decide) (by decide) rfl rfl (Nat.le_of_ble_eq_true rfl) d_WF_draw_39 ?_
    refine j_if_ne B d_WF_draw_42 rfl (fun h42 => ?_) (fun h42 => ?_)
    · -- 42 jump
      replace h42 := bI_t h42
      exact absurd ⟨h35, h42⟩ hf
    · -- 42 on
      replace h42 := bI_f h42
      exact j_thr B hst htab (E := "java/lang/IllegalArgumentException") (names := ["java/lang/RuntimeException", "java/lang/Exception"]) (by decide) (by decide) (by decide) w_560 w_19 (is := 100) (text := "the line can not be drawn") (by decide) at_102 K (by decide) (by decide) (by decide) (by decide) d_WF_draw_45 d_WF_draw_48 d_WF_draw_49 d_WF_draw_51 d_WF_draw_54
set_option maxRecDepth 100000 in
set_option maxHeartbeats 4000000 in
theorem x_WF_draw_3 {l : Launch} {b : Nat} {D : va_G} {ta : Nat → ClassId} (hst : l.stackTraces = false) {F0 : Nat → Int32} {F1 : Nat → Int32} {F2 : Nat → Int32} {A0 : Nat → Int32} {A1 : Nat → Int32} {A2 : Nat → Int32} {ec : Int32} {er : Int32} {ed : Nat} {eu : Bool} {eo : Nat} {P0 : Nat → Int32} {P1 : Nat → Int32} {P2 : Nat → Int32} {S : Nat → Int32} {N : Nat} {th : Nat → Int32} {MS : Nat → Nat → Int32} {MN : Nat → Nat} {so : Nat → Int32 × Int32 × Int64 × Nat × Nat} {qo : Nat → Int32 × Int32 × Int32 × Int32 × Int64} {sN : Nat} {qN : Nat} {kN : Nat} {tN : Nat} {M0 : Nat → Nat → Int32} {M1 : Nat → Nat → Int32} {M2 : Nat → Nat → Int32} {mp : Nat → Nat → Int32} {X : List va_E} {x y : Int32} {d : Nat} (hd : d < 4) (hS : Fc S) (hN : N ≤ 60) (hMS : ∀ j, j < 4 → Fc (MS j) ∧ MN j ≤ 60) (z0 : Z24 F0) (z1 : Z24 F1) (z2 : Z24 F2) (y0 : Z24 P0) (y1 : Z24 P1) (y2 : Z24 P2) (hin : inF x y = true) (hio : ioF S N 4 = true) (hmt : mtF th (hmM MS MN) 4 (hmF S N N) = true) (hdr : (drX MS MN S N x y d F0 F1 F2).1 = false) : jTh l b D ta y_WF_draw b_WF_draw 4 (some .int) (rK 88 1 6) [.ref (b + 0), .int x, .int y, .int (nI d)] (hC b ta F0 F1 F2 A0 A1 A2 ec er ed eu eo P0 P1 P2 S N th MS MN so qo sN qN kN tN M0 M1 M2 mp X) "java/lang/UnsupportedOperationException" (hC b ta F0 F1 F2 A0 A1 A2 ((drX MS MN S N x y d F0 F1 F2).2.1) ((drX MS MN S N x y d F0 F1 F2).2.2.1) ((drX MS MN S N x y d F0 F1 F2).2.2.2.1) ((drX MS MN S N x y d F0 F1 F2).2.2.2.2.1) ((drX MS MN S N x y d F0 F1 F2).2.2.2.2.2.1) ((drX MS MN S N x y d F0 F1 F2).2.2.2.2.2.2.1) ((drX MS MN S N x y d F0 F1 F2).2.2.2.2.2.2.2.1) ((drX MS MN S N x y d F0 F1 F2).2.2.2.2.2.2.2.2) S N th MS MN so qo sN qN kN tN M0 M1 M2 mp X) := by
  refine jTh_of (own := "WireField") (by decide +kernel) (Nat.le_of_ble_eq_true rfl) rfl (fun Γ B htab K => ?_)
  change jW l b D Γ False 0 0 4 (hC b ta F0 F1 F2 A0 A1 A2 ec er ed eu eo P0 P1 P2 S N th MS MN so qo sN qN kN tN M0 M1 M2 mp X) [(0, .ref (b + 0)), (1, .int x), (2, .int y), (3, .int (nI d))] 0 []
  refine j_iload_n B d_WF_draw_0 rfl 1 rfl ?_
  refine j_iload_n B d_WF_draw_1 rfl 2 rfl ?_
  refine kx_callS (as := [.int x, .int y]) (rest := []) (st1 := [.int (bI (inF x y))]) B (c_WF_isWithin x y) yf_WF_isWithin w_226 w_227 rfl (by decide) (by decide) rfl rfl (Nat.le_of_ble_eq_true rfl) d_WF_draw_2 ?_
  refine j_if_eq B d_WF_draw_5 rfl (fun h5 => absurd (bI_f h5) (by rw [hin]; decide)) (fun h5 => ?_)
  refine j_iload_n B d_WF_draw_8 rfl 3 rfl ?_
  refine j_if_lt B d_WF_draw_9 rfl (fun h9 => absurd h9 (nI_pos (by omega))) (fun h9 => ?_)
  refine j_iload_n B d_WF_draw_12 rfl 3 rfl ?_
  refine j_iconst (v := 4) B d_WF_draw_13 (by decide) ?_
  refine j_icmp_lt B d_WF_draw_14 rfl (fun h14 => ?_) (fun h14 => absurd (nI_lt (b := 4) hd (by decide)) h14)
  refine j_aload_n B d_WF_draw_27 rfl 0 rfl ?_
  refine gf_WF_29 B rfl rfl d_WF_draw_28 ?_
  refine j_iconst (v := 4) B d_WF_draw_31 (by decide) ?_
  refine kx_callV (as := [.int 4]) (rest := []) (st1 := [.int (bI (ioF S N 4))]) B (c_Tx_isOrders rfl rfl hS hN 4) yf_Tx_isOrders w_439 w_440 w_441 rfl rfl rfl (by decide) (by decide) rfl rfl (Nat.le_of_ble_eq_true rfl) d_WF_draw_32 ?_
  refine j_if_eq B d_WF_draw_35 rfl (fun h35 => absurd (bI_f h35) (by rw [hio]; decide)) (fun h35 => ?_)
  refine j_aload_n B d_WF_draw_38 rfl 0 rfl ?_
  refine kx_callV (as := []) (rest := []) (st1 := [.int (bI (mtF th (hmM MS MN) 4 (hmF S N N)))]) B (c_WF_macrosOfLineAreThere hS hN hMS) yf_WF_macrosOfLineAreThere w_552 w_554 w_s10 rfl rfl rfl (by decide) (by decide) rfl rfl (Nat.le_of_ble_eq_true rfl) d_WF_draw_39 ?_
  refine j_if_ne B d_WF_draw_42 rfl (fun h42 => ?_) (fun h42 => absurd (bI_f h42) (by rw [hmt]; decide))
  refine j_aload_n B d_WF_draw_55 rfl 0 rfl ?_
  refine gf_WF_22 B rfl rfl d_WF_draw_56 ?_
  refine j_aload_n B d_WF_draw_59 rfl 0 rfl ?_
  refine gf_WF_12 B rfl rfl d_WF_draw_60 ?_
  refine j_iload_n B d_WF_draw_63 rfl 1 rfl ?_
  refine j_iload_n B d_WF_draw_64 rfl 2 rfl ?_
  refine j_iload_n B d_WF_draw_65 rfl 3 rfl ?_
  refine jW.heap (σ2 := pS b ta (hC b ta F0 F1 F2 A0 A1 A2 ec er ed eu eo P0 P1 P2 S N th MS MN so qo sN qN kN tN M0 M1 M2 mp X) 9 10 11 12 13 ec er ed eu eo P0 P1 P2) rfl ?_
  refine kx_callV (as := [.ref (b + 1), .int x, .int y, .int (nI d)]) (rest := []) (st1 := []) B (c_Pe_begin hC_pWp (g2 := 1) (h2 := 2) (t2 := 3) (w2 := 4) rfl rfl rfl rfl (by decide) (by decide) (by decide) (by decide) (by decide) (by decide) (by decide) (by decide) (by decide) (by decide) (by decide) (by decide) (by decide) (by decide) (by decide) (by decide) z0 z1 z2 y0 y1 y2 x y d) yf_Pe_begin w_576 w_577 w_578 rfl rfl rfl (by decide) (by decide) rfl rfl (Nat.le_of_ble_eq_true rfl) d_WF_draw_66 ?_
  refine jW.heap (σ2 := hC b ta F0 F1 F2 A0 A1 A2 x y d true 0 F0 F1 F2 S N th MS MN so qo sN qN kN tN M0 M1 M2 mp X) rfl ?_
  refine j_aload_n B d_WF_draw_69 rfl 0 rfl ?_
  refine j_aload_n B d_WF_draw_70 rfl 0 rfl ?_
  refine gf_WF_29 B rfl rfl d_WF_draw_71 ?_
  refine j_iconst (v := 0) B d_WF_draw_74 (by decide) ?_
  refine j_aload_n B d_WF_draw_75 rfl 0 rfl ?_
  refine gf_WF_29 B rfl rfl d_WF_draw_76 ?_
  refine gf_WF_107 B rfl rfl d_WF_draw_79 ?_
  refine j_iconst (v := 1) B d_WF_draw_82 (by decide) ?_
  refine jW.heap (σ2 := pS b ta (hC b ta F0 F1 F2 A0 A1 A2 x y d true 0 F0 F1 F2 S N th MS MN so qo sN qN kN tN M0 M1 M2 mp X) 9 10 11 12 13 x y d true 0 F0 F1 F2) rfl ?_
  refine kx_callV (as := [.ref (b + 14), .int 0, .int (nI N), .int 1]) (rest := []) (st1 := [.int (bI (drX MS MN S N x y d F0 F1 F2).1)]) B (c_WF_performD hC_pWp rfl rfl (fun j hj => ⟨hC_mx hj, hC_ms hj, (hMS j hj).1, (hMS j hj).2, ⟨by omega, by omega, by omega, by omega⟩, ⟨by omega, by omega, by omega, by omega⟩⟩) 20 1 rfl 14 15 S N ⟨rfl, rfl, hS, hN, ⟨by omega, by omega, by omega, by omega⟩, ⟨by omega, by omega, by omega, by omega⟩⟩ 0 N x y d true 0 F0 F1 F2 (Nat.zero_le _) (Nat.le_refl _) hd (by decide)) yf_WF_perform w_581 w_583 w_s11 rfl rfl rfl (by decide) (by decide) rfl rfl (Nat.le_of_ble_eq_true rfl) d_WF_draw_83 ?_
  refine jW.heap (σ2 := hC b ta F0 F1 F2 A0 A1 A2 ((drX MS MN S N x y d F0 F1 F2).2.1) ((drX MS MN S N x y d F0 F1 F2).2.2.1) ((drX MS MN S N x y d F0 F1 F2).2.2.2.1) ((drX MS MN S N x y d F0 F1 F2).2.2.2.2.1) ((drX MS MN S N x y d F0 F1 F2).2.2.2.2.2.1) ((drX MS MN S N x y d F0 F1 F2).2.2.2.2.2.2.1) ((drX MS MN S N x y d F0 F1 F2).2.2.2.2.2.2.2.1) ((drX MS MN S N x y d F0 F1 F2).2.2.2.2.2.2.2.2) S N th MS MN so qo sN qN kN tN M0 M1 M2 mp X) rfl ?_
  refine j_if_ne B d_WF_draw_86 rfl (fun h86 => absurd (bI_t h86) (by rw [hdr]; decide)) (fun h86 => ?_)
  exact j_thr B hst htab (E := "java/lang/UnsupportedOperationException") (names := ["java/lang/RuntimeException", "java/lang/Exception"]) (by decide) (by decide) (by decide) w_654 w_21 (is := 116) (text := "the line leads beyond the field or does too many orders") (by decide) at_118 K (by decide) (by decide) (by decide) (by decide) d_WF_draw_89 d_WF_draw_92 d_WF_draw_93 d_WF_draw_95 d_WF_draw_98
set_option maxRecDepth 100000 in
set_option maxHeartbeats 4000000 in
theorem x_WF_macro_1 {l : Launch} {b : Nat} {D : va_G} {ta : Nat → ClassId} (hst : l.stackTraces = false) {F0 : Nat → Int32} {F1 : Nat → Int32} {F2 : Nat → Int32} {A0 : Nat → Int32} {A1 : Nat → Int32} {A2 : Nat → Int32} {ec : Int32} {er : Int32} {ed : Nat} {eu : Bool} {eo : Nat} {P0 : Nat → Int32} {P1 : Nat → Int32} {P2 : Nat → Int32} {S : Nat → Int32} {N : Nat} {th : Nat → Int32} {MS : Nat → Nat → Int32} {MN : Nat → Nat} {so : Nat → Int32 × Int32 × Int64 × Nat × Nat} {qo : Nat → Int32 × Int32 × Int32 × Int32 × Int64} {sN : Nat} {qN : Nat} {kN : Nat} {tN : Nat} {M0 : Nat → Nat → Int32} {M1 : Nat → Nat → Int32} {M2 : Nat → Nat → Int32} {mp : Nat → Nat → Int32} {X : List va_E} {z : Int32} (hf : z < 0 ∨ 4 ≤ z) : jTh l b D ta y_WF_macro b_WF_macro 2 none (rK 29 1 6) [.ref (b + 0), .int z] (hC b ta F0 F1 F2 A0 A1 A2 ec er ed eu eo P0 P1 P2 S N th MS MN so qo sN qN kN tN M0 M1 M2 mp X) "java/lang/IndexOutOfBoundsException" (hC b ta F0 F1 F2 A0 A1 A2 ec er ed eu eo P0 P1 P2 S N th MS MN so qo sN qN kN tN M0 M1 M2 mp X) := by
  refine jTh_of (own := "WireField") (by decide +kernel) (Nat.le_of_ble_eq_true rfl) rfl (fun Γ B htab K => ?_)
  change jW l b D Γ False 0 0 2 (hC b ta F0 F1 F2 A0 A1 A2 ec er ed eu eo P0 P1 P2 S N th MS MN so qo sN qN kN tN M0 M1 M2 mp X) [(0, .ref (b + 0)), (1, .int z)] 0 []
  refine j_iload_n B d_WF_macro_0 rfl 1 rfl ?_
  refine j_if_lt B d_WF_macro_1 rfl (fun h1 => ?_) (fun h1 => ?_)
  · -- 1 jump
    exact j_thr B hst htab (E := "java/lang/IndexOutOfBoundsException") (names := ["java/lang/RuntimeException", "java/lang/Exception"]) (by decide) (by decide) (by decide) w_371 w_12 (is := 135) (text := "there is no such macro") (by decide) at_87 K (by decide) (by decide) (by decide) (by decide) d_WF_macro_9 d_WF_macro_12 d_WF_macro_13 d_WF_macro_15 d_WF_macro_18
  · -- 1 on
    refine j_iload_n B d_WF_macro_4 rfl 1 rfl ?_
    refine j_iconst (v := 4) B d_WF_macro_5 (by decide) ?_
    refine j_icmp_lt B d_WF_macro_6 rfl (fun h6 => ?_) (fun h6 => ?_)
    · -- 6 jump
      exact absurd hf (fun q => q.elim h1 (fun q => Int32.not_lt.mpr q h6))
    · -- 6 on
      exact j_thr B hst htab (E := "java/lang/IndexOutOfBoundsException") (names := ["java/lang/RuntimeException", "java/lang/Exception"]) (by decide) (by decide) (by decide) w_371 w_12 (is := 135) (text := "there is no such macro") (by decide) at_87 K (by decide) (by decide) (by decide) (by decide) d_WF_macro_9 d_WF_macro_12 d_WF_macro_13 d_WF_macro_15 d_WF_macro_18
set_option maxRecDepth 100000 in
set_option maxHeartbeats 4000000 in
theorem x_WF_macro_2 {l : Launch} {b : Nat} {D : va_G} {ta : Nat → ClassId} (hst : l.stackTraces = false) {F0 : Nat → Int32} {F1 : Nat → Int32} {F2 : Nat → Int32} {A0 : Nat → Int32} {A1 : Nat → Int32} {A2 : Nat → Int32} {ec : Int32} {er : Int32} {ed : Nat} {eu : Bool} {eo : Nat} {P0 : Nat → Int32} {P1 : Nat → Int32} {P2 : Nat → Int32} {S : Nat → Int32} {N : Nat} {th : Nat → Int32} {MS : Nat → Nat → Int32} {MN : Nat → Nat} {so : Nat → Int32 × Int32 × Int64 × Nat × Nat} {qo : Nat → Int32 × Int32 × Int32 × Int32 × Int64} {sN : Nat} {qN : Nat} {kN : Nat} {tN : Nat} {M0 : Nat → Nat → Int32} {M1 : Nat → Nat → Int32} {M2 : Nat → Nat → Int32} {mp : Nat → Nat → Int32} {X : List va_E} {j : Nat} (hj : j < 4) (hS : Fc S) (hN : N ≤ 60) (hio : ioF S N j = false) : jTh l b D ta y_WF_macro b_WF_macro 2 none (rK 29 1 6) [.ref (b + 0), .int (nI j)] (hC b ta F0 F1 F2 A0 A1 A2 ec er ed eu eo P0 P1 P2 S N th MS MN so qo sN qN kN tN M0 M1 M2 mp X) "java/lang/IllegalArgumentException" (hC b ta F0 F1 F2 A0 A1 A2 ec er ed eu eo P0 P1 P2 S N th MS MN so qo sN qN kN tN M0 M1 M2 mp X) := by
  refine jTh_of (own := "WireField") (by decide +kernel) (Nat.le_of_ble_eq_true rfl) rfl (fun Γ B htab K => ?_)
  change jW l b D Γ False 0 0 2 (hC b ta F0 F1 F2 A0 A1 A2 ec er ed eu eo P0 P1 P2 S N th MS MN so qo sN qN kN tN M0 M1 M2 mp X) [(0, .ref (b + 0)), (1, .int (nI j))] 0 []
  refine j_iload_n B d_WF_macro_0 rfl 1 rfl ?_
  refine j_if_lt B d_WF_macro_1 rfl (fun h1 => absurd h1 (nI_pos (by omega))) (fun h1 => ?_)
  refine j_iload_n B d_WF_macro_4 rfl 1 rfl ?_
  refine j_iconst (v := 4) B d_WF_macro_5 (by decide) ?_
  refine j_icmp_lt B d_WF_macro_6 rfl (fun h6 => ?_) (fun h6 => absurd (nI_lt (b := 4) hj (by decide)) h6)
  refine j_aload_n B d_WF_macro_19 rfl 0 rfl ?_
  refine gf_WF_29 B rfl rfl d_WF_macro_20 ?_
  refine j_iload_n B d_WF_macro_23 rfl 1 rfl ?_
  refine kx_callV (as := [.int (nI j)]) (rest := []) (st1 := [.int (bI (ioF S N j))]) B (c_Tx_isOrders rfl rfl hS hN j) yf_Tx_isOrders w_439 w_440 w_441 rfl rfl rfl (by decide) (by decide) rfl rfl (Nat.le_of_ble_eq_true rfl) d_WF_macro_24 ?_
  refine j_if_ne B d_WF_macro_27 rfl (fun h27 => absurd (bI_t h27) (by rw [hio]; decide)) (fun h27 => ?_)
  exact j_thr B hst htab (E := "java/lang/IllegalArgumentException") (names := ["java/lang/RuntimeException", "java/lang/Exception"]) (by decide) (by decide) (by decide) w_560 w_19 (is := 137) (text := "the line can not be this macro") (by decide) at_102 K (by decide) (by decide) (by decide) (by decide) d_WF_macro_30 d_WF_macro_33 d_WF_macro_34 d_WF_macro_36 d_WF_macro_39
set_option maxRecDepth 100000 in
set_option maxHeartbeats 4000000 in
theorem x_WF_seen_1 {l : Launch} {b : Nat} {D : va_G} {ta : Nat → ClassId} (hst : l.stackTraces = false) {F0 : Nat → Int32} {F1 : Nat → Int32} {F2 : Nat → Int32} {A0 : Nat → Int32} {A1 : Nat → Int32} {A2 : Nat → Int32} {ec : Int32} {er : Int32} {ed : Nat} {eu : Bool} {eo : Nat} {P0 : Nat → Int32} {P1 : Nat → Int32} {P2 : Nat → Int32} {S : Nat → Int32} {N : Nat} {th : Nat → Int32} {MS : Nat → Nat → Int32} {MN : Nat → Nat} {so : Nat → Int32 × Int32 × Int64 × Nat × Nat} {qo : Nat → Int32 × Int32 × Int32 × Int32 × Int64} {sN : Nat} {qN : Nat} {kN : Nat} {tN : Nat} {M0 : Nat → Nat → Int32} {M1 : Nat → Nat → Int32} {M2 : Nat → Nat → Int32} {mp : Nat → Nat → Int32} {X : List va_E} {x v : Int32} (hf : x < 0 ∨ nI qN ≤ x ∨ v < 0 ∨ 1 < v) : jTh l b D ta y_WF_seen b_WF_seen 3 (some .int) (rK 6 1 6) [.ref (b + 0), .int x, .int v] (hC b ta F0 F1 F2 A0 A1 A2 ec er ed eu eo P0 P1 P2 S N th MS MN so qo sN qN kN tN M0 M1 M2 mp X) "java/lang/IndexOutOfBoundsException" (hC b ta F0 F1 F2 A0 A1 A2 ec er ed eu eo P0 P1 P2 S N th MS MN so qo sN qN kN tN M0 M1 M2 mp X) := by
  refine jTh_of (own := "WireField") (by decide +kernel) (Nat.le_of_ble_eq_true rfl) rfl (fun Γ B htab K => ?_)
  change jW l b D Γ False 0 0 3 (hC b ta F0 F1 F2 A0 A1 A2 ec er ed eu eo P0 P1 P2 S N th MS MN so qo sN qN kN tN M0 M1 M2 mp X) [(0, .ref (b + 0)), (1, .int x), (2, .int v)] 0 []
  refine j_iload_n B d_WF_seen_0 rfl 1 rfl ?_
  refine j_if_lt B d_WF_seen_1 rfl (fun h1 => ?_) (fun h1 => ?_)
  · -- 1 jump
    exact j_thr B hst htab (E := "java/lang/IndexOutOfBoundsException") (names := ["java/lang/RuntimeException", "java/lang/Exception"]) (by decide) (by decide) (by decide) w_371 w_12 (is := 189) (text := "there is no such probe or what") (by decide) at_87 K (by decide) (by decide) (by decide) (by decide) d_WF_seen_21 d_WF_seen_24 d_WF_seen_25 d_WF_seen_27 d_WF_seen_30
  · -- 1 on
    refine j_iload_n B d_WF_seen_4 rfl 1 rfl ?_
    refine j_aload_n B d_WF_seen_5 rfl 0 rfl ?_
    refine gf_WF_57 B rfl rfl d_WF_seen_6 ?_
    refine j_icmp_ge B d_WF_seen_9 rfl (fun h9 => ?_) (fun h9 => ?_)
    · -- 9 jump
      exact j_thr B hst htab (E := "java/lang/IndexOutOfBoundsException") (names := ["java/lang/RuntimeException", "java/lang/Exception"]) (by decide) (by decide) (by decide) w_371 w_12 (is := 189) (text := "there is no such probe or what") (by decide) at_87 K (by decide) (by decide) (by decide) (by decide) d_WF_seen_21 d_WF_seen_24 d_WF_seen_25 d_WF_seen_27 d_WF_seen_30
    · -- 9 on
      refine j_iload_n B d_WF_seen_12 rfl 2 rfl ?_
      refine j_if_lt B d_WF_seen_13 rfl (fun h13 => ?_) (fun h13 => ?_)
      · -- 13 jump
        exact j_thr B hst htab (E := "java/lang/IndexOutOfBoundsException") (names := ["java/lang/RuntimeException", "java/lang/Exception"]) (by decide) (by decide) (by decide) w_371 w_12 (is := 189) (text := "there is no such probe or what") (by decide) at_87 K (by decide) (by decide) (by decide) (by decide) d_WF_seen_21 d_WF_seen_24 d_WF_seen_25 d_WF_seen_27 d_WF_seen_30
      · -- 13 on
        refine j_iload_n B d_WF_seen_16 rfl 2 rfl ?_
        refine j_iconst (v := 1) B d_WF_seen_17 (by decide) ?_
        refine j_icmp_le B d_WF_seen_18 rfl (fun h18 => ?_) (fun h18 => ?_)
        · -- 18 jump
          exact absurd hf (fun q => q.elim h1 (fun q => q.elim h9 (fun q => q.elim h13 (fun q => Int32.not_lt.mpr h18 q))))
        · -- 18 on
          exact j_thr B hst htab (E := "java/lang/IndexOutOfBoundsException") (names := ["java/lang/RuntimeException", "java/lang/Exception"]) (by decide) (by decide) (by decide) w_371 w_12 (is := 189) (text := "there is no such probe or what") (by decide) at_87 K (by decide) (by decide) (by decide) (by decide) d_WF_seen_21 d_WF_seen_24 d_WF_seen_25 d_WF_seen_27 d_WF_seen_30
