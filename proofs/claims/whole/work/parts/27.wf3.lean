set_option maxRecDepth 100000 in
set_option maxHeartbeats 4000000 in
theorem c_WF_copy_t {l : Launch} {b : Nat} {D : va_G} {ta : Nat → ClassId} {F0 : Nat → Int32} {F1 : Nat → Int32} {F2 : Nat → Int32} {A0 : Nat → Int32} {A1 : Nat → Int32} {A2 : Nat → Int32} {ec : Int32} {er : Int32} {ed : Nat} {eu : Bool} {eo : Nat} {P0 : Nat → Int32} {P1 : Nat → Int32} {P2 : Nat → Int32} {S : Nat → Int32} {N : Nat} {th : Nat → Int32} {MS : Nat → Nat → Int32} {MN : Nat → Nat} {so : Nat → Int32 × Int32 × Int64 × Nat × Nat} {qo : Nat → Int32 × Int32 × Int32 × Int32 × Int64} {sN : Nat} {qN : Nat} {kN : Nat} {tN : Nat} {M0 : Nat → Nat → Int32} {M1 : Nat → Nat → Int32} {M2 : Nat → Nat → Int32} {mp : Nat → Nat → Int32} {X : List va_E} {x y tx ty : Int32} {Wd Hd Tt : Nat} (hT : Tt < 4) (hWd : Wd < 2 ^ 30) (hHd : Hd < 2 ^ 30) (h1 : isP x y (nI Wd) (nI Hd) = true) (h2a : Tt % 2 = 1 → isP tx ty (nI Hd) (nI Wd) = true) (h2b : ¬ Tt % 2 = 1 → isP tx ty (nI Wd) (nI Hd) = true) (zF0 : Z24 F0) (zF1 : Z24 F1) (zF2 : Z24 F2) (zA0 : Z24 A0) (zA1 : Z24 A1) (zA2 : Z24 A2) : jC l b D ta False y_WF_copy b_WF_copy 11 (some .boolean) (rL 3) [.ref (b + 0), .int x, .int y, .int (nI Wd), .int (nI Hd), .int tx, .int ty, .int (nI Tt)] (hC b ta F0 F1 F2 A0 A1 A2 ec er ed eu eo P0 P1 P2 S N th MS MN so qo sN qN kN tN M0 M1 M2 mp X) (some (.int 1)) (hC b ta ((ptA F0 F1 F2 x y (nI Wd) (nI Hd) tx ty (nI Tt) Wd Hd (F0, F1, F2)).1) ((ptA F0 F1 F2 x y (nI Wd) (nI Hd) tx ty (nI Tt) Wd Hd (F0, F1, F2)).2.1) ((ptA F0 F1 F2 x y (nI Wd) (nI Hd) tx ty (nI Tt) Wd Hd (F0, F1, F2)).2.2) F0 F1 F2 ec er ed eu eo P0 P1 P2 S N th MS MN so qo sN qN 0 tN M0 M1 M2 mp X) := by
  refine jC_of (own := "WireField") (by decide +kernel) (Nat.le_of_ble_eq_true rfl) rfl (fun Γ B K => ?_)
  change jW l b D Γ False 0 0 11 (hC b ta F0 F1 F2 A0 A1 A2 ec er ed eu eo P0 P1 P2 S N th MS MN so qo sN qN kN tN M0 M1 M2 mp X) [(0, .ref (b + 0)), (1, .int x), (2, .int y), (3, .int (nI Wd)), (4, .int (nI Hd)), (5, .int tx), (6, .int ty), (7, .int (nI Tt))] 0 []
  refine j_iload B d_WF_copy_0 7 rfl ?_
  refine j_if_lt B d_WF_copy_2 rfl (fun h2 => absurd h2 (nI_pos (by omega))) (fun h2 => ?_)
  refine j_iload B d_WF_copy_5 7 rfl ?_
  refine j_iconst (v := 4) B d_WF_copy_7 (by decide) ?_
  refine j_icmp_ge B d_WF_copy_8 rfl (fun h8 => absurd h8 (nI_ge (b := 4) hT (by decide))) (fun h8 => ?_)
  refine j_iload_n B d_WF_copy_11 rfl 1 rfl ?_
  refine j_iload_n B d_WF_copy_12 rfl 2 rfl ?_
  refine j_iload_n B d_WF_copy_13 rfl 3 rfl ?_
  refine j_iload B d_WF_copy_14 4 rfl ?_
  refine k_callS (as := [.int x, .int y, .int (nI Wd), .int (nI Hd)]) (rest := []) (st1 := [.int (bI (isP x y (nI Wd) (nI Hd)))]) B (c_WF_isPiece x y (nI Wd) (nI Hd)) yf_WF_isPiece w_250 w_251 rfl (by decide) (by decide) rfl rfl (Nat.le_of_ble_eq_true rfl) d_WF_copy_16 ?_
  refine j_if_ne B d_WF_copy_19 rfl (fun h19 => ?_) (fun h19 => absurd (bI_f h19) (by rw [h1]; decide))
  refine j_iload B d_WF_copy_24 7 rfl ?_
  refine j_iconst (v := 2) B d_WF_copy_26 (by decide) ?_
  refine j_iremE (v := nI (Tt % 2)) B (by decide) (pk_rem (a := Tt) (d := 2) (by omega) (by decide) (by decide)) d_WF_copy_27 ?_
  refine j_iconst (v := 1) B d_WF_copy_28 (by decide) ?_
  refine j_icmp_ne B d_WF_copy_29 rfl (fun h29 => ?_) (fun h29 => ?_)
  · -- 29 jump
    have hq : ¬ Tt % 2 = 1 := fun q => h29 (by rw [q]; rfl)
    have h2 := h2b hq
    refine j_iconst (v := 0) B d_WF_copy_36 (by decide) ?_
    refine j_istore (L' := [(0, .ref (b + 0)), (1, .int x), (2, .int y), (3, .int (nI Wd)), (4, .int (nI Hd)), (5, .int tx), (6, .int ty), (7, .int (nI Tt)), (8, .int 0)]) B d_WF_copy_37 (by decide) [1, 2, 3, 4, 5, 6, 7, 8, 0] rfl ?_
    refine j_iload B d_WF_copy_39 8 rfl ?_
    refine j_if_eq B d_WF_copy_41 rfl (fun h41 => ?_) (fun h41 => absurd rfl h41)
    refine j_iload_n B d_WF_copy_49 rfl 3 rfl ?_
    refine j_istore (L' := [(0, .ref (b + 0)), (1, .int x), (2, .int y), (3, .int (nI Wd)), (4, .int (nI Hd)), (5, .int tx), (6, .int ty), (7, .int (nI Tt)), (8, .int 0), (9, .int (nI Wd))]) B d_WF_copy_50 (by decide) [1, 2, 3, 4, 5, 6, 7, 8, 9, 0] rfl ?_
    refine j_iload B d_WF_copy_52 8 rfl ?_
    refine j_if_eq B d_WF_copy_54 rfl (fun h54 => ?_) (fun h54 => absurd rfl h54)
    refine j_iload B d_WF_copy_61 4 rfl ?_
    refine j_istore (L' := [(0, .ref (b + 0)), (1, .int x), (2, .int y), (3, .int (nI Wd)), (4, .int (nI Hd)), (5, .int tx), (6, .int ty), (7, .int (nI Tt)), (8, .int 0), (9, .int (nI Wd)), (10, .int (nI Hd))]) B d_WF_copy_63 (by decide) [1, 2, 3, 4, 5, 6, 7, 8, 9, 10, 0] rfl ?_
    refine j_iload B d_WF_copy_65 5 rfl ?_
    refine j_iload B d_WF_copy_67 6 rfl ?_
    refine j_iload B d_WF_copy_69 9 rfl ?_
    refine j_iload B d_WF_copy_71 10 rfl ?_
    refine k_callS (as := [.int tx, .int ty, .int (nI Wd), .int (nI Hd)]) (rest := []) (st1 := [.int (bI (isP tx ty (nI Wd) (nI Hd)))]) B (c_WF_isPiece tx ty (nI Wd) (nI Hd)) yf_WF_isPiece w_250 w_251 rfl (by decide) (by decide) rfl rfl (Nat.le_of_ble_eq_true rfl) d_WF_copy_73 ?_
    refine j_if_ne B d_WF_copy_76 rfl (fun h76 => ?_) (fun h76 => absurd (bI_f h76) (by rw [h2]; decide))
    refine j_aload_n B d_WF_copy_81 rfl 0 rfl ?_
    refine gf_WF_16 B rfl rfl d_WF_copy_82 ?_
    refine j_aload_n B d_WF_copy_85 rfl 0 rfl ?_
    refine gf_WF_12 B rfl rfl d_WF_copy_86 ?_
    refine k_callV (as := [.ref (b + 1)]) (rest := []) (st1 := []) B (c_G_takeFrom rfl rfl rfl rfl rfl rfl rfl rfl (by decide) (by decide) (by decide) (by decide) (by decide) (by decide) (by decide) (by decide) (by decide) (by decide) (by decide) (by decide) (by decide) (by decide) (by decide) (by decide) (by decide) (by decide) zF0 zF1 zF2 zA0 zA1 zA2) yf_G_takeFrom w_253 w_254 w_255 rfl rfl rfl (by decide) (by decide) rfl rfl (Nat.le_of_ble_eq_true rfl) d_WF_copy_89 ?_
    refine jW.heap (σ2 := hC b ta F0 F1 F2 F0 F1 F2 ec er ed eu eo P0 P1 P2 S N th MS MN so qo sN qN kN tN M0 M1 M2 mp X) rfl ?_
    refine j_aload_n B d_WF_copy_92 rfl 0 rfl ?_
    refine j_iload_n B d_WF_copy_93 rfl 1 rfl ?_
    refine j_iload_n B d_WF_copy_94 rfl 2 rfl ?_
    refine j_iload_n B d_WF_copy_95 rfl 3 rfl ?_
    refine j_iload B d_WF_copy_96 4 rfl ?_
    refine j_iload B d_WF_copy_98 5 rfl ?_
    refine j_iload B d_WF_copy_100 6 rfl ?_
    refine j_iload B d_WF_copy_102 7 rfl ?_
    refine k_callV (as := [.int x, .int y, .int (nI Wd), .int (nI Hd), .int tx, .int ty, .int (nI Tt)]) (rest := []) (st1 := []) B (c_WF_putTurned x y tx ty (nI Tt) hWd hHd) yf_WF_putTurned w_260 w_262 w_s1 rfl rfl rfl (by decide) (by decide) rfl rfl (Nat.le_of_ble_eq_true rfl) d_WF_copy_104 ?_
    refine j_aload_n B d_WF_copy_107 rfl 0 rfl ?_
    refine k_callV (as := []) (rest := []) (st1 := []) B c_WF_forgetHistory yf_WF_forgetHistory w_234 w_236 w_s0 rfl rfl rfl (by decide) (by decide) rfl rfl (Nat.le_of_ble_eq_true rfl) d_WF_copy_108 ?_
    refine j_iconst (v := 1) B d_WF_copy_111 (by decide) ?_
    exact j_zret B K (by decide) rfl rfl d_WF_copy_112
  · -- 29 on
    have hq : Tt % 2 = 1 := (nI_eq (by omega) (by decide)).mp h29
    have h2 := h2a hq
    refine j_iconst (v := 1) B d_WF_copy_32 (by decide) ?_
    refine j_goto B d_WF_copy_33 rfl ?_
    refine j_istore (L' := [(0, .ref (b + 0)), (1, .int x), (2, .int y), (3, .int (nI Wd)), (4, .int (nI Hd)), (5, .int tx), (6, .int ty), (7, .int (nI Tt)), (8, .int 1)]) B d_WF_copy_37 (by decide) [1, 2, 3, 4, 5, 6, 7, 8, 0] rfl ?_
    refine j_iload B d_WF_copy_39 8 rfl ?_
    refine j_if_eq B d_WF_copy_41 rfl (fun h41 => absurd h41 (by decide)) (fun h41 => ?_)
    refine j_iload B d_WF_copy_44 4 rfl ?_
    refine j_goto B d_WF_copy_46 rfl ?_
    refine j_istore (L' := [(0, .ref (b + 0)), (1, .int x), (2, .int y), (3, .int (nI Wd)), (4, .int (nI Hd)), (5, .int tx), (6, .int ty), (7, .int (nI Tt)), (8, .int 1), (9, .int (nI Hd))]) B d_WF_copy_50 (by decide) [1, 2, 3, 4, 5, 6, 7, 8, 9, 0] rfl ?_
    refine j_iload B d_WF_copy_52 8 rfl ?_
    refine j_if_eq B d_WF_copy_54 rfl (fun h54 => absurd h54 (by decide)) (fun h54 => ?_)
    refine j_iload_n B d_WF_copy_57 rfl 3 rfl ?_
    refine j_goto B d_WF_copy_58 rfl ?_
    refine j_istore (L' := [(0, .ref (b + 0)), (1, .int x), (2, .int y), (3, .int (nI Wd)), (4, .int (nI Hd)), (5, .int tx), (6, .int ty), (7, .int (nI Tt)), (8, .int 1), (9, .int (nI Hd)), (10, .int (nI Wd))]) B d_WF_copy_63 (by decide) [1, 2, 3, 4, 5, 6, 7, 8, 9, 10, 0] rfl ?_
    refine j_iload B d_WF_copy_65 5 rfl ?_
    refine j_iload B d_WF_copy_67 6 rfl ?_
    refine j_iload B d_WF_copy_69 9 rfl ?_
    refine j_iload B d_WF_copy_71 10 rfl ?_
    refine k_callS (as := [.int tx, .int ty, .int (nI Hd), .int (nI Wd)]) (rest := []) (st1 := [.int (bI (isP tx ty (nI Hd) (nI Wd)))]) B (c_WF_isPiece tx ty (nI Hd) (nI Wd)) yf_WF_isPiece w_250 w_251 rfl (by decide) (by decide) rfl rfl (Nat.le_of_ble_eq_true rfl) d_WF_copy_73 ?_
    refine j_if_ne B d_WF_copy_76 rfl (fun h76 => ?_) (fun h76 => absurd (bI_f h76) (by rw [h2]; decide))
    refine j_aload_n B d_WF_copy_81 rfl 0 rfl ?_
    refine gf_WF_16 B rfl rfl d_WF_copy_82 ?_
    refine j_aload_n B d_WF_copy_85 rfl 0 rfl ?_
    refine gf_WF_12 B rfl rfl d_WF_copy_86 ?_
    refine k_callV (as := [.ref (b + 1)]) (rest := []) (st1 := []) B (c_G_takeFrom rfl rfl rfl rfl rfl rfl rfl rfl (by decide) (by decide) (by decide) (by decide) (by decide) (by decide) (by decide) (by decide) (by decide) (by decide) (by decide) (by decide) (by decide) (by decide) (by decide) (by decide) (by decide) (by decide) zF0 zF1 zF2 zA0 zA1 zA2) yf_G_takeFrom w_253 w_254 w_255 rfl rfl rfl (by decide) (by decide) rfl rfl (Nat.le_of_ble_eq_true rfl) d_WF_copy_89 ?_
    refine jW.heap (σ2 := hC b ta F0 F1 F2 F0 F1 F2 ec er ed eu eo P0 P1 P2 S N th MS MN so qo sN qN kN tN M0 M1 M2 mp X) rfl ?_
    refine j_aload_n B d_WF_copy_92 rfl 0 rfl ?_
    refine j_iload_n B d_WF_copy_93 rfl 1 rfl ?_
    refine j_iload_n B d_WF_copy_94 rfl 2 rfl ?_
    refine j_iload_n B d_WF_copy_95 rfl 3 rfl ?_
    refine j_iload B d_WF_copy_96 4 rfl ?_
    refine j_iload B d_WF_copy_98 5 rfl ?_
    refine j_iload B d_WF_copy_100 6 rfl ?_
    refine j_iload B d_WF_copy_102 7 rfl ?_
    refine k_callV (as := [.int x, .int y, .int (nI Wd), .int (nI Hd), .int tx, .int ty, .int (nI Tt)]) (rest := []) (st1 := []) B (c_WF_putTurned x y tx ty (nI Tt) hWd hHd) yf_WF_putTurned w_260 w_262 w_s1 rfl rfl rfl (by decide) (by decide) rfl rfl (Nat.le_of_ble_eq_true rfl) d_WF_copy_104 ?_
    refine j_aload_n B d_WF_copy_107 rfl 0 rfl ?_
    refine k_callV (as := []) (rest := []) (st1 := []) B c_WF_forgetHistory yf_WF_forgetHistory w_234 w_236 w_s0 rfl rfl rfl (by decide) (by decide) rfl rfl (Nat.le_of_ble_eq_true rfl) d_WF_copy_108 ?_
    refine j_iconst (v := 1) B d_WF_copy_111 (by decide) ?_
    exact j_zret B K (by decide) rfl rfl d_WF_copy_112
set_option maxRecDepth 100000 in
set_option maxHeartbeats 4000000 in
theorem c_WF_copy_g {l : Launch} {b : Nat} {D : va_G} {ta : Nat → ClassId} {F0 : Nat → Int32} {F1 : Nat → Int32} {F2 : Nat → Int32} {A0 : Nat → Int32} {A1 : Nat → Int32} {A2 : Nat → Int32} {ec : Int32} {er : Int32} {ed : Nat} {eu : Bool} {eo : Nat} {P0 : Nat → Int32} {P1 : Nat → Int32} {P2 : Nat → Int32} {S : Nat → Int32} {N : Nat} {th : Nat → Int32} {MS : Nat → Nat → Int32} {MN : Nat → Nat} {so : Nat → Int32 × Int32 × Int64 × Nat × Nat} {qo : Nat → Int32 × Int32 × Int32 × Int32 × Int64} {sN : Nat} {qN : Nat} {kN : Nat} {tN : Nat} {M0 : Nat → Nat → Int32} {M1 : Nat → Nat → Int32} {M2 : Nat → Nat → Int32} {mp : Nat → Nat → Int32} {X : List va_E} {x y tx ty : Int32} {Wd Hd Tt : Nat} (hT : Tt < 4) (hWd : Wd < 2 ^ 30) (hHd : Hd < 2 ^ 30) (h1 : isP x y (nI Wd) (nI Hd) = true) (h2a : Tt % 2 = 1 → isP tx ty (nI Hd) (nI Wd) = false) (h2b : ¬ Tt % 2 = 1 → isP tx ty (nI Wd) (nI Hd) = false) : jC l b D ta False y_WF_copy b_WF_copy 11 (some .boolean) (rL 3) [.ref (b + 0), .int x, .int y, .int (nI Wd), .int (nI Hd), .int tx, .int ty, .int (nI Tt)] (hC b ta F0 F1 F2 A0 A1 A2 ec er ed eu eo P0 P1 P2 S N th MS MN so qo sN qN kN tN M0 M1 M2 mp X) (some (.int 0)) (hC b ta F0 F1 F2 A0 A1 A2 ec er ed eu eo P0 P1 P2 S N th MS MN so qo sN qN kN tN M0 M1 M2 mp X) := by
  refine jC_of (own := "WireField") (by decide +kernel) (Nat.le_of_ble_eq_true rfl) rfl (fun Γ B K => ?_)
  change jW l b D Γ False 0 0 11 (hC b ta F0 F1 F2 A0 A1 A2 ec er ed eu eo P0 P1 P2 S N th MS MN so qo sN qN kN tN M0 M1 M2 mp X) [(0, .ref (b + 0)), (1, .int x), (2, .int y), (3, .int (nI Wd)), (4, .int (nI Hd)), (5, .int tx), (6, .int ty), (7, .int (nI Tt))] 0 []
  refine j_iload B d_WF_copy_0 7 rfl ?_
  refine j_if_lt B d_WF_copy_2 rfl (fun h2 => absurd h2 (nI_pos (by omega))) (fun h2 => ?_)
  refine j_iload B d_WF_copy_5 7 rfl ?_
  refine j_iconst (v := 4) B d_WF_copy_7 (by decide) ?_
  refine j_icmp_ge B d_WF_copy_8 rfl (fun h8 => absurd h8 (nI_ge (b := 4) hT (by decide))) (fun h8 => ?_)
  refine j_iload_n B d_WF_copy_11 rfl 1 rfl ?_
  refine j_iload_n B d_WF_copy_12 rfl 2 rfl ?_
  refine j_iload_n B d_WF_copy_13 rfl 3 rfl ?_
  refine j_iload B d_WF_copy_14 4 rfl ?_
  refine k_callS (as := [.int x, .int y, .int (nI Wd), .int (nI Hd)]) (rest := []) (st1 := [.int (bI (isP x y (nI Wd) (nI Hd)))]) B (c_WF_isPiece x y (nI Wd) (nI Hd)) yf_WF_isPiece w_250 w_251 rfl (by decide) (by decide) rfl rfl (Nat.le_of_ble_eq_true rfl) d_WF_copy_16 ?_
  refine j_if_ne B d_WF_copy_19 rfl (fun h19 => ?_) (fun h19 => absurd (bI_f h19) (by rw [h1]; decide))
  refine j_iload B d_WF_copy_24 7 rfl ?_
  refine j_iconst (v := 2) B d_WF_copy_26 (by decide) ?_
  refine j_iremE (v := nI (Tt % 2)) B (by decide) (pk_rem (a := Tt) (d := 2) (by omega) (by decide) (by decide)) d_WF_copy_27 ?_
  refine j_iconst (v := 1) B d_WF_copy_28 (by decide) ?_
  refine j_icmp_ne B d_WF_copy_29 rfl (fun h29 => ?_) (fun h29 => ?_)
  · -- 29 jump
    have hq : ¬ Tt % 2 = 1 := fun q => h29 (by rw [q]; rfl)
    have h2 := h2b hq
    refine j_iconst (v := 0) B d_WF_copy_36 (by decide) ?_
    refine j_istore (L' := [(0, .ref (b + 0)), (1, .int x), (2, .int y), (3, .int (nI Wd)), (4, .int (nI Hd)), (5, .int tx), (6, .int ty), (7, .int (nI Tt)), (8, .int 0)]) B d_WF_copy_37 (by decide) [1, 2, 3, 4, 5, 6, 7, 8, 0] rfl ?_
    refine j_iload B d_WF_copy_39 8 rfl ?_
    refine j_if_eq B d_WF_copy_41 rfl (fun h41 => ?_) (fun h41 => absurd rfl h41)
    refine j_iload_n B d_WF_copy_49 rfl 3 rfl ?_
    refine j_istore (L' := [(0, .ref (b + 0)), (1, .int x), (2, .int y), (3, .int (nI Wd)), (4, .int (nI Hd)), (5, .int tx), (6, .int ty), (7, .int (nI Tt)), (8, .int 0), (9, .int (nI Wd))]) B d_WF_copy_50 (by decide) [1, 2, 3, 4, 5, 6, 7, 8, 9, 0] rfl ?_
    refine j_iload B d_WF_copy_52 8 rfl ?_
    refine j_if_eq B d_WF_copy_54 rfl (fun h54 => ?_) (fun h54 => absurd rfl h54)
    refine j_iload B d_WF_copy_61 4 rfl ?_
    refine j_istore (L' := [(0, .ref (b + 0)), (1, .int x), (2, .int y), (3, .int (nI Wd)), (4, .int (nI Hd)), (5, .int tx), (6, .int ty), (7, .int (nI Tt)), (8, .int 0), (9, .int (nI Wd)), (10, .int (nI Hd))]) B d_WF_copy_63 (by decide) [1, 2, 3, 4, 5, 6, 7, 8, 9, 10, 0] rfl ?_
    refine j_iload B d_WF_copy_65 5 rfl ?_
    refine j_iload B d_WF_copy_67 6 rfl ?_
    refine j_iload B d_WF_copy_69 9 rfl ?_
    refine j_iload B d_WF_copy_71 10 rfl ?_
    refine k_callS (as := [.int tx, .int ty, .int (nI Wd), .int (nI Hd)]) (rest := []) (st1 := [.int (bI (isP tx ty (nI Wd) (nI Hd)))]) B (c_WF_isPiece tx ty (nI Wd) (nI Hd)) yf_WF_isPiece w_250 w_251 rfl (by decide) (by decide) rfl rfl (Nat.le_of_ble_eq_true rfl) d_WF_copy_73 ?_
    refine j_if_ne B d_WF_copy_76 rfl (fun h76 => absurd (bI_t h76) (by rw [h2]; decide)) (fun h76 => ?_)
    refine j_iconst (v := 0) B d_WF_copy_79 (by decide) ?_
    exact j_zret B K (by decide) rfl rfl d_WF_copy_80
  · -- 29 on
    have hq : Tt % 2 = 1 := (nI_eq (by omega) (by decide)).mp h29
    have h2 := h2a hq
    refine j_iconst (v := 1) B d_WF_copy_32 (by decide) ?_
    refine j_goto B d_WF_copy_33 rfl ?_
    refine j_istore (L' := [(0, .ref (b + 0)), (1, .int x), (2, .int y), (3, .int (nI Wd)), (4, .int (nI Hd)), (5, .int tx), (6, .int ty), (7, .int (nI Tt)), (8, .int 1)]) B d_WF_copy_37 (by decide) [1, 2, 3, 4, 5, 6, 7, 8, 0] rfl ?_
    refine j_iload B d_WF_copy_39 8 rfl ?_
    refine j_if_eq B d_WF_copy_41 rfl (fun h41 => absurd h41 (by decide)) (fun h41 => ?_)
    refine j_iload B d_WF_copy_44 4 rfl ?_
    refine j_goto B d_WF_copy_46 rfl ?_
    refine j_istore (L' := [(0, .ref (b + 0)), (1, .int x), (2, .int y), (3, .int (nI Wd)), (4, .int (nI Hd)), (5, .int tx), (6, .int ty), (7, .int (nI Tt)), (8, .int 1), (9, .int (nI Hd))]) B d_WF_copy_50 (by decide) [1, 2, 3, 4, 5, 6, 7, 8, 9, 0] rfl ?_
    refine j_iload B d_WF_copy_52 8 rfl ?_
    refine j_if_eq B d_WF_copy_54 rfl (fun h54 => absurd h54 (by decide)) (fun h54 => ?_)
    refine j_iload_n B d_WF_copy_57 rfl 3 rfl ?_
    refine j_goto B d_WF_copy_58 rfl ?_
    refine j_istore (L' := [(0, .ref (b + 0)), (1, .int x), (2, .int y), (3, .int (nI Wd)), (4, .int (nI Hd)), (5, .int tx), (6, .int ty), (7, .int (nI Tt)), (8, .int 1), (9, .int (nI Hd)), (10, .int (nI Wd))]) B d_WF_copy_63 (by decide) [1, 2, 3, 4, 5, 6, 7, 8, 9, 10, 0] rfl ?_
    refine j_iload B d_WF_copy_65 5 rfl ?_
    refine j_iload B d_WF_copy_67 6 rfl ?_
    refine j_iload B d_WF_copy_69 9 rfl ?_
    refine j_iload B d_WF_copy_71 10 rfl ?_
    refine k_callS (as := [.int tx, .int ty, .int (nI Hd), .int (nI Wd)]) (rest := []) (st1 := [.int (bI (isP tx ty (nI Hd) (nI Wd)))]) B (c_WF_isPiece tx ty (nI Hd) (nI Wd)) yf_WF_isPiece w_250 w_251 rfl (by decide) (by decide) rfl rfl (Nat.le_of_ble_eq_true rfl) d_WF_copy_73 ?_
    refine j_if_ne B d_WF_copy_76 rfl (fun h76 => absurd (bI_t h76) (by rw [h2]; decide)) (fun h76 => ?_)
    refine j_iconst (v := 0) B d_WF_copy_79 (by decide) ?_
    exact j_zret B K (by decide) rfl rfl d_WF_copy_80
set_option maxRecDepth 100000 in
set_option maxHeartbeats 4000000 in
theorem c_WF_copy_f {l : Launch} {b : Nat} {D : va_G} {ta : Nat → ClassId} {F0 : Nat → Int32} {F1 : Nat → Int32} {F2 : Nat → Int32} {A0 : Nat → Int32} {A1 : Nat → Int32} {A2 : Nat → Int32} {ec : Int32} {er : Int32} {ed : Nat} {eu : Bool} {eo : Nat} {P0 : Nat → Int32} {P1 : Nat → Int32} {P2 : Nat → Int32} {S : Nat → Int32} {N : Nat} {th : Nat → Int32} {MS : Nat → Nat → Int32} {MN : Nat → Nat} {so : Nat → Int32 × Int32 × Int64 × Nat × Nat} {qo : Nat → Int32 × Int32 × Int32 × Int32 × Int64} {sN : Nat} {qN : Nat} {kN : Nat} {tN : Nat} {M0 : Nat → Nat → Int32} {M1 : Nat → Nat → Int32} {M2 : Nat → Nat → Int32} {mp : Nat → Nat → Int32} {X : List va_E} {x y ww hh tx ty t : Int32} (hf : ¬ (¬ t < 0 ∧ ¬ 4 ≤ t ∧ isP x y ww hh = true)) : jC l b D ta False y_WF_copy b_WF_copy 11 (some .boolean) (rL 3) [.ref (b + 0), .int x, .int y, .int ww, .int hh, .int tx, .int ty, .int t] (hC b ta F0 F1 F2 A0 A1 A2 ec er ed eu eo P0 P1 P2 S N th MS MN so qo sN qN kN tN M0 M1 M2 mp X) (some (.int 0)) (hC b ta F0 F1 F2 A0 A1 A2 ec er ed eu eo P0 P1 P2 S N th MS MN so qo sN qN kN tN M0 M1 M2 mp X) := by
  refine jC_of (own := "WireField") (by decide +kernel) (Nat.le_of_ble_eq_true rfl) rfl (fun Γ B K => ?_)
  change jW l b D Γ False 0 0 11 (hC b ta F0 F1 F2 A0 A1 A2 ec er ed eu eo P0 P1 P2 S N th MS MN so qo sN qN kN tN M0 M1 M2 mp X) [(0, .ref (b + 0)), (1, .int x), (2, .int y), (3, .int ww), (4, .int hh), (5, .int tx), (6, .int ty), (7, .int t)] 0 []
  refine j_iload B d_WF_copy_0 7 rfl ?_
  refine j_if_lt B d_WF_copy_2 rfl (fun h2 => ?_) (fun h2 => ?_)
  · -- 2 jump
    refine j_iconst (v := 0) B d_WF_copy_22 (by decide) ?_
    exact j_zret B K (by decide) rfl rfl d_WF_copy_23
  · -- 2 on
    refine j_iload B d_WF_copy_5 7 rfl ?_
    refine j_iconst (v := 4) B d_WF_copy_7 (by decide) ?_
    refine j_icmp_ge B d_WF_copy_8 rfl (fun h8 => ?_) (fun h8 => ?_)
    · -- 8 jump
      refine j_iconst (v := 0) B d_WF_copy_22 (by decide) ?_
      exact j_zret B K (by decide) rfl rfl d_WF_copy_23
    · -- 8 on
      refine j_iload_n B d_WF_copy_11 rfl 1 rfl ?_
      refine j_iload_n B d_WF_copy_12 rfl 2 rfl ?_
      refine j_iload_n B d_WF_copy_13 rfl 3 rfl ?_
      refine j_iload B d_WF_copy_14 4 rfl ?_
      refine k_callS (as := [.int x, .int y, .int ww, .int hh]) (rest := []) (st1 := [.int (bI (isP x y ww hh))]) B (c_WF_isPiece x y ww hh) yf_WF_isPiece w_250 w_251 rfl (by decide) (by decide) rfl rfl (Nat.le_of_ble_eq_true rfl) d_WF_copy_16 ?_
      refine j_if_ne B d_WF_copy_19 rfl (fun h19 => ?_) (fun h19 => ?_)
      · -- 19 jump
        replace h19 := bI_t h19
        exact absurd ⟨h2, h8, h19⟩ hf
      · -- 19 on
        replace h19 := bI_f h19
        refine j_iconst (v := 0) B d_WF_copy_22 (by decide) ?_
        exact j_zret B K (by decide) rfl rfl d_WF_copy_23
set_option maxRecDepth 100000 in
set_option maxHeartbeats 4000000 in
theorem c_WF_back_t {l : Launch} {b : Nat} {D : va_G} {ta : Nat → ClassId} {F0 : Nat → Int32} {F1 : Nat → Int32} {F2 : Nat → Int32} {A0 : Nat → Int32} {A1 : Nat → Int32} {A2 : Nat → Int32} {ec : Int32} {er : Int32} {ed : Nat} {eu : Bool} {eo : Nat} {P0 : Nat → Int32} {P1 : Nat → Int32} {P2 : Nat → Int32} {S : Nat → Int32} {N : Nat} {th : Nat → Int32} {MS : Nat → Nat → Int32} {MN : Nat → Nat} {so : Nat → Int32 × Int32 × Int64 × Nat × Nat} {qo : Nat → Int32 × Int32 × Int32 × Int32 × Int64} {sN : Nat} {qN : Nat} {kN : Nat} {tN : Nat} {M0 : Nat → Nat → Int32} {M1 : Nat → Nat → Int32} {M2 : Nat → Nat → Int32} {mp : Nat → Nat → Int32} {X : List va_E} {n : Nat} (h1 : 1 ≤ n) (hn : n ≤ kN) (hkt : kN ≤ tN) (htN : tN < 2 ^ 31) {mq : Nat → Nat} (hmq : ∀ k, k < 4 → mp ((tN - n) % 16) k = nI (mq k)) (zM0 : Z24 (M0 ((tN - n) % 16))) (zM1 : Z24 (M1 ((tN - n) % 16))) (zM2 : Z24 (M2 ((tN - n) % 16))) (zF0 : Z24 F0) (zF1 : Z24 F1) (zF2 : Z24 F2) : jC l b D ta False y_WF_back b_WF_back 4 (some .boolean) (rL 2) [.ref (b + 0), .int (nI n)] (hC b ta F0 F1 F2 A0 A1 A2 ec er ed eu eo P0 P1 P2 S N th MS MN so qo sN qN kN tN M0 M1 M2 mp X) (some (.int 1)) (hC b ta (M0 ((tN - n) % 16)) (M1 ((tN - n) % 16)) (M2 ((tN - n) % 16)) A0 A1 A2 ec er ed eu eo P0 P1 P2 S N th MS MN (bkS so mq 4) qo sN qN (kN - n) (tN - n) M0 M1 M2 mp X) := by
  refine jC_of (own := "WireField") (by decide +kernel) (Nat.le_of_ble_eq_true rfl) rfl (fun Γ B K => ?_)
  change jW l b D Γ False 0 0 4 (hC b ta F0 F1 F2 A0 A1 A2 ec er ed eu eo P0 P1 P2 S N th MS MN so qo sN qN kN tN M0 M1 M2 mp X) [(0, .ref (b + 0)), (1, .int (nI n))] 0 []
  refine j_iload_n B d_WF_back_0 rfl 1 rfl ?_
  refine j_iconst (v := 1) B d_WF_back_1 (by decide) ?_
  refine j_icmp_lt B d_WF_back_2 rfl (fun h2 => absurd h2 (nI_nlt (a := n) (b := 1) h1 (by omega))) (fun h2 => ?_)
  refine j_iload_n B d_WF_back_5 rfl 1 rfl ?_
  refine j_aload_n B d_WF_back_6 rfl 0 rfl ?_
  refine gf_WF_66 B rfl rfl d_WF_back_7 ?_
  refine j_icmp_le B d_WF_back_10 rfl (fun h10 => ?_) (fun h10 => absurd (nI_le hn (by omega)) h10)
  refine j_aload_n B d_WF_back_15 rfl 0 rfl ?_
  refine j_dup B d_WF_back_16 rfl ?_
  refine gf_WF_69 B rfl rfl d_WF_back_17 ?_
  refine j_iload_n B d_WF_back_20 rfl 1 rfl ?_
  refine j_isubE (v := nI (tN - n)) B (pk_sub (by omega)) d_WF_back_21 ?_
  refine pf_WF_69 B not_false rfl rfl rfl (Nat.le_of_ble_eq_true rfl) d_WF_back_22 ?_
  refine jW.heap (σ2 := hC b ta F0 F1 F2 A0 A1 A2 ec er ed eu eo P0 P1 P2 S N th MS MN so qo sN qN kN (tN - n) M0 M1 M2 mp X) rfl ?_
  refine j_aload_n B d_WF_back_25 rfl 0 rfl ?_
  refine j_dup B d_WF_back_26 rfl ?_
  refine gf_WF_66 B rfl rfl d_WF_back_27 ?_
  refine j_iload_n B d_WF_back_30 rfl 1 rfl ?_
  refine j_isubE (v := nI (kN - n)) B (pk_sub (by omega)) d_WF_back_31 ?_
  refine pf_WF_66 B not_false rfl rfl rfl (Nat.le_of_ble_eq_true rfl) d_WF_back_32 ?_
  refine jW.heap (σ2 := hC b ta F0 F1 F2 A0 A1 A2 ec er ed eu eo P0 P1 P2 S N th MS MN so qo sN qN (kN - n) (tN - n) M0 M1 M2 mp X) rfl ?_
  refine j_aload_n B d_WF_back_35 rfl 0 rfl ?_
  refine j_aload_n B d_WF_back_36 rfl 0 rfl ?_
  refine gf_WF_69 B rfl rfl d_WF_back_37 ?_
  refine k_callV (as := [.int (nI (tN - n))]) (rest := []) (st1 := [.ref (b + (37 + 6 * ((tN - n) % 16)))]) B (c_WF_momentAt (by omega)) yf_WF_momentAt w_298 w_300 w_s4 rfl rfl rfl (by decide) (by decide) rfl rfl (Nat.le_of_ble_eq_true rfl) d_WF_back_40 ?_
  refine j_astore_n (L' := [(0, .ref (b + 0)), (1, .int (nI n)), (2, .ref (b + (37 + 6 * ((tN - n) % 16))))]) B d_WF_back_43 rfl (by decide) [1, 2, 0] rfl ?_
  refine j_aload_n B d_WF_back_44 rfl 0 rfl ?_
  refine gf_WF_12 B rfl rfl d_WF_back_45 ?_
  refine j_aload_n B d_WF_back_48 rfl 2 rfl ?_
  refine gf_WF_175 B (hC_mo ((tN - n) % 16) (Nat.mod_lt _ (by decide))).1 rfl d_WF_back_49 ?_
  refine k_callV (as := [.ref (b + (38 + 6 * ((tN - n) % 16)))]) (rest := []) (st1 := []) B (c_G_takeFrom rfl rfl rfl rfl (hC_mo ((tN - n) % 16) (Nat.mod_lt _ (by decide))).2.1 (hC_mo ((tN - n) % 16) (Nat.mod_lt _ (by decide))).2.2.1 (hC_mo ((tN - n) % 16) (Nat.mod_lt _ (by decide))).2.2.2.1 (hC_mo ((tN - n) % 16) (Nat.mod_lt _ (by decide))).2.2.2.2.1 (by omega) (by omega) (by omega) (by omega) (by omega) (by omega) (by omega) (by omega) (by omega) (by omega) (by omega) (by omega) (by omega) (by omega) (by omega) (by omega) (by omega) (by omega) zM0 zM1 zM2 zF0 zF1 zF2) yf_G_takeFrom w_253 w_254 w_255 rfl rfl rfl (by decide) (by decide) rfl rfl (Nat.le_of_ble_eq_true rfl) d_WF_back_52 ?_
  refine jW.heap (σ2 := hC b ta (M0 ((tN - n) % 16)) (M1 ((tN - n) % 16)) (M2 ((tN - n) % 16)) A0 A1 A2 ec er ed eu eo P0 P1 P2 S N th MS MN so qo sN qN (kN - n) (tN - n) M0 M1 M2 mp X) rfl ?_
  refine j_iconst (v := 0) B d_WF_back_55 (by decide) ?_
  refine j_istore_n (L' := [(0, .ref (b + 0)), (1, .int (nI n)), (2, .ref (b + (37 + 6 * ((tN - n) % 16)))), (3, .int 0)]) B d_WF_back_56 rfl (by decide) [1, 2, 3, 0] rfl ?_
  have lp57 : ∀ (n57 : Nat) (k : Nat), 4 - k = n57 → (k ≤ 4) → jW l b D Γ False 0 0 4 (hC b ta (M0 ((tN - n) % 16)) (M1 ((tN - n) % 16)) (M2 ((tN - n) % 16)) A0 A1 A2 ec er ed eu eo P0 P1 P2 S N th MS MN (bkS so mq k) qo sN qN (kN - n) (tN - n) M0 M1 M2 mp X) [(0, .ref (b + 0)), (1, .int (nI n)), (2, .ref (b + (37 + 6 * ((tN - n) % 16)))), (3, .int (nI k))] 57 [] := by
    refine jloop (fun n57 ih57 => ?_)
    intro k hn57 hk
    refine j_iload_n B d_WF_back_57 rfl 3 rfl ?_
    refine j_iconst (v := 4) B d_WF_back_58 (by decide) ?_
    refine j_icmp_ge B d_WF_back_59 rfl (fun h59 => ?_) (fun h59 => ?_)
    · -- 59 jump
      have hk4 := lp_ge (n := 4) (by decide) hk h59
      subst hk4
      refine j_iconst (v := 1) B d_WF_back_83 (by decide) ?_
      exact j_zret B K (by decide) rfl rfl d_WF_back_84
    · -- 59 on
      have hk4 := lp_lt (n := 4) (by decide) hk h59
      refine j_aload_n B d_WF_back_62 rfl 0 rfl ?_
      refine gf_WF_43 B rfl rfl d_WF_back_63 ?_
      refine j_iload_n B d_WF_back_66 rfl 3 rfl ?_
      refine j_aaldN (z := b + (29 + k)) B rfl rfl (by omega) (if_pos (by omega)) d_WF_back_67 ?_
      refine j_aload_n B d_WF_back_68 rfl 2 rfl ?_
      refine gf_WF_178 B (hC_mo ((tN - n) % 16) (Nat.mod_lt _ (by decide))).1 rfl d_WF_back_69 ?_
      refine j_iload_n B d_WF_back_72 rfl 3 rfl ?_
      refine j_ialdN B rfl (hC_mo ((tN - n) % 16) (Nat.mod_lt _ (by decide))).2.2.2.2.2 (by omega) d_WF_back_73 ?_
      rw [hmq k hk4]
      refine pf_WF_182 B not_false (hC_so hk4) rfl rfl (Nat.le_of_ble_eq_true rfl) d_WF_back_74 ?_
      refine jW.heap (σ2 := hC b ta (M0 ((tN - n) % 16)) (M1 ((tN - n) % 16)) (M2 ((tN - n) % 16)) A0 A1 A2 ec er ed eu eo P0 P1 P2 S N th MS MN (vf_upd (bkS so mq k) k ((bkS so mq k k).1, (bkS so mq k k).2.1, (bkS so mq k k).2.2.1, (bkS so mq k k).2.2.2.1, mq k)) qo sN qN (kN - n) (tN - n) M0 M1 M2 mp X) (hC_so_set hk4 ((bkS so mq k k).1, (bkS so mq k k).2.1, (bkS so mq k k).2.2.1, (bkS so mq k k).2.2.2.1, mq k)) ?_
      refine j_iinc (L' := [(0, .ref (b + 0)), (1, .int (nI n)), (2, .ref (b + (37 + 6 * ((tN - n) % 16)))), (3, .int (nI (k + 1)))]) (v := nI (k + 1)) B d_WF_back_77 (k := 3) rfl (nI_succ k).symm (by decide) [1, 2, 3, 0] rfl ?_
      refine j_goto B d_WF_back_80 rfl ?_
      refine jW.heap (σ2 := hC b ta (M0 ((tN - n) % 16)) (M1 ((tN - n) % 16)) (M2 ((tN - n) % 16)) A0 A1 A2 ec er ed eu eo P0 P1 P2 S N th MS MN (bkS so mq (k + 1)) qo sN qN (kN - n) (tN - n) M0 M1 M2 mp X) (by rw [bkS_s]) ?_; exact ih57 _ (by omega) (k + 1) rfl (by omega)
  refine jW.heap (σ2 := hC b ta (M0 ((tN - n) % 16)) (M1 ((tN - n) % 16)) (M2 ((tN - n) % 16)) A0 A1 A2 ec er ed eu eo P0 P1 P2 S N th MS MN (bkS so mq 0) qo sN qN (kN - n) (tN - n) M0 M1 M2 mp X) (by rw [bkS_0]) ?_
  exact lp57 _ 0 rfl (by omega)
set_option maxRecDepth 100000 in
set_option maxHeartbeats 4000000 in
theorem c_WF_back_f {l : Launch} {b : Nat} {D : va_G} {ta : Nat → ClassId} {F0 : Nat → Int32} {F1 : Nat → Int32} {F2 : Nat → Int32} {A0 : Nat → Int32} {A1 : Nat → Int32} {A2 : Nat → Int32} {ec : Int32} {er : Int32} {ed : Nat} {eu : Bool} {eo : Nat} {P0 : Nat → Int32} {P1 : Nat → Int32} {P2 : Nat → Int32} {S : Nat → Int32} {N : Nat} {th : Nat → Int32} {MS : Nat → Nat → Int32} {MN : Nat → Nat} {so : Nat → Int32 × Int32 × Int64 × Nat × Nat} {qo : Nat → Int32 × Int32 × Int32 × Int32 × Int64} {sN : Nat} {qN : Nat} {kN : Nat} {tN : Nat} {M0 : Nat → Nat → Int32} {M1 : Nat → Nat → Int32} {M2 : Nat → Nat → Int32} {mp : Nat → Nat → Int32} {X : List va_E} {n : Int32} (hkN : kN ≤ 16) (hf : n < 1 ∨ nI kN < n) : jC l b D ta False y_WF_back b_WF_back 4 (some .boolean) (rL 2) [.ref (b + 0), .int n] (hC b ta F0 F1 F2 A0 A1 A2 ec er ed eu eo P0 P1 P2 S N th MS MN so qo sN qN kN tN M0 M1 M2 mp X) (some (.int 0)) (hC b ta F0 F1 F2 A0 A1 A2 ec er ed eu eo P0 P1 P2 S N th MS MN so qo sN qN kN tN M0 M1 M2 mp X) := by
  refine jC_of (own := "WireField") (by decide +kernel) (Nat.le_of_ble_eq_true rfl) rfl (fun Γ B K => ?_)
  change jW l b D Γ False 0 0 4 (hC b ta F0 F1 F2 A0 A1 A2 ec er ed eu eo P0 P1 P2 S N th MS MN so qo sN qN kN tN M0 M1 M2 mp X) [(0, .ref (b + 0)), (1, .int n)] 0 []
  refine j_iload_n B d_WF_back_0 rfl 1 rfl ?_
  refine j_iconst (v := 1) B d_WF_back_1 (by decide) ?_
  refine j_icmp_lt B d_WF_back_2 rfl (fun h2 => ?_) (fun h2 => ?_)
  · -- 2 jump
    refine j_iconst (v := 0) B d_WF_back_13 (by decide) ?_
    exact j_zret B K (by decide) rfl rfl d_WF_back_14
  · -- 2 on
    refine j_iload_n B d_WF_back_5 rfl 1 rfl ?_
    refine j_aload_n B d_WF_back_6 rfl 0 rfl ?_
    refine gf_WF_66 B rfl rfl d_WF_back_7 ?_
    refine j_icmp_le B d_WF_back_10 rfl (fun h10 => ?_) (fun h10 => ?_)
    · -- 10 jump
      exact absurd hf (fun q => q.elim h2 (fun q => Int32.not_lt.mpr h10 q))
    · -- 10 on
      refine j_iconst (v := 0) B d_WF_back_13 (by decide) ?_
      exact j_zret B K (by decide) rfl rfl d_WF_back_14
set_option maxRecDepth 100000 in
set_option maxHeartbeats 4000000 in
theorem c_WF_keepMoment {l : Launch} {b : Nat} {D : va_G} {ta : Nat → ClassId} {F0 : Nat → Int32} {F1 : Nat → Int32} {F2 : Nat → Int32} {A0 : Nat → Int32} {A1 : Nat → Int32} {A2 : Nat → Int32} {ec : Int32} {er : Int32} {ed : Nat} {eu : Bool} {eo : Nat} {P0 : Nat → Int32} {P1 : Nat → Int32} {P2 : Nat → Int32} {S : Nat → Int32} {N : Nat} {th : Nat → Int32} {MS : Nat → Nat → Int32} {MN : Nat → Nat} {so : Nat → Int32 × Int32 × Int64 × Nat × Nat} {qo : Nat → Int32 × Int32 × Int32 × Int32 × Int64} {sN : Nat} {qN : Nat} {kN : Nat} {tN : Nat} {M0 : Nat → Nat → Int32} {M1 : Nat → Nat → Int32} {M2 : Nat → Nat → Int32} {mp : Nat → Nat → Int32} {X : List va_E} (htN : tN < 2 ^ 31) (hk16 : kN ≤ 16) (zM0 : Z24 (M0 (tN % 16))) (zM1 : Z24 (M1 (tN % 16))) (zM2 : Z24 (M2 (tN % 16))) (zF0 : Z24 F0) (zF1 : Z24 F1) (zF2 : Z24 F2) : jC l b D ta False y_WF_keepMoment b_WF_keepMoment 3 none (rL 2) [.ref (b + 0)] (hC b ta F0 F1 F2 A0 A1 A2 ec er ed eu eo P0 P1 P2 S N th MS MN so qo sN qN kN tN M0 M1 M2 mp X) none (hC b ta F0 F1 F2 A0 A1 A2 ec er ed eu eo P0 P1 P2 S N th MS MN so qo sN qN (min (kN + 1) 16) tN (vf_upd M0 (tN % 16) F0) (vf_upd M1 (tN % 16) F1) (vf_upd M2 (tN % 16) F2) (vf_upd mp (tN % 16) (gUp (kpM so) (mp (tN % 16)) 4)) X) := by
  refine jC_of (own := "WireField") (by decide +kernel) (Nat.le_of_ble_eq_true rfl) rfl (fun Γ B K => ?_)
  change jW l b D Γ False 0 0 3 (hC b ta F0 F1 F2 A0 A1 A2 ec er ed eu eo P0 P1 P2 S N th MS MN so qo sN qN kN tN M0 M1 M2 mp X) [(0, .ref (b + 0))] 0 []
  refine j_aload_n B d_WF_keepMoment_0 rfl 0 rfl ?_
  refine j_aload_n B d_WF_keepMoment_1 rfl 0 rfl ?_
  refine gf_WF_69 B rfl rfl d_WF_keepMoment_2 ?_
  refine k_callV (as := [.int (nI tN)]) (rest := []) (st1 := [.ref (b + (37 + 6 * (tN % 16)))]) B (c_WF_momentAt htN) yf_WF_momentAt w_298 w_300 w_s4 rfl rfl rfl (by decide) (by decide) rfl rfl (Nat.le_of_ble_eq_true rfl) d_WF_keepMoment_5 ?_
  refine j_astore_n (L' := [(0, .ref (b + 0)), (1, .ref (b + (37 + 6 * (tN % 16))))]) B d_WF_keepMoment_8 rfl (by decide) [1, 0] rfl ?_
  refine j_aload_n B d_WF_keepMoment_9 rfl 1 rfl ?_
  refine gf_WF_175 B (hC_mo (tN % 16) (Nat.mod_lt _ (by decide))).1 rfl d_WF_keepMoment_10 ?_
  refine j_aload_n B d_WF_keepMoment_13 rfl 0 rfl ?_
  refine gf_WF_12 B rfl rfl d_WF_keepMoment_14 ?_
  refine k_callV (as := [.ref (b + 1)]) (rest := []) (st1 := []) B (c_G_takeFrom (hC_mo (tN % 16) (Nat.mod_lt _ (by decide))).2.1 (hC_mo (tN % 16) (Nat.mod_lt _ (by decide))).2.2.1 (hC_mo (tN % 16) (Nat.mod_lt _ (by decide))).2.2.2.1 (hC_mo (tN % 16) (Nat.mod_lt _ (by decide))).2.2.2.2.1 rfl rfl rfl rfl (by omega) (by omega) (by omega) (by omega) (by omega) (by omega) (by omega) (by omega) (by omega) (by omega) (by omega) (by omega) (by omega) (by omega) (by omega) (by omega) (by omega) (by omega) zF0 zF1 zF2 zM0 zM1 zM2) yf_G_takeFrom w_253 w_254 w_255 rfl (hC_mo (tN % 16) (Nat.mod_lt _ (by decide))).2.1 rfl (by decide) (by decide) rfl rfl (Nat.le_of_ble_eq_true rfl) d_WF_keepMoment_17 ?_
  refine jW.heap (σ2 := hC b ta F0 F1 F2 A0 A1 A2 ec er ed eu eo P0 P1 P2 S N th MS MN so qo sN qN kN tN (vf_upd M0 (tN % 16) F0) (vf_upd M1 (tN % 16) F1) (vf_upd M2 (tN % 16) F2) mp X) (hC_mo_g (tN % 16) (Nat.mod_lt _ (by decide)) F0 F1 F2) ?_
  refine j_iconst (v := 0) B d_WF_keepMoment_20 (by decide) ?_
  refine j_istore_n (L' := [(0, .ref (b + 0)), (1, .ref (b + (37 + 6 * (tN % 16)))), (2, .int 0)]) B d_WF_keepMoment_21 rfl (by decide) [1, 2, 0] rfl ?_
  have lp22 : ∀ (n22 : Nat) (k : Nat), 4 - k = n22 → (k ≤ 4) → jW l b D Γ False 0 0 3 (hC b ta F0 F1 F2 A0 A1 A2 ec er ed eu eo P0 P1 P2 S N th MS MN so qo sN qN kN tN (vf_upd M0 (tN % 16) F0) (vf_upd M1 (tN % 16) F1) (vf_upd M2 (tN % 16) F2) (vf_upd mp (tN % 16) (gUp (kpM so) (mp (tN % 16)) k)) X) [(0, .ref (b + 0)), (1, .ref (b + (37 + 6 * (tN % 16)))), (2, .int (nI k))] 22 [] := by
    refine jloop (fun n22 ih22 => ?_)
    intro k hn22 hk
    refine j_iload_n B d_WF_keepMoment_22 rfl 2 rfl ?_
    refine j_iconst (v := 4) B d_WF_keepMoment_23 (by decide) ?_
    refine j_icmp_ge B d_WF_keepMoment_24 rfl (fun h24 => ?_) (fun h24 => ?_)
    · -- 24 jump
      have hk4 := lp_ge (n := 4) (by decide) hk h24
      subst hk4
      refine j_aload_n B d_WF_keepMoment_48 rfl 0 rfl ?_
      refine j_aload_n B d_WF_keepMoment_49 rfl 0 rfl ?_
      refine gf_WF_66 B rfl rfl d_WF_keepMoment_50 ?_
      refine j_iconst (v := 1) B d_WF_keepMoment_53 (by decide) ?_
      refine j_iaddE (v := nI (kN + 1)) B (nI_add kN 1) d_WF_keepMoment_54 ?_
      refine j_bipush (v := 16) B d_WF_keepMoment_55 (by decide) ?_
      refine k_callS (as := [.int (nI (kN + 1)), .int 16]) (rest := [.ref (b + 0)]) (st1 := [.int (mnF (nI (kN + 1)) 16), .ref (b + 0)]) B (c_Math_min (nI (kN + 1)) 16) yf_Math_min w_305 w_306 rfl (by decide) (by decide) rfl rfl (Nat.le_of_ble_eq_true rfl) d_WF_keepMoment_57 ?_
      rw [mn16 hk16]
      refine pf_WF_66 B not_false rfl rfl rfl (Nat.le_of_ble_eq_true rfl) d_WF_keepMoment_60 ?_
      refine jW.heap (σ2 := hC b ta F0 F1 F2 A0 A1 A2 ec er ed eu eo P0 P1 P2 S N th MS MN so qo sN qN (min (kN + 1) 16) tN (vf_upd M0 (tN % 16) F0) (vf_upd M1 (tN % 16) F1) (vf_upd M2 (tN % 16) F2) (vf_upd mp (tN % 16) (gUp (kpM so) (mp (tN % 16)) 4)) X) rfl ?_
      exact j_vret B K rfl d_WF_keepMoment_63
    · -- 24 on
      have hk4 := lp_lt (n := 4) (by decide) hk h24
      refine j_aload_n B d_WF_keepMoment_27 rfl 1 rfl ?_
      refine gf_WF_178 B (hC_mo (tN % 16) (Nat.mod_lt _ (by decide))).1 rfl d_WF_keepMoment_28 ?_
      refine j_iload_n B d_WF_keepMoment_31 rfl 2 rfl ?_
      refine j_aload_n B d_WF_keepMoment_32 rfl 0 rfl ?_
      refine gf_WF_43 B rfl rfl d_WF_keepMoment_33 ?_
      refine j_iload_n B d_WF_keepMoment_36 rfl 2 rfl ?_
      refine j_aaldN (z := b + (29 + k)) B rfl rfl (by omega) (if_pos (by omega)) d_WF_keepMoment_37 ?_
      refine gf_WF_182 B (hC_so hk4) rfl d_WF_keepMoment_38 ?_
      refine j_iastN B not_false rfl (hC_pl (tN % 16) (Nat.mod_lt _ (by decide)) vf_s) (by omega) d_WF_keepMoment_41 ?_
      refine jW.heap (σ2 := hC b ta F0 F1 F2 A0 A1 A2 ec er ed eu eo P0 P1 P2 S N th MS MN so qo sN qN kN tN (vf_upd M0 (tN % 16) F0) (vf_upd M1 (tN % 16) F1) (vf_upd M2 (tN % 16) F2) (vf_upd (vf_upd mp (tN % 16) (gUp (kpM so) (mp (tN % 16)) k)) (tN % 16) (upd (gUp (kpM so) (mp (tN % 16)) k) k (nI (so k).2.2.2.2))) X) (hC_mo_p (tN % 16) (Nat.mod_lt _ (by decide)) (upd (gUp (kpM so) (mp (tN % 16)) k) k (nI (so k).2.2.2.2))) ?_
      refine j_iinc (L' := [(0, .ref (b + 0)), (1, .ref (b + (37 + 6 * (tN % 16)))), (2, .int (nI (k + 1)))]) (v := nI (k + 1)) B d_WF_keepMoment_42 (k := 2) rfl (nI_succ k).symm (by decide) [1, 2, 0] rfl ?_
      refine j_goto B d_WF_keepMoment_45 rfl ?_
      refine jW.heap (σ2 := hC b ta F0 F1 F2 A0 A1 A2 ec er ed eu eo P0 P1 P2 S N th MS MN so qo sN qN kN tN (vf_upd M0 (tN % 16) F0) (vf_upd M1 (tN % 16) F1) (vf_upd M2 (tN % 16) F2) (vf_upd mp (tN % 16) (gUp (kpM so) (mp (tN % 16)) (k + 1))) X) (by rw [vf_ss, gUp_s (kpM so) _ k (nI (so k).2.2.2.2) rfl]) ?_; exact ih22 _ (by omega) (k + 1) rfl (by omega)
  refine jW.heap (σ2 := hC b ta F0 F1 F2 A0 A1 A2 ec er ed eu eo P0 P1 P2 S N th MS MN so qo sN qN kN tN (vf_upd M0 (tN % 16) F0) (vf_upd M1 (tN % 16) F1) (vf_upd M2 (tN % 16) F2) (vf_upd mp (tN % 16) (gUp (kpM so) (mp (tN % 16)) 0)) X) (by rw [gUp_0, vf_id]) ?_
  exact lp22 _ 0 rfl (by omega)
set_option maxRecDepth 100000 in
set_option maxHeartbeats 4000000 in
theorem c_WF_makeGeneration {l : Launch} {b : Nat} {D : va_G} {ta : Nat → ClassId} {F0 : Nat → Int32} {F1 : Nat → Int32} {F2 : Nat → Int32} {A0 : Nat → Int32} {A1 : Nat → Int32} {A2 : Nat → Int32} {ec : Int32} {er : Int32} {ed : Nat} {eu : Bool} {eo : Nat} {P0 : Nat → Int32} {P1 : Nat → Int32} {P2 : Nat → Int32} {S : Nat → Int32} {N : Nat} {th : Nat → Int32} {MS : Nat → Nat → Int32} {MN : Nat → Nat} {so : Nat → Int32 × Int32 × Int64 × Nat × Nat} {qo : Nat → Int32 × Int32 × Int32 × Int32 × Int64} {sN : Nat} {qN : Nat} {kN : Nat} {tN : Nat} {M0 : Nat → Nat → Int32} {M1 : Nat → Nat → Int32} {M2 : Nat → Nat → Int32} {mp : Nat → Nat → Int32} {X : List va_E} (htN : tN < 2 ^ 30) (hk16 : kN ≤ 16) (hsN : sN ≤ 4) (hqN : qN ≤ 4) (hso : ∀ k, k < 4 → (so k).2.2.2.1 < 2 ^ 31 ∧ (so k).2.2.2.2 < 2 ^ 30) (zM0 : Z24 (M0 (tN % 16))) (zM1 : Z24 (M1 (tN % 16))) (zM2 : Z24 (M2 (tN % 16))) (zF0 : Z24 F0) (zF1 : Z24 F1) (zF2 : Z24 F2) (zA0 : Z24 A0) (zA1 : Z24 A1) (zA2 : Z24 A2) : jC l b D ta False y_WF_makeGeneration b_WF_makeGeneration 2 none (rL 3) [.ref (b + 0)] (hC b ta F0 F1 F2 A0 A1 A2 ec er ed eu eo P0 P1 P2 S N th MS MN so qo sN qN kN tN M0 M1 M2 mp X) none (hC b ta (nxH ((sIt (so, F0, F1, F2) sN).2.1) ((sIt (so, F0, F1, F2) sN).2.2.2)) ((sIt (so, F0, F1, F2) sN).2.1) (nxW ((sIt (so, F0, F1, F2) sN).2.1) ((sIt (so, F0, F1, F2) sN).2.2.1) ((sIt (so, F0, F1, F2) sN).2.2.2)) (nxH ((sIt (so, F0, F1, F2) sN).2.1) ((sIt (so, F0, F1, F2) sN).2.2.2)) ((sIt (so, F0, F1, F2) sN).2.1) (nxW ((sIt (so, F0, F1, F2) sN).2.1) ((sIt (so, F0, F1, F2) sN).2.2.1) ((sIt (so, F0, F1, F2) sN).2.2.2)) ec er ed eu eo P0 P1 P2 S N th MS MN ((sIt (so, F0, F1, F2) sN).1) (qIt (nxH ((sIt (so, F0, F1, F2) sN).2.1) ((sIt (so, F0, F1, F2) sN).2.2.2)) ((sIt (so, F0, F1, F2) sN).2.1) (nxW ((sIt (so, F0, F1, F2) sN).2.1) ((sIt (so, F0, F1, F2) sN).2.2.1) ((sIt (so, F0, F1, F2) sN).2.2.2)) (nI (tN + 1)) qo qN) sN qN (min (kN + 1) 16) (tN + 1) (vf_upd M0 (tN % 16) F0) (vf_upd M1 (tN % 16) F1) (vf_upd M2 (tN % 16) F2) (vf_upd mp (tN % 16) (gUp (kpM so) (mp (tN % 16)) 4)) X) := by
  have htN2 := htN
  replace htN : tN < 2 ^ 31 := by omega
  refine jC_of (own := "WireField") (by decide +kernel) (Nat.le_of_ble_eq_true rfl) rfl (fun Γ B K => ?_)
  change jW l b D Γ False 0 0 2 (hC b ta F0 F1 F2 A0 A1 A2 ec er ed eu eo P0 P1 P2 S N th MS MN so qo sN qN kN tN M0 M1 M2 mp X) [(0, .ref (b + 0))] 0 []
  refine j_aload_n B d_WF_makeGeneration_0 rfl 0 rfl ?_
  refine k_callV (as := []) (rest := []) (st1 := []) B (c_WF_keepMoment htN hk16 zM0 zM1 zM2 zF0 zF1 zF2) yf_WF_keepMoment w_294 w_296 w_s3 rfl rfl rfl (by decide) (by decide) rfl rfl (Nat.le_of_ble_eq_true rfl) d_WF_makeGeneration_1 ?_
  refine j_iconst (v := 0) B d_WF_makeGeneration_4 (by decide) ?_
  refine j_istore_n (L' := [(0, .ref (b + 0)), (1, .int 0)]) B d_WF_makeGeneration_5 rfl (by decide) [1, 0] rfl ?_
  have lp6 : ∀ (n6 : Nat) (k : Nat), sN - k = n6 → (k ≤ sN) → jW l b D Γ False 0 0 2 (hC b ta ((sIt (so, F0, F1, F2) k).2.1) ((sIt (so, F0, F1, F2) k).2.2.1) ((sIt (so, F0, F1, F2) k).2.2.2) A0 A1 A2 ec er ed eu eo P0 P1 P2 S N th MS MN ((sIt (so, F0, F1, F2) k).1) qo sN qN (min (kN + 1) 16) tN (vf_upd M0 (tN % 16) F0) (vf_upd M1 (tN % 16) F1) (vf_upd M2 (tN % 16) F2) (vf_upd mp (tN % 16) (gUp (kpM so) (mp (tN % 16)) 4)) X) [(0, .ref (b + 0)), (1, .int (nI k))] 6 [] := by
    refine jloop (fun n6 ih6 => ?_)
    intro k hn6 hk
    refine j_iload_n B d_WF_makeGeneration_6 rfl 1 rfl ?_
    refine j_aload_n B d_WF_makeGeneration_7 rfl 0 rfl ?_
    refine gf_WF_47 B rfl rfl d_WF_makeGeneration_8 ?_
    refine j_icmp_ge B d_WF_makeGeneration_11 rfl (fun h11 => ?_) (fun h11 => ?_)
    · -- 11 jump
      have hkE := (lp_ge (by omega) hk h11).symm
      subst hkE
      refine j_aload_n B d_WF_makeGeneration_33 rfl 0 rfl ?_
      refine gf_WF_16 B rfl rfl d_WF_makeGeneration_34 ?_
      refine j_aload_n B d_WF_makeGeneration_37 rfl 0 rfl ?_
      refine gf_WF_12 B rfl rfl d_WF_makeGeneration_38 ?_
      refine k_callV (as := [.ref (b + 1)]) (rest := []) (st1 := []) B (c_G_becomeGenerationAfter rfl rfl rfl rfl rfl rfl rfl rfl (by decide) (by decide) (by decide) (by decide) (by decide) (by decide) (by decide) (by decide) (by decide) (by decide) (by decide) (by decide) (by decide) (by decide) (by decide) (by decide) (by decide) (by decide) (sIt_z zF0 zF1 zF2 sN).1 (sIt_z zF0 zF1 zF2 sN).2.1 (sIt_z zF0 zF1 zF2 sN).2.2 zA0 zA1 zA2) yf_G_becomeGenerationAfter w_314 w_315 w_316 rfl rfl rfl (by decide) (by decide) rfl rfl (Nat.le_of_ble_eq_true rfl) d_WF_makeGeneration_41 ?_
      refine jW.heap (σ2 := hC b ta ((sIt (so, F0, F1, F2) sN).2.1) ((sIt (so, F0, F1, F2) sN).2.2.1) ((sIt (so, F0, F1, F2) sN).2.2.2) (nxH ((sIt (so, F0, F1, F2) sN).2.1) ((sIt (so, F0, F1, F2) sN).2.2.2)) ((sIt (so, F0, F1, F2) sN).2.1) (nxW ((sIt (so, F0, F1, F2) sN).2.1) ((sIt (so, F0, F1, F2) sN).2.2.1) ((sIt (so, F0, F1, F2) sN).2.2.2)) ec er ed eu eo P0 P1 P2 S N th MS MN ((sIt (so, F0, F1, F2) sN).1) qo sN qN (min (kN + 1) 16) tN (vf_upd M0 (tN % 16) F0) (vf_upd M1 (tN % 16) F1) (vf_upd M2 (tN % 16) F2) (vf_upd mp (tN % 16) (gUp (kpM so) (mp (tN % 16)) 4)) X) rfl ?_
      refine j_aload_n B d_WF_makeGeneration_44 rfl 0 rfl ?_
      refine gf_WF_12 B rfl rfl d_WF_makeGeneration_45 ?_
      refine j_aload_n B d_WF_makeGeneration_48 rfl 0 rfl ?_
      refine gf_WF_16 B rfl rfl d_WF_makeGeneration_49 ?_
      refine k_callV (as := [.ref (b + 5)]) (rest := []) (st1 := []) B (c_G_takeFrom rfl rfl rfl rfl rfl rfl rfl rfl (by decide) (by decide) (by decide) (by decide) (by decide) (by decide) (by decide) (by decide) (by decide) (by decide) (by decide) (by decide) (by decide) (by decide) (by decide) (by decide) (by decide) (by decide) nxH_z (sIt_z zF0 zF1 zF2 sN).1 (nxW_z (sIt_z zF0 zF1 zF2 sN).2.1 (sIt_z zF0 zF1 zF2 sN).2.2) (sIt_z zF0 zF1 zF2 sN).1 (sIt_z zF0 zF1 zF2 sN).2.1 (sIt_z zF0 zF1 zF2 sN).2.2) yf_G_takeFrom w_253 w_254 w_255 rfl rfl rfl (by decide) (by decide) rfl rfl (Nat.le_of_ble_eq_true rfl) d_WF_makeGeneration_52 ?_
      refine jW.heap (σ2 := hC b ta (nxH ((sIt (so, F0, F1, F2) sN).2.1) ((sIt (so, F0, F1, F2) sN).2.2.2)) ((sIt (so, F0, F1, F2) sN).2.1) (nxW ((sIt (so, F0, F1, F2) sN).2.1) ((sIt (so, F0, F1, F2) sN).2.2.1) ((sIt (so, F0, F1, F2) sN).2.2.2)) (nxH ((sIt (so, F0, F1, F2) sN).2.1) ((sIt (so, F0, F1, F2) sN).2.2.2)) ((sIt (so, F0, F1, F2) sN).2.1) (nxW ((sIt (so, F0, F1, F2) sN).2.1) ((sIt (so, F0, F1, F2) sN).2.2.1) ((sIt (so, F0, F1, F2) sN).2.2.2)) ec er ed eu eo P0 P1 P2 S N th MS MN ((sIt (so, F0, F1, F2) sN).1) qo sN qN (min (kN + 1) 16) tN (vf_upd M0 (tN % 16) F0) (vf_upd M1 (tN % 16) F1) (vf_upd M2 (tN % 16) F2) (vf_upd mp (tN % 16) (gUp (kpM so) (mp (tN % 16)) 4)) X) rfl ?_
      refine j_aload_n B d_WF_makeGeneration_55 rfl 0 rfl ?_
      refine j_dup B d_WF_makeGeneration_56 rfl ?_
      refine gf_WF_69 B rfl rfl d_WF_makeGeneration_57 ?_
      refine j_iconst (v := 1) B d_WF_makeGeneration_60 (by decide) ?_
      refine j_iaddE (v := nI (tN + 1)) B (nI_add tN 1) d_WF_makeGeneration_61 ?_
      refine pf_WF_69 B not_false rfl rfl rfl (Nat.le_of_ble_eq_true rfl) d_WF_makeGeneration_62 ?_
      refine jW.heap (σ2 := hC b ta (nxH ((sIt (so, F0, F1, F2) sN).2.1) ((sIt (so, F0, F1, F2) sN).2.2.2)) ((sIt (so, F0, F1, F2) sN).2.1) (nxW ((sIt (so, F0, F1, F2) sN).2.1) ((sIt (so, F0, F1, F2) sN).2.2.1) ((sIt (so, F0, F1, F2) sN).2.2.2)) (nxH ((sIt (so, F0, F1, F2) sN).2.1) ((sIt (so, F0, F1, F2) sN).2.2.2)) ((sIt (so, F0, F1, F2) sN).2.1) (nxW ((sIt (so, F0, F1, F2) sN).2.1) ((sIt (so, F0, F1, F2) sN).2.2.1) ((sIt (so, F0, F1, F2) sN).2.2.2)) ec er ed eu eo P0 P1 P2 S N th MS MN ((sIt (so, F0, F1, F2) sN).1) qo sN qN (min (kN + 1) 16) (tN + 1) (vf_upd M0 (tN % 16) F0) (vf_upd M1 (tN % 16) F1) (vf_upd M2 (tN % 16) F2) (vf_upd mp (tN % 16) (gUp (kpM so) (mp (tN % 16)) 4)) X) rfl ?_
      refine j_iconst (v := 0) B d_WF_makeGeneration_65 (by decide) ?_
      refine j_istore_n (L' := [(0, .ref (b + 0)), (1, .int 0)]) B d_WF_makeGeneration_66 rfl (by decide) [1, 0] rfl ?_
      have lp67 : ∀ (n67 : Nat) (k : Nat), qN - k = n67 → (k ≤ qN) → jW l b D Γ False 0 0 2 (hC b ta (nxH ((sIt (so, F0, F1, F2) sN).2.1) ((sIt (so, F0, F1, F2) sN).2.2.2)) ((sIt (so, F0, F1, F2) sN).2.1) (nxW ((sIt (so, F0, F1, F2) sN).2.1) ((sIt (so, F0, F1, F2) sN).2.2.1) ((sIt (so, F0, F1, F2) sN).2.2.2)) (nxH ((sIt (so, F0, F1, F2) sN).2.1) ((sIt (so, F0, F1, F2) sN).2.2.2)) ((sIt (so, F0, F1, F2) sN).2.1) (nxW ((sIt (so, F0, F1, F2) sN).2.1) ((sIt (so, F0, F1, F2) sN).2.2.1) ((sIt (so, F0, F1, F2) sN).2.2.2)) ec er ed eu eo P0 P1 P2 S N th MS MN ((sIt (so, F0, F1, F2) sN).1) (qIt (nxH ((sIt (so, F0, F1, F2) sN).2.1) ((sIt (so, F0, F1, F2) sN).2.2.2)) ((sIt (so, F0, F1, F2) sN).2.1) (nxW ((sIt (so, F0, F1, F2) sN).2.1) ((sIt (so, F0, F1, F2) sN).2.2.1) ((sIt (so, F0, F1, F2) sN).2.2.2)) (nI (tN + 1)) qo k) sN qN (min (kN + 1) 16) (tN + 1) (vf_upd M0 (tN % 16) F0) (vf_upd M1 (tN % 16) F1) (vf_upd M2 (tN % 16) F2) (vf_upd mp (tN % 16) (gUp (kpM so) (mp (tN % 16)) 4)) X) [(0, .ref (b + 0)), (1, .int (nI k))] 67 [] := by
        refine jloop (fun n67 ih67 => ?_)
        intro k hn67 hk
        refine j_iload_n B d_WF_makeGeneration_67 rfl 1 rfl ?_
        refine j_aload_n B d_WF_makeGeneration_68 rfl 0 rfl ?_
        refine gf_WF_57 B rfl rfl d_WF_makeGeneration_69 ?_
        refine j_icmp_ge B d_WF_makeGeneration_72 rfl (fun h72 => ?_) (fun h72 => ?_)
        · -- 72 jump
          have hkE := (lp_ge (by omega) hk h72).symm
          subst hkE
          exact j_vret B K rfl d_WF_makeGeneration_98
        · -- 72 on
          have hk3 := lp_lt (by omega) hk h72
          have hk4 : k < 4 := by omega
          refine j_aload_n B d_WF_makeGeneration_75 rfl 0 rfl ?_
          refine gf_WF_53 B rfl rfl d_WF_makeGeneration_76 ?_
          refine j_iload_n B d_WF_makeGeneration_79 rfl 1 rfl ?_
          refine j_aaldN (z := b + (33 + k)) B rfl rfl (by omega) (if_pos (by omega)) d_WF_makeGeneration_80 ?_
          refine j_aload_n B d_WF_makeGeneration_81 rfl 0 rfl ?_
          refine gf_WF_12 B rfl rfl d_WF_makeGeneration_82 ?_
          refine j_aload_n B d_WF_makeGeneration_85 rfl 0 rfl ?_
          refine gf_WF_69 B rfl rfl d_WF_makeGeneration_86 ?_
          by_cases hv : fVal (nxH ((sIt (so, F0, F1, F2) sN).2.1) ((sIt (so, F0, F1, F2) sN).2.2.2)) ((sIt (so, F0, F1, F2) sN).2.1) (nxW ((sIt (so, F0, F1, F2) sN).2.1) ((sIt (so, F0, F1, F2) sN).2.2.1) ((sIt (so, F0, F1, F2) sN).2.2.2)) ((qIt (nxH ((sIt (so, F0, F1, F2) sN).2.1) ((sIt (so, F0, F1, F2) sN).2.2.2)) ((sIt (so, F0, F1, F2) sN).2.1) (nxW ((sIt (so, F0, F1, F2) sN).2.1) ((sIt (so, F0, F1, F2) sN).2.2.1) ((sIt (so, F0, F1, F2) sN).2.2.2)) (nI (tN + 1)) qo k) k).1 ((qIt (nxH ((sIt (so, F0, F1, F2) sN).2.1) ((sIt (so, F0, F1, F2) sN).2.2.2)) ((sIt (so, F0, F1, F2) sN).2.1) (nxW ((sIt (so, F0, F1, F2) sN).2.1) ((sIt (so, F0, F1, F2) sN).2.2.1) ((sIt (so, F0, F1, F2) sN).2.2.2)) (nI (tN + 1)) qo k) k).2.1 = 1
          · -- looks: t
            refine k_callV (as := [.ref (b + 1), .int (nI (tN + 1))]) (rest := []) (st1 := []) B (c_Pr_lookAt_t (hC_qo hk4) rfl rfl rfl rfl (by omega) (by omega) (by omega) (by omega) (nI (tN + 1)) hv) yf_Pr_lookAt w_325 w_326 w_327 rfl (hC_qo hk4) rfl (by decide) (by decide) rfl rfl (Nat.le_of_ble_eq_true rfl) d_WF_makeGeneration_89 ?_
            refine jW.heap (σ2 := hC b ta (nxH ((sIt (so, F0, F1, F2) sN).2.1) ((sIt (so, F0, F1, F2) sN).2.2.2)) ((sIt (so, F0, F1, F2) sN).2.1) (nxW ((sIt (so, F0, F1, F2) sN).2.1) ((sIt (so, F0, F1, F2) sN).2.2.1) ((sIt (so, F0, F1, F2) sN).2.2.2)) (nxH ((sIt (so, F0, F1, F2) sN).2.1) ((sIt (so, F0, F1, F2) sN).2.2.2)) ((sIt (so, F0, F1, F2) sN).2.1) (nxW ((sIt (so, F0, F1, F2) sN).2.1) ((sIt (so, F0, F1, F2) sN).2.2.1) ((sIt (so, F0, F1, F2) sN).2.2.2)) ec er ed eu eo P0 P1 P2 S N th MS MN ((sIt (so, F0, F1, F2) sN).1) (vf_upd (qIt (nxH ((sIt (so, F0, F1, F2) sN).2.1) ((sIt (so, F0, F1, F2) sN).2.2.2)) ((sIt (so, F0, F1, F2) sN).2.1) (nxW ((sIt (so, F0, F1, F2) sN).2.1) ((sIt (so, F0, F1, F2) sN).2.2.1) ((sIt (so, F0, F1, F2) sN).2.2.2)) (nI (tN + 1)) qo k) k (((qIt (nxH ((sIt (so, F0, F1, F2) sN).2.1) ((sIt (so, F0, F1, F2) sN).2.2.2)) ((sIt (so, F0, F1, F2) sN).2.1) (nxW ((sIt (so, F0, F1, F2) sN).2.1) ((sIt (so, F0, F1, F2) sN).2.2.1) ((sIt (so, F0, F1, F2) sN).2.2.2)) (nI (tN + 1)) qo k) k).1, ((qIt (nxH ((sIt (so, F0, F1, F2) sN).2.1) ((sIt (so, F0, F1, F2) sN).2.2.2)) ((sIt (so, F0, F1, F2) sN).2.1) (nxW ((sIt (so, F0, F1, F2) sN).2.1) ((sIt (so, F0, F1, F2) sN).2.2.1) ((sIt (so, F0, F1, F2) sN).2.2.2)) (nI (tN + 1)) qo k) k).2.1, ((qIt (nxH ((sIt (so, F0, F1, F2) sN).2.1) ((sIt (so, F0, F1, F2) sN).2.2.2)) ((sIt (so, F0, F1, F2) sN).2.1) (nxW ((sIt (so, F0, F1, F2) sN).2.1) ((sIt (so, F0, F1, F2) sN).2.2.1) ((sIt (so, F0, F1, F2) sN).2.2.2)) (nI (tN + 1)) qo k) k).2.2.1 + 1, nI (tN + 1), ((qIt (nxH ((sIt (so, F0, F1, F2) sN).2.1) ((sIt (so, F0, F1, F2) sN).2.2.2)) ((sIt (so, F0, F1, F2) sN).2.1) (nxW ((sIt (so, F0, F1, F2) sN).2.1) ((sIt (so, F0, F1, F2) sN).2.2.1) ((sIt (so, F0, F1, F2) sN).2.2.2)) (nI (tN + 1)) qo k) k).2.2.2.2 * 2 + (1 : Int32).toInt64)) sN qN (min (kN + 1) 16) (tN + 1) (vf_upd M0 (tN % 16) F0) (vf_upd M1 (tN % 16) F1) (vf_upd M2 (tN % 16) F2) (vf_upd mp (tN % 16) (gUp (kpM so) (mp (tN % 16)) 4)) X) (hC_qo_set hk4 (((qIt (nxH ((sIt (so, F0, F1, F2) sN).2.1) ((sIt (so, F0, F1, F2) sN).2.2.2)) ((sIt (so, F0, F1, F2) sN).2.1) (nxW ((sIt (so, F0, F1, F2) sN).2.1) ((sIt (so, F0, F1, F2) sN).2.2.1) ((sIt (so, F0, F1, F2) sN).2.2.2)) (nI (tN + 1)) qo k) k).1, ((qIt (nxH ((sIt (so, F0, F1, F2) sN).2.1) ((sIt (so, F0, F1, F2) sN).2.2.2)) ((sIt (so, F0, F1, F2) sN).2.1) (nxW ((sIt (so, F0, F1, F2) sN).2.1) ((sIt (so, F0, F1, F2) sN).2.2.1) ((sIt (so, F0, F1, F2) sN).2.2.2)) (nI (tN + 1)) qo k) k).2.1, ((qIt (nxH ((sIt (so, F0, F1, F2) sN).2.1) ((sIt (so, F0, F1, F2) sN).2.2.2)) ((sIt (so, F0, F1, F2) sN).2.1) (nxW ((sIt (so, F0, F1, F2) sN).2.1) ((sIt (so, F0, F1, F2) sN).2.2.1) ((sIt (so, F0, F1, F2) sN).2.2.2)) (nI (tN + 1)) qo k) k).2.2.1 + 1, nI (tN + 1), ((qIt (nxH ((sIt (so, F0, F1, F2) sN).2.1) ((sIt (so, F0, F1, F2) sN).2.2.2)) ((sIt (so, F0, F1, F2) sN).2.1) (nxW ((sIt (so, F0, F1, F2) sN).2.1) ((sIt (so, F0, F1, F2) sN).2.2.1) ((sIt (so, F0, F1, F2) sN).2.2.2)) (nI (tN + 1)) qo k) k).2.2.2.2 * 2 + (1 : Int32).toInt64)) ?_
            refine j_iinc (L' := [(0, .ref (b + 0)), (1, .int (nI (k + 1)))]) (v := nI (k + 1)) B d_WF_makeGeneration_92 (k := 1) rfl (nI_succ k).symm (by decide) [1, 0] rfl ?_
            refine j_goto B d_WF_makeGeneration_95 rfl ?_
            refine jW.heap (σ2 := hC b ta (nxH ((sIt (so, F0, F1, F2) sN).2.1) ((sIt (so, F0, F1, F2) sN).2.2.2)) ((sIt (so, F0, F1, F2) sN).2.1) (nxW ((sIt (so, F0, F1, F2) sN).2.1) ((sIt (so, F0, F1, F2) sN).2.2.1) ((sIt (so, F0, F1, F2) sN).2.2.2)) (nxH ((sIt (so, F0, F1, F2) sN).2.1) ((sIt (so, F0, F1, F2) sN).2.2.2)) ((sIt (so, F0, F1, F2) sN).2.1) (nxW ((sIt (so, F0, F1, F2) sN).2.1) ((sIt (so, F0, F1, F2) sN).2.2.1) ((sIt (so, F0, F1, F2) sN).2.2.2)) ec er ed eu eo P0 P1 P2 S N th MS MN ((sIt (so, F0, F1, F2) sN).1) (qIt (nxH ((sIt (so, F0, F1, F2) sN).2.1) ((sIt (so, F0, F1, F2) sN).2.2.2)) ((sIt (so, F0, F1, F2) sN).2.1) (nxW ((sIt (so, F0, F1, F2) sN).2.1) ((sIt (so, F0, F1, F2) sN).2.2.1) ((sIt (so, F0, F1, F2) sN).2.2.2)) (nI (tN + 1)) qo (k + 1)) sN qN (min (kN + 1) 16) (tN + 1) (vf_upd M0 (tN % 16) F0) (vf_upd M1 (tN % 16) F1) (vf_upd M2 (tN % 16) F2) (vf_upd mp (tN % 16) (gUp (kpM so) (mp (tN % 16)) 4)) X) (by rw [qIt_s (by rw [qIt_k] at hv ⊢; simp only [qSt, hv, if_true, if_false])]) ?_; exact ih67 _ (by omega) (k + 1) rfl (by omega)
          · -- looks: f
            refine k_callV (as := [.ref (b + 1), .int (nI (tN + 1))]) (rest := []) (st1 := []) B (c_Pr_lookAt_f (hC_qo hk4) rfl rfl rfl rfl (by omega) (by omega) (by omega) (by omega) (nI (tN + 1)) hv) yf_Pr_lookAt w_325 w_326 w_327 rfl (hC_qo hk4) rfl (by decide) (by decide) rfl rfl (Nat.le_of_ble_eq_true rfl) d_WF_makeGeneration_89 ?_
            refine jW.heap (σ2 := hC b ta (nxH ((sIt (so, F0, F1, F2) sN).2.1) ((sIt (so, F0, F1, F2) sN).2.2.2)) ((sIt (so, F0, F1, F2) sN).2.1) (nxW ((sIt (so, F0, F1, F2) sN).2.1) ((sIt (so, F0, F1, F2) sN).2.2.1) ((sIt (so, F0, F1, F2) sN).2.2.2)) (nxH ((sIt (so, F0, F1, F2) sN).2.1) ((sIt (so, F0, F1, F2) sN).2.2.2)) ((sIt (so, F0, F1, F2) sN).2.1) (nxW ((sIt (so, F0, F1, F2) sN).2.1) ((sIt (so, F0, F1, F2) sN).2.2.1) ((sIt (so, F0, F1, F2) sN).2.2.2)) ec er ed eu eo P0 P1 P2 S N th MS MN ((sIt (so, F0, F1, F2) sN).1) (vf_upd (qIt (nxH ((sIt (so, F0, F1, F2) sN).2.1) ((sIt (so, F0, F1, F2) sN).2.2.2)) ((sIt (so, F0, F1, F2) sN).2.1) (nxW ((sIt (so, F0, F1, F2) sN).2.1) ((sIt (so, F0, F1, F2) sN).2.2.1) ((sIt (so, F0, F1, F2) sN).2.2.2)) (nI (tN + 1)) qo k) k (((qIt (nxH ((sIt (so, F0, F1, F2) sN).2.1) ((sIt (so, F0, F1, F2) sN).2.2.2)) ((sIt (so, F0, F1, F2) sN).2.1) (nxW ((sIt (so, F0, F1, F2) sN).2.1) ((sIt (so, F0, F1, F2) sN).2.2.1) ((sIt (so, F0, F1, F2) sN).2.2.2)) (nI (tN + 1)) qo k) k).1, ((qIt (nxH ((sIt (so, F0, F1, F2) sN).2.1) ((sIt (so, F0, F1, F2) sN).2.2.2)) ((sIt (so, F0, F1, F2) sN).2.1) (nxW ((sIt (so, F0, F1, F2) sN).2.1) ((sIt (so, F0, F1, F2) sN).2.2.1) ((sIt (so, F0, F1, F2) sN).2.2.2)) (nI (tN + 1)) qo k) k).2.1, ((qIt (nxH ((sIt (so, F0, F1, F2) sN).2.1) ((sIt (so, F0, F1, F2) sN).2.2.2)) ((sIt (so, F0, F1, F2) sN).2.1) (nxW ((sIt (so, F0, F1, F2) sN).2.1) ((sIt (so, F0, F1, F2) sN).2.2.1) ((sIt (so, F0, F1, F2) sN).2.2.2)) (nI (tN + 1)) qo k) k).2.2.1, ((qIt (nxH ((sIt (so, F0, F1, F2) sN).2.1) ((sIt (so, F0, F1, F2) sN).2.2.2)) ((sIt (so, F0, F1, F2) sN).2.1) (nxW ((sIt (so, F0, F1, F2) sN).2.1) ((sIt (so, F0, F1, F2) sN).2.2.1) ((sIt (so, F0, F1, F2) sN).2.2.2)) (nI (tN + 1)) qo k) k).2.2.2.1, ((qIt (nxH ((sIt (so, F0, F1, F2) sN).2.1) ((sIt (so, F0, F1, F2) sN).2.2.2)) ((sIt (so, F0, F1, F2) sN).2.1) (nxW ((sIt (so, F0, F1, F2) sN).2.1) ((sIt (so, F0, F1, F2) sN).2.2.1) ((sIt (so, F0, F1, F2) sN).2.2.2)) (nI (tN + 1)) qo k) k).2.2.2.2 * 2 + (0 : Int32).toInt64)) sN qN (min (kN + 1) 16) (tN + 1) (vf_upd M0 (tN % 16) F0) (vf_upd M1 (tN % 16) F1) (vf_upd M2 (tN % 16) F2) (vf_upd mp (tN % 16) (gUp (kpM so) (mp (tN % 16)) 4)) X) (hC_qo_set hk4 (((qIt (nxH ((sIt (so, F0, F1, F2) sN).2.1) ((sIt (so, F0, F1, F2) sN).2.2.2)) ((sIt (so, F0, F1, F2) sN).2.1) (nxW ((sIt (so, F0, F1, F2) sN).2.1) ((sIt (so, F0, F1, F2) sN).2.2.1) ((sIt (so, F0, F1, F2) sN).2.2.2)) (nI (tN + 1)) qo k) k).1, ((qIt (nxH ((sIt (so, F0, F1, F2) sN).2.1) ((sIt (so, F0, F1, F2) sN).2.2.2)) ((sIt (so, F0, F1, F2) sN).2.1) (nxW ((sIt (so, F0, F1, F2) sN).2.1) ((sIt (so, F0, F1, F2) sN).2.2.1) ((sIt (so, F0, F1, F2) sN).2.2.2)) (nI (tN + 1)) qo k) k).2.1, ((qIt (nxH ((sIt (so, F0, F1, F2) sN).2.1) ((sIt (so, F0, F1, F2) sN).2.2.2)) ((sIt (so, F0, F1, F2) sN).2.1) (nxW ((sIt (so, F0, F1, F2) sN).2.1) ((sIt (so, F0, F1, F2) sN).2.2.1) ((sIt (so, F0, F1, F2) sN).2.2.2)) (nI (tN + 1)) qo k) k).2.2.1, ((qIt (nxH ((sIt (so, F0, F1, F2) sN).2.1) ((sIt (so, F0, F1, F2) sN).2.2.2)) ((sIt (so, F0, F1, F2) sN).2.1) (nxW ((sIt (so, F0, F1, F2) sN).2.1) ((sIt (so, F0, F1, F2) sN).2.2.1) ((sIt (so, F0, F1, F2) sN).2.2.2)) (nI (tN + 1)) qo k) k).2.2.2.1, ((qIt (nxH ((sIt (so, F0, F1, F2) sN).2.1) ((sIt (so, F0, F1, F2) sN).2.2.2)) ((sIt (so, F0, F1, F2) sN).2.1) (nxW ((sIt (so, F0, F1, F2) sN).2.1) ((sIt (so, F0, F1, F2) sN).2.2.1) ((sIt (so, F0, F1, F2) sN).2.2.2)) (nI (tN + 1)) qo k) k).2.2.2.2 * 2 + (0 : Int32).toInt64)) ?_
            refine j_iinc (L' := [(0, .ref (b + 0)), (1, .int (nI (k + 1)))]) (v := nI (k + 1)) B d_WF_makeGeneration_92 (k := 1) rfl (nI_succ k).symm (by decide) [1, 0] rfl ?_
            refine j_goto B d_WF_makeGeneration_95 rfl ?_
            refine jW.heap (σ2 := hC b ta (nxH ((sIt (so, F0, F1, F2) sN).2.1) ((sIt (so, F0, F1, F2) sN).2.2.2)) ((sIt (so, F0, F1, F2) sN).2.1) (nxW ((sIt (so, F0, F1, F2) sN).2.1) ((sIt (so, F0, F1, F2) sN).2.2.1) ((sIt (so, F0, F1, F2) sN).2.2.2)) (nxH ((sIt (so, F0, F1, F2) sN).2.1) ((sIt (so, F0, F1, F2) sN).2.2.2)) ((sIt (so, F0, F1, F2) sN).2.1) (nxW ((sIt (so, F0, F1, F2) sN).2.1) ((sIt (so, F0, F1, F2) sN).2.2.1) ((sIt (so, F0, F1, F2) sN).2.2.2)) ec er ed eu eo P0 P1 P2 S N th MS MN ((sIt (so, F0, F1, F2) sN).1) (qIt (nxH ((sIt (so, F0, F1, F2) sN).2.1) ((sIt (so, F0, F1, F2) sN).2.2.2)) ((sIt (so, F0, F1, F2) sN).2.1) (nxW ((sIt (so, F0, F1, F2) sN).2.1) ((sIt (so, F0, F1, F2) sN).2.2.1) ((sIt (so, F0, F1, F2) sN).2.2.2)) (nI (tN + 1)) qo (k + 1)) sN qN (min (kN + 1) 16) (tN + 1) (vf_upd M0 (tN % 16) F0) (vf_upd M1 (tN % 16) F1) (vf_upd M2 (tN % 16) F2) (vf_upd mp (tN % 16) (gUp (kpM so) (mp (tN % 16)) 4)) X) (by rw [qIt_s (by rw [qIt_k] at hv ⊢; simp only [qSt, hv, if_true, if_false])]) ?_; exact ih67 _ (by omega) (k + 1) rfl (by omega)
      refine jW.heap (σ2 := hC b ta (nxH ((sIt (so, F0, F1, F2) sN).2.1) ((sIt (so, F0, F1, F2) sN).2.2.2)) ((sIt (so, F0, F1, F2) sN).2.1) (nxW ((sIt (so, F0, F1, F2) sN).2.1) ((sIt (so, F0, F1, F2) sN).2.2.1) ((sIt (so, F0, F1, F2) sN).2.2.2)) (nxH ((sIt (so, F0, F1, F2) sN).2.1) ((sIt (so, F0, F1, F2) sN).2.2.2)) ((sIt (so, F0, F1, F2) sN).2.1) (nxW ((sIt (so, F0, F1, F2) sN).2.1) ((sIt (so, F0, F1, F2) sN).2.2.1) ((sIt (so, F0, F1, F2) sN).2.2.2)) ec er ed eu eo P0 P1 P2 S N th MS MN ((sIt (so, F0, F1, F2) sN).1) (qIt (nxH ((sIt (so, F0, F1, F2) sN).2.1) ((sIt (so, F0, F1, F2) sN).2.2.2)) ((sIt (so, F0, F1, F2) sN).2.1) (nxW ((sIt (so, F0, F1, F2) sN).2.1) ((sIt (so, F0, F1, F2) sN).2.2.1) ((sIt (so, F0, F1, F2) sN).2.2.2)) (nI (tN + 1)) qo 0) sN qN (min (kN + 1) 16) (tN + 1) (vf_upd M0 (tN % 16) F0) (vf_upd M1 (tN % 16) F1) (vf_upd M2 (tN % 16) F2) (vf_upd mp (tN % 16) (gUp (kpM so) (mp (tN % 16)) 4)) X) (by rw [qIt_0]) ?_
      exact lp67 _ 0 rfl (by omega)
    · -- 11 on
      have hk3 := lp_lt (by omega) hk h11
      have hk4 : k < 4 := by omega
      refine j_aload_n B d_WF_makeGeneration_14 rfl 0 rfl ?_
      refine gf_WF_43 B rfl rfl d_WF_makeGeneration_15 ?_
      refine j_iload_n B d_WF_makeGeneration_18 rfl 1 rfl ?_
      refine j_aaldN (z := b + (29 + k)) B rfl rfl (by omega) (if_pos (by omega)) d_WF_makeGeneration_19 ?_
      refine j_aload_n B d_WF_makeGeneration_20 rfl 0 rfl ?_
      refine gf_WF_12 B rfl rfl d_WF_makeGeneration_21 ?_
      refine jW.heap (σ2 := gS ta (hC b ta ((sIt (so, F0, F1, F2) k).2.1) ((sIt (so, F0, F1, F2) k).2.2.1) ((sIt (so, F0, F1, F2) k).2.2.2) A0 A1 A2 ec er ed eu eo P0 P1 P2 S N th MS MN ((sIt (so, F0, F1, F2) k).1) qo sN qN (min (kN + 1) 16) tN (vf_upd M0 (tN % 16) F0) (vf_upd M1 (tN % 16) F1) (vf_upd M2 (tN % 16) F2) (vf_upd mp (tN % 16) (gUp (kpM so) (mp (tN % 16)) 4)) X) (29 + k) 2 3 4 (sE (((sIt (so, F0, F1, F2) k).1) k)) ((sIt (so, F0, F1, F2) k).2.1) ((sIt (so, F0, F1, F2) k).2.2.1) ((sIt (so, F0, F1, F2) k).2.2.2)) (by rw [hC_gS hk4, vf_id]) ?_
      refine k_callV (as := [.ref (b + 1)]) (rest := []) (st1 := []) B (c_So_actOn (hC_pW hk4) (by rw [sIt_at _ _ _ (Nat.le_refl _)]; exact (hso k hk4).2) (by rw [sIt_at _ _ _ (Nat.le_refl _)]; exact (hso k hk4).1)) yf_So_actOn w_308 w_309 w_310 rfl (gS_p (hC_pW hk4)) rfl (by decide) (by decide) rfl rfl (Nat.le_of_ble_eq_true rfl) d_WF_makeGeneration_24 ?_
      refine jW.heap (σ2 := hC b ta (sB (((sIt (so, F0, F1, F2) k).1) k).2.2.1 (((sIt (so, F0, F1, F2) k).1) k).2.2.2.2 ((sIt (so, F0, F1, F2) k).2.1) ((sIt (so, F0, F1, F2) k).2.2.1) ((sIt (so, F0, F1, F2) k).2.2.2) ((sIt (so, F0, F1, F2) k).2.1) (((sIt (so, F0, F1, F2) k).1) k).1 (((sIt (so, F0, F1, F2) k).1) k).2.1 1) (sB (((sIt (so, F0, F1, F2) k).1) k).2.2.1 (((sIt (so, F0, F1, F2) k).1) k).2.2.2.2 ((sIt (so, F0, F1, F2) k).2.1) ((sIt (so, F0, F1, F2) k).2.2.1) ((sIt (so, F0, F1, F2) k).2.2.2) ((sIt (so, F0, F1, F2) k).2.2.1) (((sIt (so, F0, F1, F2) k).1) k).1 (((sIt (so, F0, F1, F2) k).1) k).2.1 2) (sB (((sIt (so, F0, F1, F2) k).1) k).2.2.1 (((sIt (so, F0, F1, F2) k).1) k).2.2.2.2 ((sIt (so, F0, F1, F2) k).2.1) ((sIt (so, F0, F1, F2) k).2.2.1) ((sIt (so, F0, F1, F2) k).2.2.2) ((sIt (so, F0, F1, F2) k).2.2.2) (((sIt (so, F0, F1, F2) k).1) k).1 (((sIt (so, F0, F1, F2) k).1) k).2.1 3) A0 A1 A2 ec er ed eu eo P0 P1 P2 S N th MS MN (vf_upd ((sIt (so, F0, F1, F2) k).1) k ((((sIt (so, F0, F1, F2) k).1) k).1, (((sIt (so, F0, F1, F2) k).1) k).2.1, (((sIt (so, F0, F1, F2) k).1) k).2.2.1, (((sIt (so, F0, F1, F2) k).1) k).2.2.2.1, sNx (((sIt (so, F0, F1, F2) k).1) k).2.2.2.1 (((sIt (so, F0, F1, F2) k).1) k).2.2.2.2)) qo sN qN (min (kN + 1) 16) tN (vf_upd M0 (tN % 16) F0) (vf_upd M1 (tN % 16) F1) (vf_upd M2 (tN % 16) F2) (vf_upd mp (tN % 16) (gUp (kpM so) (mp (tN % 16)) 4)) X) (hC_gS hk4 ((((sIt (so, F0, F1, F2) k).1) k).1, (((sIt (so, F0, F1, F2) k).1) k).2.1, (((sIt (so, F0, F1, F2) k).1) k).2.2.1, (((sIt (so, F0, F1, F2) k).1) k).2.2.2.1, sNx (((sIt (so, F0, F1, F2) k).1) k).2.2.2.1 (((sIt (so, F0, F1, F2) k).1) k).2.2.2.2) (sB (((sIt (so, F0, F1, F2) k).1) k).2.2.1 (((sIt (so, F0, F1, F2) k).1) k).2.2.2.2 ((sIt (so, F0, F1, F2) k).2.1) ((sIt (so, F0, F1, F2) k).2.2.1) ((sIt (so, F0, F1, F2) k).2.2.2) ((sIt (so, F0, F1, F2) k).2.1) (((sIt (so, F0, F1, F2) k).1) k).1 (((sIt (so, F0, F1, F2) k).1) k).2.1 1) (sB (((sIt (so, F0, F1, F2) k).1) k).2.2.1 (((sIt (so, F0, F1, F2) k).1) k).2.2.2.2 ((sIt (so, F0, F1, F2) k).2.1) ((sIt (so, F0, F1, F2) k).2.2.1) ((sIt (so, F0, F1, F2) k).2.2.2) ((sIt (so, F0, F1, F2) k).2.2.1) (((sIt (so, F0, F1, F2) k).1) k).1 (((sIt (so, F0, F1, F2) k).1) k).2.1 2) (sB (((sIt (so, F0, F1, F2) k).1) k).2.2.1 (((sIt (so, F0, F1, F2) k).1) k).2.2.2.2 ((sIt (so, F0, F1, F2) k).2.1) ((sIt (so, F0, F1, F2) k).2.2.1) ((sIt (so, F0, F1, F2) k).2.2.2) ((sIt (so, F0, F1, F2) k).2.2.2) (((sIt (so, F0, F1, F2) k).1) k).1 (((sIt (so, F0, F1, F2) k).1) k).2.1 3)) ?_
      refine j_iinc (L' := [(0, .ref (b + 0)), (1, .int (nI (k + 1)))]) (v := nI (k + 1)) B d_WF_makeGeneration_27 (k := 1) rfl (nI_succ k).symm (by decide) [1, 0] rfl ?_
      refine j_goto B d_WF_makeGeneration_30 rfl ?_
      exact ih6 _ (by omega) (k + 1) rfl (by omega)
  exact lp6 _ 0 rfl (by omega)
