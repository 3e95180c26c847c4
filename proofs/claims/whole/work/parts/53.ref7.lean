set_option maxRecDepth 100000 in
set_option maxHeartbeats 4000000 in
theorem c_M_copy_0 {l : Launch} {b : Nat} {D : va_G} {ta : Nat → ClassId} {σ : List va_E} (hl : σ.length = 133) {wt : Int32} {F0 : Nat → Int32} {F1 : Nat → Int32} {F2 : Nat → Int32} {HH : Nat → Int32} {kt : Nat → Int32} {kp : Nat → Int32} {a : Nat} {hi : Nat} {tm : Nat} {sN : Nat} {sx : Nat → Int32} {sy : Nat → Int32} {pt : Nat → Int64} {mn : Nat → Int32} {pl : Nat → Int32} {pN : Nat} {px : Nat → Int32} {py : Nat → Int32} {sn : Nat → Int32} {lt : Nat → Int32} {rc : Nat → Int64} {tx : Nat → Int32} {sz : Nat → Int32} {us : Nat → Int32} {D0 : Nat → Int32} {D1 : Nat → Int32} {D2 : Nat → Int32} {qx : Int32} {qy : Int32} {di : Nat} {up : Bool} {dn : Nat} {be : Bool} {op : Nat} {gs : Nat → Int32} {t0 : Nat → Int32} {fr : Nat → Int32} {lf : Nat → Int32} {pX : Nat → Int32} {pY : Nat → Int32} {pD : Nat → Int32} {pU : Nat → Int32} {X : List va_E} {cX cY cw ch cU cV : Nat} (hX : cX < 32) (hY : cY < 24) (hw : 0 < cw) (hh : 0 < ch) (hXw : cX + cw ≤ 32) (hYh : cY + ch ≤ 24) (hU : cU < 32) (hV : cV < 24) (hUW : cU + cw ≤ 32) (hVH : cV + ch ≤ 24) : jC l b D ta False y_M_copy b_M_copy 18 (some .boolean) (rL 1) [.ref (b + 133), .int (nI cX), .int (nI cY), .int (nI cw), .int (nI ch), .int (nI cU), .int (nI cV), .int 0] (σ ++ rC b ta wt F0 F1 F2 HH kt kp a hi tm sN sx sy pt mn pl pN px py sn lt rc tx sz us D0 D1 D2 qx qy di up dn be op gs t0 fr lf pX pY pD pU X) (some (.int 1)) (σ ++ rC b ta 0 ((cqA (rwF D0 F0 24, rwF D1 F1 24, rwF D2 F2 24) 0 cX cY cw ch cU cV cw (F0, F1, F2) ch).1) ((cqA (rwF D0 F0 24, rwF D1 F1 24, rwF D2 F2 24) 0 cX cY cw ch cU cV cw (F0, F1, F2) ch).2.1) ((cqA (rwF D0 F0 24, rwF D1 F1 24, rwF D2 F2 24) 0 cX cY cw ch cU cV cw (F0, F1, F2) ch).2.2) HH kt kp a 0 tm sN sx sy pt mn pl pN px py sn lt rc tx sz us (rwF D0 F0 24) (rwF D1 F1 24) (rwF D2 F2 24) qx qy di up dn be op gs t0 fr lf pX pY pD pU X) := by
  refine jC_of (own := "WireFieldModel") (by decide +kernel) (Nat.le_of_ble_eq_true rfl) rfl (fun Γ B K => ?_)
  change jW l b D Γ False 0 0 18 (σ ++ rC b ta wt F0 F1 F2 HH kt kp a hi tm sN sx sy pt mn pl pN px py sn lt rc tx sz us D0 D1 D2 qx qy di up dn be op gs t0 fr lf pX pY pD pU X) [(0, .ref (b + 133)), (1, .int (nI cX)), (2, .int (nI cY)), (3, .int (nI cw)), (4, .int (nI ch)), (5, .int (nI cU)), (6, .int (nI cV)), (7, .int 0)] 0 []
  refine j_aload_n B d_M_copy_0 rfl 0 rfl ?_
  refine j_iconst (v := 0) B d_M_copy_1 (by decide) ?_
  refine pf_M_102 B not_false (rG (ix := 0) hl rfl) rfl rfl (Nat.le_of_ble_eq_true rfl) d_M_copy_2 ?_
  refine jW.heap (σ2 := σ ++ rC b ta 0 F0 F1 F2 HH kt kp a hi tm sN sx sy pt mn pl pN px py sn lt rc tx sz us D0 D1 D2 qx qy di up dn be op gs t0 fr lf pX pY pD pU X) (rT (ix := 0) hl rfl) ?_
  refine j_iload_n B d_M_copy_5 rfl 1 rfl ?_
  refine j_iload_n B d_M_copy_6 rfl 2 rfl ?_
  refine k_callS (as := [.int (nI cX), .int (nI cY)]) (rest := []) (st1 := [.int (bI (inF (nI cX) (nI cY)))]) B (c_M_is (nI cX) (nI cY)) yf_M_is w_899 w_900 rfl (by decide) (by decide) rfl rfl (Nat.le_of_ble_eq_true rfl) d_M_copy_7 ?_
  refine j_if_eq B d_M_copy_10 rfl (fun h10 => absurd (bI_f h10) (by rw [inF_n hX hY]; decide)) (fun h10 => ?_)
  refine j_iload_n B d_M_copy_13 rfl 3 rfl ?_
  refine j_if_le B d_M_copy_14 rfl (fun h14 => absurd h14 (nI_nle hw (by omega))) (fun h14 => ?_)
  refine j_iload B d_M_copy_17 4 rfl ?_
  refine j_if_le B d_M_copy_19 rfl (fun h19 => absurd h19 (nI_nle hh (by omega))) (fun h19 => ?_)
  refine j_iload_n B d_M_copy_22 rfl 3 rfl ?_
  refine j_bipush (v := 32) B d_M_copy_23 (by decide) ?_
  refine j_iload_n B d_M_copy_25 rfl 1 rfl ?_
  refine j_isubE (v := nI (32 - cX)) B (pk_sub (a := 32) (b := cX) (by omega)) d_M_copy_26 ?_
  refine j_icmp_gt B d_M_copy_27 rfl (fun h27 => absurd h27 (nI_nlt (a := 32 - cX) (b := cw) (by omega) (by omega))) (fun h27 => ?_)
  refine j_iload B d_M_copy_30 4 rfl ?_
  refine j_bipush (v := 24) B d_M_copy_32 (by decide) ?_
  refine j_iload_n B d_M_copy_34 rfl 2 rfl ?_
  refine j_isubE (v := nI (24 - cY)) B (pk_sub (a := 24) (b := cY) (by omega)) d_M_copy_35 ?_
  refine j_icmp_gt B d_M_copy_36 rfl (fun h36 => absurd h36 (nI_nlt (a := 24 - cY) (b := ch) (by omega) (by omega))) (fun h36 => ?_)
  refine j_iload B d_M_copy_39 7 rfl ?_
  refine j_if_lt B d_M_copy_41 rfl (fun h41 => absurd h41 (by decide)) (fun h41 => ?_)
  refine j_iload B d_M_copy_44 7 rfl ?_
  refine j_iconst (v := 4) B d_M_copy_46 (by decide) ?_
  refine j_icmp_ge B d_M_copy_47 rfl (fun h47 => absurd h47 (by decide)) (fun h47 => ?_)
  refine j_iload B d_M_copy_50 5 rfl ?_
  refine j_iload B d_M_copy_52 6 rfl ?_
  refine k_callS (as := [.int (nI cU), .int (nI cV)]) (rest := []) (st1 := [.int (bI (inF (nI cU) (nI cV)))]) B (c_M_is (nI cU) (nI cV)) yf_M_is w_899 w_900 rfl (by decide) (by decide) rfl rfl (Nat.le_of_ble_eq_true rfl) d_M_copy_54 ?_
  refine j_if_eq B d_M_copy_57 rfl (fun h57 => absurd (bI_f h57) (by rw [inF_n hU hV]; decide)) (fun h57 => ?_)
  refine j_iconst (v := 1) B d_M_copy_60 (by decide) ?_
  refine j_goto B d_M_copy_61 rfl ?_
  refine j_istore (L' := [(0, .ref (b + 133)), (1, .int (nI cX)), (2, .int (nI cY)), (3, .int (nI cw)), (4, .int (nI ch)), (5, .int (nI cU)), (6, .int (nI cV)), (7, .int 0), (8, .int 1)]) B d_M_copy_65 (by decide) [1, 2, 3, 4, 5, 6, 7, 8, 0] rfl ?_
  refine j_iload B d_M_copy_67 7 rfl ?_
  refine j_iconst (v := 2) B d_M_copy_69 (by decide) ?_
  refine j_irem B d_M_copy_70 (by decide) ?_
  refine j_if_ne B d_M_copy_71 rfl (fun h71 => absurd (by decide) h71) (fun h71 => ?_)
  refine j_iload_n B d_M_copy_74 rfl 3 rfl ?_
  refine j_goto B d_M_copy_75 rfl ?_
  refine j_istore (L' := [(0, .ref (b + 133)), (1, .int (nI cX)), (2, .int (nI cY)), (3, .int (nI cw)), (4, .int (nI ch)), (5, .int (nI cU)), (6, .int (nI cV)), (7, .int 0), (8, .int 1), (9, .int (nI cw))]) B d_M_copy_80 (by decide) [1, 2, 3, 4, 5, 6, 7, 8, 9, 0] rfl ?_
  refine j_iload B d_M_copy_82 7 rfl ?_
  refine j_iconst (v := 2) B d_M_copy_84 (by decide) ?_
  refine j_irem B d_M_copy_85 (by decide) ?_
  refine j_if_ne B d_M_copy_86 rfl (fun h86 => absurd (by decide) h86) (fun h86 => ?_)
  refine j_iload B d_M_copy_89 4 rfl ?_
  refine j_goto B d_M_copy_91 rfl ?_
  refine j_istore (L' := [(0, .ref (b + 133)), (1, .int (nI cX)), (2, .int (nI cY)), (3, .int (nI cw)), (4, .int (nI ch)), (5, .int (nI cU)), (6, .int (nI cV)), (7, .int 0), (8, .int 1), (9, .int (nI cw)), (10, .int (nI ch))]) B d_M_copy_95 (by decide) [1, 2, 3, 4, 5, 6, 7, 8, 9, 10, 0] rfl ?_
  refine j_iload B d_M_copy_97 8 rfl ?_
  refine j_if_eq B d_M_copy_99 rfl (fun h99 => absurd h99 (by decide)) (fun h99 => ?_)
  refine j_iload B d_M_copy_102 9 rfl ?_
  refine j_bipush (v := 32) B d_M_copy_104 (by decide) ?_
  refine j_iload B d_M_copy_106 5 rfl ?_
  refine j_isubE (v := nI (32 - cU)) B (pk_sub (a := 32) (b := cU) (by omega)) d_M_copy_108 ?_
  refine j_icmp_gt B d_M_copy_109 rfl (fun h109 => absurd h109 (nI_nlt (a := 32 - cU) (b := cw) (by omega) (by omega))) (fun h109 => ?_)
  refine j_iload B d_M_copy_112 10 rfl ?_
  refine j_bipush (v := 24) B d_M_copy_114 (by decide) ?_
  refine j_iload B d_M_copy_116 6 rfl ?_
  refine j_isubE (v := nI (24 - cV)) B (pk_sub (a := 24) (b := cV) (by omega)) d_M_copy_118 ?_
  refine j_icmp_le B d_M_copy_119 rfl (fun h119 => ?_) (fun h119 => absurd (nI_le (a := ch) (b := 24 - cV) (by omega) (by omega)) h119)
  refine j_iconst (v := 0) B d_M_copy_124 (by decide) ?_
  refine j_istore (L' := [(0, .ref (b + 133)), (1, .int (nI cX)), (2, .int (nI cY)), (3, .int (nI cw)), (4, .int (nI ch)), (5, .int (nI cU)), (6, .int (nI cV)), (7, .int 0), (8, .int 1), (9, .int (nI cw)), (10, .int (nI ch)), (11, .int 0)]) B d_M_copy_125 (by decide) [1, 2, 3, 4, 5, 6, 7, 8, 9, 10, 11, 0] rfl ?_
  have lp127 : ∀ (n127 : Nat) (r : Nat), 24 - r = n127 → (r ≤ 24) → jW l b D Γ False 0 0 18 (σ ++ rC b ta 0 F0 F1 F2 HH kt kp a hi tm sN sx sy pt mn pl pN px py sn lt rc tx sz us (rwF D0 F0 r) (rwF D1 F1 r) (rwF D2 F2 r) qx qy di up dn be op gs t0 fr lf pX pY pD pU X) [(0, .ref (b + 133)), (1, .int (nI cX)), (2, .int (nI cY)), (3, .int (nI cw)), (4, .int (nI ch)), (5, .int (nI cU)), (6, .int (nI cV)), (7, .int 0), (8, .int 1), (9, .int (nI cw)), (10, .int (nI ch)), (11, .int (nI r))] 127 [] := by
    refine jloop (fun n127 ih127 => ?_)
    intro r hn127 hr
    refine j_iload B d_M_copy_127 11 rfl ?_
    refine j_bipush (v := 24) B d_M_copy_129 (by decide) ?_
    refine j_icmp_ge B d_M_copy_131 rfl (fun h131 => ?_) (fun h131 => ?_)
    · -- 131 jump
      have hr2 := lp_ge (n := 24) (by decide) hr h131
      subst hr2
      refine j_iconst (v := 0) B d_M_copy_182 (by decide) ?_
      refine j_istore (L' := [(0, .ref (b + 133)), (1, .int (nI cX)), (2, .int (nI cY)), (3, .int (nI cw)), (4, .int (nI ch)), (5, .int (nI cU)), (6, .int (nI cV)), (7, .int 0), (8, .int 1), (9, .int (nI cw)), (10, .int (nI ch)), (11, .int 0)]) B d_M_copy_183 (by decide) [1, 2, 3, 4, 5, 6, 7, 8, 9, 10, 11, 0] rfl ?_
      have lp185 : ∀ (n185 : Nat) (ri : Nat) (G0 : Nat → Int32) (G1 : Nat → Int32) (G2 : Nat → Int32), ch - ri = n185 → (ri ≤ ch) → ((G0, G1, G2) = cqA (rwF D0 F0 24, rwF D1 F1 24, rwF D2 F2 24) 0 cX cY cw ch cU cV cw (F0, F1, F2) ri) → jW l b D Γ False 0 0 18 (σ ++ rC b ta 0 G0 G1 G2 HH kt kp a hi tm sN sx sy pt mn pl pN px py sn lt rc tx sz us (rwF D0 F0 24) (rwF D1 F1 24) (rwF D2 F2 24) qx qy di up dn be op gs t0 fr lf pX pY pD pU X) [(0, .ref (b + 133)), (1, .int (nI cX)), (2, .int (nI cY)), (3, .int (nI cw)), (4, .int (nI ch)), (5, .int (nI cU)), (6, .int (nI cV)), (7, .int 0), (8, .int 1), (9, .int (nI cw)), (10, .int (nI ch)), (11, .int (nI ri))] 185 [] := by
        refine jloop (fun n185 ih185 => ?_)
        intro ri G0 G1 G2 hn185 hr hI
        refine j_iload B d_M_copy_185 11 rfl ?_
        refine j_iload B d_M_copy_187 10 rfl ?_
        refine j_icmp_ge B d_M_copy_189 rfl (fun h189 => ?_) (fun h189 => ?_)
        · -- 189 jump
          have hr2 : ch = ri := (lp_ge (by omega) hr h189).symm
          subst hr2
          have q1 : G0 = (cqA (rwF D0 F0 24, rwF D1 F1 24, rwF D2 F2 24) 0 cX cY cw ch cU cV cw (F0, F1, F2) ch).1 := congrArg (fun z => z.1) hI
          have q2 : G1 = (cqA (rwF D0 F0 24, rwF D1 F1 24, rwF D2 F2 24) 0 cX cY cw ch cU cV cw (F0, F1, F2) ch).2.1 := congrArg (fun z => z.2.1) hI
          have q3 : G2 = (cqA (rwF D0 F0 24, rwF D1 F1 24, rwF D2 F2 24) 0 cX cY cw ch cU cV cw (F0, F1, F2) ch).2.2 := congrArg (fun z => z.2.2) hI
          clear hI
          subst q1 q2 q3
          refine j_aload_n B d_M_copy_381 rfl 0 rfl ?_
          refine j_iconst (v := 0) B d_M_copy_382 (by decide) ?_
          refine pf_M_113 B not_false (rG (ix := 0) hl rfl) rfl rfl (Nat.le_of_ble_eq_true rfl) d_M_copy_383 ?_
          refine jW.heap (σ2 := σ ++ rC b ta 0 ((cqA (rwF D0 F0 24, rwF D1 F1 24, rwF D2 F2 24) 0 cX cY cw ch cU cV cw (F0, F1, F2) ch).1) ((cqA (rwF D0 F0 24, rwF D1 F1 24, rwF D2 F2 24) 0 cX cY cw ch cU cV cw (F0, F1, F2) ch).2.1) ((cqA (rwF D0 F0 24, rwF D1 F1 24, rwF D2 F2 24) 0 cX cY cw ch cU cV cw (F0, F1, F2) ch).2.2) HH kt kp a 0 tm sN sx sy pt mn pl pN px py sn lt rc tx sz us (rwF D0 F0 24) (rwF D1 F1 24) (rwF D2 F2 24) qx qy di up dn be op gs t0 fr lf pX pY pD pU X) (rT (ix := 0) hl rfl) ?_
          refine j_iconst (v := 1) B d_M_copy_386 (by decide) ?_
          exact j_zret B K (by decide) rfl rfl d_M_copy_387
        · -- 189 on
          have hr2 := lp_lt (by omega) hr h189
          refine j_iconst (v := 0) B d_M_copy_192 (by decide) ?_
          refine j_istore (L' := [(0, .ref (b + 133)), (1, .int (nI cX)), (2, .int (nI cY)), (3, .int (nI cw)), (4, .int (nI ch)), (5, .int (nI cU)), (6, .int (nI cV)), (7, .int 0), (8, .int 1), (9, .int (nI cw)), (10, .int (nI ch)), (11, .int (nI ri)), (12, .int 0)]) B d_M_copy_193 (by decide) [1, 2, 3, 4, 5, 6, 7, 8, 9, 10, 11, 12, 0] rfl ?_
          have lp195 : ∀ (n195 : Nat) (ci : Nat) (E0 : Nat → Int32) (E1 : Nat → Int32) (E2 : Nat → Int32), cw - ci = n195 → (ci ≤ cw) → ((E0, E1, E2) = cqL (rwF D0 F0 24, rwF D1 F1 24, rwF D2 F2 24) 0 cX cY cw ch cU cV ri (G0, G1, G2) ci) → jW l b D Γ False 0 0 18 (σ ++ rC b ta 0 E0 E1 E2 HH kt kp a hi tm sN sx sy pt mn pl pN px py sn lt rc tx sz us (rwF D0 F0 24) (rwF D1 F1 24) (rwF D2 F2 24) qx qy di up dn be op gs t0 fr lf pX pY pD pU X) [(0, .ref (b + 133)), (1, .int (nI cX)), (2, .int (nI cY)), (3, .int (nI cw)), (4, .int (nI ch)), (5, .int (nI cU)), (6, .int (nI cV)), (7, .int 0), (8, .int 1), (9, .int (nI cw)), (10, .int (nI ch)), (11, .int (nI ri)), (12, .int (nI ci))] 195 [] := by
            refine jloop (fun n195 ih195 => ?_)
            intro ci E0 E1 E2 hn195 hc hJ
            refine j_iload B d_M_copy_195 12 rfl ?_
            refine j_iload B d_M_copy_197 9 rfl ?_
            refine j_icmp_ge B d_M_copy_199 rfl (fun h199 => ?_) (fun h199 => ?_)
            · -- 199 jump
              have hc2 : cw = ci := (lp_ge (by omega) hc h199).symm
              subst hc2
              refine j_iinc (L' := [(0, .ref (b + 133)), (1, .int (nI cX)), (2, .int (nI cY)), (3, .int (nI cw)), (4, .int (nI ch)), (5, .int (nI cU)), (6, .int (nI cV)), (7, .int 0), (8, .int 1), (9, .int (nI cw)), (10, .int (nI ch)), (11, .int (nI (ri + 1))), (12, .int (nI cw))]) (v := nI (ri + 1)) B d_M_copy_375 (k := 11) rfl (nI_succ ri).symm (by decide) [1, 2, 3, 4, 5, 6, 7, 8, 9, 10, 11, 0, 12] rfl ?_
              refine j_goto B d_M_copy_378 rfl ?_
              refine jW.sub (L' := [(0, .ref (b + 133)), (1, .int (nI cX)), (2, .int (nI cY)), (3, .int (nI cw)), (4, .int (nI ch)), (5, .int (nI cU)), (6, .int (nI cV)), (7, .int 0), (8, .int 1), (9, .int (nI cw)), (10, .int (nI ch)), (11, .int (nI (ri + 1)))]) [0, 1, 2, 3, 4, 5, 6, 7, 8, 9, 10, 11] rfl ?_; exact ih185 _ (by omega) (ri + 1) E0 E1 E2 rfl (by omega) (by rw [cqA, ← hI]; exact hJ)
            · -- 199 on
              have hc2 := lp_lt (by omega) hc h199
              refine j_iload B d_M_copy_202 7 rfl ?_
              refine j_if_ne B d_M_copy_204 rfl (fun h204 => absurd rfl h204) (fun h204 => ?_)
              refine j_iload B d_M_copy_207 12 rfl ?_
              refine j_goto B d_M_copy_209 rfl ?_
              refine j_istore (L' := [(0, .ref (b + 133)), (1, .int (nI cX)), (2, .int (nI cY)), (3, .int (nI cw)), (4, .int (nI ch)), (5, .int (nI cU)), (6, .int (nI cV)), (7, .int 0), (8, .int 1), (9, .int (nI cw)), (10, .int (nI ch)), (11, .int (nI ri)), (12, .int (nI ci)), (13, .int (nI ci))]) B d_M_copy_244 (by decide) [1, 2, 3, 4, 5, 6, 7, 8, 9, 10, 11, 12, 13, 0] rfl ?_
              refine j_iload B d_M_copy_246 7 rfl ?_
              refine j_if_ne B d_M_copy_248 rfl (fun h248 => absurd rfl h248) (fun h248 => ?_)
              refine j_iload B d_M_copy_251 11 rfl ?_
              refine j_goto B d_M_copy_253 rfl ?_
              refine j_istore (L' := [(0, .ref (b + 133)), (1, .int (nI cX)), (2, .int (nI cY)), (3, .int (nI cw)), (4, .int (nI ch)), (5, .int (nI cU)), (6, .int (nI cV)), (7, .int 0), (8, .int 1), (9, .int (nI cw)), (10, .int (nI ch)), (11, .int (nI ri)), (12, .int (nI ci)), (13, .int (nI ci)), (14, .int (nI ri))]) B d_M_copy_290 (by decide) [1, 2, 3, 4, 5, 6, 7, 8, 9, 10, 11, 12, 13, 14, 0] rfl ?_
              refine j_iload_n B d_M_copy_292 rfl 1 rfl ?_
              refine j_iload B d_M_copy_293 13 rfl ?_
              refine j_iaddE (v := nI (cX + ci)) B (nI_add cX ci) d_M_copy_295 ?_
              refine j_istore (L' := [(0, .ref (b + 133)), (1, .int (nI cX)), (2, .int (nI cY)), (3, .int (nI cw)), (4, .int (nI ch)), (5, .int (nI cU)), (6, .int (nI cV)), (7, .int 0), (8, .int 1), (9, .int (nI cw)), (10, .int (nI ch)), (11, .int (nI ri)), (12, .int (nI ci)), (13, .int (nI ci)), (14, .int (nI ri)), (15, .int (nI (cX + ci)))]) B d_M_copy_296 (by decide) [1, 2, 3, 4, 5, 6, 7, 8, 9, 10, 11, 12, 13, 14, 15, 0] rfl ?_
              refine j_iload_n B d_M_copy_298 rfl 2 rfl ?_
              refine j_iload B d_M_copy_299 14 rfl ?_
              refine j_iaddE (v := nI (cY + ri)) B (nI_add cY ri) d_M_copy_301 ?_
              refine j_istore (L' := [(0, .ref (b + 133)), (1, .int (nI cX)), (2, .int (nI cY)), (3, .int (nI cw)), (4, .int (nI ch)), (5, .int (nI cU)), (6, .int (nI cV)), (7, .int 0), (8, .int 1), (9, .int (nI cw)), (10, .int (nI ch)), (11, .int (nI ri)), (12, .int (nI ci)), (13, .int (nI ci)), (14, .int (nI ri)), (15, .int (nI (cX + ci))), (16, .int (nI (cY + ri)))]) B d_M_copy_302 (by decide) [1, 2, 3, 4, 5, 6, 7, 8, 9, 10, 11, 12, 13, 14, 15, 16, 0] rfl ?_
              refine j_aload_n B d_M_copy_304 rfl 0 rfl ?_
              refine gf_M_68 B (rG (ix := 0) hl rfl) rfl d_M_copy_305 ?_
              refine j_iload B d_M_copy_308 16 rfl ?_
              refine j_ialdN B rfl (rG (ix := 20) hl rfl) (by omega) d_M_copy_310 ?_
              refine j_iload B d_M_copy_311 15 rfl ?_
              refine k_callS (as := [.int ((rwF D0 F0 24) (cY + ri)), .int (nI (cX + ci))]) (rest := []) (st1 := [.int (btR ((rwF D0 F0 24) (cY + ri)) (nI (cX + ci)))]) B (c_M_bit ((rwF D0 F0 24) (cY + ri)) (nI (cX + ci))) yf_M_bit w_853 w_854 rfl (by decide) (by decide) rfl rfl (Nat.le_of_ble_eq_true rfl) d_M_copy_313 ?_
              refine j_iconst (v := 2) B d_M_copy_316 (by decide) ?_
              refine j_aload_n B d_M_copy_317 rfl 0 rfl ?_
              refine gf_M_71 B (rG (ix := 0) hl rfl) rfl d_M_copy_318 ?_
              refine j_iload B d_M_copy_321 16 rfl ?_
              refine j_ialdN B rfl (rG (ix := 21) hl rfl) (by omega) d_M_copy_323 ?_
              refine j_iload B d_M_copy_324 15 rfl ?_
              refine k_callS (as := [.int ((rwF D1 F1 24) (cY + ri)), .int (nI (cX + ci))]) (rest := [.int 2, .int (btR ((rwF D0 F0 24) (cY + ri)) (nI (cX + ci)))]) (st1 := [.int (btR ((rwF D1 F1 24) (cY + ri)) (nI (cX + ci))), .int 2, .int (btR ((rwF D0 F0 24) (cY + ri)) (nI (cX + ci)))]) B (c_M_bit ((rwF D1 F1 24) (cY + ri)) (nI (cX + ci))) yf_M_bit w_853 w_854 rfl (by decide) (by decide) rfl rfl (Nat.le_of_ble_eq_true rfl) d_M_copy_326 ?_
              refine j_imul B d_M_copy_329 ?_
              refine j_iadd B d_M_copy_330 ?_
              refine j_iconst (v := 3) B d_M_copy_331 (by decide) ?_
              refine j_aload_n B d_M_copy_332 rfl 0 rfl ?_
              refine gf_M_74 B (rG (ix := 0) hl rfl) rfl d_M_copy_333 ?_
              refine j_iload B d_M_copy_336 16 rfl ?_
              refine j_ialdN B rfl (rG (ix := 22) hl rfl) (by omega) d_M_copy_338 ?_
              refine j_iload B d_M_copy_339 15 rfl ?_
              refine k_callS (as := [.int ((rwF D2 F2 24) (cY + ri)), .int (nI (cX + ci))]) (rest := [.int 3, .int ((btR ((rwF D0 F0 24) (cY + ri)) (nI (cX + ci))) + (2 * (btR ((rwF D1 F1 24) (cY + ri)) (nI (cX + ci)))))]) (st1 := [.int (btR ((rwF D2 F2 24) (cY + ri)) (nI (cX + ci))), .int 3, .int ((btR ((rwF D0 F0 24) (cY + ri)) (nI (cX + ci))) + (2 * (btR ((rwF D1 F1 24) (cY + ri)) (nI (cX + ci)))))]) B (c_M_bit ((rwF D2 F2 24) (cY + ri)) (nI (cX + ci))) yf_M_bit w_853 w_854 rfl (by decide) (by decide) rfl rfl (Nat.le_of_ble_eq_true rfl) d_M_copy_341 ?_
              refine j_imul B d_M_copy_344 ?_
              refine j_iadd B d_M_copy_345 ?_
              refine j_istore (L' := [(0, .ref (b + 133)), (1, .int (nI cX)), (2, .int (nI cY)), (3, .int (nI cw)), (4, .int (nI ch)), (5, .int (nI cU)), (6, .int (nI cV)), (7, .int 0), (8, .int 1), (9, .int (nI cw)), (10, .int (nI ch)), (11, .int (nI ri)), (12, .int (nI ci)), (13, .int (nI ci)), (14, .int (nI ri)), (15, .int (nI (cX + ci))), (16, .int (nI (cY + ri))), (17, .int (((btR ((rwF D0 F0 24) (cY + ri)) (nI (cX + ci))) + (2 * (btR ((rwF D1 F1 24) (cY + ri)) (nI (cX + ci))))) + (3 * (btR ((rwF D2 F2 24) (cY + ri)) (nI (cX + ci))))))]) B d_M_copy_346 (by decide) [1, 2, 3, 4, 5, 6, 7, 8, 9, 10, 11, 12, 13, 14, 15, 16, 17, 0] rfl ?_
              refine j_iload B d_M_copy_348 17 rfl ?_
              refine j_if_le B d_M_copy_350 rfl (fun h350 => ?_) (fun h350 => ?_)
              · -- 350 jump
                refine j_iinc (L' := [(0, .ref (b + 133)), (1, .int (nI cX)), (2, .int (nI cY)), (3, .int (nI cw)), (4, .int (nI ch)), (5, .int (nI cU)), (6, .int (nI cV)), (7, .int 0), (8, .int 1), (9, .int (nI cw)), (10, .int (nI ch)), (11, .int (nI ri)), (12, .int (nI (ci + 1))), (13, .int (nI ci)), (14, .int (nI ri)), (15, .int (nI (cX + ci))), (16, .int (nI (cY + ri))), (17, .int (((btR ((rwF D0 F0 24) (cY + ri)) (nI (cX + ci))) + (2 * (btR ((rwF D1 F1 24) (cY + ri)) (nI (cX + ci))))) + (3 * (btR ((rwF D2 F2 24) (cY + ri)) (nI (cX + ci))))))]) (v := nI (ci + 1)) B d_M_copy_369 (k := 12) rfl (nI_succ ci).symm (by decide) [1, 2, 3, 4, 5, 6, 7, 8, 9, 10, 11, 12, 0, 13, 14, 15, 16, 17] rfl ?_
                refine j_goto B d_M_copy_372 rfl ?_
                refine jW.sub (L' := [(0, .ref (b + 133)), (1, .int (nI cX)), (2, .int (nI cY)), (3, .int (nI cw)), (4, .int (nI ch)), (5, .int (nI cU)), (6, .int (nI cV)), (7, .int 0), (8, .int 1), (9, .int (nI cw)), (10, .int (nI ch)), (11, .int (nI ri)), (12, .int (nI (ci + 1)))]) [0, 1, 2, 3, 4, 5, 6, 7, 8, 9, 10, 11, 12] rfl ?_; exact ih195 _ (by omega) (ci + 1) E0 E1 E2 rfl (by omega) (by rw [cqL, ← hJ]; exact (if_pos h350).symm)
              · -- 350 on
                refine j_aload_n B d_M_copy_353 rfl 0 rfl ?_
                refine j_iload B d_M_copy_354 5 rfl ?_
                refine j_iload B d_M_copy_356 12 rfl ?_
                refine j_iaddE (v := nI (cU + ci)) B (nI_add cU ci) d_M_copy_358 ?_
                refine j_iload B d_M_copy_359 6 rfl ?_
                refine j_iload B d_M_copy_361 11 rfl ?_
                refine j_iaddE (v := nI (cV + ri)) B (nI_add cV ri) d_M_copy_363 ?_
                refine j_iload B d_M_copy_364 17 rfl ?_
                refine k_callV (as := [.int (nI (cU + ci)), .int (nI (cV + ri)), .int (((btR ((rwF D0 F0 24) (cY + ri)) (nI (cX + ci))) + (2 * (btR ((rwF D1 F1 24) (cY + ri)) (nI (cX + ci))))) + (3 * (btR ((rwF D2 F2 24) (cY + ri)) (nI (cX + ci)))))]) (rest := []) (st1 := []) B (c_M_change hl (inF_n (by omega) (by omega))) yf_M_change w_952 w_954 w_s40 rfl (rG (ix := 0) hl rfl) rfl (by decide) (by decide) rfl rfl (Nat.le_of_ble_eq_true rfl) d_M_copy_366 ?_
                refine j_iinc (L' := [(0, .ref (b + 133)), (1, .int (nI cX)), (2, .int (nI cY)), (3, .int (nI cw)), (4, .int (nI ch)), (5, .int (nI cU)), (6, .int (nI cV)), (7, .int 0), (8, .int 1), (9, .int (nI cw)), (10, .int (nI ch)), (11, .int (nI ri)), (12, .int (nI (ci + 1))), (13, .int (nI ci)), (14, .int (nI ri)), (15, .int (nI (cX + ci))), (16, .int (nI (cY + ri))), (17, .int (((btR ((rwF D0 F0 24) (cY + ri)) (nI (cX + ci))) + (2 * (btR ((rwF D1 F1 24) (cY + ri)) (nI (cX + ci))))) + (3 * (btR ((rwF D2 F2 24) (cY + ri)) (nI (cX + ci))))))]) (v := nI (ci + 1)) B d_M_copy_369 (k := 12) rfl (nI_succ ci).symm (by decide) [1, 2, 3, 4, 5, 6, 7, 8, 9, 10, 11, 12, 0, 13, 14, 15, 16, 17] rfl ?_
                refine j_goto B d_M_copy_372 rfl ?_
                refine jW.sub (L' := [(0, .ref (b + 133)), (1, .int (nI cX)), (2, .int (nI cY)), (3, .int (nI cw)), (4, .int (nI ch)), (5, .int (nI cU)), (6, .int (nI cV)), (7, .int 0), (8, .int 1), (9, .int (nI cw)), (10, .int (nI ch)), (11, .int (nI ri)), (12, .int (nI (ci + 1)))]) [0, 1, 2, 3, 4, 5, 6, 7, 8, 9, 10, 11, 12] rfl ?_; exact ih195 _ (by omega) (ci + 1) (pB E0 (nI (cU + ci)) (nI (cV + ri)) (((btR ((rwF D0 F0 24) (cY + ri)) (nI (cX + ci))) + (2 * (btR ((rwF D1 F1 24) (cY + ri)) (nI (cX + ci))))) + (3 * (btR ((rwF D2 F2 24) (cY + ri)) (nI (cX + ci))))) 1) (pB E1 (nI (cU + ci)) (nI (cV + ri)) (((btR ((rwF D0 F0 24) (cY + ri)) (nI (cX + ci))) + (2 * (btR ((rwF D1 F1 24) (cY + ri)) (nI (cX + ci))))) + (3 * (btR ((rwF D2 F2 24) (cY + ri)) (nI (cX + ci))))) 2) (pB E2 (nI (cU + ci)) (nI (cV + ri)) (((btR ((rwF D0 F0 24) (cY + ri)) (nI (cX + ci))) + (2 * (btR ((rwF D1 F1 24) (cY + ri)) (nI (cX + ci))))) + (3 * (btR ((rwF D2 F2 24) (cY + ri)) (nI (cX + ci))))) 3) rfl (by omega) (by rw [cqL, ← hJ]; exact (if_neg h350).symm)
          exact lp195 _ 0 G0 G1 G2 rfl (by omega) rfl
      exact lp185 _ 0 F0 F1 F2 rfl (by omega) rfl
    · -- 131 on
      have hr2 := lp_lt (n := 24) (by decide) hr h131
      refine j_aload_n B d_M_copy_134 rfl 0 rfl ?_
      refine gf_M_68 B (rG (ix := 0) hl rfl) rfl d_M_copy_135 ?_
      refine j_iload B d_M_copy_138 11 rfl ?_
      refine j_aload_n B d_M_copy_140 rfl 0 rfl ?_
      refine gf_M_7 B (rG (ix := 0) hl rfl) rfl d_M_copy_141 ?_
      refine j_iload B d_M_copy_144 11 rfl ?_
      refine j_ialdN B rfl (rG (ix := 1) hl rfl) (by omega) d_M_copy_146 ?_
      refine j_iastN B not_false rfl (rG (ix := 20) hl rfl) (by omega) d_M_copy_147 ?_
      refine jW.heap (σ2 := σ ++ rC b ta 0 F0 F1 F2 HH kt kp a hi tm sN sx sy pt mn pl pN px py sn lt rc tx sz us (upd (rwF D0 F0 r) r (F0 r)) (rwF D1 F1 r) (rwF D2 F2 r) qx qy di up dn be op gs t0 fr lf pX pY pD pU X) (rT (ix := 20) hl rfl) ?_
      refine j_aload_n B d_M_copy_148 rfl 0 rfl ?_
      refine gf_M_71 B (rG (ix := 0) hl rfl) rfl d_M_copy_149 ?_
      refine j_iload B d_M_copy_152 11 rfl ?_
      refine j_aload_n B d_M_copy_154 rfl 0 rfl ?_
      refine gf_M_13 B (rG (ix := 0) hl rfl) rfl d_M_copy_155 ?_
      refine j_iload B d_M_copy_158 11 rfl ?_
      refine j_ialdN B rfl (rG (ix := 2) hl rfl) (by omega) d_M_copy_160 ?_
      refine j_iastN B not_false rfl (rG (ix := 21) hl rfl) (by omega) d_M_copy_161 ?_
      refine jW.heap (σ2 := σ ++ rC b ta 0 F0 F1 F2 HH kt kp a hi tm sN sx sy pt mn pl pN px py sn lt rc tx sz us (upd (rwF D0 F0 r) r (F0 r)) (upd (rwF D1 F1 r) r (F1 r)) (rwF D2 F2 r) qx qy di up dn be op gs t0 fr lf pX pY pD pU X) (rT (ix := 21) hl rfl) ?_
      refine j_aload_n B d_M_copy_162 rfl 0 rfl ?_
      refine gf_M_74 B (rG (ix := 0) hl rfl) rfl d_M_copy_163 ?_
      refine j_iload B d_M_copy_166 11 rfl ?_
      refine j_aload_n B d_M_copy_168 rfl 0 rfl ?_
      refine gf_M_16 B (rG (ix := 0) hl rfl) rfl d_M_copy_169 ?_
      refine j_iload B d_M_copy_172 11 rfl ?_
      refine j_ialdN B rfl (rG (ix := 3) hl rfl) (by omega) d_M_copy_174 ?_
      refine j_iastN B not_false rfl (rG (ix := 22) hl rfl) (by omega) d_M_copy_175 ?_
      refine jW.heap (σ2 := σ ++ rC b ta 0 F0 F1 F2 HH kt kp a hi tm sN sx sy pt mn pl pN px py sn lt rc tx sz us (upd (rwF D0 F0 r) r (F0 r)) (upd (rwF D1 F1 r) r (F1 r)) (upd (rwF D2 F2 r) r (F2 r)) qx qy di up dn be op gs t0 fr lf pX pY pD pU X) (rT (ix := 22) hl rfl) ?_
      refine j_iinc (L' := [(0, .ref (b + 133)), (1, .int (nI cX)), (2, .int (nI cY)), (3, .int (nI cw)), (4, .int (nI ch)), (5, .int (nI cU)), (6, .int (nI cV)), (7, .int 0), (8, .int 1), (9, .int (nI cw)), (10, .int (nI ch)), (11, .int (nI (r + 1)))]) (v := nI (r + 1)) B d_M_copy_176 (k := 11) rfl (nI_succ r).symm (by decide) [1, 2, 3, 4, 5, 6, 7, 8, 9, 10, 11, 0] rfl ?_
      refine j_goto B d_M_copy_179 rfl ?_
      exact ih127 _ (by omega) (r + 1) rfl (by omega)
  exact lp127 _ 0 rfl (by omega)
set_option maxRecDepth 100000 in
set_option maxHeartbeats 4000000 in
theorem c_M_copy_1 {l : Launch} {b : Nat} {D : va_G} {ta : Nat → ClassId} {σ : List va_E} (hl : σ.length = 133) {wt : Int32} {F0 : Nat → Int32} {F1 : Nat → Int32} {F2 : Nat → Int32} {HH : Nat → Int32} {kt : Nat → Int32} {kp : Nat → Int32} {a : Nat} {hi : Nat} {tm : Nat} {sN : Nat} {sx : Nat → Int32} {sy : Nat → Int32} {pt : Nat → Int64} {mn : Nat → Int32} {pl : Nat → Int32} {pN : Nat} {px : Nat → Int32} {py : Nat → Int32} {sn : Nat → Int32} {lt : Nat → Int32} {rc : Nat → Int64} {tx : Nat → Int32} {sz : Nat → Int32} {us : Nat → Int32} {D0 : Nat → Int32} {D1 : Nat → Int32} {D2 : Nat → Int32} {qx : Int32} {qy : Int32} {di : Nat} {up : Bool} {dn : Nat} {be : Bool} {op : Nat} {gs : Nat → Int32} {t0 : Nat → Int32} {fr : Nat → Int32} {lf : Nat → Int32} {pX : Nat → Int32} {pY : Nat → Int32} {pD : Nat → Int32} {pU : Nat → Int32} {X : List va_E} {cX cY cw ch cU cV : Nat} (hX : cX < 32) (hY : cY < 24) (hw : 0 < cw) (hh : 0 < ch) (hXw : cX + cw ≤ 32) (hYh : cY + ch ≤ 24) (hU : cU < 32) (hV : cV < 24) (hUW : cU + ch ≤ 32) (hVH : cV + cw ≤ 24) : jC l b D ta False y_M_copy b_M_copy 18 (some .boolean) (rL 1) [.ref (b + 133), .int (nI cX), .int (nI cY), .int (nI cw), .int (nI ch), .int (nI cU), .int (nI cV), .int 1] (σ ++ rC b ta wt F0 F1 F2 HH kt kp a hi tm sN sx sy pt mn pl pN px py sn lt rc tx sz us D0 D1 D2 qx qy di up dn be op gs t0 fr lf pX pY pD pU X) (some (.int 1)) (σ ++ rC b ta 0 ((cqA (rwF D0 F0 24, rwF D1 F1 24, rwF D2 F2 24) 1 cX cY cw ch cU cV ch (F0, F1, F2) cw).1) ((cqA (rwF D0 F0 24, rwF D1 F1 24, rwF D2 F2 24) 1 cX cY cw ch cU cV ch (F0, F1, F2) cw).2.1) ((cqA (rwF D0 F0 24, rwF D1 F1 24, rwF D2 F2 24) 1 cX cY cw ch cU cV ch (F0, F1, F2) cw).2.2) HH kt kp a 0 tm sN sx sy pt mn pl pN px py sn lt rc tx sz us (rwF D0 F0 24) (rwF D1 F1 24) (rwF D2 F2 24) qx qy di up dn be op gs t0 fr lf pX pY pD pU X) := by
  refine jC_of (own := "WireFieldModel") (by decide +kernel) (Nat.le_of_ble_eq_true rfl) rfl (fun Γ B K => ?_)
  change jW l b D Γ False 0 0 18 (σ ++ rC b ta wt F0 F1 F2 HH kt kp a hi tm sN sx sy pt mn pl pN px py sn lt rc tx sz us D0 D1 D2 qx qy di up dn be op gs t0 fr lf pX pY pD pU X) [(0, .ref (b + 133)), (1, .int (nI cX)), (2, .int (nI cY)), (3, .int (nI cw)), (4, .int (nI ch)), (5, .int (nI cU)), (6, .int (nI cV)), (7, .int 1)] 0 []
  refine j_aload_n B d_M_copy_0 rfl 0 rfl ?_
  refine j_iconst (v := 0) B d_M_copy_1 (by decide) ?_
  refine pf_M_102 B not_false (rG (ix := 0) hl rfl) rfl rfl (Nat.le_of_ble_eq_true rfl) d_M_copy_2 ?_
  refine jW.heap (σ2 := σ ++ rC b ta 0 F0 F1 F2 HH kt kp a hi tm sN sx sy pt mn pl pN px py sn lt rc tx sz us D0 D1 D2 qx qy di up dn be op gs t0 fr lf pX pY pD pU X) (rT (ix := 0) hl rfl) ?_
  refine j_iload_n B d_M_copy_5 rfl 1 rfl ?_
  refine j_iload_n B d_M_copy_6 rfl 2 rfl ?_
  refine k_callS (as := [.int (nI cX), .int (nI cY)]) (rest := []) (st1 := [.int (bI (inF (nI cX) (nI cY)))]) B (c_M_is (nI cX) (nI cY)) yf_M_is w_899 w_900 rfl (by decide) (by decide) rfl rfl (Nat.le_of_ble_eq_true rfl) d_M_copy_7 ?_
  refine j_if_eq B d_M_copy_10 rfl (fun h10 => absurd (bI_f h10) (by rw [inF_n hX hY]; decide)) (fun h10 => ?_)
  refine j_iload_n B d_M_copy_13 rfl 3 rfl ?_
  refine j_if_le B d_M_copy_14 rfl (fun h14 => absurd h14 (nI_nle hw (by omega))) (fun h14 => ?_)
  refine j_iload B d_M_copy_17 4 rfl ?_
  refine j_if_le B d_M_copy_19 rfl (fun h19 => absurd h19 (nI_nle hh (by omega))) (fun h19 => ?_)
  refine j_iload_n B d_M_copy_22 rfl 3 rfl ?_
  refine j_bipush (v := 32) B d_M_copy_23 (by decide) ?_
  refine j_iload_n B d_M_copy_25 rfl 1 rfl ?_
  refine j_isubE (v := nI (32 - cX)) B (pk_sub (a := 32) (b := cX) (by omega)) d_M_copy_26 ?_
  refine j_icmp_gt B d_M_copy_27 rfl (fun h27 => absurd h27 (nI_nlt (a := 32 - cX) (b := cw) (by omega) (by omega))) (fun h27 => ?_)
  refine j_iload B d_M_copy_30 4 rfl ?_
  refine j_bipush (v := 24) B d_M_copy_32 (by decide) ?_
  refine j_iload_n B d_M_copy_34 rfl 2 rfl ?_
  refine j_isubE (v := nI (24 - cY)) B (pk_sub (a := 24) (b := cY) (by omega)) d_M_copy_35 ?_
  refine j_icmp_gt B d_M_copy_36 rfl (fun h36 => absurd h36 (nI_nlt (a := 24 - cY) (b := ch) (by omega) (by omega))) (fun h36 => ?_)
  refine j_iload B d_M_copy_39 7 rfl ?_
  refine j_if_lt B d_M_copy_41 rfl (fun h41 => absurd h41 (by decide)) (fun h41 => ?_)
  refine j_iload B d_M_copy_44 7 rfl ?_
  refine j_iconst (v := 4) B d_M_copy_46 (by decide) ?_
  refine j_icmp_ge B d_M_copy_47 rfl (fun h47 => absurd h47 (by decide)) (fun h47 => ?_)
  refine j_iload B d_M_copy_50 5 rfl ?_
  refine j_iload B d_M_copy_52 6 rfl ?_
  refine k_callS (as := [.int (nI cU), .int (nI cV)]) (rest := []) (st1 := [.int (bI (inF (nI cU) (nI cV)))]) B (c_M_is (nI cU) (nI cV)) yf_M_is w_899 w_900 rfl (by decide) (by decide) rfl rfl (Nat.le_of_ble_eq_true rfl) d_M_copy_54 ?_
  refine j_if_eq B d_M_copy_57 rfl (fun h57 => absurd (bI_f h57) (by rw [inF_n hU hV]; decide)) (fun h57 => ?_)
  refine j_iconst (v := 1) B d_M_copy_60 (by decide) ?_
  refine j_goto B d_M_copy_61 rfl ?_
  refine j_istore (L' := [(0, .ref (b + 133)), (1, .int (nI cX)), (2, .int (nI cY)), (3, .int (nI cw)), (4, .int (nI ch)), (5, .int (nI cU)), (6, .int (nI cV)), (7, .int 1), (8, .int 1)]) B d_M_copy_65 (by decide) [1, 2, 3, 4, 5, 6, 7, 8, 0] rfl ?_
  refine j_iload B d_M_copy_67 7 rfl ?_
  refine j_iconst (v := 2) B d_M_copy_69 (by decide) ?_
  refine j_irem B d_M_copy_70 (by decide) ?_
  refine j_if_ne B d_M_copy_71 rfl (fun h71 => ?_) (fun h71 => absurd h71 (by decide))
  refine j_iload B d_M_copy_78 4 rfl ?_
  refine j_istore (L' := [(0, .ref (b + 133)), (1, .int (nI cX)), (2, .int (nI cY)), (3, .int (nI cw)), (4, .int (nI ch)), (5, .int (nI cU)), (6, .int (nI cV)), (7, .int 1), (8, .int 1), (9, .int (nI ch))]) B d_M_copy_80 (by decide) [1, 2, 3, 4, 5, 6, 7, 8, 9, 0] rfl ?_
  refine j_iload B d_M_copy_82 7 rfl ?_
  refine j_iconst (v := 2) B d_M_copy_84 (by decide) ?_
  refine j_irem B d_M_copy_85 (by decide) ?_
  refine j_if_ne B d_M_copy_86 rfl (fun h86 => ?_) (fun h86 => absurd h86 (by decide))
  refine j_iload_n B d_M_copy_94 rfl 3 rfl ?_
  refine j_istore (L' := [(0, .ref (b + 133)), (1, .int (nI cX)), (2, .int (nI cY)), (3, .int (nI cw)), (4, .int (nI ch)), (5, .int (nI cU)), (6, .int (nI cV)), (7, .int 1), (8, .int 1), (9, .int (nI ch)), (10, .int (nI cw))]) B d_M_copy_95 (by decide) [1, 2, 3, 4, 5, 6, 7, 8, 9, 10, 0] rfl ?_
  refine j_iload B d_M_copy_97 8 rfl ?_
  refine j_if_eq B d_M_copy_99 rfl (fun h99 => absurd h99 (by decide)) (fun h99 => ?_)
  refine j_iload B d_M_copy_102 9 rfl ?_
  refine j_bipush (v := 32) B d_M_copy_104 (by decide) ?_
  refine j_iload B d_M_copy_106 5 rfl ?_
  refine j_isubE (v := nI (32 - cU)) B (pk_sub (a := 32) (b := cU) (by omega)) d_M_copy_108 ?_
  refine j_icmp_gt B d_M_copy_109 rfl (fun h109 => absurd h109 (nI_nlt (a := 32 - cU) (b := ch) (by omega) (by omega))) (fun h109 => ?_)
  refine j_iload B d_M_copy_112 10 rfl ?_
  refine j_bipush (v := 24) B d_M_copy_114 (by decide) ?_
  refine j_iload B d_M_copy_116 6 rfl ?_
  refine j_isubE (v := nI (24 - cV)) B (pk_sub (a := 24) (b := cV) (by omega)) d_M_copy_118 ?_
  refine j_icmp_le B d_M_copy_119 rfl (fun h119 => ?_) (fun h119 => absurd (nI_le (a := cw) (b := 24 - cV) (by omega) (by omega)) h119)
  refine j_iconst (v := 0) B d_M_copy_124 (by decide) ?_
  refine j_istore (L' := [(0, .ref (b + 133)), (1, .int (nI cX)), (2, .int (nI cY)), (3, .int (nI cw)), (4, .int (nI ch)), (5, .int (nI cU)), (6, .int (nI cV)), (7, .int 1), (8, .int 1), (9, .int (nI ch)), (10, .int (nI cw)), (11, .int 0)]) B d_M_copy_125 (by decide) [1, 2, 3, 4, 5, 6, 7, 8, 9, 10, 11, 0] rfl ?_
  have lp127 : ∀ (n127 : Nat) (r : Nat), 24 - r = n127 → (r ≤ 24) → jW l b D Γ False 0 0 18 (σ ++ rC b ta 0 F0 F1 F2 HH kt kp a hi tm sN sx sy pt mn pl pN px py sn lt rc tx sz us (rwF D0 F0 r) (rwF D1 F1 r) (rwF D2 F2 r) qx qy di up dn be op gs t0 fr lf pX pY pD pU X) [(0, .ref (b + 133)), (1, .int (nI cX)), (2, .int (nI cY)), (3, .int (nI cw)), (4, .int (nI ch)), (5, .int (nI cU)), (6, .int (nI cV)), (7, .int 1), (8, .int 1), (9, .int (nI ch)), (10, .int (nI cw)), (11, .int (nI r))] 127 [] := by
    refine jloop (fun n127 ih127 => ?_)
    intro r hn127 hr
    refine j_iload B d_M_copy_127 11 rfl ?_
    refine j_bipush (v := 24) B d_M_copy_129 (by decide) ?_
    refine j_icmp_ge B d_M_copy_131 rfl (fun h131 => ?_) (fun h131 => ?_)
    · -- 131 jump
      have hr2 := lp_ge (n := 24) (by decide) hr h131
      subst hr2
      refine j_iconst (v := 0) B d_M_copy_182 (by decide) ?_
      refine j_istore (L' := [(0, .ref (b + 133)), (1, .int (nI cX)), (2, .int (nI cY)), (3, .int (nI cw)), (4, .int (nI ch)), (5, .int (nI cU)), (6, .int (nI cV)), (7, .int 1), (8, .int 1), (9, .int (nI ch)), (10, .int (nI cw)), (11, .int 0)]) B d_M_copy_183 (by decide) [1, 2, 3, 4, 5, 6, 7, 8, 9, 10, 11, 0] rfl ?_
      have lp185 : ∀ (n185 : Nat) (ri : Nat) (G0 : Nat → Int32) (G1 : Nat → Int32) (G2 : Nat → Int32), cw - ri = n185 → (ri ≤ cw) → ((G0, G1, G2) = cqA (rwF D0 F0 24, rwF D1 F1 24, rwF D2 F2 24) 1 cX cY cw ch cU cV ch (F0, F1, F2) ri) → jW l b D Γ False 0 0 18 (σ ++ rC b ta 0 G0 G1 G2 HH kt kp a hi tm sN sx sy pt mn pl pN px py sn lt rc tx sz us (rwF D0 F0 24) (rwF D1 F1 24) (rwF D2 F2 24) qx qy di up dn be op gs t0 fr lf pX pY pD pU X) [(0, .ref (b + 133)), (1, .int (nI cX)), (2, .int (nI cY)), (3, .int (nI cw)), (4, .int (nI ch)), (5, .int (nI cU)), (6, .int (nI cV)), (7, .int 1), (8, .int 1), (9, .int (nI ch)), (10, .int (nI cw)), (11, .int (nI ri))] 185 [] := by
        refine jloop (fun n185 ih185 => ?_)
        intro ri G0 G1 G2 hn185 hr hI
        refine j_iload B d_M_copy_185 11 rfl ?_
        refine j_iload B d_M_copy_187 10 rfl ?_
        refine j_icmp_ge B d_M_copy_189 rfl (fun h189 => ?_) (fun h189 => ?_)
        · -- 189 jump
          have hr2 : cw = ri := (lp_ge (by omega) hr h189).symm
          subst hr2
          have q1 : G0 = (cqA (rwF D0 F0 24, rwF D1 F1 24, rwF D2 F2 24) 1 cX cY cw ch cU cV ch (F0, F1, F2) cw).1 := congrArg (fun z => z.1) hI
          have q2 : G1 = (cqA (rwF D0 F0 24, rwF D1 F1 24, rwF D2 F2 24) 1 cX cY cw ch cU cV ch (F0, F1, F2) cw).2.1 := congrArg (fun z => z.2.1) hI
          have q3 : G2 = (cqA (rwF D0 F0 24, rwF D1 F1 24, rwF D2 F2 24) 1 cX cY cw ch cU cV ch (F0, F1, F2) cw).2.2 := congrArg (fun z => z.2.2) hI
          clear hI
          subst q1 q2 q3
          refine j_aload_n B d_M_copy_381 rfl 0 rfl ?_
          refine j_iconst (v := 0) B d_M_copy_382 (by decide) ?_
          refine pf_M_113 B not_false (rG (ix := 0) hl rfl) rfl rfl (Nat.le_of_ble_eq_true rfl) d_M_copy_383 ?_
          refine jW.heap (σ2 := σ ++ rC b ta 0 ((cqA (rwF D0 F0 24, rwF D1 F1 24, rwF D2 F2 24) 1 cX cY cw ch cU cV ch (F0, F1, F2) cw).1) ((cqA (rwF D0 F0 24, rwF D1 F1 24, rwF D2 F2 24) 1 cX cY cw ch cU cV ch (F0, F1, F2) cw).2.1) ((cqA (rwF D0 F0 24, rwF D1 F1 24, rwF D2 F2 24) 1 cX cY cw ch cU cV ch (F0, F1, F2) cw).2.2) HH kt kp a 0 tm sN sx sy pt mn pl pN px py sn lt rc tx sz us (rwF D0 F0 24) (rwF D1 F1 24) (rwF D2 F2 24) qx qy di up dn be op gs t0 fr lf pX pY pD pU X) (rT (ix := 0) hl rfl) ?_
          refine j_iconst (v := 1) B d_M_copy_386 (by decide) ?_
          exact j_zret B K (by decide) rfl rfl d_M_copy_387
        · -- 189 on
          have hr2 := lp_lt (by omega) hr h189
          refine j_iconst (v := 0) B d_M_copy_192 (by decide) ?_
          refine j_istore (L' := [(0, .ref (b + 133)), (1, .int (nI cX)), (2, .int (nI cY)), (3, .int (nI cw)), (4, .int (nI ch)), (5, .int (nI cU)), (6, .int (nI cV)), (7, .int 1), (8, .int 1), (9, .int (nI ch)), (10, .int (nI cw)), (11, .int (nI ri)), (12, .int 0)]) B d_M_copy_193 (by decide) [1, 2, 3, 4, 5, 6, 7, 8, 9, 10, 11, 12, 0] rfl ?_
          have lp195 : ∀ (n195 : Nat) (ci : Nat) (E0 : Nat → Int32) (E1 : Nat → Int32) (E2 : Nat → Int32), ch - ci = n195 → (ci ≤ ch) → ((E0, E1, E2) = cqL (rwF D0 F0 24, rwF D1 F1 24, rwF D2 F2 24) 1 cX cY cw ch cU cV ri (G0, G1, G2) ci) → jW l b D Γ False 0 0 18 (σ ++ rC b ta 0 E0 E1 E2 HH kt kp a hi tm sN sx sy pt mn pl pN px py sn lt rc tx sz us (rwF D0 F0 24) (rwF D1 F1 24) (rwF D2 F2 24) qx qy di up dn be op gs t0 fr lf pX pY pD pU X) [(0, .ref (b + 133)), (1, .int (nI cX)), (2, .int (nI cY)), (3, .int (nI cw)), (4, .int (nI ch)), (5, .int (nI cU)), (6, .int (nI cV)), (7, .int 1), (8, .int 1), (9, .int (nI ch)), (10, .int (nI cw)), (11, .int (nI ri)), (12, .int (nI ci))] 195 [] := by
            refine jloop (fun n195 ih195 => ?_)
            intro ci E0 E1 E2 hn195 hc hJ
            refine j_iload B d_M_copy_195 12 rfl ?_
            refine j_iload B d_M_copy_197 9 rfl ?_
            refine j_icmp_ge B d_M_copy_199 rfl (fun h199 => ?_) (fun h199 => ?_)
            · -- 199 jump
              have hc2 : ch = ci := (lp_ge (by omega) hc h199).symm
              subst hc2
              refine j_iinc (L' := [(0, .ref (b + 133)), (1, .int (nI cX)), (2, .int (nI cY)), (3, .int (nI cw)), (4, .int (nI ch)), (5, .int (nI cU)), (6, .int (nI cV)), (7, .int 1), (8, .int 1), (9, .int (nI ch)), (10, .int (nI cw)), (11, .int (nI (ri + 1))), (12, .int (nI ch))]) (v := nI (ri + 1)) B d_M_copy_375 (k := 11) rfl (nI_succ ri).symm (by decide) [1, 2, 3, 4, 5, 6, 7, 8, 9, 10, 11, 0, 12] rfl ?_
              refine j_goto B d_M_copy_378 rfl ?_
              refine jW.sub (L' := [(0, .ref (b + 133)), (1, .int (nI cX)), (2, .int (nI cY)), (3, .int (nI cw)), (4, .int (nI ch)), (5, .int (nI cU)), (6, .int (nI cV)), (7, .int 1), (8, .int 1), (9, .int (nI ch)), (10, .int (nI cw)), (11, .int (nI (ri + 1)))]) [0, 1, 2, 3, 4, 5, 6, 7, 8, 9, 10, 11] rfl ?_; exact ih185 _ (by omega) (ri + 1) E0 E1 E2 rfl (by omega) (by rw [cqA, ← hI]; exact hJ)
            · -- 199 on
              have hc2 := lp_lt (by omega) hc h199
              refine j_iload B d_M_copy_202 7 rfl ?_
              refine j_if_ne B d_M_copy_204 rfl (fun h204 => ?_) (fun h204 => absurd h204 (by decide))
              refine j_iload B d_M_copy_212 7 rfl ?_
              refine j_iconst (v := 1) B d_M_copy_214 (by decide) ?_
              refine j_icmp_ne B d_M_copy_215 rfl (fun h215 => absurd rfl h215) (fun h215 => ?_)
              refine j_iload B d_M_copy_218 11 rfl ?_
              refine j_goto B d_M_copy_220 rfl ?_
              refine j_istore (L' := [(0, .ref (b + 133)), (1, .int (nI cX)), (2, .int (nI cY)), (3, .int (nI cw)), (4, .int (nI ch)), (5, .int (nI cU)), (6, .int (nI cV)), (7, .int 1), (8, .int 1), (9, .int (nI ch)), (10, .int (nI cw)), (11, .int (nI ri)), (12, .int (nI ci)), (13, .int (nI ri))]) B d_M_copy_244 (by decide) [1, 2, 3, 4, 5, 6, 7, 8, 9, 10, 11, 12, 13, 0] rfl ?_
              refine j_iload B d_M_copy_246 7 rfl ?_
              refine j_if_ne B d_M_copy_248 rfl (fun h248 => ?_) (fun h248 => absurd h248 (by decide))
              refine j_iload B d_M_copy_256 7 rfl ?_
              refine j_iconst (v := 1) B d_M_copy_258 (by decide) ?_
              refine j_icmp_ne B d_M_copy_259 rfl (fun h259 => absurd rfl h259) (fun h259 => ?_)
              refine j_iload B d_M_copy_262 4 rfl ?_
              refine j_iconst (v := 1) B d_M_copy_264 (by decide) ?_
              refine j_isubE (v := nI (ch - 1)) B (pk_sub (a := ch) (b := 1) (by omega)) d_M_copy_265 ?_
              refine j_iload B d_M_copy_266 12 rfl ?_
              refine j_isubE (v := nI ((ch - 1) - ci)) B (pk_sub (a := (ch - 1)) (b := ci) (by omega)) d_M_copy_268 ?_
              refine j_goto B d_M_copy_269 rfl ?_
              refine j_istore (L' := [(0, .ref (b + 133)), (1, .int (nI cX)), (2, .int (nI cY)), (3, .int (nI cw)), (4, .int (nI ch)), (5, .int (nI cU)), (6, .int (nI cV)), (7, .int 1), (8, .int 1), (9, .int (nI ch)), (10, .int (nI cw)), (11, .int (nI ri)), (12, .int (nI ci)), (13, .int (nI ri)), (14, .int (nI ((ch - 1) - ci)))]) B d_M_copy_290 (by decide) [1, 2, 3, 4, 5, 6, 7, 8, 9, 10, 11, 12, 13, 14, 0] rfl ?_
              refine j_iload_n B d_M_copy_292 rfl 1 rfl ?_
              refine j_iload B d_M_copy_293 13 rfl ?_
              refine j_iaddE (v := nI (cX + ri)) B (nI_add cX ri) d_M_copy_295 ?_
              refine j_istore (L' := [(0, .ref (b + 133)), (1, .int (nI cX)), (2, .int (nI cY)), (3, .int (nI cw)), (4, .int (nI ch)), (5, .int (nI cU)), (6, .int (nI cV)), (7, .int 1), (8, .int 1), (9, .int (nI ch)), (10, .int (nI cw)), (11, .int (nI ri)), (12, .int (nI ci)), (13, .int (nI ri)), (14, .int (nI ((ch - 1) - ci))), (15, .int (nI (cX + ri)))]) B d_M_copy_296 (by decide) [1, 2, 3, 4, 5, 6, 7, 8, 9, 10, 11, 12, 13, 14, 15, 0] rfl ?_
              refine j_iload_n B d_M_copy_298 rfl 2 rfl ?_
              refine j_iload B d_M_copy_299 14 rfl ?_
              refine j_iaddE (v := nI (cY + ((ch - 1) - ci))) B (nI_add cY ((ch - 1) - ci)) d_M_copy_301 ?_
              refine j_istore (L' := [(0, .ref (b + 133)), (1, .int (nI cX)), (2, .int (nI cY)), (3, .int (nI cw)), (4, .int (nI ch)), (5, .int (nI cU)), (6, .int (nI cV)), (7, .int 1), (8, .int 1), (9, .int (nI ch)), (10, .int (nI cw)), (11, .int (nI ri)), (12, .int (nI ci)), (13, .int (nI ri)), (14, .int (nI ((ch - 1) - ci))), (15, .int (nI (cX + ri))), (16, .int (nI (cY + ((ch - 1) - ci))))]) B d_M_copy_302 (by decide) [1, 2, 3, 4, 5, 6, 7, 8, 9, 10, 11, 12, 13, 14, 15, 16, 0] rfl ?_
              refine j_aload_n B d_M_copy_304 rfl 0 rfl ?_
              refine gf_M_68 B (rG (ix := 0) hl rfl) rfl d_M_copy_305 ?_
              refine j_iload B d_M_copy_308 16 rfl ?_
              refine j_ialdN B rfl (rG (ix := 20) hl rfl) (by omega) d_M_copy_310 ?_
              refine j_iload B d_M_copy_311 15 rfl ?_
              refine k_callS (as := [.int ((rwF D0 F0 24) (cY + ((ch - 1) - ci))), .int (nI (cX + ri))]) (rest := []) (st1 := [.int (btR ((rwF D0 F0 24) (cY + ((ch - 1) - ci))) (nI (cX + ri)))]) B (c_M_bit ((rwF D0 F0 24) (cY + ((ch - 1) - ci))) (nI (cX + ri))) yf_M_bit w_853 w_854 rfl (by decide) (by decide) rfl rfl (Nat.le_of_ble_eq_true rfl) d_M_copy_313 ?_
              refine j_iconst (v := 2) B d_M_copy_316 (by decide) ?_
              refine j_aload_n B d_M_copy_317 rfl 0 rfl ?_
              refine gf_M_71 B (rG (ix := 0) hl rfl) rfl d_M_copy_318 ?_
              refine j_iload B d_M_copy_321 16 rfl ?_
              refine j_ialdN B rfl (rG (ix := 21) hl rfl) (by omega) d_M_copy_323 ?_
              refine j_iload B d_M_copy_324 15 rfl ?_
              refine k_callS (as := [.int ((rwF D1 F1 24) (cY + ((ch - 1) - ci))), .int (nI (cX + ri))]) (rest := [.int 2, .int (btR ((rwF D0 F0 24) (cY + ((ch - 1) - ci))) (nI (cX + ri)))]) (st1 := [.int (btR ((rwF D1 F1 24) (cY + ((ch - 1) - ci))) (nI (cX + ri))), .int 2, .int (btR ((rwF D0 F0 24) (cY + ((ch - 1) - ci))) (nI (cX + ri)))]) B (c_M_bit ((rwF D1 F1 24) (cY + ((ch - 1) - ci))) (nI (cX + ri))) yf_M_bit w_853 w_854 rfl (by decide) (by decide) rfl rfl (Nat.le_of_ble_eq_true rfl) d_M_copy_326 ?_
              refine j_imul B d_M_copy_329 ?_
              refine j_iadd B d_M_copy_330 ?_
              refine j_iconst (v := 3) B d_M_copy_331 (by decide) ?_
              refine j_aload_n B d_M_copy_332 rfl 0 rfl ?_
              refine gf_M_74 B (rG (ix := 0) hl rfl) rfl d_M_copy_333 ?_
              refine j_iload B d_M_copy_336 16 rfl ?_
              refine j_ialdN B rfl (rG (ix := 22) hl rfl) (by omega) d_M_copy_338 ?_
              refine j_iload B d_M_copy_339 15 rfl ?_
              refine k_callS (as := [.int ((rwF D2 F2 24) (cY + ((ch - 1) - ci))), .int (nI (cX + ri))]) (rest := [.int 3, .int ((btR ((rwF D0 F0 24) (cY + ((ch - 1) - ci))) (nI (cX + ri))) + (2 * (btR ((rwF D1 F1 24) (cY + ((ch - 1) - ci))) (nI (cX + ri)))))]) (st1 := [.int (btR ((rwF D2 F2 24) (cY + ((ch - 1) - ci))) (nI (cX + ri))), .int 3, .int ((btR ((rwF D0 F0 24) (cY + ((ch - 1) - ci))) (nI (cX + ri))) + (2 * (btR ((rwF D1 F1 24) (cY + ((ch - 1) - ci))) (nI (cX + ri)))))]) B (c_M_bit ((rwF D2 F2 24) (cY + ((ch - 1) - ci))) (nI (cX + ri))) yf_M_bit w_853 w_854 rfl (by decide) (by decide) rfl rfl (Nat.le_of_ble_eq_true rfl) d_M_copy_341 ?_
              refine j_imul B d_M_copy_344 ?_
              refine j_iadd B d_M_copy_345 ?_
              refine j_istore (L' := [(0, .ref (b + 133)), (1, .int (nI cX)), (2, .int (nI cY)), (3, .int (nI cw)), (4, .int (nI ch)), (5, .int (nI cU)), (6, .int (nI cV)), (7, .int 1), (8, .int 1), (9, .int (nI ch)), (10, .int (nI cw)), (11, .int (nI ri)), (12, .int (nI ci)), (13, .int (nI ri)), (14, .int (nI ((ch - 1) - ci))), (15, .int (nI (cX + ri))), (16, .int (nI (cY + ((ch - 1) - ci)))), (17, .int (((btR ((rwF D0 F0 24) (cY + ((ch - 1) - ci))) (nI (cX + ri))) + (2 * (btR ((rwF D1 F1 24) (cY + ((ch - 1) - ci))) (nI (cX + ri))))) + (3 * (btR ((rwF D2 F2 24) (cY + ((ch - 1) - ci))) (nI (cX + ri))))))]) B d_M_copy_346 (by decide) [1, 2, 3, 4, 5, 6, 7, 8, 9, 10, 11, 12, 13, 14, 15, 16, 17, 0] rfl ?_
              refine j_iload B d_M_copy_348 17 rfl ?_
              refine j_if_le B d_M_copy_350 rfl (fun h350 => ?_) (fun h350 => ?_)
              · -- 350 jump
                refine j_iinc (L' := [(0, .ref (b + 133)), (1, .int (nI cX)), (2, .int (nI cY)), (3, .int (nI cw)), (4, .int (nI ch)), (5, .int (nI cU)), (6, .int (nI cV)), (7, .int 1), (8, .int 1), (9, .int (nI ch)), (10, .int (nI cw)), (11, .int (nI ri)), (12, .int (nI (ci + 1))), (13, .int (nI ri)), (14, .int (nI ((ch - 1) - ci))), (15, .int (nI (cX + ri))), (16, .int (nI (cY + ((ch - 1) - ci)))), (17, .int (((btR ((rwF D0 F0 24) (cY + ((ch - 1) - ci))) (nI (cX + ri))) + (2 * (btR ((rwF D1 F1 24) (cY + ((ch - 1) - ci))) (nI (cX + ri))))) + (3 * (btR ((rwF D2 F2 24) (cY + ((ch - 1) - ci))) (nI (cX + ri))))))]) (v := nI (ci + 1)) B d_M_copy_369 (k := 12) rfl (nI_succ ci).symm (by decide) [1, 2, 3, 4, 5, 6, 7, 8, 9, 10, 11, 12, 0, 13, 14, 15, 16, 17] rfl ?_
                refine j_goto B d_M_copy_372 rfl ?_
                refine jW.sub (L' := [(0, .ref (b + 133)), (1, .int (nI cX)), (2, .int (nI cY)), (3, .int (nI cw)), (4, .int (nI ch)), (5, .int (nI cU)), (6, .int (nI cV)), (7, .int 1), (8, .int 1), (9, .int (nI ch)), (10, .int (nI cw)), (11, .int (nI ri)), (12, .int (nI (ci + 1)))]) [0, 1, 2, 3, 4, 5, 6, 7, 8, 9, 10, 11, 12] rfl ?_; exact ih195 _ (by omega) (ci + 1) E0 E1 E2 rfl (by omega) (by rw [cqL, ← hJ]; exact (if_pos h350).symm)
              · -- 350 on
                refine j_aload_n B d_M_copy_353 rfl 0 rfl ?_
                refine j_iload B d_M_copy_354 5 rfl ?_
                refine j_iload B d_M_copy_356 12 rfl ?_
                refine j_iaddE (v := nI (cU + ci)) B (nI_add cU ci) d_M_copy_358 ?_
                refine j_iload B d_M_copy_359 6 rfl ?_
                refine j_iload B d_M_copy_361 11 rfl ?_
                refine j_iaddE (v := nI (cV + ri)) B (nI_add cV ri) d_M_copy_363 ?_
                refine j_iload B d_M_copy_364 17 rfl ?_
                refine k_callV (as := [.int (nI (cU + ci)), .int (nI (cV + ri)), .int (((btR ((rwF D0 F0 24) (cY + ((ch - 1) - ci))) (nI (cX + ri))) + (2 * (btR ((rwF D1 F1 24) (cY + ((ch - 1) - ci))) (nI (cX + ri))))) + (3 * (btR ((rwF D2 F2 24) (cY + ((ch - 1) - ci))) (nI (cX + ri)))))]) (rest := []) (st1 := []) B (c_M_change hl (inF_n (by omega) (by omega))) yf_M_change w_952 w_954 w_s40 rfl (rG (ix := 0) hl rfl) rfl (by decide) (by decide) rfl rfl (Nat.le_of_ble_eq_true rfl) d_M_copy_366 ?_
                refine j_iinc (L' := [(0, .ref (b + 133)), (1, .int (nI cX)), (2, .int (nI cY)), (3, .int (nI cw)), (4, .int (nI ch)), (5, .int (nI cU)), (6, .int (nI cV)), (7, .int 1), (8, .int 1), (9, .int (nI ch)), (10, .int (nI cw)), (11, .int (nI ri)), (12, .int (nI (ci + 1))), (13, .int (nI ri)), (14, .int (nI ((ch - 1) - ci))), (15, .int (nI (cX + ri))), (16, .int (nI (cY + ((ch - 1) - ci)))), (17, .int (((btR ((rwF D0 F0 24) (cY + ((ch - 1) - ci))) (nI (cX + ri))) + (2 * (btR ((rwF D1 F1 24) (cY + ((ch - 1) - ci))) (nI (cX + ri))))) + (3 * (btR ((rwF D2 F2 24) (cY + ((ch - 1) - ci))) (nI (cX + ri))))))]) (v := nI (ci + 1)) B d_M_copy_369 (k := 12) rfl (nI_succ ci).symm (by decide) [1, 2, 3, 4, 5, 6, 7, 8, 9, 10, 11, 12, 0, 13, 14, 15, 16, 17] rfl ?_
                refine j_goto B d_M_copy_372 rfl ?_
                refine jW.sub (L' := [(0, .ref (b + 133)), (1, .int (nI cX)), (2, .int (nI cY)), (3, .int (nI cw)), (4, .int (nI ch)), (5, .int (nI cU)), (6, .int (nI cV)), (7, .int 1), (8, .int 1), (9, .int (nI ch)), (10, .int (nI cw)), (11, .int (nI ri)), (12, .int (nI (ci + 1)))]) [0, 1, 2, 3, 4, 5, 6, 7, 8, 9, 10, 11, 12] rfl ?_; exact ih195 _ (by omega) (ci + 1) (pB E0 (nI (cU + ci)) (nI (cV + ri)) (((btR ((rwF D0 F0 24) (cY + ((ch - 1) - ci))) (nI (cX + ri))) + (2 * (btR ((rwF D1 F1 24) (cY + ((ch - 1) - ci))) (nI (cX + ri))))) + (3 * (btR ((rwF D2 F2 24) (cY + ((ch - 1) - ci))) (nI (cX + ri))))) 1) (pB E1 (nI (cU + ci)) (nI (cV + ri)) (((btR ((rwF D0 F0 24) (cY + ((ch - 1) - ci))) (nI (cX + ri))) + (2 * (btR ((rwF D1 F1 24) (cY + ((ch - 1) - ci))) (nI (cX + ri))))) + (3 * (btR ((rwF D2 F2 24) (cY + ((ch - 1) - ci))) (nI (cX + ri))))) 2) (pB E2 (nI (cU + ci)) (nI (cV + ri)) (((btR ((rwF D0 F0 24) (cY + ((ch - 1) - ci))) (nI (cX + ri))) + (2 * (btR ((rwF D1 F1 24) (cY + ((ch - 1) - ci))) (nI (cX + ri))))) + (3 * (btR ((rwF D2 F2 24) (cY + ((ch - 1) - ci))) (nI (cX + ri))))) 3) rfl (by omega) (by rw [cqL, ← hJ]; exact (if_neg h350).symm)
          exact lp195 _ 0 G0 G1 G2 rfl (by omega) rfl
      exact lp185 _ 0 F0 F1 F2 rfl (by omega) rfl
    · -- 131 on
      have hr2 := lp_lt (n := 24) (by decide) hr h131
      refine j_aload_n B d_M_copy_134 rfl 0 rfl ?_
      refine gf_M_68 B (rG (ix := 0) hl rfl) rfl d_M_copy_135 ?_
      refine j_iload B d_M_copy_138 11 rfl ?_
      refine j_aload_n B d_M_copy_140 rfl 0 rfl ?_
      refine gf_M_7 B (rG (ix := 0) hl rfl) rfl d_M_copy_141 ?_
      refine j_iload B d_M_copy_144 11 rfl ?_
      refine j_ialdN B rfl (rG (ix := 1) hl rfl) (by omega) d_M_copy_146 ?_
      refine j_iastN B not_false rfl (rG (ix := 20) hl rfl) (by omega) d_M_copy_147 ?_
      refine jW.heap (σ2 := σ ++ rC b ta 0 F0 F1 F2 HH kt kp a hi tm sN sx sy pt mn pl pN px py sn lt rc tx sz us (upd (rwF D0 F0 r) r (F0 r)) (rwF D1 F1 r) (rwF D2 F2 r) qx qy di up dn be op gs t0 fr lf pX pY pD pU X) (rT (ix := 20) hl rfl) ?_
      refine j_aload_n B d_M_copy_148 rfl 0 rfl ?_
      refine gf_M_71 B (rG (ix := 0) hl rfl) rfl d_M_copy_149 ?_
      refine j_iload B d_M_copy_152 11 rfl ?_
      refine j_aload_n B d_M_copy_154 rfl 0 rfl ?_
      refine gf_M_13 B (rG (ix := 0) hl rfl) rfl d_M_copy_155 ?_
      refine j_iload B d_M_copy_158 11 rfl ?_
      refine j_ialdN B rfl (rG (ix := 2) hl rfl) (by omega) d_M_copy_160 ?_
      refine j_iastN B not_false rfl (rG (ix := 21) hl rfl) (by omega) d_M_copy_161 ?_
      refine jW.heap (σ2 := σ ++ rC b ta 0 F0 F1 F2 HH kt kp a hi tm sN sx sy pt mn pl pN px py sn lt rc tx sz us (upd (rwF D0 F0 r) r (F0 r)) (upd (rwF D1 F1 r) r (F1 r)) (rwF D2 F2 r) qx qy di up dn be op gs t0 fr lf pX pY pD pU X) (rT (ix := 21) hl rfl) ?_
      refine j_aload_n B d_M_copy_162 rfl 0 rfl ?_
      refine gf_M_74 B (rG (ix := 0) hl rfl) rfl d_M_copy_163 ?_
      refine j_iload B d_M_copy_166 11 rfl ?_
      refine j_aload_n B d_M_copy_168 rfl 0 rfl ?_
      refine gf_M_16 B (rG (ix := 0) hl rfl) rfl d_M_copy_169 ?_
      refine j_iload B d_M_copy_172 11 rfl ?_
      refine j_ialdN B rfl (rG (ix := 3) hl rfl) (by omega) d_M_copy_174 ?_
      refine j_iastN B not_false rfl (rG (ix := 22) hl rfl) (by omega) d_M_copy_175 ?_
      refine jW.heap (σ2 := σ ++ rC b ta 0 F0 F1 F2 HH kt kp a hi tm sN sx sy pt mn pl pN px py sn lt rc tx sz us (upd (rwF D0 F0 r) r (F0 r)) (upd (rwF D1 F1 r) r (F1 r)) (upd (rwF D2 F2 r) r (F2 r)) qx qy di up dn be op gs t0 fr lf pX pY pD pU X) (rT (ix := 22) hl rfl) ?_
      refine j_iinc (L' := [(0, .ref (b + 133)), (1, .int (nI cX)), (2, .int (nI cY)), (3, .int (nI cw)), (4, .int (nI ch)), (5, .int (nI cU)), (6, .int (nI cV)), (7, .int 1), (8, .int 1), (9, .int (nI ch)), (10, .int (nI cw)), (11, .int (nI (r + 1)))]) (v := nI (r + 1)) B d_M_copy_176 (k := 11) rfl (nI_succ r).symm (by decide) [1, 2, 3, 4, 5, 6, 7, 8, 9, 10, 11, 0] rfl ?_
      refine j_goto B d_M_copy_179 rfl ?_
      exact ih127 _ (by omega) (r + 1) rfl (by omega)
  exact lp127 _ 0 rfl (by omega)
set_option maxRecDepth 100000 in
set_option maxHeartbeats 4000000 in
theorem c_M_copy_2 {l : Launch} {b : Nat} {D : va_G} {ta : Nat → ClassId} {σ : List va_E} (hl : σ.length = 133) {wt : Int32} {F0 : Nat → Int32} {F1 : Nat → Int32} {F2 : Nat → Int32} {HH : Nat → Int32} {kt : Nat → Int32} {kp : Nat → Int32} {a : Nat} {hi : Nat} {tm : Nat} {sN : Nat} {sx : Nat → Int32} {sy : Nat → Int32} {pt : Nat → Int64} {mn : Nat → Int32} {pl : Nat → Int32} {pN : Nat} {px : Nat → Int32} {py : Nat → Int32} {sn : Nat → Int32} {lt : Nat → Int32} {rc : Nat → Int64} {tx : Nat → Int32} {sz : Nat → Int32} {us : Nat → Int32} {D0 : Nat → Int32} {D1 : Nat → Int32} {D2 : Nat → Int32} {qx : Int32} {qy : Int32} {di : Nat} {up : Bool} {dn : Nat} {be : Bool} {op : Nat} {gs : Nat → Int32} {t0 : Nat → Int32} {fr : Nat → Int32} {lf : Nat → Int32} {pX : Nat → Int32} {pY : Nat → Int32} {pD : Nat → Int32} {pU : Nat → Int32} {X : List va_E} {cX cY cw ch cU cV : Nat} (hX : cX < 32) (hY : cY < 24) (hw : 0 < cw) (hh : 0 < ch) (hXw : cX + cw ≤ 32) (hYh : cY + ch ≤ 24) (hU : cU < 32) (hV : cV < 24) (hUW : cU + cw ≤ 32) (hVH : cV + ch ≤ 24) : jC l b D ta False y_M_copy b_M_copy 18 (some .boolean) (rL 1) [.ref (b + 133), .int (nI cX), .int (nI cY), .int (nI cw), .int (nI ch), .int (nI cU), .int (nI cV), .int 2] (σ ++ rC b ta wt F0 F1 F2 HH kt kp a hi tm sN sx sy pt mn pl pN px py sn lt rc tx sz us D0 D1 D2 qx qy di up dn be op gs t0 fr lf pX pY pD pU X) (some (.int 1)) (σ ++ rC b ta 0 ((cqA (rwF D0 F0 24, rwF D1 F1 24, rwF D2 F2 24) 2 cX cY cw ch cU cV cw (F0, F1, F2) ch).1) ((cqA (rwF D0 F0 24, rwF D1 F1 24, rwF D2 F2 24) 2 cX cY cw ch cU cV cw (F0, F1, F2) ch).2.1) ((cqA (rwF D0 F0 24, rwF D1 F1 24, rwF D2 F2 24) 2 cX cY cw ch cU cV cw (F0, F1, F2) ch).2.2) HH kt kp a 0 tm sN sx sy pt mn pl pN px py sn lt rc tx sz us (rwF D0 F0 24) (rwF D1 F1 24) (rwF D2 F2 24) qx qy di up dn be op gs t0 fr lf pX pY pD pU X) := by
  refine jC_of (own := "WireFieldModel") (by decide +kernel) (Nat.le_of_ble_eq_true rfl) rfl (fun Γ B K => ?_)
  change jW l b D Γ False 0 0 18 (σ ++ rC b ta wt F0 F1 F2 HH kt kp a hi tm sN sx sy pt mn pl pN px py sn lt rc tx sz us D0 D1 D2 qx qy di up dn be op gs t0 fr lf pX pY pD pU X) [(0, .ref (b + 133)), (1, .int (nI cX)), (2, .int (nI cY)), (3, .int (nI cw)), (4, .int (nI ch)), (5, .int (nI cU)), (6, .int (nI cV)), (7, .int 2)] 0 []
  refine j_aload_n B d_M_copy_0 rfl 0 rfl ?_
  refine j_iconst (v := 0) B d_M_copy_1 (by decide) ?_
  refine pf_M_102 B not_false (rG (ix := 0) hl rfl) rfl rfl (Nat.le_of_ble_eq_true rfl) d_M_copy_2 ?_
  refine jW.heap (σ2 := σ ++ rC b ta 0 F0 F1 F2 HH kt kp a hi tm sN sx sy pt mn pl pN px py sn lt rc tx sz us D0 D1 D2 qx qy di up dn be op gs t0 fr lf pX pY pD pU X) (rT (ix := 0) hl rfl) ?_
  refine j_iload_n B d_M_copy_5 rfl 1 rfl ?_
  refine j_iload_n B d_M_copy_6 rfl 2 rfl ?_
  refine k_callS (as := [.int (nI cX), .int (nI cY)]) (rest := []) (st1 := [.int (bI (inF (nI cX) (nI cY)))]) B (c_M_is (nI cX) (nI cY)) yf_M_is w_899 w_900 rfl (by decide) (by decide) rfl rfl (Nat.le_of_ble_eq_true rfl) d_M_copy_7 ?_
  refine j_if_eq B d_M_copy_10 rfl (fun h10 => absurd (bI_f h10) (by rw [inF_n hX hY]; decide)) (fun h10 => ?_)
  refine j_iload_n B d_M_copy_13 rfl 3 rfl ?_
  refine j_if_le B d_M_copy_14 rfl (fun h14 => absurd h14 (nI_nle hw (by omega))) (fun h14 => ?_)
  refine j_iload B d_M_copy_17 4 rfl ?_
  refine j_if_le B d_M_copy_19 rfl (fun h19 => absurd h19 (nI_nle hh (by omega))) (fun h19 => ?_)
  refine j_iload_n B d_M_copy_22 rfl 3 rfl ?_
  refine j_bipush (v := 32) B d_M_copy_23 (by decide) ?_
  refine j_iload_n B d_M_copy_25 rfl 1 rfl ?_
  refine j_isubE (v := nI (32 - cX)) B (pk_sub (a := 32) (b := cX) (by omega)) d_M_copy_26 ?_
  refine j_icmp_gt B d_M_copy_27 rfl (fun h27 => absurd h27 (nI_nlt (a := 32 - cX) (b := cw) (by omega) (by omega))) (fun h27 => ?_)
  refine j_iload B d_M_copy_30 4 rfl ?_
  refine j_bipush (v := 24) B d_M_copy_32 (by decide) ?_
  refine j_iload_n B d_M_copy_34 rfl 2 rfl ?_
  refine j_isubE (v := nI (24 - cY)) B (pk_sub (a := 24) (b := cY) (by omega)) d_M_copy_35 ?_
  refine j_icmp_gt B d_M_copy_36 rfl (fun h36 => absurd h36 (nI_nlt (a := 24 - cY) (b := ch) (by omega) (by omega))) (fun h36 => ?_)
  refine j_iload B d_M_copy_39 7 rfl ?_
  refine j_if_lt B d_M_copy_41 rfl (fun h41 => absurd h41 (by decide)) (fun h41 => ?_)
  refine j_iload B d_M_copy_44 7 rfl ?_
  refine j_iconst (v := 4) B d_M_copy_46 (by decide) ?_
  refine j_icmp_ge B d_M_copy_47 rfl (fun h47 => absurd h47 (by decide)) (fun h47 => ?_)
  refine j_iload B d_M_copy_50 5 rfl ?_
  refine j_iload B d_M_copy_52 6 rfl ?_
  refine k_callS (as := [.int (nI cU), .int (nI cV)]) (rest := []) (st1 := [.int (bI (inF (nI cU) (nI cV)))]) B (c_M_is (nI cU) (nI cV)) yf_M_is w_899 w_900 rfl (by decide) (by decide) rfl rfl (Nat.le_of_ble_eq_true rfl) d_M_copy_54 ?_
  refine j_if_eq B d_M_copy_57 rfl (fun h57 => absurd (bI_f h57) (by rw [inF_n hU hV]; decide)) (fun h57 => ?_)
  refine j_iconst (v := 1) B d_M_copy_60 (by decide) ?_
  refine j_goto B d_M_copy_61 rfl ?_
  refine j_istore (L' := [(0, .ref (b + 133)), (1, .int (nI cX)), (2, .int (nI cY)), (3, .int (nI cw)), (4, .int (nI ch)), (5, .int (nI cU)), (6, .int (nI cV)), (7, .int 2), (8, .int 1)]) B d_M_copy_65 (by decide) [1, 2, 3, 4, 5, 6, 7, 8, 0] rfl ?_
  refine j_iload B d_M_copy_67 7 rfl ?_
  refine j_iconst (v := 2) B d_M_copy_69 (by decide) ?_
  refine j_irem B d_M_copy_70 (by decide) ?_
  refine j_if_ne B d_M_copy_71 rfl (fun h71 => absurd (by decide) h71) (fun h71 => ?_)
  refine j_iload_n B d_M_copy_74 rfl 3 rfl ?_
  refine j_goto B d_M_copy_75 rfl ?_
  refine j_istore (L' := [(0, .ref (b + 133)), (1, .int (nI cX)), (2, .int (nI cY)), (3, .int (nI cw)), (4, .int (nI ch)), (5, .int (nI cU)), (6, .int (nI cV)), (7, .int 2), (8, .int 1), (9, .int (nI cw))]) B d_M_copy_80 (by decide) [1, 2, 3, 4, 5, 6, 7, 8, 9, 0] rfl ?_
  refine j_iload B d_M_copy_82 7 rfl ?_
  refine j_iconst (v := 2) B d_M_copy_84 (by decide) ?_
  refine j_irem B d_M_copy_85 (by decide) ?_
  refine j_if_ne B d_M_copy_86 rfl (fun h86 => absurd (by decide) h86) (fun h86 => ?_)
  refine j_iload B d_M_copy_89 4 rfl ?_
  refine j_goto B d_M_copy_91 rfl ?_
  refine j_istore (L' := [(0, .ref (b + 133)), (1, .int (nI cX)), (2, .int (nI cY)), (3, .int (nI cw)), (4, .int (nI ch)), (5, .int (nI cU)), (6, .int (nI cV)), (7, .int 2), (8, .int 1), (9, .int (nI cw)), (10, .int (nI ch))]) B d_M_copy_95 (by decide) [1, 2, 3, 4, 5, 6, 7, 8, 9, 10, 0] rfl ?_
  refine j_iload B d_M_copy_97 8 rfl ?_
  refine j_if_eq B d_M_copy_99 rfl (fun h99 => absurd h99 (by decide)) (fun h99 => ?_)
  refine j_iload B d_M_copy_102 9 rfl ?_
  refine j_bipush (v := 32) B d_M_copy_104 (by decide) ?_
  refine j_iload B d_M_copy_106 5 rfl ?_
  refine j_isubE (v := nI (32 - cU)) B (pk_sub (a := 32) (b := cU) (by omega)) d_M_copy_108 ?_
  refine j_icmp_gt B d_M_copy_109 rfl (fun h109 => absurd h109 (nI_nlt (a := 32 - cU) (b := cw) (by omega) (by omega))) (fun h109 => ?_)
  refine j_iload B d_M_copy_112 10 rfl ?_
  refine j_bipush (v := 24) B d_M_copy_114 (by decide) ?_
  refine j_iload B d_M_copy_116 6 rfl ?_
  refine j_isubE (v := nI (24 - cV)) B (pk_sub (a := 24) (b := cV) (by omega)) d_M_copy_118 ?_
  refine j_icmp_le B d_M_copy_119 rfl (fun h119 => ?_) (fun h119 => absurd (nI_le (a := ch) (b := 24 - cV) (by omega) (by omega)) h119)
  refine j_iconst (v := 0) B d_M_copy_124 (by decide) ?_
  refine j_istore (L' := [(0, .ref (b + 133)), (1, .int (nI cX)), (2, .int (nI cY)), (3, .int (nI cw)), (4, .int (nI ch)), (5, .int (nI cU)), (6, .int (nI cV)), (7, .int 2), (8, .int 1), (9, .int (nI cw)), (10, .int (nI ch)), (11, .int 0)]) B d_M_copy_125 (by decide) [1, 2, 3, 4, 5, 6, 7, 8, 9, 10, 11, 0] rfl ?_
  have lp127 : ∀ (n127 : Nat) (r : Nat), 24 - r = n127 → (r ≤ 24) → jW l b D Γ False 0 0 18 (σ ++ rC b ta 0 F0 F1 F2 HH kt kp a hi tm sN sx sy pt mn pl pN px py sn lt rc tx sz us (rwF D0 F0 r) (rwF D1 F1 r) (rwF D2 F2 r) qx qy di up dn be op gs t0 fr lf pX pY pD pU X) [(0, .ref (b + 133)), (1, .int (nI cX)), (2, .int (nI cY)), (3, .int (nI cw)), (4, .int (nI ch)), (5, .int (nI cU)), (6, .int (nI cV)), (7, .int 2), (8, .int 1), (9, .int (nI cw)), (10, .int (nI ch)), (11, .int (nI r))] 127 [] := by
    refine jloop (fun n127 ih127 => ?_)
    intro r hn127 hr
    refine j_iload B d_M_copy_127 11 rfl ?_
    refine j_bipush (v := 24) B d_M_copy_129 (by decide) ?_
    refine j_icmp_ge B d_M_copy_131 rfl (fun h131 => ?_) (fun h131 => ?_)
    · -- 131 jump
      have hr2 := lp_ge (n := 24) (by decide) hr h131
      subst hr2
      refine j_iconst (v := 0) B d_M_copy_182 (by decide) ?_
      refine j_istore (L' := [(0, .ref (b + 133)), (1, .int (nI cX)), (2, .int (nI cY)), (3, .int (nI cw)), (4, .int (nI ch)), (5, .int (nI cU)), (6, .int (nI cV)), (7, .int 2), (8, .int 1), (9, .int (nI cw)), (10, .int (nI ch)), (11, .int 0)]) B d_M_copy_183 (by decide) [1, 2, 3, 4, 5, 6, 7, 8, 9, 10, 11, 0] rfl ?_
      have lp185 : ∀ (n185 : Nat) (ri : Nat) (G0 : Nat → Int32) (G1 : Nat → Int32) (G2 : Nat → Int32), ch - ri = n185 → (ri ≤ ch) → ((G0, G1, G2) = cqA (rwF D0 F0 24, rwF D1 F1 24, rwF D2 F2 24) 2 cX cY cw ch cU cV cw (F0, F1, F2) ri) → jW l b D Γ False 0 0 18 (σ ++ rC b ta 0 G0 G1 G2 HH kt kp a hi tm sN sx sy pt mn pl pN px py sn lt rc tx sz us (rwF D0 F0 24) (rwF D1 F1 24) (rwF D2 F2 24) qx qy di up dn be op gs t0 fr lf pX pY pD pU X) [(0, .ref (b + 133)), (1, .int (nI cX)), (2, .int (nI cY)), (3, .int (nI cw)), (4, .int (nI ch)), (5, .int (nI cU)), (6, .int (nI cV)), (7, .int 2), (8, .int 1), (9, .int (nI cw)), (10, .int (nI ch)), (11, .int (nI ri))] 185 [] := by
        refine jloop (fun n185 ih185 => ?_)
        intro ri G0 G1 G2 hn185 hr hI
        refine j_iload B d_M_copy_185 11 rfl ?_
        refine j_iload B d_M_copy_187 10 rfl ?_
        refine j_icmp_ge B d_M_copy_189 rfl (fun h189 => ?_) (fun h189 => ?_)
        · -- 189 jump
          have hr2 : ch = ri := (lp_ge (by omega) hr h189).symm
          subst hr2
          have q1 : G0 = (cqA (rwF D0 F0 24, rwF D1 F1 24, rwF D2 F2 24) 2 cX cY cw ch cU cV cw (F0, F1, F2) ch).1 := congrArg (fun z => z.1) hI
          have q2 : G1 = (cqA (rwF D0 F0 24, rwF D1 F1 24, rwF D2 F2 24) 2 cX cY cw ch cU cV cw (F0, F1, F2) ch).2.1 := congrArg (fun z => z.2.1) hI
          have q3 : G2 = (cqA (rwF D0 F0 24, rwF D1 F1 24, rwF D2 F2 24) 2 cX cY cw ch cU cV cw (F0, F1, F2) ch).2.2 := congrArg (fun z => z.2.2) hI
          clear hI
          subst q1 q2 q3
          refine j_aload_n B d_M_copy_381 rfl 0 rfl ?_
          refine j_iconst (v := 0) B d_M_copy_382 (by decide) ?_
          refine pf_M_113 B not_false (rG (ix := 0) hl rfl) rfl rfl (Nat.le_of_ble_eq_true rfl) d_M_copy_383 ?_
          refine jW.heap (σ2 := σ ++ rC b ta 0 ((cqA (rwF D0 F0 24, rwF D1 F1 24, rwF D2 F2 24) 2 cX cY cw ch cU cV cw (F0, F1, F2) ch).1) ((cqA (rwF D0 F0 24, rwF D1 F1 24, rwF D2 F2 24) 2 cX cY cw ch cU cV cw (F0, F1, F2) ch).2.1) ((cqA (rwF D0 F0 24, rwF D1 F1 24, rwF D2 F2 24) 2 cX cY cw ch cU cV cw (F0, F1, F2) ch).2.2) HH kt kp a 0 tm sN sx sy pt mn pl pN px py sn lt rc tx sz us (rwF D0 F0 24) (rwF D1 F1 24) (rwF D2 F2 24) qx qy di up dn be op gs t0 fr lf pX pY pD pU X) (rT (ix := 0) hl rfl) ?_
          refine j_iconst (v := 1) B d_M_copy_386 (by decide) ?_
          exact j_zret B K (by decide) rfl rfl d_M_copy_387
        · -- 189 on
          have hr2 := lp_lt (by omega) hr h189
          refine j_iconst (v := 0) B d_M_copy_192 (by decide) ?_
          refine j_istore (L' := [(0, .ref (b + 133)), (1, .int (nI cX)), (2, .int (nI cY)), (3, .int (nI cw)), (4, .int (nI ch)), (5, .int (nI cU)), (6, .int (nI cV)), (7, .int 2), (8, .int 1), (9, .int (nI cw)), (10, .int (nI ch)), (11, .int (nI ri)), (12, .int 0)]) B d_M_copy_193 (by decide) [1, 2, 3, 4, 5, 6, 7, 8, 9, 10, 11, 12, 0] rfl ?_
          have lp195 : ∀ (n195 : Nat) (ci : Nat) (E0 : Nat → Int32) (E1 : Nat → Int32) (E2 : Nat → Int32), cw - ci = n195 → (ci ≤ cw) → ((E0, E1, E2) = cqL (rwF D0 F0 24, rwF D1 F1 24, rwF D2 F2 24) 2 cX cY cw ch cU cV ri (G0, G1, G2) ci) → jW l b D Γ False 0 0 18 (σ ++ rC b ta 0 E0 E1 E2 HH kt kp a hi tm sN sx sy pt mn pl pN px py sn lt rc tx sz us (rwF D0 F0 24) (rwF D1 F1 24) (rwF D2 F2 24) qx qy di up dn be op gs t0 fr lf pX pY pD pU X) [(0, .ref (b + 133)), (1, .int (nI cX)), (2, .int (nI cY)), (3, .int (nI cw)), (4, .int (nI ch)), (5, .int (nI cU)), (6, .int (nI cV)), (7, .int 2), (8, .int 1), (9, .int (nI cw)), (10, .int (nI ch)), (11, .int (nI ri)), (12, .int (nI ci))] 195 [] := by
            refine jloop (fun n195 ih195 => ?_)
            intro ci E0 E1 E2 hn195 hc hJ
            refine j_iload B d_M_copy_195 12 rfl ?_
            refine j_iload B d_M_copy_197 9 rfl ?_
            refine j_icmp_ge B d_M_copy_199 rfl (fun h199 => ?_) (fun h199 => ?_)
            · -- 199 jump
              have hc2 : cw = ci := (lp_ge (by omega) hc h199).symm
              subst hc2
              refine j_iinc (L' := [(0, .ref (b + 133)), (1, .int (nI cX)), (2, .int (nI cY)), (3, .int (nI cw)), (4, .int (nI ch)), (5, .int (nI cU)), (6, .int (nI cV)), (7, .int 2), (8, .int 1), (9, .int (nI cw)), (10, .int (nI ch)), (11, .int (nI (ri + 1))), (12, .int (nI cw))]) (v := nI (ri + 1)) B d_M_copy_375 (k := 11) rfl (nI_succ ri).symm (by decide) [1, 2, 3, 4, 5, 6, 7, 8, 9, 10, 11, 0, 12] rfl ?_
              refine j_goto B d_M_copy_378 rfl ?_
              refine jW.sub (L' := [(0, .ref (b + 133)), (1, .int (nI cX)), (2, .int (nI cY)), (3, .int (nI cw)), (4, .int (nI ch)), (5, .int (nI cU)), (6, .int (nI cV)), (7, .int 2), (8, .int 1), (9, .int (nI cw)), (10, .int (nI ch)), (11, .int (nI (ri + 1)))]) [0, 1, 2, 3, 4, 5, 6, 7, 8, 9, 10, 11] rfl ?_; exact ih185 _ (by omega) (ri + 1) E0 E1 E2 rfl (by omega) (by rw [cqA, ← hI]; exact hJ)
            · -- 199 on
              have hc2 := lp_lt (by omega) hc h199
              refine j_iload B d_M_copy_202 7 rfl ?_
              refine j_if_ne B d_M_copy_204 rfl (fun h204 => ?_) (fun h204 => absurd h204 (by decide))
              refine j_iload B d_M_copy_212 7 rfl ?_
              refine j_iconst (v := 1) B d_M_copy_214 (by decide) ?_
              refine j_icmp_ne B d_M_copy_215 rfl (fun h215 => ?_) (fun h215 => absurd h215 (by decide))
              refine j_iload B d_M_copy_223 7 rfl ?_
              refine j_iconst (v := 2) B d_M_copy_225 (by decide) ?_
              refine j_icmp_ne B d_M_copy_226 rfl (fun h226 => absurd rfl h226) (fun h226 => ?_)
              refine j_iload_n B d_M_copy_229 rfl 3 rfl ?_
              refine j_iconst (v := 1) B d_M_copy_230 (by decide) ?_
              refine j_isubE (v := nI (cw - 1)) B (pk_sub (a := cw) (b := 1) (by omega)) d_M_copy_231 ?_
              refine j_iload B d_M_copy_232 12 rfl ?_
              refine j_isubE (v := nI ((cw - 1) - ci)) B (pk_sub (a := (cw - 1)) (b := ci) (by omega)) d_M_copy_234 ?_
              refine j_goto B d_M_copy_235 rfl ?_
              refine j_istore (L' := [(0, .ref (b + 133)), (1, .int (nI cX)), (2, .int (nI cY)), (3, .int (nI cw)), (4, .int (nI ch)), (5, .int (nI cU)), (6, .int (nI cV)), (7, .int 2), (8, .int 1), (9, .int (nI cw)), (10, .int (nI ch)), (11, .int (nI ri)), (12, .int (nI ci)), (13, .int (nI ((cw - 1) - ci)))]) B d_M_copy_244 (by decide) [1, 2, 3, 4, 5, 6, 7, 8, 9, 10, 11, 12, 13, 0] rfl ?_
              refine j_iload B d_M_copy_246 7 rfl ?_
              refine j_if_ne B d_M_copy_248 rfl (fun h248 => ?_) (fun h248 => absurd h248 (by decide))
              refine j_iload B d_M_copy_256 7 rfl ?_
              refine j_iconst (v := 1) B d_M_copy_258 (by decide) ?_
              refine j_icmp_ne B d_M_copy_259 rfl (fun h259 => ?_) (fun h259 => absurd h259 (by decide))
              refine j_iload B d_M_copy_272 7 rfl ?_
              refine j_iconst (v := 2) B d_M_copy_274 (by decide) ?_
              refine j_icmp_ne B d_M_copy_275 rfl (fun h275 => absurd rfl h275) (fun h275 => ?_)
              refine j_iload B d_M_copy_278 4 rfl ?_
              refine j_iconst (v := 1) B d_M_copy_280 (by decide) ?_
              refine j_isubE (v := nI (ch - 1)) B (pk_sub (a := ch) (b := 1) (by omega)) d_M_copy_281 ?_
              refine j_iload B d_M_copy_282 11 rfl ?_
              refine j_isubE (v := nI ((ch - 1) - ri)) B (pk_sub (a := (ch - 1)) (b := ri) (by omega)) d_M_copy_284 ?_
              refine j_goto B d_M_copy_285 rfl ?_
              refine j_istore (L' := [(0, .ref (b + 133)), (1, .int (nI cX)), (2, .int (nI cY)), (3, .int (nI cw)), (4, .int (nI ch)), (5, .int (nI cU)), (6, .int (nI cV)), (7, .int 2), (8, .int 1), (9, .int (nI cw)), (10, .int (nI ch)), (11, .int (nI ri)), (12, .int (nI ci)), (13, .int (nI ((cw - 1) - ci))), (14, .int (nI ((ch - 1) - ri)))]) B d_M_copy_290 (by decide) [1, 2, 3, 4, 5, 6, 7, 8, 9, 10, 11, 12, 13, 14, 0] rfl ?_
              refine j_iload_n B d_M_copy_292 rfl 1 rfl ?_
              refine j_iload B d_M_copy_293 13 rfl ?_
              refine j_iaddE (v := nI (cX + ((cw - 1) - ci))) B (nI_add cX ((cw - 1) - ci)) d_M_copy_295 ?_
              refine j_istore (L' := [(0, .ref (b + 133)), (1, .int (nI cX)), (2, .int (nI cY)), (3, .int (nI cw)), (4, .int (nI ch)), (5, .int (nI cU)), (6, .int (nI cV)), (7, .int 2), (8, .int 1), (9, .int (nI cw)), (10, .int (nI ch)), (11, .int (nI ri)), (12, .int (nI ci)), (13, .int (nI ((cw - 1) - ci))), (14, .int (nI ((ch - 1) - ri))), (15, .int (nI (cX + ((cw - 1) - ci))))]) B d_M_copy_296 (by decide) [1, 2, 3, 4, 5, 6, 7, 8, 9, 10, 11, 12, 13, 14, 15, 0] rfl ?_
              refine j_iload_n B d_M_copy_298 rfl 2 rfl ?_
              refine j_iload B d_M_copy_299 14 rfl ?_
              refine j_iaddE (v := nI (cY + ((ch - 1) - ri))) B (nI_add cY ((ch - 1) - ri)) d_M_copy_301 ?_
              refine j_istore (L' := [(0, .ref (b + 133)), (1, .int (nI cX)), (2, .int (nI cY)), (3, .int (nI cw)), (4, .int (nI ch)), (5, .int (nI cU)), (6, .int (nI cV)), (7, .int 2), (8, .int 1), (9, .int (nI cw)), (10, .int (nI ch)), (11, .int (nI ri)), (12, .int (nI ci)), (13, .int (nI ((cw - 1) - ci))), (14, .int (nI ((ch - 1) - ri))), (15, .int (nI (cX + ((cw - 1) - ci)))), (16, .int (nI (cY + ((ch - 1) - ri))))]) B d_M_copy_302 (by decide) [1, 2, 3, 4, 5, 6, 7, 8, 9, 10, 11, 12, 13, 14, 15, 16, 0] rfl ?_
              refine j_aload_n B d_M_copy_304 rfl 0 rfl ?_
              refine gf_M_68 B (rG (ix := 0) hl rfl) rfl d_M_copy_305 ?_
              refine j_iload B d_M_copy_308 16 rfl ?_
              refine j_ialdN B rfl (rG (ix := 20) hl rfl) (by omega) d_M_copy_310 ?_
              refine j_iload B d_M_copy_311 15 rfl ?_
              refine k_callS (as := [.int ((rwF D0 F0 24) (cY + ((ch - 1) - ri))), .int (nI (cX + ((cw - 1) - ci)))]) (rest := []) (st1 := [.int (btR ((rwF D0 F0 24) (cY + ((ch - 1) - ri))) (nI (cX + ((cw - 1) - ci))))]) B (c_M_bit ((rwF D0 F0 24) (cY + ((ch - 1) - ri))) (nI (cX + ((cw - 1) - ci)))) yf_M_bit w_853 w_854 rfl (by decide) (by decide) rfl rfl (Nat.le_of_ble_eq_true rfl) d_M_copy_313 ?_
              refine j_iconst (v := 2) B d_M_copy_316 (by decide) ?_
              refine j_aload_n B d_M_copy_317 rfl 0 rfl ?_
              refine gf_M_71 B (rG (ix := 0) hl rfl) rfl d_M_copy_318 ?_
              refine j_iload B d_M_copy_321 16 rfl ?_
              refine j_ialdN B rfl (rG (ix := 21) hl rfl) (by omega) d_M_copy_323 ?_
              refine j_iload B d_M_copy_324 15 rfl ?_
              refine k_callS (as := [.int ((rwF D1 F1 24) (cY + ((ch - 1) - ri))), .int (nI (cX + ((cw - 1) - ci)))]) (rest := [.int 2, .int (btR ((rwF D0 F0 24) (cY + ((ch - 1) - ri))) (nI (cX + ((cw - 1) - ci))))]) (st1 := [.int (btR ((rwF D1 F1 24) (cY + ((ch - 1) - ri))) (nI (cX + ((cw - 1) - ci)))), .int 2, .int (btR ((rwF D0 F0 24) (cY + ((ch - 1) - ri))) (nI (cX + ((cw - 1) - ci))))]) B (c_M_bit ((rwF D1 F1 24) (cY + ((ch - 1) - ri))) (nI (cX + ((cw - 1) - ci)))) yf_M_bit w_853 w_854 rfl (by decide) (by decide) rfl rfl (Nat.le_of_ble_eq_true rfl) d_M_copy_326 ?_
              refine j_imul B d_M_copy_329 ?_
              refine j_iadd B d_M_copy_330 ?_
              refine j_iconst (v := 3) B d_M_copy_331 (by decide) ?_
              refine j_aload_n B d_M_copy_332 rfl 0 rfl ?_
              refine gf_M_74 B (rG (ix := 0) hl rfl) rfl d_M_copy_333 ?_
              refine j_iload B d_M_copy_336 16 rfl ?_
              refine j_ialdN B rfl (rG (ix := 22) hl rfl) (by omega) d_M_copy_338 ?_
              refine j_iload B d_M_copy_339 15 rfl ?_
              refine k_callS (as := [.int ((rwF D2 F2 24) (cY + ((ch - 1) - ri))), .int (nI (cX + ((cw - 1) - ci)))]) (rest := [.int 3, .int ((btR ((rwF D0 F0 24) (cY + ((ch - 1) - ri))) (nI (cX + ((cw - 1) - ci)))) + (2 * (btR ((rwF D1 F1 24) (cY + ((ch - 1) - ri))) (nI (cX + ((cw - 1) - ci))))))]) (st1 := [.int (btR ((rwF D2 F2 24) (cY + ((ch - 1) - ri))) (nI (cX + ((cw - 1) - ci)))), .int 3, .int ((btR ((rwF D0 F0 24) (cY + ((ch - 1) - ri))) (nI (cX + ((cw - 1) - ci)))) + (2 * (btR ((rwF D1 F1 24) (cY + ((ch - 1) - ri))) (nI (cX + ((cw - 1) - ci))))))]) B (c_M_bit ((rwF D2 F2 24) (cY + ((ch - 1) - ri))) (nI (cX + ((cw - 1) - ci)))) yf_M_bit w_853 w_854 rfl (by decide) (by decide) rfl rfl (Nat.le_of_ble_eq_true rfl) d_M_copy_341 ?_
              refine j_imul B d_M_copy_344 ?_
              refine j_iadd B d_M_copy_345 ?_
              refine j_istore (L' := [(0, .ref (b + 133)), (1, .int (nI cX)), (2, .int (nI cY)), (3, .int (nI cw)), (4, .int (nI ch)), (5, .int (nI cU)), (6, .int (nI cV)), (7, .int 2), (8, .int 1), (9, .int (nI cw)), (10, .int (nI ch)), (11, .int (nI ri)), (12, .int (nI ci)), (13, .int (nI ((cw - 1) - ci))), (14, .int (nI ((ch - 1) - ri))), (15, .int (nI (cX + ((cw - 1) - ci)))), (16, .int (nI (cY + ((ch - 1) - ri)))), (17, .int (((btR ((rwF D0 F0 24) (cY + ((ch - 1) - ri))) (nI (cX + ((cw - 1) - ci)))) + (2 * (btR ((rwF D1 F1 24) (cY + ((ch - 1) - ri))) (nI (cX + ((cw - 1) - ci)))))) + (3 * (btR ((rwF D2 F2 24) (cY + ((ch - 1) - ri))) (nI (cX + ((cw - 1) - ci)))))))]) B d_M_copy_346 (by decide) [1, 2, 3, 4, 5, 6, 7, 8, 9, 10, 11, 12, 13, 14, 15, 16, 17, 0] rfl ?_
              refine j_iload B d_M_copy_348 17 rfl ?_
              refine j_if_le B d_M_copy_350 rfl (fun h350 => ?_) (fun h350 => ?_)
              · -- 350 jump
                refine j_iinc (L' := [(0, .ref (b + 133)), (1, .int (nI cX)), (2, .int (nI cY)), (3, .int (nI cw)), (4, .int (nI ch)), (5, .int (nI cU)), (6, .int (nI cV)), (7, .int 2), (8, .int 1), (9, .int (nI cw)), (10, .int (nI ch)), (11, .int (nI ri)), (12, .int (nI (ci + 1))), (13, .int (nI ((cw - 1) - ci))), (14, .int (nI ((ch - 1) - ri))), (15, .int (nI (cX + ((cw - 1) - ci)))), (16, .int (nI (cY + ((ch - 1) - ri)))), (17, .int (((btR ((rwF D0 F0 24) (cY + ((ch - 1) - ri))) (nI (cX + ((cw - 1) - ci)))) + (2 * (btR ((rwF D1 F1 24) (cY + ((ch - 1) - ri))) (nI (cX + ((cw - 1) - ci)))))) + (3 * (btR ((rwF D2 F2 24) (cY + ((ch - 1) - ri))) (nI (cX + ((cw - 1) - ci)))))))]) (v := nI (ci + 1)) B d_M_copy_369 (k := 12) rfl (nI_succ ci).symm (by decide) [1, 2, 3, 4, 5, 6, 7, 8, 9, 10, 11, 12, 0, 13, 14, 15, 16, 17] rfl ?_
                refine j_goto B d_M_copy_372 rfl ?_
                refine jW.sub (L' := [(0, .ref (b + 133)), (1, .int (nI cX)), (2, .int (nI cY)), (3, .int (nI cw)), (4, .int (nI ch)), (5, .int (nI cU)), (6, .int (nI cV)), (7, .int 2), (8, .int 1), (9, .int (nI cw)), (10, .int (nI ch)), (11, .int (nI ri)), (12, .int (nI (ci + 1)))]) [0, 1, 2, 3, 4, 5, 6, 7, 8, 9, 10, 11, 12] rfl ?_; exact ih195 _ (by omega) (ci + 1) E0 E1 E2 rfl (by omega) (by rw [cqL, ← hJ]; exact (if_pos h350).symm)
              · -- 350 on
                refine j_aload_n B d_M_copy_353 rfl 0 rfl ?_
                refine j_iload B d_M_copy_354 5 rfl ?_
                refine j_iload B d_M_copy_356 12 rfl ?_
                refine j_iaddE (v := nI (cU + ci)) B (nI_add cU ci) d_M_copy_358 ?_
                refine j_iload B d_M_copy_359 6 rfl ?_
                refine j_iload B d_M_copy_361 11 rfl ?_
                refine j_iaddE (v := nI (cV + ri)) B (nI_add cV ri) d_M_copy_363 ?_
                refine j_iload B d_M_copy_364 17 rfl ?_
                refine k_callV (as := [.int (nI (cU + ci)), .int (nI (cV + ri)), .int (((btR ((rwF D0 F0 24) (cY + ((ch - 1) - ri))) (nI (cX + ((cw - 1) - ci)))) + (2 * (btR ((rwF D1 F1 24) (cY + ((ch - 1) - ri))) (nI (cX + ((cw - 1) - ci)))))) + (3 * (btR ((rwF D2 F2 24) (cY + ((ch - 1) - ri))) (nI (cX + ((cw - 1) - ci))))))]) (rest := []) (st1 := []) B (c_M_change hl (inF_n (by omega) (by omega))) yf_M_change w_952 w_954 w_s40 rfl (rG (ix := 0) hl rfl) rfl (by decide) (by decide) rfl rfl (Nat.le_of_ble_eq_true rfl) d_M_copy_366 ?_
                refine j_iinc (L' := [(0, .ref (b + 133)), (1, .int (nI cX)), (2, .int (nI cY)), (3, .int (nI cw)), (4, .int (nI ch)), (5, .int (nI cU)), (6, .int (nI cV)), (7, .int 2), (8, .int 1), (9, .int (nI cw)), (10, .int (nI ch)), (11, .int (nI ri)), (12, .int (nI (ci + 1))), (13, .int (nI ((cw - 1) - ci))), (14, .int (nI ((ch - 1) - ri))), (15, .int (nI (cX + ((cw - 1) - ci)))), (16, .int (nI (cY + ((ch - 1) - ri)))), (17, .int (((btR ((rwF D0 F0 24) (cY + ((ch - 1) - ri))) (nI (cX + ((cw - 1) - ci)))) + (2 * (btR ((rwF D1 F1 24) (cY + ((ch - 1) - ri))) (nI (cX + ((cw - 1) - ci)))))) + (3 * (btR ((rwF D2 F2 24) (cY + ((ch - 1) - ri))) (nI (cX + ((cw - 1) - ci)))))))]) (v := nI (ci + 1)) B d_M_copy_369 (k := 12) rfl (nI_succ ci).symm (by decide) [1, 2, 3, 4, 5, 6, 7, 8, 9, 10, 11, 12, 0, 13, 14, 15, 16, 17] rfl ?_
                refine j_goto B d_M_copy_372 rfl ?_
                refine jW.sub (L' := [(0, .ref (b + 133)), (1, .int (nI cX)), (2, .int (nI cY)), (3, .int (nI cw)), (4, .int (nI ch)), (5, .int (nI cU)), (6, .int (nI cV)), (7, .int 2), (8, .int 1), (9, .int (nI cw)), (10, .int (nI ch)), (11, .int (nI ri)), (12, .int (nI (ci + 1)))]) [0, 1, 2, 3, 4, 5, 6, 7, 8, 9, 10, 11, 12] rfl ?_; exact ih195 _ (by omega) (ci + 1) (pB E0 (nI (cU + ci)) (nI (cV + ri)) (((btR ((rwF D0 F0 24) (cY + ((ch - 1) - ri))) (nI (cX + ((cw - 1) - ci)))) + (2 * (btR ((rwF D1 F1 24) (cY + ((ch - 1) - ri))) (nI (cX + ((cw - 1) - ci)))))) + (3 * (btR ((rwF D2 F2 24) (cY + ((ch - 1) - ri))) (nI (cX + ((cw - 1) - ci)))))) 1) (pB E1 (nI (cU + ci)) (nI (cV + ri)) (((btR ((rwF D0 F0 24) (cY + ((ch - 1) - ri))) (nI (cX + ((cw - 1) - ci)))) + (2 * (btR ((rwF D1 F1 24) (cY + ((ch - 1) - ri))) (nI (cX + ((cw - 1) - ci)))))) + (3 * (btR ((rwF D2 F2 24) (cY + ((ch - 1) - ri))) (nI (cX + ((cw - 1) - ci)))))) 2) (pB E2 (nI (cU + ci)) (nI (cV + ri)) (((btR ((rwF D0 F0 24) (cY + ((ch - 1) - ri))) (nI (cX + ((cw - 1) - ci)))) + (2 * (btR ((rwF D1 F1 24) (cY + ((ch - 1) - ri))) (nI (cX + ((cw - 1) - ci)))))) + (3 * (btR ((rwF D2 F2 24) (cY + ((ch - 1) - ri))) (nI (cX + ((cw - 1) - ci)))))) 3) rfl (by omega) (by rw [cqL, ← hJ]; exact (if_neg h350).symm)
          exact lp195 _ 0 G0 G1 G2 rfl (by omega) rfl
      exact lp185 _ 0 F0 F1 F2 rfl (by omega) rfl
    · -- 131 on
      have hr2 := lp_lt (n := 24) (by decide) hr h131
      refine j_aload_n B d_M_copy_134 rfl 0 rfl ?_
      refine gf_M_68 B (rG (ix := 0) hl rfl) rfl d_M_copy_135 ?_
      refine j_iload B d_M_copy_138 11 rfl ?_
      refine j_aload_n B d_M_copy_140 rfl 0 rfl ?_
      refine gf_M_7 B (rG (ix := 0) hl rfl) rfl d_M_copy_141 ?_
      refine j_iload B d_M_copy_144 11 rfl ?_
      refine j_ialdN B rfl (rG (ix := 1) hl rfl) (by omega) d_M_copy_146 ?_
      refine j_iastN B not_false rfl (rG (ix := 20) hl rfl) (by omega) d_M_copy_147 ?_
      refine jW.heap (σ2 := σ ++ rC b ta 0 F0 F1 F2 HH kt kp a hi tm sN sx sy pt mn pl pN px py sn lt rc tx sz us (upd (rwF D0 F0 r) r (F0 r)) (rwF D1 F1 r) (rwF D2 F2 r) qx qy di up dn be op gs t0 fr lf pX pY pD pU X) (rT (ix := 20) hl rfl) ?_
      refine j_aload_n B d_M_copy_148 rfl 0 rfl ?_
      refine gf_M_71 B (rG (ix := 0) hl rfl) rfl d_M_copy_149 ?_
      refine j_iload B d_M_copy_152 11 rfl ?_
      refine j_aload_n B d_M_copy_154 rfl 0 rfl ?_
      refine gf_M_13 B (rG (ix := 0) hl rfl) rfl d_M_copy_155 ?_
      refine j_iload B d_M_copy_158 11 rfl ?_
      refine j_ialdN B rfl (rG (ix := 2) hl rfl) (by omega) d_M_copy_160 ?_
      refine j_iastN B not_false rfl (rG (ix := 21) hl rfl) (by omega) d_M_copy_161 ?_
      refine jW.heap (σ2 := σ ++ rC b ta 0 F0 F1 F2 HH kt kp a hi tm sN sx sy pt mn pl pN px py sn lt rc tx sz us (upd (rwF D0 F0 r) r (F0 r)) (upd (rwF D1 F1 r) r (F1 r)) (rwF D2 F2 r) qx qy di up dn be op gs t0 fr lf pX pY pD pU X) (rT (ix := 21) hl rfl) ?_
      refine j_aload_n B d_M_copy_162 rfl 0 rfl ?_
      refine gf_M_74 B (rG (ix := 0) hl rfl) rfl d_M_copy_163 ?_
      refine j_iload B d_M_copy_166 11 rfl ?_
      refine j_aload_n B d_M_copy_168 rfl 0 rfl ?_
      refine gf_M_16 B (rG (ix := 0) hl rfl) rfl d_M_copy_169 ?_
      refine j_iload B d_M_copy_172 11 rfl ?_
      refine j_ialdN B rfl (rG (ix := 3) hl rfl) (by omega) d_M_copy_174 ?_
      refine j_iastN B not_false rfl (rG (ix := 22) hl rfl) (by omega) d_M_copy_175 ?_
      refine jW.heap (σ2 := σ ++ rC b ta 0 F0 F1 F2 HH kt kp a hi tm sN sx sy pt mn pl pN px py sn lt rc tx sz us (upd (rwF D0 F0 r) r (F0 r)) (upd (rwF D1 F1 r) r (F1 r)) (upd (rwF D2 F2 r) r (F2 r)) qx qy di up dn be op gs t0 fr lf pX pY pD pU X) (rT (ix := 22) hl rfl) ?_
      refine j_iinc (L' := [(0, .ref (b + 133)), (1, .int (nI cX)), (2, .int (nI cY)), (3, .int (nI cw)), (4, .int (nI ch)), (5, .int (nI cU)), (6, .int (nI cV)), (7, .int 2), (8, .int 1), (9, .int (nI cw)), (10, .int (nI ch)), (11, .int (nI (r + 1)))]) (v := nI (r + 1)) B d_M_copy_176 (k := 11) rfl (nI_succ r).symm (by decide) [1, 2, 3, 4, 5, 6, 7, 8, 9, 10, 11, 0] rfl ?_
      refine j_goto B d_M_copy_179 rfl ?_
      exact ih127 _ (by omega) (r + 1) rfl (by omega)
  exact lp127 _ 0 rfl (by omega)
set_option maxRecDepth 100000 in
set_option maxHeartbeats 4000000 in
theorem c_M_copy_3 {l : Launch} {b : Nat} {D : va_G} {ta : Nat → ClassId} {σ : List va_E} (hl : σ.length = 133) {wt : Int32} {F0 : Nat → Int32} {F1 : Nat → Int32} {F2 : Nat → Int32} {HH : Nat → Int32} {kt : Nat → Int32} {kp : Nat → Int32} {a : Nat} {hi : Nat} {tm : Nat} {sN : Nat} {sx : Nat → Int32} {sy : Nat → Int32} {pt : Nat → Int64} {mn : Nat → Int32} {pl : Nat → Int32} {pN : Nat} {px : Nat → Int32} {py : Nat → Int32} {sn : Nat → Int32} {lt : Nat → Int32} {rc : Nat → Int64} {tx : Nat → Int32} {sz : Nat → Int32} {us : Nat → Int32} {D0 : Nat → Int32} {D1 : Nat → Int32} {D2 : Nat → Int32} {qx : Int32} {qy : Int32} {di : Nat} {up : Bool} {dn : Nat} {be : Bool} {op : Nat} {gs : Nat → Int32} {t0 : Nat → Int32} {fr : Nat → Int32} {lf : Nat → Int32} {pX : Nat → Int32} {pY : Nat → Int32} {pD : Nat → Int32} {pU : Nat → Int32} {X : List va_E} {cX cY cw ch cU cV : Nat} (hX : cX < 32) (hY : cY < 24) (hw : 0 < cw) (hh : 0 < ch) (hXw : cX + cw ≤ 32) (hYh : cY + ch ≤ 24) (hU : cU < 32) (hV : cV < 24) (hUW : cU + ch ≤ 32) (hVH : cV + cw ≤ 24) : jC l b D ta False y_M_copy b_M_copy 18 (some .boolean) (rL 1) [.ref (b + 133), .int (nI cX), .int (nI cY), .int (nI cw), .int (nI ch), .int (nI cU), .int (nI cV), .int 3] (σ ++ rC b ta wt F0 F1 F2 HH kt kp a hi tm sN sx sy pt mn pl pN px py sn lt rc tx sz us D0 D1 D2 qx qy di up dn be op gs t0 fr lf pX pY pD pU X) (some (.int 1)) (σ ++ rC b ta 0 ((cqA (rwF D0 F0 24, rwF D1 F1 24, rwF D2 F2 24) 3 cX cY cw ch cU cV ch (F0, F1, F2) cw).1) ((cqA (rwF D0 F0 24, rwF D1 F1 24, rwF D2 F2 24) 3 cX cY cw ch cU cV ch (F0, F1, F2) cw).2.1) ((cqA (rwF D0 F0 24, rwF D1 F1 24, rwF D2 F2 24) 3 cX cY cw ch cU cV ch (F0, F1, F2) cw).2.2) HH kt kp a 0 tm sN sx sy pt mn pl pN px py sn lt rc tx sz us (rwF D0 F0 24) (rwF D1 F1 24) (rwF D2 F2 24) qx qy di up dn be op gs t0 fr lf pX pY pD pU X) := by
  refine jC_of (own := "WireFieldModel") (by decide +kernel) (Nat.le_of_ble_eq_true rfl) rfl (fun Γ B K => ?_)
  change jW l b D Γ False 0 0 18 (σ ++ rC b ta wt F0 F1 F2 HH kt kp a hi tm sN sx sy pt mn pl pN px py sn lt rc tx sz us D0 D1 D2 qx qy di up dn be op gs t0 fr lf pX pY pD pU X) [(0, .ref (b + 133)), (1, .int (nI cX)), (2, .int (nI cY)), (3, .int (nI cw)), (4, .int (nI ch)), (5, .int (nI cU)), (6, .int (nI cV)), (7, .int 3)] 0 []
  refine j_aload_n B d_M_copy_0 rfl 0 rfl ?_
  refine j_iconst (v := 0) B d_M_copy_1 (by decide) ?_
  refine pf_M_102 B not_false (rG (ix := 0) hl rfl) rfl rfl (Nat.le_of_ble_eq_true rfl) d_M_copy_2 ?_
  refine jW.heap (σ2 := σ ++ rC b ta 0 F0 F1 F2 HH kt kp a hi tm sN sx sy pt mn pl pN px py sn lt rc tx sz us D0 D1 D2 qx qy di up dn be op gs t0 fr lf pX pY pD pU X) (rT (ix := 0) hl rfl) ?_
  refine j_iload_n B d_M_copy_5 rfl 1 rfl ?_
  refine j_iload_n B d_M_copy_6 rfl 2 rfl ?_
  refine k_callS (as := [.int (nI cX), .int (nI cY)]) (rest := []) (st1 := [.int (bI (inF (nI cX) (nI cY)))]) B (c_M_is (nI cX) (nI cY)) yf_M_is w_899 w_900 rfl (by decide) (by decide) rfl rfl (Nat.le_of_ble_eq_true rfl) d_M_copy_7 ?_
  refine j_if_eq B d_M_copy_10 rfl (fun h10 => absurd (bI_f h10) (by rw [inF_n hX hY]; decide)) (fun h10 => ?_)
  refine j_iload_n B d_M_copy_13 rfl 3 rfl ?_
  refine j_if_le B d_M_copy_14 rfl (fun h14 => absurd h14 (nI_nle hw (by omega))) (fun h14 => ?_)
  refine j_iload B d_M_copy_17 4 rfl ?_
  refine j_if_le B d_M_copy_19 rfl (fun h19 => absurd h19 (nI_nle hh (by omega))) (fun h19 => ?_)
  refine j_iload_n B d_M_copy_22 rfl 3 rfl ?_
  refine j_bipush (v := 32) B d_M_copy_23 (by decide) ?_
  refine j_iload_n B d_M_copy_25 rfl 1 rfl ?_
  refine j_isubE (v := nI (32 - cX)) B (pk_sub (a := 32) (b := cX) (by omega)) d_M_copy_26 ?_
  refine j_icmp_gt B d_M_copy_27 rfl (fun h27 => absurd h27 (nI_nlt (a := 32 - cX) (b := cw) (by omega) (by omega))) (fun h27 => ?_)
  refine j_iload B d_M_copy_30 4 rfl ?_
  refine j_bipush (v := 24) B d_M_copy_32 (by decide) ?_
  refine j_iload_n B d_M_copy_34 rfl 2 rfl ?_
  refine j_isubE (v := nI (24 - cY)) B (pk_sub (a := 24) (b := cY) (by omega)) d_M_copy_35 ?_
  refine j_icmp_gt B d_M_copy_36 rfl (fun h36 => absurd h36 (nI_nlt (a := 24 - cY) (b := ch) (by omega) (by omega))) (fun h36 => ?_)
  refine j_iload B d_M_copy_39 7 rfl ?_
  refine j_if_lt B d_M_copy_41 rfl (fun h41 => absurd h41 (by decide)) (fun h41 => ?_)
  refine j_iload B d_M_copy_44 7 rfl ?_
  refine j_iconst (v := 4) B d_M_copy_46 (by decide) ?_
  refine j_icmp_ge B d_M_copy_47 rfl (fun h47 => absurd h47 (by decide)) (fun h47 => ?_)
  refine j_iload B d_M_copy_50 5 rfl ?_
  refine j_iload B d_M_copy_52 6 rfl ?_
  refine k_callS (as := [.int (nI cU), .int (nI cV)]) (rest := []) (st1 := [.int (bI (inF (nI cU) (nI cV)))]) B (c_M_is (nI cU) (nI cV)) yf_M_is w_899 w_900 rfl (by decide) (by decide) rfl rfl (Nat.le_of_ble_eq_true rfl) d_M_copy_54 ?_
  refine j_if_eq B d_M_copy_57 rfl (fun h57 => absurd (bI_f h57) (by rw [inF_n hU hV]; decide)) (fun h57 => ?_)
  refine j_iconst (v := 1) B d_M_copy_60 (by decide) ?_
  refine j_goto B d_M_copy_61 rfl ?_
  refine j_istore (L' := [(0, .ref (b + 133)), (1, .int (nI cX)), (2, .int (nI cY)), (3, .int (nI cw)), (4, .int (nI ch)), (5, .int (nI cU)), (6, .int (nI cV)), (7, .int 3), (8, .int 1)]) B d_M_copy_65 (by decide) [1, 2, 3, 4, 5, 6, 7, 8, 0] rfl ?_
  refine j_iload B d_M_copy_67 7 rfl ?_
  refine j_iconst (v := 2) B d_M_copy_69 (by decide) ?_
  refine j_irem B d_M_copy_70 (by decide) ?_
  refine j_if_ne B d_M_copy_71 rfl (fun h71 => ?_) (fun h71 => absurd h71 (by decide))
  refine j_iload B d_M_copy_78 4 rfl ?_
  refine j_istore (L' := [(0, .ref (b + 133)), (1, .int (nI cX)), (2, .int (nI cY)), (3, .int (nI cw)), (4, .int (nI ch)), (5, .int (nI cU)), (6, .int (nI cV)), (7, .int 3), (8, .int 1), (9, .int (nI ch))]) B d_M_copy_80 (by decide) [1, 2, 3, 4, 5, 6, 7, 8, 9, 0] rfl ?_
  refine j_iload B d_M_copy_82 7 rfl ?_
  refine j_iconst (v := 2) B d_M_copy_84 (by decide) ?_
  refine j_irem B d_M_copy_85 (by decide) ?_
  refine j_if_ne B d_M_copy_86 rfl (fun h86 => ?_) (fun h86 => absurd h86 (by decide))
  refine j_iload_n B d_M_copy_94 rfl 3 rfl ?_
  refine j_istore (L' := [(0, .ref (b + 133)), (1, .int (nI cX)), (2, .int (nI cY)), (3, .int (nI cw)), (4, .int (nI ch)), (5, .int (nI cU)), (6, .int (nI cV)), (7, .int 3), (8, .int 1), (9, .int (nI ch)), (10, .int (nI cw))]) B d_M_copy_95 (by decide) [1, 2, 3, 4, 5, 6, 7, 8, 9, 10, 0] rfl ?_
  refine j_iload B d_M_copy_97 8 rfl ?_
  refine j_if_eq B d_M_copy_99 rfl (fun h99 => absurd h99 (by decide)) (fun h99 => ?_)
  refine j_iload B d_M_copy_102 9 rfl ?_
  refine j_bipush (v := 32) B d_M_copy_104 (by decide) ?_
  refine j_iload B d_M_copy_106 5 rfl ?_
  refine j_isubE (v := nI (32 - cU)) B (pk_sub (a := 32) (b := cU) (by omega)) d_M_copy_108 ?_
  refine j_icmp_gt B d_M_copy_109 rfl (fun h109 => absurd h109 (nI_nlt (a := 32 - cU) (b := ch) (by omega) (by omega))) (fun h109 => ?_)
  refine j_iload B d_M_copy_112 10 rfl ?_
  refine j_bipush (v := 24) B d_M_copy_114 (by decide) ?_
  refine j_iload B d_M_copy_116 6 rfl ?_
  refine j_isubE (v := nI (24 - cV)) B (pk_sub (a := 24) (b := cV) (by omega)) d_M_copy_118 ?_
  refine j_icmp_le B d_M_copy_119 rfl (fun h119 => ?_) (fun h119 => absurd (nI_le (a := cw) (b := 24 - cV) (by omega) (by omega)) h119)
  refine j_iconst (v := 0) B d_M_copy_124 (by decide) ?_
  refine j_istore (L' := [(0, .ref (b + 133)), (1, .int (nI cX)), (2, .int (nI cY)), (3, .int (nI cw)), (4, .int (nI ch)), (5, .int (nI cU)), (6, .int (nI cV)), (7, .int 3), (8, .int 1), (9, .int (nI ch)), (10, .int (nI cw)), (11, .int 0)]) B d_M_copy_125 (by decide) [1, 2, 3, 4, 5, 6, 7, 8, 9, 10, 11, 0] rfl ?_
  have lp127 : ∀ (n127 : Nat) (r : Nat), 24 - r = n127 → (r ≤ 24) → jW l b D Γ False 0 0 18 (σ ++ rC b ta 0 F0 F1 F2 HH kt kp a hi tm sN sx sy pt mn pl pN px py sn lt rc tx sz us (rwF D0 F0 r) (rwF D1 F1 r) (rwF D2 F2 r) qx qy di up dn be op gs t0 fr lf pX pY pD pU X) [(0, .ref (b + 133)), (1, .int (nI cX)), (2, .int (nI cY)), (3, .int (nI cw)), (4, .int (nI ch)), (5, .int (nI cU)), (6, .int (nI cV)), (7, .int 3), (8, .int 1), (9, .int (nI ch)), (10, .int (nI cw)), (11, .int (nI r))] 127 [] := by
    refine jloop (fun n127 ih127 => ?_)
    intro r hn127 hr
    refine j_iload B d_M_copy_127 11 rfl ?_
    refine j_bipush (v := 24) B d_M_copy_129 (by decide) ?_
    refine j_icmp_ge B d_M_copy_131 rfl (fun h131 => ?_) (fun h131 => ?_)
    · -- 131 jump
      have hr2 := lp_ge (n := 24) (by decide) hr h131
      subst hr2
      refine j_iconst (v := 0) B d_M_copy_182 (by decide) ?_
      refine j_istore (L' := [(0, .ref (b + 133)), (1, .int (nI cX)), (2, .int (nI cY)), (3, .int (nI cw)), (4, .int (nI ch)), (5, .int (nI cU)), (6, .int (nI cV)), (7, .int 3), (8, .int 1), (9, .int (nI ch)), (10, .int (nI cw)), (11, .int 0)]) B d_M_copy_183 (by decide) [1, 2, 3, 4, 5, 6, 7, 8, 9, 10, 11, 0] rfl ?_
      have lp185 : ∀ (n185 : Nat) (ri : Nat) (G0 : Nat → Int32) (G1 : Nat → Int32) (G2 : Nat → Int32), cw - ri = n185 → (ri ≤ cw) → ((G0, G1, G2) = cqA (rwF D0 F0 24, rwF D1 F1 24, rwF D2 F2 24) 3 cX cY cw ch cU cV ch (F0, F1, F2) ri) → jW l b D Γ False 0 0 18 (σ ++ rC b ta 0 G0 G1 G2 HH kt kp a hi tm sN sx sy pt mn pl pN px py sn lt rc tx sz us (rwF D0 F0 24) (rwF D1 F1 24) (rwF D2 F2 24) qx qy di up dn be op gs t0 fr lf pX pY pD pU X) [(0, .ref (b + 133)), (1, .int (nI cX)), (2, .int (nI cY)), (3, .int (nI cw)), (4, .int (nI ch)), (5, .int (nI cU)), (6, .int (nI cV)), (7, .int 3), (8, .int 1), (9, .int (nI ch)), (10, .int (nI cw)), (11, .int (nI ri))] 185 [] := by
        refine jloop (fun n185 ih185 => ?_)
        intro ri G0 G1 G2 hn185 hr hI
        refine j_iload B d_M_copy_185 11 rfl ?_
        refine j_iload B d_M_copy_187 10 rfl ?_
        refine j_icmp_ge B d_M_copy_189 rfl (fun h189 => ?_) (fun h189 => ?_)
        · -- 189 jump
          have hr2 : cw = ri := (lp_ge (by omega) hr h189).symm
          subst hr2
          have q1 : G0 = (cqA (rwF D0 F0 24, rwF D1 F1 24, rwF D2 F2 24) 3 cX cY cw ch cU cV ch (F0, F1, F2) cw).1 := congrArg (fun z => z.1) hI
          have q2 : G1 = (cqA (rwF D0 F0 24, rwF D1 F1 24, rwF D2 F2 24) 3 cX cY cw ch cU cV ch (F0, F1, F2) cw).2.1 := congrArg (fun z => z.2.1) hI
          have q3 : G2 = (cqA (rwF D0 F0 24, rwF D1 F1 24, rwF D2 F2 24) 3 cX cY cw ch cU cV ch (F0, F1, F2) cw).2.2 := congrArg (fun z => z.2.2) hI
          clear hI
          subst q1 q2 q3
          refine j_aload_n B d_M_copy_381 rfl 0 rfl ?_
          refine j_iconst (v := 0) B d_M_copy_382 (by decide) ?_
          refine pf_M_113 B not_false (rG (ix := 0) hl rfl) rfl rfl (Nat.le_of_ble_eq_true rfl) d_M_copy_383 ?_
          refine jW.heap (σ2 := σ ++ rC b ta 0 ((cqA (rwF D0 F0 24, rwF D1 F1 24, rwF D2 F2 24) 3 cX cY cw ch cU cV ch (F0, F1, F2) cw).1) ((cqA (rwF D0 F0 24, rwF D1 F1 24, rwF D2 F2 24) 3 cX cY cw ch cU cV ch (F0, F1, F2) cw).2.1) ((cqA (rwF D0 F0 24, rwF D1 F1 24, rwF D2 F2 24) 3 cX cY cw ch cU cV ch (F0, F1, F2) cw).2.2) HH kt kp a 0 tm sN sx sy pt mn pl pN px py sn lt rc tx sz us (rwF D0 F0 24) (rwF D1 F1 24) (rwF D2 F2 24) qx qy di up dn be op gs t0 fr lf pX pY pD pU X) (rT (ix := 0) hl rfl) ?_
          refine j_iconst (v := 1) B d_M_copy_386 (by decide) ?_
          exact j_zret B K (by decide) rfl rfl d_M_copy_387
        · -- 189 on
          have hr2 := lp_lt (by omega) hr h189
          refine j_iconst (v := 0) B d_M_copy_192 (by decide) ?_
          refine j_istore (L' := [(0, .ref (b + 133)), (1, .int (nI cX)), (2, .int (nI cY)), (3, .int (nI cw)), (4, .int (nI ch)), (5, .int (nI cU)), (6, .int (nI cV)), (7, .int 3), (8, .int 1), (9, .int (nI ch)), (10, .int (nI cw)), (11, .int (nI ri)), (12, .int 0)]) B d_M_copy_193 (by decide) [1, 2, 3, 4, 5, 6, 7, 8, 9, 10, 11, 12, 0] rfl ?_
          have lp195 : ∀ (n195 : Nat) (ci : Nat) (E0 : Nat → Int32) (E1 : Nat → Int32) (E2 : Nat → Int32), ch - ci = n195 → (ci ≤ ch) → ((E0, E1, E2) = cqL (rwF D0 F0 24, rwF D1 F1 24, rwF D2 F2 24) 3 cX cY cw ch cU cV ri (G0, G1, G2) ci) → jW l b D Γ False 0 0 18 (σ ++ rC b ta 0 E0 E1 E2 HH kt kp a hi tm sN sx sy pt mn pl pN px py sn lt rc tx sz us (rwF D0 F0 24) (rwF D1 F1 24) (rwF D2 F2 24) qx qy di up dn be op gs t0 fr lf pX pY pD pU X) [(0, .ref (b + 133)), (1, .int (nI cX)), (2, .int (nI cY)), (3, .int (nI cw)), (4, .int (nI ch)), (5, .int (nI cU)), (6, .int (nI cV)), (7, .int 3), (8, .int 1), (9, .int (nI ch)), (10, .int (nI cw)), (11, .int (nI ri)), (12, .int (nI ci))] 195 [] := by
            refine jloop (fun n195 ih195 => ?_)
            intro ci E0 E1 E2 hn195 hc hJ
            refine j_iload B d_M_copy_195 12 rfl ?_
            refine j_iload B d_M_copy_197 9 rfl ?_
            refine j_icmp_ge B d_M_copy_199 rfl (fun h199 => ?_) (fun h199 => ?_)
            · -- 199 jump
              have hc2 : ch = ci := (lp_ge (by omega) hc h199).symm
              subst hc2
              refine j_iinc (L' := [(0, .ref (b + 133)), (1, .int (nI cX)), (2, .int (nI cY)), (3, .int (nI cw)), (4, .int (nI ch)), (5, .int (nI cU)), (6, .int (nI cV)), (7, .int 3), (8, .int 1), (9, .int (nI ch)), (10, .int (nI cw)), (11, .int (nI (ri + 1))), (12, .int (nI ch))]) (v := nI (ri + 1)) B d_M_copy_375 (k := 11) rfl (nI_succ ri).symm (by decide) [1, 2, 3, 4, 5, 6, 7, 8, 9, 10, 11, 0, 12] rfl ?_
              refine j_goto B d_M_copy_378 rfl ?_
              refine jW.sub (L' := [(0, .ref (b + 133)), (1, .int (nI cX)), (2, .int (nI cY)), (3, .int (nI cw)), (4, .int (nI ch)), (5, .int (nI cU)), (6, .int (nI cV)), (7, .int 3), (8, .int 1), (9, .int (nI ch)), (10, .int (nI cw)), (11, .int (nI (ri + 1)))]) [0, 1, 2, 3, 4, 5, 6, 7, 8, 9, 10, 11] rfl ?_; exact ih185 _ (by omega) (ri + 1) E0 E1 E2 rfl (by omega) (by rw [cqA, ← hI]; exact hJ)
            · -- 199 on
              have hc2 := lp_lt (by omega) hc h199
              refine j_iload B d_M_copy_202 7 rfl ?_
              refine j_if_ne B d_M_copy_204 rfl (fun h204 => ?_) (fun h204 => absurd h204 (by decide))
              refine j_iload B d_M_copy_212 7 rfl ?_
              refine j_iconst (v := 1) B d_M_copy_214 (by decide) ?_
              refine j_icmp_ne B d_M_copy_215 rfl (fun h215 => ?_) (fun h215 => absurd h215 (by decide))
              refine j_iload B d_M_copy_223 7 rfl ?_
              refine j_iconst (v := 2) B d_M_copy_225 (by decide) ?_
              refine j_icmp_ne B d_M_copy_226 rfl (fun h226 => ?_) (fun h226 => absurd h226 (by decide))
              refine j_iload_n B d_M_copy_238 rfl 3 rfl ?_
              refine j_iconst (v := 1) B d_M_copy_239 (by decide) ?_
              refine j_isubE (v := nI (cw - 1)) B (pk_sub (a := cw) (b := 1) (by omega)) d_M_copy_240 ?_
              refine j_iload B d_M_copy_241 11 rfl ?_
              refine j_isubE (v := nI ((cw - 1) - ri)) B (pk_sub (a := (cw - 1)) (b := ri) (by omega)) d_M_copy_243 ?_
              refine j_istore (L' := [(0, .ref (b + 133)), (1, .int (nI cX)), (2, .int (nI cY)), (3, .int (nI cw)), (4, .int (nI ch)), (5, .int (nI cU)), (6, .int (nI cV)), (7, .int 3), (8, .int 1), (9, .int (nI ch)), (10, .int (nI cw)), (11, .int (nI ri)), (12, .int (nI ci)), (13, .int (nI ((cw - 1) - ri)))]) B d_M_copy_244 (by decide) [1, 2, 3, 4, 5, 6, 7, 8, 9, 10, 11, 12, 13, 0] rfl ?_
              refine j_iload B d_M_copy_246 7 rfl ?_
              refine j_if_ne B d_M_copy_248 rfl (fun h248 => ?_) (fun h248 => absurd h248 (by decide))
              refine j_iload B d_M_copy_256 7 rfl ?_
              refine j_iconst (v := 1) B d_M_copy_258 (by decide) ?_
              refine j_icmp_ne B d_M_copy_259 rfl (fun h259 => ?_) (fun h259 => absurd h259 (by decide))
              refine j_iload B d_M_copy_272 7 rfl ?_
              refine j_iconst (v := 2) B d_M_copy_274 (by decide) ?_
              refine j_icmp_ne B d_M_copy_275 rfl (fun h275 => ?_) (fun h275 => absurd h275 (by decide))
              refine j_iload B d_M_copy_288 12 rfl ?_
              refine j_istore (L' := [(0, .ref (b + 133)), (1, .int (nI cX)), (2, .int (nI cY)), (3, .int (nI cw)), (4, .int (nI ch)), (5, .int (nI cU)), (6, .int (nI cV)), (7, .int 3), (8, .int 1), (9, .int (nI ch)), (10, .int (nI cw)), (11, .int (nI ri)), (12, .int (nI ci)), (13, .int (nI ((cw - 1) - ri))), (14, .int (nI ci))]) B d_M_copy_290 (by decide) [1, 2, 3, 4, 5, 6, 7, 8, 9, 10, 11, 12, 13, 14, 0] rfl ?_
              refine j_iload_n B d_M_copy_292 rfl 1 rfl ?_
              refine j_iload B d_M_copy_293 13 rfl ?_
              refine j_iaddE (v := nI (cX + ((cw - 1) - ri))) B (nI_add cX ((cw - 1) - ri)) d_M_copy_295 ?_
              refine j_istore (L' := [(0, .ref (b + 133)), (1, .int (nI cX)), (2, .int (nI cY)), (3, .int (nI cw)), (4, .int (nI ch)), (5, .int (nI cU)), (6, .int (nI cV)), (7, .int 3), (8, .int 1), (9, .int (nI ch)), (10, .int (nI cw)), (11, .int (nI ri)), (12, .int (nI ci)), (13, .int (nI ((cw - 1) - ri))), (14, .int (nI ci)), (15, .int (nI (cX + ((cw - 1) - ri))))]) B d_M_copy_296 (by decide) [1, 2, 3, 4, 5, 6, 7, 8, 9, 10, 11, 12, 13, 14, 15, 0] rfl ?_
              refine j_iload_n B d_M_copy_298 rfl 2 rfl ?_
              refine j_iload B d_M_copy_299 14 rfl ?_
              refine j_iaddE (v := nI (cY + ci)) B (nI_add cY ci) d_M_copy_301 ?_
              refine j_istore (L' := [(0, .ref (b + 133)), (1, .int (nI cX)), (2, .int (nI cY)), (3, .int (nI cw)), (4, .int (nI ch)), (5, .int (nI cU)), (6, .int (nI cV)), (7, .int 3), (8, .int 1), (9, .int (nI ch)), (10, .int (nI cw)), (11, .int (nI ri)), (12, .int (nI ci)), (13, .int (nI ((cw - 1) - ri))), (14, .int (nI ci)), (15, .int (nI (cX + ((cw - 1) - ri)))), (16, .int (nI (cY + ci)))]) B d_M_copy_302 (by decide) [1, 2, 3, 4, 5, 6, 7, 8, 9, 10, 11, 12, 13, 14, 15, 16, 0] rfl ?_
              refine j_aload_n B d_M_copy_304 rfl 0 rfl ?_
              refine gf_M_68 B (rG (ix := 0) hl rfl) rfl d_M_copy_305 ?_
              refine j_iload B d_M_copy_308 16 rfl ?_
              refine j_ialdN B rfl (rG (ix := 20) hl rfl) (by omega) d_M_copy_310 ?_
              refine j_iload B d_M_copy_311 15 rfl ?_
              refine k_callS (as := [.int ((rwF D0 F0 24) (cY + ci)), .int (nI (cX + ((cw - 1) - ri)))]) (rest := []) (st1 := [.int (btR ((rwF D0 F0 24) (cY + ci)) (nI (cX + ((cw - 1) - ri))))]) B (c_M_bit ((rwF D0 F0 24) (cY + ci)) (nI (cX + ((cw - 1) - ri)))) yf_M_bit w_853 w_854 rfl (by decide) (by decide) rfl rfl (Nat.le_of_ble_eq_true rfl) d_M_copy_313 ?_
              refine j_iconst (v := 2) B d_M_copy_316 (by decide) ?_
              refine j_aload_n B d_M_copy_317 rfl 0 rfl ?_
              refine gf_M_71 B (rG (ix := 0) hl rfl) rfl d_M_copy_318 ?_
              refine j_iload B d_M_copy_321 16 rfl ?_
              refine j_ialdN B rfl (rG (ix := 21) hl rfl) (by omega) d_M_copy_323 ?_
              refine j_iload B d_M_copy_324 15 rfl ?_
              refine k_callS (as := [.int ((rwF D1 F1 24) (cY + ci)), .int (nI (cX + ((cw - 1) - ri)))]) (rest := [.int 2, .int (btR ((rwF D0 F0 24) (cY + ci)) (nI (cX + ((cw - 1) - ri))))]) (st1 := [.int (btR ((rwF D1 F1 24) (cY + ci)) (nI (cX + ((cw - 1) - ri)))), .int 2, .int (btR ((rwF D0 F0 24) (cY + ci)) (nI (cX + ((cw - 1) - ri))))]) B (c_M_bit ((rwF D1 F1 24) (cY + ci)) (nI (cX + ((cw - 1) - ri)))) yf_M_bit w_853 w_854 rfl (by decide) (by decide) rfl rfl (Nat.le_of_ble_eq_true rfl) d_M_copy_326 ?_
              refine j_imul B d_M_copy_329 ?_
              refine j_iadd B d_M_copy_330 ?_
              refine j_iconst (v := 3) B d_M_copy_331 (by decide) ?_
              refine j_aload_n B d_M_copy_332 rfl 0 rfl ?_
              refine gf_M_74 B (rG (ix := 0) hl rfl) rfl d_M_copy_333 ?_
              refine j_iload B d_M_copy_336 16 rfl ?_
              refine j_ialdN B rfl (rG (ix := 22) hl rfl) (by omega) d_M_copy_338 ?_
              refine j_iload B d_M_copy_339 15 rfl ?_
              refine k_callS (as := [.int ((rwF D2 F2 24) (cY + ci)), .int (nI (cX + ((cw - 1) - ri)))]) (rest := [.int 3, .int ((btR ((rwF D0 F0 24) (cY + ci)) (nI (cX + ((cw - 1) - ri)))) + (2 * (btR ((rwF D1 F1 24) (cY + ci)) (nI (cX + ((cw - 1) - ri))))))]) (st1 := [.int (btR ((rwF D2 F2 24) (cY + ci)) (nI (cX + ((cw - 1) - ri)))), .int 3, .int ((btR ((rwF D0 F0 24) (cY + ci)) (nI (cX + ((cw - 1) - ri)))) + (2 * (btR ((rwF D1 F1 24) (cY + ci)) (nI (cX + ((cw - 1) - ri))))))]) B (c_M_bit ((rwF D2 F2 24) (cY + ci)) (nI (cX + ((cw - 1) - ri)))) yf_M_bit w_853 w_854 rfl (by decide) (by decide) rfl rfl (Nat.le_of_ble_eq_true rfl) d_M_copy_341 ?_
              refine j_imul B d_M_copy_344 ?_
              refine j_iadd B d_M_copy_345 ?_
              refine j_istore (L' := [(0, .ref (b + 133)), (1, .int (nI cX)), (2, .int (nI cY)), (3, .int (nI cw)), (4, .int (nI ch)), (5, .int (nI cU)), (6, .int (nI cV)), (7, .int 3), (8, .int 1), (9, .int (nI ch)), (10, .int (nI cw)), (11, .int (nI ri)), (12, .int (nI ci)), (13, .int (nI ((cw - 1) - ri))), (14, .int (nI ci)), (15, .int (nI (cX + ((cw - 1) - ri)))), (16, .int (nI (cY + ci))), (17, .int (((btR ((rwF D0 F0 24) (cY + ci)) (nI (cX + ((cw - 1) - ri)))) + (2 * (btR ((rwF D1 F1 24) (cY + ci)) (nI (cX + ((cw - 1) - ri)))))) + (3 * (btR ((rwF D2 F2 24) (cY + ci)) (nI (cX + ((cw - 1) - ri)))))))]) B d_M_copy_346 (by decide) [1, 2, 3, 4, 5, 6, 7, 8, 9, 10, 11, 12, 13, 14, 15, 16, 17, 0] rfl ?_
              refine j_iload B d_M_copy_348 17 rfl ?_
              refine j_if_le B d_M_copy_350 rfl (fun h350 => ?_) (fun h350 => ?_)
              · -- 350 jump
                refine j_iinc (L' := [(0, .ref (b + 133)), (1, .int (nI cX)), (2, .int (nI cY)), (3, .int (nI cw)), (4, .int (nI ch)), (5, .int (nI cU)), (6, .int (nI cV)), (7, .int 3), (8, .int 1), (9, .int (nI ch)), (10, .int (nI cw)), (11, .int (nI ri)), (12, .int (nI (ci + 1))), (13, .int (nI ((cw - 1) - ri))), (14, .int (nI ci)), (15, .int (nI (cX + ((cw - 1) - ri)))), (16, .int (nI (cY + ci))), (17, .int (((btR ((rwF D0 F0 24) (cY + ci)) (nI (cX + ((cw - 1) - ri)))) + (2 * (btR ((rwF D1 F1 24) (cY + ci)) (nI (cX + ((cw - 1) - ri)))))) + (3 * (btR ((rwF D2 F2 24) (cY + ci)) (nI (cX + ((cw - 1) - ri)))))))]) (v := nI (ci + 1)) B d_M_copy_369 (k := 12) rfl (nI_succ ci).symm (by decide) [1, 2, 3, 4, 5, 6, 7, 8, 9, 10, 11, 12, 0, 13, 14, 15, 16, 17] rfl ?_
                refine j_goto B d_M_copy_372 rfl ?_
                refine jW.sub (L' := [(0, .ref (b + 133)), (1, .int (nI cX)), (2, .int (nI cY)), (3, .int (nI cw)), (4, .int (nI ch)), (5, .int (nI cU)), (6, .int (nI cV)), (7, .int 3), (8, .int 1), (9, .int (nI ch)), (10, .int (nI cw)), (11, .int (nI ri)), (12, .int (nI (ci + 1)))]) [0, 1, 2, 3, 4, 5, 6, 7, 8, 9, 10, 11, 12] rfl ?_; exact ih195 _ (by omega) (ci + 1) E0 E1 E2 rfl (by omega) (by rw [cqL, ← hJ]; exact (if_pos h350).symm)
              · -- 350 on
                refine j_aload_n B d_M_copy_353 rfl 0 rfl ?_
                refine j_iload B d_M_copy_354 5 rfl ?_
                refine j_iload B d_M_copy_356 12 rfl ?_
                refine j_iaddE (v := nI (cU + ci)) B (nI_add cU ci) d_M_copy_358 ?_
                refine j_iload B d_M_copy_359 6 rfl ?_
                refine j_iload B d_M_copy_361 11 rfl ?_
                refine j_iaddE (v := nI (cV + ri)) B (nI_add cV ri) d_M_copy_363 ?_
                refine j_iload B d_M_copy_364 17 rfl ?_
                refine k_callV (as := [.int (nI (cU + ci)), .int (nI (cV + ri)), .int (((btR ((rwF D0 F0 24) (cY + ci)) (nI (cX + ((cw - 1) - ri)))) + (2 * (btR ((rwF D1 F1 24) (cY + ci)) (nI (cX + ((cw - 1) - ri)))))) + (3 * (btR ((rwF D2 F2 24) (cY + ci)) (nI (cX + ((cw - 1) - ri))))))]) (rest := []) (st1 := []) B (c_M_change hl (inF_n (by omega) (by omega))) yf_M_change w_952 w_954 w_s40 rfl (rG (ix := 0) hl rfl) rfl (by decide) (by decide) rfl rfl (Nat.le_of_ble_eq_true rfl) d_M_copy_366 ?_
                refine j_iinc (L' := [(0, .ref (b + 133)), (1, .int (nI cX)), (2, .int (nI cY)), (3, .int (nI cw)), (4, .int (nI ch)), (5, .int (nI cU)), (6, .int (nI cV)), (7, .int 3), (8, .int 1), (9, .int (nI ch)), (10, .int (nI cw)), (11, .int (nI ri)), (12, .int (nI (ci + 1))), (13, .int (nI ((cw - 1) - ri))), (14, .int (nI ci)), (15, .int (nI (cX + ((cw - 1) - ri)))), (16, .int (nI (cY + ci))), (17, .int (((btR ((rwF D0 F0 24) (cY + ci)) (nI (cX + ((cw - 1) - ri)))) + (2 * (btR ((rwF D1 F1 24) (cY + ci)) (nI (cX + ((cw - 1) - ri)))))) + (3 * (btR ((rwF D2 F2 24) (cY + ci)) (nI (cX + ((cw - 1) - ri)))))))]) (v := nI (ci + 1)) B d_M_copy_369 (k := 12) rfl (nI_succ ci).symm (by decide) [1, 2, 3, 4, 5, 6, 7, 8, 9, 10, 11, 12, 0, 13, 14, 15, 16, 17] rfl ?_
                refine j_goto B d_M_copy_372 rfl ?_
                refine jW.sub (L' := [(0, .ref (b + 133)), (1, .int (nI cX)), (2, .int (nI cY)), (3, .int (nI cw)), (4, .int (nI ch)), (5, .int (nI cU)), (6, .int (nI cV)), (7, .int 3), (8, .int 1), (9, .int (nI ch)), (10, .int (nI cw)), (11, .int (nI ri)), (12, .int (nI (ci + 1)))]) [0, 1, 2, 3, 4, 5, 6, 7, 8, 9, 10, 11, 12] rfl ?_; exact ih195 _ (by omega) (ci + 1) (pB E0 (nI (cU + ci)) (nI (cV + ri)) (((btR ((rwF D0 F0 24) (cY + ci)) (nI (cX + ((cw - 1) - ri)))) + (2 * (btR ((rwF D1 F1 24) (cY + ci)) (nI (cX + ((cw - 1) - ri)))))) + (3 * (btR ((rwF D2 F2 24) (cY + ci)) (nI (cX + ((cw - 1) - ri)))))) 1) (pB E1 (nI (cU + ci)) (nI (cV + ri)) (((btR ((rwF D0 F0 24) (cY + ci)) (nI (cX + ((cw - 1) - ri)))) + (2 * (btR ((rwF D1 F1 24) (cY + ci)) (nI (cX + ((cw - 1) - ri)))))) + (3 * (btR ((rwF D2 F2 24) (cY + ci)) (nI (cX + ((cw - 1) - ri)))))) 2) (pB E2 (nI (cU + ci)) (nI (cV + ri)) (((btR ((rwF D0 F0 24) (cY + ci)) (nI (cX + ((cw - 1) - ri)))) + (2 * (btR ((rwF D1 F1 24) (cY + ci)) (nI (cX + ((cw - 1) - ri)))))) + (3 * (btR ((rwF D2 F2 24) (cY + ci)) (nI (cX + ((cw - 1) - ri)))))) 3) rfl (by omega) (by rw [cqL, ← hJ]; exact (if_neg h350).symm)
          exact lp195 _ 0 G0 G1 G2 rfl (by omega) rfl
      exact lp185 _ 0 F0 F1 F2 rfl (by omega) rfl
    · -- 131 on
      have hr2 := lp_lt (n := 24) (by decide) hr h131
      refine j_aload_n B d_M_copy_134 rfl 0 rfl ?_
      refine gf_M_68 B (rG (ix := 0) hl rfl) rfl d_M_copy_135 ?_
      refine j_iload B d_M_copy_138 11 rfl ?_
      refine j_aload_n B d_M_copy_140 rfl 0 rfl ?_
      refine gf_M_7 B (rG (ix := 0) hl rfl) rfl d_M_copy_141 ?_
      refine j_iload B d_M_copy_144 11 rfl ?_
      refine j_ialdN B rfl (rG (ix := 1) hl rfl) (by omega) d_M_copy_146 ?_
      refine j_iastN B not_false rfl (rG (ix := 20) hl rfl) (by omega) d_M_copy_147 ?_
      refine jW.heap (σ2 := σ ++ rC b ta 0 F0 F1 F2 HH kt kp a hi tm sN sx sy pt mn pl pN px py sn lt rc tx sz us (upd (rwF D0 F0 r) r (F0 r)) (rwF D1 F1 r) (rwF D2 F2 r) qx qy di up dn be op gs t0 fr lf pX pY pD pU X) (rT (ix := 20) hl rfl) ?_
      refine j_aload_n B d_M_copy_148 rfl 0 rfl ?_
      refine gf_M_71 B (rG (ix := 0) hl rfl) rfl d_M_copy_149 ?_
      refine j_iload B d_M_copy_152 11 rfl ?_
      refine j_aload_n B d_M_copy_154 rfl 0 rfl ?_
      refine gf_M_13 B (rG (ix := 0) hl rfl) rfl d_M_copy_155 ?_
      refine j_iload B d_M_copy_158 11 rfl ?_
      refine j_ialdN B rfl (rG (ix := 2) hl rfl) (by omega) d_M_copy_160 ?_
      refine j_iastN B not_false rfl (rG (ix := 21) hl rfl) (by omega) d_M_copy_161 ?_
      refine jW.heap (σ2 := σ ++ rC b ta 0 F0 F1 F2 HH kt kp a hi tm sN sx sy pt mn pl pN px py sn lt rc tx sz us (upd (rwF D0 F0 r) r (F0 r)) (upd (rwF D1 F1 r) r (F1 r)) (rwF D2 F2 r) qx qy di up dn be op gs t0 fr lf pX pY pD pU X) (rT (ix := 21) hl rfl) ?_
      refine j_aload_n B d_M_copy_162 rfl 0 rfl ?_
      refine gf_M_74 B (rG (ix := 0) hl rfl) rfl d_M_copy_163 ?_
      refine j_iload B d_M_copy_166 11 rfl ?_
      refine j_aload_n B d_M_copy_168 rfl 0 rfl ?_
      refine gf_M_16 B (rG (ix := 0) hl rfl) rfl d_M_copy_169 ?_
      refine j_iload B d_M_copy_172 11 rfl ?_
      refine j_ialdN B rfl (rG (ix := 3) hl rfl) (by omega) d_M_copy_174 ?_
      refine j_iastN B not_false rfl (rG (ix := 22) hl rfl) (by omega) d_M_copy_175 ?_
      refine jW.heap (σ2 := σ ++ rC b ta 0 F0 F1 F2 HH kt kp a hi tm sN sx sy pt mn pl pN px py sn lt rc tx sz us (upd (rwF D0 F0 r) r (F0 r)) (upd (rwF D1 F1 r) r (F1 r)) (upd (rwF D2 F2 r) r (F2 r)) qx qy di up dn be op gs t0 fr lf pX pY pD pU X) (rT (ix := 22) hl rfl) ?_
      refine j_iinc (L' := [(0, .ref (b + 133)), (1, .int (nI cX)), (2, .int (nI cY)), (3, .int (nI cw)), (4, .int (nI ch)), (5, .int (nI cU)), (6, .int (nI cV)), (7, .int 3), (8, .int 1), (9, .int (nI ch)), (10, .int (nI cw)), (11, .int (nI (r + 1)))]) (v := nI (r + 1)) B d_M_copy_176 (k := 11) rfl (nI_succ r).symm (by decide) [1, 2, 3, 4, 5, 6, 7, 8, 9, 10, 11, 0] rfl ?_
      refine j_goto B d_M_copy_179 rfl ?_
      exact ih127 _ (by omega) (r + 1) rfl (by omega)
  exact lp127 _ 0 rfl (by omega)
