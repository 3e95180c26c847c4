set_option maxRecDepth 100000 in
set_option maxHeartbeats 4000000 in
theorem c_M_copy_f {l : Launch} {b : Nat} {D : va_G} {ta : Nat → ClassId} {σ : List va_E} (hl : σ.length = 133) {wt : Int32} {F0 : Nat → Int32} {F1 : Nat → Int32} {F2 : Nat → Int32} {HH : Nat → Int32} {kt : Nat → Int32} {kp : Nat → Int32} {a : Nat} {hi : Nat} {tm : Nat} {sN : Nat} {sx : Nat → Int32} {sy : Nat → Int32} {pt : Nat → Int64} {mn : Nat → Int32} {pl : Nat → Int32} {pN : Nat} {px : Nat → Int32} {py : Nat → Int32} {sn : Nat → Int32} {lt : Nat → Int32} {rc : Nat → Int64} {tx : Nat → Int32} {sz : Nat → Int32} {us : Nat → Int32} {D0 : Nat → Int32} {D1 : Nat → Int32} {D2 : Nat → Int32} {qx : Int32} {qy : Int32} {di : Nat} {up : Bool} {dn : Nat} {be : Bool} {op : Nat} {gs : Nat → Int32} {t0 : Nat → Int32} {fr : Nat → Int32} {lf : Nat → Int32} {pX : Nat → Int32} {pY : Nat → Int32} {pD : Nat → Int32} {pU : Nat → Int32} {X : List va_E} {x y w h U V t : Int32} (hf : ¬ (cpZ x y w h U V t = true ∧ ¬ 32 - U < (if t - t / 2 * 2 = 0 then w else h) ∧ (if t - t / 2 * 2 = 0 then h else w) ≤ 24 - V)) : jC l b D ta False y_M_copy b_M_copy 18 (some .boolean) (rL 1) [.ref (b + 133), .int x, .int y, .int w, .int h, .int U, .int V, .int t] (σ ++ rC b ta wt F0 F1 F2 HH kt kp a hi tm sN sx sy pt mn pl pN px py sn lt rc tx sz us D0 D1 D2 qx qy di up dn be op gs t0 fr lf pX pY pD pU X) (some (.int 0)) (σ ++ rC b ta 0 F0 F1 F2 HH kt kp a hi tm sN sx sy pt mn pl pN px py sn lt rc tx sz us D0 D1 D2 qx qy di up dn be op gs t0 fr lf pX pY pD pU X) := by
  refine jC_of (own := "WireFieldModel") (by decide +kernel) (Nat.le_of_ble_eq_true rfl) rfl (fun Γ B K => ?_)
  change jW l b D Γ False 0 0 18 (σ ++ rC b ta wt F0 F1 F2 HH kt kp a hi tm sN sx sy pt mn pl pN px py sn lt rc tx sz us D0 D1 D2 qx qy di up dn be op gs t0 fr lf pX pY pD pU X) [(0, .ref (b + 133)), (1, .int x), (2, .int y), (3, .int w), (4, .int h), (5, .int U), (6, .int V), (7, .int t)] 0 []
  refine j_aload_n B d_M_copy_0 rfl 0 rfl ?_
  refine j_iconst (v := 0) B d_M_copy_1 (by decide) ?_
  refine pf_M_102 B not_false (rG (ix := 0) hl rfl) rfl rfl (Nat.le_of_ble_eq_true rfl) d_M_copy_2 ?_
  refine jW.heap (σ2 := σ ++ rC b ta 0 F0 F1 F2 HH kt kp a hi tm sN sx sy pt mn pl pN px py sn lt rc tx sz us D0 D1 D2 qx qy di up dn be op gs t0 fr lf pX pY pD pU X) (rT (ix := 0) hl rfl) ?_
  refine j_iload_n B d_M_copy_5 rfl 1 rfl ?_
  refine j_iload_n B d_M_copy_6 rfl 2 rfl ?_
  refine k_callS (as := [.int x, .int y]) (rest := []) (st1 := [.int (bI (inF x y))]) B (c_M_is x y) yf_M_is w_899 w_900 rfl (by decide) (by decide) rfl rfl (Nat.le_of_ble_eq_true rfl) d_M_copy_7 ?_
  have j65 : ∀ z8 : Int32, z8 = (if (inF x y) = true then if w ≤ 0 then 0 else if h ≤ 0 then 0 else if (32 - x) < w then 0 else if (24 - y) < h then 0 else if t < 0 then 0 else if 4 ≤ t then 0 else if (inF U V) = true then 1 else 0 else 0) → jW l b D Γ False 0 0 18 (σ ++ rC b ta 0 F0 F1 F2 HH kt kp a hi tm sN sx sy pt mn pl pN px py sn lt rc tx sz us D0 D1 D2 qx qy di up dn be op gs t0 fr lf pX pY pD pU X) [(0, .ref (b + 133)), (1, .int x), (2, .int y), (3, .int w), (4, .int h), (5, .int U), (6, .int V), (7, .int t)] 65 [.int z8] := by
    intro z8 e_z8
    rw [e_z8, cpZ_if]
    refine j_istore (L' := [(0, .ref (b + 133)), (1, .int x), (2, .int y), (3, .int w), (4, .int h), (5, .int U), (6, .int V), (7, .int t), (8, .int (bI (cpZ x y w h U V t)))]) B d_M_copy_65 (by decide) [1, 2, 3, 4, 5, 6, 7, 8, 0] rfl ?_
    refine j_iload B d_M_copy_67 7 rfl ?_
    refine j_iconst (v := 2) B d_M_copy_69 (by decide) ?_
    refine j_irem B d_M_copy_70 (by decide) ?_
    have j80 : ∀ w9 : Int32, w9 = (if (t - t / 2 * 2) = 0 then w else h) → jW l b D Γ False 0 0 18 (σ ++ rC b ta 0 F0 F1 F2 HH kt kp a hi tm sN sx sy pt mn pl pN px py sn lt rc tx sz us D0 D1 D2 qx qy di up dn be op gs t0 fr lf pX pY pD pU X) [(0, .ref (b + 133)), (1, .int x), (2, .int y), (3, .int w), (4, .int h), (5, .int U), (6, .int V), (7, .int t), (8, .int (bI (cpZ x y w h U V t)))] 80 [.int w9] := by
      intro w9 e_w9
      refine j_istore (L' := [(0, .ref (b + 133)), (1, .int x), (2, .int y), (3, .int w), (4, .int h), (5, .int U), (6, .int V), (7, .int t), (8, .int (bI (cpZ x y w h U V t))), (9, .int w9)]) B d_M_copy_80 (by decide) [1, 2, 3, 4, 5, 6, 7, 8, 9, 0] rfl ?_
      refine j_iload B d_M_copy_82 7 rfl ?_
      refine j_iconst (v := 2) B d_M_copy_84 (by decide) ?_
      refine j_irem B d_M_copy_85 (by decide) ?_
      have j95 : ∀ h10 : Int32, h10 = (if (t - t / 2 * 2) = 0 then h else w) → jW l b D Γ False 0 0 18 (σ ++ rC b ta 0 F0 F1 F2 HH kt kp a hi tm sN sx sy pt mn pl pN px py sn lt rc tx sz us D0 D1 D2 qx qy di up dn be op gs t0 fr lf pX pY pD pU X) [(0, .ref (b + 133)), (1, .int x), (2, .int y), (3, .int w), (4, .int h), (5, .int U), (6, .int V), (7, .int t), (8, .int (bI (cpZ x y w h U V t))), (9, .int w9)] 95 [.int h10] := by
        intro h10 e_h10
        refine j_istore (L' := [(0, .ref (b + 133)), (1, .int x), (2, .int y), (3, .int w), (4, .int h), (5, .int U), (6, .int V), (7, .int t), (8, .int (bI (cpZ x y w h U V t))), (9, .int w9), (10, .int h10)]) B d_M_copy_95 (by decide) [1, 2, 3, 4, 5, 6, 7, 8, 9, 10, 0] rfl ?_
        refine j_iload B d_M_copy_97 8 rfl ?_
        refine j_if_eq B d_M_copy_99 rfl (fun h99 => ?_) (fun h99 => ?_)
        · -- 99 jump
          replace h99 := bI_f h99
          refine j_iconst (v := 0) B d_M_copy_122 (by decide) ?_
          exact j_zret B K (by decide) rfl rfl d_M_copy_123
        · -- 99 on
          replace h99 := bI_t h99
          refine j_iload B d_M_copy_102 9 rfl ?_
          refine j_bipush (v := 32) B d_M_copy_104 (by decide) ?_
          refine j_iload B d_M_copy_106 5 rfl ?_
          refine j_isub B d_M_copy_108 ?_
          refine j_icmp_gt B d_M_copy_109 rfl (fun h109 => ?_) (fun h109 => ?_)
          · -- 109 jump
            refine j_iconst (v := 0) B d_M_copy_122 (by decide) ?_
            exact j_zret B K (by decide) rfl rfl d_M_copy_123
          · -- 109 on
            refine j_iload B d_M_copy_112 10 rfl ?_
            refine j_bipush (v := 24) B d_M_copy_114 (by decide) ?_
            refine j_iload B d_M_copy_116 6 rfl ?_
            refine j_isub B d_M_copy_118 ?_
            refine j_icmp_le B d_M_copy_119 rfl (fun h119 => ?_) (fun h119 => ?_)
            · -- 119 jump
              rw [e_w9] at h109
              rw [e_h10] at h119
              exact absurd ⟨h99, h109, h119⟩ hf
            · -- 119 on
              refine j_iconst (v := 0) B d_M_copy_122 (by decide) ?_
              exact j_zret B K (by decide) rfl rfl d_M_copy_123
      refine j_if_ne B d_M_copy_86 rfl (fun h86 => ?_) (fun h86 => ?_)
      · -- 86 jump
        refine j_iload_n B d_M_copy_94 rfl 3 rfl ?_
        exact j95 _ (by rw [if_neg h86])
      · -- 86 on
        refine j_iload B d_M_copy_89 4 rfl ?_
        refine j_goto B d_M_copy_91 rfl ?_
        exact j95 _ (by rw [if_pos h86])
    refine j_if_ne B d_M_copy_71 rfl (fun h71 => ?_) (fun h71 => ?_)
    · -- 71 jump
      refine j_iload B d_M_copy_78 4 rfl ?_
      exact j80 _ (by rw [if_neg h71])
    · -- 71 on
      refine j_iload_n B d_M_copy_74 rfl 3 rfl ?_
      refine j_goto B d_M_copy_75 rfl ?_
      exact j80 _ (by rw [if_pos h71])
  refine j_if_eq B d_M_copy_10 rfl (fun h10 => ?_) (fun h10 => ?_)
  · -- 10 jump
    replace h10 := bI_f h10
    refine j_iconst (v := 0) B d_M_copy_64 (by decide) ?_
    exact j65 _ (by rw [if_neg (bF h10)])
  · -- 10 on
    replace h10 := bI_t h10
    refine j_iload_n B d_M_copy_13 rfl 3 rfl ?_
    refine j_if_le B d_M_copy_14 rfl (fun h14 => ?_) (fun h14 => ?_)
    · -- 14 jump
      refine j_iconst (v := 0) B d_M_copy_64 (by decide) ?_
      exact j65 _ (by rw [if_pos h10, if_pos h14])
    · -- 14 on
      refine j_iload B d_M_copy_17 4 rfl ?_
      refine j_if_le B d_M_copy_19 rfl (fun h19 => ?_) (fun h19 => ?_)
      · -- 19 jump
        refine j_iconst (v := 0) B d_M_copy_64 (by decide) ?_
        exact j65 _ (by rw [if_pos h10, if_neg h14, if_pos h19])
      · -- 19 on
        refine j_iload_n B d_M_copy_22 rfl 3 rfl ?_
        refine j_bipush (v := 32) B d_M_copy_23 (by decide) ?_
        refine j_iload_n B d_M_copy_25 rfl 1 rfl ?_
        refine j_isub B d_M_copy_26 ?_
        refine j_icmp_gt B d_M_copy_27 rfl (fun h27 => ?_) (fun h27 => ?_)
        · -- 27 jump
          refine j_iconst (v := 0) B d_M_copy_64 (by decide) ?_
          exact j65 _ (by rw [if_pos h10, if_neg h14, if_neg h19, if_pos h27])
        · -- 27 on
          refine j_iload B d_M_copy_30 4 rfl ?_
          refine j_bipush (v := 24) B d_M_copy_32 (by decide) ?_
          refine j_iload_n B d_M_copy_34 rfl 2 rfl ?_
          refine j_isub B d_M_copy_35 ?_
          refine j_icmp_gt B d_M_copy_36 rfl (fun h36 => ?_) (fun h36 => ?_)
          · -- 36 jump
            refine j_iconst (v := 0) B d_M_copy_64 (by decide) ?_
            exact j65 _ (by rw [if_pos h10, if_neg h14, if_neg h19, if_neg h27, if_pos h36])
          · -- 36 on
            refine j_iload B d_M_copy_39 7 rfl ?_
            refine j_if_lt B d_M_copy_41 rfl (fun h41 => ?_) (fun h41 => ?_)
            · -- 41 jump
              refine j_iconst (v := 0) B d_M_copy_64 (by decide) ?_
              exact j65 _ (by rw [if_pos h10, if_neg h14, if_neg h19, if_neg h27, if_neg h36, if_pos h41])
            · -- 41 on
              refine j_iload B d_M_copy_44 7 rfl ?_
              refine j_iconst (v := 4) B d_M_copy_46 (by decide) ?_
              refine j_icmp_ge B d_M_copy_47 rfl (fun h47 => ?_) (fun h47 => ?_)
              · -- 47 jump
                refine j_iconst (v := 0) B d_M_copy_64 (by decide) ?_
                exact j65 _ (by rw [if_pos h10, if_neg h14, if_neg h19, if_neg h27, if_neg h36, if_neg h41, if_pos h47])
              · -- 47 on
                refine j_iload B d_M_copy_50 5 rfl ?_
                refine j_iload B d_M_copy_52 6 rfl ?_
                refine k_callS (as := [.int U, .int V]) (rest := []) (st1 := [.int (bI (inF U V))]) B (c_M_is U V) yf_M_is w_899 w_900 rfl (by decide) (by decide) rfl rfl (Nat.le_of_ble_eq_true rfl) d_M_copy_54 ?_
                refine j_if_eq B d_M_copy_57 rfl (fun h57 => ?_) (fun h57 => ?_)
                · -- 57 jump
                  replace h57 := bI_f h57
                  refine j_iconst (v := 0) B d_M_copy_64 (by decide) ?_
                  exact j65 _ (by rw [if_pos h10, if_neg h14, if_neg h19, if_neg h27, if_neg h36, if_neg h41, if_neg h47, if_neg (bF h57)])
                · -- 57 on
                  replace h57 := bI_t h57
                  refine j_iconst (v := 1) B d_M_copy_60 (by decide) ?_
                  refine j_goto B d_M_copy_61 rfl ?_
                  exact j65 _ (by rw [if_pos h10, if_neg h14, if_neg h19, if_neg h27, if_neg h36, if_neg h41, if_neg h47, if_pos h57])
