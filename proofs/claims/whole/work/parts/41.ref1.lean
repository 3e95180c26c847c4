set_option maxRecDepth 100000 in
set_option maxHeartbeats 4000000 in
theorem c_M_is {l : Launch} {b : Nat} {D : va_G} {ta : Nat → ClassId} {σ : List va_E} (c r : Int32) : jC l b D ta False y_M_is b_M_is 2 (some .boolean) (rL 0) [.int c, .int r] (σ) (some (.int (bI (inF c r)))) (σ) := by
  refine jC_of (own := "WireFieldModel") (by decide +kernel) (Nat.le_of_ble_eq_true rfl) rfl (fun Γ B K => ?_)
  change jW l b D Γ False 0 0 2 (σ) [(0, .int c), (1, .int r)] 0 []
  refine j_iload_n B d_M_is_0 rfl 0 rfl ?_
  refine j_if_lt B d_M_is_1 rfl (fun h1 => ?_) (fun h1 => ?_)
  · -- 1 jump
    refine j_iconst (v := 0) B d_M_is_24 (by decide) ?_
    exact j_zret B K (by decide) (by simp [bI, inF, h1]) rfl d_M_is_25
  · -- 1 on
    refine j_iload_n B d_M_is_4 rfl 0 rfl ?_
    refine j_bipush (v := 32) B d_M_is_5 (by decide) ?_
    refine j_icmp_ge B d_M_is_7 rfl (fun h7 => ?_) (fun h7 => ?_)
    · -- 7 jump
      refine j_iconst (v := 0) B d_M_is_24 (by decide) ?_
      exact j_zret B K (by decide) (by simp [bI, inF, h1, h7]) rfl d_M_is_25
    · -- 7 on
      refine j_iload_n B d_M_is_10 rfl 1 rfl ?_
      refine j_if_lt B d_M_is_11 rfl (fun h11 => ?_) (fun h11 => ?_)
      · -- 11 jump
        refine j_iconst (v := 0) B d_M_is_24 (by decide) ?_
        exact j_zret B K (by decide) (by simp [bI, inF, h1, h7, h11]) rfl d_M_is_25
      · -- 11 on
        refine j_iload_n B d_M_is_14 rfl 1 rfl ?_
        refine j_bipush (v := 24) B d_M_is_15 (by decide) ?_
        refine j_icmp_ge B d_M_is_17 rfl (fun h17 => ?_) (fun h17 => ?_)
        · -- 17 jump
          refine j_iconst (v := 0) B d_M_is_24 (by decide) ?_
          exact j_zret B K (by decide) (by simp [bI, inF, h1, h7, h11, h17]) rfl d_M_is_25
        · -- 17 on
          refine j_iconst (v := 1) B d_M_is_20 (by decide) ?_
          refine j_goto B d_M_is_21 rfl ?_
          exact j_zret B K (by decide) (by simp [bI, inF, h1, h7, h11, h17]) rfl d_M_is_25
set_option maxRecDepth 100000 in
set_option maxHeartbeats 4000000 in
theorem c_M_bit {l : Launch} {b : Nat} {D : va_G} {ta : Nat → ClassId} {σ : List va_E} (x c : Int32) : jC l b D ta False y_M_bit b_M_bit 2 (some .int) (rL 0) [.int x, .int c] (σ) (some (.int (btR x c))) (σ) := by
  refine jC_of (own := "WireFieldModel") (by decide +kernel) (Nat.le_of_ble_eq_true rfl) rfl (fun Γ B K => ?_)
  change jW l b D Γ False 0 0 2 (σ) [(0, .int x), (1, .int c)] 0 []
  refine j_iload_n B d_M_bit_0 rfl 0 rfl ?_
  refine j_iload_n B d_M_bit_1 rfl 1 rfl ?_
  refine j_ishr B d_M_bit_2 ?_
  refine j_iconst (v := 1) B d_M_bit_3 (by decide) ?_
  refine j_iand B d_M_bit_4 ?_
  exact j_iret B K rfl rfl d_M_bit_5
set_option maxRecDepth 100000 in
set_option maxHeartbeats 4000000 in
theorem c_M_thrown {l : Launch} {b : Nat} {D : va_G} {ta : Nat → ClassId} {σ : List va_E} (hl : σ.length = 133) {wt : Int32} {F0 : Nat → Int32} {F1 : Nat → Int32} {F2 : Nat → Int32} {HH : Nat → Int32} {kt : Nat → Int32} {kp : Nat → Int32} {a : Nat} {hi : Nat} {tm : Nat} {sN : Nat} {sx : Nat → Int32} {sy : Nat → Int32} {pt : Nat → Int64} {mn : Nat → Int32} {pl : Nat → Int32} {pN : Nat} {px : Nat → Int32} {py : Nat → Int32} {sn : Nat → Int32} {lt : Nat → Int32} {rc : Nat → Int64} {tx : Nat → Int32} {sz : Nat → Int32} {us : Nat → Int32} {D0 : Nat → Int32} {D1 : Nat → Int32} {D2 : Nat → Int32} {qx : Int32} {qy : Int32} {di : Nat} {up : Bool} {dn : Nat} {be : Bool} {op : Nat} {gs : Nat → Int32} {t0 : Nat → Int32} {fr : Nat → Int32} {lf : Nat → Int32} {pX : Nat → Int32} {pY : Nat → Int32} {pD : Nat → Int32} {pU : Nat → Int32} {X : List va_E} : jC l b D ta False y_M_thrown b_M_thrown 1 (some .int) (rL 0) [.ref (b + 133)] (σ ++ rC b ta wt F0 F1 F2 HH kt kp a hi tm sN sx sy pt mn pl pN px py sn lt rc tx sz us D0 D1 D2 qx qy di up dn be op gs t0 fr lf pX pY pD pU X) (some (.int wt)) (σ ++ rC b ta wt F0 F1 F2 HH kt kp a hi tm sN sx sy pt mn pl pN px py sn lt rc tx sz us D0 D1 D2 qx qy di up dn be op gs t0 fr lf pX pY pD pU X) := by
  refine jC_of (own := "WireFieldModel") (by decide +kernel) (Nat.le_of_ble_eq_true rfl) rfl (fun Γ B K => ?_)
  change jW l b D Γ False 0 0 1 (σ ++ rC b ta wt F0 F1 F2 HH kt kp a hi tm sN sx sy pt mn pl pN px py sn lt rc tx sz us D0 D1 D2 qx qy di up dn be op gs t0 fr lf pX pY pD pU X) [(0, .ref (b + 133))] 0 []
  refine j_aload_n B d_M_thrown_0 rfl 0 rfl ?_
  refine gf_M_102 B (rG (ix := 0) hl rfl) rfl d_M_thrown_1 ?_
  exact j_iret B K rfl rfl d_M_thrown_4
set_option maxRecDepth 100000 in
set_option maxHeartbeats 4000000 in
theorem c_M_headsIn {l : Launch} {b : Nat} {D : va_G} {ta : Nat → ClassId} {σ : List va_E} (hl : σ.length = 133) {wt : Int32} {F0 : Nat → Int32} {F1 : Nat → Int32} {F2 : Nat → Int32} {HH : Nat → Int32} {kt : Nat → Int32} {kp : Nat → Int32} {a : Nat} {hi : Nat} {tm : Nat} {sN : Nat} {sx : Nat → Int32} {sy : Nat → Int32} {pt : Nat → Int64} {mn : Nat → Int32} {pl : Nat → Int32} {pN : Nat} {px : Nat → Int32} {py : Nat → Int32} {sn : Nat → Int32} {lt : Nat → Int32} {rc : Nat → Int64} {tx : Nat → Int32} {sz : Nat → Int32} {us : Nat → Int32} {D0 : Nat → Int32} {D1 : Nat → Int32} {D2 : Nat → Int32} {qx : Int32} {qy : Int32} {di : Nat} {up : Bool} {dn : Nat} {be : Bool} {op : Nat} {gs : Nat → Int32} {t0 : Nat → Int32} {fr : Nat → Int32} {lf : Nat → Int32} {pX : Nat → Int32} {pY : Nat → Int32} {pD : Nat → Int32} {pU : Nat → Int32} {X : List va_E} (r : Int32) : jC l b D ta False y_M_headsIn b_M_headsIn 2 (some .int) (rL 0) [.ref (b + 133), .int r] (σ ++ rC b ta wt F0 F1 F2 HH kt kp a hi tm sN sx sy pt mn pl pN px py sn lt rc tx sz us D0 D1 D2 qx qy di up dn be op gs t0 fr lf pX pY pD pU X) (some (.int (hdI HH r))) (σ ++ rC b ta wt F0 F1 F2 HH kt kp a hi tm sN sx sy pt mn pl pN px py sn lt rc tx sz us D0 D1 D2 qx qy di up dn be op gs t0 fr lf pX pY pD pU X) := by
  refine jC_of (own := "WireFieldModel") (by decide +kernel) (Nat.le_of_ble_eq_true rfl) rfl (fun Γ B K => ?_)
  change jW l b D Γ False 0 0 2 (σ ++ rC b ta wt F0 F1 F2 HH kt kp a hi tm sN sx sy pt mn pl pN px py sn lt rc tx sz us D0 D1 D2 qx qy di up dn be op gs t0 fr lf pX pY pD pU X) [(0, .ref (b + 133)), (1, .int r)] 0 []
  refine j_iload_n B d_M_headsIn_0 rfl 1 rfl ?_
  refine j_if_lt B d_M_headsIn_1 rfl (fun h1 => ?_) (fun h1 => ?_)
  · -- 1 jump
    refine j_iconst (v := 0) B d_M_headsIn_10 (by decide) ?_
    refine j_goto B d_M_headsIn_11 rfl ?_
    exact j_iret B K (by simp [hdI, *]) rfl d_M_headsIn_20
  · -- 1 on
    refine j_iload_n B d_M_headsIn_4 rfl 1 rfl ?_
    refine j_bipush (v := 23) B d_M_headsIn_5 (by decide) ?_
    refine j_icmp_le B d_M_headsIn_7 rfl (fun h7 => ?_) (fun h7 => ?_)
    · -- 7 jump
      refine j_aload_n B d_M_headsIn_14 rfl 0 rfl ?_
      refine gf_M_19 B (rG (ix := 0) hl rfl) rfl d_M_headsIn_15 ?_
      refine j_iload_n B d_M_headsIn_18 rfl 1 rfl ?_
      refine j_iald B rfl (rG (ix := 4) hl rfl) (in23 h1 h7) d_M_headsIn_19 ?_
      exact j_iret B K (by simp [hdI, *]) rfl d_M_headsIn_20
    · -- 7 on
      refine j_iconst (v := 0) B d_M_headsIn_10 (by decide) ?_
      refine j_goto B d_M_headsIn_11 rfl ?_
      exact j_iret B K (by simp [hdI, *]) rfl d_M_headsIn_20
set_option maxRecDepth 100000 in
set_option maxHeartbeats 4000000 in
theorem c_M_lit {l : Launch} {b : Nat} {D : va_G} {ta : Nat → ClassId} {σ : List va_E} (hl : σ.length = 133) {wt : Int32} {F0 : Nat → Int32} {F1 : Nat → Int32} {F2 : Nat → Int32} {HH : Nat → Int32} {kt : Nat → Int32} {kp : Nat → Int32} {a : Nat} {hi : Nat} {tm : Nat} {sN : Nat} {sx : Nat → Int32} {sy : Nat → Int32} {pt : Nat → Int64} {mn : Nat → Int32} {pl : Nat → Int32} {pN : Nat} {px : Nat → Int32} {py : Nat → Int32} {sn : Nat → Int32} {lt : Nat → Int32} {rc : Nat → Int64} {tx : Nat → Int32} {sz : Nat → Int32} {us : Nat → Int32} {D0 : Nat → Int32} {D1 : Nat → Int32} {D2 : Nat → Int32} {qx : Int32} {qy : Int32} {di : Nat} {up : Bool} {dn : Nat} {be : Bool} {op : Nat} {gs : Nat → Int32} {t0 : Nat → Int32} {fr : Nat → Int32} {lf : Nat → Int32} {pX : Nat → Int32} {pY : Nat → Int32} {pD : Nat → Int32} {pU : Nat → Int32} {X : List va_E} {r : Nat} : jC l b D ta False y_M_lit b_M_lit 9 (some .int) (rL 1) [.ref (b + 133), .int (nI r)] (σ ++ rC b ta wt F0 F1 F2 HH kt kp a hi tm sN sx sy pt mn pl pN px py sn lt rc tx sz us D0 D1 D2 qx qy di up dn be op gs t0 fr lf pX pY pD pU X) (some (.int (litF HH r))) (σ ++ rC b ta wt F0 F1 F2 HH kt kp a hi tm sN sx sy pt mn pl pN px py sn lt rc tx sz us D0 D1 D2 qx qy di up dn be op gs t0 fr lf pX pY pD pU X) := by
  refine jC_of (own := "WireFieldModel") (by decide +kernel) (Nat.le_of_ble_eq_true rfl) rfl (fun Γ B K => ?_)
  change jW l b D Γ False 0 0 9 (σ ++ rC b ta wt F0 F1 F2 HH kt kp a hi tm sN sx sy pt mn pl pN px py sn lt rc tx sz us D0 D1 D2 qx qy di up dn be op gs t0 fr lf pX pY pD pU X) [(0, .ref (b + 133)), (1, .int (nI r))] 0 []
  refine j_iconst (v := 0) B d_M_lit_0 (by decide) ?_
  refine j_istore_n (L' := [(0, .ref (b + 133)), (1, .int (nI r)), (2, .int 0)]) B d_M_lit_1 rfl (by decide) [1, 2, 0] rfl ?_
  refine j_iconst (v := 0) B d_M_lit_2 (by decide) ?_
  refine j_istore_n (L' := [(0, .ref (b + 133)), (1, .int (nI r)), (2, .int 0), (3, .int 0)]) B d_M_lit_3 rfl (by decide) [1, 2, 3, 0] rfl ?_
  refine j_iconst (v := 0) B d_M_lit_4 (by decide) ?_
  refine j_istore (L' := [(0, .ref (b + 133)), (1, .int (nI r)), (2, .int 0), (3, .int 0), (4, .int 0)]) B d_M_lit_5 (by decide) [1, 2, 3, 4, 0] rfl ?_
  refine j_iconst (v := 0) B d_M_lit_7 (by decide) ?_
  refine j_istore (L' := [(0, .ref (b + 133)), (1, .int (nI r)), (2, .int 0), (3, .int 0), (4, .int 0), (5, .int 0)]) B d_M_lit_8 (by decide) [1, 2, 3, 4, 5, 0] rfl ?_
  have lp10 : ∀ (n10 : Nat) (k : Nat) (o : Int32) (t : Int32) (m : Int32), 9 - k = n10 → (k ≤ 9) → ((o, t, m) = ltS HH r k) → jW l b D Γ False 0 0 9 (σ ++ rC b ta wt F0 F1 F2 HH kt kp a hi tm sN sx sy pt mn pl pN px py sn lt rc tx sz us D0 D1 D2 qx qy di up dn be op gs t0 fr lf pX pY pD pU X) [(0, .ref (b + 133)), (1, .int (nI r)), (2, .int o), (3, .int t), (4, .int m), (5, .int (nI k))] 10 [] := by
    refine jloop (fun n10 ih10 => ?_)
    intro k o t m hn10 hk hI
    refine j_iload B d_M_lit_10 5 rfl ?_
    refine j_bipush (v := 9) B d_M_lit_12 (by decide) ?_
    refine j_icmp_ge B d_M_lit_14 rfl (fun h14 => ?_) (fun h14 => ?_)
    · -- 14 jump
      have hk9 := lp_ge (n := 9) (by decide) hk h14
      subst hk9
      refine j_iload_n B d_M_lit_101 rfl 2 rfl ?_
      refine j_iload_n B d_M_lit_102 rfl 3 rfl ?_
      refine j_ixor B d_M_lit_103 ?_
      refine j_iload B d_M_lit_104 4 rfl ?_
      refine j_iconst (v := (-1)) B d_M_lit_106 (by decide) ?_
      refine j_ixor B d_M_lit_107 ?_
      refine j_iand B d_M_lit_108 ?_
      exact j_iret B K (by rw [litF, ← hI]) rfl d_M_lit_109
    · -- 14 on
      have hk9 := lp_lt (n := 9) (by decide) hk h14
      refine j_aload_n B d_M_lit_17 rfl 0 rfl ?_
      refine j_iload_n B d_M_lit_18 rfl 1 rfl ?_
      refine j_iconst (v := 1) B d_M_lit_19 (by decide) ?_
      refine j_isub B d_M_lit_20 ?_
      refine j_iload B d_M_lit_21 5 rfl ?_
      refine j_iconst (v := 3) B d_M_lit_23 (by decide) ?_
      refine j_idivE (v := nI (k / 3)) B (by decide) (pk_div (a := k) (d := 3) (by omega) (by decide) (by decide)) d_M_lit_24 ?_
      refine j_iadd B d_M_lit_25 ?_
      refine k_callV (as := [.int (((nI r) - 1) + (nI (k / 3)))]) (rest := []) (st1 := [.int (hdI HH (((nI r) - 1) + (nI (k / 3))))]) B (c_M_headsIn hl (((nI r) - 1) + (nI (k / 3)))) yf_M_headsIn w_849 w_851 w_s26 rfl (rG (ix := 0) hl rfl) rfl (by decide) (by decide) rfl rfl (Nat.le_of_ble_eq_true rfl) d_M_lit_26 ?_
      refine j_istore (L' := [(0, .ref (b + 133)), (1, .int (nI r)), (2, .int o), (3, .int t), (4, .int m), (5, .int (nI k)), (6, .int (hdI HH (((nI r) - 1) + (nI (k / 3)))))]) B d_M_lit_29 (by decide) [1, 2, 3, 4, 5, 6, 0] rfl ?_
      refine j_iload B d_M_lit_31 5 rfl ?_
      refine j_iconst (v := 3) B d_M_lit_33 (by decide) ?_
      refine j_iremE (v := nI (k % 3)) B (by decide) (pk_rem (a := k) (d := 3) (by omega) (by decide) (by decide)) d_M_lit_34 ?_
      have j62 : ∀ ad : Int32, ad = (if (nI (k % 3)) = 0 then (hdI HH (((nI r) - 1) + (nI (k / 3)))) <<< (1 &&& 31) else if (nI (k % 3)) = 1 then hdI HH (((nI r) - 1) + (nI (k / 3))) else ((hdI HH (((nI r) - 1) + (nI (k / 3)))).toUInt32 >>> ((1 : Int32).toUInt32 &&& Int32.toUInt32 31)).toInt32) → jW l b D Γ False 0 0 9 (σ ++ rC b ta wt F0 F1 F2 HH kt kp a hi tm sN sx sy pt mn pl pN px py sn lt rc tx sz us D0 D1 D2 qx qy di up dn be op gs t0 fr lf pX pY pD pU X) [(0, .ref (b + 133)), (1, .int (nI r)), (2, .int o), (3, .int t), (4, .int m), (5, .int (nI k)), (6, .int (hdI HH (((nI r) - 1) + (nI (k / 3)))))] 62 [.int ad] := by
        intro ad e_ad
        refine j_istore (L' := [(0, .ref (b + 133)), (1, .int (nI r)), (2, .int o), (3, .int t), (4, .int m), (5, .int (nI k)), (6, .int (hdI HH (((nI r) - 1) + (nI (k / 3))))), (7, .int ad)]) B d_M_lit_62 (by decide) [1, 2, 3, 4, 5, 6, 7, 0] rfl ?_
        refine j_iload B d_M_lit_64 5 rfl ?_
        refine j_iconst (v := 4) B d_M_lit_66 (by decide) ?_
        refine j_icmp_eq B d_M_lit_67 rfl (fun h67 => ?_) (fun h67 => ?_)
        · -- 67 jump
          refine j_iinc (L' := [(0, .ref (b + 133)), (1, .int (nI r)), (2, .int o), (3, .int t), (4, .int m), (5, .int (nI (k + 1))), (6, .int (hdI HH (((nI r) - 1) + (nI (k / 3))))), (7, .int ad)]) (v := nI (k + 1)) B d_M_lit_95 (k := 5) rfl (nI_succ k).symm (by decide) [1, 2, 3, 4, 5, 0, 6, 7] rfl ?_
          refine j_goto B d_M_lit_98 rfl ?_
          refine jW.sub (L' := [(0, .ref (b + 133)), (1, .int (nI r)), (2, .int o), (3, .int t), (4, .int m), (5, .int (nI (k + 1)))]) [0, 1, 2, 3, 4, 5] rfl ?_; exact ih10 _ (by omega) (k + 1) o t m rfl (by omega) (by rw [ltS, if_pos h67]; exact hI)
        · -- 67 on
          refine j_iload_n B d_M_lit_70 rfl 2 rfl ?_
          refine j_iload B d_M_lit_71 7 rfl ?_
          refine j_iand B d_M_lit_73 ?_
          refine j_istore (L' := [(0, .ref (b + 133)), (1, .int (nI r)), (2, .int o), (3, .int t), (4, .int m), (5, .int (nI k)), (6, .int (hdI HH (((nI r) - 1) + (nI (k / 3))))), (7, .int ad), (8, .int (o &&& ad))]) B d_M_lit_74 (by decide) [1, 2, 3, 4, 5, 6, 7, 8, 0] rfl ?_
          refine j_iload_n B d_M_lit_76 rfl 2 rfl ?_
          refine j_iload B d_M_lit_77 7 rfl ?_
          refine j_ixor B d_M_lit_79 ?_
          refine j_istore_n (L' := [(0, .ref (b + 133)), (1, .int (nI r)), (2, .int (o ^^^ ad)), (3, .int t), (4, .int m), (5, .int (nI k)), (6, .int (hdI HH (((nI r) - 1) + (nI (k / 3))))), (7, .int ad), (8, .int (o &&& ad))]) B d_M_lit_80 rfl (by decide) [1, 2, 0, 3, 4, 5, 6, 7, 8] rfl ?_
          refine j_iload B d_M_lit_81 4 rfl ?_
          refine j_iload_n B d_M_lit_83 rfl 3 rfl ?_
          refine j_iload B d_M_lit_84 8 rfl ?_
          refine j_iand B d_M_lit_86 ?_
          refine j_ior B d_M_lit_87 ?_
          refine j_istore (L' := [(0, .ref (b + 133)), (1, .int (nI r)), (2, .int (o ^^^ ad)), (3, .int t), (4, .int (m ||| (t &&& (o &&& ad)))), (5, .int (nI k)), (6, .int (hdI HH (((nI r) - 1) + (nI (k / 3))))), (7, .int ad), (8, .int (o &&& ad))]) B d_M_lit_88 (by decide) [1, 2, 3, 4, 0, 5, 6, 7, 8] rfl ?_
          refine j_iload_n B d_M_lit_90 rfl 3 rfl ?_
          refine j_iload B d_M_lit_91 8 rfl ?_
          refine j_ixor B d_M_lit_93 ?_
          refine j_istore_n (L' := [(0, .ref (b + 133)), (1, .int (nI r)), (2, .int (o ^^^ ad)), (3, .int (t ^^^ (o &&& ad))), (4, .int (m ||| (t &&& (o &&& ad)))), (5, .int (nI k)), (6, .int (hdI HH (((nI r) - 1) + (nI (k / 3))))), (7, .int ad), (8, .int (o &&& ad))]) B d_M_lit_94 rfl (by decide) [1, 2, 3, 0, 4, 5, 6, 7, 8] rfl ?_
          refine j_iinc (L' := [(0, .ref (b + 133)), (1, .int (nI r)), (2, .int (o ^^^ ad)), (3, .int (t ^^^ (o &&& ad))), (4, .int (m ||| (t &&& (o &&& ad)))), (5, .int (nI (k + 1))), (6, .int (hdI HH (((nI r) - 1) + (nI (k / 3))))), (7, .int ad), (8, .int (o &&& ad))]) (v := nI (k + 1)) B d_M_lit_95 (k := 5) rfl (nI_succ k).symm (by decide) [1, 2, 3, 4, 5, 0, 6, 7, 8] rfl ?_
          refine j_goto B d_M_lit_98 rfl ?_
          refine jW.sub (L' := [(0, .ref (b + 133)), (1, .int (nI r)), (2, .int (o ^^^ ad)), (3, .int (t ^^^ (o &&& ad))), (4, .int (m ||| (t &&& (o &&& ad)))), (5, .int (nI (k + 1)))]) [0, 1, 2, 3, 4, 5] rfl ?_; exact ih10 _ (by omega) (k + 1) (o ^^^ ad) (t ^^^ (o &&& ad)) (m ||| (t &&& (o &&& ad))) rfl (by omega) (by rw [ltS, if_neg h67, ← hI, e_ad] <;> rfl)
      refine j_if_ne B d_M_lit_35 rfl (fun h35 => ?_) (fun h35 => ?_)
      · -- 35 jump
        refine j_iload B d_M_lit_45 5 rfl ?_
        refine j_iconst (v := 3) B d_M_lit_47 (by decide) ?_
        refine j_iremE (v := nI (k % 3)) B (by decide) (pk_rem (a := k) (d := 3) (by omega) (by decide) (by decide)) d_M_lit_48 ?_
        refine j_iconst (v := 1) B d_M_lit_49 (by decide) ?_
        refine j_icmp_ne B d_M_lit_50 rfl (fun h50 => ?_) (fun h50 => ?_)
        · -- 50 jump
          refine j_iload B d_M_lit_58 6 rfl ?_
          refine j_iconst (v := 1) B d_M_lit_60 (by decide) ?_
          refine j_iushr B d_M_lit_61 rfl ?_
          exact j62 _ (by rw [if_neg h35, if_neg h50])
        · -- 50 on
          refine j_iload B d_M_lit_53 6 rfl ?_
          refine j_goto B d_M_lit_55 rfl ?_
          exact j62 _ (by rw [if_neg h35, if_pos h50])
      · -- 35 on
        refine j_iload B d_M_lit_38 6 rfl ?_
        refine j_iconst (v := 1) B d_M_lit_40 (by decide) ?_
        refine j_ishl B d_M_lit_41 ?_
        refine j_goto B d_M_lit_42 rfl ?_
        exact j62 _ (by rw [if_pos h35])
  exact lp10 _ 0 0 0 0 rfl (by omega) rfl
set_option maxRecDepth 100000 in
set_option maxHeartbeats 4000000 in
theorem c_M_keep {l : Launch} {b : Nat} {D : va_G} {ta : Nat → ClassId} {σ : List va_E} (hl : σ.length = 133) {wt : Int32} {F0 : Nat → Int32} {F1 : Nat → Int32} {F2 : Nat → Int32} {HH : Nat → Int32} {kt : Nat → Int32} {kp : Nat → Int32} {a : Nat} {hi : Nat} {tm : Nat} {sN : Nat} {sx : Nat → Int32} {sy : Nat → Int32} {pt : Nat → Int64} {mn : Nat → Int32} {pl : Nat → Int32} {pN : Nat} {px : Nat → Int32} {py : Nat → Int32} {sn : Nat → Int32} {lt : Nat → Int32} {rc : Nat → Int64} {tx : Nat → Int32} {sz : Nat → Int32} {us : Nat → Int32} {D0 : Nat → Int32} {D1 : Nat → Int32} {D2 : Nat → Int32} {qx : Int32} {qy : Int32} {di : Nat} {up : Bool} {dn : Nat} {be : Bool} {op : Nat} {gs : Nat → Int32} {t0 : Nat → Int32} {fr : Nat → Int32} {lf : Nat → Int32} {pX : Nat → Int32} {pY : Nat → Int32} {pD : Nat → Int32} {pU : Nat → Int32} {X : List va_E} (ha : a < 16) (hhi : hi ≤ 16) : jC l b D ta False y_M_keep b_M_keep 2 none (rL 0) [.ref (b + 133)] (σ ++ rC b ta wt F0 F1 F2 HH kt kp a hi tm sN sx sy pt mn pl pN px py sn lt rc tx sz us D0 D1 D2 qx qy di up dn be op gs t0 fr lf pX pY pD pU X) none (σ ++ rC b ta wt F0 F1 F2 HH (ktF kt a F0 F1 F2 24) (kpF kp a pl 4) ((a + 1) % 16) (khi hi) tm sN sx sy pt mn pl pN px py sn lt rc tx sz us D0 D1 D2 qx qy di up dn be op gs t0 fr lf pX pY pD pU X) := by
  refine jC_of (own := "WireFieldModel") (by decide +kernel) (Nat.le_of_ble_eq_true rfl) rfl (fun Γ B K => ?_)
  change jW l b D Γ False 0 0 2 (σ ++ rC b ta wt F0 F1 F2 HH kt kp a hi tm sN sx sy pt mn pl pN px py sn lt rc tx sz us D0 D1 D2 qx qy di up dn be op gs t0 fr lf pX pY pD pU X) [(0, .ref (b + 133))] 0 []
  refine j_iconst (v := 0) B d_M_keep_0 (by decide) ?_
  refine j_istore_n (L' := [(0, .ref (b + 133)), (1, .int 0)]) B d_M_keep_1 rfl (by decide) [1, 0] rfl ?_
  have lp2 : ∀ (n2 : Nat) (r : Nat), 24 - r = n2 → (r ≤ 24) → jW l b D Γ False 0 0 2 (σ ++ rC b ta wt F0 F1 F2 HH (ktF kt a F0 F1 F2 r) kp a hi tm sN sx sy pt mn pl pN px py sn lt rc tx sz us D0 D1 D2 qx qy di up dn be op gs t0 fr lf pX pY pD pU X) [(0, .ref (b + 133)), (1, .int (nI r))] 2 [] := by
    refine jloop (fun n2 ih2 => ?_)
    intro r hn2 hr
    refine j_iload_n B d_M_keep_2 rfl 1 rfl ?_
    refine j_bipush (v := 24) B d_M_keep_3 (by decide) ?_
    refine j_icmp_ge B d_M_keep_5 rfl (fun h5 => ?_) (fun h5 => ?_)
    · -- 5 jump
      have hr2 := lp_ge (n := 24) (by decide) hr h5
      subst hr2
      refine j_iconst (v := 0) B d_M_keep_80 (by decide) ?_
      refine j_istore_n (L' := [(0, .ref (b + 133)), (1, .int 0)]) B d_M_keep_81 rfl (by decide) [1, 0] rfl ?_
      have lp82 : ∀ (n82 : Nat) (k : Nat), 4 - k = n82 → (k ≤ 4) → jW l b D Γ False 0 0 2 (σ ++ rC b ta wt F0 F1 F2 HH (ktF kt a F0 F1 F2 24) (kpF kp a pl k) a hi tm sN sx sy pt mn pl pN px py sn lt rc tx sz us D0 D1 D2 qx qy di up dn be op gs t0 fr lf pX pY pD pU X) [(0, .ref (b + 133)), (1, .int (nI k))] 82 [] := by
        refine jloop (fun n82 ih82 => ?_)
        intro k hn82 hk
        refine j_iload_n B d_M_keep_82 rfl 1 rfl ?_
        refine j_iconst (v := 4) B d_M_keep_83 (by decide) ?_
        refine j_icmp_ge B d_M_keep_84 rfl (fun h84 => ?_) (fun h84 => ?_)
        · -- 84 jump
          have hk2 := lp_ge (n := 4) (by decide) hk h84
          subst hk2
          refine j_aload_n B d_M_keep_112 rfl 0 rfl ?_
          refine j_aload_n B d_M_keep_113 rfl 0 rfl ?_
          refine gf_M_110 B (rG (ix := 0) hl rfl) rfl d_M_keep_114 ?_
          refine j_iconst (v := 1) B d_M_keep_117 (by decide) ?_
          refine j_iaddE (v := nI (a + 1)) B (nI_add a 1) d_M_keep_118 ?_
          refine j_bipush (v := 16) B d_M_keep_119 (by decide) ?_
          refine j_iremE (v := nI ((a + 1) % 16)) B (by decide) (pk_rem (a := (a + 1)) (d := 16) (by omega) (by decide) (by decide)) d_M_keep_121 ?_
          refine pf_M_110 B not_false (rG (ix := 0) hl rfl) rfl rfl (Nat.le_of_ble_eq_true rfl) d_M_keep_122 ?_
          refine jW.heap (σ2 := σ ++ rC b ta wt F0 F1 F2 HH (ktF kt a F0 F1 F2 24) (kpF kp a pl 4) ((a + 1) % 16) hi tm sN sx sy pt mn pl pN px py sn lt rc tx sz us D0 D1 D2 qx qy di up dn be op gs t0 fr lf pX pY pD pU X) (rT (ix := 0) hl rfl) ?_
          refine j_aload_n B d_M_keep_125 rfl 0 rfl ?_
          refine j_aload_n B d_M_keep_126 rfl 0 rfl ?_
          refine gf_M_113 B (rG (ix := 0) hl rfl) rfl d_M_keep_127 ?_
          refine j_bipush (v := 16) B d_M_keep_130 (by decide) ?_
          refine j_icmp_ge B d_M_keep_132 rfl (fun h132 => ?_) (fun h132 => ?_)
          · -- 132 jump
            have hh : khi hi = 16 := if_neg (fun q => absurd h132 (nI_ge (b := 16) q (by decide)))
            refine j_bipush (v := 16) B d_M_keep_144 (by decide) ?_
            refine pf_M_113 B not_false (rG (ix := 0) hl rfl) rfl rfl (Nat.le_of_ble_eq_true rfl) d_M_keep_146 ?_
            refine jW.heap (σ2 := σ ++ rC b ta wt F0 F1 F2 HH (ktF kt a F0 F1 F2 24) (kpF kp a pl 4) ((a + 1) % 16) 16 tm sN sx sy pt mn pl pN px py sn lt rc tx sz us D0 D1 D2 qx qy di up dn be op gs t0 fr lf pX pY pD pU X) (rT (ix := 0) hl rfl) ?_
            exact j_vret B K (by rw [hh]) d_M_keep_149
          · -- 132 on
            have hh : khi hi = hi + 1 := if_pos ((Nat.lt_or_ge hi 16).elim id (fun q => absurd (nI_le (a := 16) q (by omega)) h132))
            refine j_aload_n B d_M_keep_135 rfl 0 rfl ?_
            refine gf_M_113 B (rG (ix := 0) hl rfl) rfl d_M_keep_136 ?_
            refine j_iconst (v := 1) B d_M_keep_139 (by decide) ?_
            refine j_iaddE (v := nI (hi + 1)) B (nI_add hi 1) d_M_keep_140 ?_
            refine j_goto B d_M_keep_141 rfl ?_
            refine pf_M_113 B not_false (rG (ix := 0) hl rfl) rfl rfl (Nat.le_of_ble_eq_true rfl) d_M_keep_146 ?_
            refine jW.heap (σ2 := σ ++ rC b ta wt F0 F1 F2 HH (ktF kt a F0 F1 F2 24) (kpF kp a pl 4) ((a + 1) % 16) (hi + 1) tm sN sx sy pt mn pl pN px py sn lt rc tx sz us D0 D1 D2 qx qy di up dn be op gs t0 fr lf pX pY pD pU X) (rT (ix := 0) hl rfl) ?_
            exact j_vret B K (by rw [hh]) d_M_keep_149
        · -- 84 on
          have hk2 := lp_lt (n := 4) (by decide) hk h84
          refine j_aload_n B d_M_keep_87 rfl 0 rfl ?_
          refine gf_M_25 B (rG (ix := 0) hl rfl) rfl d_M_keep_88 ?_
          refine j_iconst (v := 4) B d_M_keep_91 (by decide) ?_
          refine j_aload_n B d_M_keep_92 rfl 0 rfl ?_
          refine gf_M_110 B (rG (ix := 0) hl rfl) rfl d_M_keep_93 ?_
          refine j_imulE (v := nI (4 * a)) B (pk_mul 4 a) d_M_keep_96 ?_
          refine j_iload_n B d_M_keep_97 rfl 1 rfl ?_
          refine j_iaddE (v := nI ((4 * a) + k)) B (nI_add (4 * a) k) d_M_keep_98 ?_
          refine j_aload_n B d_M_keep_99 rfl 0 rfl ?_
          refine gf_M_41 B (rG (ix := 0) hl rfl) rfl d_M_keep_100 ?_
          refine j_iload_n B d_M_keep_103 rfl 1 rfl ?_
          refine j_ialdN B rfl (rG (ix := 11) hl rfl) (by omega) d_M_keep_104 ?_
          refine j_iastN B not_false rfl (rG (ix := 6) hl rfl) (by omega) d_M_keep_105 ?_
          refine jW.heap (σ2 := σ ++ rC b ta wt F0 F1 F2 HH (ktF kt a F0 F1 F2 24) (upd (kpF kp a pl k) ((4 * a) + k) (pl k)) a hi tm sN sx sy pt mn pl pN px py sn lt rc tx sz us D0 D1 D2 qx qy di up dn be op gs t0 fr lf pX pY pD pU X) (rT (ix := 6) hl rfl) ?_
          refine j_iinc (L' := [(0, .ref (b + 133)), (1, .int (nI (k + 1)))]) (v := nI (k + 1)) B d_M_keep_106 (k := 1) rfl (nI_succ k).symm (by decide) [1, 0] rfl ?_
          refine j_goto B d_M_keep_109 rfl ?_
          exact ih82 _ (by omega) (k + 1) rfl (by omega)
      exact lp82 _ 0 rfl (by omega)
    · -- 5 on
      have hr2 := lp_lt (n := 24) (by decide) hr h5
      refine j_aload_n B d_M_keep_8 rfl 0 rfl ?_
      refine gf_M_22 B (rG (ix := 0) hl rfl) rfl d_M_keep_9 ?_
      refine j_bipush (v := 72) B d_M_keep_12 (by decide) ?_
      refine j_aload_n B d_M_keep_14 rfl 0 rfl ?_
      refine gf_M_110 B (rG (ix := 0) hl rfl) rfl d_M_keep_15 ?_
      refine j_imulE (v := nI (72 * a)) B (pk_mul 72 a) d_M_keep_18 ?_
      refine j_iload_n B d_M_keep_19 rfl 1 rfl ?_
      refine j_iaddE (v := nI ((72 * a) + r)) B (nI_add (72 * a) r) d_M_keep_20 ?_
      refine j_aload_n B d_M_keep_21 rfl 0 rfl ?_
      refine gf_M_7 B (rG (ix := 0) hl rfl) rfl d_M_keep_22 ?_
      refine j_iload_n B d_M_keep_25 rfl 1 rfl ?_
      refine j_ialdN B rfl (rG (ix := 1) hl rfl) (by omega) d_M_keep_26 ?_
      refine j_iastN B not_false rfl (rG (ix := 5) hl rfl) (by omega) d_M_keep_27 ?_
      refine jW.heap (σ2 := σ ++ rC b ta wt F0 F1 F2 HH (upd (ktF kt a F0 F1 F2 r) ((72 * a) + r) (F0 r)) kp a hi tm sN sx sy pt mn pl pN px py sn lt rc tx sz us D0 D1 D2 qx qy di up dn be op gs t0 fr lf pX pY pD pU X) (rT (ix := 5) hl rfl) ?_
      refine j_aload_n B d_M_keep_28 rfl 0 rfl ?_
      refine gf_M_22 B (rG (ix := 0) hl rfl) rfl d_M_keep_29 ?_
      refine j_bipush (v := 72) B d_M_keep_32 (by decide) ?_
      refine j_aload_n B d_M_keep_34 rfl 0 rfl ?_
      refine gf_M_110 B (rG (ix := 0) hl rfl) rfl d_M_keep_35 ?_
      refine j_imulE (v := nI (72 * a)) B (pk_mul 72 a) d_M_keep_38 ?_
      refine j_bipush (v := 24) B d_M_keep_39 (by decide) ?_
      refine j_iaddE (v := nI ((72 * a) + 24)) B (nI_add (72 * a) 24) d_M_keep_41 ?_
      refine j_iload_n B d_M_keep_42 rfl 1 rfl ?_
      refine j_iaddE (v := nI (((72 * a) + 24) + r)) B (nI_add ((72 * a) + 24) r) d_M_keep_43 ?_
      refine j_aload_n B d_M_keep_44 rfl 0 rfl ?_
      refine gf_M_13 B (rG (ix := 0) hl rfl) rfl d_M_keep_45 ?_
      refine j_iload_n B d_M_keep_48 rfl 1 rfl ?_
      refine j_ialdN B rfl (rG (ix := 2) hl rfl) (by omega) d_M_keep_49 ?_
      refine j_iastN B not_false rfl (rG (ix := 5) hl rfl) (by omega) d_M_keep_50 ?_
      refine jW.heap (σ2 := σ ++ rC b ta wt F0 F1 F2 HH (upd (upd (ktF kt a F0 F1 F2 r) ((72 * a) + r) (F0 r)) (((72 * a) + 24) + r) (F1 r)) kp a hi tm sN sx sy pt mn pl pN px py sn lt rc tx sz us D0 D1 D2 qx qy di up dn be op gs t0 fr lf pX pY pD pU X) (rT (ix := 5) hl rfl) ?_
      refine j_aload_n B d_M_keep_51 rfl 0 rfl ?_
      refine gf_M_22 B (rG (ix := 0) hl rfl) rfl d_M_keep_52 ?_
      refine j_bipush (v := 72) B d_M_keep_55 (by decide) ?_
      refine j_aload_n B d_M_keep_57 rfl 0 rfl ?_
      refine gf_M_110 B (rG (ix := 0) hl rfl) rfl d_M_keep_58 ?_
      refine j_imulE (v := nI (72 * a)) B (pk_mul 72 a) d_M_keep_61 ?_
      refine j_bipush (v := 48) B d_M_keep_62 (by decide) ?_
      refine j_iaddE (v := nI ((72 * a) + 48)) B (nI_add (72 * a) 48) d_M_keep_64 ?_
      refine j_iload_n B d_M_keep_65 rfl 1 rfl ?_
      refine j_iaddE (v := nI (((72 * a) + 48) + r)) B (nI_add ((72 * a) + 48) r) d_M_keep_66 ?_
      refine j_aload_n B d_M_keep_67 rfl 0 rfl ?_
      refine gf_M_16 B (rG (ix := 0) hl rfl) rfl d_M_keep_68 ?_
      refine j_iload_n B d_M_keep_71 rfl 1 rfl ?_
      refine j_ialdN B rfl (rG (ix := 3) hl rfl) (by omega) d_M_keep_72 ?_
      refine j_iastN B not_false rfl (rG (ix := 5) hl rfl) (by omega) d_M_keep_73 ?_
      refine jW.heap (σ2 := σ ++ rC b ta wt F0 F1 F2 HH (upd (upd (upd (ktF kt a F0 F1 F2 r) ((72 * a) + r) (F0 r)) (((72 * a) + 24) + r) (F1 r)) (((72 * a) + 48) + r) (F2 r)) kp a hi tm sN sx sy pt mn pl pN px py sn lt rc tx sz us D0 D1 D2 qx qy di up dn be op gs t0 fr lf pX pY pD pU X) (rT (ix := 5) hl rfl) ?_
      refine j_iinc (L' := [(0, .ref (b + 133)), (1, .int (nI (r + 1)))]) (v := nI (r + 1)) B d_M_keep_74 (k := 1) rfl (nI_succ r).symm (by decide) [1, 0] rfl ?_
      refine j_goto B d_M_keep_77 rfl ?_
      exact ih2 _ (by omega) (r + 1) rfl (by omega)
  exact lp2 _ 0 rfl (by omega)
set_option maxRecDepth 100000 in
set_option maxHeartbeats 4000000 in
theorem c_M_change {l : Launch} {b : Nat} {D : va_G} {ta : Nat → ClassId} {σ : List va_E} (hl : σ.length = 133) {wt : Int32} {F0 : Nat → Int32} {F1 : Nat → Int32} {F2 : Nat → Int32} {HH : Nat → Int32} {kt : Nat → Int32} {kp : Nat → Int32} {a : Nat} {hi : Nat} {tm : Nat} {sN : Nat} {sx : Nat → Int32} {sy : Nat → Int32} {pt : Nat → Int64} {mn : Nat → Int32} {pl : Nat → Int32} {pN : Nat} {px : Nat → Int32} {py : Nat → Int32} {sn : Nat → Int32} {lt : Nat → Int32} {rc : Nat → Int64} {tx : Nat → Int32} {sz : Nat → Int32} {us : Nat → Int32} {D0 : Nat → Int32} {D1 : Nat → Int32} {D2 : Nat → Int32} {qx : Int32} {qy : Int32} {di : Nat} {up : Bool} {dn : Nat} {be : Bool} {op : Nat} {gs : Nat → Int32} {t0 : Nat → Int32} {fr : Nat → Int32} {lf : Nat → Int32} {pX : Nat → Int32} {pY : Nat → Int32} {pD : Nat → Int32} {pU : Nat → Int32} {X : List va_E} {x y v : Int32} (hin : inF x y = true) : jC l b D ta False y_M_change b_M_change 5 none (rL 0) [.ref (b + 133), .int x, .int y, .int v] (σ ++ rC b ta wt F0 F1 F2 HH kt kp a hi tm sN sx sy pt mn pl pN px py sn lt rc tx sz us D0 D1 D2 qx qy di up dn be op gs t0 fr lf pX pY pD pU X) none (σ ++ rC b ta wt (pB F0 x y v 1) (pB F1 x y v 2) (pB F2 x y v 3) HH kt kp a hi tm sN sx sy pt mn pl pN px py sn lt rc tx sz us D0 D1 D2 qx qy di up dn be op gs t0 fr lf pX pY pD pU X) := by
  refine jC_of (own := "WireFieldModel") (by decide +kernel) (Nat.le_of_ble_eq_true rfl) rfl (fun Γ B K => ?_)
  change jW l b D Γ False 0 0 5 (σ ++ rC b ta wt F0 F1 F2 HH kt kp a hi tm sN sx sy pt mn pl pN px py sn lt rc tx sz us D0 D1 D2 qx qy di up dn be op gs t0 fr lf pX pY pD pU X) [(0, .ref (b + 133)), (1, .int x), (2, .int y), (3, .int v)] 0 []
  refine j_iconst (v := 1) B d_M_change_0 (by decide) ?_
  refine j_iload_n B d_M_change_1 rfl 1 rfl ?_
  refine j_ishl B d_M_change_2 ?_
  refine j_istore (L' := [(0, .ref (b + 133)), (1, .int x), (2, .int y), (3, .int v), (4, .int (1 <<< (x &&& 31)))]) B d_M_change_3 (by decide) [1, 2, 3, 4, 0] rfl ?_
  refine j_aload_n B d_M_change_5 rfl 0 rfl ?_
  refine gf_M_7 B (rG (ix := 0) hl rfl) rfl d_M_change_6 ?_
  refine j_iload_n B d_M_change_9 rfl 2 rfl ?_
  refine j_iload_n B d_M_change_10 rfl 3 rfl ?_
  refine j_iconst (v := 1) B d_M_change_11 (by decide) ?_
  have j38 : ∀ x1 : Int32, x1 = (if v = 1 then (F0 y.toNatClampNeg) ||| (1 <<< (x &&& 31)) else (F0 y.toNatClampNeg) &&& ((1 <<< (x &&& 31)) ^^^ (-1))) → jW l b D Γ False 0 0 5 (σ ++ rC b ta wt F0 F1 F2 HH kt kp a hi tm sN sx sy pt mn pl pN px py sn lt rc tx sz us D0 D1 D2 qx qy di up dn be op gs t0 fr lf pX pY pD pU X) [(0, .ref (b + 133)), (1, .int x), (2, .int y), (3, .int v), (4, .int (1 <<< (x &&& 31)))] 38 [.int x1, .int y, .ref (b + 134)] := by
    intro x1 e_x1
    refine j_iast B not_false rfl (rG (ix := 1) hl rfl) (inF_in hin) d_M_change_38 ?_
    refine jW.heap (σ2 := σ ++ rC b ta wt (upd F0 y.toNatClampNeg x1) F1 F2 HH kt kp a hi tm sN sx sy pt mn pl pN px py sn lt rc tx sz us D0 D1 D2 qx qy di up dn be op gs t0 fr lf pX pY pD pU X) (rT (ix := 1) hl rfl) ?_
    refine j_aload_n B d_M_change_39 rfl 0 rfl ?_
    refine gf_M_13 B (rG (ix := 0) hl rfl) rfl d_M_change_40 ?_
    refine j_iload_n B d_M_change_43 rfl 2 rfl ?_
    refine j_iload_n B d_M_change_44 rfl 3 rfl ?_
    refine j_iconst (v := 2) B d_M_change_45 (by decide) ?_
    have j72 : ∀ x2 : Int32, x2 = (if v = 2 then (F1 y.toNatClampNeg) ||| (1 <<< (x &&& 31)) else (F1 y.toNatClampNeg) &&& ((1 <<< (x &&& 31)) ^^^ (-1))) → jW l b D Γ False 0 0 5 (σ ++ rC b ta wt (upd F0 y.toNatClampNeg x1) F1 F2 HH kt kp a hi tm sN sx sy pt mn pl pN px py sn lt rc tx sz us D0 D1 D2 qx qy di up dn be op gs t0 fr lf pX pY pD pU X) [(0, .ref (b + 133)), (1, .int x), (2, .int y), (3, .int v), (4, .int (1 <<< (x &&& 31)))] 72 [.int x2, .int y, .ref (b + 135)] := by
      intro x2 e_x2
      refine j_iast B not_false rfl (rG (ix := 2) hl rfl) (inF_in hin) d_M_change_72 ?_
      refine jW.heap (σ2 := σ ++ rC b ta wt (upd F0 y.toNatClampNeg x1) (upd F1 y.toNatClampNeg x2) F2 HH kt kp a hi tm sN sx sy pt mn pl pN px py sn lt rc tx sz us D0 D1 D2 qx qy di up dn be op gs t0 fr lf pX pY pD pU X) (rT (ix := 2) hl rfl) ?_
      refine j_aload_n B d_M_change_73 rfl 0 rfl ?_
      refine gf_M_16 B (rG (ix := 0) hl rfl) rfl d_M_change_74 ?_
      refine j_iload_n B d_M_change_77 rfl 2 rfl ?_
      refine j_iload_n B d_M_change_78 rfl 3 rfl ?_
      refine j_iconst (v := 3) B d_M_change_79 (by decide) ?_
      have j106 : ∀ x3 : Int32, x3 = (if v = 3 then (F2 y.toNatClampNeg) ||| (1 <<< (x &&& 31)) else (F2 y.toNatClampNeg) &&& ((1 <<< (x &&& 31)) ^^^ (-1))) → jW l b D Γ False 0 0 5 (σ ++ rC b ta wt (upd F0 y.toNatClampNeg x1) (upd F1 y.toNatClampNeg x2) F2 HH kt kp a hi tm sN sx sy pt mn pl pN px py sn lt rc tx sz us D0 D1 D2 qx qy di up dn be op gs t0 fr lf pX pY pD pU X) [(0, .ref (b + 133)), (1, .int x), (2, .int y), (3, .int v), (4, .int (1 <<< (x &&& 31)))] 106 [.int x3, .int y, .ref (b + 136)] := by
        intro x3 e_x3
        refine j_iast B not_false rfl (rG (ix := 3) hl rfl) (inF_in hin) d_M_change_106 ?_
        refine jW.heap (σ2 := σ ++ rC b ta wt (upd F0 y.toNatClampNeg x1) (upd F1 y.toNatClampNeg x2) (upd F2 y.toNatClampNeg x3) HH kt kp a hi tm sN sx sy pt mn pl pN px py sn lt rc tx sz us D0 D1 D2 qx qy di up dn be op gs t0 fr lf pX pY pD pU X) (rT (ix := 3) hl rfl) ?_
        exact j_vret B K (by subst e_x1 e_x2 e_x3; simp only [pB, hin, if_true]) d_M_change_107
      refine j_icmp_ne B d_M_change_80 rfl (fun h80 => ?_) (fun h80 => ?_)
      · -- 80 jump
        refine j_aload_n B d_M_change_95 rfl 0 rfl ?_
        refine gf_M_16 B (rG (ix := 0) hl rfl) rfl d_M_change_96 ?_
        refine j_iload_n B d_M_change_99 rfl 2 rfl ?_
        refine j_iald B rfl (rG (ix := 3) hl rfl) (inF_in hin) d_M_change_100 ?_
        refine j_iload B d_M_change_101 4 rfl ?_
        refine j_iconst (v := (-1)) B d_M_change_103 (by decide) ?_
        refine j_ixor B d_M_change_104 ?_
        refine j_iand B d_M_change_105 ?_
        exact j106 _ (by rw [if_neg h80])
      · -- 80 on
        refine j_aload_n B d_M_change_83 rfl 0 rfl ?_
        refine gf_M_16 B (rG (ix := 0) hl rfl) rfl d_M_change_84 ?_
        refine j_iload_n B d_M_change_87 rfl 2 rfl ?_
        refine j_iald B rfl (rG (ix := 3) hl rfl) (inF_in hin) d_M_change_88 ?_
        refine j_iload B d_M_change_89 4 rfl ?_
        refine j_ior B d_M_change_91 ?_
        refine j_goto B d_M_change_92 rfl ?_
        exact j106 _ (by rw [if_pos h80])
    refine j_icmp_ne B d_M_change_46 rfl (fun h46 => ?_) (fun h46 => ?_)
    · -- 46 jump
      refine j_aload_n B d_M_change_61 rfl 0 rfl ?_
      refine gf_M_13 B (rG (ix := 0) hl rfl) rfl d_M_change_62 ?_
      refine j_iload_n B d_M_change_65 rfl 2 rfl ?_
      refine j_iald B rfl (rG (ix := 2) hl rfl) (inF_in hin) d_M_change_66 ?_
      refine j_iload B d_M_change_67 4 rfl ?_
      refine j_iconst (v := (-1)) B d_M_change_69 (by decide) ?_
      refine j_ixor B d_M_change_70 ?_
      refine j_iand B d_M_change_71 ?_
      exact j72 _ (by rw [if_neg h46])
    · -- 46 on
      refine j_aload_n B d_M_change_49 rfl 0 rfl ?_
      refine gf_M_13 B (rG (ix := 0) hl rfl) rfl d_M_change_50 ?_
      refine j_iload_n B d_M_change_53 rfl 2 rfl ?_
      refine j_iald B rfl (rG (ix := 2) hl rfl) (inF_in hin) d_M_change_54 ?_
      refine j_iload B d_M_change_55 4 rfl ?_
      refine j_ior B d_M_change_57 ?_
      refine j_goto B d_M_change_58 rfl ?_
      exact j72 _ (by rw [if_pos h46])
  refine j_icmp_ne B d_M_change_12 rfl (fun h12 => ?_) (fun h12 => ?_)
  · -- 12 jump
    refine j_aload_n B d_M_change_27 rfl 0 rfl ?_
    refine gf_M_7 B (rG (ix := 0) hl rfl) rfl d_M_change_28 ?_
    refine j_iload_n B d_M_change_31 rfl 2 rfl ?_
    refine j_iald B rfl (rG (ix := 1) hl rfl) (inF_in hin) d_M_change_32 ?_
    refine j_iload B d_M_change_33 4 rfl ?_
    refine j_iconst (v := (-1)) B d_M_change_35 (by decide) ?_
    refine j_ixor B d_M_change_36 ?_
    refine j_iand B d_M_change_37 ?_
    exact j38 _ (by rw [if_neg h12])
  · -- 12 on
    refine j_aload_n B d_M_change_15 rfl 0 rfl ?_
    refine gf_M_7 B (rG (ix := 0) hl rfl) rfl d_M_change_16 ?_
    refine j_iload_n B d_M_change_19 rfl 2 rfl ?_
    refine j_iald B rfl (rG (ix := 1) hl rfl) (inF_in hin) d_M_change_20 ?_
    refine j_iload B d_M_change_21 4 rfl ?_
    refine j_ior B d_M_change_23 ?_
    refine j_goto B d_M_change_24 rfl ?_
    exact j38 _ (by rw [if_pos h12])
set_option maxRecDepth 100000 in
set_option maxHeartbeats 4000000 in
theorem c_M_set_t {l : Launch} {b : Nat} {D : va_G} {ta : Nat → ClassId} {σ : List va_E} (hl : σ.length = 133) {wt : Int32} {F0 : Nat → Int32} {F1 : Nat → Int32} {F2 : Nat → Int32} {HH : Nat → Int32} {kt : Nat → Int32} {kp : Nat → Int32} {a : Nat} {hi : Nat} {tm : Nat} {sN : Nat} {sx : Nat → Int32} {sy : Nat → Int32} {pt : Nat → Int64} {mn : Nat → Int32} {pl : Nat → Int32} {pN : Nat} {px : Nat → Int32} {py : Nat → Int32} {sn : Nat → Int32} {lt : Nat → Int32} {rc : Nat → Int64} {tx : Nat → Int32} {sz : Nat → Int32} {us : Nat → Int32} {D0 : Nat → Int32} {D1 : Nat → Int32} {D2 : Nat → Int32} {qx : Int32} {qy : Int32} {di : Nat} {up : Bool} {dn : Nat} {be : Bool} {op : Nat} {gs : Nat → Int32} {t0 : Nat → Int32} {fr : Nat → Int32} {lf : Nat → Int32} {pX : Nat → Int32} {pY : Nat → Int32} {pD : Nat → Int32} {pU : Nat → Int32} {X : List va_E} {x y v : Int32} (hin : inF x y = true) (h0 : ¬ v < 0) (h3 : v ≤ 3) : jC l b D ta False y_M_set b_M_set 4 (some .boolean) (rL 1) [.ref (b + 133), .int x, .int y, .int v] (σ ++ rC b ta wt F0 F1 F2 HH kt kp a hi tm sN sx sy pt mn pl pN px py sn lt rc tx sz us D0 D1 D2 qx qy di up dn be op gs t0 fr lf pX pY pD pU X) (some (.int 1)) (σ ++ rC b ta 0 (pB F0 x y v 1) (pB F1 x y v 2) (pB F2 x y v 3) HH kt kp a 0 tm sN sx sy pt mn pl pN px py sn lt rc tx sz us D0 D1 D2 qx qy di up dn be op gs t0 fr lf pX pY pD pU X) := by
  refine jC_of (own := "WireFieldModel") (by decide +kernel) (Nat.le_of_ble_eq_true rfl) rfl (fun Γ B K => ?_)
  change jW l b D Γ False 0 0 4 (σ ++ rC b ta wt F0 F1 F2 HH kt kp a hi tm sN sx sy pt mn pl pN px py sn lt rc tx sz us D0 D1 D2 qx qy di up dn be op gs t0 fr lf pX pY pD pU X) [(0, .ref (b + 133)), (1, .int x), (2, .int y), (3, .int v)] 0 []
  refine j_aload_n B d_M_set_0 rfl 0 rfl ?_
  refine j_iconst (v := 0) B d_M_set_1 (by decide) ?_
  refine pf_M_102 B not_false (rG (ix := 0) hl rfl) rfl rfl (Nat.le_of_ble_eq_true rfl) d_M_set_2 ?_
  refine jW.heap (σ2 := σ ++ rC b ta 0 F0 F1 F2 HH kt kp a hi tm sN sx sy pt mn pl pN px py sn lt rc tx sz us D0 D1 D2 qx qy di up dn be op gs t0 fr lf pX pY pD pU X) (rT (ix := 0) hl rfl) ?_
  refine j_iload_n B d_M_set_5 rfl 1 rfl ?_
  refine j_iload_n B d_M_set_6 rfl 2 rfl ?_
  refine k_callS (as := [.int x, .int y]) (rest := []) (st1 := [.int (bI (inF x y))]) B (c_M_is x y) yf_M_is w_899 w_900 rfl (by decide) (by decide) rfl rfl (Nat.le_of_ble_eq_true rfl) d_M_set_7 ?_
  refine j_if_eq B d_M_set_10 rfl (fun h10 => absurd (bI_f h10) (by rw [hin]; decide)) (fun h10 => ?_)
  refine j_iload_n B d_M_set_13 rfl 3 rfl ?_
  refine j_if_lt B d_M_set_14 rfl (fun h14 => absurd h14 h0) (fun h14 => ?_)
  refine j_iload_n B d_M_set_17 rfl 3 rfl ?_
  refine j_iconst (v := 3) B d_M_set_18 (by decide) ?_
  refine j_icmp_le B d_M_set_19 rfl (fun h19 => ?_) (fun h19 => absurd h3 h19)
  refine j_aload_n B d_M_set_24 rfl 0 rfl ?_
  refine j_iload_n B d_M_set_25 rfl 1 rfl ?_
  refine j_iload_n B d_M_set_26 rfl 2 rfl ?_
  refine j_iload_n B d_M_set_27 rfl 3 rfl ?_
  refine k_callV (as := [.int x, .int y, .int v]) (rest := []) (st1 := []) B (c_M_change hl hin) yf_M_change w_952 w_954 w_s40 rfl (rG (ix := 0) hl rfl) rfl (by decide) (by decide) rfl rfl (Nat.le_of_ble_eq_true rfl) d_M_set_28 ?_
  refine j_aload_n B d_M_set_31 rfl 0 rfl ?_
  refine j_iconst (v := 0) B d_M_set_32 (by decide) ?_
  refine pf_M_113 B not_false (rG (ix := 0) hl rfl) rfl rfl (Nat.le_of_ble_eq_true rfl) d_M_set_33 ?_
  refine jW.heap (σ2 := σ ++ rC b ta 0 (pB F0 x y v 1) (pB F1 x y v 2) (pB F2 x y v 3) HH kt kp a 0 tm sN sx sy pt mn pl pN px py sn lt rc tx sz us D0 D1 D2 qx qy di up dn be op gs t0 fr lf pX pY pD pU X) (rT (ix := 0) hl rfl) ?_
  refine j_iconst (v := 1) B d_M_set_36 (by decide) ?_
  exact j_zret B K (by decide) rfl rfl d_M_set_37
set_option maxRecDepth 100000 in
set_option maxHeartbeats 4000000 in
theorem c_M_set_f {l : Launch} {b : Nat} {D : va_G} {ta : Nat → ClassId} {σ : List va_E} (hl : σ.length = 133) {wt : Int32} {F0 : Nat → Int32} {F1 : Nat → Int32} {F2 : Nat → Int32} {HH : Nat → Int32} {kt : Nat → Int32} {kp : Nat → Int32} {a : Nat} {hi : Nat} {tm : Nat} {sN : Nat} {sx : Nat → Int32} {sy : Nat → Int32} {pt : Nat → Int64} {mn : Nat → Int32} {pl : Nat → Int32} {pN : Nat} {px : Nat → Int32} {py : Nat → Int32} {sn : Nat → Int32} {lt : Nat → Int32} {rc : Nat → Int64} {tx : Nat → Int32} {sz : Nat → Int32} {us : Nat → Int32} {D0 : Nat → Int32} {D1 : Nat → Int32} {D2 : Nat → Int32} {qx : Int32} {qy : Int32} {di : Nat} {up : Bool} {dn : Nat} {be : Bool} {op : Nat} {gs : Nat → Int32} {t0 : Nat → Int32} {fr : Nat → Int32} {lf : Nat → Int32} {pX : Nat → Int32} {pY : Nat → Int32} {pD : Nat → Int32} {pU : Nat → Int32} {X : List va_E} {x y v : Int32} (hf : ¬ (inF x y = true ∧ ¬ v < 0 ∧ v ≤ 3)) : jC l b D ta False y_M_set b_M_set 4 (some .boolean) (rL 1) [.ref (b + 133), .int x, .int y, .int v] (σ ++ rC b ta wt F0 F1 F2 HH kt kp a hi tm sN sx sy pt mn pl pN px py sn lt rc tx sz us D0 D1 D2 qx qy di up dn be op gs t0 fr lf pX pY pD pU X) (some (.int 0)) (σ ++ rC b ta 0 F0 F1 F2 HH kt kp a hi tm sN sx sy pt mn pl pN px py sn lt rc tx sz us D0 D1 D2 qx qy di up dn be op gs t0 fr lf pX pY pD pU X) := by
  refine jC_of (own := "WireFieldModel") (by decide +kernel) (Nat.le_of_ble_eq_true rfl) rfl (fun Γ B K => ?_)
  change jW l b D Γ False 0 0 4 (σ ++ rC b ta wt F0 F1 F2 HH kt kp a hi tm sN sx sy pt mn pl pN px py sn lt rc tx sz us D0 D1 D2 qx qy di up dn be op gs t0 fr lf pX pY pD pU X) [(0, .ref (b + 133)), (1, .int x), (2, .int y), (3, .int v)] 0 []
  refine j_aload_n B d_M_set_0 rfl 0 rfl ?_
  refine j_iconst (v := 0) B d_M_set_1 (by decide) ?_
  refine pf_M_102 B not_false (rG (ix := 0) hl rfl) rfl rfl (Nat.le_of_ble_eq_true rfl) d_M_set_2 ?_
  refine jW.heap (σ2 := σ ++ rC b ta 0 F0 F1 F2 HH kt kp a hi tm sN sx sy pt mn pl pN px py sn lt rc tx sz us D0 D1 D2 qx qy di up dn be op gs t0 fr lf pX pY pD pU X) (rT (ix := 0) hl rfl) ?_
  refine j_iload_n B d_M_set_5 rfl 1 rfl ?_
  refine j_iload_n B d_M_set_6 rfl 2 rfl ?_
  refine k_callS (as := [.int x, .int y]) (rest := []) (st1 := [.int (bI (inF x y))]) B (c_M_is x y) yf_M_is w_899 w_900 rfl (by decide) (by decide) rfl rfl (Nat.le_of_ble_eq_true rfl) d_M_set_7 ?_
  refine j_if_eq B d_M_set_10 rfl (fun h10 => ?_) (fun h10 => ?_)
  · -- 10 jump
    replace h10 := bI_f h10
    refine j_iconst (v := 0) B d_M_set_22 (by decide) ?_
    exact j_zret B K (by decide) rfl rfl d_M_set_23
  · -- 10 on
    replace h10 := bI_t h10
    refine j_iload_n B d_M_set_13 rfl 3 rfl ?_
    refine j_if_lt B d_M_set_14 rfl (fun h14 => ?_) (fun h14 => ?_)
    · -- 14 jump
      refine j_iconst (v := 0) B d_M_set_22 (by decide) ?_
      exact j_zret B K (by decide) rfl rfl d_M_set_23
    · -- 14 on
      refine j_iload_n B d_M_set_17 rfl 3 rfl ?_
      refine j_iconst (v := 3) B d_M_set_18 (by decide) ?_
      refine j_icmp_le B d_M_set_19 rfl (fun h19 => ?_) (fun h19 => ?_)
      · -- 19 jump
        exact absurd ⟨h10, h14, h19⟩ hf
      · -- 19 on
        refine j_iconst (v := 0) B d_M_set_22 (by decide) ?_
        exact j_zret B K (by decide) rfl rfl d_M_set_23
set_option maxRecDepth 100000 in
set_option maxHeartbeats 4000000 in
theorem c_M_cell {l : Launch} {b : Nat} {D : va_G} {ta : Nat → ClassId} {σ : List va_E} (hl : σ.length = 133) {wt : Int32} {F0 : Nat → Int32} {F1 : Nat → Int32} {F2 : Nat → Int32} {HH : Nat → Int32} {kt : Nat → Int32} {kp : Nat → Int32} {a : Nat} {hi : Nat} {tm : Nat} {sN : Nat} {sx : Nat → Int32} {sy : Nat → Int32} {pt : Nat → Int64} {mn : Nat → Int32} {pl : Nat → Int32} {pN : Nat} {px : Nat → Int32} {py : Nat → Int32} {sn : Nat → Int32} {lt : Nat → Int32} {rc : Nat → Int64} {tx : Nat → Int32} {sz : Nat → Int32} {us : Nat → Int32} {D0 : Nat → Int32} {D1 : Nat → Int32} {D2 : Nat → Int32} {qx : Int32} {qy : Int32} {di : Nat} {up : Bool} {dn : Nat} {be : Bool} {op : Nat} {gs : Nat → Int32} {t0 : Nat → Int32} {fr : Nat → Int32} {lf : Nat → Int32} {pX : Nat → Int32} {pY : Nat → Int32} {pD : Nat → Int32} {pU : Nat → Int32} {X : List va_E} (x y : Int32) : jC l b D ta False y_M_cell b_M_cell 3 (some .int) (rL 1) [.ref (b + 133), .int x, .int y] (σ ++ rC b ta wt F0 F1 F2 HH kt kp a hi tm sN sx sy pt mn pl pN px py sn lt rc tx sz us D0 D1 D2 qx qy di up dn be op gs t0 fr lf pX pY pD pU X) (some (.int (if inF x y = true then cvR F0 F1 F2 x y else -1))) (σ ++ rC b ta 0 F0 F1 F2 HH kt kp a hi tm sN sx sy pt mn pl pN px py sn lt rc tx sz us D0 D1 D2 qx qy di up dn be op gs t0 fr lf pX pY pD pU X) := by
  refine jC_of (own := "WireFieldModel") (by decide +kernel) (Nat.le_of_ble_eq_true rfl) rfl (fun Γ B K => ?_)
  change jW l b D Γ False 0 0 3 (σ ++ rC b ta wt F0 F1 F2 HH kt kp a hi tm sN sx sy pt mn pl pN px py sn lt rc tx sz us D0 D1 D2 qx qy di up dn be op gs t0 fr lf pX pY pD pU X) [(0, .ref (b + 133)), (1, .int x), (2, .int y)] 0 []
  refine j_aload_n B d_M_cell_0 rfl 0 rfl ?_
  refine j_iconst (v := 0) B d_M_cell_1 (by decide) ?_
  refine pf_M_102 B not_false (rG (ix := 0) hl rfl) rfl rfl (Nat.le_of_ble_eq_true rfl) d_M_cell_2 ?_
  refine jW.heap (σ2 := σ ++ rC b ta 0 F0 F1 F2 HH kt kp a hi tm sN sx sy pt mn pl pN px py sn lt rc tx sz us D0 D1 D2 qx qy di up dn be op gs t0 fr lf pX pY pD pU X) (rT (ix := 0) hl rfl) ?_
  refine j_iload_n B d_M_cell_5 rfl 1 rfl ?_
  refine j_iload_n B d_M_cell_6 rfl 2 rfl ?_
  refine k_callS (as := [.int x, .int y]) (rest := []) (st1 := [.int (bI (inF x y))]) B (c_M_is x y) yf_M_is w_899 w_900 rfl (by decide) (by decide) rfl rfl (Nat.le_of_ble_eq_true rfl) d_M_cell_7 ?_
  refine j_if_eq B d_M_cell_10 rfl (fun h10 => ?_) (fun h10 => ?_)
  · -- 10 jump
    replace h10 := bI_f h10
    refine j_iconst (v := (-1)) B d_M_cell_52 (by decide) ?_
    exact j_iret B K (by first | exact (if_pos h10).symm | exact (if_neg (bF h10)).symm) rfl d_M_cell_53
  · -- 10 on
    replace h10 := bI_t h10
    refine j_aload_n B d_M_cell_13 rfl 0 rfl ?_
    refine gf_M_7 B (rG (ix := 0) hl rfl) rfl d_M_cell_14 ?_
    refine j_iload_n B d_M_cell_17 rfl 2 rfl ?_
    refine j_iald B rfl (rG (ix := 1) hl rfl) (inF_in h10) d_M_cell_18 ?_
    refine j_iload_n B d_M_cell_19 rfl 1 rfl ?_
    refine k_callS (as := [.int (F0 y.toNatClampNeg), .int x]) (rest := []) (st1 := [.int (btR (F0 y.toNatClampNeg) x)]) B (c_M_bit (F0 y.toNatClampNeg) x) yf_M_bit w_853 w_854 rfl (by decide) (by decide) rfl rfl (Nat.le_of_ble_eq_true rfl) d_M_cell_20 ?_
    refine j_iconst (v := 2) B d_M_cell_23 (by decide) ?_
    refine j_aload_n B d_M_cell_24 rfl 0 rfl ?_
    refine gf_M_13 B (rG (ix := 0) hl rfl) rfl d_M_cell_25 ?_
    refine j_iload_n B d_M_cell_28 rfl 2 rfl ?_
    refine j_iald B rfl (rG (ix := 2) hl rfl) (inF_in h10) d_M_cell_29 ?_
    refine j_iload_n B d_M_cell_30 rfl 1 rfl ?_
    refine k_callS (as := [.int (F1 y.toNatClampNeg), .int x]) (rest := [.int 2, .int (btR (F0 y.toNatClampNeg) x)]) (st1 := [.int (btR (F1 y.toNatClampNeg) x), .int 2, .int (btR (F0 y.toNatClampNeg) x)]) B (c_M_bit (F1 y.toNatClampNeg) x) yf_M_bit w_853 w_854 rfl (by decide) (by decide) rfl rfl (Nat.le_of_ble_eq_true rfl) d_M_cell_31 ?_
    refine j_imul B d_M_cell_34 ?_
    refine j_iadd B d_M_cell_35 ?_
    refine j_iconst (v := 3) B d_M_cell_36 (by decide) ?_
    refine j_aload_n B d_M_cell_37 rfl 0 rfl ?_
    refine gf_M_16 B (rG (ix := 0) hl rfl) rfl d_M_cell_38 ?_
    refine j_iload_n B d_M_cell_41 rfl 2 rfl ?_
    refine j_iald B rfl (rG (ix := 3) hl rfl) (inF_in h10) d_M_cell_42 ?_
    refine j_iload_n B d_M_cell_43 rfl 1 rfl ?_
    refine k_callS (as := [.int (F2 y.toNatClampNeg), .int x]) (rest := [.int 3, .int ((btR (F0 y.toNatClampNeg) x) + (2 * (btR (F1 y.toNatClampNeg) x)))]) (st1 := [.int (btR (F2 y.toNatClampNeg) x), .int 3, .int ((btR (F0 y.toNatClampNeg) x) + (2 * (btR (F1 y.toNatClampNeg) x)))]) B (c_M_bit (F2 y.toNatClampNeg) x) yf_M_bit w_853 w_854 rfl (by decide) (by decide) rfl rfl (Nat.le_of_ble_eq_true rfl) d_M_cell_44 ?_
    refine j_imul B d_M_cell_47 ?_
    refine j_iadd B d_M_cell_48 ?_
    refine j_goto B d_M_cell_49 rfl ?_
    exact j_iret B K (by first | exact (if_pos h10).symm | exact (if_neg (bF h10)).symm) rfl d_M_cell_53
