set_option maxRecDepth 100000 in
set_option maxHeartbeats 4000000 in
theorem c_M_type_t {l : Launch} {b : Nat} {D : va_G} {ta : Nat → ClassId} {σ : List va_E} (hl : σ.length = 133) {wt : Int32} {F0 : Nat → Int32} {F1 : Nat → Int32} {F2 : Nat → Int32} {HH : Nat → Int32} {kt : Nat → Int32} {kp : Nat → Int32} {a : Nat} {hi : Nat} {tm : Nat} {sN : Nat} {sx : Nat → Int32} {sy : Nat → Int32} {pt : Nat → Int64} {mn : Nat → Int32} {pl : Nat → Int32} {pN : Nat} {px : Nat → Int32} {py : Nat → Int32} {sn : Nat → Int32} {lt : Nat → Int32} {rc : Nat → Int64} {tx : Nat → Int32} {sz : Nat → Int32} {us : Nat → Int32} {D0 : Nat → Int32} {D1 : Nat → Int32} {D2 : Nat → Int32} {qx : Int32} {qy : Int32} {di : Nat} {up : Bool} {dn : Nat} {be : Bool} {op : Nat} {gs : Nat → Int32} {t0 : Nat → Int32} {fr : Nat → Int32} {lf : Nat → Int32} {pX : Nat → Int32} {pY : Nat → Int32} {pD : Nat → Int32} {pU : Nat → Int32} {X : List va_E} {C N : Nat} (h33 : 33 ≤ C) (h126 : C ≤ 126) (hsz : sz 4 = nI N) (hN : N < 60) : jC l b D ta False y_M_type b_M_type 2 (some .boolean) (rL 0) [.ref (b + 133), .int (nI C)] (σ ++ rC b ta wt F0 F1 F2 HH kt kp a hi tm sN sx sy pt mn pl pN px py sn lt rc tx sz us D0 D1 D2 qx qy di up dn be op gs t0 fr lf pX pY pD pU X) (some (.int 1)) (σ ++ rC b ta 0 F0 F1 F2 HH kt kp a hi tm sN sx sy pt mn pl pN px py sn lt rc (upd tx (240 + N) (nI C)) (upd sz 4 (nI (N + 1))) us D0 D1 D2 qx qy di up dn be op gs t0 fr lf pX pY pD pU X) := by
  refine jC_of (own := "WireFieldModel") (by decide +kernel) (Nat.le_of_ble_eq_true rfl) rfl (fun Γ B K => ?_)
  change jW l b D Γ False 0 0 2 (σ ++ rC b ta wt F0 F1 F2 HH kt kp a hi tm sN sx sy pt mn pl pN px py sn lt rc tx sz us D0 D1 D2 qx qy di up dn be op gs t0 fr lf pX pY pD pU X) [(0, .ref (b + 133)), (1, .int (nI C))] 0 []
  refine j_aload_n B d_M_type_0 rfl 0 rfl ?_
  refine j_iconst (v := 0) B d_M_type_1 (by decide) ?_
  refine pf_M_102 B not_false (rG (ix := 0) hl rfl) rfl rfl (Nat.le_of_ble_eq_true rfl) d_M_type_2 ?_
  refine jW.heap (σ2 := σ ++ rC b ta 0 F0 F1 F2 HH kt kp a hi tm sN sx sy pt mn pl pN px py sn lt rc tx sz us D0 D1 D2 qx qy di up dn be op gs t0 fr lf pX pY pD pU X) (rT (ix := 0) hl rfl) ?_
  refine j_iload_n B d_M_type_5 rfl 1 rfl ?_
  refine j_bipush (v := 33) B d_M_type_6 (by decide) ?_
  refine j_icmp_lt B d_M_type_8 rfl (fun h8 => absurd h8 (nI_nlt (a := C) (b := 33) h33 (by omega))) (fun h8 => ?_)
  refine j_iload_n B d_M_type_11 rfl 1 rfl ?_
  refine j_bipush (v := 126) B d_M_type_12 (by decide) ?_
  refine j_icmp_gt B d_M_type_14 rfl (fun h14 => absurd h14 (nI_nlt (a := 126) (b := C) h126 (by decide))) (fun h14 => ?_)
  refine j_aload_n B d_M_type_17 rfl 0 rfl ?_
  refine gf_M_62 B (rG (ix := 0) hl rfl) rfl d_M_type_18 ?_
  refine j_iconst (v := nI 4) B d_M_type_21 (by decide) ?_
  refine j_ialdN B rfl (rG (ix := 18) hl rfl) (by omega) d_M_type_22 ?_
  rw [hsz]
  refine j_bipush (v := 60) B d_M_type_23 (by decide) ?_
  refine j_icmp_ne B d_M_type_25 rfl (fun h25 => ?_) (fun h25 => absurd ((nI_eq (b := 60) (by omega) (by decide)).mp h25) (by omega))
  refine j_aload_n B d_M_type_30 rfl 0 rfl ?_
  refine gf_M_59 B (rG (ix := 0) hl rfl) rfl d_M_type_31 ?_
  refine j_sipush (v := 240) B d_M_type_34 (by decide) ?_
  refine j_aload_n B d_M_type_37 rfl 0 rfl ?_
  refine gf_M_62 B (rG (ix := 0) hl rfl) rfl d_M_type_38 ?_
  refine j_iconst (v := nI 4) B d_M_type_41 (by decide) ?_
  refine j_ialdN B rfl (rG (ix := 18) hl rfl) (by omega) d_M_type_42 ?_
  rw [hsz]
  refine j_iaddE (v := nI (240 + N)) B (nI_add 240 N) d_M_type_43 ?_
  refine j_iload_n B d_M_type_44 rfl 1 rfl ?_
  refine j_iastN B not_false rfl (rG (ix := 17) hl rfl) (by omega) d_M_type_45 ?_
  refine jW.heap (σ2 := σ ++ rC b ta 0 F0 F1 F2 HH kt kp a hi tm sN sx sy pt mn pl pN px py sn lt rc (upd tx (240 + N) (nI C)) sz us D0 D1 D2 qx qy di up dn be op gs t0 fr lf pX pY pD pU X) (rT (ix := 17) hl rfl) ?_
  refine j_aload_n B d_M_type_46 rfl 0 rfl ?_
  refine gf_M_62 B (rG (ix := 0) hl rfl) rfl d_M_type_47 ?_
  refine j_iconst (v := nI 4) B d_M_type_50 (by decide) ?_
  refine j_dup2 B d_M_type_51 rfl rfl ?_
  refine j_ialdN B rfl (rG (ix := 18) hl rfl) (by omega) d_M_type_52 ?_
  rw [hsz]
  refine j_iconst (v := 1) B d_M_type_53 (by decide) ?_
  refine j_iaddE (v := nI (N + 1)) B (nI_add N 1) d_M_type_54 ?_
  refine j_iastN B not_false rfl (rG (ix := 18) hl rfl) (by omega) d_M_type_55 ?_
  refine jW.heap (σ2 := σ ++ rC b ta 0 F0 F1 F2 HH kt kp a hi tm sN sx sy pt mn pl pN px py sn lt rc (upd tx (240 + N) (nI C)) (upd sz 4 (nI (N + 1))) us D0 D1 D2 qx qy di up dn be op gs t0 fr lf pX pY pD pU X) (rT (ix := 18) hl rfl) ?_
  refine j_iconst (v := 1) B d_M_type_56 (by decide) ?_
  exact j_zret B K (by decide) rfl rfl d_M_type_57
set_option maxRecDepth 100000 in
set_option maxHeartbeats 4000000 in
theorem c_M_type_f {l : Launch} {b : Nat} {D : va_G} {ta : Nat → ClassId} {σ : List va_E} (hl : σ.length = 133) {wt : Int32} {F0 : Nat → Int32} {F1 : Nat → Int32} {F2 : Nat → Int32} {HH : Nat → Int32} {kt : Nat → Int32} {kp : Nat → Int32} {a : Nat} {hi : Nat} {tm : Nat} {sN : Nat} {sx : Nat → Int32} {sy : Nat → Int32} {pt : Nat → Int64} {mn : Nat → Int32} {pl : Nat → Int32} {pN : Nat} {px : Nat → Int32} {py : Nat → Int32} {sn : Nat → Int32} {lt : Nat → Int32} {rc : Nat → Int64} {tx : Nat → Int32} {sz : Nat → Int32} {us : Nat → Int32} {D0 : Nat → Int32} {D1 : Nat → Int32} {D2 : Nat → Int32} {qx : Int32} {qy : Int32} {di : Nat} {up : Bool} {dn : Nat} {be : Bool} {op : Nat} {gs : Nat → Int32} {t0 : Nat → Int32} {fr : Nat → Int32} {lf : Nat → Int32} {pX : Nat → Int32} {pY : Nat → Int32} {pD : Nat → Int32} {pU : Nat → Int32} {X : List va_E} {cc : Int32} (hc : cc < 33 ∨ 126 < cc ∨ sz 4 = 60) : jC l b D ta False y_M_type b_M_type 2 (some .boolean) (rL 0) [.ref (b + 133), .int cc] (σ ++ rC b ta wt F0 F1 F2 HH kt kp a hi tm sN sx sy pt mn pl pN px py sn lt rc tx sz us D0 D1 D2 qx qy di up dn be op gs t0 fr lf pX pY pD pU X) (some (.int 0)) (σ ++ rC b ta 0 F0 F1 F2 HH kt kp a hi tm sN sx sy pt mn pl pN px py sn lt rc tx sz us D0 D1 D2 qx qy di up dn be op gs t0 fr lf pX pY pD pU X) := by
  refine jC_of (own := "WireFieldModel") (by decide +kernel) (Nat.le_of_ble_eq_true rfl) rfl (fun Γ B K => ?_)
  change jW l b D Γ False 0 0 2 (σ ++ rC b ta wt F0 F1 F2 HH kt kp a hi tm sN sx sy pt mn pl pN px py sn lt rc tx sz us D0 D1 D2 qx qy di up dn be op gs t0 fr lf pX pY pD pU X) [(0, .ref (b + 133)), (1, .int cc)] 0 []
  refine j_aload_n B d_M_type_0 rfl 0 rfl ?_
  refine j_iconst (v := 0) B d_M_type_1 (by decide) ?_
  refine pf_M_102 B not_false (rG (ix := 0) hl rfl) rfl rfl (Nat.le_of_ble_eq_true rfl) d_M_type_2 ?_
  refine jW.heap (σ2 := σ ++ rC b ta 0 F0 F1 F2 HH kt kp a hi tm sN sx sy pt mn pl pN px py sn lt rc tx sz us D0 D1 D2 qx qy di up dn be op gs t0 fr lf pX pY pD pU X) (rT (ix := 0) hl rfl) ?_
  refine j_iload_n B d_M_type_5 rfl 1 rfl ?_
  refine j_bipush (v := 33) B d_M_type_6 (by decide) ?_
  refine j_icmp_lt B d_M_type_8 rfl (fun h8 => ?_) (fun h8 => ?_)
  · -- 8 jump
    refine j_iconst (v := 0) B d_M_type_28 (by decide) ?_
    exact j_zret B K (by decide) rfl rfl d_M_type_29
  · -- 8 on
    refine j_iload_n B d_M_type_11 rfl 1 rfl ?_
    refine j_bipush (v := 126) B d_M_type_12 (by decide) ?_
    refine j_icmp_gt B d_M_type_14 rfl (fun h14 => ?_) (fun h14 => ?_)
    · -- 14 jump
      refine j_iconst (v := 0) B d_M_type_28 (by decide) ?_
      exact j_zret B K (by decide) rfl rfl d_M_type_29
    · -- 14 on
      refine j_aload_n B d_M_type_17 rfl 0 rfl ?_
      refine gf_M_62 B (rG (ix := 0) hl rfl) rfl d_M_type_18 ?_
      refine j_iconst (v := nI 4) B d_M_type_21 (by decide) ?_
      refine j_ialdN B rfl (rG (ix := 18) hl rfl) (by omega) d_M_type_22 ?_
      refine j_bipush (v := 60) B d_M_type_23 (by decide) ?_
      refine j_icmp_ne B d_M_type_25 rfl (fun h25 => ?_) (fun h25 => ?_)
      · -- 25 jump
        exact absurd hc (fun q => q.elim h8 (fun q => q.elim h14 h25))
      · -- 25 on
        refine j_iconst (v := 0) B d_M_type_28 (by decide) ?_
        exact j_zret B K (by decide) rfl rfl d_M_type_29
set_option maxRecDepth 100000 in
set_option maxHeartbeats 4000000 in
theorem c_M_wipe {l : Launch} {b : Nat} {D : va_G} {ta : Nat → ClassId} {σ : List va_E} (hl : σ.length = 133) {wt : Int32} {F0 : Nat → Int32} {F1 : Nat → Int32} {F2 : Nat → Int32} {HH : Nat → Int32} {kt : Nat → Int32} {kp : Nat → Int32} {a : Nat} {hi : Nat} {tm : Nat} {sN : Nat} {sx : Nat → Int32} {sy : Nat → Int32} {pt : Nat → Int64} {mn : Nat → Int32} {pl : Nat → Int32} {pN : Nat} {px : Nat → Int32} {py : Nat → Int32} {sn : Nat → Int32} {lt : Nat → Int32} {rc : Nat → Int64} {tx : Nat → Int32} {sz : Nat → Int32} {us : Nat → Int32} {D0 : Nat → Int32} {D1 : Nat → Int32} {D2 : Nat → Int32} {qx : Int32} {qy : Int32} {di : Nat} {up : Bool} {dn : Nat} {be : Bool} {op : Nat} {gs : Nat → Int32} {t0 : Nat → Int32} {fr : Nat → Int32} {lf : Nat → Int32} {pX : Nat → Int32} {pY : Nat → Int32} {pD : Nat → Int32} {pU : Nat → Int32} {X : List va_E} : jC l b D ta False y_M_wipe b_M_wipe 1 none (rL 0) [.ref (b + 133)] (σ ++ rC b ta wt F0 F1 F2 HH kt kp a hi tm sN sx sy pt mn pl pN px py sn lt rc tx sz us D0 D1 D2 qx qy di up dn be op gs t0 fr lf pX pY pD pU X) none (σ ++ rC b ta 0 F0 F1 F2 HH kt kp a hi tm sN sx sy pt mn pl pN px py sn lt rc tx (upd sz 4 0) us D0 D1 D2 qx qy di up dn be op gs t0 fr lf pX pY pD pU X) := by
  refine jC_of (own := "WireFieldModel") (by decide +kernel) (Nat.le_of_ble_eq_true rfl) rfl (fun Γ B K => ?_)
  change jW l b D Γ False 0 0 1 (σ ++ rC b ta wt F0 F1 F2 HH kt kp a hi tm sN sx sy pt mn pl pN px py sn lt rc tx sz us D0 D1 D2 qx qy di up dn be op gs t0 fr lf pX pY pD pU X) [(0, .ref (b + 133))] 0 []
  refine j_aload_n B d_M_wipe_0 rfl 0 rfl ?_
  refine j_iconst (v := 0) B d_M_wipe_1 (by decide) ?_
  refine pf_M_102 B not_false (rG (ix := 0) hl rfl) rfl rfl (Nat.le_of_ble_eq_true rfl) d_M_wipe_2 ?_
  refine jW.heap (σ2 := σ ++ rC b ta 0 F0 F1 F2 HH kt kp a hi tm sN sx sy pt mn pl pN px py sn lt rc tx sz us D0 D1 D2 qx qy di up dn be op gs t0 fr lf pX pY pD pU X) (rT (ix := 0) hl rfl) ?_
  refine j_aload_n B d_M_wipe_5 rfl 0 rfl ?_
  refine gf_M_62 B (rG (ix := 0) hl rfl) rfl d_M_wipe_6 ?_
  refine j_iconst (v := nI 4) B d_M_wipe_9 (by decide) ?_
  refine j_iconst (v := 0) B d_M_wipe_10 (by decide) ?_
  refine j_iastN B not_false rfl (rG (ix := 18) hl rfl) (by omega) d_M_wipe_11 ?_
  refine jW.heap (σ2 := σ ++ rC b ta 0 F0 F1 F2 HH kt kp a hi tm sN sx sy pt mn pl pN px py sn lt rc tx (upd sz 4 0) us D0 D1 D2 qx qy di up dn be op gs t0 fr lf pX pY pD pU X) (rT (ix := 18) hl rfl) ?_
  exact j_vret B K rfl d_M_wipe_12
set_option maxRecDepth 100000 in
set_option maxHeartbeats 4000000 in
theorem c_M_source_t {l : Launch} {b : Nat} {D : va_G} {ta : Nat → ClassId} {σ : List va_E} (hl : σ.length = 133) {wt : Int32} {F0 : Nat → Int32} {F1 : Nat → Int32} {F2 : Nat → Int32} {HH : Nat → Int32} {kt : Nat → Int32} {kp : Nat → Int32} {a : Nat} {hi : Nat} {tm : Nat} {sN : Nat} {sx : Nat → Int32} {sy : Nat → Int32} {pt : Nat → Int64} {mn : Nat → Int32} {pl : Nat → Int32} {pN : Nat} {px : Nat → Int32} {py : Nat → Int32} {sn : Nat → Int32} {lt : Nat → Int32} {rc : Nat → Int64} {tx : Nat → Int32} {sz : Nat → Int32} {us : Nat → Int32} {D0 : Nat → Int32} {D1 : Nat → Int32} {D2 : Nat → Int32} {qx : Int32} {qy : Int32} {di : Nat} {up : Bool} {dn : Nat} {be : Bool} {op : Nat} {gs : Nat → Int32} {t0 : Nat → Int32} {fr : Nat → Int32} {lf : Nat → Int32} {pX : Nat → Int32} {pY : Nat → Int32} {pD : Nat → Int32} {pU : Nat → Int32} {X : List va_E} {x y : Int32} {pat : Int64} {n : Nat} (hin : inF x y = true) (h1 : 1 ≤ n) (h64 : n ≤ 64) (hs : sN < 4) : jC l b D ta False y_M_source b_M_source 6 (some .int) (rL 1) [.ref (b + 133), .int x, .int y, .long pat, .int (nI n)] (σ ++ rC b ta wt F0 F1 F2 HH kt kp a hi tm sN sx sy pt mn pl pN px py sn lt rc tx sz us D0 D1 D2 qx qy di up dn be op gs t0 fr lf pX pY pD pU X) (some (.int (nI sN))) (σ ++ rC b ta 0 F0 F1 F2 HH kt kp a hi tm (sN + 1) (upd sx sN x) (upd sy sN y) (vp_updL pt sN pat) (upd mn sN (nI n)) pl pN px py sn lt rc tx sz us D0 D1 D2 qx qy di up dn be op gs t0 fr lf pX pY pD pU X) := by
  refine jC_of (own := "WireFieldModel") (by decide +kernel) (Nat.le_of_ble_eq_true rfl) rfl (fun Γ B K => ?_)
  change jW l b D Γ False 0 0 6 (σ ++ rC b ta wt F0 F1 F2 HH kt kp a hi tm sN sx sy pt mn pl pN px py sn lt rc tx sz us D0 D1 D2 qx qy di up dn be op gs t0 fr lf pX pY pD pU X) [(0, .ref (b + 133)), (1, .int x), (2, .int y), (3, .long pat), (5, .int (nI n))] 0 []
  refine j_aload_n B d_M_source_0 rfl 0 rfl ?_
  refine j_iconst (v := 0) B d_M_source_1 (by decide) ?_
  refine pf_M_102 B not_false (rG (ix := 0) hl rfl) rfl rfl (Nat.le_of_ble_eq_true rfl) d_M_source_2 ?_
  refine jW.heap (σ2 := σ ++ rC b ta 0 F0 F1 F2 HH kt kp a hi tm sN sx sy pt mn pl pN px py sn lt rc tx sz us D0 D1 D2 qx qy di up dn be op gs t0 fr lf pX pY pD pU X) (rT (ix := 0) hl rfl) ?_
  refine j_iload_n B d_M_source_5 rfl 1 rfl ?_
  refine j_iload_n B d_M_source_6 rfl 2 rfl ?_
  refine k_callS (as := [.int x, .int y]) (rest := []) (st1 := [.int (bI (inF x y))]) B (c_M_is x y) yf_M_is w_899 w_900 rfl (by decide) (by decide) rfl rfl (Nat.le_of_ble_eq_true rfl) d_M_source_7 ?_
  refine j_if_eq B d_M_source_10 rfl (fun h10 => absurd (bI_f h10) (by rw [hin]; decide)) (fun h10 => ?_)
  refine j_iload B d_M_source_13 4 rfl ?_
  refine j_iconst (v := 1) B d_M_source_15 (by decide) ?_
  refine j_icmp_lt B d_M_source_16 rfl (fun h16 => absurd h16 (nI_nlt (a := n) (b := 1) h1 (by omega))) (fun h16 => ?_)
  refine j_iload B d_M_source_19 4 rfl ?_
  refine j_bipush (v := 64) B d_M_source_21 (by decide) ?_
  refine j_icmp_gt B d_M_source_23 rfl (fun h23 => absurd h23 (nI_nlt (a := 64) (b := n) h64 (by decide))) (fun h23 => ?_)
  refine j_aload_n B d_M_source_26 rfl 0 rfl ?_
  refine gf_M_119 B (rG (ix := 0) hl rfl) rfl d_M_source_27 ?_
  refine j_iconst (v := 4) B d_M_source_30 (by decide) ?_
  refine j_icmp_ne B d_M_source_31 rfl (fun h31 => ?_) (fun h31 => absurd ((nI_eq (b := 4) (by omega) (by decide)).mp h31) (by omega))
  refine j_aload_n B d_M_source_36 rfl 0 rfl ?_
  refine gf_M_28 B (rG (ix := 0) hl rfl) rfl d_M_source_37 ?_
  refine j_aload_n B d_M_source_40 rfl 0 rfl ?_
  refine gf_M_119 B (rG (ix := 0) hl rfl) rfl d_M_source_41 ?_
  refine j_iload_n B d_M_source_44 rfl 1 rfl ?_
  refine j_iastN B not_false rfl (rG (ix := 7) hl rfl) (by omega) d_M_source_45 ?_
  refine jW.heap (σ2 := σ ++ rC b ta 0 F0 F1 F2 HH kt kp a hi tm sN (upd sx sN x) sy pt mn pl pN px py sn lt rc tx sz us D0 D1 D2 qx qy di up dn be op gs t0 fr lf pX pY pD pU X) (rT (ix := 7) hl rfl) ?_
  refine j_aload_n B d_M_source_46 rfl 0 rfl ?_
  refine gf_M_31 B (rG (ix := 0) hl rfl) rfl d_M_source_47 ?_
  refine j_aload_n B d_M_source_50 rfl 0 rfl ?_
  refine gf_M_119 B (rG (ix := 0) hl rfl) rfl d_M_source_51 ?_
  refine j_iload_n B d_M_source_54 rfl 2 rfl ?_
  refine j_iastN B not_false rfl (rG (ix := 8) hl rfl) (by omega) d_M_source_55 ?_
  refine jW.heap (σ2 := σ ++ rC b ta 0 F0 F1 F2 HH kt kp a hi tm sN (upd sx sN x) (upd sy sN y) pt mn pl pN px py sn lt rc tx sz us D0 D1 D2 qx qy di up dn be op gs t0 fr lf pX pY pD pU X) (rT (ix := 8) hl rfl) ?_
  refine j_aload_n B d_M_source_56 rfl 0 rfl ?_
  refine gf_M_34 B (rG (ix := 0) hl rfl) rfl d_M_source_57 ?_
  refine j_aload_n B d_M_source_60 rfl 0 rfl ?_
  refine gf_M_119 B (rG (ix := 0) hl rfl) rfl d_M_source_61 ?_
  refine j_lload_n B d_M_source_64 rfl 3 rfl ?_
  refine j_lastN B not_false rfl (rG (ix := 9) hl rfl) (by omega) d_M_source_65 ?_
  refine jW.heap (σ2 := σ ++ rC b ta 0 F0 F1 F2 HH kt kp a hi tm sN (upd sx sN x) (upd sy sN y) (vp_updL pt sN pat) mn pl pN px py sn lt rc tx sz us D0 D1 D2 qx qy di up dn be op gs t0 fr lf pX pY pD pU X) (rT (ix := 9) hl rfl) ?_
  refine j_aload_n B d_M_source_66 rfl 0 rfl ?_
  refine gf_M_38 B (rG (ix := 0) hl rfl) rfl d_M_source_67 ?_
  refine j_aload_n B d_M_source_70 rfl 0 rfl ?_
  refine gf_M_119 B (rG (ix := 0) hl rfl) rfl d_M_source_71 ?_
  refine j_iload B d_M_source_74 4 rfl ?_
  refine j_iastN B not_false rfl (rG (ix := 10) hl rfl) (by omega) d_M_source_76 ?_
  refine jW.heap (σ2 := σ ++ rC b ta 0 F0 F1 F2 HH kt kp a hi tm sN (upd sx sN x) (upd sy sN y) (vp_updL pt sN pat) (upd mn sN (nI n)) pl pN px py sn lt rc tx sz us D0 D1 D2 qx qy di up dn be op gs t0 fr lf pX pY pD pU X) (rT (ix := 10) hl rfl) ?_
  refine j_aload_n B d_M_source_77 rfl 0 rfl ?_
  refine j_dup B d_M_source_78 rfl ?_
  refine gf_M_119 B (rG (ix := 0) hl rfl) rfl d_M_source_79 ?_
  refine j_iconst (v := 1) B d_M_source_82 (by decide) ?_
  refine j_iaddE (v := nI (sN + 1)) B (nI_add sN 1) d_M_source_83 ?_
  refine pf_M_119 B not_false (rG (ix := 0) hl rfl) rfl rfl (Nat.le_of_ble_eq_true rfl) d_M_source_84 ?_
  refine jW.heap (σ2 := σ ++ rC b ta 0 F0 F1 F2 HH kt kp a hi tm (sN + 1) (upd sx sN x) (upd sy sN y) (vp_updL pt sN pat) (upd mn sN (nI n)) pl pN px py sn lt rc tx sz us D0 D1 D2 qx qy di up dn be op gs t0 fr lf pX pY pD pU X) (rT (ix := 0) hl rfl) ?_
  refine j_aload_n B d_M_source_87 rfl 0 rfl ?_
  refine gf_M_119 B (rG (ix := 0) hl rfl) rfl d_M_source_88 ?_
  refine j_iconst (v := 1) B d_M_source_91 (by decide) ?_
  refine j_isubE (v := nI sN) B (nI_pred sN) d_M_source_92 ?_
  exact j_iret B K rfl rfl d_M_source_93
set_option maxRecDepth 100000 in
set_option maxHeartbeats 4000000 in
theorem c_M_source_f {l : Launch} {b : Nat} {D : va_G} {ta : Nat → ClassId} {σ : List va_E} (hl : σ.length = 133) {wt : Int32} {F0 : Nat → Int32} {F1 : Nat → Int32} {F2 : Nat → Int32} {HH : Nat → Int32} {kt : Nat → Int32} {kp : Nat → Int32} {a : Nat} {hi : Nat} {tm : Nat} {sN : Nat} {sx : Nat → Int32} {sy : Nat → Int32} {pt : Nat → Int64} {mn : Nat → Int32} {pl : Nat → Int32} {pN : Nat} {px : Nat → Int32} {py : Nat → Int32} {sn : Nat → Int32} {lt : Nat → Int32} {rc : Nat → Int64} {tx : Nat → Int32} {sz : Nat → Int32} {us : Nat → Int32} {D0 : Nat → Int32} {D1 : Nat → Int32} {D2 : Nat → Int32} {qx : Int32} {qy : Int32} {di : Nat} {up : Bool} {dn : Nat} {be : Bool} {op : Nat} {gs : Nat → Int32} {t0 : Nat → Int32} {fr : Nat → Int32} {lf : Nat → Int32} {pX : Nat → Int32} {pY : Nat → Int32} {pD : Nat → Int32} {pU : Nat → Int32} {X : List va_E} {x y n : Int32} {pat : Int64} (hf : ¬ (inF x y = true ∧ ¬ n < 1 ∧ ¬ 64 < n ∧ ¬ nI sN = 4)) : jC l b D ta False y_M_source b_M_source 6 (some .int) (rL 1) [.ref (b + 133), .int x, .int y, .long pat, .int n] (σ ++ rC b ta wt F0 F1 F2 HH kt kp a hi tm sN sx sy pt mn pl pN px py sn lt rc tx sz us D0 D1 D2 qx qy di up dn be op gs t0 fr lf pX pY pD pU X) (some (.int (-1))) (σ ++ rC b ta 0 F0 F1 F2 HH kt kp a hi tm sN sx sy pt mn pl pN px py sn lt rc tx sz us D0 D1 D2 qx qy di up dn be op gs t0 fr lf pX pY pD pU X) := by
  refine jC_of (own := "WireFieldModel") (by decide +kernel) (Nat.le_of_ble_eq_true rfl) rfl (fun Γ B K => ?_)
  change jW l b D Γ False 0 0 6 (σ ++ rC b ta wt F0 F1 F2 HH kt kp a hi tm sN sx sy pt mn pl pN px py sn lt rc tx sz us D0 D1 D2 qx qy di up dn be op gs t0 fr lf pX pY pD pU X) [(0, .ref (b + 133)), (1, .int x), (2, .int y), (3, .long pat), (5, .int n)] 0 []
  refine j_aload_n B d_M_source_0 rfl 0 rfl ?_
  refine j_iconst (v := 0) B d_M_source_1 (by decide) ?_
  refine pf_M_102 B not_false (rG (ix := 0) hl rfl) rfl rfl (Nat.le_of_ble_eq_true rfl) d_M_source_2 ?_
  refine jW.heap (σ2 := σ ++ rC b ta 0 F0 F1 F2 HH kt kp a hi tm sN sx sy pt mn pl pN px py sn lt rc tx sz us D0 D1 D2 qx qy di up dn be op gs t0 fr lf pX pY pD pU X) (rT (ix := 0) hl rfl) ?_
  refine j_iload_n B d_M_source_5 rfl 1 rfl ?_
  refine j_iload_n B d_M_source_6 rfl 2 rfl ?_
  refine k_callS (as := [.int x, .int y]) (rest := []) (st1 := [.int (bI (inF x y))]) B (c_M_is x y) yf_M_is w_899 w_900 rfl (by decide) (by decide) rfl rfl (Nat.le_of_ble_eq_true rfl) d_M_source_7 ?_
  refine j_if_eq B d_M_source_10 rfl (fun h10 => ?_) (fun h10 => ?_)
  · -- 10 jump
    replace h10 := bI_f h10
    refine j_iconst (v := (-1)) B d_M_source_34 (by decide) ?_
    exact j_iret B K rfl rfl d_M_source_35
  · -- 10 on
    replace h10 := bI_t h10
    refine j_iload B d_M_source_13 4 rfl ?_
    refine j_iconst (v := 1) B d_M_source_15 (by decide) ?_
    refine j_icmp_lt B d_M_source_16 rfl (fun h16 => ?_) (fun h16 => ?_)
    · -- 16 jump
      refine j_iconst (v := (-1)) B d_M_source_34 (by decide) ?_
      exact j_iret B K rfl rfl d_M_source_35
    · -- 16 on
      refine j_iload B d_M_source_19 4 rfl ?_
      refine j_bipush (v := 64) B d_M_source_21 (by decide) ?_
      refine j_icmp_gt B d_M_source_23 rfl (fun h23 => ?_) (fun h23 => ?_)
      · -- 23 jump
        refine j_iconst (v := (-1)) B d_M_source_34 (by decide) ?_
        exact j_iret B K rfl rfl d_M_source_35
      · -- 23 on
        refine j_aload_n B d_M_source_26 rfl 0 rfl ?_
        refine gf_M_119 B (rG (ix := 0) hl rfl) rfl d_M_source_27 ?_
        refine j_iconst (v := 4) B d_M_source_30 (by decide) ?_
        refine j_icmp_ne B d_M_source_31 rfl (fun h31 => ?_) (fun h31 => ?_)
        · -- 31 jump
          exact absurd ⟨h10, h16, h23, h31⟩ hf
        · -- 31 on
          refine j_iconst (v := (-1)) B d_M_source_34 (by decide) ?_
          exact j_iret B K rfl rfl d_M_source_35
set_option maxRecDepth 100000 in
set_option maxHeartbeats 4000000 in
theorem c_M_probe_t {l : Launch} {b : Nat} {D : va_G} {ta : Nat → ClassId} {σ : List va_E} (hl : σ.length = 133) {wt : Int32} {F0 : Nat → Int32} {F1 : Nat → Int32} {F2 : Nat → Int32} {HH : Nat → Int32} {kt : Nat → Int32} {kp : Nat → Int32} {a : Nat} {hi : Nat} {tm : Nat} {sN : Nat} {sx : Nat → Int32} {sy : Nat → Int32} {pt : Nat → Int64} {mn : Nat → Int32} {pl : Nat → Int32} {pN : Nat} {px : Nat → Int32} {py : Nat → Int32} {sn : Nat → Int32} {lt : Nat → Int32} {rc : Nat → Int64} {tx : Nat → Int32} {sz : Nat → Int32} {us : Nat → Int32} {D0 : Nat → Int32} {D1 : Nat → Int32} {D2 : Nat → Int32} {qx : Int32} {qy : Int32} {di : Nat} {up : Bool} {dn : Nat} {be : Bool} {op : Nat} {gs : Nat → Int32} {t0 : Nat → Int32} {fr : Nat → Int32} {lf : Nat → Int32} {pX : Nat → Int32} {pY : Nat → Int32} {pD : Nat → Int32} {pU : Nat → Int32} {X : List va_E} {x y : Int32} (hin : inF x y = true) (hs : pN < 4) : jC l b D ta False y_M_probe b_M_probe 3 (some .int) (rL 1) [.ref (b + 133), .int x, .int y] (σ ++ rC b ta wt F0 F1 F2 HH kt kp a hi tm sN sx sy pt mn pl pN px py sn lt rc tx sz us D0 D1 D2 qx qy di up dn be op gs t0 fr lf pX pY pD pU X) (some (.int (nI pN))) (σ ++ rC b ta 0 F0 F1 F2 HH kt kp a hi tm sN sx sy pt mn pl (pN + 1) (upd px pN x) (upd py pN y) sn (upd lt pN (-1)) rc tx sz us D0 D1 D2 qx qy di up dn be op gs t0 fr lf pX pY pD pU X) := by
  refine jC_of (own := "WireFieldModel") (by decide +kernel) (Nat.le_of_ble_eq_true rfl) rfl (fun Γ B K => ?_)
  change jW l b D Γ False 0 0 3 (σ ++ rC b ta wt F0 F1 F2 HH kt kp a hi tm sN sx sy pt mn pl pN px py sn lt rc tx sz us D0 D1 D2 qx qy di up dn be op gs t0 fr lf pX pY pD pU X) [(0, .ref (b + 133)), (1, .int x), (2, .int y)] 0 []
  refine j_aload_n B d_M_probe_0 rfl 0 rfl ?_
  refine j_iconst (v := 0) B d_M_probe_1 (by decide) ?_
  refine pf_M_102 B not_false (rG (ix := 0) hl rfl) rfl rfl (Nat.le_of_ble_eq_true rfl) d_M_probe_2 ?_
  refine jW.heap (σ2 := σ ++ rC b ta 0 F0 F1 F2 HH kt kp a hi tm sN sx sy pt mn pl pN px py sn lt rc tx sz us D0 D1 D2 qx qy di up dn be op gs t0 fr lf pX pY pD pU X) (rT (ix := 0) hl rfl) ?_
  refine j_iload_n B d_M_probe_5 rfl 1 rfl ?_
  refine j_iload_n B d_M_probe_6 rfl 2 rfl ?_
  refine k_callS (as := [.int x, .int y]) (rest := []) (st1 := [.int (bI (inF x y))]) B (c_M_is x y) yf_M_is w_899 w_900 rfl (by decide) (by decide) rfl rfl (Nat.le_of_ble_eq_true rfl) d_M_probe_7 ?_
  refine j_if_eq B d_M_probe_10 rfl (fun h10 => absurd (bI_f h10) (by rw [hin]; decide)) (fun h10 => ?_)
  refine j_aload_n B d_M_probe_13 rfl 0 rfl ?_
  refine gf_M_128 B (rG (ix := 0) hl rfl) rfl d_M_probe_14 ?_
  refine j_iconst (v := 4) B d_M_probe_17 (by decide) ?_
  refine j_icmp_ne B d_M_probe_18 rfl (fun h18 => ?_) (fun h18 => absurd ((nI_eq (b := 4) (by omega) (by decide)).mp h18) (by omega))
  refine j_aload_n B d_M_probe_23 rfl 0 rfl ?_
  refine gf_M_44 B (rG (ix := 0) hl rfl) rfl d_M_probe_24 ?_
  refine j_aload_n B d_M_probe_27 rfl 0 rfl ?_
  refine gf_M_128 B (rG (ix := 0) hl rfl) rfl d_M_probe_28 ?_
  refine j_iload_n B d_M_probe_31 rfl 1 rfl ?_
  refine j_iastN B not_false rfl (rG (ix := 12) hl rfl) (by omega) d_M_probe_32 ?_
  refine jW.heap (σ2 := σ ++ rC b ta 0 F0 F1 F2 HH kt kp a hi tm sN sx sy pt mn pl pN (upd px pN x) py sn lt rc tx sz us D0 D1 D2 qx qy di up dn be op gs t0 fr lf pX pY pD pU X) (rT (ix := 12) hl rfl) ?_
  refine j_aload_n B d_M_probe_33 rfl 0 rfl ?_
  refine gf_M_47 B (rG (ix := 0) hl rfl) rfl d_M_probe_34 ?_
  refine j_aload_n B d_M_probe_37 rfl 0 rfl ?_
  refine gf_M_128 B (rG (ix := 0) hl rfl) rfl d_M_probe_38 ?_
  refine j_iload_n B d_M_probe_41 rfl 2 rfl ?_
  refine j_iastN B not_false rfl (rG (ix := 13) hl rfl) (by omega) d_M_probe_42 ?_
  refine jW.heap (σ2 := σ ++ rC b ta 0 F0 F1 F2 HH kt kp a hi tm sN sx sy pt mn pl pN (upd px pN x) (upd py pN y) sn lt rc tx sz us D0 D1 D2 qx qy di up dn be op gs t0 fr lf pX pY pD pU X) (rT (ix := 13) hl rfl) ?_
  refine j_aload_n B d_M_probe_43 rfl 0 rfl ?_
  refine gf_M_53 B (rG (ix := 0) hl rfl) rfl d_M_probe_44 ?_
  refine j_aload_n B d_M_probe_47 rfl 0 rfl ?_
  refine gf_M_128 B (rG (ix := 0) hl rfl) rfl d_M_probe_48 ?_
  refine j_iconst (v := (-1)) B d_M_probe_51 (by decide) ?_
  refine j_iastN B not_false rfl (rG (ix := 15) hl rfl) (by omega) d_M_probe_52 ?_
  refine jW.heap (σ2 := σ ++ rC b ta 0 F0 F1 F2 HH kt kp a hi tm sN sx sy pt mn pl pN (upd px pN x) (upd py pN y) sn (upd lt pN (-1)) rc tx sz us D0 D1 D2 qx qy di up dn be op gs t0 fr lf pX pY pD pU X) (rT (ix := 15) hl rfl) ?_
  refine j_aload_n B d_M_probe_53 rfl 0 rfl ?_
  refine j_dup B d_M_probe_54 rfl ?_
  refine gf_M_128 B (rG (ix := 0) hl rfl) rfl d_M_probe_55 ?_
  refine j_iconst (v := 1) B d_M_probe_58 (by decide) ?_
  refine j_iaddE (v := nI (pN + 1)) B (nI_add pN 1) d_M_probe_59 ?_
  refine pf_M_128 B not_false (rG (ix := 0) hl rfl) rfl rfl (Nat.le_of_ble_eq_true rfl) d_M_probe_60 ?_
  refine jW.heap (σ2 := σ ++ rC b ta 0 F0 F1 F2 HH kt kp a hi tm sN sx sy pt mn pl (pN + 1) (upd px pN x) (upd py pN y) sn (upd lt pN (-1)) rc tx sz us D0 D1 D2 qx qy di up dn be op gs t0 fr lf pX pY pD pU X) (rT (ix := 0) hl rfl) ?_
  refine j_aload_n B d_M_probe_63 rfl 0 rfl ?_
  refine gf_M_128 B (rG (ix := 0) hl rfl) rfl d_M_probe_64 ?_
  refine j_iconst (v := 1) B d_M_probe_67 (by decide) ?_
  refine j_isubE (v := nI pN) B (nI_pred pN) d_M_probe_68 ?_
  exact j_iret B K rfl rfl d_M_probe_69
set_option maxRecDepth 100000 in
set_option maxHeartbeats 4000000 in
theorem c_M_probe_f {l : Launch} {b : Nat} {D : va_G} {ta : Nat → ClassId} {σ : List va_E} (hl : σ.length = 133) {wt : Int32} {F0 : Nat → Int32} {F1 : Nat → Int32} {F2 : Nat → Int32} {HH : Nat → Int32} {kt : Nat → Int32} {kp : Nat → Int32} {a : Nat} {hi : Nat} {tm : Nat} {sN : Nat} {sx : Nat → Int32} {sy : Nat → Int32} {pt : Nat → Int64} {mn : Nat → Int32} {pl : Nat → Int32} {pN : Nat} {px : Nat → Int32} {py : Nat → Int32} {sn : Nat → Int32} {lt : Nat → Int32} {rc : Nat → Int64} {tx : Nat → Int32} {sz : Nat → Int32} {us : Nat → Int32} {D0 : Nat → Int32} {D1 : Nat → Int32} {D2 : Nat → Int32} {qx : Int32} {qy : Int32} {di : Nat} {up : Bool} {dn : Nat} {be : Bool} {op : Nat} {gs : Nat → Int32} {t0 : Nat → Int32} {fr : Nat → Int32} {lf : Nat → Int32} {pX : Nat → Int32} {pY : Nat → Int32} {pD : Nat → Int32} {pU : Nat → Int32} {X : List va_E} {x y : Int32} (hf : ¬ (inF x y = true ∧ ¬ nI pN = 4)) : jC l b D ta False y_M_probe b_M_probe 3 (some .int) (rL 1) [.ref (b + 133), .int x, .int y] (σ ++ rC b ta wt F0 F1 F2 HH kt kp a hi tm sN sx sy pt mn pl pN px py sn lt rc tx sz us D0 D1 D2 qx qy di up dn be op gs t0 fr lf pX pY pD pU X) (some (.int (-1))) (σ ++ rC b ta 0 F0 F1 F2 HH kt kp a hi tm sN sx sy pt mn pl pN px py sn lt rc tx sz us D0 D1 D2 qx qy di up dn be op gs t0 fr lf pX pY pD pU X) := by
  refine jC_of (own := "WireFieldModel") (by decide +kernel) (Nat.le_of_ble_eq_true rfl) rfl (fun Γ B K => ?_)
  change jW l b D Γ False 0 0 3 (σ ++ rC b ta wt F0 F1 F2 HH kt kp a hi tm sN sx sy pt mn pl pN px py sn lt rc tx sz us D0 D1 D2 qx qy di up dn be op gs t0 fr lf pX pY pD pU X) [(0, .ref (b + 133)), (1, .int x), (2, .int y)] 0 []
  refine j_aload_n B d_M_probe_0 rfl 0 rfl ?_
  refine j_iconst (v := 0) B d_M_probe_1 (by decide) ?_
  refine pf_M_102 B not_false (rG (ix := 0) hl rfl) rfl rfl (Nat.le_of_ble_eq_true rfl) d_M_probe_2 ?_
  refine jW.heap (σ2 := σ ++ rC b ta 0 F0 F1 F2 HH kt kp a hi tm sN sx sy pt mn pl pN px py sn lt rc tx sz us D0 D1 D2 qx qy di up dn be op gs t0 fr lf pX pY pD pU X) (rT (ix := 0) hl rfl) ?_
  refine j_iload_n B d_M_probe_5 rfl 1 rfl ?_
  refine j_iload_n B d_M_probe_6 rfl 2 rfl ?_
  refine k_callS (as := [.int x, .int y]) (rest := []) (st1 := [.int (bI (inF x y))]) B (c_M_is x y) yf_M_is w_899 w_900 rfl (by decide) (by decide) rfl rfl (Nat.le_of_ble_eq_true rfl) d_M_probe_7 ?_
  refine j_if_eq B d_M_probe_10 rfl (fun h10 => ?_) (fun h10 => ?_)
  · -- 10 jump
    replace h10 := bI_f h10
    refine j_iconst (v := (-1)) B d_M_probe_21 (by decide) ?_
    exact j_iret B K rfl rfl d_M_probe_22
  · -- 10 on
    replace h10 := bI_t h10
    refine j_aload_n B d_M_probe_13 rfl 0 rfl ?_
    refine gf_M_128 B (rG (ix := 0) hl rfl) rfl d_M_probe_14 ?_
    refine j_iconst (v := 4) B d_M_probe_17 (by decide) ?_
    refine j_icmp_ne B d_M_probe_18 rfl (fun h18 => ?_) (fun h18 => ?_)
    · -- 18 jump
      exact absurd ⟨h10, h18⟩ hf
    · -- 18 on
      refine j_iconst (v := (-1)) B d_M_probe_21 (by decide) ?_
      exact j_iret B K rfl rfl d_M_probe_22
set_option maxRecDepth 100000 in
set_option maxHeartbeats 4000000 in
theorem c_M_seen_0 {l : Launch} {b : Nat} {D : va_G} {ta : Nat → ClassId} {σ : List va_E} (hl : σ.length = 133) {wt : Int32} {F0 : Nat → Int32} {F1 : Nat → Int32} {F2 : Nat → Int32} {HH : Nat → Int32} {kt : Nat → Int32} {kp : Nat → Int32} {a : Nat} {hi : Nat} {tm : Nat} {sN : Nat} {sx : Nat → Int32} {sy : Nat → Int32} {pt : Nat → Int64} {mn : Nat → Int32} {pl : Nat → Int32} {pN : Nat} {px : Nat → Int32} {py : Nat → Int32} {sn : Nat → Int32} {lt : Nat → Int32} {rc : Nat → Int64} {tx : Nat → Int32} {sz : Nat → Int32} {us : Nat → Int32} {D0 : Nat → Int32} {D1 : Nat → Int32} {D2 : Nat → Int32} {qx : Int32} {qy : Int32} {di : Nat} {up : Bool} {dn : Nat} {be : Bool} {op : Nat} {gs : Nat → Int32} {t0 : Nat → Int32} {fr : Nat → Int32} {lf : Nat → Int32} {pX : Nat → Int32} {pY : Nat → Int32} {pD : Nat → Int32} {pU : Nat → Int32} {X : List va_E} {j : Nat} (hj : j < pN) (hp : pN ≤ 4) : jC l b D ta False y_M_seen b_M_seen 3 (some .int) (rL 0) [.ref (b + 133), .int (nI j), .int 0] (σ ++ rC b ta wt F0 F1 F2 HH kt kp a hi tm sN sx sy pt mn pl pN px py sn lt rc tx sz us D0 D1 D2 qx qy di up dn be op gs t0 fr lf pX pY pD pU X) (some (.int (sn j))) (σ ++ rC b ta 0 F0 F1 F2 HH kt kp a hi tm sN sx sy pt mn pl pN px py sn lt rc tx sz us D0 D1 D2 qx qy di up dn be op gs t0 fr lf pX pY pD pU X) := by
  refine jC_of (own := "WireFieldModel") (by decide +kernel) (Nat.le_of_ble_eq_true rfl) rfl (fun Γ B K => ?_)
  change jW l b D Γ False 0 0 3 (σ ++ rC b ta wt F0 F1 F2 HH kt kp a hi tm sN sx sy pt mn pl pN px py sn lt rc tx sz us D0 D1 D2 qx qy di up dn be op gs t0 fr lf pX pY pD pU X) [(0, .ref (b + 133)), (1, .int (nI j)), (2, .int 0)] 0 []
  refine j_aload_n B d_M_seen_0 rfl 0 rfl ?_
  refine j_iload_n B d_M_seen_1 rfl 1 rfl ?_
  refine j_if_lt B d_M_seen_2 rfl (fun h2 => absurd h2 (nI_pos (by omega))) (fun h2 => ?_)
  refine j_iload_n B d_M_seen_5 rfl 1 rfl ?_
  refine j_aload_n B d_M_seen_6 rfl 0 rfl ?_
  refine gf_M_128 B (rG (ix := 0) hl rfl) rfl d_M_seen_7 ?_
  refine j_icmp_ge B d_M_seen_10 rfl (fun h10 => absurd h10 (nI_ge hj (by omega))) (fun h10 => ?_)
  refine j_iload_n B d_M_seen_13 rfl 2 rfl ?_
  refine j_if_lt B d_M_seen_14 rfl (fun h14 => absurd h14 (by decide)) (fun h14 => ?_)
  refine j_iload_n B d_M_seen_17 rfl 2 rfl ?_
  refine j_iconst (v := 1) B d_M_seen_18 (by decide) ?_
  refine j_icmp_le B d_M_seen_19 rfl (fun h19 => ?_) (fun h19 => absurd (by decide) h19)
  refine j_iconst (v := 0) B d_M_seen_26 (by decide) ?_
  refine pf_M_102 B not_false (rG (ix := 0) hl rfl) rfl rfl (Nat.le_of_ble_eq_true rfl) d_M_seen_27 ?_
  refine jW.heap (σ2 := σ ++ rC b ta 0 F0 F1 F2 HH kt kp a hi tm sN sx sy pt mn pl pN px py sn lt rc tx sz us D0 D1 D2 qx qy di up dn be op gs t0 fr lf pX pY pD pU X) (rT (ix := 0) hl rfl) ?_
  refine j_aload_n B d_M_seen_30 rfl 0 rfl ?_
  refine gf_M_102 B (rG (ix := 0) hl rfl) rfl d_M_seen_31 ?_
  refine j_if_le B d_M_seen_34 rfl (fun h34 => ?_) (fun h34 => absurd (by decide) h34)
  refine j_iload_n B d_M_seen_41 rfl 2 rfl ?_
  refine j_if_ne B d_M_seen_42 rfl (fun h42 => absurd rfl h42) (fun h42 => ?_)
  refine j_aload_n B d_M_seen_45 rfl 0 rfl ?_
  refine gf_M_50 B (rG (ix := 0) hl rfl) rfl d_M_seen_46 ?_
  refine j_iload_n B d_M_seen_49 rfl 1 rfl ?_
  refine j_ialdN B rfl (rG (ix := 14) hl rfl) (by omega) d_M_seen_50 ?_
  refine j_goto B d_M_seen_51 rfl ?_
  exact j_iret B K rfl rfl d_M_seen_60
set_option maxRecDepth 100000 in
set_option maxHeartbeats 4000000 in
theorem c_M_seen_1 {l : Launch} {b : Nat} {D : va_G} {ta : Nat → ClassId} {σ : List va_E} (hl : σ.length = 133) {wt : Int32} {F0 : Nat → Int32} {F1 : Nat → Int32} {F2 : Nat → Int32} {HH : Nat → Int32} {kt : Nat → Int32} {kp : Nat → Int32} {a : Nat} {hi : Nat} {tm : Nat} {sN : Nat} {sx : Nat → Int32} {sy : Nat → Int32} {pt : Nat → Int64} {mn : Nat → Int32} {pl : Nat → Int32} {pN : Nat} {px : Nat → Int32} {py : Nat → Int32} {sn : Nat → Int32} {lt : Nat → Int32} {rc : Nat → Int64} {tx : Nat → Int32} {sz : Nat → Int32} {us : Nat → Int32} {D0 : Nat → Int32} {D1 : Nat → Int32} {D2 : Nat → Int32} {qx : Int32} {qy : Int32} {di : Nat} {up : Bool} {dn : Nat} {be : Bool} {op : Nat} {gs : Nat → Int32} {t0 : Nat → Int32} {fr : Nat → Int32} {lf : Nat → Int32} {pX : Nat → Int32} {pY : Nat → Int32} {pD : Nat → Int32} {pU : Nat → Int32} {X : List va_E} {j : Nat} (hj : j < pN) (hp : pN ≤ 4) : jC l b D ta False y_M_seen b_M_seen 3 (some .int) (rL 0) [.ref (b + 133), .int (nI j), .int 1] (σ ++ rC b ta wt F0 F1 F2 HH kt kp a hi tm sN sx sy pt mn pl pN px py sn lt rc tx sz us D0 D1 D2 qx qy di up dn be op gs t0 fr lf pX pY pD pU X) (some (.int (lt j))) (σ ++ rC b ta 0 F0 F1 F2 HH kt kp a hi tm sN sx sy pt mn pl pN px py sn lt rc tx sz us D0 D1 D2 qx qy di up dn be op gs t0 fr lf pX pY pD pU X) := by
  refine jC_of (own := "WireFieldModel") (by decide +kernel) (Nat.le_of_ble_eq_true rfl) rfl (fun Γ B K => ?_)
  change jW l b D Γ False 0 0 3 (σ ++ rC b ta wt F0 F1 F2 HH kt kp a hi tm sN sx sy pt mn pl pN px py sn lt rc tx sz us D0 D1 D2 qx qy di up dn be op gs t0 fr lf pX pY pD pU X) [(0, .ref (b + 133)), (1, .int (nI j)), (2, .int 1)] 0 []
  refine j_aload_n B d_M_seen_0 rfl 0 rfl ?_
  refine j_iload_n B d_M_seen_1 rfl 1 rfl ?_
  refine j_if_lt B d_M_seen_2 rfl (fun h2 => absurd h2 (nI_pos (by omega))) (fun h2 => ?_)
  refine j_iload_n B d_M_seen_5 rfl 1 rfl ?_
  refine j_aload_n B d_M_seen_6 rfl 0 rfl ?_
  refine gf_M_128 B (rG (ix := 0) hl rfl) rfl d_M_seen_7 ?_
  refine j_icmp_ge B d_M_seen_10 rfl (fun h10 => absurd h10 (nI_ge hj (by omega))) (fun h10 => ?_)
  refine j_iload_n B d_M_seen_13 rfl 2 rfl ?_
  refine j_if_lt B d_M_seen_14 rfl (fun h14 => absurd h14 (by decide)) (fun h14 => ?_)
  refine j_iload_n B d_M_seen_17 rfl 2 rfl ?_
  refine j_iconst (v := 1) B d_M_seen_18 (by decide) ?_
  refine j_icmp_le B d_M_seen_19 rfl (fun h19 => ?_) (fun h19 => absurd (by decide) h19)
  refine j_iconst (v := 0) B d_M_seen_26 (by decide) ?_
  refine pf_M_102 B not_false (rG (ix := 0) hl rfl) rfl rfl (Nat.le_of_ble_eq_true rfl) d_M_seen_27 ?_
  refine jW.heap (σ2 := σ ++ rC b ta 0 F0 F1 F2 HH kt kp a hi tm sN sx sy pt mn pl pN px py sn lt rc tx sz us D0 D1 D2 qx qy di up dn be op gs t0 fr lf pX pY pD pU X) (rT (ix := 0) hl rfl) ?_
  refine j_aload_n B d_M_seen_30 rfl 0 rfl ?_
  refine gf_M_102 B (rG (ix := 0) hl rfl) rfl d_M_seen_31 ?_
  refine j_if_le B d_M_seen_34 rfl (fun h34 => ?_) (fun h34 => absurd (by decide) h34)
  refine j_iload_n B d_M_seen_41 rfl 2 rfl ?_
  refine j_if_ne B d_M_seen_42 rfl (fun h42 => ?_) (fun h42 => absurd h42 (by decide))
  refine j_aload_n B d_M_seen_54 rfl 0 rfl ?_
  refine gf_M_53 B (rG (ix := 0) hl rfl) rfl d_M_seen_55 ?_
  refine j_iload_n B d_M_seen_58 rfl 1 rfl ?_
  refine j_ialdN B rfl (rG (ix := 15) hl rfl) (by omega) d_M_seen_59 ?_
  exact j_iret B K rfl rfl d_M_seen_60
set_option maxRecDepth 100000 in
set_option maxHeartbeats 4000000 in
theorem c_M_seen_f {l : Launch} {b : Nat} {D : va_G} {ta : Nat → ClassId} {σ : List va_E} (hl : σ.length = 133) {wt : Int32} {F0 : Nat → Int32} {F1 : Nat → Int32} {F2 : Nat → Int32} {HH : Nat → Int32} {kt : Nat → Int32} {kp : Nat → Int32} {a : Nat} {hi : Nat} {tm : Nat} {sN : Nat} {sx : Nat → Int32} {sy : Nat → Int32} {pt : Nat → Int64} {mn : Nat → Int32} {pl : Nat → Int32} {pN : Nat} {px : Nat → Int32} {py : Nat → Int32} {sn : Nat → Int32} {lt : Nat → Int32} {rc : Nat → Int64} {tx : Nat → Int32} {sz : Nat → Int32} {us : Nat → Int32} {D0 : Nat → Int32} {D1 : Nat → Int32} {D2 : Nat → Int32} {qx : Int32} {qy : Int32} {di : Nat} {up : Bool} {dn : Nat} {be : Bool} {op : Nat} {gs : Nat → Int32} {t0 : Nat → Int32} {fr : Nat → Int32} {lf : Nat → Int32} {pX : Nat → Int32} {pY : Nat → Int32} {pD : Nat → Int32} {pU : Nat → Int32} {X : List va_E} {x v : Int32} (hf : x < 0 ∨ nI pN ≤ x ∨ v < 0 ∨ 1 < v) : jC l b D ta False y_M_seen b_M_seen 3 (some .int) (rL 0) [.ref (b + 133), .int x, .int v] (σ ++ rC b ta wt F0 F1 F2 HH kt kp a hi tm sN sx sy pt mn pl pN px py sn lt rc tx sz us D0 D1 D2 qx qy di up dn be op gs t0 fr lf pX pY pD pU X) (some (.int 0)) (σ ++ rC b ta 1 F0 F1 F2 HH kt kp a hi tm sN sx sy pt mn pl pN px py sn lt rc tx sz us D0 D1 D2 qx qy di up dn be op gs t0 fr lf pX pY pD pU X) := by
  refine jC_of (own := "WireFieldModel") (by decide +kernel) (Nat.le_of_ble_eq_true rfl) rfl (fun Γ B K => ?_)
  change jW l b D Γ False 0 0 3 (σ ++ rC b ta wt F0 F1 F2 HH kt kp a hi tm sN sx sy pt mn pl pN px py sn lt rc tx sz us D0 D1 D2 qx qy di up dn be op gs t0 fr lf pX pY pD pU X) [(0, .ref (b + 133)), (1, .int x), (2, .int v)] 0 []
  refine j_aload_n B d_M_seen_0 rfl 0 rfl ?_
  refine j_iload_n B d_M_seen_1 rfl 1 rfl ?_
  refine j_if_lt B d_M_seen_2 rfl (fun h2 => ?_) (fun h2 => ?_)
  · -- 2 jump
    refine j_iconst (v := 1) B d_M_seen_22 (by decide) ?_
    refine j_goto B d_M_seen_23 rfl ?_
    refine pf_M_102 B not_false (rG (ix := 0) hl rfl) rfl rfl (Nat.le_of_ble_eq_true rfl) d_M_seen_27 ?_
    refine jW.heap (σ2 := σ ++ rC b ta 1 F0 F1 F2 HH kt kp a hi tm sN sx sy pt mn pl pN px py sn lt rc tx sz us D0 D1 D2 qx qy di up dn be op gs t0 fr lf pX pY pD pU X) (rT (ix := 0) hl rfl) ?_
    refine j_aload_n B d_M_seen_30 rfl 0 rfl ?_
    refine gf_M_102 B (rG (ix := 0) hl rfl) rfl d_M_seen_31 ?_
    refine j_if_le B d_M_seen_34 rfl (fun h34 => absurd h34 (by decide)) (fun h34 => ?_)
    refine j_iconst (v := 0) B d_M_seen_37 (by decide) ?_
    refine j_goto B d_M_seen_38 rfl ?_
    exact j_iret B K rfl rfl d_M_seen_60
  · -- 2 on
    refine j_iload_n B d_M_seen_5 rfl 1 rfl ?_
    refine j_aload_n B d_M_seen_6 rfl 0 rfl ?_
    refine gf_M_128 B (rG (ix := 0) hl rfl) rfl d_M_seen_7 ?_
    refine j_icmp_ge B d_M_seen_10 rfl (fun h10 => ?_) (fun h10 => ?_)
    · -- 10 jump
      refine j_iconst (v := 1) B d_M_seen_22 (by decide) ?_
      refine j_goto B d_M_seen_23 rfl ?_
      refine pf_M_102 B not_false (rG (ix := 0) hl rfl) rfl rfl (Nat.le_of_ble_eq_true rfl) d_M_seen_27 ?_
      refine jW.heap (σ2 := σ ++ rC b ta 1 F0 F1 F2 HH kt kp a hi tm sN sx sy pt mn pl pN px py sn lt rc tx sz us D0 D1 D2 qx qy di up dn be op gs t0 fr lf pX pY pD pU X) (rT (ix := 0) hl rfl) ?_
      refine j_aload_n B d_M_seen_30 rfl 0 rfl ?_
      refine gf_M_102 B (rG (ix := 0) hl rfl) rfl d_M_seen_31 ?_
      refine j_if_le B d_M_seen_34 rfl (fun h34 => absurd h34 (by decide)) (fun h34 => ?_)
      refine j_iconst (v := 0) B d_M_seen_37 (by decide) ?_
      refine j_goto B d_M_seen_38 rfl ?_
      exact j_iret B K rfl rfl d_M_seen_60
    · -- 10 on
      refine j_iload_n B d_M_seen_13 rfl 2 rfl ?_
      refine j_if_lt B d_M_seen_14 rfl (fun h14 => ?_) (fun h14 => ?_)
      · -- 14 jump
        refine j_iconst (v := 1) B d_M_seen_22 (by decide) ?_
        refine j_goto B d_M_seen_23 rfl ?_
        refine pf_M_102 B not_false (rG (ix := 0) hl rfl) rfl rfl (Nat.le_of_ble_eq_true rfl) d_M_seen_27 ?_
        refine jW.heap (σ2 := σ ++ rC b ta 1 F0 F1 F2 HH kt kp a hi tm sN sx sy pt mn pl pN px py sn lt rc tx sz us D0 D1 D2 qx qy di up dn be op gs t0 fr lf pX pY pD pU X) (rT (ix := 0) hl rfl) ?_
        refine j_aload_n B d_M_seen_30 rfl 0 rfl ?_
        refine gf_M_102 B (rG (ix := 0) hl rfl) rfl d_M_seen_31 ?_
        refine j_if_le B d_M_seen_34 rfl (fun h34 => absurd h34 (by decide)) (fun h34 => ?_)
        refine j_iconst (v := 0) B d_M_seen_37 (by decide) ?_
        refine j_goto B d_M_seen_38 rfl ?_
        exact j_iret B K rfl rfl d_M_seen_60
      · -- 14 on
        refine j_iload_n B d_M_seen_17 rfl 2 rfl ?_
        refine j_iconst (v := 1) B d_M_seen_18 (by decide) ?_
        refine j_icmp_le B d_M_seen_19 rfl (fun h19 => ?_) (fun h19 => ?_)
        · -- 19 jump
          exact absurd hf (fun q => q.elim h2 (fun q => q.elim h10 (fun q => q.elim h14 (fun q => Int32.not_lt.mpr h19 q))))
        · -- 19 on
          refine j_iconst (v := 1) B d_M_seen_22 (by decide) ?_
          refine j_goto B d_M_seen_23 rfl ?_
          refine pf_M_102 B not_false (rG (ix := 0) hl rfl) rfl rfl (Nat.le_of_ble_eq_true rfl) d_M_seen_27 ?_
          refine jW.heap (σ2 := σ ++ rC b ta 1 F0 F1 F2 HH kt kp a hi tm sN sx sy pt mn pl pN px py sn lt rc tx sz us D0 D1 D2 qx qy di up dn be op gs t0 fr lf pX pY pD pU X) (rT (ix := 0) hl rfl) ?_
          refine j_aload_n B d_M_seen_30 rfl 0 rfl ?_
          refine gf_M_102 B (rG (ix := 0) hl rfl) rfl d_M_seen_31 ?_
          refine j_if_le B d_M_seen_34 rfl (fun h34 => absurd h34 (by decide)) (fun h34 => ?_)
          refine j_iconst (v := 0) B d_M_seen_37 (by decide) ?_
          refine j_goto B d_M_seen_38 rfl ?_
          exact j_iret B K rfl rfl d_M_seen_60
set_option maxRecDepth 100000 in
set_option maxHeartbeats 4000000 in
theorem c_M_record_t {l : Launch} {b : Nat} {D : va_G} {ta : Nat → ClassId} {σ : List va_E} (hl : σ.length = 133) {wt : Int32} {F0 : Nat → Int32} {F1 : Nat → Int32} {F2 : Nat → Int32} {HH : Nat → Int32} {kt : Nat → Int32} {kp : Nat → Int32} {a : Nat} {hi : Nat} {tm : Nat} {sN : Nat} {sx : Nat → Int32} {sy : Nat → Int32} {pt : Nat → Int64} {mn : Nat → Int32} {pl : Nat → Int32} {pN : Nat} {px : Nat → Int32} {py : Nat → Int32} {sn : Nat → Int32} {lt : Nat → Int32} {rc : Nat → Int64} {tx : Nat → Int32} {sz : Nat → Int32} {us : Nat → Int32} {D0 : Nat → Int32} {D1 : Nat → Int32} {D2 : Nat → Int32} {qx : Int32} {qy : Int32} {di : Nat} {up : Bool} {dn : Nat} {be : Bool} {op : Nat} {gs : Nat → Int32} {t0 : Nat → Int32} {fr : Nat → Int32} {lf : Nat → Int32} {pX : Nat → Int32} {pY : Nat → Int32} {pD : Nat → Int32} {pU : Nat → Int32} {X : List va_E} {j : Nat} (hj : j < pN) (hp : pN ≤ 4) : jC l b D ta False y_M_record b_M_record 2 (some .long) (rL 0) [.ref (b + 133), .int (nI j)] (σ ++ rC b ta wt F0 F1 F2 HH kt kp a hi tm sN sx sy pt mn pl pN px py sn lt rc tx sz us D0 D1 D2 qx qy di up dn be op gs t0 fr lf pX pY pD pU X) (some (.long (rc j))) (σ ++ rC b ta 0 F0 F1 F2 HH kt kp a hi tm sN sx sy pt mn pl pN px py sn lt rc tx sz us D0 D1 D2 qx qy di up dn be op gs t0 fr lf pX pY pD pU X) := by
  refine jC_of (own := "WireFieldModel") (by decide +kernel) (Nat.le_of_ble_eq_true rfl) rfl (fun Γ B K => ?_)
  change jW l b D Γ False 0 0 2 (σ ++ rC b ta wt F0 F1 F2 HH kt kp a hi tm sN sx sy pt mn pl pN px py sn lt rc tx sz us D0 D1 D2 qx qy di up dn be op gs t0 fr lf pX pY pD pU X) [(0, .ref (b + 133)), (1, .int (nI j))] 0 []
  refine j_aload_n B d_M_record_0 rfl 0 rfl ?_
  refine j_iconst (v := 0) B d_M_record_1 (by decide) ?_
  refine pf_M_102 B not_false (rG (ix := 0) hl rfl) rfl rfl (Nat.le_of_ble_eq_true rfl) d_M_record_2 ?_
  refine jW.heap (σ2 := σ ++ rC b ta 0 F0 F1 F2 HH kt kp a hi tm sN sx sy pt mn pl pN px py sn lt rc tx sz us D0 D1 D2 qx qy di up dn be op gs t0 fr lf pX pY pD pU X) (rT (ix := 0) hl rfl) ?_
  refine j_iload_n B d_M_record_5 rfl 1 rfl ?_
  refine j_if_lt B d_M_record_6 rfl (fun h6 => absurd h6 (nI_pos (by omega))) (fun h6 => ?_)
  refine j_iload_n B d_M_record_9 rfl 1 rfl ?_
  refine j_aload_n B d_M_record_10 rfl 0 rfl ?_
  refine gf_M_128 B (rG (ix := 0) hl rfl) rfl d_M_record_11 ?_
  refine j_icmp_lt B d_M_record_14 rfl (fun h14 => ?_) (fun h14 => absurd (nI_lt hj (by omega)) h14)
  refine j_aload_n B d_M_record_21 rfl 0 rfl ?_
  refine gf_M_56 B (rG (ix := 0) hl rfl) rfl d_M_record_22 ?_
  refine j_iload_n B d_M_record_25 rfl 1 rfl ?_
  refine j_laldN B rfl (rG (ix := 16) hl rfl) (by omega) d_M_record_26 ?_
  exact j_lret B K rfl rfl d_M_record_27
set_option maxRecDepth 100000 in
set_option maxHeartbeats 4000000 in
theorem c_M_record_f {l : Launch} {b : Nat} {D : va_G} {ta : Nat → ClassId} {σ : List va_E} (hl : σ.length = 133) {wt : Int32} {F0 : Nat → Int32} {F1 : Nat → Int32} {F2 : Nat → Int32} {HH : Nat → Int32} {kt : Nat → Int32} {kp : Nat → Int32} {a : Nat} {hi : Nat} {tm : Nat} {sN : Nat} {sx : Nat → Int32} {sy : Nat → Int32} {pt : Nat → Int64} {mn : Nat → Int32} {pl : Nat → Int32} {pN : Nat} {px : Nat → Int32} {py : Nat → Int32} {sn : Nat → Int32} {lt : Nat → Int32} {rc : Nat → Int64} {tx : Nat → Int32} {sz : Nat → Int32} {us : Nat → Int32} {D0 : Nat → Int32} {D1 : Nat → Int32} {D2 : Nat → Int32} {qx : Int32} {qy : Int32} {di : Nat} {up : Bool} {dn : Nat} {be : Bool} {op : Nat} {gs : Nat → Int32} {t0 : Nat → Int32} {fr : Nat → Int32} {lf : Nat → Int32} {pX : Nat → Int32} {pY : Nat → Int32} {pD : Nat → Int32} {pU : Nat → Int32} {X : List va_E} {x : Int32} (hf : x < 0 ∨ nI pN ≤ x) : jC l b D ta False y_M_record b_M_record 2 (some .long) (rL 0) [.ref (b + 133), .int x] (σ ++ rC b ta wt F0 F1 F2 HH kt kp a hi tm sN sx sy pt mn pl pN px py sn lt rc tx sz us D0 D1 D2 qx qy di up dn be op gs t0 fr lf pX pY pD pU X) (some (.long 0)) (σ ++ rC b ta 0 F0 F1 F2 HH kt kp a hi tm sN sx sy pt mn pl pN px py sn lt rc tx sz us D0 D1 D2 qx qy di up dn be op gs t0 fr lf pX pY pD pU X) := by
  refine jC_of (own := "WireFieldModel") (by decide +kernel) (Nat.le_of_ble_eq_true rfl) rfl (fun Γ B K => ?_)
  change jW l b D Γ False 0 0 2 (σ ++ rC b ta wt F0 F1 F2 HH kt kp a hi tm sN sx sy pt mn pl pN px py sn lt rc tx sz us D0 D1 D2 qx qy di up dn be op gs t0 fr lf pX pY pD pU X) [(0, .ref (b + 133)), (1, .int x)] 0 []
  refine j_aload_n B d_M_record_0 rfl 0 rfl ?_
  refine j_iconst (v := 0) B d_M_record_1 (by decide) ?_
  refine pf_M_102 B not_false (rG (ix := 0) hl rfl) rfl rfl (Nat.le_of_ble_eq_true rfl) d_M_record_2 ?_
  refine jW.heap (σ2 := σ ++ rC b ta 0 F0 F1 F2 HH kt kp a hi tm sN sx sy pt mn pl pN px py sn lt rc tx sz us D0 D1 D2 qx qy di up dn be op gs t0 fr lf pX pY pD pU X) (rT (ix := 0) hl rfl) ?_
  refine j_iload_n B d_M_record_5 rfl 1 rfl ?_
  refine j_if_lt B d_M_record_6 rfl (fun h6 => ?_) (fun h6 => ?_)
  · -- 6 jump
    refine j_lconst (v := 0) B d_M_record_17 (by decide) ?_
    refine j_goto B d_M_record_18 rfl ?_
    exact j_lret B K rfl rfl d_M_record_27
  · -- 6 on
    refine j_iload_n B d_M_record_9 rfl 1 rfl ?_
    refine j_aload_n B d_M_record_10 rfl 0 rfl ?_
    refine gf_M_128 B (rG (ix := 0) hl rfl) rfl d_M_record_11 ?_
    refine j_icmp_lt B d_M_record_14 rfl (fun h14 => ?_) (fun h14 => ?_)
    · -- 14 jump
      exact absurd hf (fun q => q.elim h6 (fun q => Int32.not_lt.mpr q h14))
    · -- 14 on
      refine j_lconst (v := 0) B d_M_record_17 (by decide) ?_
      refine j_goto B d_M_record_18 rfl ?_
      exact j_lret B K rfl rfl d_M_record_27
set_option maxRecDepth 100000 in
set_option maxHeartbeats 4000000 in
theorem c_M_count {l : Launch} {b : Nat} {D : va_G} {ta : Nat → ClassId} {σ : List va_E} (hl : σ.length = 133) {wt : Int32} {F0 : Nat → Int32} {F1 : Nat → Int32} {F2 : Nat → Int32} {HH : Nat → Int32} {kt : Nat → Int32} {kp : Nat → Int32} {a : Nat} {hi : Nat} {tm : Nat} {sN : Nat} {sx : Nat → Int32} {sy : Nat → Int32} {pt : Nat → Int64} {mn : Nat → Int32} {pl : Nat → Int32} {pN : Nat} {px : Nat → Int32} {py : Nat → Int32} {sn : Nat → Int32} {lt : Nat → Int32} {rc : Nat → Int64} {tx : Nat → Int32} {sz : Nat → Int32} {us : Nat → Int32} {D0 : Nat → Int32} {D1 : Nat → Int32} {D2 : Nat → Int32} {qx : Int32} {qy : Int32} {di : Nat} {up : Bool} {dn : Nat} {be : Bool} {op : Nat} {gs : Nat → Int32} {t0 : Nat → Int32} {fr : Nat → Int32} {lf : Nat → Int32} {pX : Nat → Int32} {pY : Nat → Int32} {pD : Nat → Int32} {pU : Nat → Int32} {X : List va_E} (v : Int32) : jC l b D ta False y_M_count b_M_count 5 (some .int) (rL 1) [.ref (b + 133), .int v] (σ ++ rC b ta wt F0 F1 F2 HH kt kp a hi tm sN sx sy pt mn pl pN px py sn lt rc tx sz us D0 D1 D2 qx qy di up dn be op gs t0 fr lf pX pY pD pU X) (some (.int (cntR (selF F0 F1 F2 v) 768))) (σ ++ rC b ta wt F0 F1 F2 HH kt kp a hi tm sN sx sy pt mn pl pN px py sn lt rc tx sz us D0 D1 D2 qx qy di up dn be op gs t0 fr lf pX pY pD pU X) := by
  refine jC_of (own := "WireFieldModel") (by decide +kernel) (Nat.le_of_ble_eq_true rfl) rfl (fun Γ B K => ?_)
  change jW l b D Γ False 0 0 5 (σ ++ rC b ta wt F0 F1 F2 HH kt kp a hi tm sN sx sy pt mn pl pN px py sn lt rc tx sz us D0 D1 D2 qx qy di up dn be op gs t0 fr lf pX pY pD pU X) [(0, .ref (b + 133)), (1, .int v)] 0 []
  refine j_iconst (v := 0) B d_M_count_0 (by decide) ?_
  refine j_istore_n (L' := [(0, .ref (b + 133)), (1, .int v), (2, .int 0)]) B d_M_count_1 rfl (by decide) [1, 2, 0] rfl ?_
  refine j_iconst (v := 0) B d_M_count_2 (by decide) ?_
  refine j_istore_n (L' := [(0, .ref (b + 133)), (1, .int v), (2, .int 0), (3, .int 0)]) B d_M_count_3 rfl (by decide) [1, 2, 3, 0] rfl ?_
  have lp4 : ∀ (n4 : Nat) (k : Nat) (acc : Int32), 768 - k = n4 → (k ≤ 768) → (acc = cntR (selF F0 F1 F2 v) k) → jW l b D Γ False 0 0 5 (σ ++ rC b ta wt F0 F1 F2 HH kt kp a hi tm sN sx sy pt mn pl pN px py sn lt rc tx sz us D0 D1 D2 qx qy di up dn be op gs t0 fr lf pX pY pD pU X) [(0, .ref (b + 133)), (1, .int v), (2, .int acc), (3, .int (nI k))] 4 [] := by
    refine jloop (fun n4 ih4 => ?_)
    intro k acc hn4 hk ha
    refine j_iload_n B d_M_count_4 rfl 3 rfl ?_
    refine j_sipush (v := 768) B d_M_count_5 (by decide) ?_
    refine j_icmp_ge B d_M_count_8 rfl (fun h8 => ?_) (fun h8 => ?_)
    · -- 8 jump
      have hk2 := lp_ge (n := 768) (by decide) hk h8
      subst hk2
      refine j_iload_n B d_M_count_74 rfl 2 rfl ?_
      exact j_iret B K ha rfl d_M_count_75
    · -- 8 on
      have hk2 := lp_lt (n := 768) (by decide) hk h8
      refine j_iload_n B d_M_count_11 rfl 1 rfl ?_
      refine j_iconst (v := 1) B d_M_count_12 (by decide) ?_
      have j54 : ∀ x : Int32, x = (if v = 1 then F0 (k / 32) else if v = 2 then F1 (k / 32) else F2 (k / 32)) → jW l b D Γ False 0 0 5 (σ ++ rC b ta wt F0 F1 F2 HH kt kp a hi tm sN sx sy pt mn pl pN px py sn lt rc tx sz us D0 D1 D2 qx qy di up dn be op gs t0 fr lf pX pY pD pU X) [(0, .ref (b + 133)), (1, .int v), (2, .int acc), (3, .int (nI k))] 54 [.int x] := by
        intro x e_x
        refine j_istore (L' := [(0, .ref (b + 133)), (1, .int v), (2, .int acc), (3, .int (nI k)), (4, .int x)]) B d_M_count_54 (by decide) [1, 2, 3, 4, 0] rfl ?_
        refine j_iload_n B d_M_count_56 rfl 2 rfl ?_
        refine j_iload B d_M_count_57 4 rfl ?_
        refine j_iload_n B d_M_count_59 rfl 3 rfl ?_
        refine j_bipush (v := 32) B d_M_count_60 (by decide) ?_
        refine j_iremE (v := nI (k % 32)) B (by decide) (pk_rem (a := k) (d := 32) (by omega) (by decide) (by decide)) d_M_count_62 ?_
        refine k_callS (as := [.int x, .int (nI (k % 32))]) (rest := [.int acc]) (st1 := [.int (btR x (nI (k % 32))), .int acc]) B (c_M_bit x (nI (k % 32))) yf_M_bit w_853 w_854 rfl (by decide) (by decide) rfl rfl (Nat.le_of_ble_eq_true rfl) d_M_count_63 ?_
        refine j_iadd B d_M_count_66 ?_
        refine j_istore_n (L' := [(0, .ref (b + 133)), (1, .int v), (2, .int (acc + (btR x (nI (k % 32))))), (3, .int (nI k)), (4, .int x)]) B d_M_count_67 rfl (by decide) [1, 2, 0, 3, 4] rfl ?_
        refine j_iinc (L' := [(0, .ref (b + 133)), (1, .int v), (2, .int (acc + (btR x (nI (k % 32))))), (3, .int (nI (k + 1))), (4, .int x)]) (v := nI (k + 1)) B d_M_count_68 (k := 3) rfl (nI_succ k).symm (by decide) [1, 2, 3, 0, 4] rfl ?_
        refine j_goto B d_M_count_71 rfl ?_
        refine jW.sub (L' := [(0, .ref (b + 133)), (1, .int v), (2, .int (acc + (btR x (nI (k % 32))))), (3, .int (nI (k + 1)))]) [0, 1, 2, 3] rfl ?_; exact ih4 _ (by omega) (k + 1) (acc + (btR x (nI (k % 32)))) rfl (by omega) (by rw [ha, e_x]; rfl)
      refine j_icmp_ne B d_M_count_13 rfl (fun h13 => ?_) (fun h13 => ?_)
      · -- 13 jump
        refine j_iload_n B d_M_count_28 rfl 1 rfl ?_
        refine j_iconst (v := 2) B d_M_count_29 (by decide) ?_
        refine j_icmp_ne B d_M_count_30 rfl (fun h30 => ?_) (fun h30 => ?_)
        · -- 30 jump
          refine j_aload_n B d_M_count_45 rfl 0 rfl ?_
          refine gf_M_16 B (rG (ix := 0) hl rfl) rfl d_M_count_46 ?_
          refine j_iload_n B d_M_count_49 rfl 3 rfl ?_
          refine j_bipush (v := 32) B d_M_count_50 (by decide) ?_
          refine j_idivE (v := nI (k / 32)) B (by decide) (pk_div (a := k) (d := 32) (by omega) (by decide) (by decide)) d_M_count_52 ?_
          refine j_ialdN B rfl (rG (ix := 3) hl rfl) (by omega) d_M_count_53 ?_
          exact j54 _ (by rw [if_neg h13, if_neg h30])
        · -- 30 on
          refine j_aload_n B d_M_count_33 rfl 0 rfl ?_
          refine gf_M_13 B (rG (ix := 0) hl rfl) rfl d_M_count_34 ?_
          refine j_iload_n B d_M_count_37 rfl 3 rfl ?_
          refine j_bipush (v := 32) B d_M_count_38 (by decide) ?_
          refine j_idivE (v := nI (k / 32)) B (by decide) (pk_div (a := k) (d := 32) (by omega) (by decide) (by decide)) d_M_count_40 ?_
          refine j_ialdN B rfl (rG (ix := 2) hl rfl) (by omega) d_M_count_41 ?_
          refine j_goto B d_M_count_42 rfl ?_
          exact j54 _ (by rw [if_neg h13, if_pos h30])
      · -- 13 on
        refine j_aload_n B d_M_count_16 rfl 0 rfl ?_
        refine gf_M_7 B (rG (ix := 0) hl rfl) rfl d_M_count_17 ?_
        refine j_iload_n B d_M_count_20 rfl 3 rfl ?_
        refine j_bipush (v := 32) B d_M_count_21 (by decide) ?_
        refine j_idivE (v := nI (k / 32)) B (by decide) (pk_div (a := k) (d := 32) (by omega) (by decide) (by decide)) d_M_count_23 ?_
        refine j_ialdN B rfl (rG (ix := 1) hl rfl) (by omega) d_M_count_24 ?_
        refine j_goto B d_M_count_25 rfl ?_
        exact j54 _ (by rw [if_pos h13])
  exact lp4 _ 0 0 rfl (by omega) rfl
set_option maxRecDepth 100000 in
set_option maxHeartbeats 4000000 in
theorem c_M_look {l : Launch} {b : Nat} {D : va_G} {ta : Nat → ClassId} {σ : List va_E} (hl : σ.length = 133) {wt : Int32} {F0 : Nat → Int32} {F1 : Nat → Int32} {F2 : Nat → Int32} {HH : Nat → Int32} {kt : Nat → Int32} {kp : Nat → Int32} {a : Nat} {hi : Nat} {tm : Nat} {sN : Nat} {sx : Nat → Int32} {sy : Nat → Int32} {pt : Nat → Int64} {mn : Nat → Int32} {pl : Nat → Int32} {pN : Nat} {px : Nat → Int32} {py : Nat → Int32} {sn : Nat → Int32} {lt : Nat → Int32} {rc : Nat → Int64} {tx : Nat → Int32} {sz : Nat → Int32} {us : Nat → Int32} {D0 : Nat → Int32} {D1 : Nat → Int32} {D2 : Nat → Int32} {qx : Int32} {qy : Int32} {di : Nat} {up : Bool} {dn : Nat} {be : Bool} {op : Nat} {gs : Nat → Int32} {t0 : Nat → Int32} {fr : Nat → Int32} {lf : Nat → Int32} {pX : Nat → Int32} {pY : Nat → Int32} {pD : Nat → Int32} {pU : Nat → Int32} {X : List va_E} (v : Int32) : jC l b D ta False y_M_look b_M_look 2 (some .int) (rL 2) [.ref (b + 133), .int v] (σ ++ rC b ta wt F0 F1 F2 HH kt kp a hi tm sN sx sy pt mn pl pN px py sn lt rc tx sz us D0 D1 D2 qx qy di up dn be op gs t0 fr lf pX pY pD pU X) (some (.int (lkR F0 F1 F2 tm hi sN pN (sz 4) v))) (σ ++ rC b ta 0 F0 F1 F2 HH kt kp a hi tm sN sx sy pt mn pl pN px py sn lt rc tx sz us D0 D1 D2 qx qy di up dn be op gs t0 fr lf pX pY pD pU X) := by
  refine jC_of (own := "WireFieldModel") (by decide +kernel) (Nat.le_of_ble_eq_true rfl) rfl (fun Γ B K => ?_)
  change jW l b D Γ False 0 0 2 (σ ++ rC b ta wt F0 F1 F2 HH kt kp a hi tm sN sx sy pt mn pl pN px py sn lt rc tx sz us D0 D1 D2 qx qy di up dn be op gs t0 fr lf pX pY pD pU X) [(0, .ref (b + 133)), (1, .int v)] 0 []
  refine j_aload_n B d_M_look_0 rfl 0 rfl ?_
  refine j_iconst (v := 0) B d_M_look_1 (by decide) ?_
  refine pf_M_102 B not_false (rG (ix := 0) hl rfl) rfl rfl (Nat.le_of_ble_eq_true rfl) d_M_look_2 ?_
  refine jW.heap (σ2 := σ ++ rC b ta 0 F0 F1 F2 HH kt kp a hi tm sN sx sy pt mn pl pN px py sn lt rc tx sz us D0 D1 D2 qx qy di up dn be op gs t0 fr lf pX pY pD pU X) (rT (ix := 0) hl rfl) ?_
  refine j_iload_n B d_M_look_5 rfl 1 rfl ?_
  refine j_iconst (v := 4) B d_M_look_6 (by decide) ?_
  refine j_icmp_ge B d_M_look_7 rfl (fun h7 => ?_) (fun h7 => ?_)
  · -- 7 jump
    refine j_iload_n B d_M_look_35 rfl 1 rfl ?_
    refine j_iconst (v := 4) B d_M_look_36 (by decide) ?_
    refine j_icmp_ne B d_M_look_37 rfl (fun h37 => ?_) (fun h37 => ?_)
    · -- 37 jump
      refine j_iload_n B d_M_look_47 rfl 1 rfl ?_
      refine j_iconst (v := 5) B d_M_look_48 (by decide) ?_
      refine j_icmp_ne B d_M_look_49 rfl (fun h49 => ?_) (fun h49 => ?_)
      · -- 49 jump
        refine j_iload_n B d_M_look_59 rfl 1 rfl ?_
        refine j_bipush (v := 6) B d_M_look_60 (by decide) ?_
        refine j_icmp_ne B d_M_look_62 rfl (fun h62 => ?_) (fun h62 => ?_)
        · -- 62 jump
          refine j_iload_n B d_M_look_72 rfl 1 rfl ?_
          refine j_bipush (v := 7) B d_M_look_73 (by decide) ?_
          refine j_icmp_ne B d_M_look_75 rfl (fun h75 => ?_) (fun h75 => ?_)
          · -- 75 jump
            refine j_iconst (v := (-1)) B d_M_look_87 (by decide) ?_
            exact j_iret B K (by simp [lkR, h7, h37, h49, h62, h75]) rfl d_M_look_88
          · -- 75 on
            refine j_aload_n B d_M_look_78 rfl 0 rfl ?_
            refine gf_M_62 B (rG (ix := 0) hl rfl) rfl d_M_look_79 ?_
            refine j_iconst (v := nI 4) B d_M_look_82 (by decide) ?_
            refine j_ialdN B rfl (rG (ix := 18) hl rfl) (by omega) d_M_look_83 ?_
            refine j_goto B d_M_look_84 rfl ?_
            exact j_iret B K (by simp [lkR, h7, h37, h49, h62, h75]) rfl d_M_look_88
        · -- 62 on
          refine j_aload_n B d_M_look_65 rfl 0 rfl ?_
          refine gf_M_128 B (rG (ix := 0) hl rfl) rfl d_M_look_66 ?_
          refine j_goto B d_M_look_69 rfl ?_
          exact j_iret B K (by simp [lkR, h7, h37, h49, h62]) rfl d_M_look_88
      · -- 49 on
        refine j_aload_n B d_M_look_52 rfl 0 rfl ?_
        refine gf_M_119 B (rG (ix := 0) hl rfl) rfl d_M_look_53 ?_
        refine j_goto B d_M_look_56 rfl ?_
        exact j_iret B K (by simp [lkR, h7, h37, h49]) rfl d_M_look_88
    · -- 37 on
      refine j_aload_n B d_M_look_40 rfl 0 rfl ?_
      refine gf_M_113 B (rG (ix := 0) hl rfl) rfl d_M_look_41 ?_
      refine j_goto B d_M_look_44 rfl ?_
      exact j_iret B K (by simp [lkR, h7, h37]) rfl d_M_look_88
  · -- 7 on
    refine j_iload_n B d_M_look_10 rfl 1 rfl ?_
    refine j_if_ne B d_M_look_11 rfl (fun h11 => ?_) (fun h11 => ?_)
    · -- 11 jump
      refine j_iload_n B d_M_look_21 rfl 1 rfl ?_
      refine j_if_le B d_M_look_22 rfl (fun h22 => ?_) (fun h22 => ?_)
      · -- 22 jump
        refine j_iconst (v := (-1)) B d_M_look_33 (by decide) ?_
        exact j_iret B K (by simp [lkR, h7, h11, h22]) rfl d_M_look_34
      · -- 22 on
        refine j_aload_n B d_M_look_25 rfl 0 rfl ?_
        refine j_iload_n B d_M_look_26 rfl 1 rfl ?_
        refine k_callV (as := [.int v]) (rest := []) (st1 := [.int (cntR (selF F0 F1 F2 v) 768)]) B (c_M_count hl v) yf_M_count w_857 w_859 w_s27 rfl (rG (ix := 0) hl rfl) rfl (by decide) (by decide) rfl rfl (Nat.le_of_ble_eq_true rfl) d_M_look_27 ?_
        refine j_goto B d_M_look_30 rfl ?_
        exact j_iret B K (by simp [lkR, h7, h11, h22]) rfl d_M_look_34
    · -- 11 on
      refine j_aload_n B d_M_look_14 rfl 0 rfl ?_
      refine gf_M_125 B (rG (ix := 0) hl rfl) rfl d_M_look_15 ?_
      refine j_goto B d_M_look_18 rfl ?_
      exact j_iret B K (by simp [lkR, h7, h11]) rfl d_M_look_34
set_option maxRecDepth 100000 in
set_option maxHeartbeats 4000000 in
theorem c_M_generation {l : Launch} {b : Nat} {D : va_G} {ta : Nat → ClassId} {σ : List va_E} (hl : σ.length = 133) {wt : Int32} {F0 : Nat → Int32} {F1 : Nat → Int32} {F2 : Nat → Int32} {HH : Nat → Int32} {kt : Nat → Int32} {kp : Nat → Int32} {a : Nat} {hi : Nat} {tm : Nat} {sN : Nat} {sx : Nat → Int32} {sy : Nat → Int32} {pt : Nat → Int64} {mn : Nat → Int32} {pl : Nat → Int32} {pN : Nat} {px : Nat → Int32} {py : Nat → Int32} {sn : Nat → Int32} {lt : Nat → Int32} {rc : Nat → Int64} {tx : Nat → Int32} {sz : Nat → Int32} {us : Nat → Int32} {D0 : Nat → Int32} {D1 : Nat → Int32} {D2 : Nat → Int32} {qx : Int32} {qy : Int32} {di : Nat} {up : Bool} {dn : Nat} {be : Bool} {op : Nat} {gs : Nat → Int32} {t0 : Nat → Int32} {fr : Nat → Int32} {lf : Nat → Int32} {pX : Nat → Int32} {pY : Nat → Int32} {pD : Nat → Int32} {pU : Nat → Int32} {X : List va_E} (ha : a < 16) (hhi : hi ≤ 16) (hsN : sN ≤ 4) (hpN : pN ≤ 4) (hsy : ∀ k, k < sN → inF (sx k) (sy k) = true) (hpy : ∀ k, k < pN → inF (px k) (py k) = true) (hmn : ∀ k, k < sN → ¬ mn k = 0) : jC l b D ta False y_M_generation b_M_generation 3 none (rL 2) [.ref (b + 133)] (σ ++ rC b ta wt F0 F1 F2 HH kt kp a hi tm sN sx sy pt mn pl pN px py sn lt rc tx sz us D0 D1 D2 qx qy di up dn be op gs t0 fr lf pX pY pD pU X) none (σ ++ rC b ta wt ((genR sN pN sx sy pt mn px py ((F0, F1, F2), HH, kt, kp, a, hi, tm, pl, (rc, sn, lt))).1.1) ((genR sN pN sx sy pt mn px py ((F0, F1, F2), HH, kt, kp, a, hi, tm, pl, (rc, sn, lt))).1.2.1) ((genR sN pN sx sy pt mn px py ((F0, F1, F2), HH, kt, kp, a, hi, tm, pl, (rc, sn, lt))).1.2.2) ((genR sN pN sx sy pt mn px py ((F0, F1, F2), HH, kt, kp, a, hi, tm, pl, (rc, sn, lt))).2.1) ((genR sN pN sx sy pt mn px py ((F0, F1, F2), HH, kt, kp, a, hi, tm, pl, (rc, sn, lt))).2.2.1) ((genR sN pN sx sy pt mn px py ((F0, F1, F2), HH, kt, kp, a, hi, tm, pl, (rc, sn, lt))).2.2.2.1) ((genR sN pN sx sy pt mn px py ((F0, F1, F2), HH, kt, kp, a, hi, tm, pl, (rc, sn, lt))).2.2.2.2.1) ((genR sN pN sx sy pt mn px py ((F0, F1, F2), HH, kt, kp, a, hi, tm, pl, (rc, sn, lt))).2.2.2.2.2.1) ((genR sN pN sx sy pt mn px py ((F0, F1, F2), HH, kt, kp, a, hi, tm, pl, (rc, sn, lt))).2.2.2.2.2.2.1) sN sx sy pt mn ((genR sN pN sx sy pt mn px py ((F0, F1, F2), HH, kt, kp, a, hi, tm, pl, (rc, sn, lt))).2.2.2.2.2.2.2.1) pN px py ((genR sN pN sx sy pt mn px py ((F0, F1, F2), HH, kt, kp, a, hi, tm, pl, (rc, sn, lt))).2.2.2.2.2.2.2.2.2.1) ((genR sN pN sx sy pt mn px py ((F0, F1, F2), HH, kt, kp, a, hi, tm, pl, (rc, sn, lt))).2.2.2.2.2.2.2.2.2.2) ((genR sN pN sx sy pt mn px py ((F0, F1, F2), HH, kt, kp, a, hi, tm, pl, (rc, sn, lt))).2.2.2.2.2.2.2.2.1) tx sz us D0 D1 D2 qx qy di up dn be op gs t0 fr lf pX pY pD pU X) := by
  refine jC_of (own := "WireFieldModel") (by decide +kernel) (Nat.le_of_ble_eq_true rfl) rfl (fun Γ B K => ?_)
  change jW l b D Γ False 0 0 3 (σ ++ rC b ta wt F0 F1 F2 HH kt kp a hi tm sN sx sy pt mn pl pN px py sn lt rc tx sz us D0 D1 D2 qx qy di up dn be op gs t0 fr lf pX pY pD pU X) [(0, .ref (b + 133))] 0 []
  refine j_aload_n B d_M_generation_0 rfl 0 rfl ?_
  refine k_callV (as := []) (rest := []) (st1 := []) B (c_M_keep hl ha hhi) yf_M_keep w_841 w_843 w_s24 rfl (rG (ix := 0) hl rfl) rfl (by decide) (by decide) rfl rfl (Nat.le_of_ble_eq_true rfl) d_M_generation_1 ?_
  refine j_iconst (v := 0) B d_M_generation_4 (by decide) ?_
  refine j_istore_n (L' := [(0, .ref (b + 133)), (1, .int 0)]) B d_M_generation_5 rfl (by decide) [1, 0] rfl ?_
  have lp6 : ∀ (n6 : Nat) (k : Nat) (G0 : Nat → Int32) (G2 : Nat → Int32) (q : Nat → Int32), sN - k = n6 → (k ≤ sN) → ((G0, G2, q) = gsS sx sy pt mn (F0, F2, pl) k) → jW l b D Γ False 0 0 3 (σ ++ rC b ta wt G0 F1 G2 HH (ktF kt a F0 F1 F2 24) (kpF kp a pl 4) ((a + 1) % 16) (khi hi) tm sN sx sy pt mn q pN px py sn lt rc tx sz us D0 D1 D2 qx qy di up dn be op gs t0 fr lf pX pY pD pU X) [(0, .ref (b + 133)), (1, .int (nI k))] 6 [] := by
    refine jloop (fun n6 ih6 => ?_)
    intro k G0 G2 q hn6 hk hI
    refine j_iload_n B d_M_generation_6 rfl 1 rfl ?_
    refine j_aload_n B d_M_generation_7 rfl 0 rfl ?_
    refine gf_M_119 B (rG (ix := 0) hl rfl) rfl d_M_generation_8 ?_
    refine j_icmp_ge B d_M_generation_11 rfl (fun h11 => ?_) (fun h11 => ?_)
    · -- 11 jump
      have hk2 : sN = k := (lp_ge (by omega) hk h11).symm
      subst hk2
      have q1 : G0 = (gsS sx sy pt mn (F0, F2, pl) sN).1 := congrArg (fun z => z.1) hI
      have q2 : G2 = (gsS sx sy pt mn (F0, F2, pl) sN).2.1 := congrArg (fun z => z.2.1) hI
      have q3 : q = (gsS sx sy pt mn (F0, F2, pl) sN).2.2 := congrArg (fun z => z.2.2) hI
      clear hI
      subst q1 q2 q3
      refine j_iconst (v := 0) B d_M_generation_118 (by decide) ?_
      refine j_istore_n (L' := [(0, .ref (b + 133)), (1, .int 0)]) B d_M_generation_119 rfl (by decide) [1, 0] rfl ?_
      have lp120 : ∀ (n120 : Nat) (r : Nat), 24 - r = n120 → (r ≤ 24) → jW l b D Γ False 0 0 3 (σ ++ rC b ta wt ((gsS sx sy pt mn (F0, F2, pl) sN).1) F1 ((gsS sx sy pt mn (F0, F2, pl) sN).2.1) (hcF HH (gsS sx sy pt mn (F0, F2, pl) sN).1 r) (ktF kt a F0 F1 F2 24) (kpF kp a pl 4) ((a + 1) % 16) (khi hi) tm sN sx sy pt mn ((gsS sx sy pt mn (F0, F2, pl) sN).2.2) pN px py sn lt rc tx sz us D0 D1 D2 qx qy di up dn be op gs t0 fr lf pX pY pD pU X) [(0, .ref (b + 133)), (1, .int (nI r))] 120 [] := by
        refine jloop (fun n120 ih120 => ?_)
        intro r hn120 hr
        refine j_iload_n B d_M_generation_120 rfl 1 rfl ?_
        refine j_bipush (v := 24) B d_M_generation_121 (by decide) ?_
        refine j_icmp_ge B d_M_generation_123 rfl (fun h123 => ?_) (fun h123 => ?_)
        · -- 123 jump
          have hr2 := lp_ge (n := 24) (by decide) hr h123
          subst hr2
          refine j_iconst (v := 0) B d_M_generation_144 (by decide) ?_
          refine j_istore_n (L' := [(0, .ref (b + 133)), (1, .int 0)]) B d_M_generation_145 rfl (by decide) [1, 0] rfl ?_
          have lp146 : ∀ (n146 : Nat) (r : Nat), 24 - r = n146 → (r ≤ 24) → jW l b D Γ False 0 0 3 (σ ++ rC b ta wt ((nsS (hcF HH (gsS sx sy pt mn (F0, F2, pl) sN).1 24) ((gsS sx sy pt mn (F0, F2, pl) sN).1, F1, (gsS sx sy pt mn (F0, F2, pl) sN).2.1) r).1) ((nsS (hcF HH (gsS sx sy pt mn (F0, F2, pl) sN).1 24) ((gsS sx sy pt mn (F0, F2, pl) sN).1, F1, (gsS sx sy pt mn (F0, F2, pl) sN).2.1) r).2.1) ((nsS (hcF HH (gsS sx sy pt mn (F0, F2, pl) sN).1 24) ((gsS sx sy pt mn (F0, F2, pl) sN).1, F1, (gsS sx sy pt mn (F0, F2, pl) sN).2.1) r).2.2) (hcF HH (gsS sx sy pt mn (F0, F2, pl) sN).1 24) (ktF kt a F0 F1 F2 24) (kpF kp a pl 4) ((a + 1) % 16) (khi hi) tm sN sx sy pt mn ((gsS sx sy pt mn (F0, F2, pl) sN).2.2) pN px py sn lt rc tx sz us D0 D1 D2 qx qy di up dn be op gs t0 fr lf pX pY pD pU X) [(0, .ref (b + 133)), (1, .int (nI r))] 146 [] := by
            refine jloop (fun n146 ih146 => ?_)
            intro r hn146 hr
            refine j_iload_n B d_M_generation_146 rfl 1 rfl ?_
            refine j_bipush (v := 24) B d_M_generation_147 (by decide) ?_
            refine j_icmp_ge B d_M_generation_149 rfl (fun h149 => ?_) (fun h149 => ?_)
            · -- 149 jump
              have hr2 := lp_ge (n := 24) (by decide) hr h149
              subst hr2
              refine j_aload_n B d_M_generation_213 rfl 0 rfl ?_
              refine j_dup B d_M_generation_214 rfl ?_
              refine gf_M_125 B (rG (ix := 0) hl rfl) rfl d_M_generation_215 ?_
              refine j_iconst (v := 1) B d_M_generation_218 (by decide) ?_
              refine j_iaddE (v := nI (tm + 1)) B (nI_add tm 1) d_M_generation_219 ?_
              refine pf_M_125 B not_false (rG (ix := 0) hl rfl) rfl rfl (Nat.le_of_ble_eq_true rfl) d_M_generation_220 ?_
              refine jW.heap (σ2 := σ ++ rC b ta wt ((nsS (hcF HH (gsS sx sy pt mn (F0, F2, pl) sN).1 24) ((gsS sx sy pt mn (F0, F2, pl) sN).1, F1, (gsS sx sy pt mn (F0, F2, pl) sN).2.1) 24).1) ((nsS (hcF HH (gsS sx sy pt mn (F0, F2, pl) sN).1 24) ((gsS sx sy pt mn (F0, F2, pl) sN).1, F1, (gsS sx sy pt mn (F0, F2, pl) sN).2.1) 24).2.1) ((nsS (hcF HH (gsS sx sy pt mn (F0, F2, pl) sN).1 24) ((gsS sx sy pt mn (F0, F2, pl) sN).1, F1, (gsS sx sy pt mn (F0, F2, pl) sN).2.1) 24).2.2) (hcF HH (gsS sx sy pt mn (F0, F2, pl) sN).1 24) (ktF kt a F0 F1 F2 24) (kpF kp a pl 4) ((a + 1) % 16) (khi hi) (tm + 1) sN sx sy pt mn ((gsS sx sy pt mn (F0, F2, pl) sN).2.2) pN px py sn lt rc tx sz us D0 D1 D2 qx qy di up dn be op gs t0 fr lf pX pY pD pU X) (rT (ix := 0) hl rfl) ?_
              refine j_iconst (v := 0) B d_M_generation_223 (by decide) ?_
              refine j_istore_n (L' := [(0, .ref (b + 133)), (1, .int 0)]) B d_M_generation_224 rfl (by decide) [1, 0] rfl ?_
              have lp225 : ∀ (n225 : Nat) (k : Nat) (R0 : Nat → Int64) (R1 : Nat → Int32) (R2 : Nat → Int32), pN - k = n225 → (k ≤ pN) → ((R0, R1, R2) = pbS px py (nsS (hcF HH (gsS sx sy pt mn (F0, F2, pl) sN).1 24) ((gsS sx sy pt mn (F0, F2, pl) sN).1, F1, (gsS sx sy pt mn (F0, F2, pl) sN).2.1) 24).1 (nI (tm + 1)) (rc, sn, lt) k) → jW l b D Γ False 0 0 3 (σ ++ rC b ta wt ((nsS (hcF HH (gsS sx sy pt mn (F0, F2, pl) sN).1 24) ((gsS sx sy pt mn (F0, F2, pl) sN).1, F1, (gsS sx sy pt mn (F0, F2, pl) sN).2.1) 24).1) ((nsS (hcF HH (gsS sx sy pt mn (F0, F2, pl) sN).1 24) ((gsS sx sy pt mn (F0, F2, pl) sN).1, F1, (gsS sx sy pt mn (F0, F2, pl) sN).2.1) 24).2.1) ((nsS (hcF HH (gsS sx sy pt mn (F0, F2, pl) sN).1 24) ((gsS sx sy pt mn (F0, F2, pl) sN).1, F1, (gsS sx sy pt mn (F0, F2, pl) sN).2.1) 24).2.2) (hcF HH (gsS sx sy pt mn (F0, F2, pl) sN).1 24) (ktF kt a F0 F1 F2 24) (kpF kp a pl 4) ((a + 1) % 16) (khi hi) (tm + 1) sN sx sy pt mn ((gsS sx sy pt mn (F0, F2, pl) sN).2.2) pN px py R1 R2 R0 tx sz us D0 D1 D2 qx qy di up dn be op gs t0 fr lf pX pY pD pU X) [(0, .ref (b + 133)), (1, .int (nI k))] 225 [] := by
                refine jloop (fun n225 ih225 => ?_)
                intro k R0 R1 R2 hn225 hk hI
                refine j_iload_n B d_M_generation_225 rfl 1 rfl ?_
                refine j_aload_n B d_M_generation_226 rfl 0 rfl ?_
                refine gf_M_128 B (rG (ix := 0) hl rfl) rfl d_M_generation_227 ?_
                refine j_icmp_ge B d_M_generation_230 rfl (fun h230 => ?_) (fun h230 => ?_)
                · -- 230 jump
                  have hk2 : pN = k := (lp_ge (by omega) hk h230).symm
                  subst hk2
                  have q1 : R0 = (pbS px py (nsS (hcF HH (gsS sx sy pt mn (F0, F2, pl) sN).1 24) ((gsS sx sy pt mn (F0, F2, pl) sN).1, F1, (gsS sx sy pt mn (F0, F2, pl) sN).2.1) 24).1 (nI (tm + 1)) (rc, sn, lt) pN).1 := congrArg (fun z => z.1) hI
                  have q2 : R1 = (pbS px py (nsS (hcF HH (gsS sx sy pt mn (F0, F2, pl) sN).1 24) ((gsS sx sy pt mn (F0, F2, pl) sN).1, F1, (gsS sx sy pt mn (F0, F2, pl) sN).2.1) 24).1 (nI (tm + 1)) (rc, sn, lt) pN).2.1 := congrArg (fun z => z.2.1) hI
                  have q3 : R2 = (pbS px py (nsS (hcF HH (gsS sx sy pt mn (F0, F2, pl) sN).1 24) ((gsS sx sy pt mn (F0, F2, pl) sN).1, F1, (gsS sx sy pt mn (F0, F2, pl) sN).2.1) 24).1 (nI (tm + 1)) (rc, sn, lt) pN).2.2 := congrArg (fun z => z.2.2) hI
                  clear hI
                  subst q1 q2 q3
                  exact j_vret B K rfl d_M_generation_313
                · -- 230 on
                  have hk2 := lp_lt (by omega) hk h230
                  refine j_aload_n B d_M_generation_233 rfl 0 rfl ?_
                  refine gf_M_7 B (rG (ix := 0) hl rfl) rfl d_M_generation_234 ?_
                  refine j_aload_n B d_M_generation_237 rfl 0 rfl ?_
                  refine gf_M_47 B (rG (ix := 0) hl rfl) rfl d_M_generation_238 ?_
                  refine j_iload_n B d_M_generation_241 rfl 1 rfl ?_
                  refine j_ialdN B rfl (rG (ix := 13) hl rfl) (by omega) d_M_generation_242 ?_
                  refine j_iald B rfl (rG (ix := 1) hl rfl) (inF_in (hpy k (by omega))) d_M_generation_243 ?_
                  refine j_aload_n B d_M_generation_244 rfl 0 rfl ?_
                  refine gf_M_44 B (rG (ix := 0) hl rfl) rfl d_M_generation_245 ?_
                  refine j_iload_n B d_M_generation_248 rfl 1 rfl ?_
                  refine j_ialdN B rfl (rG (ix := 12) hl rfl) (by omega) d_M_generation_249 ?_
                  refine k_callS (as := [.int (((nsS (hcF HH (gsS sx sy pt mn (F0, F2, pl) sN).1 24) ((gsS sx sy pt mn (F0, F2, pl) sN).1, F1, (gsS sx sy pt mn (F0, F2, pl) sN).2.1) 24).1) (py k).toNatClampNeg), .int (px k)]) (rest := []) (st1 := [.int (btR (((nsS (hcF HH (gsS sx sy pt mn (F0, F2, pl) sN).1 24) ((gsS sx sy pt mn (F0, F2, pl) sN).1, F1, (gsS sx sy pt mn (F0, F2, pl) sN).2.1) 24).1) (py k).toNatClampNeg) (px k))]) B (c_M_bit (((nsS (hcF HH (gsS sx sy pt mn (F0, F2, pl) sN).1 24) ((gsS sx sy pt mn (F0, F2, pl) sN).1, F1, (gsS sx sy pt mn (F0, F2, pl) sN).2.1) 24).1) (py k).toNatClampNeg) (px k)) yf_M_bit w_853 w_854 rfl (by decide) (by decide) rfl rfl (Nat.le_of_ble_eq_true rfl) d_M_generation_250 ?_
                  refine j_istore_n (L' := [(0, .ref (b + 133)), (1, .int (nI k)), (2, .int (btR (((nsS (hcF HH (gsS sx sy pt mn (F0, F2, pl) sN).1 24) ((gsS sx sy pt mn (F0, F2, pl) sN).1, F1, (gsS sx sy pt mn (F0, F2, pl) sN).2.1) 24).1) (py k).toNatClampNeg) (px k)))]) B d_M_generation_253 rfl (by decide) [1, 2, 0] rfl ?_
                  refine j_aload_n B d_M_generation_254 rfl 0 rfl ?_
                  refine gf_M_56 B (rG (ix := 0) hl rfl) rfl d_M_generation_255 ?_
                  refine j_iload_n B d_M_generation_258 rfl 1 rfl ?_
                  refine j_aload_n B d_M_generation_259 rfl 0 rfl ?_
                  refine gf_M_56 B (rG (ix := 0) hl rfl) rfl d_M_generation_260 ?_
                  refine j_iload_n B d_M_generation_263 rfl 1 rfl ?_
                  refine j_laldN B rfl (rG (ix := 16) hl rfl) (by omega) d_M_generation_264 ?_
                  refine j_ldc2 B w_856 d_M_generation_265 ?_
                  refine j_lmul B d_M_generation_268 ?_
                  refine j_iload_n B d_M_generation_269 rfl 2 rfl ?_
                  refine j_i2l B d_M_generation_270 rfl ?_
                  refine j_ladd B d_M_generation_271 ?_
                  refine j_lastN B not_false rfl (rG (ix := 16) hl rfl) (by omega) d_M_generation_272 ?_
                  refine jW.heap (σ2 := σ ++ rC b ta wt ((nsS (hcF HH (gsS sx sy pt mn (F0, F2, pl) sN).1 24) ((gsS sx sy pt mn (F0, F2, pl) sN).1, F1, (gsS sx sy pt mn (F0, F2, pl) sN).2.1) 24).1) ((nsS (hcF HH (gsS sx sy pt mn (F0, F2, pl) sN).1 24) ((gsS sx sy pt mn (F0, F2, pl) sN).1, F1, (gsS sx sy pt mn (F0, F2, pl) sN).2.1) 24).2.1) ((nsS (hcF HH (gsS sx sy pt mn (F0, F2, pl) sN).1 24) ((gsS sx sy pt mn (F0, F2, pl) sN).1, F1, (gsS sx sy pt mn (F0, F2, pl) sN).2.1) 24).2.2) (hcF HH (gsS sx sy pt mn (F0, F2, pl) sN).1 24) (ktF kt a F0 F1 F2 24) (kpF kp a pl 4) ((a + 1) % 16) (khi hi) (tm + 1) sN sx sy pt mn ((gsS sx sy pt mn (F0, F2, pl) sN).2.2) pN px py R1 R2 (vp_updL R0 k (((R0 k) * 2) + ((btR (((nsS (hcF HH (gsS sx sy pt mn (F0, F2, pl) sN).1 24) ((gsS sx sy pt mn (F0, F2, pl) sN).1, F1, (gsS sx sy pt mn (F0, F2, pl) sN).2.1) 24).1) (py k).toNatClampNeg) (px k)).toInt64))) tx sz us D0 D1 D2 qx qy di up dn be op gs t0 fr lf pX pY pD pU X) (rT (ix := 16) hl rfl) ?_
                  refine j_aload_n B d_M_generation_273 rfl 0 rfl ?_
                  refine gf_M_50 B (rG (ix := 0) hl rfl) rfl d_M_generation_274 ?_
                  refine j_iload_n B d_M_generation_277 rfl 1 rfl ?_
                  refine j_dup2 B d_M_generation_278 rfl rfl ?_
                  refine j_ialdN B rfl (rG (ix := 14) hl rfl) (by omega) d_M_generation_279 ?_
                  refine j_iload_n B d_M_generation_280 rfl 2 rfl ?_
                  refine j_iadd B d_M_generation_281 ?_
                  refine j_iastN B not_false rfl (rG (ix := 14) hl rfl) (by omega) d_M_generation_282 ?_
                  refine jW.heap (σ2 := σ ++ rC b ta wt ((nsS (hcF HH (gsS sx sy pt mn (F0, F2, pl) sN).1 24) ((gsS sx sy pt mn (F0, F2, pl) sN).1, F1, (gsS sx sy pt mn (F0, F2, pl) sN).2.1) 24).1) ((nsS (hcF HH (gsS sx sy pt mn (F0, F2, pl) sN).1 24) ((gsS sx sy pt mn (F0, F2, pl) sN).1, F1, (gsS sx sy pt mn (F0, F2, pl) sN).2.1) 24).2.1) ((nsS (hcF HH (gsS sx sy pt mn (F0, F2, pl) sN).1 24) ((gsS sx sy pt mn (F0, F2, pl) sN).1, F1, (gsS sx sy pt mn (F0, F2, pl) sN).2.1) 24).2.2) (hcF HH (gsS sx sy pt mn (F0, F2, pl) sN).1 24) (ktF kt a F0 F1 F2 24) (kpF kp a pl 4) ((a + 1) % 16) (khi hi) (tm + 1) sN sx sy pt mn ((gsS sx sy pt mn (F0, F2, pl) sN).2.2) pN px py (upd R1 k ((R1 k) + (btR (((nsS (hcF HH (gsS sx sy pt mn (F0, F2, pl) sN).1 24) ((gsS sx sy pt mn (F0, F2, pl) sN).1, F1, (gsS sx sy pt mn (F0, F2, pl) sN).2.1) 24).1) (py k).toNatClampNeg) (px k)))) R2 (vp_updL R0 k (((R0 k) * 2) + ((btR (((nsS (hcF HH (gsS sx sy pt mn (F0, F2, pl) sN).1 24) ((gsS sx sy pt mn (F0, F2, pl) sN).1, F1, (gsS sx sy pt mn (F0, F2, pl) sN).2.1) 24).1) (py k).toNatClampNeg) (px k)).toInt64))) tx sz us D0 D1 D2 qx qy di up dn be op gs t0 fr lf pX pY pD pU X) (rT (ix := 14) hl rfl) ?_
                  refine j_aload_n B d_M_generation_283 rfl 0 rfl ?_
                  refine gf_M_53 B (rG (ix := 0) hl rfl) rfl d_M_generation_284 ?_
                  refine j_iload_n B d_M_generation_287 rfl 1 rfl ?_
                  refine j_iload_n B d_M_generation_288 rfl 2 rfl ?_
                  refine j_iconst (v := 1) B d_M_generation_289 (by decide) ?_
                  refine j_icmp_ne B d_M_generation_290 rfl (fun h290 => ?_) (fun h290 => ?_)
                  · -- 290 jump
                    refine j_aload_n B d_M_generation_300 rfl 0 rfl ?_
                    refine gf_M_53 B (rG (ix := 0) hl rfl) rfl d_M_generation_301 ?_
                    refine j_iload_n B d_M_generation_304 rfl 1 rfl ?_
                    refine j_ialdN B rfl (rG (ix := 15) hl rfl) (by omega) d_M_generation_305 ?_
                    refine j_iastN B not_false rfl (rG (ix := 15) hl rfl) (by omega) d_M_generation_306 ?_
                    refine jW.heap (σ2 := σ ++ rC b ta wt ((nsS (hcF HH (gsS sx sy pt mn (F0, F2, pl) sN).1 24) ((gsS sx sy pt mn (F0, F2, pl) sN).1, F1, (gsS sx sy pt mn (F0, F2, pl) sN).2.1) 24).1) ((nsS (hcF HH (gsS sx sy pt mn (F0, F2, pl) sN).1 24) ((gsS sx sy pt mn (F0, F2, pl) sN).1, F1, (gsS sx sy pt mn (F0, F2, pl) sN).2.1) 24).2.1) ((nsS (hcF HH (gsS sx sy pt mn (F0, F2, pl) sN).1 24) ((gsS sx sy pt mn (F0, F2, pl) sN).1, F1, (gsS sx sy pt mn (F0, F2, pl) sN).2.1) 24).2.2) (hcF HH (gsS sx sy pt mn (F0, F2, pl) sN).1 24) (ktF kt a F0 F1 F2 24) (kpF kp a pl 4) ((a + 1) % 16) (khi hi) (tm + 1) sN sx sy pt mn ((gsS sx sy pt mn (F0, F2, pl) sN).2.2) pN px py (upd R1 k ((R1 k) + (btR (((nsS (hcF HH (gsS sx sy pt mn (F0, F2, pl) sN).1 24) ((gsS sx sy pt mn (F0, F2, pl) sN).1, F1, (gsS sx sy pt mn (F0, F2, pl) sN).2.1) 24).1) (py k).toNatClampNeg) (px k)))) (upd R2 k (R2 k)) (vp_updL R0 k (((R0 k) * 2) + ((btR (((nsS (hcF HH (gsS sx sy pt mn (F0, F2, pl) sN).1 24) ((gsS sx sy pt mn (F0, F2, pl) sN).1, F1, (gsS sx sy pt mn (F0, F2, pl) sN).2.1) 24).1) (py k).toNatClampNeg) (px k)).toInt64))) tx sz us D0 D1 D2 qx qy di up dn be op gs t0 fr lf pX pY pD pU X) (rT (ix := 15) hl rfl) ?_
                    refine j_iinc (L' := [(0, .ref (b + 133)), (1, .int (nI (k + 1))), (2, .int (btR (((nsS (hcF HH (gsS sx sy pt mn (F0, F2, pl) sN).1 24) ((gsS sx sy pt mn (F0, F2, pl) sN).1, F1, (gsS sx sy pt mn (F0, F2, pl) sN).2.1) 24).1) (py k).toNatClampNeg) (px k)))]) (v := nI (k + 1)) B d_M_generation_307 (k := 1) rfl (nI_succ k).symm (by decide) [1, 0, 2] rfl ?_
                    refine j_goto B d_M_generation_310 rfl ?_
                    refine jW.sub (L' := [(0, .ref (b + 133)), (1, .int (nI (k + 1)))]) [0, 1] rfl ?_; exact ih225 _ (by omega) (k + 1) (vp_updL R0 k (((R0 k) * 2) + ((btR (((nsS (hcF HH (gsS sx sy pt mn (F0, F2, pl) sN).1 24) ((gsS sx sy pt mn (F0, F2, pl) sN).1, F1, (gsS sx sy pt mn (F0, F2, pl) sN).2.1) 24).1) (py k).toNatClampNeg) (px k)).toInt64))) (upd R1 k ((R1 k) + (btR (((nsS (hcF HH (gsS sx sy pt mn (F0, F2, pl) sN).1 24) ((gsS sx sy pt mn (F0, F2, pl) sN).1, F1, (gsS sx sy pt mn (F0, F2, pl) sN).2.1) 24).1) (py k).toNatClampNeg) (px k)))) (upd R2 k (R2 k)) rfl (by omega) (by rw [pbS, ← hI]; exact (if_neg h290).symm)
                  · -- 290 on
                    refine j_aload_n B d_M_generation_293 rfl 0 rfl ?_
                    refine gf_M_125 B (rG (ix := 0) hl rfl) rfl d_M_generation_294 ?_
                    refine j_goto B d_M_generation_297 rfl ?_
                    refine j_iastN B not_false rfl (rG (ix := 15) hl rfl) (by omega) d_M_generation_306 ?_
                    refine jW.heap (σ2 := σ ++ rC b ta wt ((nsS (hcF HH (gsS sx sy pt mn (F0, F2, pl) sN).1 24) ((gsS sx sy pt mn (F0, F2, pl) sN).1, F1, (gsS sx sy pt mn (F0, F2, pl) sN).2.1) 24).1) ((nsS (hcF HH (gsS sx sy pt mn (F0, F2, pl) sN).1 24) ((gsS sx sy pt mn (F0, F2, pl) sN).1, F1, (gsS sx sy pt mn (F0, F2, pl) sN).2.1) 24).2.1) ((nsS (hcF HH (gsS sx sy pt mn (F0, F2, pl) sN).1 24) ((gsS sx sy pt mn (F0, F2, pl) sN).1, F1, (gsS sx sy pt mn (F0, F2, pl) sN).2.1) 24).2.2) (hcF HH (gsS sx sy pt mn (F0, F2, pl) sN).1 24) (ktF kt a F0 F1 F2 24) (kpF kp a pl 4) ((a + 1) % 16) (khi hi) (tm + 1) sN sx sy pt mn ((gsS sx sy pt mn (F0, F2, pl) sN).2.2) pN px py (upd R1 k ((R1 k) + (btR (((nsS (hcF HH (gsS sx sy pt mn (F0, F2, pl) sN).1 24) ((gsS sx sy pt mn (F0, F2, pl) sN).1, F1, (gsS sx sy pt mn (F0, F2, pl) sN).2.1) 24).1) (py k).toNatClampNeg) (px k)))) (upd R2 k (nI (tm + 1))) (vp_updL R0 k (((R0 k) * 2) + ((btR (((nsS (hcF HH (gsS sx sy pt mn (F0, F2, pl) sN).1 24) ((gsS sx sy pt mn (F0, F2, pl) sN).1, F1, (gsS sx sy pt mn (F0, F2, pl) sN).2.1) 24).1) (py k).toNatClampNeg) (px k)).toInt64))) tx sz us D0 D1 D2 qx qy di up dn be op gs t0 fr lf pX pY pD pU X) (rT (ix := 15) hl rfl) ?_
                    refine j_iinc (L' := [(0, .ref (b + 133)), (1, .int (nI (k + 1))), (2, .int (btR (((nsS (hcF HH (gsS sx sy pt mn (F0, F2, pl) sN).1 24) ((gsS sx sy pt mn (F0, F2, pl) sN).1, F1, (gsS sx sy pt mn (F0, F2, pl) sN).2.1) 24).1) (py k).toNatClampNeg) (px k)))]) (v := nI (k + 1)) B d_M_generation_307 (k := 1) rfl (nI_succ k).symm (by decide) [1, 0, 2] rfl ?_
                    refine j_goto B d_M_generation_310 rfl ?_
                    refine jW.sub (L' := [(0, .ref (b + 133)), (1, .int (nI (k + 1)))]) [0, 1] rfl ?_; exact ih225 _ (by omega) (k + 1) (vp_updL R0 k (((R0 k) * 2) + ((btR (((nsS (hcF HH (gsS sx sy pt mn (F0, F2, pl) sN).1 24) ((gsS sx sy pt mn (F0, F2, pl) sN).1, F1, (gsS sx sy pt mn (F0, F2, pl) sN).2.1) 24).1) (py k).toNatClampNeg) (px k)).toInt64))) (upd R1 k ((R1 k) + (btR (((nsS (hcF HH (gsS sx sy pt mn (F0, F2, pl) sN).1 24) ((gsS sx sy pt mn (F0, F2, pl) sN).1, F1, (gsS sx sy pt mn (F0, F2, pl) sN).2.1) 24).1) (py k).toNatClampNeg) (px k)))) (upd R2 k (nI (tm + 1))) rfl (by omega) (by rw [pbS, ← hI]; exact (if_pos h290).symm)
              exact lp225 _ 0 rc sn lt rfl (by omega) rfl
            · -- 149 on
              have hr2 := lp_lt (n := 24) (by decide) hr h149
              refine j_aload_n B d_M_generation_152 rfl 0 rfl ?_
              refine gf_M_16 B (rG (ix := 0) hl rfl) rfl d_M_generation_153 ?_
              refine j_iload_n B d_M_generation_156 rfl 1 rfl ?_
              refine j_ialdN B rfl (rG (ix := 3) hl rfl) (by omega) d_M_generation_157 ?_
              refine j_aload_n B d_M_generation_158 rfl 0 rfl ?_
              refine j_iload_n B d_M_generation_159 rfl 1 rfl ?_
              refine k_callV (as := [.int (nI r)]) (rest := [.int (((nsS (hcF HH (gsS sx sy pt mn (F0, F2, pl) sN).1 24) ((gsS sx sy pt mn (F0, F2, pl) sN).1, F1, (gsS sx sy pt mn (F0, F2, pl) sN).2.1) r).2.2) r)]) (st1 := [.int (litF (hcF HH (gsS sx sy pt mn (F0, F2, pl) sN).1 24) r), .int (((nsS (hcF HH (gsS sx sy pt mn (F0, F2, pl) sN).1 24) ((gsS sx sy pt mn (F0, F2, pl) sN).1, F1, (gsS sx sy pt mn (F0, F2, pl) sN).2.1) r).2.2) r)]) B (c_M_lit hl (r := r)) yf_M_lit w_845 w_847 w_s25 rfl (rG (ix := 0) hl rfl) rfl (by decide) (by decide) rfl rfl (Nat.le_of_ble_eq_true rfl) d_M_generation_160 ?_
              refine j_iand B d_M_generation_163 ?_
              refine j_istore_n (L' := [(0, .ref (b + 133)), (1, .int (nI r)), (2, .int ((((nsS (hcF HH (gsS sx sy pt mn (F0, F2, pl) sN).1 24) ((gsS sx sy pt mn (F0, F2, pl) sN).1, F1, (gsS sx sy pt mn (F0, F2, pl) sN).2.1) r).2.2) r) &&& (litF (hcF HH (gsS sx sy pt mn (F0, F2, pl) sN).1 24) r)))]) B d_M_generation_164 rfl (by decide) [1, 2, 0] rfl ?_
              refine j_aload_n B d_M_generation_165 rfl 0 rfl ?_
              refine gf_M_16 B (rG (ix := 0) hl rfl) rfl d_M_generation_166 ?_
              refine j_iload_n B d_M_generation_169 rfl 1 rfl ?_
              refine j_aload_n B d_M_generation_170 rfl 0 rfl ?_
              refine gf_M_16 B (rG (ix := 0) hl rfl) rfl d_M_generation_171 ?_
              refine j_iload_n B d_M_generation_174 rfl 1 rfl ?_
              refine j_ialdN B rfl (rG (ix := 3) hl rfl) (by omega) d_M_generation_175 ?_
              refine j_iload_n B d_M_generation_176 rfl 2 rfl ?_
              refine j_iconst (v := (-1)) B d_M_generation_177 (by decide) ?_
              refine j_ixor B d_M_generation_178 ?_
              refine j_iand B d_M_generation_179 ?_
              refine j_aload_n B d_M_generation_180 rfl 0 rfl ?_
              refine gf_M_13 B (rG (ix := 0) hl rfl) rfl d_M_generation_181 ?_
              refine j_iload_n B d_M_generation_184 rfl 1 rfl ?_
              refine j_ialdN B rfl (rG (ix := 2) hl rfl) (by omega) d_M_generation_185 ?_
              refine j_ior B d_M_generation_186 ?_
              refine j_iastN B not_false rfl (rG (ix := 3) hl rfl) (by omega) d_M_generation_187 ?_
              refine jW.heap (σ2 := σ ++ rC b ta wt ((nsS (hcF HH (gsS sx sy pt mn (F0, F2, pl) sN).1 24) ((gsS sx sy pt mn (F0, F2, pl) sN).1, F1, (gsS sx sy pt mn (F0, F2, pl) sN).2.1) r).1) ((nsS (hcF HH (gsS sx sy pt mn (F0, F2, pl) sN).1 24) ((gsS sx sy pt mn (F0, F2, pl) sN).1, F1, (gsS sx sy pt mn (F0, F2, pl) sN).2.1) r).2.1) (upd ((nsS (hcF HH (gsS sx sy pt mn (F0, F2, pl) sN).1 24) ((gsS sx sy pt mn (F0, F2, pl) sN).1, F1, (gsS sx sy pt mn (F0, F2, pl) sN).2.1) r).2.2) r (((((nsS (hcF HH (gsS sx sy pt mn (F0, F2, pl) sN).1 24) ((gsS sx sy pt mn (F0, F2, pl) sN).1, F1, (gsS sx sy pt mn (F0, F2, pl) sN).2.1) r).2.2) r) &&& (((((nsS (hcF HH (gsS sx sy pt mn (F0, F2, pl) sN).1 24) ((gsS sx sy pt mn (F0, F2, pl) sN).1, F1, (gsS sx sy pt mn (F0, F2, pl) sN).2.1) r).2.2) r) &&& (litF (hcF HH (gsS sx sy pt mn (F0, F2, pl) sN).1 24) r)) ^^^ (-1))) ||| (((nsS (hcF HH (gsS sx sy pt mn (F0, F2, pl) sN).1 24) ((gsS sx sy pt mn (F0, F2, pl) sN).1, F1, (gsS sx sy pt mn (F0, F2, pl) sN).2.1) r).2.1) r))) (hcF HH (gsS sx sy pt mn (F0, F2, pl) sN).1 24) (ktF kt a F0 F1 F2 24) (kpF kp a pl 4) ((a + 1) % 16) (khi hi) tm sN sx sy pt mn ((gsS sx sy pt mn (F0, F2, pl) sN).2.2) pN px py sn lt rc tx sz us D0 D1 D2 qx qy di up dn be op gs t0 fr lf pX pY pD pU X) (rT (ix := 3) hl rfl) ?_
              refine j_aload_n B d_M_generation_188 rfl 0 rfl ?_
              refine gf_M_13 B (rG (ix := 0) hl rfl) rfl d_M_generation_189 ?_
              refine j_iload_n B d_M_generation_192 rfl 1 rfl ?_
              refine j_aload_n B d_M_generation_193 rfl 0 rfl ?_
              refine gf_M_7 B (rG (ix := 0) hl rfl) rfl d_M_generation_194 ?_
              refine j_iload_n B d_M_generation_197 rfl 1 rfl ?_
              refine j_ialdN B rfl (rG (ix := 1) hl rfl) (by omega) d_M_generation_198 ?_
              refine j_iastN B not_false rfl (rG (ix := 2) hl rfl) (by omega) d_M_generation_199 ?_
              refine jW.heap (σ2 := σ ++ rC b ta wt ((nsS (hcF HH (gsS sx sy pt mn (F0, F2, pl) sN).1 24) ((gsS sx sy pt mn (F0, F2, pl) sN).1, F1, (gsS sx sy pt mn (F0, F2, pl) sN).2.1) r).1) (upd ((nsS (hcF HH (gsS sx sy pt mn (F0, F2, pl) sN).1 24) ((gsS sx sy pt mn (F0, F2, pl) sN).1, F1, (gsS sx sy pt mn (F0, F2, pl) sN).2.1) r).2.1) r (((nsS (hcF HH (gsS sx sy pt mn (F0, F2, pl) sN).1 24) ((gsS sx sy pt mn (F0, F2, pl) sN).1, F1, (gsS sx sy pt mn (F0, F2, pl) sN).2.1) r).1) r)) (upd ((nsS (hcF HH (gsS sx sy pt mn (F0, F2, pl) sN).1 24) ((gsS sx sy pt mn (F0, F2, pl) sN).1, F1, (gsS sx sy pt mn (F0, F2, pl) sN).2.1) r).2.2) r (((((nsS (hcF HH (gsS sx sy pt mn (F0, F2, pl) sN).1 24) ((gsS sx sy pt mn (F0, F2, pl) sN).1, F1, (gsS sx sy pt mn (F0, F2, pl) sN).2.1) r).2.2) r) &&& (((((nsS (hcF HH (gsS sx sy pt mn (F0, F2, pl) sN).1 24) ((gsS sx sy pt mn (F0, F2, pl) sN).1, F1, (gsS sx sy pt mn (F0, F2, pl) sN).2.1) r).2.2) r) &&& (litF (hcF HH (gsS sx sy pt mn (F0, F2, pl) sN).1 24) r)) ^^^ (-1))) ||| (((nsS (hcF HH (gsS sx sy pt mn (F0, F2, pl) sN).1 24) ((gsS sx sy pt mn (F0, F2, pl) sN).1, F1, (gsS sx sy pt mn (F0, F2, pl) sN).2.1) r).2.1) r))) (hcF HH (gsS sx sy pt mn (F0, F2, pl) sN).1 24) (ktF kt a F0 F1 F2 24) (kpF kp a pl 4) ((a + 1) % 16) (khi hi) tm sN sx sy pt mn ((gsS sx sy pt mn (F0, F2, pl) sN).2.2) pN px py sn lt rc tx sz us D0 D1 D2 qx qy di up dn be op gs t0 fr lf pX pY pD pU X) (rT (ix := 2) hl rfl) ?_
              refine j_aload_n B d_M_generation_200 rfl 0 rfl ?_
              refine gf_M_7 B (rG (ix := 0) hl rfl) rfl d_M_generation_201 ?_
              refine j_iload_n B d_M_generation_204 rfl 1 rfl ?_
              refine j_iload_n B d_M_generation_205 rfl 2 rfl ?_
              refine j_iastN B not_false rfl (rG (ix := 1) hl rfl) (by omega) d_M_generation_206 ?_
              refine jW.heap (σ2 := σ ++ rC b ta wt (upd ((nsS (hcF HH (gsS sx sy pt mn (F0, F2, pl) sN).1 24) ((gsS sx sy pt mn (F0, F2, pl) sN).1, F1, (gsS sx sy pt mn (F0, F2, pl) sN).2.1) r).1) r ((((nsS (hcF HH (gsS sx sy pt mn (F0, F2, pl) sN).1 24) ((gsS sx sy pt mn (F0, F2, pl) sN).1, F1, (gsS sx sy pt mn (F0, F2, pl) sN).2.1) r).2.2) r) &&& (litF (hcF HH (gsS sx sy pt mn (F0, F2, pl) sN).1 24) r))) (upd ((nsS (hcF HH (gsS sx sy pt mn (F0, F2, pl) sN).1 24) ((gsS sx sy pt mn (F0, F2, pl) sN).1, F1, (gsS sx sy pt mn (F0, F2, pl) sN).2.1) r).2.1) r (((nsS (hcF HH (gsS sx sy pt mn (F0, F2, pl) sN).1 24) ((gsS sx sy pt mn (F0, F2, pl) sN).1, F1, (gsS sx sy pt mn (F0, F2, pl) sN).2.1) r).1) r)) (upd ((nsS (hcF HH (gsS sx sy pt mn (F0, F2, pl) sN).1 24) ((gsS sx sy pt mn (F0, F2, pl) sN).1, F1, (gsS sx sy pt mn (F0, F2, pl) sN).2.1) r).2.2) r (((((nsS (hcF HH (gsS sx sy pt mn (F0, F2, pl) sN).1 24) ((gsS sx sy pt mn (F0, F2, pl) sN).1, F1, (gsS sx sy pt mn (F0, F2, pl) sN).2.1) r).2.2) r) &&& (((((nsS (hcF HH (gsS sx sy pt mn (F0, F2, pl) sN).1 24) ((gsS sx sy pt mn (F0, F2, pl) sN).1, F1, (gsS sx sy pt mn (F0, F2, pl) sN).2.1) r).2.2) r) &&& (litF (hcF HH (gsS sx sy pt mn (F0, F2, pl) sN).1 24) r)) ^^^ (-1))) ||| (((nsS (hcF HH (gsS sx sy pt mn (F0, F2, pl) sN).1 24) ((gsS sx sy pt mn (F0, F2, pl) sN).1, F1, (gsS sx sy pt mn (F0, F2, pl) sN).2.1) r).2.1) r))) (hcF HH (gsS sx sy pt mn (F0, F2, pl) sN).1 24) (ktF kt a F0 F1 F2 24) (kpF kp a pl 4) ((a + 1) % 16) (khi hi) tm sN sx sy pt mn ((gsS sx sy pt mn (F0, F2, pl) sN).2.2) pN px py sn lt rc tx sz us D0 D1 D2 qx qy di up dn be op gs t0 fr lf pX pY pD pU X) (rT (ix := 1) hl rfl) ?_
              refine j_iinc (L' := [(0, .ref (b + 133)), (1, .int (nI (r + 1))), (2, .int ((((nsS (hcF HH (gsS sx sy pt mn (F0, F2, pl) sN).1 24) ((gsS sx sy pt mn (F0, F2, pl) sN).1, F1, (gsS sx sy pt mn (F0, F2, pl) sN).2.1) r).2.2) r) &&& (litF (hcF HH (gsS sx sy pt mn (F0, F2, pl) sN).1 24) r)))]) (v := nI (r + 1)) B d_M_generation_207 (k := 1) rfl (nI_succ r).symm (by decide) [1, 0, 2] rfl ?_
              refine j_goto B d_M_generation_210 rfl ?_
              refine jW.sub (L' := [(0, .ref (b + 133)), (1, .int (nI (r + 1)))]) [0, 1] rfl ?_; exact ih146 _ (by omega) (r + 1) rfl (by omega)
          exact lp146 _ 0 rfl (by omega)
        · -- 123 on
          have hr2 := lp_lt (n := 24) (by decide) hr h123
          refine j_aload_n B d_M_generation_126 rfl 0 rfl ?_
          refine gf_M_19 B (rG (ix := 0) hl rfl) rfl d_M_generation_127 ?_
          refine j_iload_n B d_M_generation_130 rfl 1 rfl ?_
          refine j_aload_n B d_M_generation_131 rfl 0 rfl ?_
          refine gf_M_7 B (rG (ix := 0) hl rfl) rfl d_M_generation_132 ?_
          refine j_iload_n B d_M_generation_135 rfl 1 rfl ?_
          refine j_ialdN B rfl (rG (ix := 1) hl rfl) (by omega) d_M_generation_136 ?_
          refine j_iastN B not_false rfl (rG (ix := 4) hl rfl) (by omega) d_M_generation_137 ?_
          refine jW.heap (σ2 := σ ++ rC b ta wt ((gsS sx sy pt mn (F0, F2, pl) sN).1) F1 ((gsS sx sy pt mn (F0, F2, pl) sN).2.1) (upd (hcF HH (gsS sx sy pt mn (F0, F2, pl) sN).1 r) r (((gsS sx sy pt mn (F0, F2, pl) sN).1) r)) (ktF kt a F0 F1 F2 24) (kpF kp a pl 4) ((a + 1) % 16) (khi hi) tm sN sx sy pt mn ((gsS sx sy pt mn (F0, F2, pl) sN).2.2) pN px py sn lt rc tx sz us D0 D1 D2 qx qy di up dn be op gs t0 fr lf pX pY pD pU X) (rT (ix := 4) hl rfl) ?_
          refine j_iinc (L' := [(0, .ref (b + 133)), (1, .int (nI (r + 1)))]) (v := nI (r + 1)) B d_M_generation_138 (k := 1) rfl (nI_succ r).symm (by decide) [1, 0] rfl ?_
          refine j_goto B d_M_generation_141 rfl ?_
          exact ih120 _ (by omega) (r + 1) rfl (by omega)
      exact lp120 _ 0 rfl (by omega)
    · -- 11 on
      have hk2 := lp_lt (by omega) hk h11
      refine j_iconst (v := 1) B d_M_generation_14 (by decide) ?_
      refine j_aload_n B d_M_generation_15 rfl 0 rfl ?_
      refine gf_M_28 B (rG (ix := 0) hl rfl) rfl d_M_generation_16 ?_
      refine j_iload_n B d_M_generation_19 rfl 1 rfl ?_
      refine j_ialdN B rfl (rG (ix := 7) hl rfl) (by omega) d_M_generation_20 ?_
      refine j_ishl B d_M_generation_21 ?_
      refine j_istore_n (L' := [(0, .ref (b + 133)), (1, .int (nI k)), (2, .int (1 <<< ((sx k) &&& 31)))]) B d_M_generation_22 rfl (by decide) [1, 2, 0] rfl ?_
      refine j_aload_n B d_M_generation_23 rfl 0 rfl ?_
      refine gf_M_34 B (rG (ix := 0) hl rfl) rfl d_M_generation_24 ?_
      refine j_iload_n B d_M_generation_27 rfl 1 rfl ?_
      refine j_laldN B rfl (rG (ix := 9) hl rfl) (by omega) d_M_generation_28 ?_
      refine j_aload_n B d_M_generation_29 rfl 0 rfl ?_
      refine gf_M_41 B (rG (ix := 0) hl rfl) rfl d_M_generation_30 ?_
      refine j_iload_n B d_M_generation_33 rfl 1 rfl ?_
      refine j_ialdN B rfl (rG (ix := 11) hl rfl) (by omega) d_M_generation_34 ?_
      refine j_lshr B d_M_generation_35 rfl ?_
      refine j_lconst (v := 1) B d_M_generation_36 (by decide) ?_
      refine j_land B d_M_generation_37 ?_
      refine j_lconst (v := 1) B d_M_generation_38 (by decide) ?_
      refine j_lcmp B d_M_generation_39 ?_
      refine j_if_ne B d_M_generation_40 rfl (fun h40 => ?_) (fun h40 => ?_)
      · -- 40 jump
        refine j_aload_n B d_M_generation_91 rfl 0 rfl ?_
        refine gf_M_41 B (rG (ix := 0) hl rfl) rfl d_M_generation_92 ?_
        refine j_iload_n B d_M_generation_95 rfl 1 rfl ?_
        refine j_aload_n B d_M_generation_96 rfl 0 rfl ?_
        refine gf_M_41 B (rG (ix := 0) hl rfl) rfl d_M_generation_97 ?_
        refine j_iload_n B d_M_generation_100 rfl 1 rfl ?_
        refine j_ialdN B rfl (rG (ix := 11) hl rfl) (by omega) d_M_generation_101 ?_
        refine j_iconst (v := 1) B d_M_generation_102 (by decide) ?_
        refine j_iadd B d_M_generation_103 ?_
        refine j_aload_n B d_M_generation_104 rfl 0 rfl ?_
        refine gf_M_38 B (rG (ix := 0) hl rfl) rfl d_M_generation_105 ?_
        refine j_iload_n B d_M_generation_108 rfl 1 rfl ?_
        refine j_ialdN B rfl (rG (ix := 10) hl rfl) (by omega) d_M_generation_109 ?_
        refine j_irem B d_M_generation_110 (hmn k (by omega)) ?_
        refine j_iastN B not_false rfl (rG (ix := 11) hl rfl) (by omega) d_M_generation_111 ?_
        refine jW.heap (σ2 := σ ++ rC b ta wt G0 F1 G2 HH (ktF kt a F0 F1 F2 24) (kpF kp a pl 4) ((a + 1) % 16) (khi hi) tm sN sx sy pt mn (upd q k (((q k) + 1) - ((q k) + 1) / (mn k) * (mn k))) pN px py sn lt rc tx sz us D0 D1 D2 qx qy di up dn be op gs t0 fr lf pX pY pD pU X) (rT (ix := 11) hl rfl) ?_
        refine j_iinc (L' := [(0, .ref (b + 133)), (1, .int (nI (k + 1))), (2, .int (1 <<< ((sx k) &&& 31)))]) (v := nI (k + 1)) B d_M_generation_112 (k := 1) rfl (nI_succ k).symm (by decide) [1, 0, 2] rfl ?_
        refine j_goto B d_M_generation_115 rfl ?_
        refine jW.sub (L' := [(0, .ref (b + 133)), (1, .int (nI (k + 1)))]) [0, 1] rfl ?_; exact ih6 _ (by omega) (k + 1) G0 G2 (upd q k (((q k) + 1) - ((q k) + 1) / (mn k) * (mn k))) rfl (by omega) (by rw [gsS, ← hI]; exact (if_neg (fun q => h40 q.1)).symm)
      · -- 40 on
        refine j_aload_n B d_M_generation_43 rfl 0 rfl ?_
        refine gf_M_16 B (rG (ix := 0) hl rfl) rfl d_M_generation_44 ?_
        refine j_aload_n B d_M_generation_47 rfl 0 rfl ?_
        refine gf_M_31 B (rG (ix := 0) hl rfl) rfl d_M_generation_48 ?_
        refine j_iload_n B d_M_generation_51 rfl 1 rfl ?_
        refine j_ialdN B rfl (rG (ix := 8) hl rfl) (by omega) d_M_generation_52 ?_
        refine j_iald B rfl (rG (ix := 3) hl rfl) (inF_in (hsy k (by omega))) d_M_generation_53 ?_
        refine j_iload_n B d_M_generation_54 rfl 2 rfl ?_
        refine j_iand B d_M_generation_55 ?_
        refine j_if_eq B d_M_generation_56 rfl (fun h56 => ?_) (fun h56 => ?_)
        · -- 56 jump
          refine j_aload_n B d_M_generation_91 rfl 0 rfl ?_
          refine gf_M_41 B (rG (ix := 0) hl rfl) rfl d_M_generation_92 ?_
          refine j_iload_n B d_M_generation_95 rfl 1 rfl ?_
          refine j_aload_n B d_M_generation_96 rfl 0 rfl ?_
          refine gf_M_41 B (rG (ix := 0) hl rfl) rfl d_M_generation_97 ?_
          refine j_iload_n B d_M_generation_100 rfl 1 rfl ?_
          refine j_ialdN B rfl (rG (ix := 11) hl rfl) (by omega) d_M_generation_101 ?_
          refine j_iconst (v := 1) B d_M_generation_102 (by decide) ?_
          refine j_iadd B d_M_generation_103 ?_
          refine j_aload_n B d_M_generation_104 rfl 0 rfl ?_
          refine gf_M_38 B (rG (ix := 0) hl rfl) rfl d_M_generation_105 ?_
          refine j_iload_n B d_M_generation_108 rfl 1 rfl ?_
          refine j_ialdN B rfl (rG (ix := 10) hl rfl) (by omega) d_M_generation_109 ?_
          refine j_irem B d_M_generation_110 (hmn k (by omega)) ?_
          refine j_iastN B not_false rfl (rG (ix := 11) hl rfl) (by omega) d_M_generation_111 ?_
          refine jW.heap (σ2 := σ ++ rC b ta wt G0 F1 G2 HH (ktF kt a F0 F1 F2 24) (kpF kp a pl 4) ((a + 1) % 16) (khi hi) tm sN sx sy pt mn (upd q k (((q k) + 1) - ((q k) + 1) / (mn k) * (mn k))) pN px py sn lt rc tx sz us D0 D1 D2 qx qy di up dn be op gs t0 fr lf pX pY pD pU X) (rT (ix := 11) hl rfl) ?_
          refine j_iinc (L' := [(0, .ref (b + 133)), (1, .int (nI (k + 1))), (2, .int (1 <<< ((sx k) &&& 31)))]) (v := nI (k + 1)) B d_M_generation_112 (k := 1) rfl (nI_succ k).symm (by decide) [1, 0, 2] rfl ?_
          refine j_goto B d_M_generation_115 rfl ?_
          refine jW.sub (L' := [(0, .ref (b + 133)), (1, .int (nI (k + 1)))]) [0, 1] rfl ?_; exact ih6 _ (by omega) (k + 1) G0 G2 (upd q k (((q k) + 1) - ((q k) + 1) / (mn k) * (mn k))) rfl (by omega) (by rw [gsS, ← hI]; exact (if_neg (fun q => q.2 h56)).symm)
        · -- 56 on
          refine j_aload_n B d_M_generation_59 rfl 0 rfl ?_
          refine gf_M_16 B (rG (ix := 0) hl rfl) rfl d_M_generation_60 ?_
          refine j_aload_n B d_M_generation_63 rfl 0 rfl ?_
          refine gf_M_31 B (rG (ix := 0) hl rfl) rfl d_M_generation_64 ?_
          refine j_iload_n B d_M_generation_67 rfl 1 rfl ?_
          refine j_ialdN B rfl (rG (ix := 8) hl rfl) (by omega) d_M_generation_68 ?_
          refine j_dup2 B d_M_generation_69 rfl rfl ?_
          refine j_iald B rfl (rG (ix := 3) hl rfl) (inF_in (hsy k (by omega))) d_M_generation_70 ?_
          refine j_iload_n B d_M_generation_71 rfl 2 rfl ?_
          refine j_iconst (v := (-1)) B d_M_generation_72 (by decide) ?_
          refine j_ixor B d_M_generation_73 ?_
          refine j_iand B d_M_generation_74 ?_
          refine j_iast B not_false rfl (rG (ix := 3) hl rfl) (inF_in (hsy k (by omega))) d_M_generation_75 ?_
          refine jW.heap (σ2 := σ ++ rC b ta wt G0 F1 (upd G2 (sy k).toNatClampNeg ((G2 (sy k).toNatClampNeg) &&& ((1 <<< ((sx k) &&& 31)) ^^^ (-1)))) HH (ktF kt a F0 F1 F2 24) (kpF kp a pl 4) ((a + 1) % 16) (khi hi) tm sN sx sy pt mn q pN px py sn lt rc tx sz us D0 D1 D2 qx qy di up dn be op gs t0 fr lf pX pY pD pU X) (rT (ix := 3) hl rfl) ?_
          refine j_aload_n B d_M_generation_76 rfl 0 rfl ?_
          refine gf_M_7 B (rG (ix := 0) hl rfl) rfl d_M_generation_77 ?_
          refine j_aload_n B d_M_generation_80 rfl 0 rfl ?_
          refine gf_M_31 B (rG (ix := 0) hl rfl) rfl d_M_generation_81 ?_
          refine j_iload_n B d_M_generation_84 rfl 1 rfl ?_
          refine j_ialdN B rfl (rG (ix := 8) hl rfl) (by omega) d_M_generation_85 ?_
          refine j_dup2 B d_M_generation_86 rfl rfl ?_
          refine j_iald B rfl (rG (ix := 1) hl rfl) (inF_in (hsy k (by omega))) d_M_generation_87 ?_
          refine j_iload_n B d_M_generation_88 rfl 2 rfl ?_
          refine j_ior B d_M_generation_89 ?_
          refine j_iast B not_false rfl (rG (ix := 1) hl rfl) (inF_in (hsy k (by omega))) d_M_generation_90 ?_
          refine jW.heap (σ2 := σ ++ rC b ta wt (upd G0 (sy k).toNatClampNeg ((G0 (sy k).toNatClampNeg) ||| (1 <<< ((sx k) &&& 31)))) F1 (upd G2 (sy k).toNatClampNeg ((G2 (sy k).toNatClampNeg) &&& ((1 <<< ((sx k) &&& 31)) ^^^ (-1)))) HH (ktF kt a F0 F1 F2 24) (kpF kp a pl 4) ((a + 1) % 16) (khi hi) tm sN sx sy pt mn q pN px py sn lt rc tx sz us D0 D1 D2 qx qy di up dn be op gs t0 fr lf pX pY pD pU X) (rT (ix := 1) hl rfl) ?_
          refine j_aload_n B d_M_generation_91 rfl 0 rfl ?_
          refine gf_M_41 B (rG (ix := 0) hl rfl) rfl d_M_generation_92 ?_
          refine j_iload_n B d_M_generation_95 rfl 1 rfl ?_
          refine j_aload_n B d_M_generation_96 rfl 0 rfl ?_
          refine gf_M_41 B (rG (ix := 0) hl rfl) rfl d_M_generation_97 ?_
          refine j_iload_n B d_M_generation_100 rfl 1 rfl ?_
          refine j_ialdN B rfl (rG (ix := 11) hl rfl) (by omega) d_M_generation_101 ?_
          refine j_iconst (v := 1) B d_M_generation_102 (by decide) ?_
          refine j_iadd B d_M_generation_103 ?_
          refine j_aload_n B d_M_generation_104 rfl 0 rfl ?_
          refine gf_M_38 B (rG (ix := 0) hl rfl) rfl d_M_generation_105 ?_
          refine j_iload_n B d_M_generation_108 rfl 1 rfl ?_
          refine j_ialdN B rfl (rG (ix := 10) hl rfl) (by omega) d_M_generation_109 ?_
          refine j_irem B d_M_generation_110 (hmn k (by omega)) ?_
          refine j_iastN B not_false rfl (rG (ix := 11) hl rfl) (by omega) d_M_generation_111 ?_
          refine jW.heap (σ2 := σ ++ rC b ta wt (upd G0 (sy k).toNatClampNeg ((G0 (sy k).toNatClampNeg) ||| (1 <<< ((sx k) &&& 31)))) F1 (upd G2 (sy k).toNatClampNeg ((G2 (sy k).toNatClampNeg) &&& ((1 <<< ((sx k) &&& 31)) ^^^ (-1)))) HH (ktF kt a F0 F1 F2 24) (kpF kp a pl 4) ((a + 1) % 16) (khi hi) tm sN sx sy pt mn (upd q k (((q k) + 1) - ((q k) + 1) / (mn k) * (mn k))) pN px py sn lt rc tx sz us D0 D1 D2 qx qy di up dn be op gs t0 fr lf pX pY pD pU X) (rT (ix := 11) hl rfl) ?_
          refine j_iinc (L' := [(0, .ref (b + 133)), (1, .int (nI (k + 1))), (2, .int (1 <<< ((sx k) &&& 31)))]) (v := nI (k + 1)) B d_M_generation_112 (k := 1) rfl (nI_succ k).symm (by decide) [1, 0, 2] rfl ?_
          refine j_goto B d_M_generation_115 rfl ?_
          refine jW.sub (L' := [(0, .ref (b + 133)), (1, .int (nI (k + 1)))]) [0, 1] rfl ?_; exact ih6 _ (by omega) (k + 1) (upd G0 (sy k).toNatClampNeg ((G0 (sy k).toNatClampNeg) ||| (1 <<< ((sx k) &&& 31)))) (upd G2 (sy k).toNatClampNeg ((G2 (sy k).toNatClampNeg) &&& ((1 <<< ((sx k) &&& 31)) ^^^ (-1)))) (upd q k (((q k) + 1) - ((q k) + 1) / (mn k) * (mn k))) rfl (by omega) (by rw [gsS, ← hI]; exact (if_pos ⟨h40, h56⟩).symm)
  exact lp6 _ 0 F0 F2 pl rfl (by omega) rfl
set_option maxRecDepth 100000 in
set_option maxHeartbeats 4000000 in
theorem c_M_run_t {l : Launch} {b : Nat} {D : va_G} {ta : Nat → ClassId} {σ : List va_E} (hl : σ.length = 133) {wt : Int32} {F0 : Nat → Int32} {F1 : Nat → Int32} {F2 : Nat → Int32} {HH : Nat → Int32} {kt : Nat → Int32} {kp : Nat → Int32} {a : Nat} {hi : Nat} {tm : Nat} {sN : Nat} {sx : Nat → Int32} {sy : Nat → Int32} {pt : Nat → Int64} {mn : Nat → Int32} {pl : Nat → Int32} {pN : Nat} {px : Nat → Int32} {py : Nat → Int32} {sn : Nat → Int32} {lt : Nat → Int32} {rc : Nat → Int64} {tx : Nat → Int32} {sz : Nat → Int32} {us : Nat → Int32} {D0 : Nat → Int32} {D1 : Nat → Int32} {D2 : Nat → Int32} {qx : Int32} {qy : Int32} {di : Nat} {up : Bool} {dn : Nat} {be : Bool} {op : Nat} {gs : Nat → Int32} {t0 : Nat → Int32} {fr : Nat → Int32} {lf : Nat → Int32} {pX : Nat → Int32} {pY : Nat → Int32} {pD : Nat → Int32} {pU : Nat → Int32} {X : List va_E} {n : Nat} (h1 : 1 ≤ n) (h60 : n ≤ 60) (ha : a < 16) (hhi : hi ≤ 16) (hsN : sN ≤ 4) (hpN : pN ≤ 4) (hsy : ∀ k, k < sN → inF (sx k) (sy k) = true) (hpy : ∀ k, k < pN → inF (px k) (py k) = true) (hmn : ∀ k, k < sN → ¬ mn k = 0) : jC l b D ta False y_M_run b_M_run 3 (some .int) (rL 3) [.ref (b + 133), .int (nI n)] (σ ++ rC b ta wt F0 F1 F2 HH kt kp a hi tm sN sx sy pt mn pl pN px py sn lt rc tx sz us D0 D1 D2 qx qy di up dn be op gs t0 fr lf pX pY pD pU X) (some (.int (cntR (selF ((genRN sN pN sx sy pt mn px py ((F0, F1, F2), HH, kt, kp, a, hi, tm, pl, (rc, sn, lt)) n).1.1) ((genRN sN pN sx sy pt mn px py ((F0, F1, F2), HH, kt, kp, a, hi, tm, pl, (rc, sn, lt)) n).1.2.1) ((genRN sN pN sx sy pt mn px py ((F0, F1, F2), HH, kt, kp, a, hi, tm, pl, (rc, sn, lt)) n).1.2.2) 1) 768))) (σ ++ rC b ta 0 ((genRN sN pN sx sy pt mn px py ((F0, F1, F2), HH, kt, kp, a, hi, tm, pl, (rc, sn, lt)) n).1.1) ((genRN sN pN sx sy pt mn px py ((F0, F1, F2), HH, kt, kp, a, hi, tm, pl, (rc, sn, lt)) n).1.2.1) ((genRN sN pN sx sy pt mn px py ((F0, F1, F2), HH, kt, kp, a, hi, tm, pl, (rc, sn, lt)) n).1.2.2) ((genRN sN pN sx sy pt mn px py ((F0, F1, F2), HH, kt, kp, a, hi, tm, pl, (rc, sn, lt)) n).2.1) ((genRN sN pN sx sy pt mn px py ((F0, F1, F2), HH, kt, kp, a, hi, tm, pl, (rc, sn, lt)) n).2.2.1) ((genRN sN pN sx sy pt mn px py ((F0, F1, F2), HH, kt, kp, a, hi, tm, pl, (rc, sn, lt)) n).2.2.2.1) ((genRN sN pN sx sy pt mn px py ((F0, F1, F2), HH, kt, kp, a, hi, tm, pl, (rc, sn, lt)) n).2.2.2.2.1) ((genRN sN pN sx sy pt mn px py ((F0, F1, F2), HH, kt, kp, a, hi, tm, pl, (rc, sn, lt)) n).2.2.2.2.2.1) ((genRN sN pN sx sy pt mn px py ((F0, F1, F2), HH, kt, kp, a, hi, tm, pl, (rc, sn, lt)) n).2.2.2.2.2.2.1) sN sx sy pt mn ((genRN sN pN sx sy pt mn px py ((F0, F1, F2), HH, kt, kp, a, hi, tm, pl, (rc, sn, lt)) n).2.2.2.2.2.2.2.1) pN px py ((genRN sN pN sx sy pt mn px py ((F0, F1, F2), HH, kt, kp, a, hi, tm, pl, (rc, sn, lt)) n).2.2.2.2.2.2.2.2.2.1) ((genRN sN pN sx sy pt mn px py ((F0, F1, F2), HH, kt, kp, a, hi, tm, pl, (rc, sn, lt)) n).2.2.2.2.2.2.2.2.2.2) ((genRN sN pN sx sy pt mn px py ((F0, F1, F2), HH, kt, kp, a, hi, tm, pl, (rc, sn, lt)) n).2.2.2.2.2.2.2.2.1) tx sz us D0 D1 D2 qx qy di up dn be op gs t0 fr lf pX pY pD pU X) := by
  refine jC_of (own := "WireFieldModel") (by decide +kernel) (Nat.le_of_ble_eq_true rfl) rfl (fun Γ B K => ?_)
  change jW l b D Γ False 0 0 3 (σ ++ rC b ta wt F0 F1 F2 HH kt kp a hi tm sN sx sy pt mn pl pN px py sn lt rc tx sz us D0 D1 D2 qx qy di up dn be op gs t0 fr lf pX pY pD pU X) [(0, .ref (b + 133)), (1, .int (nI n))] 0 []
  refine j_aload_n B d_M_run_0 rfl 0 rfl ?_
  refine j_iconst (v := 0) B d_M_run_1 (by decide) ?_
  refine pf_M_102 B not_false (rG (ix := 0) hl rfl) rfl rfl (Nat.le_of_ble_eq_true rfl) d_M_run_2 ?_
  refine jW.heap (σ2 := σ ++ rC b ta 0 F0 F1 F2 HH kt kp a hi tm sN sx sy pt mn pl pN px py sn lt rc tx sz us D0 D1 D2 qx qy di up dn be op gs t0 fr lf pX pY pD pU X) (rT (ix := 0) hl rfl) ?_
  refine j_iload_n B d_M_run_5 rfl 1 rfl ?_
  refine j_iconst (v := 1) B d_M_run_6 (by decide) ?_
  refine j_icmp_lt B d_M_run_7 rfl (fun h7 => absurd h7 (nI_nlt (a := n) (b := 1) h1 (by omega))) (fun h7 => ?_)
  refine j_iload_n B d_M_run_10 rfl 1 rfl ?_
  refine j_bipush (v := 60) B d_M_run_11 (by decide) ?_
  refine j_icmp_le B d_M_run_13 rfl (fun h13 => ?_) (fun h13 => absurd (nI_le (a := n) (b := 60) h60 (by decide)) h13)
  refine j_iconst (v := 0) B d_M_run_18 (by decide) ?_
  refine j_istore_n (L' := [(0, .ref (b + 133)), (1, .int (nI n)), (2, .int 0)]) B d_M_run_19 rfl (by decide) [1, 2, 0] rfl ?_
  have lp20 : ∀ (n20 : Nat) (k : Nat), n - k = n20 → (k ≤ n) → jW l b D Γ False 0 0 3 (σ ++ rC b ta 0 ((genRN sN pN sx sy pt mn px py ((F0, F1, F2), HH, kt, kp, a, hi, tm, pl, (rc, sn, lt)) k).1.1) ((genRN sN pN sx sy pt mn px py ((F0, F1, F2), HH, kt, kp, a, hi, tm, pl, (rc, sn, lt)) k).1.2.1) ((genRN sN pN sx sy pt mn px py ((F0, F1, F2), HH, kt, kp, a, hi, tm, pl, (rc, sn, lt)) k).1.2.2) ((genRN sN pN sx sy pt mn px py ((F0, F1, F2), HH, kt, kp, a, hi, tm, pl, (rc, sn, lt)) k).2.1) ((genRN sN pN sx sy pt mn px py ((F0, F1, F2), HH, kt, kp, a, hi, tm, pl, (rc, sn, lt)) k).2.2.1) ((genRN sN pN sx sy pt mn px py ((F0, F1, F2), HH, kt, kp, a, hi, tm, pl, (rc, sn, lt)) k).2.2.2.1) ((genRN sN pN sx sy pt mn px py ((F0, F1, F2), HH, kt, kp, a, hi, tm, pl, (rc, sn, lt)) k).2.2.2.2.1) ((genRN sN pN sx sy pt mn px py ((F0, F1, F2), HH, kt, kp, a, hi, tm, pl, (rc, sn, lt)) k).2.2.2.2.2.1) ((genRN sN pN sx sy pt mn px py ((F0, F1, F2), HH, kt, kp, a, hi, tm, pl, (rc, sn, lt)) k).2.2.2.2.2.2.1) sN sx sy pt mn ((genRN sN pN sx sy pt mn px py ((F0, F1, F2), HH, kt, kp, a, hi, tm, pl, (rc, sn, lt)) k).2.2.2.2.2.2.2.1) pN px py ((genRN sN pN sx sy pt mn px py ((F0, F1, F2), HH, kt, kp, a, hi, tm, pl, (rc, sn, lt)) k).2.2.2.2.2.2.2.2.2.1) ((genRN sN pN sx sy pt mn px py ((F0, F1, F2), HH, kt, kp, a, hi, tm, pl, (rc, sn, lt)) k).2.2.2.2.2.2.2.2.2.2) ((genRN sN pN sx sy pt mn px py ((F0, F1, F2), HH, kt, kp, a, hi, tm, pl, (rc, sn, lt)) k).2.2.2.2.2.2.2.2.1) tx sz us D0 D1 D2 qx qy di up dn be op gs t0 fr lf pX pY pD pU X) [(0, .ref (b + 133)), (1, .int (nI n)), (2, .int (nI k))] 20 [] := by
    refine jloop (fun n20 ih20 => ?_)
    intro k hn20 hk
    refine j_iload_n B d_M_run_20 rfl 2 rfl ?_
    refine j_iload_n B d_M_run_21 rfl 1 rfl ?_
    refine j_icmp_ge B d_M_run_22 rfl (fun h22 => ?_) (fun h22 => ?_)
    · -- 22 jump
      have hkE := (lp_ge (by omega) hk h22).symm
      subst hkE
      refine j_aload_n B d_M_run_35 rfl 0 rfl ?_
      refine j_iconst (v := 1) B d_M_run_36 (by decide) ?_
      refine k_callV (as := [.int 1]) (rest := []) (st1 := [.int (cntR (selF ((genRN sN pN sx sy pt mn px py ((F0, F1, F2), HH, kt, kp, a, hi, tm, pl, (rc, sn, lt)) n).1.1) ((genRN sN pN sx sy pt mn px py ((F0, F1, F2), HH, kt, kp, a, hi, tm, pl, (rc, sn, lt)) n).1.2.1) ((genRN sN pN sx sy pt mn px py ((F0, F1, F2), HH, kt, kp, a, hi, tm, pl, (rc, sn, lt)) n).1.2.2) 1) 768)]) B (c_M_count hl 1) yf_M_count w_857 w_859 w_s27 rfl (rG (ix := 0) hl rfl) rfl (by decide) (by decide) rfl rfl (Nat.le_of_ble_eq_true rfl) d_M_run_37 ?_
      exact j_iret B K rfl rfl d_M_run_40
    · -- 22 on
      have hk3 := lp_lt (by omega) hk h22
      refine j_aload_n B d_M_run_25 rfl 0 rfl ?_
      refine k_callV (as := []) (rest := []) (st1 := []) B (c_M_generation hl (genRN_i (g := ((F0, F1, F2), HH, kt, kp, a, hi, tm, pl, (rc, sn, lt))) ⟨ha, hhi⟩ k).1 (genRN_i (g := ((F0, F1, F2), HH, kt, kp, a, hi, tm, pl, (rc, sn, lt))) ⟨ha, hhi⟩ k).2 hsN hpN hsy hpy hmn) yf_M_generation w_837 w_839 w_s23 rfl (rG (ix := 0) hl rfl) rfl (by decide) (by decide) rfl rfl (Nat.le_of_ble_eq_true rfl) d_M_run_26 ?_
      refine j_iinc (L' := [(0, .ref (b + 133)), (1, .int (nI n)), (2, .int (nI (k + 1)))]) (v := nI (k + 1)) B d_M_run_29 (k := 2) rfl (nI_succ k).symm (by decide) [1, 2, 0] rfl ?_
      refine j_goto B d_M_run_32 rfl ?_
      exact ih20 _ (by omega) (k + 1) rfl (by omega)
  exact lp20 _ 0 rfl (by omega)
set_option maxRecDepth 100000 in
set_option maxHeartbeats 4000000 in
theorem c_M_run_f {l : Launch} {b : Nat} {D : va_G} {ta : Nat → ClassId} {σ : List va_E} (hl : σ.length = 133) {wt : Int32} {F0 : Nat → Int32} {F1 : Nat → Int32} {F2 : Nat → Int32} {HH : Nat → Int32} {kt : Nat → Int32} {kp : Nat → Int32} {a : Nat} {hi : Nat} {tm : Nat} {sN : Nat} {sx : Nat → Int32} {sy : Nat → Int32} {pt : Nat → Int64} {mn : Nat → Int32} {pl : Nat → Int32} {pN : Nat} {px : Nat → Int32} {py : Nat → Int32} {sn : Nat → Int32} {lt : Nat → Int32} {rc : Nat → Int64} {tx : Nat → Int32} {sz : Nat → Int32} {us : Nat → Int32} {D0 : Nat → Int32} {D1 : Nat → Int32} {D2 : Nat → Int32} {qx : Int32} {qy : Int32} {di : Nat} {up : Bool} {dn : Nat} {be : Bool} {op : Nat} {gs : Nat → Int32} {t0 : Nat → Int32} {fr : Nat → Int32} {lf : Nat → Int32} {pX : Nat → Int32} {pY : Nat → Int32} {pD : Nat → Int32} {pU : Nat → Int32} {X : List va_E} {n : Int32} (hf : n < 1 ∨ 60 < n) : jC l b D ta False y_M_run b_M_run 3 (some .int) (rL 3) [.ref (b + 133), .int n] (σ ++ rC b ta wt F0 F1 F2 HH kt kp a hi tm sN sx sy pt mn pl pN px py sn lt rc tx sz us D0 D1 D2 qx qy di up dn be op gs t0 fr lf pX pY pD pU X) (some (.int (-1))) (σ ++ rC b ta 0 F0 F1 F2 HH kt kp a hi tm sN sx sy pt mn pl pN px py sn lt rc tx sz us D0 D1 D2 qx qy di up dn be op gs t0 fr lf pX pY pD pU X) := by
  refine jC_of (own := "WireFieldModel") (by decide +kernel) (Nat.le_of_ble_eq_true rfl) rfl (fun Γ B K => ?_)
  change jW l b D Γ False 0 0 3 (σ ++ rC b ta wt F0 F1 F2 HH kt kp a hi tm sN sx sy pt mn pl pN px py sn lt rc tx sz us D0 D1 D2 qx qy di up dn be op gs t0 fr lf pX pY pD pU X) [(0, .ref (b + 133)), (1, .int n)] 0 []
  refine j_aload_n B d_M_run_0 rfl 0 rfl ?_
  refine j_iconst (v := 0) B d_M_run_1 (by decide) ?_
  refine pf_M_102 B not_false (rG (ix := 0) hl rfl) rfl rfl (Nat.le_of_ble_eq_true rfl) d_M_run_2 ?_
  refine jW.heap (σ2 := σ ++ rC b ta 0 F0 F1 F2 HH kt kp a hi tm sN sx sy pt mn pl pN px py sn lt rc tx sz us D0 D1 D2 qx qy di up dn be op gs t0 fr lf pX pY pD pU X) (rT (ix := 0) hl rfl) ?_
  refine j_iload_n B d_M_run_5 rfl 1 rfl ?_
  refine j_iconst (v := 1) B d_M_run_6 (by decide) ?_
  refine j_icmp_lt B d_M_run_7 rfl (fun h7 => ?_) (fun h7 => ?_)
  · -- 7 jump
    refine j_iconst (v := (-1)) B d_M_run_16 (by decide) ?_
    exact j_iret B K rfl rfl d_M_run_17
  · -- 7 on
    refine j_iload_n B d_M_run_10 rfl 1 rfl ?_
    refine j_bipush (v := 60) B d_M_run_11 (by decide) ?_
    refine j_icmp_le B d_M_run_13 rfl (fun h13 => ?_) (fun h13 => ?_)
    · -- 13 jump
      exact absurd hf (fun q => q.elim h7 (fun q => Int32.not_lt.mpr h13 q))
    · -- 13 on
      refine j_iconst (v := (-1)) B d_M_run_16 (by decide) ?_
      exact j_iret B K rfl rfl d_M_run_17
set_option maxRecDepth 100000 in
set_option maxHeartbeats 4000000 in
theorem c_M_back_t {l : Launch} {b : Nat} {D : va_G} {ta : Nat → ClassId} {σ : List va_E} (hl : σ.length = 133) {wt : Int32} {F0 : Nat → Int32} {F1 : Nat → Int32} {F2 : Nat → Int32} {HH : Nat → Int32} {kt : Nat → Int32} {kp : Nat → Int32} {a : Nat} {hi : Nat} {tm : Nat} {sN : Nat} {sx : Nat → Int32} {sy : Nat → Int32} {pt : Nat → Int64} {mn : Nat → Int32} {pl : Nat → Int32} {pN : Nat} {px : Nat → Int32} {py : Nat → Int32} {sn : Nat → Int32} {lt : Nat → Int32} {rc : Nat → Int64} {tx : Nat → Int32} {sz : Nat → Int32} {us : Nat → Int32} {D0 : Nat → Int32} {D1 : Nat → Int32} {D2 : Nat → Int32} {qx : Int32} {qy : Int32} {di : Nat} {up : Bool} {dn : Nat} {be : Bool} {op : Nat} {gs : Nat → Int32} {t0 : Nat → Int32} {fr : Nat → Int32} {lf : Nat → Int32} {pX : Nat → Int32} {pY : Nat → Int32} {pD : Nat → Int32} {pU : Nat → Int32} {X : List va_E} {n : Nat} (h1 : 1 ≤ n) (hn : n ≤ hi) (hhi : hi ≤ 16) (ha : a < 16) (htm : hi ≤ tm) : jC l b D ta False y_M_back b_M_back 3 (some .boolean) (rL 0) [.ref (b + 133), .int (nI n)] (σ ++ rC b ta wt F0 F1 F2 HH kt kp a hi tm sN sx sy pt mn pl pN px py sn lt rc tx sz us D0 D1 D2 qx qy di up dn be op gs t0 fr lf pX pY pD pU X) (some (.int 1)) (σ ++ rC b ta 0 (bk1 kt ((a + 16 - n) % 16) F0 24) (bk2 kt ((a + 16 - n) % 16) F1 24) (bk3 kt ((a + 16 - n) % 16) F2 24) HH kt kp ((a + 16 - n) % 16) (hi - n) (tm - n) sN sx sy pt mn (bkp kp ((a + 16 - n) % 16) pl 4) pN px py sn lt rc tx sz us D0 D1 D2 qx qy di up dn be op gs t0 fr lf pX pY pD pU X) := by
  refine jC_of (own := "WireFieldModel") (by decide +kernel) (Nat.le_of_ble_eq_true rfl) rfl (fun Γ B K => ?_)
  change jW l b D Γ False 0 0 3 (σ ++ rC b ta wt F0 F1 F2 HH kt kp a hi tm sN sx sy pt mn pl pN px py sn lt rc tx sz us D0 D1 D2 qx qy di up dn be op gs t0 fr lf pX pY pD pU X) [(0, .ref (b + 133)), (1, .int (nI n))] 0 []
  refine j_aload_n B d_M_back_0 rfl 0 rfl ?_
  refine j_iconst (v := 0) B d_M_back_1 (by decide) ?_
  refine pf_M_102 B not_false (rG (ix := 0) hl rfl) rfl rfl (Nat.le_of_ble_eq_true rfl) d_M_back_2 ?_
  refine jW.heap (σ2 := σ ++ rC b ta 0 F0 F1 F2 HH kt kp a hi tm sN sx sy pt mn pl pN px py sn lt rc tx sz us D0 D1 D2 qx qy di up dn be op gs t0 fr lf pX pY pD pU X) (rT (ix := 0) hl rfl) ?_
  refine j_iload_n B d_M_back_5 rfl 1 rfl ?_
  refine j_iconst (v := 1) B d_M_back_6 (by decide) ?_
  refine j_icmp_lt B d_M_back_7 rfl (fun h7 => absurd h7 (nI_nlt (a := n) (b := 1) h1 (by omega))) (fun h7 => ?_)
  refine j_iload_n B d_M_back_10 rfl 1 rfl ?_
  refine j_aload_n B d_M_back_11 rfl 0 rfl ?_
  refine gf_M_113 B (rG (ix := 0) hl rfl) rfl d_M_back_12 ?_
  refine j_icmp_le B d_M_back_15 rfl (fun h15 => ?_) (fun h15 => absurd (nI_le hn (by omega)) h15)
  refine j_aload_n B d_M_back_20 rfl 0 rfl ?_
  refine j_aload_n B d_M_back_21 rfl 0 rfl ?_
  refine gf_M_110 B (rG (ix := 0) hl rfl) rfl d_M_back_22 ?_
  refine j_bipush (v := 16) B d_M_back_25 (by decide) ?_
  refine j_iaddE (v := nI (a + 16)) B (nI_add a 16) d_M_back_27 ?_
  refine j_iload_n B d_M_back_28 rfl 1 rfl ?_
  refine j_isubE (v := nI (a + 16 - n)) B (pk_sub (by omega)) d_M_back_29 ?_
  refine j_bipush (v := 16) B d_M_back_30 (by decide) ?_
  refine j_iremE (v := nI ((a + 16 - n) % 16)) B (by decide) (pk_rem (a := (a + 16 - n)) (d := 16) (by omega) (by decide) (by decide)) d_M_back_32 ?_
  refine pf_M_110 B not_false (rG (ix := 0) hl rfl) rfl rfl (Nat.le_of_ble_eq_true rfl) d_M_back_33 ?_
  refine jW.heap (σ2 := σ ++ rC b ta 0 F0 F1 F2 HH kt kp ((a + 16 - n) % 16) hi tm sN sx sy pt mn pl pN px py sn lt rc tx sz us D0 D1 D2 qx qy di up dn be op gs t0 fr lf pX pY pD pU X) (rT (ix := 0) hl rfl) ?_
  refine j_aload_n B d_M_back_36 rfl 0 rfl ?_
  refine j_dup B d_M_back_37 rfl ?_
  refine gf_M_113 B (rG (ix := 0) hl rfl) rfl d_M_back_38 ?_
  refine j_iload_n B d_M_back_41 rfl 1 rfl ?_
  refine j_isubE (v := nI (hi - n)) B (pk_sub (by omega)) d_M_back_42 ?_
  refine pf_M_113 B not_false (rG (ix := 0) hl rfl) rfl rfl (Nat.le_of_ble_eq_true rfl) d_M_back_43 ?_
  refine jW.heap (σ2 := σ ++ rC b ta 0 F0 F1 F2 HH kt kp ((a + 16 - n) % 16) (hi - n) tm sN sx sy pt mn pl pN px py sn lt rc tx sz us D0 D1 D2 qx qy di up dn be op gs t0 fr lf pX pY pD pU X) (rT (ix := 0) hl rfl) ?_
  refine j_aload_n B d_M_back_46 rfl 0 rfl ?_
  refine j_dup B d_M_back_47 rfl ?_
  refine gf_M_125 B (rG (ix := 0) hl rfl) rfl d_M_back_48 ?_
  refine j_iload_n B d_M_back_51 rfl 1 rfl ?_
  refine j_isubE (v := nI (tm - n)) B (pk_sub (by omega)) d_M_back_52 ?_
  refine pf_M_125 B not_false (rG (ix := 0) hl rfl) rfl rfl (Nat.le_of_ble_eq_true rfl) d_M_back_53 ?_
  refine jW.heap (σ2 := σ ++ rC b ta 0 F0 F1 F2 HH kt kp ((a + 16 - n) % 16) (hi - n) (tm - n) sN sx sy pt mn pl pN px py sn lt rc tx sz us D0 D1 D2 qx qy di up dn be op gs t0 fr lf pX pY pD pU X) (rT (ix := 0) hl rfl) ?_
  refine j_iconst (v := 0) B d_M_back_56 (by decide) ?_
  refine j_istore_n (L' := [(0, .ref (b + 133)), (1, .int (nI n)), (2, .int 0)]) B d_M_back_57 rfl (by decide) [1, 2, 0] rfl ?_
  have lp58 : ∀ (n58 : Nat) (r : Nat), 24 - r = n58 → (r ≤ 24) → jW l b D Γ False 0 0 3 (σ ++ rC b ta 0 (bk1 kt ((a + 16 - n) % 16) F0 r) (bk2 kt ((a + 16 - n) % 16) F1 r) (bk3 kt ((a + 16 - n) % 16) F2 r) HH kt kp ((a + 16 - n) % 16) (hi - n) (tm - n) sN sx sy pt mn pl pN px py sn lt rc tx sz us D0 D1 D2 qx qy di up dn be op gs t0 fr lf pX pY pD pU X) [(0, .ref (b + 133)), (1, .int (nI n)), (2, .int (nI r))] 58 [] := by
    refine jloop (fun n58 ih58 => ?_)
    intro r hn58 hr
    refine j_iload_n B d_M_back_58 rfl 2 rfl ?_
    refine j_bipush (v := 24) B d_M_back_59 (by decide) ?_
    refine j_icmp_ge B d_M_back_61 rfl (fun h61 => ?_) (fun h61 => ?_)
    · -- 61 jump
      have hr2 := lp_ge (n := 24) (by decide) hr h61
      subst hr2
      refine j_iconst (v := 0) B d_M_back_136 (by decide) ?_
      refine j_istore_n (L' := [(0, .ref (b + 133)), (1, .int (nI n)), (2, .int 0)]) B d_M_back_137 rfl (by decide) [1, 2, 0] rfl ?_
      have lp138 : ∀ (n138 : Nat) (k : Nat), 4 - k = n138 → (k ≤ 4) → jW l b D Γ False 0 0 3 (σ ++ rC b ta 0 (bk1 kt ((a + 16 - n) % 16) F0 24) (bk2 kt ((a + 16 - n) % 16) F1 24) (bk3 kt ((a + 16 - n) % 16) F2 24) HH kt kp ((a + 16 - n) % 16) (hi - n) (tm - n) sN sx sy pt mn (bkp kp ((a + 16 - n) % 16) pl k) pN px py sn lt rc tx sz us D0 D1 D2 qx qy di up dn be op gs t0 fr lf pX pY pD pU X) [(0, .ref (b + 133)), (1, .int (nI n)), (2, .int (nI k))] 138 [] := by
        refine jloop (fun n138 ih138 => ?_)
        intro k hn138 hk
        refine j_iload_n B d_M_back_138 rfl 2 rfl ?_
        refine j_iconst (v := 4) B d_M_back_139 (by decide) ?_
        refine j_icmp_ge B d_M_back_140 rfl (fun h140 => ?_) (fun h140 => ?_)
        · -- 140 jump
          have hk2 := lp_ge (n := 4) (by decide) hk h140
          subst hk2
          refine j_iconst (v := 1) B d_M_back_168 (by decide) ?_
          exact j_zret B K (by decide) rfl rfl d_M_back_169
        · -- 140 on
          have hk2 := lp_lt (n := 4) (by decide) hk h140
          refine j_aload_n B d_M_back_143 rfl 0 rfl ?_
          refine gf_M_41 B (rG (ix := 0) hl rfl) rfl d_M_back_144 ?_
          refine j_iload_n B d_M_back_147 rfl 2 rfl ?_
          refine j_aload_n B d_M_back_148 rfl 0 rfl ?_
          refine gf_M_25 B (rG (ix := 0) hl rfl) rfl d_M_back_149 ?_
          refine j_iconst (v := 4) B d_M_back_152 (by decide) ?_
          refine j_aload_n B d_M_back_153 rfl 0 rfl ?_
          refine gf_M_110 B (rG (ix := 0) hl rfl) rfl d_M_back_154 ?_
          refine j_imulE (v := nI (4 * ((a + 16 - n) % 16))) B (pk_mul 4 ((a + 16 - n) % 16)) d_M_back_157 ?_
          refine j_iload_n B d_M_back_158 rfl 2 rfl ?_
          refine j_iaddE (v := nI ((4 * ((a + 16 - n) % 16)) + k)) B (nI_add (4 * ((a + 16 - n) % 16)) k) d_M_back_159 ?_
          refine j_ialdN B rfl (rG (ix := 6) hl rfl) (by omega) d_M_back_160 ?_
          refine j_iastN B not_false rfl (rG (ix := 11) hl rfl) (by omega) d_M_back_161 ?_
          refine jW.heap (σ2 := σ ++ rC b ta 0 (bk1 kt ((a + 16 - n) % 16) F0 24) (bk2 kt ((a + 16 - n) % 16) F1 24) (bk3 kt ((a + 16 - n) % 16) F2 24) HH kt kp ((a + 16 - n) % 16) (hi - n) (tm - n) sN sx sy pt mn (upd (bkp kp ((a + 16 - n) % 16) pl k) k (kp ((4 * ((a + 16 - n) % 16)) + k))) pN px py sn lt rc tx sz us D0 D1 D2 qx qy di up dn be op gs t0 fr lf pX pY pD pU X) (rT (ix := 11) hl rfl) ?_
          refine j_iinc (L' := [(0, .ref (b + 133)), (1, .int (nI n)), (2, .int (nI (k + 1)))]) (v := nI (k + 1)) B d_M_back_162 (k := 2) rfl (nI_succ k).symm (by decide) [1, 2, 0] rfl ?_
          refine j_goto B d_M_back_165 rfl ?_
          exact ih138 _ (by omega) (k + 1) rfl (by omega)
      exact lp138 _ 0 rfl (by omega)
    · -- 61 on
      have hr2 := lp_lt (n := 24) (by decide) hr h61
      refine j_aload_n B d_M_back_64 rfl 0 rfl ?_
      refine gf_M_7 B (rG (ix := 0) hl rfl) rfl d_M_back_65 ?_
      refine j_iload_n B d_M_back_68 rfl 2 rfl ?_
      refine j_aload_n B d_M_back_69 rfl 0 rfl ?_
      refine gf_M_22 B (rG (ix := 0) hl rfl) rfl d_M_back_70 ?_
      refine j_bipush (v := 72) B d_M_back_73 (by decide) ?_
      refine j_aload_n B d_M_back_75 rfl 0 rfl ?_
      refine gf_M_110 B (rG (ix := 0) hl rfl) rfl d_M_back_76 ?_
      refine j_imulE (v := nI (72 * ((a + 16 - n) % 16))) B (pk_mul 72 ((a + 16 - n) % 16)) d_M_back_79 ?_
      refine j_iload_n B d_M_back_80 rfl 2 rfl ?_
      refine j_iaddE (v := nI ((72 * ((a + 16 - n) % 16)) + r)) B (nI_add (72 * ((a + 16 - n) % 16)) r) d_M_back_81 ?_
      refine j_ialdN B rfl (rG (ix := 5) hl rfl) (by omega) d_M_back_82 ?_
      refine j_iastN B not_false rfl (rG (ix := 1) hl rfl) (by omega) d_M_back_83 ?_
      refine jW.heap (σ2 := σ ++ rC b ta 0 (upd (bk1 kt ((a + 16 - n) % 16) F0 r) r (kt ((72 * ((a + 16 - n) % 16)) + r))) (bk2 kt ((a + 16 - n) % 16) F1 r) (bk3 kt ((a + 16 - n) % 16) F2 r) HH kt kp ((a + 16 - n) % 16) (hi - n) (tm - n) sN sx sy pt mn pl pN px py sn lt rc tx sz us D0 D1 D2 qx qy di up dn be op gs t0 fr lf pX pY pD pU X) (rT (ix := 1) hl rfl) ?_
      refine j_aload_n B d_M_back_84 rfl 0 rfl ?_
      refine gf_M_13 B (rG (ix := 0) hl rfl) rfl d_M_back_85 ?_
      refine j_iload_n B d_M_back_88 rfl 2 rfl ?_
      refine j_aload_n B d_M_back_89 rfl 0 rfl ?_
      refine gf_M_22 B (rG (ix := 0) hl rfl) rfl d_M_back_90 ?_
      refine j_bipush (v := 72) B d_M_back_93 (by decide) ?_
      refine j_aload_n B d_M_back_95 rfl 0 rfl ?_
      refine gf_M_110 B (rG (ix := 0) hl rfl) rfl d_M_back_96 ?_
      refine j_imulE (v := nI (72 * ((a + 16 - n) % 16))) B (pk_mul 72 ((a + 16 - n) % 16)) d_M_back_99 ?_
      refine j_bipush (v := 24) B d_M_back_100 (by decide) ?_
      refine j_iaddE (v := nI ((72 * ((a + 16 - n) % 16)) + 24)) B (nI_add (72 * ((a + 16 - n) % 16)) 24) d_M_back_102 ?_
      refine j_iload_n B d_M_back_103 rfl 2 rfl ?_
      refine j_iaddE (v := nI (((72 * ((a + 16 - n) % 16)) + 24) + r)) B (nI_add ((72 * ((a + 16 - n) % 16)) + 24) r) d_M_back_104 ?_
      refine j_ialdN B rfl (rG (ix := 5) hl rfl) (by omega) d_M_back_105 ?_
      refine j_iastN B not_false rfl (rG (ix := 2) hl rfl) (by omega) d_M_back_106 ?_
      refine jW.heap (σ2 := σ ++ rC b ta 0 (upd (bk1 kt ((a + 16 - n) % 16) F0 r) r (kt ((72 * ((a + 16 - n) % 16)) + r))) (upd (bk2 kt ((a + 16 - n) % 16) F1 r) r (kt (((72 * ((a + 16 - n) % 16)) + 24) + r))) (bk3 kt ((a + 16 - n) % 16) F2 r) HH kt kp ((a + 16 - n) % 16) (hi - n) (tm - n) sN sx sy pt mn pl pN px py sn lt rc tx sz us D0 D1 D2 qx qy di up dn be op gs t0 fr lf pX pY pD pU X) (rT (ix := 2) hl rfl) ?_
      refine j_aload_n B d_M_back_107 rfl 0 rfl ?_
      refine gf_M_16 B (rG (ix := 0) hl rfl) rfl d_M_back_108 ?_
      refine j_iload_n B d_M_back_111 rfl 2 rfl ?_
      refine j_aload_n B d_M_back_112 rfl 0 rfl ?_
      refine gf_M_22 B (rG (ix := 0) hl rfl) rfl d_M_back_113 ?_
      refine j_bipush (v := 72) B d_M_back_116 (by decide) ?_
      refine j_aload_n B d_M_back_118 rfl 0 rfl ?_
      refine gf_M_110 B (rG (ix := 0) hl rfl) rfl d_M_back_119 ?_
      refine j_imulE (v := nI (72 * ((a + 16 - n) % 16))) B (pk_mul 72 ((a + 16 - n) % 16)) d_M_back_122 ?_
      refine j_bipush (v := 48) B d_M_back_123 (by decide) ?_
      refine j_iaddE (v := nI ((72 * ((a + 16 - n) % 16)) + 48)) B (nI_add (72 * ((a + 16 - n) % 16)) 48) d_M_back_125 ?_
      refine j_iload_n B d_M_back_126 rfl 2 rfl ?_
      refine j_iaddE (v := nI (((72 * ((a + 16 - n) % 16)) + 48) + r)) B (nI_add ((72 * ((a + 16 - n) % 16)) + 48) r) d_M_back_127 ?_
      refine j_ialdN B rfl (rG (ix := 5) hl rfl) (by omega) d_M_back_128 ?_
      refine j_iastN B not_false rfl (rG (ix := 3) hl rfl) (by omega) d_M_back_129 ?_
      refine jW.heap (σ2 := σ ++ rC b ta 0 (upd (bk1 kt ((a + 16 - n) % 16) F0 r) r (kt ((72 * ((a + 16 - n) % 16)) + r))) (upd (bk2 kt ((a + 16 - n) % 16) F1 r) r (kt (((72 * ((a + 16 - n) % 16)) + 24) + r))) (upd (bk3 kt ((a + 16 - n) % 16) F2 r) r (kt (((72 * ((a + 16 - n) % 16)) + 48) + r))) HH kt kp ((a + 16 - n) % 16) (hi - n) (tm - n) sN sx sy pt mn pl pN px py sn lt rc tx sz us D0 D1 D2 qx qy di up dn be op gs t0 fr lf pX pY pD pU X) (rT (ix := 3) hl rfl) ?_
      refine j_iinc (L' := [(0, .ref (b + 133)), (1, .int (nI n)), (2, .int (nI (r + 1)))]) (v := nI (r + 1)) B d_M_back_130 (k := 2) rfl (nI_succ r).symm (by decide) [1, 2, 0] rfl ?_
      refine j_goto B d_M_back_133 rfl ?_
      exact ih58 _ (by omega) (r + 1) rfl (by omega)
  exact lp58 _ 0 rfl (by omega)
set_option maxRecDepth 100000 in
set_option maxHeartbeats 4000000 in
theorem c_M_back_f {l : Launch} {b : Nat} {D : va_G} {ta : Nat → ClassId} {σ : List va_E} (hl : σ.length = 133) {wt : Int32} {F0 : Nat → Int32} {F1 : Nat → Int32} {F2 : Nat → Int32} {HH : Nat → Int32} {kt : Nat → Int32} {kp : Nat → Int32} {a : Nat} {hi : Nat} {tm : Nat} {sN : Nat} {sx : Nat → Int32} {sy : Nat → Int32} {pt : Nat → Int64} {mn : Nat → Int32} {pl : Nat → Int32} {pN : Nat} {px : Nat → Int32} {py : Nat → Int32} {sn : Nat → Int32} {lt : Nat → Int32} {rc : Nat → Int64} {tx : Nat → Int32} {sz : Nat → Int32} {us : Nat → Int32} {D0 : Nat → Int32} {D1 : Nat → Int32} {D2 : Nat → Int32} {qx : Int32} {qy : Int32} {di : Nat} {up : Bool} {dn : Nat} {be : Bool} {op : Nat} {gs : Nat → Int32} {t0 : Nat → Int32} {fr : Nat → Int32} {lf : Nat → Int32} {pX : Nat → Int32} {pY : Nat → Int32} {pD : Nat → Int32} {pU : Nat → Int32} {X : List va_E} {n : Int32} (hf : n < 1 ∨ nI hi < n) : jC l b D ta False y_M_back b_M_back 3 (some .boolean) (rL 0) [.ref (b + 133), .int n] (σ ++ rC b ta wt F0 F1 F2 HH kt kp a hi tm sN sx sy pt mn pl pN px py sn lt rc tx sz us D0 D1 D2 qx qy di up dn be op gs t0 fr lf pX pY pD pU X) (some (.int 0)) (σ ++ rC b ta 0 F0 F1 F2 HH kt kp a hi tm sN sx sy pt mn pl pN px py sn lt rc tx sz us D0 D1 D2 qx qy di up dn be op gs t0 fr lf pX pY pD pU X) := by
  refine jC_of (own := "WireFieldModel") (by decide +kernel) (Nat.le_of_ble_eq_true rfl) rfl (fun Γ B K => ?_)
  change jW l b D Γ False 0 0 3 (σ ++ rC b ta wt F0 F1 F2 HH kt kp a hi tm sN sx sy pt mn pl pN px py sn lt rc tx sz us D0 D1 D2 qx qy di up dn be op gs t0 fr lf pX pY pD pU X) [(0, .ref (b + 133)), (1, .int n)] 0 []
  refine j_aload_n B d_M_back_0 rfl 0 rfl ?_
  refine j_iconst (v := 0) B d_M_back_1 (by decide) ?_
  refine pf_M_102 B not_false (rG (ix := 0) hl rfl) rfl rfl (Nat.le_of_ble_eq_true rfl) d_M_back_2 ?_
  refine jW.heap (σ2 := σ ++ rC b ta 0 F0 F1 F2 HH kt kp a hi tm sN sx sy pt mn pl pN px py sn lt rc tx sz us D0 D1 D2 qx qy di up dn be op gs t0 fr lf pX pY pD pU X) (rT (ix := 0) hl rfl) ?_
  refine j_iload_n B d_M_back_5 rfl 1 rfl ?_
  refine j_iconst (v := 1) B d_M_back_6 (by decide) ?_
  refine j_icmp_lt B d_M_back_7 rfl (fun h7 => ?_) (fun h7 => ?_)
  · -- 7 jump
    refine j_iconst (v := 0) B d_M_back_18 (by decide) ?_
    exact j_zret B K (by decide) rfl rfl d_M_back_19
  · -- 7 on
    refine j_iload_n B d_M_back_10 rfl 1 rfl ?_
    refine j_aload_n B d_M_back_11 rfl 0 rfl ?_
    refine gf_M_113 B (rG (ix := 0) hl rfl) rfl d_M_back_12 ?_
    refine j_icmp_le B d_M_back_15 rfl (fun h15 => ?_) (fun h15 => ?_)
    · -- 15 jump
      exact absurd hf (fun q => q.elim h7 (fun q => Int32.not_lt.mpr h15 q))
    · -- 15 on
      refine j_iconst (v := 0) B d_M_back_18 (by decide) ?_
      exact j_zret B K (by decide) rfl rfl d_M_back_19
set_option maxRecDepth 100000 in
set_option maxHeartbeats 4000000 in
theorem c_M_period {l : Launch} {b : Nat} {D : va_G} {ta : Nat → ClassId} {σ : List va_E} (hl : σ.length = 133) {wt : Int32} {F0 : Nat → Int32} {F1 : Nat → Int32} {F2 : Nat → Int32} {HH : Nat → Int32} {kt : Nat → Int32} {kp : Nat → Int32} {a : Nat} {hi : Nat} {tm : Nat} {sN : Nat} {sx : Nat → Int32} {sy : Nat → Int32} {pt : Nat → Int64} {mn : Nat → Int32} {pl : Nat → Int32} {pN : Nat} {px : Nat → Int32} {py : Nat → Int32} {sn : Nat → Int32} {lt : Nat → Int32} {rc : Nat → Int64} {tx : Nat → Int32} {sz : Nat → Int32} {us : Nat → Int32} {D0 : Nat → Int32} {D1 : Nat → Int32} {D2 : Nat → Int32} {qx : Int32} {qy : Int32} {di : Nat} {up : Bool} {dn : Nat} {be : Bool} {op : Nat} {gs : Nat → Int32} {t0 : Nat → Int32} {fr : Nat → Int32} {lf : Nat → Int32} {pX : Nat → Int32} {pY : Nat → Int32} {pD : Nat → Int32} {pU : Nat → Int32} {X : List va_E} (hhi : hi ≤ 16) (ha : a < 16) : jC l b D ta False y_M_period b_M_period 5 (some .int) (rL 0) [.ref (b + 133)] (σ ++ rC b ta wt F0 F1 F2 HH kt kp a hi tm sN sx sy pt mn pl pN px py sn lt rc tx sz us D0 D1 D2 qx qy di up dn be op gs t0 fr lf pX pY pD pU X) (some (.int (nI (pdR kt a F0 F1 F2 hi 1)))) (σ ++ rC b ta 0 F0 F1 F2 HH kt kp a hi tm sN sx sy pt mn pl pN px py sn lt rc tx sz us D0 D1 D2 qx qy di up dn be op gs t0 fr lf pX pY pD pU X) := by
  refine jC_of (own := "WireFieldModel") (by decide +kernel) (Nat.le_of_ble_eq_true rfl) rfl (fun Γ B K => ?_)
  change jW l b D Γ False 0 0 5 (σ ++ rC b ta wt F0 F1 F2 HH kt kp a hi tm sN sx sy pt mn pl pN px py sn lt rc tx sz us D0 D1 D2 qx qy di up dn be op gs t0 fr lf pX pY pD pU X) [(0, .ref (b + 133))] 0 []
  refine j_aload_n B d_M_period_0 rfl 0 rfl ?_
  refine j_iconst (v := 0) B d_M_period_1 (by decide) ?_
  refine pf_M_102 B not_false (rG (ix := 0) hl rfl) rfl rfl (Nat.le_of_ble_eq_true rfl) d_M_period_2 ?_
  refine jW.heap (σ2 := σ ++ rC b ta 0 F0 F1 F2 HH kt kp a hi tm sN sx sy pt mn pl pN px py sn lt rc tx sz us D0 D1 D2 qx qy di up dn be op gs t0 fr lf pX pY pD pU X) (rT (ix := 0) hl rfl) ?_
  refine j_iconst (v := 1) B d_M_period_5 (by decide) ?_
  refine j_istore_n (L' := [(0, .ref (b + 133)), (1, .int 1)]) B d_M_period_6 rfl (by decide) [1, 0] rfl ?_
  have lp7 : ∀ (n7 : Nat) (p : Nat), hi + 1 - p = n7 → (1 ≤ p) → (p ≤ hi + 1) → (pdR kt a F0 F1 F2 (hi + 1 - p) p = pdR kt a F0 F1 F2 hi 1) → jW l b D Γ False 0 0 5 (σ ++ rC b ta 0 F0 F1 F2 HH kt kp a hi tm sN sx sy pt mn pl pN px py sn lt rc tx sz us D0 D1 D2 qx qy di up dn be op gs t0 fr lf pX pY pD pU X) [(0, .ref (b + 133)), (1, .int (nI p))] 7 [] := by
    refine jloop (fun n7 ih7 => ?_)
    intro p hn7 hp1 hp hI
    refine j_iload_n B d_M_period_7 rfl 1 rfl ?_
    refine j_aload_n B d_M_period_8 rfl 0 rfl ?_
    refine gf_M_113 B (rG (ix := 0) hl rfl) rfl d_M_period_9 ?_
    refine j_icmp_gt B d_M_period_12 rfl (fun h12 => ?_) (fun h12 => ?_)
    · -- 12 jump
      have hp2 : p = hi + 1 := by have := (Nat.lt_or_ge hi p).elim id (fun q => absurd h12 (nI_nlt q (by omega))); omega
      subst hp2
      rw [Nat.sub_self] at hI
      have hE : 0 = pdR kt a F0 F1 F2 hi 1 := hI
      refine j_iconst (v := 0) B d_M_period_134 (by decide) ?_
      exact j_iret B K (by rw [← hE] <;> rfl) rfl d_M_period_135
    · -- 12 on
      have hp2 : p ≤ hi := (Nat.lt_or_ge hi p).elim (fun q => absurd (nI_lt q (by omega)) h12) id
      rw [show hi + 1 - p = (hi - p) + 1 by omega, pdR] at hI
      refine j_bipush (v := 72) B d_M_period_15 (by decide) ?_
      refine j_aload_n B d_M_period_17 rfl 0 rfl ?_
      refine gf_M_110 B (rG (ix := 0) hl rfl) rfl d_M_period_18 ?_
      refine j_bipush (v := 16) B d_M_period_21 (by decide) ?_
      refine j_iaddE (v := nI (a + 16)) B (nI_add a 16) d_M_period_23 ?_
      refine j_iload_n B d_M_period_24 rfl 1 rfl ?_
      refine j_isubE (v := nI (a + 16 - p)) B (pk_sub (by omega)) d_M_period_25 ?_
      refine j_bipush (v := 16) B d_M_period_26 (by decide) ?_
      refine j_iremE (v := nI ((a + 16 - p) % 16)) B (by decide) (pk_rem (a := (a + 16 - p)) (d := 16) (by omega) (by decide) (by decide)) d_M_period_28 ?_
      refine j_imulE (v := nI (72 * ((a + 16 - p) % 16))) B (pk_mul 72 ((a + 16 - p) % 16)) d_M_period_29 ?_
      refine j_istore_n (L' := [(0, .ref (b + 133)), (1, .int (nI p)), (2, .int (nI (72 * ((a + 16 - p) % 16))))]) B d_M_period_30 rfl (by decide) [1, 2, 0] rfl ?_
      refine j_iconst (v := 1) B d_M_period_31 (by decide) ?_
      refine j_istore_n (L' := [(0, .ref (b + 133)), (1, .int (nI p)), (2, .int (nI (72 * ((a + 16 - p) % 16)))), (3, .int 1)]) B d_M_period_32 rfl (by decide) [1, 2, 3, 0] rfl ?_
      refine j_iconst (v := 0) B d_M_period_33 (by decide) ?_
      refine j_istore (L' := [(0, .ref (b + 133)), (1, .int (nI p)), (2, .int (nI (72 * ((a + 16 - p) % 16)))), (3, .int 1), (4, .int 0)]) B d_M_period_34 (by decide) [1, 2, 3, 4, 0] rfl ?_
      have lp36 : ∀ (n36 : Nat) (r : Nat) (s : Bool), 24 - r = n36 → (r ≤ 24) → (s = smR kt ((a + 16 - p) % 16) F0 F1 F2 r) → jW l b D Γ False 0 0 5 (σ ++ rC b ta 0 F0 F1 F2 HH kt kp a hi tm sN sx sy pt mn pl pN px py sn lt rc tx sz us D0 D1 D2 qx qy di up dn be op gs t0 fr lf pX pY pD pU X) [(0, .ref (b + 133)), (1, .int (nI p)), (2, .int (nI (72 * ((a + 16 - p) % 16)))), (3, .int (bI s)), (4, .int (nI r))] 36 [] := by
        refine jloop (fun n36 ih36 => ?_)
        intro r s hn36 hr hs
        refine j_iload B d_M_period_36 4 rfl ?_
        refine j_bipush (v := 24) B d_M_period_38 (by decide) ?_
        refine j_icmp_ge B d_M_period_40 rfl (fun h40 => ?_) (fun h40 => ?_)
        · -- 40 jump
          have hr2 := lp_ge (n := 24) (by decide) hr h40
          subst hr2
          refine j_iload_n B d_M_period_122 rfl 3 rfl ?_
          refine j_if_eq B d_M_period_123 rfl (fun h123 => ?_) (fun h123 => ?_)
          · -- 123 jump
            replace h123 := bI_f h123
            rw [if_neg (by rw [← hs, h123]; exact Bool.false_ne_true)] at hI
            refine j_iinc (L' := [(0, .ref (b + 133)), (1, .int (nI (p + 1))), (2, .int (nI (72 * ((a + 16 - p) % 16)))), (3, .int (bI s)), (4, .int (nI 24))]) (v := nI (p + 1)) B d_M_period_128 (k := 1) rfl (nI_succ p).symm (by decide) [1, 0, 2, 3, 4] rfl ?_
            refine j_goto B d_M_period_131 rfl ?_
            refine jW.sub (L' := [(0, .ref (b + 133)), (1, .int (nI (p + 1)))]) [0, 1] rfl ?_; exact ih7 _ (by omega) (p + 1) rfl (by omega) (by omega) (by rw [← hI, show hi + 1 - (p + 1) = hi - p by omega])
          · -- 123 on
            replace h123 := bI_t h123
            rw [if_pos (by rw [← hs, h123])] at hI
            have hE : p = pdR kt a F0 F1 F2 hi 1 := hI
            refine j_iload_n B d_M_period_126 rfl 1 rfl ?_
            exact j_iret B K (by rw [← hE] <;> rfl) rfl d_M_period_127
        · -- 40 on
          have hr2 := lp_lt (n := 24) (by decide) hr h40
          refine j_iload_n B d_M_period_43 rfl 3 rfl ?_
          refine j_if_eq B d_M_period_44 rfl (fun h44 => ?_) (fun h44 => ?_)
          · -- 44 jump
            replace h44 := bI_f h44
            refine j_iconst (v := 0) B d_M_period_114 (by decide) ?_
            refine j_istore_n (L' := [(0, .ref (b + 133)), (1, .int (nI p)), (2, .int (nI (72 * ((a + 16 - p) % 16)))), (3, .int 0), (4, .int (nI r))]) B d_M_period_115 rfl (by decide) [1, 2, 3, 0, 4] rfl ?_
            refine j_iinc (L' := [(0, .ref (b + 133)), (1, .int (nI p)), (2, .int (nI (72 * ((a + 16 - p) % 16)))), (3, .int 0), (4, .int (nI (r + 1)))]) (v := nI (r + 1)) B d_M_period_116 (k := 4) rfl (nI_succ r).symm (by decide) [1, 2, 3, 4, 0] rfl ?_
            refine j_goto B d_M_period_119 rfl ?_
            exact ih36 _ (by omega) (r + 1) false rfl (by omega) (by rw [smR, ← hs]; simp [h44])
          · -- 44 on
            replace h44 := bI_t h44
            refine j_aload_n B d_M_period_47 rfl 0 rfl ?_
            refine gf_M_22 B (rG (ix := 0) hl rfl) rfl d_M_period_48 ?_
            refine j_iload_n B d_M_period_51 rfl 2 rfl ?_
            refine j_iload B d_M_period_52 4 rfl ?_
            refine j_iaddE (v := nI ((72 * ((a + 16 - p) % 16)) + r)) B (nI_add (72 * ((a + 16 - p) % 16)) r) d_M_period_54 ?_
            refine j_ialdN B rfl (rG (ix := 5) hl rfl) (by omega) d_M_period_55 ?_
            refine j_aload_n B d_M_period_56 rfl 0 rfl ?_
            refine gf_M_7 B (rG (ix := 0) hl rfl) rfl d_M_period_57 ?_
            refine j_iload B d_M_period_60 4 rfl ?_
            refine j_ialdN B rfl (rG (ix := 1) hl rfl) (by omega) d_M_period_62 ?_
            refine j_icmp_ne B d_M_period_63 rfl (fun h63 => ?_) (fun h63 => ?_)
            · -- 63 jump
              refine j_iconst (v := 0) B d_M_period_114 (by decide) ?_
              refine j_istore_n (L' := [(0, .ref (b + 133)), (1, .int (nI p)), (2, .int (nI (72 * ((a + 16 - p) % 16)))), (3, .int 0), (4, .int (nI r))]) B d_M_period_115 rfl (by decide) [1, 2, 3, 0, 4] rfl ?_
              refine j_iinc (L' := [(0, .ref (b + 133)), (1, .int (nI p)), (2, .int (nI (72 * ((a + 16 - p) % 16)))), (3, .int 0), (4, .int (nI (r + 1)))]) (v := nI (r + 1)) B d_M_period_116 (k := 4) rfl (nI_succ r).symm (by decide) [1, 2, 3, 4, 0] rfl ?_
              refine j_goto B d_M_period_119 rfl ?_
              exact ih36 _ (by omega) (r + 1) false rfl (by omega) (by rw [smR, ← hs]; simp [h44, h63])
            · -- 63 on
              refine j_aload_n B d_M_period_66 rfl 0 rfl ?_
              refine gf_M_22 B (rG (ix := 0) hl rfl) rfl d_M_period_67 ?_
              refine j_iload_n B d_M_period_70 rfl 2 rfl ?_
              refine j_bipush (v := 24) B d_M_period_71 (by decide) ?_
              refine j_iaddE (v := nI ((72 * ((a + 16 - p) % 16)) + 24)) B (nI_add (72 * ((a + 16 - p) % 16)) 24) d_M_period_73 ?_
              refine j_iload B d_M_period_74 4 rfl ?_
              refine j_iaddE (v := nI (((72 * ((a + 16 - p) % 16)) + 24) + r)) B (nI_add ((72 * ((a + 16 - p) % 16)) + 24) r) d_M_period_76 ?_
              refine j_ialdN B rfl (rG (ix := 5) hl rfl) (by omega) d_M_period_77 ?_
              refine j_aload_n B d_M_period_78 rfl 0 rfl ?_
              refine gf_M_13 B (rG (ix := 0) hl rfl) rfl d_M_period_79 ?_
              refine j_iload B d_M_period_82 4 rfl ?_
              refine j_ialdN B rfl (rG (ix := 2) hl rfl) (by omega) d_M_period_84 ?_
              refine j_icmp_ne B d_M_period_85 rfl (fun h85 => ?_) (fun h85 => ?_)
              · -- 85 jump
                refine j_iconst (v := 0) B d_M_period_114 (by decide) ?_
                refine j_istore_n (L' := [(0, .ref (b + 133)), (1, .int (nI p)), (2, .int (nI (72 * ((a + 16 - p) % 16)))), (3, .int 0), (4, .int (nI r))]) B d_M_period_115 rfl (by decide) [1, 2, 3, 0, 4] rfl ?_
                refine j_iinc (L' := [(0, .ref (b + 133)), (1, .int (nI p)), (2, .int (nI (72 * ((a + 16 - p) % 16)))), (3, .int 0), (4, .int (nI (r + 1)))]) (v := nI (r + 1)) B d_M_period_116 (k := 4) rfl (nI_succ r).symm (by decide) [1, 2, 3, 4, 0] rfl ?_
                refine j_goto B d_M_period_119 rfl ?_
                exact ih36 _ (by omega) (r + 1) false rfl (by omega) (by rw [smR, ← hs]; simp [h44, h63, h85])
              · -- 85 on
                refine j_aload_n B d_M_period_88 rfl 0 rfl ?_
                refine gf_M_22 B (rG (ix := 0) hl rfl) rfl d_M_period_89 ?_
                refine j_iload_n B d_M_period_92 rfl 2 rfl ?_
                refine j_bipush (v := 48) B d_M_period_93 (by decide) ?_
                refine j_iaddE (v := nI ((72 * ((a + 16 - p) % 16)) + 48)) B (nI_add (72 * ((a + 16 - p) % 16)) 48) d_M_period_95 ?_
                refine j_iload B d_M_period_96 4 rfl ?_
                refine j_iaddE (v := nI (((72 * ((a + 16 - p) % 16)) + 48) + r)) B (nI_add ((72 * ((a + 16 - p) % 16)) + 48) r) d_M_period_98 ?_
                refine j_ialdN B rfl (rG (ix := 5) hl rfl) (by omega) d_M_period_99 ?_
                refine j_aload_n B d_M_period_100 rfl 0 rfl ?_
                refine gf_M_16 B (rG (ix := 0) hl rfl) rfl d_M_period_101 ?_
                refine j_iload B d_M_period_104 4 rfl ?_
                refine j_ialdN B rfl (rG (ix := 3) hl rfl) (by omega) d_M_period_106 ?_
                refine j_icmp_ne B d_M_period_107 rfl (fun h107 => ?_) (fun h107 => ?_)
                · -- 107 jump
                  refine j_iconst (v := 0) B d_M_period_114 (by decide) ?_
                  refine j_istore_n (L' := [(0, .ref (b + 133)), (1, .int (nI p)), (2, .int (nI (72 * ((a + 16 - p) % 16)))), (3, .int 0), (4, .int (nI r))]) B d_M_period_115 rfl (by decide) [1, 2, 3, 0, 4] rfl ?_
                  refine j_iinc (L' := [(0, .ref (b + 133)), (1, .int (nI p)), (2, .int (nI (72 * ((a + 16 - p) % 16)))), (3, .int 0), (4, .int (nI (r + 1)))]) (v := nI (r + 1)) B d_M_period_116 (k := 4) rfl (nI_succ r).symm (by decide) [1, 2, 3, 4, 0] rfl ?_
                  refine j_goto B d_M_period_119 rfl ?_
                  exact ih36 _ (by omega) (r + 1) false rfl (by omega) (by rw [smR, ← hs]; simp [h44, h63, h85, h107])
                · -- 107 on
                  refine j_iconst (v := 1) B d_M_period_110 (by decide) ?_
                  refine j_goto B d_M_period_111 rfl ?_
                  refine j_istore_n (L' := [(0, .ref (b + 133)), (1, .int (nI p)), (2, .int (nI (72 * ((a + 16 - p) % 16)))), (3, .int 1), (4, .int (nI r))]) B d_M_period_115 rfl (by decide) [1, 2, 3, 0, 4] rfl ?_
                  refine j_iinc (L' := [(0, .ref (b + 133)), (1, .int (nI p)), (2, .int (nI (72 * ((a + 16 - p) % 16)))), (3, .int 1), (4, .int (nI (r + 1)))]) (v := nI (r + 1)) B d_M_period_116 (k := 4) rfl (nI_succ r).symm (by decide) [1, 2, 3, 4, 0] rfl ?_
                  refine j_goto B d_M_period_119 rfl ?_
                  exact ih36 _ (by omega) (r + 1) true rfl (by omega) (by rw [smR, ← hs]; simp [h44, h63, h85, h107])
      exact lp36 _ 0 true rfl (by omega) rfl
  exact lp7 _ 1 rfl (by omega) (by omega) rfl
