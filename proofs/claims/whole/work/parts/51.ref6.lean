set_option maxRecDepth 100000 in
set_option maxHeartbeats 4000000 in
theorem c_M_macro_1 {l : Launch} {b : Nat} {D : va_G} {ta : Nat → ClassId} {σ : List va_E} (hl : σ.length = 133) {wt : Int32} {F0 : Nat → Int32} {F1 : Nat → Int32} {F2 : Nat → Int32} {HH : Nat → Int32} {kt : Nat → Int32} {kp : Nat → Int32} {a : Nat} {hi : Nat} {tm : Nat} {sN : Nat} {sx : Nat → Int32} {sy : Nat → Int32} {pt : Nat → Int64} {mn : Nat → Int32} {pl : Nat → Int32} {pN : Nat} {px : Nat → Int32} {py : Nat → Int32} {sn : Nat → Int32} {lt : Nat → Int32} {rc : Nat → Int64} {tx : Nat → Int32} {sz : Nat → Int32} {us : Nat → Int32} {D0 : Nat → Int32} {D1 : Nat → Int32} {D2 : Nat → Int32} {qx : Int32} {qy : Int32} {di : Nat} {up : Bool} {dn : Nat} {be : Bool} {op : Nat} {gs : Nat → Int32} {t0 : Nat → Int32} {fr : Nat → Int32} {lf : Nat → Int32} {pX : Nat → Int32} {pY : Nat → Int32} {pD : Nat → Int32} {pU : Nat → Int32} {X : List va_E} {z : Int32} (hf : z < 0 ∨ 3 < z) : jC l b D ta False y_M_macro b_M_macro 3 none (rL 2) [.ref (b + 133), .int z] (σ ++ rC b ta wt F0 F1 F2 HH kt kp a hi tm sN sx sy pt mn pl pN px py sn lt rc tx sz us D0 D1 D2 qx qy di up dn be op gs t0 fr lf pX pY pD pU X) none (σ ++ rC b ta 1 F0 F1 F2 HH kt kp a hi tm sN sx sy pt mn pl pN px py sn lt rc tx sz us D0 D1 D2 qx qy di up dn be op gs t0 fr lf pX pY pD pU X) := by
  refine jC_of (own := "WireFieldModel") (by decide +kernel) (Nat.le_of_ble_eq_true rfl) rfl (fun Γ B K => ?_)
  change jW l b D Γ False 0 0 3 (σ ++ rC b ta wt F0 F1 F2 HH kt kp a hi tm sN sx sy pt mn pl pN px py sn lt rc tx sz us D0 D1 D2 qx qy di up dn be op gs t0 fr lf pX pY pD pU X) [(0, .ref (b + 133)), (1, .int z)] 0 []
  refine j_aload_n B d_M_macro_0 rfl 0 rfl ?_
  refine j_iload_n B d_M_macro_1 rfl 1 rfl ?_
  refine j_if_lt B d_M_macro_2 rfl (fun h2 => ?_) (fun h2 => ?_)
  · -- 2 jump
    refine j_iconst (v := 1) B d_M_macro_10 (by decide) ?_
    refine j_goto B d_M_macro_11 rfl ?_
    refine pf_M_102 B not_false (rG (ix := 0) hl rfl) rfl rfl (Nat.le_of_ble_eq_true rfl) d_M_macro_37 ?_
    refine jW.heap (σ2 := σ ++ rC b ta 1 F0 F1 F2 HH kt kp a hi tm sN sx sy pt mn pl pN px py sn lt rc tx sz us D0 D1 D2 qx qy di up dn be op gs t0 fr lf pX pY pD pU X) (rT (ix := 0) hl rfl) ?_
    refine j_aload_n B d_M_macro_40 rfl 0 rfl ?_
    refine gf_M_102 B (rG (ix := 0) hl rfl) rfl d_M_macro_41 ?_
    refine j_if_le B d_M_macro_44 rfl (fun h44 => absurd h44 (by decide)) (fun h44 => ?_)
    exact j_vret B K rfl d_M_macro_47
  · -- 2 on
    refine j_iload_n B d_M_macro_5 rfl 1 rfl ?_
    refine j_iconst (v := 3) B d_M_macro_6 (by decide) ?_
    refine j_icmp_le B d_M_macro_7 rfl (fun h7 => ?_) (fun h7 => ?_)
    · -- 7 jump
      exact absurd hf (fun q => q.elim h2 (fun q => Int32.not_lt.mpr h7 q))
    · -- 7 on
      refine j_iconst (v := 1) B d_M_macro_10 (by decide) ?_
      refine j_goto B d_M_macro_11 rfl ?_
      refine pf_M_102 B not_false (rG (ix := 0) hl rfl) rfl rfl (Nat.le_of_ble_eq_true rfl) d_M_macro_37 ?_
      refine jW.heap (σ2 := σ ++ rC b ta 1 F0 F1 F2 HH kt kp a hi tm sN sx sy pt mn pl pN px py sn lt rc tx sz us D0 D1 D2 qx qy di up dn be op gs t0 fr lf pX pY pD pU X) (rT (ix := 0) hl rfl) ?_
      refine j_aload_n B d_M_macro_40 rfl 0 rfl ?_
      refine gf_M_102 B (rG (ix := 0) hl rfl) rfl d_M_macro_41 ?_
      refine j_if_le B d_M_macro_44 rfl (fun h44 => absurd h44 (by decide)) (fun h44 => ?_)
      exact j_vret B K rfl d_M_macro_47
set_option maxRecDepth 100000 in
set_option maxHeartbeats 4000000 in
theorem c_M_macro_2 {l : Launch} {b : Nat} {D : va_G} {ta : Nat → ClassId} {σ : List va_E} (hl : σ.length = 133) {wt : Int32} {F0 : Nat → Int32} {F1 : Nat → Int32} {F2 : Nat → Int32} {HH : Nat → Int32} {kt : Nat → Int32} {kp : Nat → Int32} {a : Nat} {hi : Nat} {tm : Nat} {sN : Nat} {sx : Nat → Int32} {sy : Nat → Int32} {pt : Nat → Int64} {mn : Nat → Int32} {pl : Nat → Int32} {pN : Nat} {px : Nat → Int32} {py : Nat → Int32} {sn : Nat → Int32} {lt : Nat → Int32} {rc : Nat → Int64} {tx : Nat → Int32} {sz : Nat → Int32} {us : Nat → Int32} {D0 : Nat → Int32} {D1 : Nat → Int32} {D2 : Nat → Int32} {qx : Int32} {qy : Int32} {di : Nat} {up : Bool} {dn : Nat} {be : Bool} {op : Nat} {gs : Nat → Int32} {t0 : Nat → Int32} {fr : Nat → Int32} {lf : Nat → Int32} {pX : Nat → Int32} {pY : Nat → Int32} {pD : Nat → Int32} {pU : Nat → Int32} {X : List va_E} {N : Nat} (hz : sz 4 = nI N) (hN : N ≤ 60) {j : Nat} (hj : j < 4) (hf : ¬ ((rdF (fun i => tx (60 * 4 + i)) N).1 = true ∧ (rdF (fun i => tx (60 * 4 + i)) N).2 >>> (nI j &&& 31) = 0)) : jC l b D ta False y_M_macro b_M_macro 3 none (rL 2) [.ref (b + 133), .int (nI j)] (σ ++ rC b ta wt F0 F1 F2 HH kt kp a hi tm sN sx sy pt mn pl pN px py sn lt rc tx sz us D0 D1 D2 qx qy di up dn be op gs t0 fr lf pX pY pD pU X) none (σ ++ rC b ta 2 F0 F1 F2 HH kt kp a hi tm sN sx sy pt mn pl pN px py sn lt rc tx sz (upd us 4 (rdF (fun i => tx (60 * 4 + i)) N).2) D0 D1 D2 qx qy di up dn be op gs t0 fr lf pX pY pD pU X) := by
  refine jC_of (own := "WireFieldModel") (by decide +kernel) (Nat.le_of_ble_eq_true rfl) rfl (fun Γ B K => ?_)
  change jW l b D Γ False 0 0 3 (σ ++ rC b ta wt F0 F1 F2 HH kt kp a hi tm sN sx sy pt mn pl pN px py sn lt rc tx sz us D0 D1 D2 qx qy di up dn be op gs t0 fr lf pX pY pD pU X) [(0, .ref (b + 133)), (1, .int (nI j))] 0 []
  refine j_aload_n B d_M_macro_0 rfl 0 rfl ?_
  refine j_iload_n B d_M_macro_1 rfl 1 rfl ?_
  refine j_if_lt B d_M_macro_2 rfl (fun h2 => absurd h2 (nI_pos (by omega))) (fun h2 => ?_)
  refine j_iload_n B d_M_macro_5 rfl 1 rfl ?_
  refine j_iconst (v := 3) B d_M_macro_6 (by decide) ?_
  refine j_icmp_le B d_M_macro_7 rfl (fun h7 => ?_) (fun h7 => absurd (nI_le (b := 3) (show j ≤ 3 by omega) (by decide)) h7)
  refine j_aload_n B d_M_macro_14 rfl 0 rfl ?_
  refine k_callV (as := []) (rest := [.ref (b + 133)]) (st1 := [.int (bI (rdF (fun i => tx (60 * 4 + i)) N).1), .ref (b + 133)]) B (c_M_reads hl hz hN) yf_M_reads w_881 w_883 w_s28 rfl (rG (ix := 0) hl rfl) rfl (by decide) (by decide) rfl rfl (Nat.le_of_ble_eq_true rfl) d_M_macro_15 ?_
  refine j_if_eq B d_M_macro_18 rfl (fun h18 => ?_) (fun h18 => ?_)
  · -- 18 jump
    replace h18 := bI_f h18
    refine j_iconst (v := 2) B d_M_macro_32 (by decide) ?_
    refine j_goto B d_M_macro_33 rfl ?_
    refine pf_M_102 B not_false (rG (ix := 0) hl rfl) rfl rfl (Nat.le_of_ble_eq_true rfl) d_M_macro_37 ?_
    refine jW.heap (σ2 := σ ++ rC b ta 2 F0 F1 F2 HH kt kp a hi tm sN sx sy pt mn pl pN px py sn lt rc tx sz (upd us 4 (rdF (fun i => tx (60 * 4 + i)) N).2) D0 D1 D2 qx qy di up dn be op gs t0 fr lf pX pY pD pU X) (rT (ix := 0) hl rfl) ?_
    refine j_aload_n B d_M_macro_40 rfl 0 rfl ?_
    refine gf_M_102 B (rG (ix := 0) hl rfl) rfl d_M_macro_41 ?_
    refine j_if_le B d_M_macro_44 rfl (fun h44 => absurd h44 (by decide)) (fun h44 => ?_)
    exact j_vret B K rfl d_M_macro_47
  · -- 18 on
    replace h18 := bI_t h18
    refine j_aload_n B d_M_macro_21 rfl 0 rfl ?_
    refine gf_M_65 B (rG (ix := 0) hl rfl) rfl d_M_macro_22 ?_
    refine j_iconst (v := nI 4) B d_M_macro_25 (by decide) ?_
    refine j_ialdN B rfl (rG (ix := 19) hl rfl) (by omega) d_M_macro_26 ?_
    rw [pk_us]
    refine j_iload_n B d_M_macro_27 rfl 1 rfl ?_
    refine j_ishr B d_M_macro_28 ?_
    refine j_if_eq B d_M_macro_29 rfl (fun h29 => ?_) (fun h29 => ?_)
    · -- 29 jump
      exact absurd ⟨h18, h29⟩ hf
    · -- 29 on
      refine j_iconst (v := 2) B d_M_macro_32 (by decide) ?_
      refine j_goto B d_M_macro_33 rfl ?_
      refine pf_M_102 B not_false (rG (ix := 0) hl rfl) rfl rfl (Nat.le_of_ble_eq_true rfl) d_M_macro_37 ?_
      refine jW.heap (σ2 := σ ++ rC b ta 2 F0 F1 F2 HH kt kp a hi tm sN sx sy pt mn pl pN px py sn lt rc tx sz (upd us 4 (rdF (fun i => tx (60 * 4 + i)) N).2) D0 D1 D2 qx qy di up dn be op gs t0 fr lf pX pY pD pU X) (rT (ix := 0) hl rfl) ?_
      refine j_aload_n B d_M_macro_40 rfl 0 rfl ?_
      refine gf_M_102 B (rG (ix := 0) hl rfl) rfl d_M_macro_41 ?_
      refine j_if_le B d_M_macro_44 rfl (fun h44 => absurd h44 (by decide)) (fun h44 => ?_)
      exact j_vret B K rfl d_M_macro_47
set_option maxRecDepth 100000 in
set_option maxHeartbeats 4000000 in
theorem c_M_macro_0 {l : Launch} {b : Nat} {D : va_G} {ta : Nat → ClassId} {σ : List va_E} (hl : σ.length = 133) {wt : Int32} {F0 : Nat → Int32} {F1 : Nat → Int32} {F2 : Nat → Int32} {HH : Nat → Int32} {kt : Nat → Int32} {kp : Nat → Int32} {a : Nat} {hi : Nat} {tm : Nat} {sN : Nat} {sx : Nat → Int32} {sy : Nat → Int32} {pt : Nat → Int64} {mn : Nat → Int32} {pl : Nat → Int32} {pN : Nat} {px : Nat → Int32} {py : Nat → Int32} {sn : Nat → Int32} {lt : Nat → Int32} {rc : Nat → Int64} {tx : Nat → Int32} {sz : Nat → Int32} {us : Nat → Int32} {D0 : Nat → Int32} {D1 : Nat → Int32} {D2 : Nat → Int32} {qx : Int32} {qy : Int32} {di : Nat} {up : Bool} {dn : Nat} {be : Bool} {op : Nat} {gs : Nat → Int32} {t0 : Nat → Int32} {fr : Nat → Int32} {lf : Nat → Int32} {pX : Nat → Int32} {pY : Nat → Int32} {pD : Nat → Int32} {pU : Nat → Int32} {X : List va_E} {N : Nat} (hz : sz 4 = nI N) (hN : N ≤ 60) {j : Nat} (hj : j < 4) (hA : (rdF (fun i => tx (60 * 4 + i)) N).1 = true) (hB : (rdF (fun i => tx (60 * 4 + i)) N).2 >>> (nI j &&& 31) = 0) : jC l b D ta False y_M_macro b_M_macro 3 none (rL 2) [.ref (b + 133), .int (nI j)] (σ ++ rC b ta wt F0 F1 F2 HH kt kp a hi tm sN sx sy pt mn pl pN px py sn lt rc tx sz us D0 D1 D2 qx qy di up dn be op gs t0 fr lf pX pY pD pU X) none (σ ++ rC b ta 0 F0 F1 F2 HH kt kp a hi tm sN sx sy pt mn pl pN px py sn lt rc (cpT tx j 60) (upd (upd sz j (sz 4)) 4 0) (upd (upd us 4 (rdF (fun i => tx (60 * 4 + i)) N).2) j (rdF (fun i => tx (60 * 4 + i)) N).2) D0 D1 D2 qx qy di up dn be op gs t0 fr lf pX pY pD pU X) := by
  refine jC_of (own := "WireFieldModel") (by decide +kernel) (Nat.le_of_ble_eq_true rfl) rfl (fun Γ B K => ?_)
  change jW l b D Γ False 0 0 3 (σ ++ rC b ta wt F0 F1 F2 HH kt kp a hi tm sN sx sy pt mn pl pN px py sn lt rc tx sz us D0 D1 D2 qx qy di up dn be op gs t0 fr lf pX pY pD pU X) [(0, .ref (b + 133)), (1, .int (nI j))] 0 []
  refine j_aload_n B d_M_macro_0 rfl 0 rfl ?_
  refine j_iload_n B d_M_macro_1 rfl 1 rfl ?_
  refine j_if_lt B d_M_macro_2 rfl (fun h2 => absurd h2 (nI_pos (by omega))) (fun h2 => ?_)
  refine j_iload_n B d_M_macro_5 rfl 1 rfl ?_
  refine j_iconst (v := 3) B d_M_macro_6 (by decide) ?_
  refine j_icmp_le B d_M_macro_7 rfl (fun h7 => ?_) (fun h7 => absurd (nI_le (b := 3) (show j ≤ 3 by omega) (by decide)) h7)
  refine j_aload_n B d_M_macro_14 rfl 0 rfl ?_
  refine k_callV (as := []) (rest := [.ref (b + 133)]) (st1 := [.int (bI (rdF (fun i => tx (60 * 4 + i)) N).1), .ref (b + 133)]) B (c_M_reads hl hz hN) yf_M_reads w_881 w_883 w_s28 rfl (rG (ix := 0) hl rfl) rfl (by decide) (by decide) rfl rfl (Nat.le_of_ble_eq_true rfl) d_M_macro_15 ?_
  refine j_if_eq B d_M_macro_18 rfl (fun h18 => absurd (bI_f h18) (by rw [hA]; decide)) (fun h18 => ?_)
  refine j_aload_n B d_M_macro_21 rfl 0 rfl ?_
  refine gf_M_65 B (rG (ix := 0) hl rfl) rfl d_M_macro_22 ?_
  refine j_iconst (v := nI 4) B d_M_macro_25 (by decide) ?_
  refine j_ialdN B rfl (rG (ix := 19) hl rfl) (by omega) d_M_macro_26 ?_
  rw [pk_us]
  refine j_iload_n B d_M_macro_27 rfl 1 rfl ?_
  refine j_ishr B d_M_macro_28 ?_
  refine j_if_eq B d_M_macro_29 rfl (fun h29 => ?_) (fun h29 => absurd hB h29)
  refine j_iconst (v := 0) B d_M_macro_36 (by decide) ?_
  refine pf_M_102 B not_false (rG (ix := 0) hl rfl) rfl rfl (Nat.le_of_ble_eq_true rfl) d_M_macro_37 ?_
  refine jW.heap (σ2 := σ ++ rC b ta 0 F0 F1 F2 HH kt kp a hi tm sN sx sy pt mn pl pN px py sn lt rc tx sz (upd us 4 (rdF (fun i => tx (60 * 4 + i)) N).2) D0 D1 D2 qx qy di up dn be op gs t0 fr lf pX pY pD pU X) (rT (ix := 0) hl rfl) ?_
  refine j_aload_n B d_M_macro_40 rfl 0 rfl ?_
  refine gf_M_102 B (rG (ix := 0) hl rfl) rfl d_M_macro_41 ?_
  refine j_if_le B d_M_macro_44 rfl (fun h44 => ?_) (fun h44 => absurd (by decide) h44)
  refine j_iconst (v := 0) B d_M_macro_48 (by decide) ?_
  refine j_istore_n (L' := [(0, .ref (b + 133)), (1, .int (nI j)), (2, .int 0)]) B d_M_macro_49 rfl (by decide) [1, 2, 0] rfl ?_
  have lp50 : ∀ (n50 : Nat) (k : Nat), 60 - k = n50 → (k ≤ 60) → jW l b D Γ False 0 0 3 (σ ++ rC b ta 0 F0 F1 F2 HH kt kp a hi tm sN sx sy pt mn pl pN px py sn lt rc (cpT tx j k) sz (upd us 4 (rdF (fun i => tx (60 * 4 + i)) N).2) D0 D1 D2 qx qy di up dn be op gs t0 fr lf pX pY pD pU X) [(0, .ref (b + 133)), (1, .int (nI j)), (2, .int (nI k))] 50 [] := by
    refine jloop (fun n50 ih50 => ?_)
    intro k hn50 hk
    refine j_iload_n B d_M_macro_50 rfl 2 rfl ?_
    refine j_bipush (v := 60) B d_M_macro_51 (by decide) ?_
    refine j_icmp_ge B d_M_macro_53 rfl (fun h53 => ?_) (fun h53 => ?_)
    · -- 53 jump
      have hk2 := lp_ge (n := 60) (by decide) hk h53
      subst hk2
      refine j_aload_n B d_M_macro_83 rfl 0 rfl ?_
      refine gf_M_62 B (rG (ix := 0) hl rfl) rfl d_M_macro_84 ?_
      refine j_iload_n B d_M_macro_87 rfl 1 rfl ?_
      refine j_aload_n B d_M_macro_88 rfl 0 rfl ?_
      refine gf_M_62 B (rG (ix := 0) hl rfl) rfl d_M_macro_89 ?_
      refine j_iconst (v := nI 4) B d_M_macro_92 (by decide) ?_
      refine j_ialdN B rfl (rG (ix := 18) hl rfl) (by omega) d_M_macro_93 ?_
      refine j_iastN B not_false rfl (rG (ix := 18) hl rfl) (by omega) d_M_macro_94 ?_
      refine jW.heap (σ2 := σ ++ rC b ta 0 F0 F1 F2 HH kt kp a hi tm sN sx sy pt mn pl pN px py sn lt rc (cpT tx j 60) (upd sz j (sz 4)) (upd us 4 (rdF (fun i => tx (60 * 4 + i)) N).2) D0 D1 D2 qx qy di up dn be op gs t0 fr lf pX pY pD pU X) (rT (ix := 18) hl rfl) ?_
      refine j_aload_n B d_M_macro_95 rfl 0 rfl ?_
      refine gf_M_65 B (rG (ix := 0) hl rfl) rfl d_M_macro_96 ?_
      refine j_iload_n B d_M_macro_99 rfl 1 rfl ?_
      refine j_aload_n B d_M_macro_100 rfl 0 rfl ?_
      refine gf_M_65 B (rG (ix := 0) hl rfl) rfl d_M_macro_101 ?_
      refine j_iconst (v := nI 4) B d_M_macro_104 (by decide) ?_
      refine j_ialdN B rfl (rG (ix := 19) hl rfl) (by omega) d_M_macro_105 ?_
      rw [pk_us]
      refine j_iastN B not_false rfl (rG (ix := 19) hl rfl) (by omega) d_M_macro_106 ?_
      refine jW.heap (σ2 := σ ++ rC b ta 0 F0 F1 F2 HH kt kp a hi tm sN sx sy pt mn pl pN px py sn lt rc (cpT tx j 60) (upd sz j (sz 4)) (upd (upd us 4 (rdF (fun i => tx (60 * 4 + i)) N).2) j ((rdF (fun i => tx (60 * 4 + i)) N).2)) D0 D1 D2 qx qy di up dn be op gs t0 fr lf pX pY pD pU X) (rT (ix := 19) hl rfl) ?_
      refine j_aload_n B d_M_macro_107 rfl 0 rfl ?_
      refine gf_M_62 B (rG (ix := 0) hl rfl) rfl d_M_macro_108 ?_
      refine j_iconst (v := nI 4) B d_M_macro_111 (by decide) ?_
      refine j_iconst (v := 0) B d_M_macro_112 (by decide) ?_
      refine j_iastN B not_false rfl (rG (ix := 18) hl rfl) (by omega) d_M_macro_113 ?_
      refine jW.heap (σ2 := σ ++ rC b ta 0 F0 F1 F2 HH kt kp a hi tm sN sx sy pt mn pl pN px py sn lt rc (cpT tx j 60) (upd (upd sz j (sz 4)) 4 0) (upd (upd us 4 (rdF (fun i => tx (60 * 4 + i)) N).2) j ((rdF (fun i => tx (60 * 4 + i)) N).2)) D0 D1 D2 qx qy di up dn be op gs t0 fr lf pX pY pD pU X) (rT (ix := 18) hl rfl) ?_
      exact j_vret B K rfl d_M_macro_114
    · -- 53 on
      have hk2 := lp_lt (n := 60) (by decide) hk h53
      refine j_aload_n B d_M_macro_56 rfl 0 rfl ?_
      refine gf_M_59 B (rG (ix := 0) hl rfl) rfl d_M_macro_57 ?_
      refine j_bipush (v := 60) B d_M_macro_60 (by decide) ?_
      refine j_iload_n B d_M_macro_62 rfl 1 rfl ?_
      refine j_imulE (v := nI (60 * j)) B (pk_mul 60 j) d_M_macro_63 ?_
      refine j_iload_n B d_M_macro_64 rfl 2 rfl ?_
      refine j_iaddE (v := nI ((60 * j) + k)) B (nI_add (60 * j) k) d_M_macro_65 ?_
      refine j_aload_n B d_M_macro_66 rfl 0 rfl ?_
      refine gf_M_59 B (rG (ix := 0) hl rfl) rfl d_M_macro_67 ?_
      refine j_sipush (v := 240) B d_M_macro_70 (by decide) ?_
      refine j_iload_n B d_M_macro_73 rfl 2 rfl ?_
      refine j_iaddE (v := nI (240 + k)) B (nI_add 240 k) d_M_macro_74 ?_
      refine j_ialdN B rfl (rG (ix := 17) hl rfl) (by omega) d_M_macro_75 ?_
      refine j_iastN B not_false rfl (rG (ix := 17) hl rfl) (by omega) d_M_macro_76 ?_
      refine jW.heap (σ2 := σ ++ rC b ta 0 F0 F1 F2 HH kt kp a hi tm sN sx sy pt mn pl pN px py sn lt rc (upd (cpT tx j k) ((60 * j) + k) ((cpT tx j k) (240 + k))) sz (upd us 4 (rdF (fun i => tx (60 * 4 + i)) N).2) D0 D1 D2 qx qy di up dn be op gs t0 fr lf pX pY pD pU X) (rT (ix := 17) hl rfl) ?_
      refine j_iinc (L' := [(0, .ref (b + 133)), (1, .int (nI j)), (2, .int (nI (k + 1)))]) (v := nI (k + 1)) B d_M_macro_77 (k := 2) rfl (nI_succ k).symm (by decide) [1, 2, 0] rfl ?_
      refine j_goto B d_M_macro_80 rfl ?_
      exact ih50 _ (by omega) (k + 1) rfl (by omega)
  exact lp50 _ 0 rfl (by omega)
set_option maxRecDepth 100000 in
set_option maxHeartbeats 4000000 in
theorem c_M_draw_1 {l : Launch} {b : Nat} {D : va_G} {ta : Nat → ClassId} {σ : List va_E} (hl : σ.length = 133) {wt : Int32} {F0 : Nat → Int32} {F1 : Nat → Int32} {F2 : Nat → Int32} {HH : Nat → Int32} {kt : Nat → Int32} {kp : Nat → Int32} {a : Nat} {hi : Nat} {tm : Nat} {sN : Nat} {sx : Nat → Int32} {sy : Nat → Int32} {pt : Nat → Int64} {mn : Nat → Int32} {pl : Nat → Int32} {pN : Nat} {px : Nat → Int32} {py : Nat → Int32} {sn : Nat → Int32} {lt : Nat → Int32} {rc : Nat → Int64} {tx : Nat → Int32} {sz : Nat → Int32} {us : Nat → Int32} {D0 : Nat → Int32} {D1 : Nat → Int32} {D2 : Nat → Int32} {qx : Int32} {qy : Int32} {di : Nat} {up : Bool} {dn : Nat} {be : Bool} {op : Nat} {gs : Nat → Int32} {t0 : Nat → Int32} {fr : Nat → Int32} {lf : Nat → Int32} {pX : Nat → Int32} {pY : Nat → Int32} {pD : Nat → Int32} {pU : Nat → Int32} {X : List va_E} {x y d : Int32} (hf : ¬ (inF x y = true ∧ ¬ d < 0 ∧ d ≤ 3)) : jC l b D ta False y_M_draw b_M_draw 5 (some .int) (rL 6) [.ref (b + 133), .int x, .int y, .int d] (σ ++ rC b ta wt F0 F1 F2 HH kt kp a hi tm sN sx sy pt mn pl pN px py sn lt rc tx sz us D0 D1 D2 qx qy di up dn be op gs t0 fr lf pX pY pD pU X) (some (.int 0)) (σ ++ rC b ta 1 F0 F1 F2 HH kt kp a hi tm sN sx sy pt mn pl pN px py sn lt rc tx sz us D0 D1 D2 qx qy di up dn be op gs t0 fr lf pX pY pD pU X) := by
  refine jC_of (own := "WireFieldModel") (by decide +kernel) (Nat.le_of_ble_eq_true rfl) rfl (fun Γ B K => ?_)
  change jW l b D Γ False 0 0 5 (σ ++ rC b ta wt F0 F1 F2 HH kt kp a hi tm sN sx sy pt mn pl pN px py sn lt rc tx sz us D0 D1 D2 qx qy di up dn be op gs t0 fr lf pX pY pD pU X) [(0, .ref (b + 133)), (1, .int x), (2, .int y), (3, .int d)] 0 []
  refine j_aload_n B d_M_draw_0 rfl 0 rfl ?_
  refine j_iload_n B d_M_draw_1 rfl 1 rfl ?_
  refine j_iload_n B d_M_draw_2 rfl 2 rfl ?_
  refine k_callS (as := [.int x, .int y]) (rest := [.ref (b + 133)]) (st1 := [.int (bI (inF x y)), .ref (b + 133)]) B (c_M_is x y) yf_M_is w_899 w_900 rfl (by decide) (by decide) rfl rfl (Nat.le_of_ble_eq_true rfl) d_M_draw_3 ?_
  refine j_if_eq B d_M_draw_6 rfl (fun h6 => ?_) (fun h6 => ?_)
  · -- 6 jump
    replace h6 := bI_f h6
    refine j_iconst (v := 1) B d_M_draw_18 (by decide) ?_
    refine j_goto B d_M_draw_19 rfl ?_
    refine pf_M_102 B not_false (rG (ix := 0) hl rfl) rfl rfl (Nat.le_of_ble_eq_true rfl) d_M_draw_41 ?_
    refine jW.heap (σ2 := σ ++ rC b ta 1 F0 F1 F2 HH kt kp a hi tm sN sx sy pt mn pl pN px py sn lt rc tx sz us D0 D1 D2 qx qy di up dn be op gs t0 fr lf pX pY pD pU X) (rT (ix := 0) hl rfl) ?_
    refine j_aload_n B d_M_draw_44 rfl 0 rfl ?_
    refine gf_M_102 B (rG (ix := 0) hl rfl) rfl d_M_draw_45 ?_
    refine j_if_le B d_M_draw_48 rfl (fun h48 => absurd h48 (by decide)) (fun h48 => ?_)
    refine j_iconst (v := 0) B d_M_draw_51 (by decide) ?_
    exact j_iret B K rfl rfl d_M_draw_52
  · -- 6 on
    replace h6 := bI_t h6
    refine j_iload_n B d_M_draw_9 rfl 3 rfl ?_
    refine j_if_lt B d_M_draw_10 rfl (fun h10 => ?_) (fun h10 => ?_)
    · -- 10 jump
      refine j_iconst (v := 1) B d_M_draw_18 (by decide) ?_
      refine j_goto B d_M_draw_19 rfl ?_
      refine pf_M_102 B not_false (rG (ix := 0) hl rfl) rfl rfl (Nat.le_of_ble_eq_true rfl) d_M_draw_41 ?_
      refine jW.heap (σ2 := σ ++ rC b ta 1 F0 F1 F2 HH kt kp a hi tm sN sx sy pt mn pl pN px py sn lt rc tx sz us D0 D1 D2 qx qy di up dn be op gs t0 fr lf pX pY pD pU X) (rT (ix := 0) hl rfl) ?_
      refine j_aload_n B d_M_draw_44 rfl 0 rfl ?_
      refine gf_M_102 B (rG (ix := 0) hl rfl) rfl d_M_draw_45 ?_
      refine j_if_le B d_M_draw_48 rfl (fun h48 => absurd h48 (by decide)) (fun h48 => ?_)
      refine j_iconst (v := 0) B d_M_draw_51 (by decide) ?_
      exact j_iret B K rfl rfl d_M_draw_52
    · -- 10 on
      refine j_iload_n B d_M_draw_13 rfl 3 rfl ?_
      refine j_iconst (v := 3) B d_M_draw_14 (by decide) ?_
      refine j_icmp_le B d_M_draw_15 rfl (fun h15 => ?_) (fun h15 => ?_)
      · -- 15 jump
        exact absurd ⟨h6, h10, h15⟩ hf
      · -- 15 on
        refine j_iconst (v := 1) B d_M_draw_18 (by decide) ?_
        refine j_goto B d_M_draw_19 rfl ?_
        refine pf_M_102 B not_false (rG (ix := 0) hl rfl) rfl rfl (Nat.le_of_ble_eq_true rfl) d_M_draw_41 ?_
        refine jW.heap (σ2 := σ ++ rC b ta 1 F0 F1 F2 HH kt kp a hi tm sN sx sy pt mn pl pN px py sn lt rc tx sz us D0 D1 D2 qx qy di up dn be op gs t0 fr lf pX pY pD pU X) (rT (ix := 0) hl rfl) ?_
        refine j_aload_n B d_M_draw_44 rfl 0 rfl ?_
        refine gf_M_102 B (rG (ix := 0) hl rfl) rfl d_M_draw_45 ?_
        refine j_if_le B d_M_draw_48 rfl (fun h48 => absurd h48 (by decide)) (fun h48 => ?_)
        refine j_iconst (v := 0) B d_M_draw_51 (by decide) ?_
        exact j_iret B K rfl rfl d_M_draw_52
set_option maxRecDepth 100000 in
set_option maxHeartbeats 4000000 in
theorem c_M_draw_2 {l : Launch} {b : Nat} {D : va_G} {ta : Nat → ClassId} {σ : List va_E} (hl : σ.length = 133) {wt : Int32} {F0 : Nat → Int32} {F1 : Nat → Int32} {F2 : Nat → Int32} {HH : Nat → Int32} {kt : Nat → Int32} {kp : Nat → Int32} {a : Nat} {hi : Nat} {tm : Nat} {sN : Nat} {sx : Nat → Int32} {sy : Nat → Int32} {pt : Nat → Int64} {mn : Nat → Int32} {pl : Nat → Int32} {pN : Nat} {px : Nat → Int32} {py : Nat → Int32} {sn : Nat → Int32} {lt : Nat → Int32} {rc : Nat → Int64} {tx : Nat → Int32} {sz : Nat → Int32} {us : Nat → Int32} {D0 : Nat → Int32} {D1 : Nat → Int32} {D2 : Nat → Int32} {qx : Int32} {qy : Int32} {di : Nat} {up : Bool} {dn : Nat} {be : Bool} {op : Nat} {gs : Nat → Int32} {t0 : Nat → Int32} {fr : Nat → Int32} {lf : Nat → Int32} {pX : Nat → Int32} {pY : Nat → Int32} {pD : Nat → Int32} {pU : Nat → Int32} {X : List va_E} {N : Nat} (hz : sz 4 = nI N) (hN : N ≤ 60) {x y : Int32} {d : Nat} (hin : inF x y = true) (hd : d < 4) (hf : ¬ ((rdF (fun i => tx (60 * 4 + i)) N).1 = true ∧ mcR sz (upd us 4 (rdF (fun i => tx (60 * 4 + i)) N).2) 4 ((upd us 4 (rdF (fun i => tx (60 * 4 + i)) N).2) 4) = true)) : jC l b D ta False y_M_draw b_M_draw 5 (some .int) (rL 6) [.ref (b + 133), .int x, .int y, .int (nI d)] (σ ++ rC b ta wt F0 F1 F2 HH kt kp a hi tm sN sx sy pt mn pl pN px py sn lt rc tx sz us D0 D1 D2 qx qy di up dn be op gs t0 fr lf pX pY pD pU X) (some (.int 0)) (σ ++ rC b ta 2 F0 F1 F2 HH kt kp a hi tm sN sx sy pt mn pl pN px py sn lt rc tx sz (upd us 4 (rdF (fun i => tx (60 * 4 + i)) N).2) D0 D1 D2 qx qy di up dn be op gs t0 fr lf pX pY pD pU X) := by
  refine jC_of (own := "WireFieldModel") (by decide +kernel) (Nat.le_of_ble_eq_true rfl) rfl (fun Γ B K => ?_)
  change jW l b D Γ False 0 0 5 (σ ++ rC b ta wt F0 F1 F2 HH kt kp a hi tm sN sx sy pt mn pl pN px py sn lt rc tx sz us D0 D1 D2 qx qy di up dn be op gs t0 fr lf pX pY pD pU X) [(0, .ref (b + 133)), (1, .int x), (2, .int y), (3, .int (nI d))] 0 []
  refine j_aload_n B d_M_draw_0 rfl 0 rfl ?_
  refine j_iload_n B d_M_draw_1 rfl 1 rfl ?_
  refine j_iload_n B d_M_draw_2 rfl 2 rfl ?_
  refine k_callS (as := [.int x, .int y]) (rest := [.ref (b + 133)]) (st1 := [.int (bI (inF x y)), .ref (b + 133)]) B (c_M_is x y) yf_M_is w_899 w_900 rfl (by decide) (by decide) rfl rfl (Nat.le_of_ble_eq_true rfl) d_M_draw_3 ?_
  refine j_if_eq B d_M_draw_6 rfl (fun h6 => absurd (bI_f h6) (by rw [hin]; decide)) (fun h6 => ?_)
  refine j_iload_n B d_M_draw_9 rfl 3 rfl ?_
  refine j_if_lt B d_M_draw_10 rfl (fun h10 => absurd h10 (nI_pos (by omega))) (fun h10 => ?_)
  refine j_iload_n B d_M_draw_13 rfl 3 rfl ?_
  refine j_iconst (v := 3) B d_M_draw_14 (by decide) ?_
  refine j_icmp_le B d_M_draw_15 rfl (fun h15 => ?_) (fun h15 => absurd (nI_le (b := 3) (show d ≤ 3 by omega) (by decide)) h15)
  refine j_aload_n B d_M_draw_22 rfl 0 rfl ?_
  refine k_callV (as := []) (rest := [.ref (b + 133)]) (st1 := [.int (bI (rdF (fun i => tx (60 * 4 + i)) N).1), .ref (b + 133)]) B (c_M_reads hl hz hN) yf_M_reads w_881 w_883 w_s28 rfl (rG (ix := 0) hl rfl) rfl (by decide) (by decide) rfl rfl (Nat.le_of_ble_eq_true rfl) d_M_draw_23 ?_
  refine j_if_eq B d_M_draw_26 rfl (fun h26 => ?_) (fun h26 => ?_)
  · -- 26 jump
    replace h26 := bI_f h26
    refine j_iconst (v := 2) B d_M_draw_36 (by decide) ?_
    refine j_goto B d_M_draw_37 rfl ?_
    refine pf_M_102 B not_false (rG (ix := 0) hl rfl) rfl rfl (Nat.le_of_ble_eq_true rfl) d_M_draw_41 ?_
    refine jW.heap (σ2 := σ ++ rC b ta 2 F0 F1 F2 HH kt kp a hi tm sN sx sy pt mn pl pN px py sn lt rc tx sz (upd us 4 (rdF (fun i => tx (60 * 4 + i)) N).2) D0 D1 D2 qx qy di up dn be op gs t0 fr lf pX pY pD pU X) (rT (ix := 0) hl rfl) ?_
    refine j_aload_n B d_M_draw_44 rfl 0 rfl ?_
    refine gf_M_102 B (rG (ix := 0) hl rfl) rfl d_M_draw_45 ?_
    refine j_if_le B d_M_draw_48 rfl (fun h48 => absurd h48 (by decide)) (fun h48 => ?_)
    refine j_iconst (v := 0) B d_M_draw_51 (by decide) ?_
    exact j_iret B K rfl rfl d_M_draw_52
  · -- 26 on
    replace h26 := bI_t h26
    refine j_aload_n B d_M_draw_29 rfl 0 rfl ?_
    refine k_callV (as := []) (rest := [.ref (b + 133)]) (st1 := [.int (bI (mcR sz (upd us 4 (rdF (fun i => tx (60 * 4 + i)) N).2) 4 ((upd us 4 (rdF (fun i => tx (60 * 4 + i)) N).2) 4))), .ref (b + 133)]) B (c_M_complete hl) yf_M_complete w_902 w_904 w_s30 rfl (rG (ix := 0) hl rfl) rfl (by decide) (by decide) rfl rfl (Nat.le_of_ble_eq_true rfl) d_M_draw_30 ?_
    refine j_if_ne B d_M_draw_33 rfl (fun h33 => ?_) (fun h33 => ?_)
    · -- 33 jump
      replace h33 := bI_t h33
      exact absurd ⟨h26, h33⟩ hf
    · -- 33 on
      replace h33 := bI_f h33
      refine j_iconst (v := 2) B d_M_draw_36 (by decide) ?_
      refine j_goto B d_M_draw_37 rfl ?_
      refine pf_M_102 B not_false (rG (ix := 0) hl rfl) rfl rfl (Nat.le_of_ble_eq_true rfl) d_M_draw_41 ?_
      refine jW.heap (σ2 := σ ++ rC b ta 2 F0 F1 F2 HH kt kp a hi tm sN sx sy pt mn pl pN px py sn lt rc tx sz (upd us 4 (rdF (fun i => tx (60 * 4 + i)) N).2) D0 D1 D2 qx qy di up dn be op gs t0 fr lf pX pY pD pU X) (rT (ix := 0) hl rfl) ?_
      refine j_aload_n B d_M_draw_44 rfl 0 rfl ?_
      refine gf_M_102 B (rG (ix := 0) hl rfl) rfl d_M_draw_45 ?_
      refine j_if_le B d_M_draw_48 rfl (fun h48 => absurd h48 (by decide)) (fun h48 => ?_)
      refine j_iconst (v := 0) B d_M_draw_51 (by decide) ?_
      exact j_iret B K rfl rfl d_M_draw_52
set_option maxRecDepth 100000 in
set_option maxHeartbeats 4000000 in
theorem c_M_draw_0 {l : Launch} {b : Nat} {D : va_G} {ta : Nat → ClassId} {σ : List va_E} (hl : σ.length = 133) {wt : Int32} {F0 : Nat → Int32} {F1 : Nat → Int32} {F2 : Nat → Int32} {HH : Nat → Int32} {kt : Nat → Int32} {kp : Nat → Int32} {a : Nat} {hi : Nat} {tm : Nat} {sN : Nat} {sx : Nat → Int32} {sy : Nat → Int32} {pt : Nat → Int64} {mn : Nat → Int32} {pl : Nat → Int32} {pN : Nat} {px : Nat → Int32} {py : Nat → Int32} {sn : Nat → Int32} {lt : Nat → Int32} {rc : Nat → Int64} {tx : Nat → Int32} {sz : Nat → Int32} {us : Nat → Int32} {D0 : Nat → Int32} {D1 : Nat → Int32} {D2 : Nat → Int32} {qx : Int32} {qy : Int32} {di : Nat} {up : Bool} {dn : Nat} {be : Bool} {op : Nat} {gs : Nat → Int32} {t0 : Nat → Int32} {fr : Nat → Int32} {lf : Nat → Int32} {pX : Nat → Int32} {pY : Nat → Int32} {pD : Nat → Int32} {pU : Nat → Int32} {X : List va_E} {N : Nat} (hz : sz 4 = nI N) (hN : N ≤ 60) {x y : Int32} {d : Nat} (hin : inF x y = true) (hd : d < 4) {E0 : Nat → Int32} {E1 : Nat → Int32} {E2 : Nat → Int32} {x2 : Int32} {y2 : Int32} {d2 : Nat} {u2 : Bool} {o2 : Nat} {p2 : Nat} {g2 : Nat → Int32} {q2 : Nat → Int32} {f2 : Nat → Int32} {l2 : Nat → Int32} {xx : Nat → Int32} {yy : Nat → Int32} {dd : Nat → Int32} {uu : Nat → Int32} (h1 : (rdF (fun i => tx (60 * 4 + i)) N).1 = true) (h2 : mcR sz (upd us 4 (rdF (fun i => tx (60 * 4 + i)) N).2) 4 ((upd us 4 (rdF (fun i => tx (60 * 4 + i)) N).2) 4) = true) (hgo : jC l b D ta False y_M_goThrough b_M_goThrough 6 none (rL 5) [.ref (b + 133)] (σ ++ rC b ta 0 F0 F1 F2 HH kt kp a hi tm sN sx sy pt mn pl pN px py sn lt rc tx sz (upd us 4 (rdF (fun i => tx (60 * 4 + i)) N).2) (rwF D0 F0 24) (rwF D1 F1 24) (rwF D2 F2 24) x y d false 0 false op gs t0 fr lf pX pY pD pU X) none (σ ++ rC b ta 0 F0 F1 F2 HH kt kp a hi tm sN sx sy pt mn pl pN px py sn lt rc tx sz (upd us 4 (rdF (fun i => tx (60 * 4 + i)) N).2) E0 E1 E2 x2 y2 d2 u2 o2 false p2 g2 q2 f2 l2 xx yy dd uu X)) : jC l b D ta False y_M_draw b_M_draw 5 (some .int) (rL 6) [.ref (b + 133), .int x, .int y, .int (nI d)] (σ ++ rC b ta wt F0 F1 F2 HH kt kp a hi tm sN sx sy pt mn pl pN px py sn lt rc tx sz us D0 D1 D2 qx qy di up dn be op gs t0 fr lf pX pY pD pU X) (some (.int (nI o2))) (σ ++ rC b ta 0 (rwF F0 E0 24) (rwF F1 E1 24) (rwF F2 E2 24) HH kt kp a 0 tm sN sx sy pt mn pl pN px py sn lt rc tx (upd sz 4 0) (upd us 4 (rdF (fun i => tx (60 * 4 + i)) N).2) E0 E1 E2 x2 y2 d2 u2 o2 false p2 g2 q2 f2 l2 xx yy dd uu X) := by
  refine jC_of (own := "WireFieldModel") (by decide +kernel) (Nat.le_of_ble_eq_true rfl) rfl (fun Γ B K => ?_)
  change jW l b D Γ False 0 0 5 (σ ++ rC b ta wt F0 F1 F2 HH kt kp a hi tm sN sx sy pt mn pl pN px py sn lt rc tx sz us D0 D1 D2 qx qy di up dn be op gs t0 fr lf pX pY pD pU X) [(0, .ref (b + 133)), (1, .int x), (2, .int y), (3, .int (nI d))] 0 []
  refine j_aload_n B d_M_draw_0 rfl 0 rfl ?_
  refine j_iload_n B d_M_draw_1 rfl 1 rfl ?_
  refine j_iload_n B d_M_draw_2 rfl 2 rfl ?_
  refine k_callS (as := [.int x, .int y]) (rest := [.ref (b + 133)]) (st1 := [.int (bI (inF x y)), .ref (b + 133)]) B (c_M_is x y) yf_M_is w_899 w_900 rfl (by decide) (by decide) rfl rfl (Nat.le_of_ble_eq_true rfl) d_M_draw_3 ?_
  refine j_if_eq B d_M_draw_6 rfl (fun h6 => absurd (bI_f h6) (by rw [hin]; decide)) (fun h6 => ?_)
  refine j_iload_n B d_M_draw_9 rfl 3 rfl ?_
  refine j_if_lt B d_M_draw_10 rfl (fun h10 => absurd h10 (nI_pos (by omega))) (fun h10 => ?_)
  refine j_iload_n B d_M_draw_13 rfl 3 rfl ?_
  refine j_iconst (v := 3) B d_M_draw_14 (by decide) ?_
  refine j_icmp_le B d_M_draw_15 rfl (fun h15 => ?_) (fun h15 => absurd (nI_le (b := 3) (show d ≤ 3 by omega) (by decide)) h15)
  refine j_aload_n B d_M_draw_22 rfl 0 rfl ?_
  refine k_callV (as := []) (rest := [.ref (b + 133)]) (st1 := [.int (bI (rdF (fun i => tx (60 * 4 + i)) N).1), .ref (b + 133)]) B (c_M_reads hl hz hN) yf_M_reads w_881 w_883 w_s28 rfl (rG (ix := 0) hl rfl) rfl (by decide) (by decide) rfl rfl (Nat.le_of_ble_eq_true rfl) d_M_draw_23 ?_
  refine j_if_eq B d_M_draw_26 rfl (fun h26 => absurd (bI_f h26) (by rw [h1]; decide)) (fun h26 => ?_)
  refine j_aload_n B d_M_draw_29 rfl 0 rfl ?_
  refine k_callV (as := []) (rest := [.ref (b + 133)]) (st1 := [.int (bI (mcR sz (upd us 4 (rdF (fun i => tx (60 * 4 + i)) N).2) 4 ((upd us 4 (rdF (fun i => tx (60 * 4 + i)) N).2) 4))), .ref (b + 133)]) B (c_M_complete hl) yf_M_complete w_902 w_904 w_s30 rfl (rG (ix := 0) hl rfl) rfl (by decide) (by decide) rfl rfl (Nat.le_of_ble_eq_true rfl) d_M_draw_30 ?_
  refine j_if_ne B d_M_draw_33 rfl (fun h33 => ?_) (fun h33 => absurd (bI_f h33) (by rw [h2]; decide))
  refine j_iconst (v := 0) B d_M_draw_40 (by decide) ?_
  refine pf_M_102 B not_false (rG (ix := 0) hl rfl) rfl rfl (Nat.le_of_ble_eq_true rfl) d_M_draw_41 ?_
  refine jW.heap (σ2 := σ ++ rC b ta 0 F0 F1 F2 HH kt kp a hi tm sN sx sy pt mn pl pN px py sn lt rc tx sz (upd us 4 (rdF (fun i => tx (60 * 4 + i)) N).2) D0 D1 D2 qx qy di up dn be op gs t0 fr lf pX pY pD pU X) (rT (ix := 0) hl rfl) ?_
  refine j_aload_n B d_M_draw_44 rfl 0 rfl ?_
  refine gf_M_102 B (rG (ix := 0) hl rfl) rfl d_M_draw_45 ?_
  refine j_if_le B d_M_draw_48 rfl (fun h48 => ?_) (fun h48 => absurd (by decide) h48)
  refine j_iconst (v := 0) B d_M_draw_53 (by decide) ?_
  refine j_istore (L' := [(0, .ref (b + 133)), (1, .int x), (2, .int y), (3, .int (nI d)), (4, .int 0)]) B d_M_draw_54 (by decide) [1, 2, 3, 4, 0] rfl ?_
  have lp56 : ∀ (n56 : Nat) (r : Nat), 24 - r = n56 → (r ≤ 24) → jW l b D Γ False 0 0 5 (σ ++ rC b ta 0 F0 F1 F2 HH kt kp a hi tm sN sx sy pt mn pl pN px py sn lt rc tx sz (upd us 4 (rdF (fun i => tx (60 * 4 + i)) N).2) (rwF D0 F0 r) (rwF D1 F1 r) (rwF D2 F2 r) qx qy di up dn be op gs t0 fr lf pX pY pD pU X) [(0, .ref (b + 133)), (1, .int x), (2, .int y), (3, .int (nI d)), (4, .int (nI r))] 56 [] := by
    refine jloop (fun n56 ih56 => ?_)
    intro r hn56 hr
    refine j_iload B d_M_draw_56 4 rfl ?_
    refine j_bipush (v := 24) B d_M_draw_58 (by decide) ?_
    refine j_icmp_ge B d_M_draw_60 rfl (fun h60 => ?_) (fun h60 => ?_)
    · -- 60 jump
      have hr2 := lp_ge (n := 24) (by decide) hr h60
      subst hr2
      refine j_aload_n B d_M_draw_111 rfl 0 rfl ?_
      refine j_iload_n B d_M_draw_112 rfl 1 rfl ?_
      refine pf_M_167 B not_false (rG (ix := 0) hl rfl) rfl rfl (Nat.le_of_ble_eq_true rfl) d_M_draw_113 ?_
      refine jW.heap (σ2 := σ ++ rC b ta 0 F0 F1 F2 HH kt kp a hi tm sN sx sy pt mn pl pN px py sn lt rc tx sz (upd us 4 (rdF (fun i => tx (60 * 4 + i)) N).2) (rwF D0 F0 24) (rwF D1 F1 24) (rwF D2 F2 24) x qy di up dn be op gs t0 fr lf pX pY pD pU X) (rT (ix := 0) hl rfl) ?_
      refine j_aload_n B d_M_draw_116 rfl 0 rfl ?_
      refine j_iload_n B d_M_draw_117 rfl 2 rfl ?_
      refine pf_M_176 B not_false (rG (ix := 0) hl rfl) rfl rfl (Nat.le_of_ble_eq_true rfl) d_M_draw_118 ?_
      refine jW.heap (σ2 := σ ++ rC b ta 0 F0 F1 F2 HH kt kp a hi tm sN sx sy pt mn pl pN px py sn lt rc tx sz (upd us 4 (rdF (fun i => tx (60 * 4 + i)) N).2) (rwF D0 F0 24) (rwF D1 F1 24) (rwF D2 F2 24) x y di up dn be op gs t0 fr lf pX pY pD pU X) (rT (ix := 0) hl rfl) ?_
      refine j_aload_n B d_M_draw_121 rfl 0 rfl ?_
      refine j_iload_n B d_M_draw_122 rfl 3 rfl ?_
      refine pf_M_170 B not_false (rG (ix := 0) hl rfl) rfl rfl (Nat.le_of_ble_eq_true rfl) d_M_draw_123 ?_
      refine jW.heap (σ2 := σ ++ rC b ta 0 F0 F1 F2 HH kt kp a hi tm sN sx sy pt mn pl pN px py sn lt rc tx sz (upd us 4 (rdF (fun i => tx (60 * 4 + i)) N).2) (rwF D0 F0 24) (rwF D1 F1 24) (rwF D2 F2 24) x y d up dn be op gs t0 fr lf pX pY pD pU X) (rT (ix := 0) hl rfl) ?_
      refine j_aload_n B d_M_draw_126 rfl 0 rfl ?_
      refine j_iconst (v := 0) B d_M_draw_127 (by decide) ?_
      refine pf_M_182 B not_false (rG (ix := 0) hl rfl) (by first | exact bI_nar _ | exact bI_fit _ | decide) (by first | exact bI_nar _ | exact bI_fit _ | decide) (Nat.le_of_ble_eq_true rfl) d_M_draw_128 ?_
      refine jW.heap (σ2 := σ ++ rC b ta 0 F0 F1 F2 HH kt kp a hi tm sN sx sy pt mn pl pN px py sn lt rc tx sz (upd us 4 (rdF (fun i => tx (60 * 4 + i)) N).2) (rwF D0 F0 24) (rwF D1 F1 24) (rwF D2 F2 24) x y d false dn be op gs t0 fr lf pX pY pD pU X) (rT (ix := 0) hl rfl) ?_
      refine j_aload_n B d_M_draw_131 rfl 0 rfl ?_
      refine j_iconst (v := 0) B d_M_draw_132 (by decide) ?_
      refine pf_M_156 B not_false (rG (ix := 0) hl rfl) rfl rfl (Nat.le_of_ble_eq_true rfl) d_M_draw_133 ?_
      refine jW.heap (σ2 := σ ++ rC b ta 0 F0 F1 F2 HH kt kp a hi tm sN sx sy pt mn pl pN px py sn lt rc tx sz (upd us 4 (rdF (fun i => tx (60 * 4 + i)) N).2) (rwF D0 F0 24) (rwF D1 F1 24) (rwF D2 F2 24) x y d false 0 be op gs t0 fr lf pX pY pD pU X) (rT (ix := 0) hl rfl) ?_
      refine j_aload_n B d_M_draw_136 rfl 0 rfl ?_
      refine j_iconst (v := 0) B d_M_draw_137 (by decide) ?_
      refine pf_M_159 B not_false (rG (ix := 0) hl rfl) (by first | exact bI_nar _ | exact bI_fit _ | decide) (by first | exact bI_nar _ | exact bI_fit _ | decide) (Nat.le_of_ble_eq_true rfl) d_M_draw_138 ?_
      refine jW.heap (σ2 := σ ++ rC b ta 0 F0 F1 F2 HH kt kp a hi tm sN sx sy pt mn pl pN px py sn lt rc tx sz (upd us 4 (rdF (fun i => tx (60 * 4 + i)) N).2) (rwF D0 F0 24) (rwF D1 F1 24) (rwF D2 F2 24) x y d false 0 false op gs t0 fr lf pX pY pD pU X) (rT (ix := 0) hl rfl) ?_
      refine j_aload_n B d_M_draw_141 rfl 0 rfl ?_
      refine k_callV (as := []) (rest := []) (st1 := []) B hgo yf_M_goThrough w_906 w_908 w_s31 rfl (rG (ix := 0) hl rfl) rfl (by decide) (by decide) rfl rfl (Nat.le_of_ble_eq_true rfl) d_M_draw_142 ?_
      refine j_aload_n B d_M_draw_145 rfl 0 rfl ?_
      refine j_aload_n B d_M_draw_146 rfl 0 rfl ?_
      refine gf_M_159 B (rG (ix := 0) hl rfl) rfl d_M_draw_147 ?_
      refine j_if_eq B d_M_draw_150 rfl (fun h150 => ?_) (fun h150 => absurd rfl h150)
      refine j_iconst (v := 0) B d_M_draw_157 (by decide) ?_
      refine pf_M_102 B not_false (rG (ix := 0) hl rfl) rfl rfl (Nat.le_of_ble_eq_true rfl) d_M_draw_158 ?_
      refine jW.heap (σ2 := σ ++ rC b ta 0 F0 F1 F2 HH kt kp a hi tm sN sx sy pt mn pl pN px py sn lt rc tx sz (upd us 4 (rdF (fun i => tx (60 * 4 + i)) N).2) E0 E1 E2 x2 y2 d2 u2 o2 false p2 g2 q2 f2 l2 xx yy dd uu X) (rT (ix := 0) hl rfl) ?_
      refine j_aload_n B d_M_draw_161 rfl 0 rfl ?_
      refine gf_M_159 B (rG (ix := 0) hl rfl) rfl d_M_draw_162 ?_
      refine j_if_eq B d_M_draw_165 rfl (fun h165 => ?_) (fun h165 => absurd rfl h165)
      refine j_iconst (v := 0) B d_M_draw_170 (by decide) ?_
      refine j_istore (L' := [(0, .ref (b + 133)), (1, .int x), (2, .int y), (3, .int (nI d)), (4, .int 0)]) B d_M_draw_171 (by decide) [1, 2, 3, 4, 0] rfl ?_
      have lp173 : ∀ (n173 : Nat) (r : Nat), 24 - r = n173 → (r ≤ 24) → jW l b D Γ False 0 0 5 (σ ++ rC b ta 0 (rwF F0 E0 r) (rwF F1 E1 r) (rwF F2 E2 r) HH kt kp a hi tm sN sx sy pt mn pl pN px py sn lt rc tx sz (upd us 4 (rdF (fun i => tx (60 * 4 + i)) N).2) E0 E1 E2 x2 y2 d2 u2 o2 false p2 g2 q2 f2 l2 xx yy dd uu X) [(0, .ref (b + 133)), (1, .int x), (2, .int y), (3, .int (nI d)), (4, .int (nI r))] 173 [] := by
        refine jloop (fun n173 ih173 => ?_)
        intro r hn173 hr
        refine j_iload B d_M_draw_173 4 rfl ?_
        refine j_bipush (v := 24) B d_M_draw_175 (by decide) ?_
        refine j_icmp_ge B d_M_draw_177 rfl (fun h177 => ?_) (fun h177 => ?_)
        · -- 177 jump
          have hr2 := lp_ge (n := 24) (by decide) hr h177
          subst hr2
          refine j_aload_n B d_M_draw_228 rfl 0 rfl ?_
          refine j_iconst (v := 0) B d_M_draw_229 (by decide) ?_
          refine pf_M_113 B not_false (rG (ix := 0) hl rfl) rfl rfl (Nat.le_of_ble_eq_true rfl) d_M_draw_230 ?_
          refine jW.heap (σ2 := σ ++ rC b ta 0 (rwF F0 E0 24) (rwF F1 E1 24) (rwF F2 E2 24) HH kt kp a 0 tm sN sx sy pt mn pl pN px py sn lt rc tx sz (upd us 4 (rdF (fun i => tx (60 * 4 + i)) N).2) E0 E1 E2 x2 y2 d2 u2 o2 false p2 g2 q2 f2 l2 xx yy dd uu X) (rT (ix := 0) hl rfl) ?_
          refine j_aload_n B d_M_draw_233 rfl 0 rfl ?_
          refine gf_M_62 B (rG (ix := 0) hl rfl) rfl d_M_draw_234 ?_
          refine j_iconst (v := nI 4) B d_M_draw_237 (by decide) ?_
          refine j_iconst (v := 0) B d_M_draw_238 (by decide) ?_
          refine j_iastN B not_false rfl (rG (ix := 18) hl rfl) (by omega) d_M_draw_239 ?_
          refine jW.heap (σ2 := σ ++ rC b ta 0 (rwF F0 E0 24) (rwF F1 E1 24) (rwF F2 E2 24) HH kt kp a 0 tm sN sx sy pt mn pl pN px py sn lt rc tx (upd sz 4 0) (upd us 4 (rdF (fun i => tx (60 * 4 + i)) N).2) E0 E1 E2 x2 y2 d2 u2 o2 false p2 g2 q2 f2 l2 xx yy dd uu X) (rT (ix := 18) hl rfl) ?_
          refine j_aload_n B d_M_draw_240 rfl 0 rfl ?_
          refine gf_M_156 B (rG (ix := 0) hl rfl) rfl d_M_draw_241 ?_
          exact j_iret B K rfl rfl d_M_draw_244
        · -- 177 on
          have hr2 := lp_lt (n := 24) (by decide) hr h177
          refine j_aload_n B d_M_draw_180 rfl 0 rfl ?_
          refine gf_M_7 B (rG (ix := 0) hl rfl) rfl d_M_draw_181 ?_
          refine j_iload B d_M_draw_184 4 rfl ?_
          refine j_aload_n B d_M_draw_186 rfl 0 rfl ?_
          refine gf_M_68 B (rG (ix := 0) hl rfl) rfl d_M_draw_187 ?_
          refine j_iload B d_M_draw_190 4 rfl ?_
          refine j_ialdN B rfl (rG (ix := 20) hl rfl) (by omega) d_M_draw_192 ?_
          refine j_iastN B not_false rfl (rG (ix := 1) hl rfl) (by omega) d_M_draw_193 ?_
          refine jW.heap (σ2 := σ ++ rC b ta 0 (upd (rwF F0 E0 r) r (E0 r)) (rwF F1 E1 r) (rwF F2 E2 r) HH kt kp a hi tm sN sx sy pt mn pl pN px py sn lt rc tx sz (upd us 4 (rdF (fun i => tx (60 * 4 + i)) N).2) E0 E1 E2 x2 y2 d2 u2 o2 false p2 g2 q2 f2 l2 xx yy dd uu X) (rT (ix := 1) hl rfl) ?_
          refine j_aload_n B d_M_draw_194 rfl 0 rfl ?_
          refine gf_M_13 B (rG (ix := 0) hl rfl) rfl d_M_draw_195 ?_
          refine j_iload B d_M_draw_198 4 rfl ?_
          refine j_aload_n B d_M_draw_200 rfl 0 rfl ?_
          refine gf_M_71 B (rG (ix := 0) hl rfl) rfl d_M_draw_201 ?_
          refine j_iload B d_M_draw_204 4 rfl ?_
          refine j_ialdN B rfl (rG (ix := 21) hl rfl) (by omega) d_M_draw_206 ?_
          refine j_iastN B not_false rfl (rG (ix := 2) hl rfl) (by omega) d_M_draw_207 ?_
          refine jW.heap (σ2 := σ ++ rC b ta 0 (upd (rwF F0 E0 r) r (E0 r)) (upd (rwF F1 E1 r) r (E1 r)) (rwF F2 E2 r) HH kt kp a hi tm sN sx sy pt mn pl pN px py sn lt rc tx sz (upd us 4 (rdF (fun i => tx (60 * 4 + i)) N).2) E0 E1 E2 x2 y2 d2 u2 o2 false p2 g2 q2 f2 l2 xx yy dd uu X) (rT (ix := 2) hl rfl) ?_
          refine j_aload_n B d_M_draw_208 rfl 0 rfl ?_
          refine gf_M_16 B (rG (ix := 0) hl rfl) rfl d_M_draw_209 ?_
          refine j_iload B d_M_draw_212 4 rfl ?_
          refine j_aload_n B d_M_draw_214 rfl 0 rfl ?_
          refine gf_M_74 B (rG (ix := 0) hl rfl) rfl d_M_draw_215 ?_
          refine j_iload B d_M_draw_218 4 rfl ?_
          refine j_ialdN B rfl (rG (ix := 22) hl rfl) (by omega) d_M_draw_220 ?_
          refine j_iastN B not_false rfl (rG (ix := 3) hl rfl) (by omega) d_M_draw_221 ?_
          refine jW.heap (σ2 := σ ++ rC b ta 0 (upd (rwF F0 E0 r) r (E0 r)) (upd (rwF F1 E1 r) r (E1 r)) (upd (rwF F2 E2 r) r (E2 r)) HH kt kp a hi tm sN sx sy pt mn pl pN px py sn lt rc tx sz (upd us 4 (rdF (fun i => tx (60 * 4 + i)) N).2) E0 E1 E2 x2 y2 d2 u2 o2 false p2 g2 q2 f2 l2 xx yy dd uu X) (rT (ix := 3) hl rfl) ?_
          refine j_iinc (L' := [(0, .ref (b + 133)), (1, .int x), (2, .int y), (3, .int (nI d)), (4, .int (nI (r + 1)))]) (v := nI (r + 1)) B d_M_draw_222 (k := 4) rfl (nI_succ r).symm (by decide) [1, 2, 3, 4, 0] rfl ?_
          refine j_goto B d_M_draw_225 rfl ?_
          exact ih173 _ (by omega) (r + 1) rfl (by omega)
      exact lp173 _ 0 rfl (by omega)
    · -- 60 on
      have hr2 := lp_lt (n := 24) (by decide) hr h60
      refine j_aload_n B d_M_draw_63 rfl 0 rfl ?_
      refine gf_M_68 B (rG (ix := 0) hl rfl) rfl d_M_draw_64 ?_
      refine j_iload B d_M_draw_67 4 rfl ?_
      refine j_aload_n B d_M_draw_69 rfl 0 rfl ?_
      refine gf_M_7 B (rG (ix := 0) hl rfl) rfl d_M_draw_70 ?_
      refine j_iload B d_M_draw_73 4 rfl ?_
      refine j_ialdN B rfl (rG (ix := 1) hl rfl) (by omega) d_M_draw_75 ?_
      refine j_iastN B not_false rfl (rG (ix := 20) hl rfl) (by omega) d_M_draw_76 ?_
      refine jW.heap (σ2 := σ ++ rC b ta 0 F0 F1 F2 HH kt kp a hi tm sN sx sy pt mn pl pN px py sn lt rc tx sz (upd us 4 (rdF (fun i => tx (60 * 4 + i)) N).2) (upd (rwF D0 F0 r) r (F0 r)) (rwF D1 F1 r) (rwF D2 F2 r) qx qy di up dn be op gs t0 fr lf pX pY pD pU X) (rT (ix := 20) hl rfl) ?_
      refine j_aload_n B d_M_draw_77 rfl 0 rfl ?_
      refine gf_M_71 B (rG (ix := 0) hl rfl) rfl d_M_draw_78 ?_
      refine j_iload B d_M_draw_81 4 rfl ?_
      refine j_aload_n B d_M_draw_83 rfl 0 rfl ?_
      refine gf_M_13 B (rG (ix := 0) hl rfl) rfl d_M_draw_84 ?_
      refine j_iload B d_M_draw_87 4 rfl ?_
      refine j_ialdN B rfl (rG (ix := 2) hl rfl) (by omega) d_M_draw_89 ?_
      refine j_iastN B not_false rfl (rG (ix := 21) hl rfl) (by omega) d_M_draw_90 ?_
      refine jW.heap (σ2 := σ ++ rC b ta 0 F0 F1 F2 HH kt kp a hi tm sN sx sy pt mn pl pN px py sn lt rc tx sz (upd us 4 (rdF (fun i => tx (60 * 4 + i)) N).2) (upd (rwF D0 F0 r) r (F0 r)) (upd (rwF D1 F1 r) r (F1 r)) (rwF D2 F2 r) qx qy di up dn be op gs t0 fr lf pX pY pD pU X) (rT (ix := 21) hl rfl) ?_
      refine j_aload_n B d_M_draw_91 rfl 0 rfl ?_
      refine gf_M_74 B (rG (ix := 0) hl rfl) rfl d_M_draw_92 ?_
      refine j_iload B d_M_draw_95 4 rfl ?_
      refine j_aload_n B d_M_draw_97 rfl 0 rfl ?_
      refine gf_M_16 B (rG (ix := 0) hl rfl) rfl d_M_draw_98 ?_
      refine j_iload B d_M_draw_101 4 rfl ?_
      refine j_ialdN B rfl (rG (ix := 3) hl rfl) (by omega) d_M_draw_103 ?_
      refine j_iastN B not_false rfl (rG (ix := 22) hl rfl) (by omega) d_M_draw_104 ?_
      refine jW.heap (σ2 := σ ++ rC b ta 0 F0 F1 F2 HH kt kp a hi tm sN sx sy pt mn pl pN px py sn lt rc tx sz (upd us 4 (rdF (fun i => tx (60 * 4 + i)) N).2) (upd (rwF D0 F0 r) r (F0 r)) (upd (rwF D1 F1 r) r (F1 r)) (upd (rwF D2 F2 r) r (F2 r)) qx qy di up dn be op gs t0 fr lf pX pY pD pU X) (rT (ix := 22) hl rfl) ?_
      refine j_iinc (L' := [(0, .ref (b + 133)), (1, .int x), (2, .int y), (3, .int (nI d)), (4, .int (nI (r + 1)))]) (v := nI (r + 1)) B d_M_draw_105 (k := 4) rfl (nI_succ r).symm (by decide) [1, 2, 3, 4, 0] rfl ?_
      refine j_goto B d_M_draw_108 rfl ?_
      exact ih56 _ (by omega) (r + 1) rfl (by omega)
  exact lp56 _ 0 rfl (by omega)
set_option maxRecDepth 100000 in
set_option maxHeartbeats 4000000 in
theorem c_M_draw_3 {l : Launch} {b : Nat} {D : va_G} {ta : Nat → ClassId} {σ : List va_E} (hl : σ.length = 133) {wt : Int32} {F0 : Nat → Int32} {F1 : Nat → Int32} {F2 : Nat → Int32} {HH : Nat → Int32} {kt : Nat → Int32} {kp : Nat → Int32} {a : Nat} {hi : Nat} {tm : Nat} {sN : Nat} {sx : Nat → Int32} {sy : Nat → Int32} {pt : Nat → Int64} {mn : Nat → Int32} {pl : Nat → Int32} {pN : Nat} {px : Nat → Int32} {py : Nat → Int32} {sn : Nat → Int32} {lt : Nat → Int32} {rc : Nat → Int64} {tx : Nat → Int32} {sz : Nat → Int32} {us : Nat → Int32} {D0 : Nat → Int32} {D1 : Nat → Int32} {D2 : Nat → Int32} {qx : Int32} {qy : Int32} {di : Nat} {up : Bool} {dn : Nat} {be : Bool} {op : Nat} {gs : Nat → Int32} {t0 : Nat → Int32} {fr : Nat → Int32} {lf : Nat → Int32} {pX : Nat → Int32} {pY : Nat → Int32} {pD : Nat → Int32} {pU : Nat → Int32} {X : List va_E} {N : Nat} (hz : sz 4 = nI N) (hN : N ≤ 60) {x y : Int32} {d : Nat} (hin : inF x y = true) (hd : d < 4) {E0 : Nat → Int32} {E1 : Nat → Int32} {E2 : Nat → Int32} {x2 : Int32} {y2 : Int32} {d2 : Nat} {u2 : Bool} {o2 : Nat} {p2 : Nat} {g2 : Nat → Int32} {q2 : Nat → Int32} {f2 : Nat → Int32} {l2 : Nat → Int32} {xx : Nat → Int32} {yy : Nat → Int32} {dd : Nat → Int32} {uu : Nat → Int32} (h1 : (rdF (fun i => tx (60 * 4 + i)) N).1 = true) (h2 : mcR sz (upd us 4 (rdF (fun i => tx (60 * 4 + i)) N).2) 4 ((upd us 4 (rdF (fun i => tx (60 * 4 + i)) N).2) 4) = true) (hgo : jC l b D ta False y_M_goThrough b_M_goThrough 6 none (rL 5) [.ref (b + 133)] (σ ++ rC b ta 0 F0 F1 F2 HH kt kp a hi tm sN sx sy pt mn pl pN px py sn lt rc tx sz (upd us 4 (rdF (fun i => tx (60 * 4 + i)) N).2) (rwF D0 F0 24) (rwF D1 F1 24) (rwF D2 F2 24) x y d false 0 false op gs t0 fr lf pX pY pD pU X) none (σ ++ rC b ta 0 F0 F1 F2 HH kt kp a hi tm sN sx sy pt mn pl pN px py sn lt rc tx sz (upd us 4 (rdF (fun i => tx (60 * 4 + i)) N).2) E0 E1 E2 x2 y2 d2 u2 o2 true p2 g2 q2 f2 l2 xx yy dd uu X)) : jC l b D ta False y_M_draw b_M_draw 5 (some .int) (rL 6) [.ref (b + 133), .int x, .int y, .int (nI d)] (σ ++ rC b ta wt F0 F1 F2 HH kt kp a hi tm sN sx sy pt mn pl pN px py sn lt rc tx sz us D0 D1 D2 qx qy di up dn be op gs t0 fr lf pX pY pD pU X) (some (.int 0)) (σ ++ rC b ta 3 F0 F1 F2 HH kt kp a hi tm sN sx sy pt mn pl pN px py sn lt rc tx sz (upd us 4 (rdF (fun i => tx (60 * 4 + i)) N).2) E0 E1 E2 x2 y2 d2 u2 o2 true p2 g2 q2 f2 l2 xx yy dd uu X) := by
  refine jC_of (own := "WireFieldModel") (by decide +kernel) (Nat.le_of_ble_eq_true rfl) rfl (fun Γ B K => ?_)
  change jW l b D Γ False 0 0 5 (σ ++ rC b ta wt F0 F1 F2 HH kt kp a hi tm sN sx sy pt mn pl pN px py sn lt rc tx sz us D0 D1 D2 qx qy di up dn be op gs t0 fr lf pX pY pD pU X) [(0, .ref (b + 133)), (1, .int x), (2, .int y), (3, .int (nI d))] 0 []
  refine j_aload_n B d_M_draw_0 rfl 0 rfl ?_
  refine j_iload_n B d_M_draw_1 rfl 1 rfl ?_
  refine j_iload_n B d_M_draw_2 rfl 2 rfl ?_
  refine k_callS (as := [.int x, .int y]) (rest := [.ref (b + 133)]) (st1 := [.int (bI (inF x y)), .ref (b + 133)]) B (c_M_is x y) yf_M_is w_899 w_900 rfl (by decide) (by decide) rfl rfl (Nat.le_of_ble_eq_true rfl) d_M_draw_3 ?_
  refine j_if_eq B d_M_draw_6 rfl (fun h6 => absurd (bI_f h6) (by rw [hin]; decide)) (fun h6 => ?_)
  refine j_iload_n B d_M_draw_9 rfl 3 rfl ?_
  refine j_if_lt B d_M_draw_10 rfl (fun h10 => absurd h10 (nI_pos (by omega))) (fun h10 => ?_)
  refine j_iload_n B d_M_draw_13 rfl 3 rfl ?_
  refine j_iconst (v := 3) B d_M_draw_14 (by decide) ?_
  refine j_icmp_le B d_M_draw_15 rfl (fun h15 => ?_) (fun h15 => absurd (nI_le (b := 3) (show d ≤ 3 by omega) (by decide)) h15)
  refine j_aload_n B d_M_draw_22 rfl 0 rfl ?_
  refine k_callV (as := []) (rest := [.ref (b + 133)]) (st1 := [.int (bI (rdF (fun i => tx (60 * 4 + i)) N).1), .ref (b + 133)]) B (c_M_reads hl hz hN) yf_M_reads w_881 w_883 w_s28 rfl (rG (ix := 0) hl rfl) rfl (by decide) (by decide) rfl rfl (Nat.le_of_ble_eq_true rfl) d_M_draw_23 ?_
  refine j_if_eq B d_M_draw_26 rfl (fun h26 => absurd (bI_f h26) (by rw [h1]; decide)) (fun h26 => ?_)
  refine j_aload_n B d_M_draw_29 rfl 0 rfl ?_
  refine k_callV (as := []) (rest := [.ref (b + 133)]) (st1 := [.int (bI (mcR sz (upd us 4 (rdF (fun i => tx (60 * 4 + i)) N).2) 4 ((upd us 4 (rdF (fun i => tx (60 * 4 + i)) N).2) 4))), .ref (b + 133)]) B (c_M_complete hl) yf_M_complete w_902 w_904 w_s30 rfl (rG (ix := 0) hl rfl) rfl (by decide) (by decide) rfl rfl (Nat.le_of_ble_eq_true rfl) d_M_draw_30 ?_
  refine j_if_ne B d_M_draw_33 rfl (fun h33 => ?_) (fun h33 => absurd (bI_f h33) (by rw [h2]; decide))
  refine j_iconst (v := 0) B d_M_draw_40 (by decide) ?_
  refine pf_M_102 B not_false (rG (ix := 0) hl rfl) rfl rfl (Nat.le_of_ble_eq_true rfl) d_M_draw_41 ?_
  refine jW.heap (σ2 := σ ++ rC b ta 0 F0 F1 F2 HH kt kp a hi tm sN sx sy pt mn pl pN px py sn lt rc tx sz (upd us 4 (rdF (fun i => tx (60 * 4 + i)) N).2) D0 D1 D2 qx qy di up dn be op gs t0 fr lf pX pY pD pU X) (rT (ix := 0) hl rfl) ?_
  refine j_aload_n B d_M_draw_44 rfl 0 rfl ?_
  refine gf_M_102 B (rG (ix := 0) hl rfl) rfl d_M_draw_45 ?_
  refine j_if_le B d_M_draw_48 rfl (fun h48 => ?_) (fun h48 => absurd (by decide) h48)
  refine j_iconst (v := 0) B d_M_draw_53 (by decide) ?_
  refine j_istore (L' := [(0, .ref (b + 133)), (1, .int x), (2, .int y), (3, .int (nI d)), (4, .int 0)]) B d_M_draw_54 (by decide) [1, 2, 3, 4, 0] rfl ?_
  have lp56 : ∀ (n56 : Nat) (r : Nat), 24 - r = n56 → (r ≤ 24) → jW l b D Γ False 0 0 5 (σ ++ rC b ta 0 F0 F1 F2 HH kt kp a hi tm sN sx sy pt mn pl pN px py sn lt rc tx sz (upd us 4 (rdF (fun i => tx (60 * 4 + i)) N).2) (rwF D0 F0 r) (rwF D1 F1 r) (rwF D2 F2 r) qx qy di up dn be op gs t0 fr lf pX pY pD pU X) [(0, .ref (b + 133)), (1, .int x), (2, .int y), (3, .int (nI d)), (4, .int (nI r))] 56 [] := by
    refine jloop (fun n56 ih56 => ?_)
    intro r hn56 hr
    refine j_iload B d_M_draw_56 4 rfl ?_
    refine j_bipush (v := 24) B d_M_draw_58 (by decide) ?_
    refine j_icmp_ge B d_M_draw_60 rfl (fun h60 => ?_) (fun h60 => ?_)
    · -- 60 jump
      have hr2 := lp_ge (n := 24) (by decide) hr h60
      subst hr2
      refine j_aload_n B d_M_draw_111 rfl 0 rfl ?_
      refine j_iload_n B d_M_draw_112 rfl 1 rfl ?_
      refine pf_M_167 B not_false (rG (ix := 0) hl rfl) rfl rfl (Nat.le_of_ble_eq_true rfl) d_M_draw_113 ?_
      refine jW.heap (σ2 := σ ++ rC b ta 0 F0 F1 F2 HH kt kp a hi tm sN sx sy pt mn pl pN px py sn lt rc tx sz (upd us 4 (rdF (fun i => tx (60 * 4 + i)) N).2) (rwF D0 F0 24) (rwF D1 F1 24) (rwF D2 F2 24) x qy di up dn be op gs t0 fr lf pX pY pD pU X) (rT (ix := 0) hl rfl) ?_
      refine j_aload_n B d_M_draw_116 rfl 0 rfl ?_
      refine j_iload_n B d_M_draw_117 rfl 2 rfl ?_
      refine pf_M_176 B not_false (rG (ix := 0) hl rfl) rfl rfl (Nat.le_of_ble_eq_true rfl) d_M_draw_118 ?_
      refine jW.heap (σ2 := σ ++ rC b ta 0 F0 F1 F2 HH kt kp a hi tm sN sx sy pt mn pl pN px py sn lt rc tx sz (upd us 4 (rdF (fun i => tx (60 * 4 + i)) N).2) (rwF D0 F0 24) (rwF D1 F1 24) (rwF D2 F2 24) x y di up dn be op gs t0 fr lf pX pY pD pU X) (rT (ix := 0) hl rfl) ?_
      refine j_aload_n B d_M_draw_121 rfl 0 rfl ?_
      refine j_iload_n B d_M_draw_122 rfl 3 rfl ?_
      refine pf_M_170 B not_false (rG (ix := 0) hl rfl) rfl rfl (Nat.le_of_ble_eq_true rfl) d_M_draw_123 ?_
      refine jW.heap (σ2 := σ ++ rC b ta 0 F0 F1 F2 HH kt kp a hi tm sN sx sy pt mn pl pN px py sn lt rc tx sz (upd us 4 (rdF (fun i => tx (60 * 4 + i)) N).2) (rwF D0 F0 24) (rwF D1 F1 24) (rwF D2 F2 24) x y d up dn be op gs t0 fr lf pX pY pD pU X) (rT (ix := 0) hl rfl) ?_
      refine j_aload_n B d_M_draw_126 rfl 0 rfl ?_
      refine j_iconst (v := 0) B d_M_draw_127 (by decide) ?_
      refine pf_M_182 B not_false (rG (ix := 0) hl rfl) (by first | exact bI_nar _ | exact bI_fit _ | decide) (by first | exact bI_nar _ | exact bI_fit _ | decide) (Nat.le_of_ble_eq_true rfl) d_M_draw_128 ?_
      refine jW.heap (σ2 := σ ++ rC b ta 0 F0 F1 F2 HH kt kp a hi tm sN sx sy pt mn pl pN px py sn lt rc tx sz (upd us 4 (rdF (fun i => tx (60 * 4 + i)) N).2) (rwF D0 F0 24) (rwF D1 F1 24) (rwF D2 F2 24) x y d false dn be op gs t0 fr lf pX pY pD pU X) (rT (ix := 0) hl rfl) ?_
      refine j_aload_n B d_M_draw_131 rfl 0 rfl ?_
      refine j_iconst (v := 0) B d_M_draw_132 (by decide) ?_
      refine pf_M_156 B not_false (rG (ix := 0) hl rfl) rfl rfl (Nat.le_of_ble_eq_true rfl) d_M_draw_133 ?_
      refine jW.heap (σ2 := σ ++ rC b ta 0 F0 F1 F2 HH kt kp a hi tm sN sx sy pt mn pl pN px py sn lt rc tx sz (upd us 4 (rdF (fun i => tx (60 * 4 + i)) N).2) (rwF D0 F0 24) (rwF D1 F1 24) (rwF D2 F2 24) x y d false 0 be op gs t0 fr lf pX pY pD pU X) (rT (ix := 0) hl rfl) ?_
      refine j_aload_n B d_M_draw_136 rfl 0 rfl ?_
      refine j_iconst (v := 0) B d_M_draw_137 (by decide) ?_
      refine pf_M_159 B not_false (rG (ix := 0) hl rfl) (by first | exact bI_nar _ | exact bI_fit _ | decide) (by first | exact bI_nar _ | exact bI_fit _ | decide) (Nat.le_of_ble_eq_true rfl) d_M_draw_138 ?_
      refine jW.heap (σ2 := σ ++ rC b ta 0 F0 F1 F2 HH kt kp a hi tm sN sx sy pt mn pl pN px py sn lt rc tx sz (upd us 4 (rdF (fun i => tx (60 * 4 + i)) N).2) (rwF D0 F0 24) (rwF D1 F1 24) (rwF D2 F2 24) x y d false 0 false op gs t0 fr lf pX pY pD pU X) (rT (ix := 0) hl rfl) ?_
      refine j_aload_n B d_M_draw_141 rfl 0 rfl ?_
      refine k_callV (as := []) (rest := []) (st1 := []) B hgo yf_M_goThrough w_906 w_908 w_s31 rfl (rG (ix := 0) hl rfl) rfl (by decide) (by decide) rfl rfl (Nat.le_of_ble_eq_true rfl) d_M_draw_142 ?_
      refine j_aload_n B d_M_draw_145 rfl 0 rfl ?_
      refine j_aload_n B d_M_draw_146 rfl 0 rfl ?_
      refine gf_M_159 B (rG (ix := 0) hl rfl) rfl d_M_draw_147 ?_
      refine j_if_eq B d_M_draw_150 rfl (fun h150 => absurd h150 (by decide)) (fun h150 => ?_)
      refine j_iconst (v := 3) B d_M_draw_153 (by decide) ?_
      refine j_goto B d_M_draw_154 rfl ?_
      refine pf_M_102 B not_false (rG (ix := 0) hl rfl) rfl rfl (Nat.le_of_ble_eq_true rfl) d_M_draw_158 ?_
      refine jW.heap (σ2 := σ ++ rC b ta 3 F0 F1 F2 HH kt kp a hi tm sN sx sy pt mn pl pN px py sn lt rc tx sz (upd us 4 (rdF (fun i => tx (60 * 4 + i)) N).2) E0 E1 E2 x2 y2 d2 u2 o2 true p2 g2 q2 f2 l2 xx yy dd uu X) (rT (ix := 0) hl rfl) ?_
      refine j_aload_n B d_M_draw_161 rfl 0 rfl ?_
      refine gf_M_159 B (rG (ix := 0) hl rfl) rfl d_M_draw_162 ?_
      refine j_if_eq B d_M_draw_165 rfl (fun h165 => absurd h165 (by decide)) (fun h165 => ?_)
      refine j_iconst (v := 0) B d_M_draw_168 (by decide) ?_
      exact j_iret B K rfl rfl d_M_draw_169
    · -- 60 on
      have hr2 := lp_lt (n := 24) (by decide) hr h60
      refine j_aload_n B d_M_draw_63 rfl 0 rfl ?_
      refine gf_M_68 B (rG (ix := 0) hl rfl) rfl d_M_draw_64 ?_
      refine j_iload B d_M_draw_67 4 rfl ?_
      refine j_aload_n B d_M_draw_69 rfl 0 rfl ?_
      refine gf_M_7 B (rG (ix := 0) hl rfl) rfl d_M_draw_70 ?_
      refine j_iload B d_M_draw_73 4 rfl ?_
      refine j_ialdN B rfl (rG (ix := 1) hl rfl) (by omega) d_M_draw_75 ?_
      refine j_iastN B not_false rfl (rG (ix := 20) hl rfl) (by omega) d_M_draw_76 ?_
      refine jW.heap (σ2 := σ ++ rC b ta 0 F0 F1 F2 HH kt kp a hi tm sN sx sy pt mn pl pN px py sn lt rc tx sz (upd us 4 (rdF (fun i => tx (60 * 4 + i)) N).2) (upd (rwF D0 F0 r) r (F0 r)) (rwF D1 F1 r) (rwF D2 F2 r) qx qy di up dn be op gs t0 fr lf pX pY pD pU X) (rT (ix := 20) hl rfl) ?_
      refine j_aload_n B d_M_draw_77 rfl 0 rfl ?_
      refine gf_M_71 B (rG (ix := 0) hl rfl) rfl d_M_draw_78 ?_
      refine j_iload B d_M_draw_81 4 rfl ?_
      refine j_aload_n B d_M_draw_83 rfl 0 rfl ?_
      refine gf_M_13 B (rG (ix := 0) hl rfl) rfl d_M_draw_84 ?_
      refine j_iload B d_M_draw_87 4 rfl ?_
      refine j_ialdN B rfl (rG (ix := 2) hl rfl) (by omega) d_M_draw_89 ?_
      refine j_iastN B not_false rfl (rG (ix := 21) hl rfl) (by omega) d_M_draw_90 ?_
      refine jW.heap (σ2 := σ ++ rC b ta 0 F0 F1 F2 HH kt kp a hi tm sN sx sy pt mn pl pN px py sn lt rc tx sz (upd us 4 (rdF (fun i => tx (60 * 4 + i)) N).2) (upd (rwF D0 F0 r) r (F0 r)) (upd (rwF D1 F1 r) r (F1 r)) (rwF D2 F2 r) qx qy di up dn be op gs t0 fr lf pX pY pD pU X) (rT (ix := 21) hl rfl) ?_
      refine j_aload_n B d_M_draw_91 rfl 0 rfl ?_
      refine gf_M_74 B (rG (ix := 0) hl rfl) rfl d_M_draw_92 ?_
      refine j_iload B d_M_draw_95 4 rfl ?_
      refine j_aload_n B d_M_draw_97 rfl 0 rfl ?_
      refine gf_M_16 B (rG (ix := 0) hl rfl) rfl d_M_draw_98 ?_
      refine j_iload B d_M_draw_101 4 rfl ?_
      refine j_ialdN B rfl (rG (ix := 3) hl rfl) (by omega) d_M_draw_103 ?_
      refine j_iastN B not_false rfl (rG (ix := 22) hl rfl) (by omega) d_M_draw_104 ?_
      refine jW.heap (σ2 := σ ++ rC b ta 0 F0 F1 F2 HH kt kp a hi tm sN sx sy pt mn pl pN px py sn lt rc tx sz (upd us 4 (rdF (fun i => tx (60 * 4 + i)) N).2) (upd (rwF D0 F0 r) r (F0 r)) (upd (rwF D1 F1 r) r (F1 r)) (upd (rwF D2 F2 r) r (F2 r)) qx qy di up dn be op gs t0 fr lf pX pY pD pU X) (rT (ix := 22) hl rfl) ?_
      refine j_iinc (L' := [(0, .ref (b + 133)), (1, .int x), (2, .int y), (3, .int (nI d)), (4, .int (nI (r + 1)))]) (v := nI (r + 1)) B d_M_draw_105 (k := 4) rfl (nI_succ r).symm (by decide) [1, 2, 3, 4, 0] rfl ?_
      refine j_goto B d_M_draw_108 rfl ?_
      exact ih56 _ (by omega) (r + 1) rfl (by omega)
  exact lp56 _ 0 rfl (by omega)
