set_option maxRecDepth 100000 in
set_option maxHeartbeats 4000000 in
theorem g_again41_t {l : Launch} {b : Nat} {D : va_G} {ta : Nat → ClassId} {Γ : jG} {σ : List va_E} (hl : σ.length = 133) {wt : Int32} {F0 : Nat → Int32} {F1 : Nat → Int32} {F2 : Nat → Int32} {HH : Nat → Int32} {kt : Nat → Int32} {kp : Nat → Int32} {a : Nat} {hi : Nat} {tm : Nat} {sN : Nat} {sx : Nat → Int32} {sy : Nat → Int32} {pt : Nat → Int64} {mn : Nat → Int32} {pl : Nat → Int32} {pN : Nat} {px : Nat → Int32} {py : Nat → Int32} {sn : Nat → Int32} {lt : Nat → Int32} {rc : Nat → Int64} {tx : Nat → Int32} {sz : Nat → Int32} {us : Nat → Int32} {D0 : Nat → Int32} {D1 : Nat → Int32} {D2 : Nat → Int32} {qx : Int32} {qy : Int32} {di : Nat} {up : Bool} {dn : Nat} {op : Nat} {gs : Nat → Int32} {t0 : Nat → Int32} {fr : Nat → Int32} {lf : Nat → Int32} {pX : Nat → Int32} {pY : Nat → Int32} {pD : Nat → Int32} {pU : Nat → Int32} {X : List va_E} (B : jB l b D ta Γ "WireFieldModel" b_M_goThrough none 6 (rL 5)) {t p N : Nat} (ht : t < 5) (hz : sz t = nI N) (hN : N ≤ 60) (hp : p ≤ 60) (h4 : ¬ t < 4 → ¬ sz 4 ≤ nI p) (hc : sg (fun i => tx (60 * t + i)) N p = 41) (hop : op < 32) {d2 : Nat} {u2 : Bool} (hD : pD op = nI d2) (hU : pU op = bI u2) {L f : Nat} (hL : lf op = nI (L + 1)) (hL9 : L < 100) (hF : fr op = nI f) (hdn : dn < 400) (kk : jW l b D Γ False 0 0 6 (σ ++ rC b ta wt F0 F1 F2 HH kt kp a hi tm sN sx sy pt mn pl pN px py sn lt rc tx sz us D0 D1 D2 (pX op) (pY op) d2 u2 (dn + 1) false (op + 1) gs t0 fr (upd lf op (nI L)) (upd pX op (pX op)) (upd pY op (pY op)) (upd pD op (nI d2)) (upd pU op (vp_nar .boolean (bI u2))) X) [(0, .ref (b + 133)), (1, .int (nI t)), (2, .int (nI f))] 9 []) : jW l b D Γ False 0 0 6 (σ ++ rC b ta wt F0 F1 F2 HH kt kp a hi tm sN sx sy pt mn pl pN px py sn lt rc tx sz us D0 D1 D2 qx qy di up dn false (op + 1) gs t0 fr lf pX pY pD pU X) [(0, .ref (b + 133)), (1, .int (nI t)), (2, .int (nI p))] 9 [] := by
  refine j_aload_n B d_M_goThrough_9 rfl 0 rfl ?_
  refine gf_M_159 B (rG (ix := 0) hl rfl) rfl d_M_goThrough_10 ?_
  refine j_if_ne B d_M_goThrough_13 rfl (fun h13 => absurd rfl h13) (fun h13 => ?_)
  have jn31 : ∀ (_v : Unit), jW l b D Γ False 0 0 6 (σ ++ rC b ta wt F0 F1 F2 HH kt kp a hi tm sN sx sy pt mn pl pN px py sn lt rc tx sz us D0 D1 D2 qx qy di up dn false (op + 1) gs t0 fr lf pX pY pD pU X) [(0, .ref (b + 133)), (1, .int (nI t)), (2, .int (nI p))] 31 [] := by
    intro _v 
    refine j_aload_n B d_M_goThrough_31 rfl 0 rfl ?_
    refine j_iload_n B d_M_goThrough_32 rfl 1 rfl ?_
    refine j_iload_n B d_M_goThrough_33 rfl 2 rfl ?_
    refine k_callV (as := [.int (nI t), .int (nI p)]) (rest := []) (st1 := [.int (sg (fun i => tx (60 * t + i)) N p)]) B (c_M_sign hl (t := t) (N := N) (p := p) ht hz hN (by omega)) yf_M_sign w_885 w_887 w_s29 rfl (rG (ix := 0) hl rfl) rfl (by decide) (by decide) rfl rfl (Nat.le_of_ble_eq_true rfl) d_M_goThrough_34 ?_
    rw [hc]
    refine j_istore_n (L' := [(0, .ref (b + 133)), (1, .int (nI t)), (2, .int (nI p)), (3, .int 41)]) B d_M_goThrough_37 rfl (by decide) [1, 2, 3, 0] rfl ?_
    refine j_iload_n B d_M_goThrough_38 rfl 3 rfl ?_
    refine j_if_eq B d_M_goThrough_39 rfl (fun h39 => absurd h39 (by decide)) (fun h39 => ?_)
    refine j_iload_n B d_M_goThrough_42 rfl 3 rfl ?_
    refine j_bipush (v := 41) B d_M_goThrough_43 (by decide) ?_
    refine j_icmp_eq B d_M_goThrough_45 rfl (fun h45 => ?_) (fun h45 => absurd rfl h45)
    refine j_aload_n B d_M_goThrough_54 rfl 0 rfl ?_
    refine gf_M_196 B (rG (ix := 0) hl rfl) rfl d_M_goThrough_55 ?_
    refine j_iconst (v := 1) B d_M_goThrough_58 (by decide) ?_
    refine j_isubE (v := nI op) B (nI_pred op) d_M_goThrough_59 ?_
    refine j_istore (L' := [(0, .ref (b + 133)), (1, .int (nI t)), (2, .int (nI p)), (3, .int 41), (4, .int (nI op))]) B d_M_goThrough_60 (by decide) [1, 2, 3, 4, 0] rfl ?_
    refine j_iload_n B d_M_goThrough_62 rfl 3 rfl ?_
    refine j_bipush (v := 41) B d_M_goThrough_63 (by decide) ?_
    refine j_icmp_ne B d_M_goThrough_65 rfl (fun h65 => absurd rfl h65) (fun h65 => ?_)
    refine j_aload_n B d_M_goThrough_68 rfl 0 rfl ?_
    refine k_callV (as := []) (rest := []) (st1 := []) B (c_M_comeBack hl hop hD hU) yf_M_comeBack w_910 w_912 w_s32 rfl (rG (ix := 0) hl rfl) rfl (by decide) (by decide) rfl rfl (Nat.le_of_ble_eq_true rfl) d_M_goThrough_69 ?_
    refine j_aload_n B d_M_goThrough_72 rfl 0 rfl ?_
    refine gf_M_86 B (rG (ix := 0) hl rfl) rfl d_M_goThrough_73 ?_
    refine j_iload B d_M_goThrough_76 4 rfl ?_
    refine j_ialdN B rfl (rG (ix := 26) hl rfl) (by omega) d_M_goThrough_78 ?_
    rw [hL]
    refine j_if_le B d_M_goThrough_79 rfl (fun h79 => absurd h79 (nI_ge (a := 0) (b := L + 1) (by omega) (by omega))) (fun h79 => ?_)
    refine j_aload_n B d_M_goThrough_82 rfl 0 rfl ?_
    refine k_callV (as := []) (rest := []) (st1 := []) B (c_M_again_t hl hdn hop hL) yf_M_again w_914 w_916 w_s33 rfl (rG (ix := 0) hl rfl) rfl (by decide) (by decide) rfl rfl (Nat.le_of_ble_eq_true rfl) d_M_goThrough_83 ?_
    refine j_iload_n B d_M_goThrough_86 rfl 3 rfl ?_
    refine j_if_ne B d_M_goThrough_87 rfl (fun h87 => ?_) (fun h87 => absurd h87 (by decide))
    refine j_aload_n B d_M_goThrough_94 rfl 0 rfl ?_
    refine gf_M_83 B (rG (ix := 0) hl rfl) rfl d_M_goThrough_95 ?_
    refine j_iload B d_M_goThrough_98 4 rfl ?_
    refine j_ialdN B rfl (rG (ix := 25) hl rfl) (by omega) d_M_goThrough_100 ?_
    rw [hF]
    refine j_istore_n (L' := [(0, .ref (b + 133)), (1, .int (nI t)), (2, .int (nI f)), (3, .int 41), (4, .int (nI op))]) B d_M_goThrough_101 rfl (by decide) [1, 2, 0, 3, 4] rfl ?_
    refine j_goto B d_M_goThrough_102 rfl ?_
    refine jW.sub (L' := [(0, .ref (b + 133)), (1, .int (nI t)), (2, .int (nI f))]) [0, 1, 2] rfl ?_; exact kk
  refine j_iload_n B d_M_goThrough_16 rfl 1 rfl ?_
  refine j_iconst (v := 4) B d_M_goThrough_17 (by decide) ?_
  refine j_icmp_lt B d_M_goThrough_18 rfl (fun h18 => ?_) (fun h18 => ?_)
  · -- 18 jump
    exact jn31 () 
  · -- 18 on
    refine j_iload_n B d_M_goThrough_21 rfl 2 rfl ?_
    refine j_aload_n B d_M_goThrough_22 rfl 0 rfl ?_
    refine gf_M_62 B (rG (ix := 0) hl rfl) rfl d_M_goThrough_23 ?_
    refine j_iconst (v := nI 4) B d_M_goThrough_26 (by decide) ?_
    refine j_ialdN B rfl (rG (ix := 18) hl rfl) (by omega) d_M_goThrough_27 ?_
    refine j_icmp_ge B d_M_goThrough_28 rfl (fun h28 => absurd h28 (h4 (fun q => h18 (nI_lt (b := 4) q (by decide))))) (fun h28 => ?_)
    exact jn31 () 
set_option maxRecDepth 100000 in
set_option maxHeartbeats 4000000 in
theorem g_again41_f {l : Launch} {b : Nat} {D : va_G} {ta : Nat → ClassId} {Γ : jG} {σ : List va_E} (hl : σ.length = 133) {wt : Int32} {F0 : Nat → Int32} {F1 : Nat → Int32} {F2 : Nat → Int32} {HH : Nat → Int32} {kt : Nat → Int32} {kp : Nat → Int32} {a : Nat} {hi : Nat} {tm : Nat} {sN : Nat} {sx : Nat → Int32} {sy : Nat → Int32} {pt : Nat → Int64} {mn : Nat → Int32} {pl : Nat → Int32} {pN : Nat} {px : Nat → Int32} {py : Nat → Int32} {sn : Nat → Int32} {lt : Nat → Int32} {rc : Nat → Int64} {tx : Nat → Int32} {sz : Nat → Int32} {us : Nat → Int32} {D0 : Nat → Int32} {D1 : Nat → Int32} {D2 : Nat → Int32} {qx : Int32} {qy : Int32} {di : Nat} {up : Bool} {dn : Nat} {op : Nat} {gs : Nat → Int32} {t0 : Nat → Int32} {fr : Nat → Int32} {lf : Nat → Int32} {pX : Nat → Int32} {pY : Nat → Int32} {pD : Nat → Int32} {pU : Nat → Int32} {X : List va_E} (B : jB l b D ta Γ "WireFieldModel" b_M_goThrough none 6 (rL 5)) {t p N : Nat} (ht : t < 5) (hz : sz t = nI N) (hN : N ≤ 60) (hp : p ≤ 60) (h4 : ¬ t < 4 → ¬ sz 4 ≤ nI p) (hc : sg (fun i => tx (60 * t + i)) N p = 41) (hop : op < 32) {d2 : Nat} {u2 : Bool} (hD : pD op = nI d2) (hU : pU op = bI u2) {L f : Nat} (hL : lf op = nI (L + 1)) (hL9 : L < 100) (hF : fr op = nI f) (hdn : 400 ≤ dn) (hd2 : dn < 2 ^ 20) (kk : jW l b D Γ False 0 0 6 (σ ++ rC b ta wt F0 F1 F2 HH kt kp a hi tm sN sx sy pt mn pl pN px py sn lt rc tx sz us D0 D1 D2 (pX op) (pY op) d2 u2 (dn + 1) true (op + 1) gs t0 fr (upd lf op (nI L)) (upd pX op (pX op)) (upd pY op (pY op)) (upd pD op (nI d2)) (upd pU op (vp_nar .boolean (bI u2))) X) [(0, .ref (b + 133)), (1, .int (nI t)), (2, .int (nI f))] 9 []) : jW l b D Γ False 0 0 6 (σ ++ rC b ta wt F0 F1 F2 HH kt kp a hi tm sN sx sy pt mn pl pN px py sn lt rc tx sz us D0 D1 D2 qx qy di up dn false (op + 1) gs t0 fr lf pX pY pD pU X) [(0, .ref (b + 133)), (1, .int (nI t)), (2, .int (nI p))] 9 [] := by
  refine j_aload_n B d_M_goThrough_9 rfl 0 rfl ?_
  refine gf_M_159 B (rG (ix := 0) hl rfl) rfl d_M_goThrough_10 ?_
  refine j_if_ne B d_M_goThrough_13 rfl (fun h13 => absurd rfl h13) (fun h13 => ?_)
  have jn31 : ∀ (_v : Unit), jW l b D Γ False 0 0 6 (σ ++ rC b ta wt F0 F1 F2 HH kt kp a hi tm sN sx sy pt mn pl pN px py sn lt rc tx sz us D0 D1 D2 qx qy di up dn false (op + 1) gs t0 fr lf pX pY pD pU X) [(0, .ref (b + 133)), (1, .int (nI t)), (2, .int (nI p))] 31 [] := by
    intro _v 
    refine j_aload_n B d_M_goThrough_31 rfl 0 rfl ?_
    refine j_iload_n B d_M_goThrough_32 rfl 1 rfl ?_
    refine j_iload_n B d_M_goThrough_33 rfl 2 rfl ?_
    refine k_callV (as := [.int (nI t), .int (nI p)]) (rest := []) (st1 := [.int (sg (fun i => tx (60 * t + i)) N p)]) B (c_M_sign hl (t := t) (N := N) (p := p) ht hz hN (by omega)) yf_M_sign w_885 w_887 w_s29 rfl (rG (ix := 0) hl rfl) rfl (by decide) (by decide) rfl rfl (Nat.le_of_ble_eq_true rfl) d_M_goThrough_34 ?_
    rw [hc]
    refine j_istore_n (L' := [(0, .ref (b + 133)), (1, .int (nI t)), (2, .int (nI p)), (3, .int 41)]) B d_M_goThrough_37 rfl (by decide) [1, 2, 3, 0] rfl ?_
    refine j_iload_n B d_M_goThrough_38 rfl 3 rfl ?_
    refine j_if_eq B d_M_goThrough_39 rfl (fun h39 => absurd h39 (by decide)) (fun h39 => ?_)
    refine j_iload_n B d_M_goThrough_42 rfl 3 rfl ?_
    refine j_bipush (v := 41) B d_M_goThrough_43 (by decide) ?_
    refine j_icmp_eq B d_M_goThrough_45 rfl (fun h45 => ?_) (fun h45 => absurd rfl h45)
    refine j_aload_n B d_M_goThrough_54 rfl 0 rfl ?_
    refine gf_M_196 B (rG (ix := 0) hl rfl) rfl d_M_goThrough_55 ?_
    refine j_iconst (v := 1) B d_M_goThrough_58 (by decide) ?_
    refine j_isubE (v := nI op) B (nI_pred op) d_M_goThrough_59 ?_
    refine j_istore (L' := [(0, .ref (b + 133)), (1, .int (nI t)), (2, .int (nI p)), (3, .int 41), (4, .int (nI op))]) B d_M_goThrough_60 (by decide) [1, 2, 3, 4, 0] rfl ?_
    refine j_iload_n B d_M_goThrough_62 rfl 3 rfl ?_
    refine j_bipush (v := 41) B d_M_goThrough_63 (by decide) ?_
    refine j_icmp_ne B d_M_goThrough_65 rfl (fun h65 => absurd rfl h65) (fun h65 => ?_)
    refine j_aload_n B d_M_goThrough_68 rfl 0 rfl ?_
    refine k_callV (as := []) (rest := []) (st1 := []) B (c_M_comeBack hl hop hD hU) yf_M_comeBack w_910 w_912 w_s32 rfl (rG (ix := 0) hl rfl) rfl (by decide) (by decide) rfl rfl (Nat.le_of_ble_eq_true rfl) d_M_goThrough_69 ?_
    refine j_aload_n B d_M_goThrough_72 rfl 0 rfl ?_
    refine gf_M_86 B (rG (ix := 0) hl rfl) rfl d_M_goThrough_73 ?_
    refine j_iload B d_M_goThrough_76 4 rfl ?_
    refine j_ialdN B rfl (rG (ix := 26) hl rfl) (by omega) d_M_goThrough_78 ?_
    rw [hL]
    refine j_if_le B d_M_goThrough_79 rfl (fun h79 => absurd h79 (nI_ge (a := 0) (b := L + 1) (by omega) (by omega))) (fun h79 => ?_)
    refine j_aload_n B d_M_goThrough_82 rfl 0 rfl ?_
    refine k_callV (as := []) (rest := []) (st1 := []) B (c_M_again_f hl hdn hd2 hop hL) yf_M_again w_914 w_916 w_s33 rfl (rG (ix := 0) hl rfl) rfl (by decide) (by decide) rfl rfl (Nat.le_of_ble_eq_true rfl) d_M_goThrough_83 ?_
    refine j_iload_n B d_M_goThrough_86 rfl 3 rfl ?_
    refine j_if_ne B d_M_goThrough_87 rfl (fun h87 => ?_) (fun h87 => absurd h87 (by decide))
    refine j_aload_n B d_M_goThrough_94 rfl 0 rfl ?_
    refine gf_M_83 B (rG (ix := 0) hl rfl) rfl d_M_goThrough_95 ?_
    refine j_iload B d_M_goThrough_98 4 rfl ?_
    refine j_ialdN B rfl (rG (ix := 25) hl rfl) (by omega) d_M_goThrough_100 ?_
    rw [hF]
    refine j_istore_n (L' := [(0, .ref (b + 133)), (1, .int (nI t)), (2, .int (nI f)), (3, .int 41), (4, .int (nI op))]) B d_M_goThrough_101 rfl (by decide) [1, 2, 0, 3, 4] rfl ?_
    refine j_goto B d_M_goThrough_102 rfl ?_
    refine jW.sub (L' := [(0, .ref (b + 133)), (1, .int (nI t)), (2, .int (nI f))]) [0, 1, 2] rfl ?_; exact kk
  refine j_iload_n B d_M_goThrough_16 rfl 1 rfl ?_
  refine j_iconst (v := 4) B d_M_goThrough_17 (by decide) ?_
  refine j_icmp_lt B d_M_goThrough_18 rfl (fun h18 => ?_) (fun h18 => ?_)
  · -- 18 jump
    exact jn31 () 
  · -- 18 on
    refine j_iload_n B d_M_goThrough_21 rfl 2 rfl ?_
    refine j_aload_n B d_M_goThrough_22 rfl 0 rfl ?_
    refine gf_M_62 B (rG (ix := 0) hl rfl) rfl d_M_goThrough_23 ?_
    refine j_iconst (v := nI 4) B d_M_goThrough_26 (by decide) ?_
    refine j_ialdN B rfl (rG (ix := 18) hl rfl) (by omega) d_M_goThrough_27 ?_
    refine j_icmp_ge B d_M_goThrough_28 rfl (fun h28 => absurd h28 (h4 (fun q => h18 (nI_lt (b := 4) q (by decide))))) (fun h28 => ?_)
    exact jn31 () 
set_option maxRecDepth 100000 in
set_option maxHeartbeats 4000000 in
theorem g_pop41 {l : Launch} {b : Nat} {D : va_G} {ta : Nat → ClassId} {Γ : jG} {σ : List va_E} (hl : σ.length = 133) {wt : Int32} {F0 : Nat → Int32} {F1 : Nat → Int32} {F2 : Nat → Int32} {HH : Nat → Int32} {kt : Nat → Int32} {kp : Nat → Int32} {a : Nat} {hi : Nat} {tm : Nat} {sN : Nat} {sx : Nat → Int32} {sy : Nat → Int32} {pt : Nat → Int64} {mn : Nat → Int32} {pl : Nat → Int32} {pN : Nat} {px : Nat → Int32} {py : Nat → Int32} {sn : Nat → Int32} {lt : Nat → Int32} {rc : Nat → Int64} {tx : Nat → Int32} {sz : Nat → Int32} {us : Nat → Int32} {D0 : Nat → Int32} {D1 : Nat → Int32} {D2 : Nat → Int32} {qx : Int32} {qy : Int32} {di : Nat} {up : Bool} {dn : Nat} {op : Nat} {gs : Nat → Int32} {t0 : Nat → Int32} {fr : Nat → Int32} {lf : Nat → Int32} {pX : Nat → Int32} {pY : Nat → Int32} {pD : Nat → Int32} {pU : Nat → Int32} {X : List va_E} (B : jB l b D ta Γ "WireFieldModel" b_M_goThrough none 6 (rL 5)) {t p N : Nat} (ht : t < 5) (hz : sz t = nI N) (hN : N ≤ 60) (hp : p ≤ 60) (h4 : ¬ t < 4 → ¬ sz 4 ≤ nI p) (hc : sg (fun i => tx (60 * t + i)) N p = 41) (hop : op < 32) {d2 : Nat} {u2 : Bool} (hD : pD op = nI d2) (hU : pU op = bI u2) {f t2 : Nat} (hL : lf op = nI 0) (hF : fr op = nI f) (hT : t0 op = nI t2) (kk : jW l b D Γ False 0 0 6 (σ ++ rC b ta wt F0 F1 F2 HH kt kp a hi tm sN sx sy pt mn pl pN px py sn lt rc tx sz us D0 D1 D2 (pX op) (pY op) d2 u2 dn false op gs t0 fr lf pX pY pD pU X) [(0, .ref (b + 133)), (1, .int (nI t2)), (2, .int (nI (p + 1)))] 9 []) : jW l b D Γ False 0 0 6 (σ ++ rC b ta wt F0 F1 F2 HH kt kp a hi tm sN sx sy pt mn pl pN px py sn lt rc tx sz us D0 D1 D2 qx qy di up dn false (op + 1) gs t0 fr lf pX pY pD pU X) [(0, .ref (b + 133)), (1, .int (nI t)), (2, .int (nI p))] 9 [] := by
  refine j_aload_n B d_M_goThrough_9 rfl 0 rfl ?_
  refine gf_M_159 B (rG (ix := 0) hl rfl) rfl d_M_goThrough_10 ?_
  refine j_if_ne B d_M_goThrough_13 rfl (fun h13 => absurd rfl h13) (fun h13 => ?_)
  have jn31 : ∀ (_v : Unit), jW l b D Γ False 0 0 6 (σ ++ rC b ta wt F0 F1 F2 HH kt kp a hi tm sN sx sy pt mn pl pN px py sn lt rc tx sz us D0 D1 D2 qx qy di up dn false (op + 1) gs t0 fr lf pX pY pD pU X) [(0, .ref (b + 133)), (1, .int (nI t)), (2, .int (nI p))] 31 [] := by
    intro _v 
    refine j_aload_n B d_M_goThrough_31 rfl 0 rfl ?_
    refine j_iload_n B d_M_goThrough_32 rfl 1 rfl ?_
    refine j_iload_n B d_M_goThrough_33 rfl 2 rfl ?_
    refine k_callV (as := [.int (nI t), .int (nI p)]) (rest := []) (st1 := [.int (sg (fun i => tx (60 * t + i)) N p)]) B (c_M_sign hl (t := t) (N := N) (p := p) ht hz hN (by omega)) yf_M_sign w_885 w_887 w_s29 rfl (rG (ix := 0) hl rfl) rfl (by decide) (by decide) rfl rfl (Nat.le_of_ble_eq_true rfl) d_M_goThrough_34 ?_
    rw [hc]
    refine j_istore_n (L' := [(0, .ref (b + 133)), (1, .int (nI t)), (2, .int (nI p)), (3, .int 41)]) B d_M_goThrough_37 rfl (by decide) [1, 2, 3, 0] rfl ?_
    refine j_iload_n B d_M_goThrough_38 rfl 3 rfl ?_
    refine j_if_eq B d_M_goThrough_39 rfl (fun h39 => absurd h39 (by decide)) (fun h39 => ?_)
    refine j_iload_n B d_M_goThrough_42 rfl 3 rfl ?_
    refine j_bipush (v := 41) B d_M_goThrough_43 (by decide) ?_
    refine j_icmp_eq B d_M_goThrough_45 rfl (fun h45 => ?_) (fun h45 => absurd rfl h45)
    refine j_aload_n B d_M_goThrough_54 rfl 0 rfl ?_
    refine gf_M_196 B (rG (ix := 0) hl rfl) rfl d_M_goThrough_55 ?_
    refine j_iconst (v := 1) B d_M_goThrough_58 (by decide) ?_
    refine j_isubE (v := nI op) B (nI_pred op) d_M_goThrough_59 ?_
    refine j_istore (L' := [(0, .ref (b + 133)), (1, .int (nI t)), (2, .int (nI p)), (3, .int 41), (4, .int (nI op))]) B d_M_goThrough_60 (by decide) [1, 2, 3, 4, 0] rfl ?_
    refine j_iload_n B d_M_goThrough_62 rfl 3 rfl ?_
    refine j_bipush (v := 41) B d_M_goThrough_63 (by decide) ?_
    refine j_icmp_ne B d_M_goThrough_65 rfl (fun h65 => absurd rfl h65) (fun h65 => ?_)
    refine j_aload_n B d_M_goThrough_68 rfl 0 rfl ?_
    refine k_callV (as := []) (rest := []) (st1 := []) B (c_M_comeBack hl hop hD hU) yf_M_comeBack w_910 w_912 w_s32 rfl (rG (ix := 0) hl rfl) rfl (by decide) (by decide) rfl rfl (Nat.le_of_ble_eq_true rfl) d_M_goThrough_69 ?_
    refine j_aload_n B d_M_goThrough_72 rfl 0 rfl ?_
    refine gf_M_86 B (rG (ix := 0) hl rfl) rfl d_M_goThrough_73 ?_
    refine j_iload B d_M_goThrough_76 4 rfl ?_
    refine j_ialdN B rfl (rG (ix := 26) hl rfl) (by omega) d_M_goThrough_78 ?_
    rw [hL]
    refine j_if_le B d_M_goThrough_79 rfl (fun h79 => ?_) (fun h79 => absurd (by decide) h79)
    refine j_aload_n B d_M_goThrough_105 rfl 0 rfl ?_
    refine gf_M_80 B (rG (ix := 0) hl rfl) rfl d_M_goThrough_106 ?_
    refine j_iload B d_M_goThrough_109 4 rfl ?_
    refine j_ialdN B rfl (rG (ix := 24) hl rfl) (by omega) d_M_goThrough_111 ?_
    rw [hT]
    refine j_istore_n (L' := [(0, .ref (b + 133)), (1, .int (nI t2)), (2, .int (nI p)), (3, .int 41), (4, .int (nI op))]) B d_M_goThrough_112 rfl (by decide) [1, 0, 2, 3, 4] rfl ?_
    refine j_iload_n B d_M_goThrough_113 rfl 3 rfl ?_
    refine j_if_ne B d_M_goThrough_114 rfl (fun h114 => ?_) (fun h114 => absurd h114 (by decide))
    refine j_iload_n B d_M_goThrough_127 rfl 2 rfl ?_
    refine j_iconst (v := 1) B d_M_goThrough_128 (by decide) ?_
    refine j_iaddE (v := nI (p + 1)) B (nI_add p 1) d_M_goThrough_129 ?_
    refine j_istore_n (L' := [(0, .ref (b + 133)), (1, .int (nI t2)), (2, .int (nI (p + 1))), (3, .int 41), (4, .int (nI op))]) B d_M_goThrough_130 rfl (by decide) [1, 2, 0, 3, 4] rfl ?_
    refine j_aload_n B d_M_goThrough_131 rfl 0 rfl ?_
    refine j_dup B d_M_goThrough_132 rfl ?_
    refine gf_M_196 B (rG (ix := 0) hl rfl) rfl d_M_goThrough_133 ?_
    refine j_iconst (v := 1) B d_M_goThrough_136 (by decide) ?_
    refine j_isubE (v := nI op) B (nI_pred op) d_M_goThrough_137 ?_
    refine pf_M_196 B not_false (rG (ix := 0) hl rfl) rfl rfl (Nat.le_of_ble_eq_true rfl) d_M_goThrough_138 ?_
    refine jW.heap (σ2 := σ ++ rC b ta wt F0 F1 F2 HH kt kp a hi tm sN sx sy pt mn pl pN px py sn lt rc tx sz us D0 D1 D2 (pX op) (pY op) d2 u2 dn false op gs t0 fr lf pX pY pD pU X) (rT (ix := 0) hl rfl) ?_
    refine j_goto B d_M_goThrough_141 rfl ?_
    refine jW.sub (L' := [(0, .ref (b + 133)), (1, .int (nI t2)), (2, .int (nI (p + 1)))]) [0, 1, 2] rfl ?_; exact kk
  refine j_iload_n B d_M_goThrough_16 rfl 1 rfl ?_
  refine j_iconst (v := 4) B d_M_goThrough_17 (by decide) ?_
  refine j_icmp_lt B d_M_goThrough_18 rfl (fun h18 => ?_) (fun h18 => ?_)
  · -- 18 jump
    exact jn31 () 
  · -- 18 on
    refine j_iload_n B d_M_goThrough_21 rfl 2 rfl ?_
    refine j_aload_n B d_M_goThrough_22 rfl 0 rfl ?_
    refine gf_M_62 B (rG (ix := 0) hl rfl) rfl d_M_goThrough_23 ?_
    refine j_iconst (v := nI 4) B d_M_goThrough_26 (by decide) ?_
    refine j_ialdN B rfl (rG (ix := 18) hl rfl) (by omega) d_M_goThrough_27 ?_
    refine j_icmp_ge B d_M_goThrough_28 rfl (fun h28 => absurd h28 (h4 (fun q => h18 (nI_lt (b := 4) q (by decide))))) (fun h28 => ?_)
    exact jn31 () 
set_option maxRecDepth 100000 in
set_option maxHeartbeats 4000000 in
theorem g_again93_t {l : Launch} {b : Nat} {D : va_G} {ta : Nat → ClassId} {Γ : jG} {σ : List va_E} (hl : σ.length = 133) {wt : Int32} {F0 : Nat → Int32} {F1 : Nat → Int32} {F2 : Nat → Int32} {HH : Nat → Int32} {kt : Nat → Int32} {kp : Nat → Int32} {a : Nat} {hi : Nat} {tm : Nat} {sN : Nat} {sx : Nat → Int32} {sy : Nat → Int32} {pt : Nat → Int64} {mn : Nat → Int32} {pl : Nat → Int32} {pN : Nat} {px : Nat → Int32} {py : Nat → Int32} {sn : Nat → Int32} {lt : Nat → Int32} {rc : Nat → Int64} {tx : Nat → Int32} {sz : Nat → Int32} {us : Nat → Int32} {D0 : Nat → Int32} {D1 : Nat → Int32} {D2 : Nat → Int32} {qx : Int32} {qy : Int32} {di : Nat} {up : Bool} {dn : Nat} {op : Nat} {gs : Nat → Int32} {t0 : Nat → Int32} {fr : Nat → Int32} {lf : Nat → Int32} {pX : Nat → Int32} {pY : Nat → Int32} {pD : Nat → Int32} {pU : Nat → Int32} {X : List va_E} (B : jB l b D ta Γ "WireFieldModel" b_M_goThrough none 6 (rL 5)) {t p N : Nat} (ht : t < 5) (hz : sz t = nI N) (hN : N ≤ 60) (hp : p ≤ 60) (h4 : ¬ t < 4 → ¬ sz 4 ≤ nI p) (hc : sg (fun i => tx (60 * t + i)) N p = 93) (hop : op < 32) {L f : Nat} (hL : lf op = nI (L + 1)) (hL9 : L < 100) (hF : fr op = nI f) (hdn : dn < 400) (kk : jW l b D Γ False 0 0 6 (σ ++ rC b ta wt F0 F1 F2 HH kt kp a hi tm sN sx sy pt mn pl pN px py sn lt rc tx sz us D0 D1 D2 qx qy di up (dn + 1) false (op + 1) gs t0 fr (upd lf op (nI L)) (upd pX op qx) (upd pY op qy) (upd pD op (nI di)) (upd pU op (vp_nar .boolean (bI up))) X) [(0, .ref (b + 133)), (1, .int (nI t)), (2, .int (nI f))] 9 []) : jW l b D Γ False 0 0 6 (σ ++ rC b ta wt F0 F1 F2 HH kt kp a hi tm sN sx sy pt mn pl pN px py sn lt rc tx sz us D0 D1 D2 qx qy di up dn false (op + 1) gs t0 fr lf pX pY pD pU X) [(0, .ref (b + 133)), (1, .int (nI t)), (2, .int (nI p))] 9 [] := by
  refine j_aload_n B d_M_goThrough_9 rfl 0 rfl ?_
  refine gf_M_159 B (rG (ix := 0) hl rfl) rfl d_M_goThrough_10 ?_
  refine j_if_ne B d_M_goThrough_13 rfl (fun h13 => absurd rfl h13) (fun h13 => ?_)
  have jn31 : ∀ (_v : Unit), jW l b D Γ False 0 0 6 (σ ++ rC b ta wt F0 F1 F2 HH kt kp a hi tm sN sx sy pt mn pl pN px py sn lt rc tx sz us D0 D1 D2 qx qy di up dn false (op + 1) gs t0 fr lf pX pY pD pU X) [(0, .ref (b + 133)), (1, .int (nI t)), (2, .int (nI p))] 31 [] := by
    intro _v 
    refine j_aload_n B d_M_goThrough_31 rfl 0 rfl ?_
    refine j_iload_n B d_M_goThrough_32 rfl 1 rfl ?_
    refine j_iload_n B d_M_goThrough_33 rfl 2 rfl ?_
    refine k_callV (as := [.int (nI t), .int (nI p)]) (rest := []) (st1 := [.int (sg (fun i => tx (60 * t + i)) N p)]) B (c_M_sign hl (t := t) (N := N) (p := p) ht hz hN (by omega)) yf_M_sign w_885 w_887 w_s29 rfl (rG (ix := 0) hl rfl) rfl (by decide) (by decide) rfl rfl (Nat.le_of_ble_eq_true rfl) d_M_goThrough_34 ?_
    rw [hc]
    refine j_istore_n (L' := [(0, .ref (b + 133)), (1, .int (nI t)), (2, .int (nI p)), (3, .int 93)]) B d_M_goThrough_37 rfl (by decide) [1, 2, 3, 0] rfl ?_
    refine j_iload_n B d_M_goThrough_38 rfl 3 rfl ?_
    refine j_if_eq B d_M_goThrough_39 rfl (fun h39 => absurd h39 (by decide)) (fun h39 => ?_)
    refine j_iload_n B d_M_goThrough_42 rfl 3 rfl ?_
    refine j_bipush (v := 41) B d_M_goThrough_43 (by decide) ?_
    refine j_icmp_eq B d_M_goThrough_45 rfl (fun h45 => absurd h45 (by decide)) (fun h45 => ?_)
    refine j_iload_n B d_M_goThrough_48 rfl 3 rfl ?_
    refine j_bipush (v := 93) B d_M_goThrough_49 (by decide) ?_
    refine j_icmp_ne B d_M_goThrough_51 rfl (fun h51 => absurd rfl h51) (fun h51 => ?_)
    refine j_aload_n B d_M_goThrough_54 rfl 0 rfl ?_
    refine gf_M_196 B (rG (ix := 0) hl rfl) rfl d_M_goThrough_55 ?_
    refine j_iconst (v := 1) B d_M_goThrough_58 (by decide) ?_
    refine j_isubE (v := nI op) B (nI_pred op) d_M_goThrough_59 ?_
    refine j_istore (L' := [(0, .ref (b + 133)), (1, .int (nI t)), (2, .int (nI p)), (3, .int 93), (4, .int (nI op))]) B d_M_goThrough_60 (by decide) [1, 2, 3, 4, 0] rfl ?_
    refine j_iload_n B d_M_goThrough_62 rfl 3 rfl ?_
    refine j_bipush (v := 41) B d_M_goThrough_63 (by decide) ?_
    refine j_icmp_ne B d_M_goThrough_65 rfl (fun h65 => ?_) (fun h65 => absurd h65 (by decide))
    refine j_aload_n B d_M_goThrough_72 rfl 0 rfl ?_
    refine gf_M_86 B (rG (ix := 0) hl rfl) rfl d_M_goThrough_73 ?_
    refine j_iload B d_M_goThrough_76 4 rfl ?_
    refine j_ialdN B rfl (rG (ix := 26) hl rfl) (by omega) d_M_goThrough_78 ?_
    rw [hL]
    refine j_if_le B d_M_goThrough_79 rfl (fun h79 => absurd h79 (nI_ge (a := 0) (b := L + 1) (by omega) (by omega))) (fun h79 => ?_)
    refine j_aload_n B d_M_goThrough_82 rfl 0 rfl ?_
    refine k_callV (as := []) (rest := []) (st1 := []) B (c_M_again_t hl hdn hop hL) yf_M_again w_914 w_916 w_s33 rfl (rG (ix := 0) hl rfl) rfl (by decide) (by decide) rfl rfl (Nat.le_of_ble_eq_true rfl) d_M_goThrough_83 ?_
    refine j_iload_n B d_M_goThrough_86 rfl 3 rfl ?_
    refine j_if_ne B d_M_goThrough_87 rfl (fun h87 => ?_) (fun h87 => absurd h87 (by decide))
    refine j_aload_n B d_M_goThrough_94 rfl 0 rfl ?_
    refine gf_M_83 B (rG (ix := 0) hl rfl) rfl d_M_goThrough_95 ?_
    refine j_iload B d_M_goThrough_98 4 rfl ?_
    refine j_ialdN B rfl (rG (ix := 25) hl rfl) (by omega) d_M_goThrough_100 ?_
    rw [hF]
    refine j_istore_n (L' := [(0, .ref (b + 133)), (1, .int (nI t)), (2, .int (nI f)), (3, .int 93), (4, .int (nI op))]) B d_M_goThrough_101 rfl (by decide) [1, 2, 0, 3, 4] rfl ?_
    refine j_goto B d_M_goThrough_102 rfl ?_
    refine jW.sub (L' := [(0, .ref (b + 133)), (1, .int (nI t)), (2, .int (nI f))]) [0, 1, 2] rfl ?_; exact kk
  refine j_iload_n B d_M_goThrough_16 rfl 1 rfl ?_
  refine j_iconst (v := 4) B d_M_goThrough_17 (by decide) ?_
  refine j_icmp_lt B d_M_goThrough_18 rfl (fun h18 => ?_) (fun h18 => ?_)
  · -- 18 jump
    exact jn31 () 
  · -- 18 on
    refine j_iload_n B d_M_goThrough_21 rfl 2 rfl ?_
    refine j_aload_n B d_M_goThrough_22 rfl 0 rfl ?_
    refine gf_M_62 B (rG (ix := 0) hl rfl) rfl d_M_goThrough_23 ?_
    refine j_iconst (v := nI 4) B d_M_goThrough_26 (by decide) ?_
    refine j_ialdN B rfl (rG (ix := 18) hl rfl) (by omega) d_M_goThrough_27 ?_
    refine j_icmp_ge B d_M_goThrough_28 rfl (fun h28 => absurd h28 (h4 (fun q => h18 (nI_lt (b := 4) q (by decide))))) (fun h28 => ?_)
    exact jn31 () 
set_option maxRecDepth 100000 in
set_option maxHeartbeats 4000000 in
theorem g_again93_f {l : Launch} {b : Nat} {D : va_G} {ta : Nat → ClassId} {Γ : jG} {σ : List va_E} (hl : σ.length = 133) {wt : Int32} {F0 : Nat → Int32} {F1 : Nat → Int32} {F2 : Nat → Int32} {HH : Nat → Int32} {kt : Nat → Int32} {kp : Nat → Int32} {a : Nat} {hi : Nat} {tm : Nat} {sN : Nat} {sx : Nat → Int32} {sy : Nat → Int32} {pt : Nat → Int64} {mn : Nat → Int32} {pl : Nat → Int32} {pN : Nat} {px : Nat → Int32} {py : Nat → Int32} {sn : Nat → Int32} {lt : Nat → Int32} {rc : Nat → Int64} {tx : Nat → Int32} {sz : Nat → Int32} {us : Nat → Int32} {D0 : Nat → Int32} {D1 : Nat → Int32} {D2 : Nat → Int32} {qx : Int32} {qy : Int32} {di : Nat} {up : Bool} {dn : Nat} {op : Nat} {gs : Nat → Int32} {t0 : Nat → Int32} {fr : Nat → Int32} {lf : Nat → Int32} {pX : Nat → Int32} {pY : Nat → Int32} {pD : Nat → Int32} {pU : Nat → Int32} {X : List va_E} (B : jB l b D ta Γ "WireFieldModel" b_M_goThrough none 6 (rL 5)) {t p N : Nat} (ht : t < 5) (hz : sz t = nI N) (hN : N ≤ 60) (hp : p ≤ 60) (h4 : ¬ t < 4 → ¬ sz 4 ≤ nI p) (hc : sg (fun i => tx (60 * t + i)) N p = 93) (hop : op < 32) {L f : Nat} (hL : lf op = nI (L + 1)) (hL9 : L < 100) (hF : fr op = nI f) (hdn : 400 ≤ dn) (hd2 : dn < 2 ^ 20) (kk : jW l b D Γ False 0 0 6 (σ ++ rC b ta wt F0 F1 F2 HH kt kp a hi tm sN sx sy pt mn pl pN px py sn lt rc tx sz us D0 D1 D2 qx qy di up (dn + 1) true (op + 1) gs t0 fr (upd lf op (nI L)) (upd pX op qx) (upd pY op qy) (upd pD op (nI di)) (upd pU op (vp_nar .boolean (bI up))) X) [(0, .ref (b + 133)), (1, .int (nI t)), (2, .int (nI f))] 9 []) : jW l b D Γ False 0 0 6 (σ ++ rC b ta wt F0 F1 F2 HH kt kp a hi tm sN sx sy pt mn pl pN px py sn lt rc tx sz us D0 D1 D2 qx qy di up dn false (op + 1) gs t0 fr lf pX pY pD pU X) [(0, .ref (b + 133)), (1, .int (nI t)), (2, .int (nI p))] 9 [] := by
  refine j_aload_n B d_M_goThrough_9 rfl 0 rfl ?_
  refine gf_M_159 B (rG (ix := 0) hl rfl) rfl d_M_goThrough_10 ?_
  refine j_if_ne B d_M_goThrough_13 rfl (fun h13 => absurd rfl h13) (fun h13 => ?_)
  have jn31 : ∀ (_v : Unit), jW l b D Γ False 0 0 6 (σ ++ rC b ta wt F0 F1 F2 HH kt kp a hi tm sN sx sy pt mn pl pN px py sn lt rc tx sz us D0 D1 D2 qx qy di up dn false (op + 1) gs t0 fr lf pX pY pD pU X) [(0, .ref (b + 133)), (1, .int (nI t)), (2, .int (nI p))] 31 [] := by
    intro _v 
    refine j_aload_n B d_M_goThrough_31 rfl 0 rfl ?_
    refine j_iload_n B d_M_goThrough_32 rfl 1 rfl ?_
    refine j_iload_n B d_M_goThrough_33 rfl 2 rfl ?_
    refine k_callV (as := [.int (nI t), .int (nI p)]) (rest := []) (st1 := [.int (sg (fun i => tx (60 * t + i)) N p)]) B (c_M_sign hl (t := t) (N := N) (p := p) ht hz hN (by omega)) yf_M_sign w_885 w_887 w_s29 rfl (rG (ix := 0) hl rfl) rfl (by decide) (by decide) rfl rfl (Nat.le_of_ble_eq_true rfl) d_M_goThrough_34 ?_
    rw [hc]
    refine j_istore_n (L' := [(0, .ref (b + 133)), (1, .int (nI t)), (2, .int (nI p)), (3, .int 93)]) B d_M_goThrough_37 rfl (by decide) [1, 2, 3, 0] rfl ?_
    refine j_iload_n B d_M_goThrough_38 rfl 3 rfl ?_
    refine j_if_eq B d_M_goThrough_39 rfl (fun h39 => absurd h39 (by decide)) (fun h39 => ?_)
    refine j_iload_n B d_M_goThrough_42 rfl 3 rfl ?_
    refine j_bipush (v := 41) B d_M_goThrough_43 (by decide) ?_
    refine j_icmp_eq B d_M_goThrough_45 rfl (fun h45 => absurd h45 (by decide)) (fun h45 => ?_)
    refine j_iload_n B d_M_goThrough_48 rfl 3 rfl ?_
    refine j_bipush (v := 93) B d_M_goThrough_49 (by decide) ?_
    refine j_icmp_ne B d_M_goThrough_51 rfl (fun h51 => absurd rfl h51) (fun h51 => ?_)
    refine j_aload_n B d_M_goThrough_54 rfl 0 rfl ?_
    refine gf_M_196 B (rG (ix := 0) hl rfl) rfl d_M_goThrough_55 ?_
    refine j_iconst (v := 1) B d_M_goThrough_58 (by decide) ?_
    refine j_isubE (v := nI op) B (nI_pred op) d_M_goThrough_59 ?_
    refine j_istore (L' := [(0, .ref (b + 133)), (1, .int (nI t)), (2, .int (nI p)), (3, .int 93), (4, .int (nI op))]) B d_M_goThrough_60 (by decide) [1, 2, 3, 4, 0] rfl ?_
    refine j_iload_n B d_M_goThrough_62 rfl 3 rfl ?_
    refine j_bipush (v := 41) B d_M_goThrough_63 (by decide) ?_
    refine j_icmp_ne B d_M_goThrough_65 rfl (fun h65 => ?_) (fun h65 => absurd h65 (by decide))
    refine j_aload_n B d_M_goThrough_72 rfl 0 rfl ?_
    refine gf_M_86 B (rG (ix := 0) hl rfl) rfl d_M_goThrough_73 ?_
    refine j_iload B d_M_goThrough_76 4 rfl ?_
    refine j_ialdN B rfl (rG (ix := 26) hl rfl) (by omega) d_M_goThrough_78 ?_
    rw [hL]
    refine j_if_le B d_M_goThrough_79 rfl (fun h79 => absurd h79 (nI_ge (a := 0) (b := L + 1) (by omega) (by omega))) (fun h79 => ?_)
    refine j_aload_n B d_M_goThrough_82 rfl 0 rfl ?_
    refine k_callV (as := []) (rest := []) (st1 := []) B (c_M_again_f hl hdn hd2 hop hL) yf_M_again w_914 w_916 w_s33 rfl (rG (ix := 0) hl rfl) rfl (by decide) (by decide) rfl rfl (Nat.le_of_ble_eq_true rfl) d_M_goThrough_83 ?_
    refine j_iload_n B d_M_goThrough_86 rfl 3 rfl ?_
    refine j_if_ne B d_M_goThrough_87 rfl (fun h87 => ?_) (fun h87 => absurd h87 (by decide))
    refine j_aload_n B d_M_goThrough_94 rfl 0 rfl ?_
    refine gf_M_83 B (rG (ix := 0) hl rfl) rfl d_M_goThrough_95 ?_
    refine j_iload B d_M_goThrough_98 4 rfl ?_
    refine j_ialdN B rfl (rG (ix := 25) hl rfl) (by omega) d_M_goThrough_100 ?_
    rw [hF]
    refine j_istore_n (L' := [(0, .ref (b + 133)), (1, .int (nI t)), (2, .int (nI f)), (3, .int 93), (4, .int (nI op))]) B d_M_goThrough_101 rfl (by decide) [1, 2, 0, 3, 4] rfl ?_
    refine j_goto B d_M_goThrough_102 rfl ?_
    refine jW.sub (L' := [(0, .ref (b + 133)), (1, .int (nI t)), (2, .int (nI f))]) [0, 1, 2] rfl ?_; exact kk
  refine j_iload_n B d_M_goThrough_16 rfl 1 rfl ?_
  refine j_iconst (v := 4) B d_M_goThrough_17 (by decide) ?_
  refine j_icmp_lt B d_M_goThrough_18 rfl (fun h18 => ?_) (fun h18 => ?_)
  · -- 18 jump
    exact jn31 () 
  · -- 18 on
    refine j_iload_n B d_M_goThrough_21 rfl 2 rfl ?_
    refine j_aload_n B d_M_goThrough_22 rfl 0 rfl ?_
    refine gf_M_62 B (rG (ix := 0) hl rfl) rfl d_M_goThrough_23 ?_
    refine j_iconst (v := nI 4) B d_M_goThrough_26 (by decide) ?_
    refine j_ialdN B rfl (rG (ix := 18) hl rfl) (by omega) d_M_goThrough_27 ?_
    refine j_icmp_ge B d_M_goThrough_28 rfl (fun h28 => absurd h28 (h4 (fun q => h18 (nI_lt (b := 4) q (by decide))))) (fun h28 => ?_)
    exact jn31 () 
set_option maxRecDepth 100000 in
set_option maxHeartbeats 4000000 in
theorem g_pop93 {l : Launch} {b : Nat} {D : va_G} {ta : Nat → ClassId} {Γ : jG} {σ : List va_E} (hl : σ.length = 133) {wt : Int32} {F0 : Nat → Int32} {F1 : Nat → Int32} {F2 : Nat → Int32} {HH : Nat → Int32} {kt : Nat → Int32} {kp : Nat → Int32} {a : Nat} {hi : Nat} {tm : Nat} {sN : Nat} {sx : Nat → Int32} {sy : Nat → Int32} {pt : Nat → Int64} {mn : Nat → Int32} {pl : Nat → Int32} {pN : Nat} {px : Nat → Int32} {py : Nat → Int32} {sn : Nat → Int32} {lt : Nat → Int32} {rc : Nat → Int64} {tx : Nat → Int32} {sz : Nat → Int32} {us : Nat → Int32} {D0 : Nat → Int32} {D1 : Nat → Int32} {D2 : Nat → Int32} {qx : Int32} {qy : Int32} {di : Nat} {up : Bool} {dn : Nat} {op : Nat} {gs : Nat → Int32} {t0 : Nat → Int32} {fr : Nat → Int32} {lf : Nat → Int32} {pX : Nat → Int32} {pY : Nat → Int32} {pD : Nat → Int32} {pU : Nat → Int32} {X : List va_E} (B : jB l b D ta Γ "WireFieldModel" b_M_goThrough none 6 (rL 5)) {t p N : Nat} (ht : t < 5) (hz : sz t = nI N) (hN : N ≤ 60) (hp : p ≤ 60) (h4 : ¬ t < 4 → ¬ sz 4 ≤ nI p) (hc : sg (fun i => tx (60 * t + i)) N p = 93) (hop : op < 32) {f t2 : Nat} (hL : lf op = nI 0) (hF : fr op = nI f) (hT : t0 op = nI t2) (kk : jW l b D Γ False 0 0 6 (σ ++ rC b ta wt F0 F1 F2 HH kt kp a hi tm sN sx sy pt mn pl pN px py sn lt rc tx sz us D0 D1 D2 qx qy di up dn false op gs t0 fr lf pX pY pD pU X) [(0, .ref (b + 133)), (1, .int (nI t2)), (2, .int (nI (p + 1)))] 9 []) : jW l b D Γ False 0 0 6 (σ ++ rC b ta wt F0 F1 F2 HH kt kp a hi tm sN sx sy pt mn pl pN px py sn lt rc tx sz us D0 D1 D2 qx qy di up dn false (op + 1) gs t0 fr lf pX pY pD pU X) [(0, .ref (b + 133)), (1, .int (nI t)), (2, .int (nI p))] 9 [] := by
  refine j_aload_n B d_M_goThrough_9 rfl 0 rfl ?_
  refine gf_M_159 B (rG (ix := 0) hl rfl) rfl d_M_goThrough_10 ?_
  refine j_if_ne B d_M_goThrough_13 rfl (fun h13 => absurd rfl h13) (fun h13 => ?_)
  have jn31 : ∀ (_v : Unit), jW l b D Γ False 0 0 6 (σ ++ rC b ta wt F0 F1 F2 HH kt kp a hi tm sN sx sy pt mn pl pN px py sn lt rc tx sz us D0 D1 D2 qx qy di up dn false (op + 1) gs t0 fr lf pX pY pD pU X) [(0, .ref (b + 133)), (1, .int (nI t)), (2, .int (nI p))] 31 [] := by
    intro _v 
    refine j_aload_n B d_M_goThrough_31 rfl 0 rfl ?_
    refine j_iload_n B d_M_goThrough_32 rfl 1 rfl ?_
    refine j_iload_n B d_M_goThrough_33 rfl 2 rfl ?_
    refine k_callV (as := [.int (nI t), .int (nI p)]) (rest := []) (st1 := [.int (sg (fun i => tx (60 * t + i)) N p)]) B (c_M_sign hl (t := t) (N := N) (p := p) ht hz hN (by omega)) yf_M_sign w_885 w_887 w_s29 rfl (rG (ix := 0) hl rfl) rfl (by decide) (by decide) rfl rfl (Nat.le_of_ble_eq_true rfl) d_M_goThrough_34 ?_
    rw [hc]
    refine j_istore_n (L' := [(0, .ref (b + 133)), (1, .int (nI t)), (2, .int (nI p)), (3, .int 93)]) B d_M_goThrough_37 rfl (by decide) [1, 2, 3, 0] rfl ?_
    refine j_iload_n B d_M_goThrough_38 rfl 3 rfl ?_
    refine j_if_eq B d_M_goThrough_39 rfl (fun h39 => absurd h39 (by decide)) (fun h39 => ?_)
    refine j_iload_n B d_M_goThrough_42 rfl 3 rfl ?_
    refine j_bipush (v := 41) B d_M_goThrough_43 (by decide) ?_
    refine j_icmp_eq B d_M_goThrough_45 rfl (fun h45 => absurd h45 (by decide)) (fun h45 => ?_)
    refine j_iload_n B d_M_goThrough_48 rfl 3 rfl ?_
    refine j_bipush (v := 93) B d_M_goThrough_49 (by decide) ?_
    refine j_icmp_ne B d_M_goThrough_51 rfl (fun h51 => absurd rfl h51) (fun h51 => ?_)
    refine j_aload_n B d_M_goThrough_54 rfl 0 rfl ?_
    refine gf_M_196 B (rG (ix := 0) hl rfl) rfl d_M_goThrough_55 ?_
    refine j_iconst (v := 1) B d_M_goThrough_58 (by decide) ?_
    refine j_isubE (v := nI op) B (nI_pred op) d_M_goThrough_59 ?_
    refine j_istore (L' := [(0, .ref (b + 133)), (1, .int (nI t)), (2, .int (nI p)), (3, .int 93), (4, .int (nI op))]) B d_M_goThrough_60 (by decide) [1, 2, 3, 4, 0] rfl ?_
    refine j_iload_n B d_M_goThrough_62 rfl 3 rfl ?_
    refine j_bipush (v := 41) B d_M_goThrough_63 (by decide) ?_
    refine j_icmp_ne B d_M_goThrough_65 rfl (fun h65 => ?_) (fun h65 => absurd h65 (by decide))
    refine j_aload_n B d_M_goThrough_72 rfl 0 rfl ?_
    refine gf_M_86 B (rG (ix := 0) hl rfl) rfl d_M_goThrough_73 ?_
    refine j_iload B d_M_goThrough_76 4 rfl ?_
    refine j_ialdN B rfl (rG (ix := 26) hl rfl) (by omega) d_M_goThrough_78 ?_
    rw [hL]
    refine j_if_le B d_M_goThrough_79 rfl (fun h79 => ?_) (fun h79 => absurd (by decide) h79)
    refine j_aload_n B d_M_goThrough_105 rfl 0 rfl ?_
    refine gf_M_80 B (rG (ix := 0) hl rfl) rfl d_M_goThrough_106 ?_
    refine j_iload B d_M_goThrough_109 4 rfl ?_
    refine j_ialdN B rfl (rG (ix := 24) hl rfl) (by omega) d_M_goThrough_111 ?_
    rw [hT]
    refine j_istore_n (L' := [(0, .ref (b + 133)), (1, .int (nI t2)), (2, .int (nI p)), (3, .int 93), (4, .int (nI op))]) B d_M_goThrough_112 rfl (by decide) [1, 0, 2, 3, 4] rfl ?_
    refine j_iload_n B d_M_goThrough_113 rfl 3 rfl ?_
    refine j_if_ne B d_M_goThrough_114 rfl (fun h114 => ?_) (fun h114 => absurd h114 (by decide))
    refine j_iload_n B d_M_goThrough_127 rfl 2 rfl ?_
    refine j_iconst (v := 1) B d_M_goThrough_128 (by decide) ?_
    refine j_iaddE (v := nI (p + 1)) B (nI_add p 1) d_M_goThrough_129 ?_
    refine j_istore_n (L' := [(0, .ref (b + 133)), (1, .int (nI t2)), (2, .int (nI (p + 1))), (3, .int 93), (4, .int (nI op))]) B d_M_goThrough_130 rfl (by decide) [1, 2, 0, 3, 4] rfl ?_
    refine j_aload_n B d_M_goThrough_131 rfl 0 rfl ?_
    refine j_dup B d_M_goThrough_132 rfl ?_
    refine gf_M_196 B (rG (ix := 0) hl rfl) rfl d_M_goThrough_133 ?_
    refine j_iconst (v := 1) B d_M_goThrough_136 (by decide) ?_
    refine j_isubE (v := nI op) B (nI_pred op) d_M_goThrough_137 ?_
    refine pf_M_196 B not_false (rG (ix := 0) hl rfl) rfl rfl (Nat.le_of_ble_eq_true rfl) d_M_goThrough_138 ?_
    refine jW.heap (σ2 := σ ++ rC b ta wt F0 F1 F2 HH kt kp a hi tm sN sx sy pt mn pl pN px py sn lt rc tx sz us D0 D1 D2 qx qy di up dn false op gs t0 fr lf pX pY pD pU X) (rT (ix := 0) hl rfl) ?_
    refine j_goto B d_M_goThrough_141 rfl ?_
    refine jW.sub (L' := [(0, .ref (b + 133)), (1, .int (nI t2)), (2, .int (nI (p + 1)))]) [0, 1, 2] rfl ?_; exact kk
  refine j_iload_n B d_M_goThrough_16 rfl 1 rfl ?_
  refine j_iconst (v := 4) B d_M_goThrough_17 (by decide) ?_
  refine j_icmp_lt B d_M_goThrough_18 rfl (fun h18 => ?_) (fun h18 => ?_)
  · -- 18 jump
    exact jn31 () 
  · -- 18 on
    refine j_iload_n B d_M_goThrough_21 rfl 2 rfl ?_
    refine j_aload_n B d_M_goThrough_22 rfl 0 rfl ?_
    refine gf_M_62 B (rG (ix := 0) hl rfl) rfl d_M_goThrough_23 ?_
    refine j_iconst (v := nI 4) B d_M_goThrough_26 (by decide) ?_
    refine j_ialdN B rfl (rG (ix := 18) hl rfl) (by omega) d_M_goThrough_27 ?_
    refine j_icmp_ge B d_M_goThrough_28 rfl (fun h28 => absurd h28 (h4 (fun q => h18 (nI_lt (b := 4) q (by decide))))) (fun h28 => ?_)
    exact jn31 () 
set_option maxRecDepth 100000 in
set_option maxHeartbeats 4000000 in
theorem g_again0_t {l : Launch} {b : Nat} {D : va_G} {ta : Nat → ClassId} {Γ : jG} {σ : List va_E} (hl : σ.length = 133) {wt : Int32} {F0 : Nat → Int32} {F1 : Nat → Int32} {F2 : Nat → Int32} {HH : Nat → Int32} {kt : Nat → Int32} {kp : Nat → Int32} {a : Nat} {hi : Nat} {tm : Nat} {sN : Nat} {sx : Nat → Int32} {sy : Nat → Int32} {pt : Nat → Int64} {mn : Nat → Int32} {pl : Nat → Int32} {pN : Nat} {px : Nat → Int32} {py : Nat → Int32} {sn : Nat → Int32} {lt : Nat → Int32} {rc : Nat → Int64} {tx : Nat → Int32} {sz : Nat → Int32} {us : Nat → Int32} {D0 : Nat → Int32} {D1 : Nat → Int32} {D2 : Nat → Int32} {qx : Int32} {qy : Int32} {di : Nat} {up : Bool} {dn : Nat} {op : Nat} {gs : Nat → Int32} {t0 : Nat → Int32} {fr : Nat → Int32} {lf : Nat → Int32} {pX : Nat → Int32} {pY : Nat → Int32} {pD : Nat → Int32} {pU : Nat → Int32} {X : List va_E} (B : jB l b D ta Γ "WireFieldModel" b_M_goThrough none 6 (rL 5)) {t p N : Nat} (ht : t < 5) (hz : sz t = nI N) (hN : N ≤ 60) (hp : p ≤ 60) (h4 : ¬ t < 4 → ¬ sz 4 ≤ nI p) (hc : sg (fun i => tx (60 * t + i)) N p = 0) (hop : op < 32) {L f : Nat} (hL : lf op = nI (L + 1)) (hL9 : L < 100) (hF : fr op = nI f) (hdn : dn < 400) (kk : jW l b D Γ False 0 0 6 (σ ++ rC b ta wt F0 F1 F2 HH kt kp a hi tm sN sx sy pt mn pl pN px py sn lt rc tx sz us D0 D1 D2 qx qy di up (dn + 1) false (op + 1) gs t0 fr (upd lf op (nI L)) (upd pX op qx) (upd pY op qy) (upd pD op (nI di)) (upd pU op (vp_nar .boolean (bI up))) X) [(0, .ref (b + 133)), (1, .int (nI t)), (2, .int (nI 0))] 9 []) : jW l b D Γ False 0 0 6 (σ ++ rC b ta wt F0 F1 F2 HH kt kp a hi tm sN sx sy pt mn pl pN px py sn lt rc tx sz us D0 D1 D2 qx qy di up dn false (op + 1) gs t0 fr lf pX pY pD pU X) [(0, .ref (b + 133)), (1, .int (nI t)), (2, .int (nI p))] 9 [] := by
  refine j_aload_n B d_M_goThrough_9 rfl 0 rfl ?_
  refine gf_M_159 B (rG (ix := 0) hl rfl) rfl d_M_goThrough_10 ?_
  refine j_if_ne B d_M_goThrough_13 rfl (fun h13 => absurd rfl h13) (fun h13 => ?_)
  have jn31 : ∀ (_v : Unit), jW l b D Γ False 0 0 6 (σ ++ rC b ta wt F0 F1 F2 HH kt kp a hi tm sN sx sy pt mn pl pN px py sn lt rc tx sz us D0 D1 D2 qx qy di up dn false (op + 1) gs t0 fr lf pX pY pD pU X) [(0, .ref (b + 133)), (1, .int (nI t)), (2, .int (nI p))] 31 [] := by
    intro _v 
    refine j_aload_n B d_M_goThrough_31 rfl 0 rfl ?_
    refine j_iload_n B d_M_goThrough_32 rfl 1 rfl ?_
    refine j_iload_n B d_M_goThrough_33 rfl 2 rfl ?_
    refine k_callV (as := [.int (nI t), .int (nI p)]) (rest := []) (st1 := [.int (sg (fun i => tx (60 * t + i)) N p)]) B (c_M_sign hl (t := t) (N := N) (p := p) ht hz hN (by omega)) yf_M_sign w_885 w_887 w_s29 rfl (rG (ix := 0) hl rfl) rfl (by decide) (by decide) rfl rfl (Nat.le_of_ble_eq_true rfl) d_M_goThrough_34 ?_
    rw [hc]
    refine j_istore_n (L' := [(0, .ref (b + 133)), (1, .int (nI t)), (2, .int (nI p)), (3, .int 0)]) B d_M_goThrough_37 rfl (by decide) [1, 2, 3, 0] rfl ?_
    refine j_iload_n B d_M_goThrough_38 rfl 3 rfl ?_
    refine j_if_eq B d_M_goThrough_39 rfl (fun h39 => ?_) (fun h39 => absurd rfl h39)
    refine j_aload_n B d_M_goThrough_54 rfl 0 rfl ?_
    refine gf_M_196 B (rG (ix := 0) hl rfl) rfl d_M_goThrough_55 ?_
    refine j_iconst (v := 1) B d_M_goThrough_58 (by decide) ?_
    refine j_isubE (v := nI op) B (nI_pred op) d_M_goThrough_59 ?_
    refine j_istore (L' := [(0, .ref (b + 133)), (1, .int (nI t)), (2, .int (nI p)), (3, .int 0), (4, .int (nI op))]) B d_M_goThrough_60 (by decide) [1, 2, 3, 4, 0] rfl ?_
    refine j_iload_n B d_M_goThrough_62 rfl 3 rfl ?_
    refine j_bipush (v := 41) B d_M_goThrough_63 (by decide) ?_
    refine j_icmp_ne B d_M_goThrough_65 rfl (fun h65 => ?_) (fun h65 => absurd h65 (by decide))
    refine j_aload_n B d_M_goThrough_72 rfl 0 rfl ?_
    refine gf_M_86 B (rG (ix := 0) hl rfl) rfl d_M_goThrough_73 ?_
    refine j_iload B d_M_goThrough_76 4 rfl ?_
    refine j_ialdN B rfl (rG (ix := 26) hl rfl) (by omega) d_M_goThrough_78 ?_
    rw [hL]
    refine j_if_le B d_M_goThrough_79 rfl (fun h79 => absurd h79 (nI_ge (a := 0) (b := L + 1) (by omega) (by omega))) (fun h79 => ?_)
    refine j_aload_n B d_M_goThrough_82 rfl 0 rfl ?_
    refine k_callV (as := []) (rest := []) (st1 := []) B (c_M_again_t hl hdn hop hL) yf_M_again w_914 w_916 w_s33 rfl (rG (ix := 0) hl rfl) rfl (by decide) (by decide) rfl rfl (Nat.le_of_ble_eq_true rfl) d_M_goThrough_83 ?_
    refine j_iload_n B d_M_goThrough_86 rfl 3 rfl ?_
    refine j_if_ne B d_M_goThrough_87 rfl (fun h87 => absurd rfl h87) (fun h87 => ?_)
    refine j_iconst (v := nI 0) B d_M_goThrough_90 (by decide) ?_
    refine j_goto B d_M_goThrough_91 rfl ?_
    refine j_istore_n (L' := [(0, .ref (b + 133)), (1, .int (nI t)), (2, .int (nI 0)), (3, .int 0), (4, .int (nI op))]) B d_M_goThrough_101 rfl (by decide) [1, 2, 0, 3, 4] rfl ?_
    refine j_goto B d_M_goThrough_102 rfl ?_
    refine jW.sub (L' := [(0, .ref (b + 133)), (1, .int (nI t)), (2, .int (nI 0))]) [0, 1, 2] rfl ?_; exact kk
  refine j_iload_n B d_M_goThrough_16 rfl 1 rfl ?_
  refine j_iconst (v := 4) B d_M_goThrough_17 (by decide) ?_
  refine j_icmp_lt B d_M_goThrough_18 rfl (fun h18 => ?_) (fun h18 => ?_)
  · -- 18 jump
    exact jn31 () 
  · -- 18 on
    refine j_iload_n B d_M_goThrough_21 rfl 2 rfl ?_
    refine j_aload_n B d_M_goThrough_22 rfl 0 rfl ?_
    refine gf_M_62 B (rG (ix := 0) hl rfl) rfl d_M_goThrough_23 ?_
    refine j_iconst (v := nI 4) B d_M_goThrough_26 (by decide) ?_
    refine j_ialdN B rfl (rG (ix := 18) hl rfl) (by omega) d_M_goThrough_27 ?_
    refine j_icmp_ge B d_M_goThrough_28 rfl (fun h28 => absurd h28 (h4 (fun q => h18 (nI_lt (b := 4) q (by decide))))) (fun h28 => ?_)
    exact jn31 () 
set_option maxRecDepth 100000 in
set_option maxHeartbeats 4000000 in
theorem g_again0_f {l : Launch} {b : Nat} {D : va_G} {ta : Nat → ClassId} {Γ : jG} {σ : List va_E} (hl : σ.length = 133) {wt : Int32} {F0 : Nat → Int32} {F1 : Nat → Int32} {F2 : Nat → Int32} {HH : Nat → Int32} {kt : Nat → Int32} {kp : Nat → Int32} {a : Nat} {hi : Nat} {tm : Nat} {sN : Nat} {sx : Nat → Int32} {sy : Nat → Int32} {pt : Nat → Int64} {mn : Nat → Int32} {pl : Nat → Int32} {pN : Nat} {px : Nat → Int32} {py : Nat → Int32} {sn : Nat → Int32} {lt : Nat → Int32} {rc : Nat → Int64} {tx : Nat → Int32} {sz : Nat → Int32} {us : Nat → Int32} {D0 : Nat → Int32} {D1 : Nat → Int32} {D2 : Nat → Int32} {qx : Int32} {qy : Int32} {di : Nat} {up : Bool} {dn : Nat} {op : Nat} {gs : Nat → Int32} {t0 : Nat → Int32} {fr : Nat → Int32} {lf : Nat → Int32} {pX : Nat → Int32} {pY : Nat → Int32} {pD : Nat → Int32} {pU : Nat → Int32} {X : List va_E} (B : jB l b D ta Γ "WireFieldModel" b_M_goThrough none 6 (rL 5)) {t p N : Nat} (ht : t < 5) (hz : sz t = nI N) (hN : N ≤ 60) (hp : p ≤ 60) (h4 : ¬ t < 4 → ¬ sz 4 ≤ nI p) (hc : sg (fun i => tx (60 * t + i)) N p = 0) (hop : op < 32) {L f : Nat} (hL : lf op = nI (L + 1)) (hL9 : L < 100) (hF : fr op = nI f) (hdn : 400 ≤ dn) (hd2 : dn < 2 ^ 20) (kk : jW l b D Γ False 0 0 6 (σ ++ rC b ta wt F0 F1 F2 HH kt kp a hi tm sN sx sy pt mn pl pN px py sn lt rc tx sz us D0 D1 D2 qx qy di up (dn + 1) true (op + 1) gs t0 fr (upd lf op (nI L)) (upd pX op qx) (upd pY op qy) (upd pD op (nI di)) (upd pU op (vp_nar .boolean (bI up))) X) [(0, .ref (b + 133)), (1, .int (nI t)), (2, .int (nI 0))] 9 []) : jW l b D Γ False 0 0 6 (σ ++ rC b ta wt F0 F1 F2 HH kt kp a hi tm sN sx sy pt mn pl pN px py sn lt rc tx sz us D0 D1 D2 qx qy di up dn false (op + 1) gs t0 fr lf pX pY pD pU X) [(0, .ref (b + 133)), (1, .int (nI t)), (2, .int (nI p))] 9 [] := by
  refine j_aload_n B d_M_goThrough_9 rfl 0 rfl ?_
  refine gf_M_159 B (rG (ix := 0) hl rfl) rfl d_M_goThrough_10 ?_
  refine j_if_ne B d_M_goThrough_13 rfl (fun h13 => absurd rfl h13) (fun h13 => ?_)
  have jn31 : ∀ (_v : Unit), jW l b D Γ False 0 0 6 (σ ++ rC b ta wt F0 F1 F2 HH kt kp a hi tm sN sx sy pt mn pl pN px py sn lt rc tx sz us D0 D1 D2 qx qy di up dn false (op + 1) gs t0 fr lf pX pY pD pU X) [(0, .ref (b + 133)), (1, .int (nI t)), (2, .int (nI p))] 31 [] := by
    intro _v 
    refine j_aload_n B d_M_goThrough_31 rfl 0 rfl ?_
    refine j_iload_n B d_M_goThrough_32 rfl 1 rfl ?_
    refine j_iload_n B d_M_goThrough_33 rfl 2 rfl ?_
    refine k_callV (as := [.int (nI t), .int (nI p)]) (rest := []) (st1 := [.int (sg (fun i => tx (60 * t + i)) N p)]) B (c_M_sign hl (t := t) (N := N) (p := p) ht hz hN (by omega)) yf_M_sign w_885 w_887 w_s29 rfl (rG (ix := 0) hl rfl) rfl (by decide) (by decide) rfl rfl (Nat.le_of_ble_eq_true rfl) d_M_goThrough_34 ?_
    rw [hc]
    refine j_istore_n (L' := [(0, .ref (b + 133)), (1, .int (nI t)), (2, .int (nI p)), (3, .int 0)]) B d_M_goThrough_37 rfl (by decide) [1, 2, 3, 0] rfl ?_
    refine j_iload_n B d_M_goThrough_38 rfl 3 rfl ?_
    refine j_if_eq B d_M_goThrough_39 rfl (fun h39 => ?_) (fun h39 => absurd rfl h39)
    refine j_aload_n B d_M_goThrough_54 rfl 0 rfl ?_
    refine gf_M_196 B (rG (ix := 0) hl rfl) rfl d_M_goThrough_55 ?_
    refine j_iconst (v := 1) B d_M_goThrough_58 (by decide) ?_
    refine j_isubE (v := nI op) B (nI_pred op) d_M_goThrough_59 ?_
    refine j_istore (L' := [(0, .ref (b + 133)), (1, .int (nI t)), (2, .int (nI p)), (3, .int 0), (4, .int (nI op))]) B d_M_goThrough_60 (by decide) [1, 2, 3, 4, 0] rfl ?_
    refine j_iload_n B d_M_goThrough_62 rfl 3 rfl ?_
    refine j_bipush (v := 41) B d_M_goThrough_63 (by decide) ?_
    refine j_icmp_ne B d_M_goThrough_65 rfl (fun h65 => ?_) (fun h65 => absurd h65 (by decide))
    refine j_aload_n B d_M_goThrough_72 rfl 0 rfl ?_
    refine gf_M_86 B (rG (ix := 0) hl rfl) rfl d_M_goThrough_73 ?_
    refine j_iload B d_M_goThrough_76 4 rfl ?_
    refine j_ialdN B rfl (rG (ix := 26) hl rfl) (by omega) d_M_goThrough_78 ?_
    rw [hL]
    refine j_if_le B d_M_goThrough_79 rfl (fun h79 => absurd h79 (nI_ge (a := 0) (b := L + 1) (by omega) (by omega))) (fun h79 => ?_)
    refine j_aload_n B d_M_goThrough_82 rfl 0 rfl ?_
    refine k_callV (as := []) (rest := []) (st1 := []) B (c_M_again_f hl hdn hd2 hop hL) yf_M_again w_914 w_916 w_s33 rfl (rG (ix := 0) hl rfl) rfl (by decide) (by decide) rfl rfl (Nat.le_of_ble_eq_true rfl) d_M_goThrough_83 ?_
    refine j_iload_n B d_M_goThrough_86 rfl 3 rfl ?_
    refine j_if_ne B d_M_goThrough_87 rfl (fun h87 => absurd rfl h87) (fun h87 => ?_)
    refine j_iconst (v := nI 0) B d_M_goThrough_90 (by decide) ?_
    refine j_goto B d_M_goThrough_91 rfl ?_
    refine j_istore_n (L' := [(0, .ref (b + 133)), (1, .int (nI t)), (2, .int (nI 0)), (3, .int 0), (4, .int (nI op))]) B d_M_goThrough_101 rfl (by decide) [1, 2, 0, 3, 4] rfl ?_
    refine j_goto B d_M_goThrough_102 rfl ?_
    refine jW.sub (L' := [(0, .ref (b + 133)), (1, .int (nI t)), (2, .int (nI 0))]) [0, 1, 2] rfl ?_; exact kk
  refine j_iload_n B d_M_goThrough_16 rfl 1 rfl ?_
  refine j_iconst (v := 4) B d_M_goThrough_17 (by decide) ?_
  refine j_icmp_lt B d_M_goThrough_18 rfl (fun h18 => ?_) (fun h18 => ?_)
  · -- 18 jump
    exact jn31 () 
  · -- 18 on
    refine j_iload_n B d_M_goThrough_21 rfl 2 rfl ?_
    refine j_aload_n B d_M_goThrough_22 rfl 0 rfl ?_
    refine gf_M_62 B (rG (ix := 0) hl rfl) rfl d_M_goThrough_23 ?_
    refine j_iconst (v := nI 4) B d_M_goThrough_26 (by decide) ?_
    refine j_ialdN B rfl (rG (ix := 18) hl rfl) (by omega) d_M_goThrough_27 ?_
    refine j_icmp_ge B d_M_goThrough_28 rfl (fun h28 => absurd h28 (h4 (fun q => h18 (nI_lt (b := 4) q (by decide))))) (fun h28 => ?_)
    exact jn31 () 
set_option maxRecDepth 100000 in
set_option maxHeartbeats 4000000 in
theorem g_pop0 {l : Launch} {b : Nat} {D : va_G} {ta : Nat → ClassId} {Γ : jG} {σ : List va_E} (hl : σ.length = 133) {wt : Int32} {F0 : Nat → Int32} {F1 : Nat → Int32} {F2 : Nat → Int32} {HH : Nat → Int32} {kt : Nat → Int32} {kp : Nat → Int32} {a : Nat} {hi : Nat} {tm : Nat} {sN : Nat} {sx : Nat → Int32} {sy : Nat → Int32} {pt : Nat → Int64} {mn : Nat → Int32} {pl : Nat → Int32} {pN : Nat} {px : Nat → Int32} {py : Nat → Int32} {sn : Nat → Int32} {lt : Nat → Int32} {rc : Nat → Int64} {tx : Nat → Int32} {sz : Nat → Int32} {us : Nat → Int32} {D0 : Nat → Int32} {D1 : Nat → Int32} {D2 : Nat → Int32} {qx : Int32} {qy : Int32} {di : Nat} {up : Bool} {dn : Nat} {op : Nat} {gs : Nat → Int32} {t0 : Nat → Int32} {fr : Nat → Int32} {lf : Nat → Int32} {pX : Nat → Int32} {pY : Nat → Int32} {pD : Nat → Int32} {pU : Nat → Int32} {X : List va_E} (B : jB l b D ta Γ "WireFieldModel" b_M_goThrough none 6 (rL 5)) {t p N : Nat} (ht : t < 5) (hz : sz t = nI N) (hN : N ≤ 60) (hp : p ≤ 60) (h4 : ¬ t < 4 → ¬ sz 4 ≤ nI p) (hc : sg (fun i => tx (60 * t + i)) N p = 0) (hop : op < 32) {f t2 : Nat} (hL : lf op = nI 0) (hF : fr op = nI f) (hT : t0 op = nI t2) (kk : jW l b D Γ False 0 0 6 (σ ++ rC b ta wt F0 F1 F2 HH kt kp a hi tm sN sx sy pt mn pl pN px py sn lt rc tx sz us D0 D1 D2 qx qy di up dn false op gs t0 fr lf pX pY pD pU X) [(0, .ref (b + 133)), (1, .int (nI t2)), (2, .int (nI f))] 9 []) : jW l b D Γ False 0 0 6 (σ ++ rC b ta wt F0 F1 F2 HH kt kp a hi tm sN sx sy pt mn pl pN px py sn lt rc tx sz us D0 D1 D2 qx qy di up dn false (op + 1) gs t0 fr lf pX pY pD pU X) [(0, .ref (b + 133)), (1, .int (nI t)), (2, .int (nI p))] 9 [] := by
  refine j_aload_n B d_M_goThrough_9 rfl 0 rfl ?_
  refine gf_M_159 B (rG (ix := 0) hl rfl) rfl d_M_goThrough_10 ?_
  refine j_if_ne B d_M_goThrough_13 rfl (fun h13 => absurd rfl h13) (fun h13 => ?_)
  have jn31 : ∀ (_v : Unit), jW l b D Γ False 0 0 6 (σ ++ rC b ta wt F0 F1 F2 HH kt kp a hi tm sN sx sy pt mn pl pN px py sn lt rc tx sz us D0 D1 D2 qx qy di up dn false (op + 1) gs t0 fr lf pX pY pD pU X) [(0, .ref (b + 133)), (1, .int (nI t)), (2, .int (nI p))] 31 [] := by
    intro _v 
    refine j_aload_n B d_M_goThrough_31 rfl 0 rfl ?_
    refine j_iload_n B d_M_goThrough_32 rfl 1 rfl ?_
    refine j_iload_n B d_M_goThrough_33 rfl 2 rfl ?_
    refine k_callV (as := [.int (nI t), .int (nI p)]) (rest := []) (st1 := [.int (sg (fun i => tx (60 * t + i)) N p)]) B (c_M_sign hl (t := t) (N := N) (p := p) ht hz hN (by omega)) yf_M_sign w_885 w_887 w_s29 rfl (rG (ix := 0) hl rfl) rfl (by decide) (by decide) rfl rfl (Nat.le_of_ble_eq_true rfl) d_M_goThrough_34 ?_
    rw [hc]
    refine j_istore_n (L' := [(0, .ref (b + 133)), (1, .int (nI t)), (2, .int (nI p)), (3, .int 0)]) B d_M_goThrough_37 rfl (by decide) [1, 2, 3, 0] rfl ?_
    refine j_iload_n B d_M_goThrough_38 rfl 3 rfl ?_
    refine j_if_eq B d_M_goThrough_39 rfl (fun h39 => ?_) (fun h39 => absurd rfl h39)
    refine j_aload_n B d_M_goThrough_54 rfl 0 rfl ?_
    refine gf_M_196 B (rG (ix := 0) hl rfl) rfl d_M_goThrough_55 ?_
    refine j_iconst (v := 1) B d_M_goThrough_58 (by decide) ?_
    refine j_isubE (v := nI op) B (nI_pred op) d_M_goThrough_59 ?_
    refine j_istore (L' := [(0, .ref (b + 133)), (1, .int (nI t)), (2, .int (nI p)), (3, .int 0), (4, .int (nI op))]) B d_M_goThrough_60 (by decide) [1, 2, 3, 4, 0] rfl ?_
    refine j_iload_n B d_M_goThrough_62 rfl 3 rfl ?_
    refine j_bipush (v := 41) B d_M_goThrough_63 (by decide) ?_
    refine j_icmp_ne B d_M_goThrough_65 rfl (fun h65 => ?_) (fun h65 => absurd h65 (by decide))
    refine j_aload_n B d_M_goThrough_72 rfl 0 rfl ?_
    refine gf_M_86 B (rG (ix := 0) hl rfl) rfl d_M_goThrough_73 ?_
    refine j_iload B d_M_goThrough_76 4 rfl ?_
    refine j_ialdN B rfl (rG (ix := 26) hl rfl) (by omega) d_M_goThrough_78 ?_
    rw [hL]
    refine j_if_le B d_M_goThrough_79 rfl (fun h79 => ?_) (fun h79 => absurd (by decide) h79)
    refine j_aload_n B d_M_goThrough_105 rfl 0 rfl ?_
    refine gf_M_80 B (rG (ix := 0) hl rfl) rfl d_M_goThrough_106 ?_
    refine j_iload B d_M_goThrough_109 4 rfl ?_
    refine j_ialdN B rfl (rG (ix := 24) hl rfl) (by omega) d_M_goThrough_111 ?_
    rw [hT]
    refine j_istore_n (L' := [(0, .ref (b + 133)), (1, .int (nI t2)), (2, .int (nI p)), (3, .int 0), (4, .int (nI op))]) B d_M_goThrough_112 rfl (by decide) [1, 0, 2, 3, 4] rfl ?_
    refine j_iload_n B d_M_goThrough_113 rfl 3 rfl ?_
    refine j_if_ne B d_M_goThrough_114 rfl (fun h114 => absurd rfl h114) (fun h114 => ?_)
    refine j_aload_n B d_M_goThrough_117 rfl 0 rfl ?_
    refine gf_M_83 B (rG (ix := 0) hl rfl) rfl d_M_goThrough_118 ?_
    refine j_iload B d_M_goThrough_121 4 rfl ?_
    refine j_ialdN B rfl (rG (ix := 25) hl rfl) (by omega) d_M_goThrough_123 ?_
    refine j_goto B d_M_goThrough_124 rfl ?_
    rw [hF]
    refine j_istore_n (L' := [(0, .ref (b + 133)), (1, .int (nI t2)), (2, .int (nI f)), (3, .int 0), (4, .int (nI op))]) B d_M_goThrough_130 rfl (by decide) [1, 2, 0, 3, 4] rfl ?_
    refine j_aload_n B d_M_goThrough_131 rfl 0 rfl ?_
    refine j_dup B d_M_goThrough_132 rfl ?_
    refine gf_M_196 B (rG (ix := 0) hl rfl) rfl d_M_goThrough_133 ?_
    refine j_iconst (v := 1) B d_M_goThrough_136 (by decide) ?_
    refine j_isubE (v := nI op) B (nI_pred op) d_M_goThrough_137 ?_
    refine pf_M_196 B not_false (rG (ix := 0) hl rfl) rfl rfl (Nat.le_of_ble_eq_true rfl) d_M_goThrough_138 ?_
    refine jW.heap (σ2 := σ ++ rC b ta wt F0 F1 F2 HH kt kp a hi tm sN sx sy pt mn pl pN px py sn lt rc tx sz us D0 D1 D2 qx qy di up dn false op gs t0 fr lf pX pY pD pU X) (rT (ix := 0) hl rfl) ?_
    refine j_goto B d_M_goThrough_141 rfl ?_
    refine jW.sub (L' := [(0, .ref (b + 133)), (1, .int (nI t2)), (2, .int (nI f))]) [0, 1, 2] rfl ?_; exact kk
  refine j_iload_n B d_M_goThrough_16 rfl 1 rfl ?_
  refine j_iconst (v := 4) B d_M_goThrough_17 (by decide) ?_
  refine j_icmp_lt B d_M_goThrough_18 rfl (fun h18 => ?_) (fun h18 => ?_)
  · -- 18 jump
    exact jn31 () 
  · -- 18 on
    refine j_iload_n B d_M_goThrough_21 rfl 2 rfl ?_
    refine j_aload_n B d_M_goThrough_22 rfl 0 rfl ?_
    refine gf_M_62 B (rG (ix := 0) hl rfl) rfl d_M_goThrough_23 ?_
    refine j_iconst (v := nI 4) B d_M_goThrough_26 (by decide) ?_
    refine j_ialdN B rfl (rG (ix := 18) hl rfl) (by omega) d_M_goThrough_27 ?_
    refine j_icmp_ge B d_M_goThrough_28 rfl (fun h28 => absurd h28 (h4 (fun q => h18 (nI_lt (b := 4) q (by decide))))) (fun h28 => ?_)
    exact jn31 () 
set_option maxRecDepth 100000 in
set_option maxHeartbeats 4000000 in
theorem g_head {l : Launch} {b : Nat} {D : va_G} {ta : Nat → ClassId} {Γ : jG} {σ : List va_E} (hl : σ.length = 133) {wt : Int32} {F0 : Nat → Int32} {F1 : Nat → Int32} {F2 : Nat → Int32} {HH : Nat → Int32} {kt : Nat → Int32} {kp : Nat → Int32} {a : Nat} {hi : Nat} {tm : Nat} {sN : Nat} {sx : Nat → Int32} {sy : Nat → Int32} {pt : Nat → Int64} {mn : Nat → Int32} {pl : Nat → Int32} {pN : Nat} {px : Nat → Int32} {py : Nat → Int32} {sn : Nat → Int32} {lt : Nat → Int32} {rc : Nat → Int64} {tx : Nat → Int32} {sz : Nat → Int32} {us : Nat → Int32} {D0 : Nat → Int32} {D1 : Nat → Int32} {D2 : Nat → Int32} {qx : Int32} {qy : Int32} {di : Nat} {up : Bool} {dn : Nat} {op : Nat} {gs : Nat → Int32} {t0 : Nat → Int32} {fr : Nat → Int32} {lf : Nat → Int32} {pX : Nat → Int32} {pY : Nat → Int32} {pD : Nat → Int32} {pU : Nat → Int32} {X : List va_E} (B : jB l b D ta Γ "WireFieldModel" b_M_goThrough none 6 (rL 5)) {t p N : Nat} (ht : t < 5) (hz : sz t = nI N) (hN : N ≤ 60) (hp : p ≤ 60) (h4 : ¬ t < 4 → ¬ sz 4 ≤ nI p) (n0 : ¬ sg (fun i => tx (60 * t + i)) N p = 0) (n1 : ¬ sg (fun i => tx (60 * t + i)) N p = 41) (n2 : ¬ sg (fun i => tx (60 * t + i)) N p = 93) (hnd : dg (sg (fun i => tx (60 * t + i)) N (p + dgA (fun i => tx (60 * t + i)) N p)) = false) (kk : jW l b D Γ False 0 0 6 (σ ++ rC b ta wt F0 F1 F2 HH kt kp a hi tm sN sx sy pt mn pl pN px py sn lt rc tx sz us D0 D1 D2 qx qy di up dn false op gs t0 fr lf pX pY pD pU X) [(0, .ref (b + 133)), (1, .int (nI t)), (2, .int (nI (p + dgA (fun i => tx (60 * t + i)) N p))), (3, .int (sg (fun i => tx (60 * t + i)) N (p + dgA (fun i => tx (60 * t + i)) N p))), (4, .int (nI (tmN (fun i => tx (60 * t + i)) N p)))] 199 []) : jW l b D Γ False 0 0 6 (σ ++ rC b ta wt F0 F1 F2 HH kt kp a hi tm sN sx sy pt mn pl pN px py sn lt rc tx sz us D0 D1 D2 qx qy di up dn false op gs t0 fr lf pX pY pD pU X) [(0, .ref (b + 133)), (1, .int (nI t)), (2, .int (nI p))] 9 [] := by
  refine j_aload_n B d_M_goThrough_9 rfl 0 rfl ?_
  refine gf_M_159 B (rG (ix := 0) hl rfl) rfl d_M_goThrough_10 ?_
  refine j_if_ne B d_M_goThrough_13 rfl (fun h13 => absurd rfl h13) (fun h13 => ?_)
  have jn31 : ∀ (_v : Unit), jW l b D Γ False 0 0 6 (σ ++ rC b ta wt F0 F1 F2 HH kt kp a hi tm sN sx sy pt mn pl pN px py sn lt rc tx sz us D0 D1 D2 qx qy di up dn false op gs t0 fr lf pX pY pD pU X) [(0, .ref (b + 133)), (1, .int (nI t)), (2, .int (nI p))] 31 [] := by
    intro _v 
    refine j_aload_n B d_M_goThrough_31 rfl 0 rfl ?_
    refine j_iload_n B d_M_goThrough_32 rfl 1 rfl ?_
    refine j_iload_n B d_M_goThrough_33 rfl 2 rfl ?_
    refine k_callV (as := [.int (nI t), .int (nI p)]) (rest := []) (st1 := [.int (sg (fun i => tx (60 * t + i)) N p)]) B (c_M_sign hl (t := t) (N := N) (p := p) ht hz hN (by omega)) yf_M_sign w_885 w_887 w_s29 rfl (rG (ix := 0) hl rfl) rfl (by decide) (by decide) rfl rfl (Nat.le_of_ble_eq_true rfl) d_M_goThrough_34 ?_
    refine j_istore_n (L' := [(0, .ref (b + 133)), (1, .int (nI t)), (2, .int (nI p)), (3, .int (sg (fun i => tx (60 * t + i)) N p))]) B d_M_goThrough_37 rfl (by decide) [1, 2, 3, 0] rfl ?_
    refine j_iload_n B d_M_goThrough_38 rfl 3 rfl ?_
    refine j_if_eq B d_M_goThrough_39 rfl (fun h39 => absurd h39 n0) (fun h39 => ?_)
    refine j_iload_n B d_M_goThrough_42 rfl 3 rfl ?_
    refine j_bipush (v := 41) B d_M_goThrough_43 (by decide) ?_
    refine j_icmp_eq B d_M_goThrough_45 rfl (fun h45 => absurd h45 n1) (fun h45 => ?_)
    refine j_iload_n B d_M_goThrough_48 rfl 3 rfl ?_
    refine j_bipush (v := 93) B d_M_goThrough_49 (by decide) ?_
    refine j_icmp_ne B d_M_goThrough_51 rfl (fun h51 => ?_) (fun h51 => absurd h51 n2)
    refine j_iconst (v := nI 1) B d_M_goThrough_144 (by decide) ?_
    refine j_istore (L' := [(0, .ref (b + 133)), (1, .int (nI t)), (2, .int (nI p)), (3, .int (sg (fun i => tx (60 * t + i)) N p)), (4, .int (nI 1))]) B d_M_goThrough_145 (by decide) [1, 2, 3, 4, 0] rfl ?_
    refine j_iload_n B d_M_goThrough_147 rfl 3 rfl ?_
    refine k_callS (as := [.int (sg (fun i => tx (60 * t + i)) N p)]) (rest := []) (st1 := [.int (bI (dg (sg (fun i => tx (60 * t + i)) N p)))]) B (c_M_digit (sg (fun i => tx (60 * t + i)) N p)) yf_M_digit w_889 w_890 rfl (by decide) (by decide) rfl rfl (Nat.le_of_ble_eq_true rfl) d_M_goThrough_148 ?_
    refine j_if_eq B d_M_goThrough_151 rfl (fun h151 => ?_) (fun h151 => ?_)
    · -- 151 jump
      replace h151 := bI_f h151
      rw [dgA_0 h151, tm_0 h151] at kk
      exact kk
    · -- 151 on
      replace h151 := bI_t h151
      obtain ⟨z, hz1, ez1⟩ := dg_nI h151
      refine j_iconst (v := nI 0) B d_M_goThrough_154 (by decide) ?_
      refine j_istore (L' := [(0, .ref (b + 133)), (1, .int (nI t)), (2, .int (nI p)), (3, .int (sg (fun i => tx (60 * t + i)) N p)), (4, .int (nI 0))]) B d_M_goThrough_155 (by decide) [1, 2, 3, 4, 0] rfl ?_
      refine j_aload_n B d_M_goThrough_157 rfl 0 rfl ?_
      refine j_iload_n B d_M_goThrough_158 rfl 1 rfl ?_
      refine j_iload_n B d_M_goThrough_159 rfl 2 rfl ?_
      refine k_callV (as := [.int (nI t), .int (nI p)]) (rest := []) (st1 := [.int (sg (fun i => tx (60 * t + i)) N p)]) B (c_M_sign hl (t := t) (N := N) (p := p) ht hz hN (by omega)) yf_M_sign w_885 w_887 w_s29 rfl (rG (ix := 0) hl rfl) rfl (by decide) (by decide) rfl rfl (Nat.le_of_ble_eq_true rfl) d_M_goThrough_160 ?_
      refine k_callS (as := [.int (sg (fun i => tx (60 * t + i)) N p)]) (rest := []) (st1 := [.int (bI (dg (sg (fun i => tx (60 * t + i)) N p)))]) B (c_M_digit (sg (fun i => tx (60 * t + i)) N p)) yf_M_digit w_889 w_890 rfl (by decide) (by decide) rfl rfl (Nat.le_of_ble_eq_true rfl) d_M_goThrough_163 ?_
      refine j_if_eq B d_M_goThrough_166 rfl (fun h166 => absurd (bI_f h166) (by rw [h151]; decide)) (fun h166 => ?_)
      refine j_bipush (v := 10) B d_M_goThrough_169 (by decide) ?_
      refine j_iload B d_M_goThrough_171 4 rfl ?_
      refine j_imulE (v := nI (10 * 0)) B (pk_mul 10 0) d_M_goThrough_173 ?_
      refine j_aload_n B d_M_goThrough_174 rfl 0 rfl ?_
      refine j_iload_n B d_M_goThrough_175 rfl 1 rfl ?_
      refine j_iload_n B d_M_goThrough_176 rfl 2 rfl ?_
      refine k_callV (as := [.int (nI t), .int (nI p)]) (rest := [.int (nI (10 * 0))]) (st1 := [.int (sg (fun i => tx (60 * t + i)) N p), .int (nI (10 * 0))]) B (c_M_sign hl (t := t) (N := N) (p := p) ht hz hN (by omega)) yf_M_sign w_885 w_887 w_s29 rfl (rG (ix := 0) hl rfl) rfl (by decide) (by decide) rfl rfl (Nat.le_of_ble_eq_true rfl) d_M_goThrough_177 ?_
      refine j_iadd B d_M_goThrough_180 ?_
      refine j_bipush (v := 48) B d_M_goThrough_181 (by decide) ?_
      refine j_isubE (v := nI (10 * 0 + z)) B (tm_add ez1) d_M_goThrough_183 ?_
      refine j_istore (L' := [(0, .ref (b + 133)), (1, .int (nI t)), (2, .int (nI p)), (3, .int (sg (fun i => tx (60 * t + i)) N p)), (4, .int (nI (10 * 0 + z)))]) B d_M_goThrough_184 (by decide) [1, 2, 3, 4, 0] rfl ?_
      refine j_iinc (L' := [(0, .ref (b + 133)), (1, .int (nI t)), (2, .int (nI (p + 1))), (3, .int (sg (fun i => tx (60 * t + i)) N p)), (4, .int (nI (10 * 0 + z)))]) (v := nI (p + 1)) B d_M_goThrough_186 (k := 2) rfl (nI_succ p).symm (by decide) [1, 2, 0, 3, 4] rfl ?_
      refine j_goto B d_M_goThrough_189 rfl ?_
      refine j_aload_n B d_M_goThrough_157 rfl 0 rfl ?_
      refine j_iload_n B d_M_goThrough_158 rfl 1 rfl ?_
      refine j_iload_n B d_M_goThrough_159 rfl 2 rfl ?_
      refine k_callV (as := [.int (nI t), .int (nI (p + 1))]) (rest := []) (st1 := [.int (sg (fun i => tx (60 * t + i)) N (p + 1))]) B (c_M_sign hl (t := t) (N := N) (p := (p + 1)) ht hz hN (by omega)) yf_M_sign w_885 w_887 w_s29 rfl (rG (ix := 0) hl rfl) rfl (by decide) (by decide) rfl rfl (Nat.le_of_ble_eq_true rfl) d_M_goThrough_160 ?_
      refine k_callS (as := [.int (sg (fun i => tx (60 * t + i)) N (p + 1))]) (rest := []) (st1 := [.int (bI (dg (sg (fun i => tx (60 * t + i)) N (p + 1))))]) B (c_M_digit (sg (fun i => tx (60 * t + i)) N (p + 1))) yf_M_digit w_889 w_890 rfl (by decide) (by decide) rfl rfl (Nat.le_of_ble_eq_true rfl) d_M_goThrough_163 ?_
      refine j_if_eq B d_M_goThrough_166 rfl (fun h166 => ?_) (fun h166 => ?_)
      · -- 166 jump
        replace h166 := bI_f h166
        rw [dgA_1 h151 h166, tm_1 h151 h166 hz1 ez1] at kk
        refine j_aload_n B d_M_goThrough_192 rfl 0 rfl ?_
        refine j_iload_n B d_M_goThrough_193 rfl 1 rfl ?_
        refine j_iload_n B d_M_goThrough_194 rfl 2 rfl ?_
        refine k_callV (as := [.int (nI t), .int (nI (p + 1))]) (rest := []) (st1 := [.int (sg (fun i => tx (60 * t + i)) N (p + 1))]) B (c_M_sign hl (t := t) (N := N) (p := (p + 1)) ht hz hN (by omega)) yf_M_sign w_885 w_887 w_s29 rfl (rG (ix := 0) hl rfl) rfl (by decide) (by decide) rfl rfl (Nat.le_of_ble_eq_true rfl) d_M_goThrough_195 ?_
        refine j_istore_n (L' := [(0, .ref (b + 133)), (1, .int (nI t)), (2, .int (nI (p + 1))), (3, .int (sg (fun i => tx (60 * t + i)) N (p + 1))), (4, .int (nI (10 * 0 + z)))]) B d_M_goThrough_198 rfl (by decide) [1, 2, 3, 0, 4] rfl ?_
        exact kk
      · -- 166 on
        replace h166 := bI_t h166
        have hq1 := h166
        obtain ⟨y, hy1, ey1⟩ := dg_nI h166
        refine j_bipush (v := 10) B d_M_goThrough_169 (by decide) ?_
        refine j_iload B d_M_goThrough_171 4 rfl ?_
        refine j_imulE (v := nI (10 * (10 * 0 + z))) B (pk_mul 10 (10 * 0 + z)) d_M_goThrough_173 ?_
        refine j_aload_n B d_M_goThrough_174 rfl 0 rfl ?_
        refine j_iload_n B d_M_goThrough_175 rfl 1 rfl ?_
        refine j_iload_n B d_M_goThrough_176 rfl 2 rfl ?_
        refine k_callV (as := [.int (nI t), .int (nI (p + 1))]) (rest := [.int (nI (10 * (10 * 0 + z)))]) (st1 := [.int (sg (fun i => tx (60 * t + i)) N (p + 1)), .int (nI (10 * (10 * 0 + z)))]) B (c_M_sign hl (t := t) (N := N) (p := (p + 1)) ht hz hN (by omega)) yf_M_sign w_885 w_887 w_s29 rfl (rG (ix := 0) hl rfl) rfl (by decide) (by decide) rfl rfl (Nat.le_of_ble_eq_true rfl) d_M_goThrough_177 ?_
        refine j_iadd B d_M_goThrough_180 ?_
        refine j_bipush (v := 48) B d_M_goThrough_181 (by decide) ?_
        refine j_isubE (v := nI (10 * (10 * 0 + z) + y)) B (tm_add ey1) d_M_goThrough_183 ?_
        refine j_istore (L' := [(0, .ref (b + 133)), (1, .int (nI t)), (2, .int (nI (p + 1))), (3, .int (sg (fun i => tx (60 * t + i)) N p)), (4, .int (nI (10 * (10 * 0 + z) + y)))]) B d_M_goThrough_184 (by decide) [1, 2, 3, 4, 0] rfl ?_
        refine j_iinc (L' := [(0, .ref (b + 133)), (1, .int (nI t)), (2, .int (nI (p + 1 + 1))), (3, .int (sg (fun i => tx (60 * t + i)) N p)), (4, .int (nI (10 * (10 * 0 + z) + y)))]) (v := nI (p + 1 + 1)) B d_M_goThrough_186 (k := 2) rfl (nI_succ (p + 1)).symm (by decide) [1, 2, 0, 3, 4] rfl ?_
        refine j_goto B d_M_goThrough_189 rfl ?_
        refine j_aload_n B d_M_goThrough_157 rfl 0 rfl ?_
        refine j_iload_n B d_M_goThrough_158 rfl 1 rfl ?_
        refine j_iload_n B d_M_goThrough_159 rfl 2 rfl ?_
        refine k_callV (as := [.int (nI t), .int (nI (p + 1 + 1))]) (rest := []) (st1 := [.int (sg (fun i => tx (60 * t + i)) N (p + 1 + 1))]) B (c_M_sign hl (t := t) (N := N) (p := (p + 1 + 1)) ht hz hN (by omega)) yf_M_sign w_885 w_887 w_s29 rfl (rG (ix := 0) hl rfl) rfl (by decide) (by decide) rfl rfl (Nat.le_of_ble_eq_true rfl) d_M_goThrough_160 ?_
        refine k_callS (as := [.int (sg (fun i => tx (60 * t + i)) N (p + 1 + 1))]) (rest := []) (st1 := [.int (bI (dg (sg (fun i => tx (60 * t + i)) N (p + 1 + 1))))]) B (c_M_digit (sg (fun i => tx (60 * t + i)) N (p + 1 + 1))) yf_M_digit w_889 w_890 rfl (by decide) (by decide) rfl rfl (Nat.le_of_ble_eq_true rfl) d_M_goThrough_163 ?_
        refine j_if_eq B d_M_goThrough_166 rfl (fun h166 => ?_) (fun h166 => absurd (bI_t h166) (by have hx := hnd; rw [dgA_2 h151 hq1] at hx; exact bF hx))
        rw [dgA_2 h151 hq1, tm_2 h151 hq1 hz1 hy1 ez1 ey1] at kk
        refine j_aload_n B d_M_goThrough_192 rfl 0 rfl ?_
        refine j_iload_n B d_M_goThrough_193 rfl 1 rfl ?_
        refine j_iload_n B d_M_goThrough_194 rfl 2 rfl ?_
        refine k_callV (as := [.int (nI t), .int (nI (p + 1 + 1))]) (rest := []) (st1 := [.int (sg (fun i => tx (60 * t + i)) N (p + 1 + 1))]) B (c_M_sign hl (t := t) (N := N) (p := (p + 1 + 1)) ht hz hN (by omega)) yf_M_sign w_885 w_887 w_s29 rfl (rG (ix := 0) hl rfl) rfl (by decide) (by decide) rfl rfl (Nat.le_of_ble_eq_true rfl) d_M_goThrough_195 ?_
        refine j_istore_n (L' := [(0, .ref (b + 133)), (1, .int (nI t)), (2, .int (nI (p + 1 + 1))), (3, .int (sg (fun i => tx (60 * t + i)) N (p + 1 + 1))), (4, .int (nI (10 * (10 * 0 + z) + y)))]) B d_M_goThrough_198 rfl (by decide) [1, 2, 3, 0, 4] rfl ?_
        exact kk
  refine j_iload_n B d_M_goThrough_16 rfl 1 rfl ?_
  refine j_iconst (v := 4) B d_M_goThrough_17 (by decide) ?_
  refine j_icmp_lt B d_M_goThrough_18 rfl (fun h18 => ?_) (fun h18 => ?_)
  · -- 18 jump
    exact jn31 () 
  · -- 18 on
    refine j_iload_n B d_M_goThrough_21 rfl 2 rfl ?_
    refine j_aload_n B d_M_goThrough_22 rfl 0 rfl ?_
    refine gf_M_62 B (rG (ix := 0) hl rfl) rfl d_M_goThrough_23 ?_
    refine j_iconst (v := nI 4) B d_M_goThrough_26 (by decide) ?_
    refine j_ialdN B rfl (rG (ix := 18) hl rfl) (by omega) d_M_goThrough_27 ?_
    refine j_icmp_ge B d_M_goThrough_28 rfl (fun h28 => absurd h28 (h4 (fun q => h18 (nI_lt (b := 4) q (by decide))))) (fun h28 => ?_)
    exact jn31 () 
set_option maxRecDepth 100000 in
set_option maxHeartbeats 4000000 in
theorem g_open40_t {l : Launch} {b : Nat} {D : va_G} {ta : Nat → ClassId} {Γ : jG} {σ : List va_E} (hl : σ.length = 133) {wt : Int32} {F0 : Nat → Int32} {F1 : Nat → Int32} {F2 : Nat → Int32} {HH : Nat → Int32} {kt : Nat → Int32} {kp : Nat → Int32} {a : Nat} {hi : Nat} {tm : Nat} {sN : Nat} {sx : Nat → Int32} {sy : Nat → Int32} {pt : Nat → Int64} {mn : Nat → Int32} {pl : Nat → Int32} {pN : Nat} {px : Nat → Int32} {py : Nat → Int32} {sn : Nat → Int32} {lt : Nat → Int32} {rc : Nat → Int64} {tx : Nat → Int32} {sz : Nat → Int32} {us : Nat → Int32} {D0 : Nat → Int32} {D1 : Nat → Int32} {D2 : Nat → Int32} {qx : Int32} {qy : Int32} {di : Nat} {up : Bool} {dn : Nat} {op : Nat} {gs : Nat → Int32} {t0 : Nat → Int32} {fr : Nat → Int32} {lf : Nat → Int32} {pX : Nat → Int32} {pY : Nat → Int32} {pD : Nat → Int32} {pU : Nat → Int32} {X : List va_E} (B : jB l b D ta Γ "WireFieldModel" b_M_goThrough none 6 (rL 5)) {t p N : Nat} (ht : t < 5) (hz : sz t = nI N) (hN : N ≤ 60) (hp : p ≤ 62) {L : Nat} (hL9 : L < 100) (hop : op < 32) (hdn : dn < 400) (kk : jW l b D Γ False 0 0 6 (σ ++ rC b ta wt F0 F1 F2 HH kt kp a hi tm sN sx sy pt mn pl pN px py sn lt rc tx sz us D0 D1 D2 qx qy di up (dn + 1) false (op + 1) (upd gs op 40) (upd t0 op (nI t)) (upd fr op (nI (p + 1))) (upd (upd lf op (nI (L + 1))) op (nI L)) (upd pX op qx) (upd pY op qy) (upd pD op (nI di)) (upd pU op (vp_nar .boolean (bI up))) X) [(0, .ref (b + 133)), (1, .int (nI t)), (2, .int (nI (p + 1)))] 9 []) : jW l b D Γ False 0 0 6 (σ ++ rC b ta wt F0 F1 F2 HH kt kp a hi tm sN sx sy pt mn pl pN px py sn lt rc tx sz us D0 D1 D2 qx qy di up dn false op gs t0 fr lf pX pY pD pU X) [(0, .ref (b + 133)), (1, .int (nI t)), (2, .int (nI p)), (3, .int 40), (4, .int (nI (L + 1)))] 199 [] := by
  refine j_iload_n B d_M_goThrough_199 rfl 3 rfl ?_
  refine j_bipush (v := 40) B d_M_goThrough_200 (by decide) ?_
  refine j_icmp_eq B d_M_goThrough_202 rfl (fun h202 => ?_) (fun h202 => absurd rfl h202)
  refine j_iload B d_M_goThrough_211 4 rfl ?_
  refine j_if_le B d_M_goThrough_213 rfl (fun h213 => absurd h213 (nI_ge (a := 0) (b := L + 1) (by omega) (by omega))) (fun h213 => ?_)
  refine j_aload_n B d_M_goThrough_216 rfl 0 rfl ?_
  refine j_iload_n B d_M_goThrough_217 rfl 3 rfl ?_
  refine j_iload_n B d_M_goThrough_218 rfl 1 rfl ?_
  refine j_iload_n B d_M_goThrough_219 rfl 2 rfl ?_
  refine j_iconst (v := 1) B d_M_goThrough_220 (by decide) ?_
  refine j_iaddE (v := nI (p + 1)) B (nI_add p 1) d_M_goThrough_221 ?_
  refine j_iload B d_M_goThrough_222 4 rfl ?_
  refine k_callV (as := [.int 40, .int (nI t), .int (nI (p + 1)), .int (nI (L + 1))]) (rest := []) (st1 := []) B (c_M_open_t hl (cc := 40) (t := t) (p := p + 1) (L := L) hdn hop) yf_M_open w_922 w_924 w_s35 rfl (rG (ix := 0) hl rfl) rfl (by decide) (by decide) rfl rfl (Nat.le_of_ble_eq_true rfl) d_M_goThrough_224 ?_
  refine j_iload B d_M_goThrough_227 4 rfl ?_
  refine j_if_le B d_M_goThrough_229 rfl (fun h229 => absurd h229 (nI_ge (a := 0) (b := L + 1) (by omega) (by omega))) (fun h229 => ?_)
  refine j_iload_n B d_M_goThrough_232 rfl 2 rfl ?_
  refine j_iconst (v := 1) B d_M_goThrough_233 (by decide) ?_
  refine j_iaddE (v := nI (p + 1)) B (nI_add p 1) d_M_goThrough_234 ?_
  refine j_goto B d_M_goThrough_235 rfl ?_
  refine j_istore_n (L' := [(0, .ref (b + 133)), (1, .int (nI t)), (2, .int (nI (p + 1))), (3, .int 40), (4, .int (nI (L + 1)))]) B d_M_goThrough_244 rfl (by decide) [1, 2, 0, 3, 4] rfl ?_
  refine j_goto B d_M_goThrough_245 rfl ?_
  refine j_goto B d_M_goThrough_323 rfl ?_
  refine jW.sub (L' := [(0, .ref (b + 133)), (1, .int (nI t)), (2, .int (nI (p + 1)))]) [0, 1, 2] rfl ?_; exact kk
set_option maxRecDepth 100000 in
set_option maxHeartbeats 4000000 in
theorem g_open40_f {l : Launch} {b : Nat} {D : va_G} {ta : Nat → ClassId} {Γ : jG} {σ : List va_E} (hl : σ.length = 133) {wt : Int32} {F0 : Nat → Int32} {F1 : Nat → Int32} {F2 : Nat → Int32} {HH : Nat → Int32} {kt : Nat → Int32} {kp : Nat → Int32} {a : Nat} {hi : Nat} {tm : Nat} {sN : Nat} {sx : Nat → Int32} {sy : Nat → Int32} {pt : Nat → Int64} {mn : Nat → Int32} {pl : Nat → Int32} {pN : Nat} {px : Nat → Int32} {py : Nat → Int32} {sn : Nat → Int32} {lt : Nat → Int32} {rc : Nat → Int64} {tx : Nat → Int32} {sz : Nat → Int32} {us : Nat → Int32} {D0 : Nat → Int32} {D1 : Nat → Int32} {D2 : Nat → Int32} {qx : Int32} {qy : Int32} {di : Nat} {up : Bool} {dn : Nat} {op : Nat} {gs : Nat → Int32} {t0 : Nat → Int32} {fr : Nat → Int32} {lf : Nat → Int32} {pX : Nat → Int32} {pY : Nat → Int32} {pD : Nat → Int32} {pU : Nat → Int32} {X : List va_E} (B : jB l b D ta Γ "WireFieldModel" b_M_goThrough none 6 (rL 5)) {t p N : Nat} (ht : t < 5) (hz : sz t = nI N) (hN : N ≤ 60) (hp : p ≤ 62) {L : Nat} (hL9 : L < 100) (hop : op < 32) (hdn : 400 ≤ dn) (hd2 : dn < 2 ^ 20) (kk : jW l b D Γ False 0 0 6 (σ ++ rC b ta wt F0 F1 F2 HH kt kp a hi tm sN sx sy pt mn pl pN px py sn lt rc tx sz us D0 D1 D2 qx qy di up (dn + 1) true (op + 1) (upd gs op 40) (upd t0 op (nI t)) (upd fr op (nI (p + 1))) (upd (upd lf op (nI (L + 1))) op (nI L)) (upd pX op qx) (upd pY op qy) (upd pD op (nI di)) (upd pU op (vp_nar .boolean (bI up))) X) [(0, .ref (b + 133)), (1, .int (nI t)), (2, .int (nI (p + 1)))] 9 []) : jW l b D Γ False 0 0 6 (σ ++ rC b ta wt F0 F1 F2 HH kt kp a hi tm sN sx sy pt mn pl pN px py sn lt rc tx sz us D0 D1 D2 qx qy di up dn false op gs t0 fr lf pX pY pD pU X) [(0, .ref (b + 133)), (1, .int (nI t)), (2, .int (nI p)), (3, .int 40), (4, .int (nI (L + 1)))] 199 [] := by
  refine j_iload_n B d_M_goThrough_199 rfl 3 rfl ?_
  refine j_bipush (v := 40) B d_M_goThrough_200 (by decide) ?_
  refine j_icmp_eq B d_M_goThrough_202 rfl (fun h202 => ?_) (fun h202 => absurd rfl h202)
  refine j_iload B d_M_goThrough_211 4 rfl ?_
  refine j_if_le B d_M_goThrough_213 rfl (fun h213 => absurd h213 (nI_ge (a := 0) (b := L + 1) (by omega) (by omega))) (fun h213 => ?_)
  refine j_aload_n B d_M_goThrough_216 rfl 0 rfl ?_
  refine j_iload_n B d_M_goThrough_217 rfl 3 rfl ?_
  refine j_iload_n B d_M_goThrough_218 rfl 1 rfl ?_
  refine j_iload_n B d_M_goThrough_219 rfl 2 rfl ?_
  refine j_iconst (v := 1) B d_M_goThrough_220 (by decide) ?_
  refine j_iaddE (v := nI (p + 1)) B (nI_add p 1) d_M_goThrough_221 ?_
  refine j_iload B d_M_goThrough_222 4 rfl ?_
  refine k_callV (as := [.int 40, .int (nI t), .int (nI (p + 1)), .int (nI (L + 1))]) (rest := []) (st1 := []) B (c_M_open_f hl (cc := 40) (t := t) (p := p + 1) (L := L) hdn hd2 hop) yf_M_open w_922 w_924 w_s35 rfl (rG (ix := 0) hl rfl) rfl (by decide) (by decide) rfl rfl (Nat.le_of_ble_eq_true rfl) d_M_goThrough_224 ?_
  refine j_iload B d_M_goThrough_227 4 rfl ?_
  refine j_if_le B d_M_goThrough_229 rfl (fun h229 => absurd h229 (nI_ge (a := 0) (b := L + 1) (by omega) (by omega))) (fun h229 => ?_)
  refine j_iload_n B d_M_goThrough_232 rfl 2 rfl ?_
  refine j_iconst (v := 1) B d_M_goThrough_233 (by decide) ?_
  refine j_iaddE (v := nI (p + 1)) B (nI_add p 1) d_M_goThrough_234 ?_
  refine j_goto B d_M_goThrough_235 rfl ?_
  refine j_istore_n (L' := [(0, .ref (b + 133)), (1, .int (nI t)), (2, .int (nI (p + 1))), (3, .int 40), (4, .int (nI (L + 1)))]) B d_M_goThrough_244 rfl (by decide) [1, 2, 0, 3, 4] rfl ?_
  refine j_goto B d_M_goThrough_245 rfl ?_
  refine j_goto B d_M_goThrough_323 rfl ?_
  refine jW.sub (L' := [(0, .ref (b + 133)), (1, .int (nI t)), (2, .int (nI (p + 1)))]) [0, 1, 2] rfl ?_; exact kk
set_option maxRecDepth 100000 in
set_option maxHeartbeats 4000000 in
theorem g_skip40 {l : Launch} {b : Nat} {D : va_G} {ta : Nat → ClassId} {Γ : jG} {σ : List va_E} (hl : σ.length = 133) {wt : Int32} {F0 : Nat → Int32} {F1 : Nat → Int32} {F2 : Nat → Int32} {HH : Nat → Int32} {kt : Nat → Int32} {kp : Nat → Int32} {a : Nat} {hi : Nat} {tm : Nat} {sN : Nat} {sx : Nat → Int32} {sy : Nat → Int32} {pt : Nat → Int64} {mn : Nat → Int32} {pl : Nat → Int32} {pN : Nat} {px : Nat → Int32} {py : Nat → Int32} {sn : Nat → Int32} {lt : Nat → Int32} {rc : Nat → Int64} {tx : Nat → Int32} {sz : Nat → Int32} {us : Nat → Int32} {D0 : Nat → Int32} {D1 : Nat → Int32} {D2 : Nat → Int32} {qx : Int32} {qy : Int32} {di : Nat} {up : Bool} {dn : Nat} {op : Nat} {gs : Nat → Int32} {t0 : Nat → Int32} {fr : Nat → Int32} {lf : Nat → Int32} {pX : Nat → Int32} {pY : Nat → Int32} {pD : Nat → Int32} {pU : Nat → Int32} {X : List va_E} (B : jB l b D ta Γ "WireFieldModel" b_M_goThrough none 6 (rL 5)) {t p N : Nat} (ht : t < 5) (hz : sz t = nI N) (hN : N ≤ 60) (hp : p ≤ 62) {e f0 : Nat} (hf0 : f0 ≤ 100) (h0 : cls (sg (fun i => tx (60 * t + i)) N p) = false) (hb : bhR (fun i => tx (60 * t + i)) N f0 p 0 = some e) (kk : jW l b D Γ False 0 0 6 (σ ++ rC b ta wt F0 F1 F2 HH kt kp a hi tm sN sx sy pt mn pl pN px py sn lt rc tx sz us D0 D1 D2 qx qy di up dn false op gs t0 fr lf pX pY pD pU X) [(0, .ref (b + 133)), (1, .int (nI t)), (2, .int (nI e))] 9 []) : jW l b D Γ False 0 0 6 (σ ++ rC b ta wt F0 F1 F2 HH kt kp a hi tm sN sx sy pt mn pl pN px py sn lt rc tx sz us D0 D1 D2 qx qy di up dn false op gs t0 fr lf pX pY pD pU X) [(0, .ref (b + 133)), (1, .int (nI t)), (2, .int (nI p)), (3, .int 40), (4, .int (nI 0))] 199 [] := by
  refine j_iload_n B d_M_goThrough_199 rfl 3 rfl ?_
  refine j_bipush (v := 40) B d_M_goThrough_200 (by decide) ?_
  refine j_icmp_eq B d_M_goThrough_202 rfl (fun h202 => ?_) (fun h202 => absurd rfl h202)
  refine j_iload B d_M_goThrough_211 4 rfl ?_
  refine j_if_le B d_M_goThrough_213 rfl (fun h213 => ?_) (fun h213 => absurd (by decide) h213)
  refine j_iload B d_M_goThrough_227 4 rfl ?_
  refine j_if_le B d_M_goThrough_229 rfl (fun h229 => ?_) (fun h229 => absurd (by decide) h229)
  refine j_aload_n B d_M_goThrough_238 rfl 0 rfl ?_
  refine j_iload_n B d_M_goThrough_239 rfl 1 rfl ?_
  refine j_iload_n B d_M_goThrough_240 rfl 2 rfl ?_
  refine k_callV (as := [.int (nI t), .int (nI p)]) (rest := []) (st1 := [.int (nI e)]) B (c_M_behind hl (t := t) (N := N) (p := p) (e := e) (f0 := f0) ht hz hN (by omega) h0 hb) yf_M_behind w_926 w_928 w_s36 rfl (rG (ix := 0) hl rfl) rfl (by decide) (by decide) rfl rfl (Nat.le_of_ble_eq_true rfl) d_M_goThrough_241 ?_
  refine j_istore_n (L' := [(0, .ref (b + 133)), (1, .int (nI t)), (2, .int (nI e)), (3, .int 40), (4, .int (nI 0))]) B d_M_goThrough_244 rfl (by decide) [1, 2, 0, 3, 4] rfl ?_
  refine j_goto B d_M_goThrough_245 rfl ?_
  refine j_goto B d_M_goThrough_323 rfl ?_
  refine jW.sub (L' := [(0, .ref (b + 133)), (1, .int (nI t)), (2, .int (nI e))]) [0, 1, 2] rfl ?_; exact kk
set_option maxRecDepth 100000 in
set_option maxHeartbeats 4000000 in
theorem g_open91_t {l : Launch} {b : Nat} {D : va_G} {ta : Nat → ClassId} {Γ : jG} {σ : List va_E} (hl : σ.length = 133) {wt : Int32} {F0 : Nat → Int32} {F1 : Nat → Int32} {F2 : Nat → Int32} {HH : Nat → Int32} {kt : Nat → Int32} {kp : Nat → Int32} {a : Nat} {hi : Nat} {tm : Nat} {sN : Nat} {sx : Nat → Int32} {sy : Nat → Int32} {pt : Nat → Int64} {mn : Nat → Int32} {pl : Nat → Int32} {pN : Nat} {px : Nat → Int32} {py : Nat → Int32} {sn : Nat → Int32} {lt : Nat → Int32} {rc : Nat → Int64} {tx : Nat → Int32} {sz : Nat → Int32} {us : Nat → Int32} {D0 : Nat → Int32} {D1 : Nat → Int32} {D2 : Nat → Int32} {qx : Int32} {qy : Int32} {di : Nat} {up : Bool} {dn : Nat} {op : Nat} {gs : Nat → Int32} {t0 : Nat → Int32} {fr : Nat → Int32} {lf : Nat → Int32} {pX : Nat → Int32} {pY : Nat → Int32} {pD : Nat → Int32} {pU : Nat → Int32} {X : List va_E} (B : jB l b D ta Γ "WireFieldModel" b_M_goThrough none 6 (rL 5)) {t p N : Nat} (ht : t < 5) (hz : sz t = nI N) (hN : N ≤ 60) (hp : p ≤ 62) {L : Nat} (hL9 : L < 100) (hop : op < 32) (hdn : dn < 400) (kk : jW l b D Γ False 0 0 6 (σ ++ rC b ta wt F0 F1 F2 HH kt kp a hi tm sN sx sy pt mn pl pN px py sn lt rc tx sz us D0 D1 D2 qx qy di up (dn + 1) false (op + 1) (upd gs op 91) (upd t0 op (nI t)) (upd fr op (nI (p + 1))) (upd (upd lf op (nI (L + 1))) op (nI L)) (upd pX op qx) (upd pY op qy) (upd pD op (nI di)) (upd pU op (vp_nar .boolean (bI up))) X) [(0, .ref (b + 133)), (1, .int (nI t)), (2, .int (nI (p + 1)))] 9 []) : jW l b D Γ False 0 0 6 (σ ++ rC b ta wt F0 F1 F2 HH kt kp a hi tm sN sx sy pt mn pl pN px py sn lt rc tx sz us D0 D1 D2 qx qy di up dn false op gs t0 fr lf pX pY pD pU X) [(0, .ref (b + 133)), (1, .int (nI t)), (2, .int (nI p)), (3, .int 91), (4, .int (nI (L + 1)))] 199 [] := by
  refine j_iload_n B d_M_goThrough_199 rfl 3 rfl ?_
  refine j_bipush (v := 40) B d_M_goThrough_200 (by decide) ?_
  refine j_icmp_eq B d_M_goThrough_202 rfl (fun h202 => absurd h202 (by decide)) (fun h202 => ?_)
  refine j_iload_n B d_M_goThrough_205 rfl 3 rfl ?_
  refine j_bipush (v := 91) B d_M_goThrough_206 (by decide) ?_
  refine j_icmp_ne B d_M_goThrough_208 rfl (fun h208 => absurd rfl h208) (fun h208 => ?_)
  refine j_iload B d_M_goThrough_211 4 rfl ?_
  refine j_if_le B d_M_goThrough_213 rfl (fun h213 => absurd h213 (nI_ge (a := 0) (b := L + 1) (by omega) (by omega))) (fun h213 => ?_)
  refine j_aload_n B d_M_goThrough_216 rfl 0 rfl ?_
  refine j_iload_n B d_M_goThrough_217 rfl 3 rfl ?_
  refine j_iload_n B d_M_goThrough_218 rfl 1 rfl ?_
  refine j_iload_n B d_M_goThrough_219 rfl 2 rfl ?_
  refine j_iconst (v := 1) B d_M_goThrough_220 (by decide) ?_
  refine j_iaddE (v := nI (p + 1)) B (nI_add p 1) d_M_goThrough_221 ?_
  refine j_iload B d_M_goThrough_222 4 rfl ?_
  refine k_callV (as := [.int 91, .int (nI t), .int (nI (p + 1)), .int (nI (L + 1))]) (rest := []) (st1 := []) B (c_M_open_t hl (cc := 91) (t := t) (p := p + 1) (L := L) hdn hop) yf_M_open w_922 w_924 w_s35 rfl (rG (ix := 0) hl rfl) rfl (by decide) (by decide) rfl rfl (Nat.le_of_ble_eq_true rfl) d_M_goThrough_224 ?_
  refine j_iload B d_M_goThrough_227 4 rfl ?_
  refine j_if_le B d_M_goThrough_229 rfl (fun h229 => absurd h229 (nI_ge (a := 0) (b := L + 1) (by omega) (by omega))) (fun h229 => ?_)
  refine j_iload_n B d_M_goThrough_232 rfl 2 rfl ?_
  refine j_iconst (v := 1) B d_M_goThrough_233 (by decide) ?_
  refine j_iaddE (v := nI (p + 1)) B (nI_add p 1) d_M_goThrough_234 ?_
  refine j_goto B d_M_goThrough_235 rfl ?_
  refine j_istore_n (L' := [(0, .ref (b + 133)), (1, .int (nI t)), (2, .int (nI (p + 1))), (3, .int 91), (4, .int (nI (L + 1)))]) B d_M_goThrough_244 rfl (by decide) [1, 2, 0, 3, 4] rfl ?_
  refine j_goto B d_M_goThrough_245 rfl ?_
  refine j_goto B d_M_goThrough_323 rfl ?_
  refine jW.sub (L' := [(0, .ref (b + 133)), (1, .int (nI t)), (2, .int (nI (p + 1)))]) [0, 1, 2] rfl ?_; exact kk
set_option maxRecDepth 100000 in
set_option maxHeartbeats 4000000 in
theorem g_open91_f {l : Launch} {b : Nat} {D : va_G} {ta : Nat → ClassId} {Γ : jG} {σ : List va_E} (hl : σ.length = 133) {wt : Int32} {F0 : Nat → Int32} {F1 : Nat → Int32} {F2 : Nat → Int32} {HH : Nat → Int32} {kt : Nat → Int32} {kp : Nat → Int32} {a : Nat} {hi : Nat} {tm : Nat} {sN : Nat} {sx : Nat → Int32} {sy : Nat → Int32} {pt : Nat → Int64} {mn : Nat → Int32} {pl : Nat → Int32} {pN : Nat} {px : Nat → Int32} {py : Nat → Int32} {sn : Nat → Int32} {lt : Nat → Int32} {rc : Nat → Int64} {tx : Nat → Int32} {sz : Nat → Int32} {us : Nat → Int32} {D0 : Nat → Int32} {D1 : Nat → Int32} {D2 : Nat → Int32} {qx : Int32} {qy : Int32} {di : Nat} {up : Bool} {dn : Nat} {op : Nat} {gs : Nat → Int32} {t0 : Nat → Int32} {fr : Nat → Int32} {lf : Nat → Int32} {pX : Nat → Int32} {pY : Nat → Int32} {pD : Nat → Int32} {pU : Nat → Int32} {X : List va_E} (B : jB l b D ta Γ "WireFieldModel" b_M_goThrough none 6 (rL 5)) {t p N : Nat} (ht : t < 5) (hz : sz t = nI N) (hN : N ≤ 60) (hp : p ≤ 62) {L : Nat} (hL9 : L < 100) (hop : op < 32) (hdn : 400 ≤ dn) (hd2 : dn < 2 ^ 20) (kk : jW l b D Γ False 0 0 6 (σ ++ rC b ta wt F0 F1 F2 HH kt kp a hi tm sN sx sy pt mn pl pN px py sn lt rc tx sz us D0 D1 D2 qx qy di up (dn + 1) true (op + 1) (upd gs op 91) (upd t0 op (nI t)) (upd fr op (nI (p + 1))) (upd (upd lf op (nI (L + 1))) op (nI L)) (upd pX op qx) (upd pY op qy) (upd pD op (nI di)) (upd pU op (vp_nar .boolean (bI up))) X) [(0, .ref (b + 133)), (1, .int (nI t)), (2, .int (nI (p + 1)))] 9 []) : jW l b D Γ False 0 0 6 (σ ++ rC b ta wt F0 F1 F2 HH kt kp a hi tm sN sx sy pt mn pl pN px py sn lt rc tx sz us D0 D1 D2 qx qy di up dn false op gs t0 fr lf pX pY pD pU X) [(0, .ref (b + 133)), (1, .int (nI t)), (2, .int (nI p)), (3, .int 91), (4, .int (nI (L + 1)))] 199 [] := by
  refine j_iload_n B d_M_goThrough_199 rfl 3 rfl ?_
  refine j_bipush (v := 40) B d_M_goThrough_200 (by decide) ?_
  refine j_icmp_eq B d_M_goThrough_202 rfl (fun h202 => absurd h202 (by decide)) (fun h202 => ?_)
  refine j_iload_n B d_M_goThrough_205 rfl 3 rfl ?_
  refine j_bipush (v := 91) B d_M_goThrough_206 (by decide) ?_
  refine j_icmp_ne B d_M_goThrough_208 rfl (fun h208 => absurd rfl h208) (fun h208 => ?_)
  refine j_iload B d_M_goThrough_211 4 rfl ?_
  refine j_if_le B d_M_goThrough_213 rfl (fun h213 => absurd h213 (nI_ge (a := 0) (b := L + 1) (by omega) (by omega))) (fun h213 => ?_)
  refine j_aload_n B d_M_goThrough_216 rfl 0 rfl ?_
  refine j_iload_n B d_M_goThrough_217 rfl 3 rfl ?_
  refine j_iload_n B d_M_goThrough_218 rfl 1 rfl ?_
  refine j_iload_n B d_M_goThrough_219 rfl 2 rfl ?_
  refine j_iconst (v := 1) B d_M_goThrough_220 (by decide) ?_
  refine j_iaddE (v := nI (p + 1)) B (nI_add p 1) d_M_goThrough_221 ?_
  refine j_iload B d_M_goThrough_222 4 rfl ?_
  refine k_callV (as := [.int 91, .int (nI t), .int (nI (p + 1)), .int (nI (L + 1))]) (rest := []) (st1 := []) B (c_M_open_f hl (cc := 91) (t := t) (p := p + 1) (L := L) hdn hd2 hop) yf_M_open w_922 w_924 w_s35 rfl (rG (ix := 0) hl rfl) rfl (by decide) (by decide) rfl rfl (Nat.le_of_ble_eq_true rfl) d_M_goThrough_224 ?_
  refine j_iload B d_M_goThrough_227 4 rfl ?_
  refine j_if_le B d_M_goThrough_229 rfl (fun h229 => absurd h229 (nI_ge (a := 0) (b := L + 1) (by omega) (by omega))) (fun h229 => ?_)
  refine j_iload_n B d_M_goThrough_232 rfl 2 rfl ?_
  refine j_iconst (v := 1) B d_M_goThrough_233 (by decide) ?_
  refine j_iaddE (v := nI (p + 1)) B (nI_add p 1) d_M_goThrough_234 ?_
  refine j_goto B d_M_goThrough_235 rfl ?_
  refine j_istore_n (L' := [(0, .ref (b + 133)), (1, .int (nI t)), (2, .int (nI (p + 1))), (3, .int 91), (4, .int (nI (L + 1)))]) B d_M_goThrough_244 rfl (by decide) [1, 2, 0, 3, 4] rfl ?_
  refine j_goto B d_M_goThrough_245 rfl ?_
  refine j_goto B d_M_goThrough_323 rfl ?_
  refine jW.sub (L' := [(0, .ref (b + 133)), (1, .int (nI t)), (2, .int (nI (p + 1)))]) [0, 1, 2] rfl ?_; exact kk
set_option maxRecDepth 100000 in
set_option maxHeartbeats 4000000 in
theorem g_skip91 {l : Launch} {b : Nat} {D : va_G} {ta : Nat → ClassId} {Γ : jG} {σ : List va_E} (hl : σ.length = 133) {wt : Int32} {F0 : Nat → Int32} {F1 : Nat → Int32} {F2 : Nat → Int32} {HH : Nat → Int32} {kt : Nat → Int32} {kp : Nat → Int32} {a : Nat} {hi : Nat} {tm : Nat} {sN : Nat} {sx : Nat → Int32} {sy : Nat → Int32} {pt : Nat → Int64} {mn : Nat → Int32} {pl : Nat → Int32} {pN : Nat} {px : Nat → Int32} {py : Nat → Int32} {sn : Nat → Int32} {lt : Nat → Int32} {rc : Nat → Int64} {tx : Nat → Int32} {sz : Nat → Int32} {us : Nat → Int32} {D0 : Nat → Int32} {D1 : Nat → Int32} {D2 : Nat → Int32} {qx : Int32} {qy : Int32} {di : Nat} {up : Bool} {dn : Nat} {op : Nat} {gs : Nat → Int32} {t0 : Nat → Int32} {fr : Nat → Int32} {lf : Nat → Int32} {pX : Nat → Int32} {pY : Nat → Int32} {pD : Nat → Int32} {pU : Nat → Int32} {X : List va_E} (B : jB l b D ta Γ "WireFieldModel" b_M_goThrough none 6 (rL 5)) {t p N : Nat} (ht : t < 5) (hz : sz t = nI N) (hN : N ≤ 60) (hp : p ≤ 62) {e f0 : Nat} (hf0 : f0 ≤ 100) (h0 : cls (sg (fun i => tx (60 * t + i)) N p) = false) (hb : bhR (fun i => tx (60 * t + i)) N f0 p 0 = some e) (kk : jW l b D Γ False 0 0 6 (σ ++ rC b ta wt F0 F1 F2 HH kt kp a hi tm sN sx sy pt mn pl pN px py sn lt rc tx sz us D0 D1 D2 qx qy di up dn false op gs t0 fr lf pX pY pD pU X) [(0, .ref (b + 133)), (1, .int (nI t)), (2, .int (nI e))] 9 []) : jW l b D Γ False 0 0 6 (σ ++ rC b ta wt F0 F1 F2 HH kt kp a hi tm sN sx sy pt mn pl pN px py sn lt rc tx sz us D0 D1 D2 qx qy di up dn false op gs t0 fr lf pX pY pD pU X) [(0, .ref (b + 133)), (1, .int (nI t)), (2, .int (nI p)), (3, .int 91), (4, .int (nI 0))] 199 [] := by
  refine j_iload_n B d_M_goThrough_199 rfl 3 rfl ?_
  refine j_bipush (v := 40) B d_M_goThrough_200 (by decide) ?_
  refine j_icmp_eq B d_M_goThrough_202 rfl (fun h202 => absurd h202 (by decide)) (fun h202 => ?_)
  refine j_iload_n B d_M_goThrough_205 rfl 3 rfl ?_
  refine j_bipush (v := 91) B d_M_goThrough_206 (by decide) ?_
  refine j_icmp_ne B d_M_goThrough_208 rfl (fun h208 => absurd rfl h208) (fun h208 => ?_)
  refine j_iload B d_M_goThrough_211 4 rfl ?_
  refine j_if_le B d_M_goThrough_213 rfl (fun h213 => ?_) (fun h213 => absurd (by decide) h213)
  refine j_iload B d_M_goThrough_227 4 rfl ?_
  refine j_if_le B d_M_goThrough_229 rfl (fun h229 => ?_) (fun h229 => absurd (by decide) h229)
  refine j_aload_n B d_M_goThrough_238 rfl 0 rfl ?_
  refine j_iload_n B d_M_goThrough_239 rfl 1 rfl ?_
  refine j_iload_n B d_M_goThrough_240 rfl 2 rfl ?_
  refine k_callV (as := [.int (nI t), .int (nI p)]) (rest := []) (st1 := [.int (nI e)]) B (c_M_behind hl (t := t) (N := N) (p := p) (e := e) (f0 := f0) ht hz hN (by omega) h0 hb) yf_M_behind w_926 w_928 w_s36 rfl (rG (ix := 0) hl rfl) rfl (by decide) (by decide) rfl rfl (Nat.le_of_ble_eq_true rfl) d_M_goThrough_241 ?_
  refine j_istore_n (L' := [(0, .ref (b + 133)), (1, .int (nI t)), (2, .int (nI e)), (3, .int 91), (4, .int (nI 0))]) B d_M_goThrough_244 rfl (by decide) [1, 2, 0, 3, 4] rfl ?_
  refine j_goto B d_M_goThrough_245 rfl ?_
  refine j_goto B d_M_goThrough_323 rfl ?_
  refine jW.sub (L' := [(0, .ref (b + 133)), (1, .int (nI t)), (2, .int (nI e))]) [0, 1, 2] rfl ?_; exact kk
set_option maxRecDepth 100000 in
set_option maxHeartbeats 4000000 in
theorem g_open64_t {l : Launch} {b : Nat} {D : va_G} {ta : Nat → ClassId} {Γ : jG} {σ : List va_E} (hl : σ.length = 133) {wt : Int32} {F0 : Nat → Int32} {F1 : Nat → Int32} {F2 : Nat → Int32} {HH : Nat → Int32} {kt : Nat → Int32} {kp : Nat → Int32} {a : Nat} {hi : Nat} {tm : Nat} {sN : Nat} {sx : Nat → Int32} {sy : Nat → Int32} {pt : Nat → Int64} {mn : Nat → Int32} {pl : Nat → Int32} {pN : Nat} {px : Nat → Int32} {py : Nat → Int32} {sn : Nat → Int32} {lt : Nat → Int32} {rc : Nat → Int64} {tx : Nat → Int32} {sz : Nat → Int32} {us : Nat → Int32} {D0 : Nat → Int32} {D1 : Nat → Int32} {D2 : Nat → Int32} {qx : Int32} {qy : Int32} {di : Nat} {up : Bool} {dn : Nat} {op : Nat} {gs : Nat → Int32} {t0 : Nat → Int32} {fr : Nat → Int32} {lf : Nat → Int32} {pX : Nat → Int32} {pY : Nat → Int32} {pD : Nat → Int32} {pU : Nat → Int32} {X : List va_E} (B : jB l b D ta Γ "WireFieldModel" b_M_goThrough none 6 (rL 5)) {t p N : Nat} (ht : t < 5) (hz : sz t = nI N) (hN : N ≤ 60) (hp : p ≤ 62) {L : Nat} (hL9 : L < 100) (hop : op < 32) (hdn : dn < 400) {j : Nat} (hj : sg (fun i => tx (60 * t + i)) N (p + 1) - 97 = nI j) (kk : jW l b D Γ False 0 0 6 (σ ++ rC b ta wt F0 F1 F2 HH kt kp a hi tm sN sx sy pt mn pl pN px py sn lt rc tx sz us D0 D1 D2 qx qy di up (dn + 1) false (op + 1) (upd gs op 64) (upd t0 op (nI t)) (upd fr op (nI (p + 2))) (upd (upd lf op (nI (L + 1))) op (nI L)) (upd pX op qx) (upd pY op qy) (upd pD op (nI di)) (upd pU op (vp_nar .boolean (bI up))) X) [(0, .ref (b + 133)), (1, .int (nI j)), (2, .int (nI 0))] 9 []) : jW l b D Γ False 0 0 6 (σ ++ rC b ta wt F0 F1 F2 HH kt kp a hi tm sN sx sy pt mn pl pN px py sn lt rc tx sz us D0 D1 D2 qx qy di up dn false op gs t0 fr lf pX pY pD pU X) [(0, .ref (b + 133)), (1, .int (nI t)), (2, .int (nI p)), (3, .int 64), (4, .int (nI (L + 1)))] 199 [] := by
  refine j_iload_n B d_M_goThrough_199 rfl 3 rfl ?_
  refine j_bipush (v := 40) B d_M_goThrough_200 (by decide) ?_
  refine j_icmp_eq B d_M_goThrough_202 rfl (fun h202 => absurd h202 (by decide)) (fun h202 => ?_)
  refine j_iload_n B d_M_goThrough_205 rfl 3 rfl ?_
  refine j_bipush (v := 91) B d_M_goThrough_206 (by decide) ?_
  refine j_icmp_ne B d_M_goThrough_208 rfl (fun h208 => ?_) (fun h208 => absurd h208 (by decide))
  refine j_iload_n B d_M_goThrough_248 rfl 3 rfl ?_
  refine j_bipush (v := 64) B d_M_goThrough_249 (by decide) ?_
  refine j_icmp_ne B d_M_goThrough_251 rfl (fun h251 => absurd rfl h251) (fun h251 => ?_)
  refine j_aload_n B d_M_goThrough_254 rfl 0 rfl ?_
  refine j_iload_n B d_M_goThrough_255 rfl 1 rfl ?_
  refine j_iload_n B d_M_goThrough_256 rfl 2 rfl ?_
  refine j_iconst (v := 1) B d_M_goThrough_257 (by decide) ?_
  refine j_iaddE (v := nI (p + 1)) B (nI_add p 1) d_M_goThrough_258 ?_
  refine k_callV (as := [.int (nI t), .int (nI (p + 1))]) (rest := []) (st1 := [.int (sg (fun i => tx (60 * t + i)) N (p + 1))]) B (c_M_sign hl (t := t) (N := N) (p := (p + 1)) ht hz hN (by omega)) yf_M_sign w_885 w_887 w_s29 rfl (rG (ix := 0) hl rfl) rfl (by decide) (by decide) rfl rfl (Nat.le_of_ble_eq_true rfl) d_M_goThrough_259 ?_
  refine j_bipush (v := 97) B d_M_goThrough_262 (by decide) ?_
  refine j_isubE (v := nI j) B hj d_M_goThrough_264 ?_
  refine j_istore (L' := [(0, .ref (b + 133)), (1, .int (nI t)), (2, .int (nI p)), (3, .int 64), (4, .int (nI (L + 1))), (5, .int (nI j))]) B d_M_goThrough_265 (by decide) [1, 2, 3, 4, 5, 0] rfl ?_
  refine j_iinc (L' := [(0, .ref (b + 133)), (1, .int (nI t)), (2, .int (nI (p + 2))), (3, .int 64), (4, .int (nI (L + 1))), (5, .int (nI j))]) (v := nI (p + 2)) B d_M_goThrough_267 (k := 2) rfl (nI_add p 2) (by decide) [1, 2, 0, 3, 4, 5] rfl ?_
  refine j_iload B d_M_goThrough_270 4 rfl ?_
  refine j_if_le B d_M_goThrough_272 rfl (fun h272 => absurd h272 (nI_ge (a := 0) (b := L + 1) (by omega) (by omega))) (fun h272 => ?_)
  refine j_aload_n B d_M_goThrough_275 rfl 0 rfl ?_
  refine j_iload_n B d_M_goThrough_276 rfl 3 rfl ?_
  refine j_iload_n B d_M_goThrough_277 rfl 1 rfl ?_
  refine j_iload_n B d_M_goThrough_278 rfl 2 rfl ?_
  refine j_iload B d_M_goThrough_279 4 rfl ?_
  refine k_callV (as := [.int 64, .int (nI t), .int (nI (p + 2)), .int (nI (L + 1))]) (rest := []) (st1 := []) B (c_M_open_t hl (cc := 64) (t := t) (p := p + 2) (L := L) hdn hop) yf_M_open w_922 w_924 w_s35 rfl (rG (ix := 0) hl rfl) rfl (by decide) (by decide) rfl rfl (Nat.le_of_ble_eq_true rfl) d_M_goThrough_281 ?_
  refine j_iload B d_M_goThrough_284 5 rfl ?_
  refine j_istore_n (L' := [(0, .ref (b + 133)), (1, .int (nI j)), (2, .int (nI (p + 2))), (3, .int 64), (4, .int (nI (L + 1))), (5, .int (nI j))]) B d_M_goThrough_286 rfl (by decide) [1, 0, 2, 3, 4, 5] rfl ?_
  refine j_iconst (v := nI 0) B d_M_goThrough_287 (by decide) ?_
  refine j_istore_n (L' := [(0, .ref (b + 133)), (1, .int (nI j)), (2, .int (nI 0)), (3, .int 64), (4, .int (nI (L + 1))), (5, .int (nI j))]) B d_M_goThrough_288 rfl (by decide) [1, 2, 0, 3, 4, 5] rfl ?_
  refine j_goto B d_M_goThrough_289 rfl ?_
  refine j_goto B d_M_goThrough_323 rfl ?_
  refine jW.sub (L' := [(0, .ref (b + 133)), (1, .int (nI j)), (2, .int (nI 0))]) [0, 1, 2] rfl ?_; exact kk
set_option maxRecDepth 100000 in
set_option maxHeartbeats 4000000 in
theorem g_open64_f {l : Launch} {b : Nat} {D : va_G} {ta : Nat → ClassId} {Γ : jG} {σ : List va_E} (hl : σ.length = 133) {wt : Int32} {F0 : Nat → Int32} {F1 : Nat → Int32} {F2 : Nat → Int32} {HH : Nat → Int32} {kt : Nat → Int32} {kp : Nat → Int32} {a : Nat} {hi : Nat} {tm : Nat} {sN : Nat} {sx : Nat → Int32} {sy : Nat → Int32} {pt : Nat → Int64} {mn : Nat → Int32} {pl : Nat → Int32} {pN : Nat} {px : Nat → Int32} {py : Nat → Int32} {sn : Nat → Int32} {lt : Nat → Int32} {rc : Nat → Int64} {tx : Nat → Int32} {sz : Nat → Int32} {us : Nat → Int32} {D0 : Nat → Int32} {D1 : Nat → Int32} {D2 : Nat → Int32} {qx : Int32} {qy : Int32} {di : Nat} {up : Bool} {dn : Nat} {op : Nat} {gs : Nat → Int32} {t0 : Nat → Int32} {fr : Nat → Int32} {lf : Nat → Int32} {pX : Nat → Int32} {pY : Nat → Int32} {pD : Nat → Int32} {pU : Nat → Int32} {X : List va_E} (B : jB l b D ta Γ "WireFieldModel" b_M_goThrough none 6 (rL 5)) {t p N : Nat} (ht : t < 5) (hz : sz t = nI N) (hN : N ≤ 60) (hp : p ≤ 62) {L : Nat} (hL9 : L < 100) (hop : op < 32) (hdn : 400 ≤ dn) (hd2 : dn < 2 ^ 20) {j : Nat} (hj : sg (fun i => tx (60 * t + i)) N (p + 1) - 97 = nI j) (kk : jW l b D Γ False 0 0 6 (σ ++ rC b ta wt F0 F1 F2 HH kt kp a hi tm sN sx sy pt mn pl pN px py sn lt rc tx sz us D0 D1 D2 qx qy di up (dn + 1) true (op + 1) (upd gs op 64) (upd t0 op (nI t)) (upd fr op (nI (p + 2))) (upd (upd lf op (nI (L + 1))) op (nI L)) (upd pX op qx) (upd pY op qy) (upd pD op (nI di)) (upd pU op (vp_nar .boolean (bI up))) X) [(0, .ref (b + 133)), (1, .int (nI j)), (2, .int (nI 0))] 9 []) : jW l b D Γ False 0 0 6 (σ ++ rC b ta wt F0 F1 F2 HH kt kp a hi tm sN sx sy pt mn pl pN px py sn lt rc tx sz us D0 D1 D2 qx qy di up dn false op gs t0 fr lf pX pY pD pU X) [(0, .ref (b + 133)), (1, .int (nI t)), (2, .int (nI p)), (3, .int 64), (4, .int (nI (L + 1)))] 199 [] := by
  refine j_iload_n B d_M_goThrough_199 rfl 3 rfl ?_
  refine j_bipush (v := 40) B d_M_goThrough_200 (by decide) ?_
  refine j_icmp_eq B d_M_goThrough_202 rfl (fun h202 => absurd h202 (by decide)) (fun h202 => ?_)
  refine j_iload_n B d_M_goThrough_205 rfl 3 rfl ?_
  refine j_bipush (v := 91) B d_M_goThrough_206 (by decide) ?_
  refine j_icmp_ne B d_M_goThrough_208 rfl (fun h208 => ?_) (fun h208 => absurd h208 (by decide))
  refine j_iload_n B d_M_goThrough_248 rfl 3 rfl ?_
  refine j_bipush (v := 64) B d_M_goThrough_249 (by decide) ?_
  refine j_icmp_ne B d_M_goThrough_251 rfl (fun h251 => absurd rfl h251) (fun h251 => ?_)
  refine j_aload_n B d_M_goThrough_254 rfl 0 rfl ?_
  refine j_iload_n B d_M_goThrough_255 rfl 1 rfl ?_
  refine j_iload_n B d_M_goThrough_256 rfl 2 rfl ?_
  refine j_iconst (v := 1) B d_M_goThrough_257 (by decide) ?_
  refine j_iaddE (v := nI (p + 1)) B (nI_add p 1) d_M_goThrough_258 ?_
  refine k_callV (as := [.int (nI t), .int (nI (p + 1))]) (rest := []) (st1 := [.int (sg (fun i => tx (60 * t + i)) N (p + 1))]) B (c_M_sign hl (t := t) (N := N) (p := (p + 1)) ht hz hN (by omega)) yf_M_sign w_885 w_887 w_s29 rfl (rG (ix := 0) hl rfl) rfl (by decide) (by decide) rfl rfl (Nat.le_of_ble_eq_true rfl) d_M_goThrough_259 ?_
  refine j_bipush (v := 97) B d_M_goThrough_262 (by decide) ?_
  refine j_isubE (v := nI j) B hj d_M_goThrough_264 ?_
  refine j_istore (L' := [(0, .ref (b + 133)), (1, .int (nI t)), (2, .int (nI p)), (3, .int 64), (4, .int (nI (L + 1))), (5, .int (nI j))]) B d_M_goThrough_265 (by decide) [1, 2, 3, 4, 5, 0] rfl ?_
  refine j_iinc (L' := [(0, .ref (b + 133)), (1, .int (nI t)), (2, .int (nI (p + 2))), (3, .int 64), (4, .int (nI (L + 1))), (5, .int (nI j))]) (v := nI (p + 2)) B d_M_goThrough_267 (k := 2) rfl (nI_add p 2) (by decide) [1, 2, 0, 3, 4, 5] rfl ?_
  refine j_iload B d_M_goThrough_270 4 rfl ?_
  refine j_if_le B d_M_goThrough_272 rfl (fun h272 => absurd h272 (nI_ge (a := 0) (b := L + 1) (by omega) (by omega))) (fun h272 => ?_)
  refine j_aload_n B d_M_goThrough_275 rfl 0 rfl ?_
  refine j_iload_n B d_M_goThrough_276 rfl 3 rfl ?_
  refine j_iload_n B d_M_goThrough_277 rfl 1 rfl ?_
  refine j_iload_n B d_M_goThrough_278 rfl 2 rfl ?_
  refine j_iload B d_M_goThrough_279 4 rfl ?_
  refine k_callV (as := [.int 64, .int (nI t), .int (nI (p + 2)), .int (nI (L + 1))]) (rest := []) (st1 := []) B (c_M_open_f hl (cc := 64) (t := t) (p := p + 2) (L := L) hdn hd2 hop) yf_M_open w_922 w_924 w_s35 rfl (rG (ix := 0) hl rfl) rfl (by decide) (by decide) rfl rfl (Nat.le_of_ble_eq_true rfl) d_M_goThrough_281 ?_
  refine j_iload B d_M_goThrough_284 5 rfl ?_
  refine j_istore_n (L' := [(0, .ref (b + 133)), (1, .int (nI j)), (2, .int (nI (p + 2))), (3, .int 64), (4, .int (nI (L + 1))), (5, .int (nI j))]) B d_M_goThrough_286 rfl (by decide) [1, 0, 2, 3, 4, 5] rfl ?_
  refine j_iconst (v := nI 0) B d_M_goThrough_287 (by decide) ?_
  refine j_istore_n (L' := [(0, .ref (b + 133)), (1, .int (nI j)), (2, .int (nI 0)), (3, .int 64), (4, .int (nI (L + 1))), (5, .int (nI j))]) B d_M_goThrough_288 rfl (by decide) [1, 2, 0, 3, 4, 5] rfl ?_
  refine j_goto B d_M_goThrough_289 rfl ?_
  refine j_goto B d_M_goThrough_323 rfl ?_
  refine jW.sub (L' := [(0, .ref (b + 133)), (1, .int (nI j)), (2, .int (nI 0))]) [0, 1, 2] rfl ?_; exact kk
set_option maxRecDepth 100000 in
set_option maxHeartbeats 4000000 in
theorem g_skip64 {l : Launch} {b : Nat} {D : va_G} {ta : Nat → ClassId} {Γ : jG} {σ : List va_E} (hl : σ.length = 133) {wt : Int32} {F0 : Nat → Int32} {F1 : Nat → Int32} {F2 : Nat → Int32} {HH : Nat → Int32} {kt : Nat → Int32} {kp : Nat → Int32} {a : Nat} {hi : Nat} {tm : Nat} {sN : Nat} {sx : Nat → Int32} {sy : Nat → Int32} {pt : Nat → Int64} {mn : Nat → Int32} {pl : Nat → Int32} {pN : Nat} {px : Nat → Int32} {py : Nat → Int32} {sn : Nat → Int32} {lt : Nat → Int32} {rc : Nat → Int64} {tx : Nat → Int32} {sz : Nat → Int32} {us : Nat → Int32} {D0 : Nat → Int32} {D1 : Nat → Int32} {D2 : Nat → Int32} {qx : Int32} {qy : Int32} {di : Nat} {up : Bool} {dn : Nat} {op : Nat} {gs : Nat → Int32} {t0 : Nat → Int32} {fr : Nat → Int32} {lf : Nat → Int32} {pX : Nat → Int32} {pY : Nat → Int32} {pD : Nat → Int32} {pU : Nat → Int32} {X : List va_E} (B : jB l b D ta Γ "WireFieldModel" b_M_goThrough none 6 (rL 5)) {t p N : Nat} (ht : t < 5) (hz : sz t = nI N) (hN : N ≤ 60) (hp : p ≤ 62) (kk : jW l b D Γ False 0 0 6 (σ ++ rC b ta wt F0 F1 F2 HH kt kp a hi tm sN sx sy pt mn pl pN px py sn lt rc tx sz us D0 D1 D2 qx qy di up dn false op gs t0 fr lf pX pY pD pU X) [(0, .ref (b + 133)), (1, .int (nI t)), (2, .int (nI (p + 2)))] 9 []) : jW l b D Γ False 0 0 6 (σ ++ rC b ta wt F0 F1 F2 HH kt kp a hi tm sN sx sy pt mn pl pN px py sn lt rc tx sz us D0 D1 D2 qx qy di up dn false op gs t0 fr lf pX pY pD pU X) [(0, .ref (b + 133)), (1, .int (nI t)), (2, .int (nI p)), (3, .int 64), (4, .int (nI 0))] 199 [] := by
  refine j_iload_n B d_M_goThrough_199 rfl 3 rfl ?_
  refine j_bipush (v := 40) B d_M_goThrough_200 (by decide) ?_
  refine j_icmp_eq B d_M_goThrough_202 rfl (fun h202 => absurd h202 (by decide)) (fun h202 => ?_)
  refine j_iload_n B d_M_goThrough_205 rfl 3 rfl ?_
  refine j_bipush (v := 91) B d_M_goThrough_206 (by decide) ?_
  refine j_icmp_ne B d_M_goThrough_208 rfl (fun h208 => ?_) (fun h208 => absurd h208 (by decide))
  refine j_iload_n B d_M_goThrough_248 rfl 3 rfl ?_
  refine j_bipush (v := 64) B d_M_goThrough_249 (by decide) ?_
  refine j_icmp_ne B d_M_goThrough_251 rfl (fun h251 => absurd rfl h251) (fun h251 => ?_)
  refine j_aload_n B d_M_goThrough_254 rfl 0 rfl ?_
  refine j_iload_n B d_M_goThrough_255 rfl 1 rfl ?_
  refine j_iload_n B d_M_goThrough_256 rfl 2 rfl ?_
  refine j_iconst (v := 1) B d_M_goThrough_257 (by decide) ?_
  refine j_iaddE (v := nI (p + 1)) B (nI_add p 1) d_M_goThrough_258 ?_
  refine k_callV (as := [.int (nI t), .int (nI (p + 1))]) (rest := []) (st1 := [.int (sg (fun i => tx (60 * t + i)) N (p + 1))]) B (c_M_sign hl (t := t) (N := N) (p := (p + 1)) ht hz hN (by omega)) yf_M_sign w_885 w_887 w_s29 rfl (rG (ix := 0) hl rfl) rfl (by decide) (by decide) rfl rfl (Nat.le_of_ble_eq_true rfl) d_M_goThrough_259 ?_
  refine j_bipush (v := 97) B d_M_goThrough_262 (by decide) ?_
  refine j_isub B d_M_goThrough_264 ?_
  refine j_istore (L' := [(0, .ref (b + 133)), (1, .int (nI t)), (2, .int (nI p)), (3, .int 64), (4, .int (nI 0)), (5, .int ((sg (fun i => tx (60 * t + i)) N (p + 1)) - 97))]) B d_M_goThrough_265 (by decide) [1, 2, 3, 4, 5, 0] rfl ?_
  refine j_iinc (L' := [(0, .ref (b + 133)), (1, .int (nI t)), (2, .int (nI (p + 2))), (3, .int 64), (4, .int (nI 0)), (5, .int ((sg (fun i => tx (60 * t + i)) N (p + 1)) - 97))]) (v := nI (p + 2)) B d_M_goThrough_267 (k := 2) rfl (nI_add p 2) (by decide) [1, 2, 0, 3, 4, 5] rfl ?_
  refine j_iload B d_M_goThrough_270 4 rfl ?_
  refine j_if_le B d_M_goThrough_272 rfl (fun h272 => ?_) (fun h272 => absurd (by decide) h272)
  refine j_goto B d_M_goThrough_289 rfl ?_
  refine j_goto B d_M_goThrough_323 rfl ?_
  refine jW.sub (L' := [(0, .ref (b + 133)), (1, .int (nI t)), (2, .int (nI (p + 2)))]) [0, 1, 2] rfl ?_; exact kk
set_option maxRecDepth 100000 in
set_option maxHeartbeats 4000000 in
theorem g_sing0 {l : Launch} {b : Nat} {D : va_G} {ta : Nat → ClassId} {Γ : jG} {σ : List va_E} (hl : σ.length = 133) {wt : Int32} {F0 : Nat → Int32} {F1 : Nat → Int32} {F2 : Nat → Int32} {HH : Nat → Int32} {kt : Nat → Int32} {kp : Nat → Int32} {a : Nat} {hi : Nat} {tm : Nat} {sN : Nat} {sx : Nat → Int32} {sy : Nat → Int32} {pt : Nat → Int64} {mn : Nat → Int32} {pl : Nat → Int32} {pN : Nat} {px : Nat → Int32} {py : Nat → Int32} {sn : Nat → Int32} {lt : Nat → Int32} {rc : Nat → Int64} {tx : Nat → Int32} {sz : Nat → Int32} {us : Nat → Int32} {D0 : Nat → Int32} {D1 : Nat → Int32} {D2 : Nat → Int32} {qx : Int32} {qy : Int32} {di : Nat} {up : Bool} {dn : Nat} {op : Nat} {gs : Nat → Int32} {t0 : Nat → Int32} {fr : Nat → Int32} {lf : Nat → Int32} {pX : Nat → Int32} {pY : Nat → Int32} {pD : Nat → Int32} {pU : Nat → Int32} {X : List va_E} (B : jB l b D ta Γ "WireFieldModel" b_M_goThrough none 6 (rL 5)) {t p T : Nat} {ch : Int32} (n1 : ¬ ch = 40) (n2 : ¬ ch = 91) (n3 : ¬ ch = 64) (kk : jW l b D Γ False 0 0 6 (σ ++ rC b ta wt F0 F1 F2 HH kt kp a hi tm sN sx sy pt mn pl pN px py sn lt rc tx sz us D0 D1 D2 qx qy di up dn false op gs t0 fr lf pX pY pD pU X) [(0, .ref (b + 133)), (1, .int (nI t)), (2, .int (nI p)), (3, .int ch), (4, .int (nI T)), (5, .int (nI 0))] 295 []) : jW l b D Γ False 0 0 6 (σ ++ rC b ta wt F0 F1 F2 HH kt kp a hi tm sN sx sy pt mn pl pN px py sn lt rc tx sz us D0 D1 D2 qx qy di up dn false op gs t0 fr lf pX pY pD pU X) [(0, .ref (b + 133)), (1, .int (nI t)), (2, .int (nI p)), (3, .int ch), (4, .int (nI T))] 199 [] := by
  refine j_iload_n B d_M_goThrough_199 rfl 3 rfl ?_
  refine j_bipush (v := 40) B d_M_goThrough_200 (by decide) ?_
  refine j_icmp_eq B d_M_goThrough_202 rfl (fun h202 => absurd h202 n1) (fun h202 => ?_)
  refine j_iload_n B d_M_goThrough_205 rfl 3 rfl ?_
  refine j_bipush (v := 91) B d_M_goThrough_206 (by decide) ?_
  refine j_icmp_ne B d_M_goThrough_208 rfl (fun h208 => ?_) (fun h208 => absurd h208 n2)
  refine j_iload_n B d_M_goThrough_248 rfl 3 rfl ?_
  refine j_bipush (v := 64) B d_M_goThrough_249 (by decide) ?_
  refine j_icmp_ne B d_M_goThrough_251 rfl (fun h251 => ?_) (fun h251 => absurd h251 n3)
  refine j_iconst (v := nI 0) B d_M_goThrough_292 (by decide) ?_
  refine j_istore (L' := [(0, .ref (b + 133)), (1, .int (nI t)), (2, .int (nI p)), (3, .int ch), (4, .int (nI T)), (5, .int (nI 0))]) B d_M_goThrough_293 (by decide) [1, 2, 3, 4, 5, 0] rfl ?_
  exact kk
set_option maxRecDepth 100000 in
set_option maxHeartbeats 4000000 in
theorem g_sing1 {l : Launch} {b : Nat} {D : va_G} {ta : Nat → ClassId} {Γ : jG} {σ : List va_E} (hl : σ.length = 133) {wt : Int32} {F0 : Nat → Int32} {F1 : Nat → Int32} {F2 : Nat → Int32} {HH : Nat → Int32} {kt : Nat → Int32} {kp : Nat → Int32} {a : Nat} {hi : Nat} {tm : Nat} {sN : Nat} {sx : Nat → Int32} {sy : Nat → Int32} {pt : Nat → Int64} {mn : Nat → Int32} {pl : Nat → Int32} {pN : Nat} {px : Nat → Int32} {py : Nat → Int32} {sn : Nat → Int32} {lt : Nat → Int32} {rc : Nat → Int64} {tx : Nat → Int32} {sz : Nat → Int32} {us : Nat → Int32} {D0 : Nat → Int32} {D1 : Nat → Int32} {D2 : Nat → Int32} {qx : Int32} {qy : Int32} {di : Nat} {up : Bool} {dn : Nat} {op : Nat} {gs : Nat → Int32} {t0 : Nat → Int32} {fr : Nat → Int32} {lf : Nat → Int32} {pX : Nat → Int32} {pY : Nat → Int32} {pD : Nat → Int32} {pU : Nat → Int32} {X : List va_E} (B : jB l b D ta Γ "WireFieldModel" b_M_goThrough none 6 (rL 5)) {t p T : Nat} {ch : Int32} {x2 : Int32} {y2 : Int32} {d2 : Nat} {u2 : Bool} {o2 : Nat} {b2 : Bool} {E0 : Nat → Int32} {E1 : Nat → Int32} {E2 : Nat → Int32} {k : Nat} (hk : k < T) (hT : T ≤ 99) (hob : jC l b D ta False y_M_obey b_M_obey 4 none (rL 3) [.ref (b + 133), .int ch] (σ ++ rC b ta wt F0 F1 F2 HH kt kp a hi tm sN sx sy pt mn pl pN px py sn lt rc tx sz us D0 D1 D2 qx qy di up dn false op gs t0 fr lf pX pY pD pU X) none (σ ++ rC b ta wt F0 F1 F2 HH kt kp a hi tm sN sx sy pt mn pl pN px py sn lt rc tx sz us E0 E1 E2 x2 y2 d2 u2 o2 b2 op gs t0 fr lf pX pY pD pU X)) (kk : jW l b D Γ False 0 0 6 (σ ++ rC b ta wt F0 F1 F2 HH kt kp a hi tm sN sx sy pt mn pl pN px py sn lt rc tx sz us E0 E1 E2 x2 y2 d2 u2 o2 b2 op gs t0 fr lf pX pY pD pU X) [(0, .ref (b + 133)), (1, .int (nI t)), (2, .int (nI p)), (3, .int ch), (4, .int (nI T)), (5, .int (nI (k + 1)))] 295 []) : jW l b D Γ False 0 0 6 (σ ++ rC b ta wt F0 F1 F2 HH kt kp a hi tm sN sx sy pt mn pl pN px py sn lt rc tx sz us D0 D1 D2 qx qy di up dn false op gs t0 fr lf pX pY pD pU X) [(0, .ref (b + 133)), (1, .int (nI t)), (2, .int (nI p)), (3, .int ch), (4, .int (nI T)), (5, .int (nI k))] 295 [] := by
  refine j_iload B d_M_goThrough_295 5 rfl ?_
  refine j_iload B d_M_goThrough_297 4 rfl ?_
  refine j_icmp_ge B d_M_goThrough_299 rfl (fun h299 => absurd h299 (nI_ge hk (by omega))) (fun h299 => ?_)
  refine j_aload_n B d_M_goThrough_302 rfl 0 rfl ?_
  refine gf_M_159 B (rG (ix := 0) hl rfl) rfl d_M_goThrough_303 ?_
  refine j_if_ne B d_M_goThrough_306 rfl (fun h306 => absurd rfl h306) (fun h306 => ?_)
  refine j_aload_n B d_M_goThrough_309 rfl 0 rfl ?_
  refine j_iload_n B d_M_goThrough_310 rfl 3 rfl ?_
  refine k_callV (as := [.int ch]) (rest := []) (st1 := []) B hob yf_M_obey w_930 w_932 w_s37 rfl (rG (ix := 0) hl rfl) rfl (by decide) (by decide) rfl rfl (Nat.le_of_ble_eq_true rfl) d_M_goThrough_311 ?_
  refine j_iinc (L' := [(0, .ref (b + 133)), (1, .int (nI t)), (2, .int (nI p)), (3, .int ch), (4, .int (nI T)), (5, .int (nI (k + 1)))]) (v := nI (k + 1)) B d_M_goThrough_314 (k := 5) rfl (nI_succ k).symm (by decide) [1, 2, 3, 4, 5, 0] rfl ?_
  refine j_goto B d_M_goThrough_317 rfl ?_
  exact kk
set_option maxRecDepth 100000 in
set_option maxHeartbeats 4000000 in
theorem g_singE {l : Launch} {b : Nat} {D : va_G} {ta : Nat → ClassId} {Γ : jG} {σ : List va_E} (hl : σ.length = 133) {wt : Int32} {F0 : Nat → Int32} {F1 : Nat → Int32} {F2 : Nat → Int32} {HH : Nat → Int32} {kt : Nat → Int32} {kp : Nat → Int32} {a : Nat} {hi : Nat} {tm : Nat} {sN : Nat} {sx : Nat → Int32} {sy : Nat → Int32} {pt : Nat → Int64} {mn : Nat → Int32} {pl : Nat → Int32} {pN : Nat} {px : Nat → Int32} {py : Nat → Int32} {sn : Nat → Int32} {lt : Nat → Int32} {rc : Nat → Int64} {tx : Nat → Int32} {sz : Nat → Int32} {us : Nat → Int32} {D0 : Nat → Int32} {D1 : Nat → Int32} {D2 : Nat → Int32} {qx : Int32} {qy : Int32} {di : Nat} {up : Bool} {dn : Nat} {be : Bool} {op : Nat} {gs : Nat → Int32} {t0 : Nat → Int32} {fr : Nat → Int32} {lf : Nat → Int32} {pX : Nat → Int32} {pY : Nat → Int32} {pD : Nat → Int32} {pU : Nat → Int32} {X : List va_E} (B : jB l b D ta Γ "WireFieldModel" b_M_goThrough none 6 (rL 5)) {t p T : Nat} {ch : Int32} (kk : jW l b D Γ False 0 0 6 (σ ++ rC b ta wt F0 F1 F2 HH kt kp a hi tm sN sx sy pt mn pl pN px py sn lt rc tx sz us D0 D1 D2 qx qy di up dn be op gs t0 fr lf pX pY pD pU X) [(0, .ref (b + 133)), (1, .int (nI t)), (2, .int (nI (p + 1)))] 9 []) : jW l b D Γ False 0 0 6 (σ ++ rC b ta wt F0 F1 F2 HH kt kp a hi tm sN sx sy pt mn pl pN px py sn lt rc tx sz us D0 D1 D2 qx qy di up dn be op gs t0 fr lf pX pY pD pU X) [(0, .ref (b + 133)), (1, .int (nI t)), (2, .int (nI p)), (3, .int ch), (4, .int (nI T)), (5, .int (nI T))] 295 [] := by
  refine j_iload B d_M_goThrough_295 5 rfl ?_
  refine j_iload B d_M_goThrough_297 4 rfl ?_
  refine j_icmp_ge B d_M_goThrough_299 rfl (fun h299 => ?_) (fun h299 => absurd (Int32.le_refl _) h299)
  refine j_iinc (L' := [(0, .ref (b + 133)), (1, .int (nI t)), (2, .int (nI (p + 1))), (3, .int ch), (4, .int (nI T)), (5, .int (nI T))]) (v := nI (p + 1)) B d_M_goThrough_320 (k := 2) rfl (nI_succ p).symm (by decide) [1, 2, 0, 3, 4, 5] rfl ?_
  refine j_goto B d_M_goThrough_323 rfl ?_
  refine jW.sub (L' := [(0, .ref (b + 133)), (1, .int (nI t)), (2, .int (nI (p + 1)))]) [0, 1, 2] rfl ?_; exact kk
set_option maxRecDepth 100000 in
set_option maxHeartbeats 4000000 in
theorem g_singF {l : Launch} {b : Nat} {D : va_G} {ta : Nat → ClassId} {Γ : jG} {σ : List va_E} (hl : σ.length = 133) {wt : Int32} {F0 : Nat → Int32} {F1 : Nat → Int32} {F2 : Nat → Int32} {HH : Nat → Int32} {kt : Nat → Int32} {kp : Nat → Int32} {a : Nat} {hi : Nat} {tm : Nat} {sN : Nat} {sx : Nat → Int32} {sy : Nat → Int32} {pt : Nat → Int64} {mn : Nat → Int32} {pl : Nat → Int32} {pN : Nat} {px : Nat → Int32} {py : Nat → Int32} {sn : Nat → Int32} {lt : Nat → Int32} {rc : Nat → Int64} {tx : Nat → Int32} {sz : Nat → Int32} {us : Nat → Int32} {D0 : Nat → Int32} {D1 : Nat → Int32} {D2 : Nat → Int32} {qx : Int32} {qy : Int32} {di : Nat} {up : Bool} {dn : Nat} {op : Nat} {gs : Nat → Int32} {t0 : Nat → Int32} {fr : Nat → Int32} {lf : Nat → Int32} {pX : Nat → Int32} {pY : Nat → Int32} {pD : Nat → Int32} {pU : Nat → Int32} {X : List va_E} (B : jB l b D ta Γ "WireFieldModel" b_M_goThrough none 6 (rL 5)) {t p T : Nat} {ch : Int32} {k : Nat} (hk : k < T) (hT : T ≤ 99) (kk : jW l b D Γ False 0 0 6 (σ ++ rC b ta wt F0 F1 F2 HH kt kp a hi tm sN sx sy pt mn pl pN px py sn lt rc tx sz us D0 D1 D2 qx qy di up dn true op gs t0 fr lf pX pY pD pU X) [(0, .ref (b + 133)), (1, .int (nI t)), (2, .int (nI (p + 1)))] 9 []) : jW l b D Γ False 0 0 6 (σ ++ rC b ta wt F0 F1 F2 HH kt kp a hi tm sN sx sy pt mn pl pN px py sn lt rc tx sz us D0 D1 D2 qx qy di up dn true op gs t0 fr lf pX pY pD pU X) [(0, .ref (b + 133)), (1, .int (nI t)), (2, .int (nI p)), (3, .int ch), (4, .int (nI T)), (5, .int (nI k))] 295 [] := by
  refine j_iload B d_M_goThrough_295 5 rfl ?_
  refine j_iload B d_M_goThrough_297 4 rfl ?_
  refine j_icmp_ge B d_M_goThrough_299 rfl (fun h299 => absurd h299 (nI_ge hk (by omega))) (fun h299 => ?_)
  refine j_aload_n B d_M_goThrough_302 rfl 0 rfl ?_
  refine gf_M_159 B (rG (ix := 0) hl rfl) rfl d_M_goThrough_303 ?_
  refine j_if_ne B d_M_goThrough_306 rfl (fun h306 => ?_) (fun h306 => absurd h306 (by decide))
  refine j_iinc (L' := [(0, .ref (b + 133)), (1, .int (nI t)), (2, .int (nI (p + 1))), (3, .int ch), (4, .int (nI T)), (5, .int (nI k))]) (v := nI (p + 1)) B d_M_goThrough_320 (k := 2) rfl (nI_succ p).symm (by decide) [1, 2, 0, 3, 4, 5] rfl ?_
  refine j_goto B d_M_goThrough_323 rfl ?_
  refine jW.sub (L' := [(0, .ref (b + 133)), (1, .int (nI t)), (2, .int (nI (p + 1)))]) [0, 1, 2] rfl ?_; exact kk
set_option maxRecDepth 100000 in
set_option maxHeartbeats 4000000 in
theorem g_beyond {l : Launch} {b : Nat} {D : va_G} {ta : Nat → ClassId} {Γ : jG} {σ : List va_E} (hl : σ.length = 133) {wt : Int32} {F0 : Nat → Int32} {F1 : Nat → Int32} {F2 : Nat → Int32} {HH : Nat → Int32} {kt : Nat → Int32} {kp : Nat → Int32} {a : Nat} {hi : Nat} {tm : Nat} {sN : Nat} {sx : Nat → Int32} {sy : Nat → Int32} {pt : Nat → Int64} {mn : Nat → Int32} {pl : Nat → Int32} {pN : Nat} {px : Nat → Int32} {py : Nat → Int32} {sn : Nat → Int32} {lt : Nat → Int32} {rc : Nat → Int64} {tx : Nat → Int32} {sz : Nat → Int32} {us : Nat → Int32} {D0 : Nat → Int32} {D1 : Nat → Int32} {D2 : Nat → Int32} {qx : Int32} {qy : Int32} {di : Nat} {up : Bool} {dn : Nat} {op : Nat} {gs : Nat → Int32} {t0 : Nat → Int32} {fr : Nat → Int32} {lf : Nat → Int32} {pX : Nat → Int32} {pY : Nat → Int32} {pD : Nat → Int32} {pU : Nat → Int32} {X : List va_E} (B : jB l b D ta Γ "WireFieldModel" b_M_goThrough none 6 (rL 5)) {t p : Nat} (K : jR b D False Γ none (σ ++ rC b ta wt F0 F1 F2 HH kt kp a hi tm sN sx sy pt mn pl pN px py sn lt rc tx sz us D0 D1 D2 qx qy di up dn true op gs t0 fr lf pX pY pD pU X) 0 0) : jW l b D Γ False 0 0 6 (σ ++ rC b ta wt F0 F1 F2 HH kt kp a hi tm sN sx sy pt mn pl pN px py sn lt rc tx sz us D0 D1 D2 qx qy di up dn true op gs t0 fr lf pX pY pD pU X) [(0, .ref (b + 133)), (1, .int (nI t)), (2, .int (nI p))] 9 [] := by
  refine j_aload_n B d_M_goThrough_9 rfl 0 rfl ?_
  refine gf_M_159 B (rG (ix := 0) hl rfl) rfl d_M_goThrough_10 ?_
  refine j_if_ne B d_M_goThrough_13 rfl (fun h13 => ?_) (fun h13 => absurd h13 (by decide))
  exact j_vret B K rfl d_M_goThrough_326
set_option maxRecDepth 100000 in
set_option maxHeartbeats 4000000 in
theorem g_end {l : Launch} {b : Nat} {D : va_G} {ta : Nat → ClassId} {Γ : jG} {σ : List va_E} (hl : σ.length = 133) {wt : Int32} {F0 : Nat → Int32} {F1 : Nat → Int32} {F2 : Nat → Int32} {HH : Nat → Int32} {kt : Nat → Int32} {kp : Nat → Int32} {a : Nat} {hi : Nat} {tm : Nat} {sN : Nat} {sx : Nat → Int32} {sy : Nat → Int32} {pt : Nat → Int64} {mn : Nat → Int32} {pl : Nat → Int32} {pN : Nat} {px : Nat → Int32} {py : Nat → Int32} {sn : Nat → Int32} {lt : Nat → Int32} {rc : Nat → Int64} {tx : Nat → Int32} {sz : Nat → Int32} {us : Nat → Int32} {D0 : Nat → Int32} {D1 : Nat → Int32} {D2 : Nat → Int32} {qx : Int32} {qy : Int32} {di : Nat} {up : Bool} {dn : Nat} {op : Nat} {gs : Nat → Int32} {t0 : Nat → Int32} {fr : Nat → Int32} {lf : Nat → Int32} {pX : Nat → Int32} {pY : Nat → Int32} {pD : Nat → Int32} {pU : Nat → Int32} {X : List va_E} (B : jB l b D ta Γ "WireFieldModel" b_M_goThrough none 6 (rL 5)) {N : Nat} (hz : sz 4 = nI N) (K : jR b D False Γ none (σ ++ rC b ta wt F0 F1 F2 HH kt kp a hi tm sN sx sy pt mn pl pN px py sn lt rc tx sz us D0 D1 D2 qx qy di up dn false op gs t0 fr lf pX pY pD pU X) 0 0) : jW l b D Γ False 0 0 6 (σ ++ rC b ta wt F0 F1 F2 HH kt kp a hi tm sN sx sy pt mn pl pN px py sn lt rc tx sz us D0 D1 D2 qx qy di up dn false op gs t0 fr lf pX pY pD pU X) [(0, .ref (b + 133)), (1, .int (nI 4)), (2, .int (nI N))] 9 [] := by
  refine j_aload_n B d_M_goThrough_9 rfl 0 rfl ?_
  refine gf_M_159 B (rG (ix := 0) hl rfl) rfl d_M_goThrough_10 ?_
  refine j_if_ne B d_M_goThrough_13 rfl (fun h13 => absurd rfl h13) (fun h13 => ?_)
  refine j_iload_n B d_M_goThrough_16 rfl 1 rfl ?_
  refine j_iconst (v := 4) B d_M_goThrough_17 (by decide) ?_
  refine j_icmp_lt B d_M_goThrough_18 rfl (fun h18 => absurd h18 (by decide)) (fun h18 => ?_)
  refine j_iload_n B d_M_goThrough_21 rfl 2 rfl ?_
  refine j_aload_n B d_M_goThrough_22 rfl 0 rfl ?_
  refine gf_M_62 B (rG (ix := 0) hl rfl) rfl d_M_goThrough_23 ?_
  refine j_iconst (v := nI 4) B d_M_goThrough_26 (by decide) ?_
  refine j_ialdN B rfl (rG (ix := 18) hl rfl) (by omega) d_M_goThrough_27 ?_
  rw [hz]
  refine j_icmp_ge B d_M_goThrough_28 rfl (fun h28 => ?_) (fun h28 => absurd (Int32.le_refl _) h28)
  exact j_vret B K rfl d_M_goThrough_326
set_option maxRecDepth 100000 in
set_option maxHeartbeats 4000000 in
theorem g_start {l : Launch} {b : Nat} {D : va_G} {ta : Nat → ClassId} {Γ : jG} {σ : List va_E} (hl : σ.length = 133) {wt : Int32} {F0 : Nat → Int32} {F1 : Nat → Int32} {F2 : Nat → Int32} {HH : Nat → Int32} {kt : Nat → Int32} {kp : Nat → Int32} {a : Nat} {hi : Nat} {tm : Nat} {sN : Nat} {sx : Nat → Int32} {sy : Nat → Int32} {pt : Nat → Int64} {mn : Nat → Int32} {pl : Nat → Int32} {pN : Nat} {px : Nat → Int32} {py : Nat → Int32} {sn : Nat → Int32} {lt : Nat → Int32} {rc : Nat → Int64} {tx : Nat → Int32} {sz : Nat → Int32} {us : Nat → Int32} {D0 : Nat → Int32} {D1 : Nat → Int32} {D2 : Nat → Int32} {qx : Int32} {qy : Int32} {di : Nat} {up : Bool} {dn : Nat} {op : Nat} {gs : Nat → Int32} {t0 : Nat → Int32} {fr : Nat → Int32} {lf : Nat → Int32} {pX : Nat → Int32} {pY : Nat → Int32} {pD : Nat → Int32} {pU : Nat → Int32} {X : List va_E} (B : jB l b D ta Γ "WireFieldModel" b_M_goThrough none 6 (rL 5)) (kk : jW l b D Γ False 0 0 6 (σ ++ rC b ta wt F0 F1 F2 HH kt kp a hi tm sN sx sy pt mn pl pN px py sn lt rc tx sz us D0 D1 D2 qx qy di up dn false 0 gs t0 fr lf pX pY pD pU X) [(0, .ref (b + 133)), (1, .int (nI 4)), (2, .int (nI 0))] 9 []) : jW l b D Γ False 0 0 6 (σ ++ rC b ta wt F0 F1 F2 HH kt kp a hi tm sN sx sy pt mn pl pN px py sn lt rc tx sz us D0 D1 D2 qx qy di up dn false op gs t0 fr lf pX pY pD pU X) [(0, .ref (b + 133))] 0 [] := by
  refine j_iconst (v := nI 4) B d_M_goThrough_0 (by decide) ?_
  refine j_istore_n (L' := [(0, .ref (b + 133)), (1, .int (nI 4))]) B d_M_goThrough_1 rfl (by decide) [1, 0] rfl ?_
  refine j_iconst (v := nI 0) B d_M_goThrough_2 (by decide) ?_
  refine j_istore_n (L' := [(0, .ref (b + 133)), (1, .int (nI 4)), (2, .int (nI 0))]) B d_M_goThrough_3 rfl (by decide) [1, 2, 0] rfl ?_
  refine j_aload_n B d_M_goThrough_4 rfl 0 rfl ?_
  refine j_iconst (v := 0) B d_M_goThrough_5 (by decide) ?_
  refine pf_M_196 B not_false (rG (ix := 0) hl rfl) rfl rfl (Nat.le_of_ble_eq_true rfl) d_M_goThrough_6 ?_
  refine jW.heap (σ2 := σ ++ rC b ta wt F0 F1 F2 HH kt kp a hi tm sN sx sy pt mn pl pN px py sn lt rc tx sz us D0 D1 D2 qx qy di up dn false 0 gs t0 fr lf pX pY pD pU X) (rT (ix := 0) hl rfl) ?_
  exact kk
