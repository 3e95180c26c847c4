theorem c_M_stepT_00 {l : Launch} {b : Nat} {D : va_G} {ta : Nat → ClassId} {σ : List va_E} (hl : σ.length = 133) {wt : Int32} {F0 : Nat → Int32} {F1 : Nat → Int32} {F2 : Nat → Int32} {HH : Nat → Int32} {kt : Nat → Int32} {kp : Nat → Int32} {a : Nat} {hi : Nat} {tm : Nat} {sN : Nat} {sx : Nat → Int32} {sy : Nat → Int32} {pt : Nat → Int64} {mn : Nat → Int32} {pl : Nat → Int32} {pN : Nat} {px : Nat → Int32} {py : Nat → Int32} {sn : Nat → Int32} {lt : Nat → Int32} {rc : Nat → Int64} {tx : Nat → Int32} {sz : Nat → Int32} {us : Nat → Int32} {di : Nat} {up : Bool} {dn : Nat} {op : Nat} {gs : Nat → Int32} {t0 : Nat → Int32} {fr : Nat → Int32} {lf : Nat → Int32} {pX : Nat → Int32} {pY : Nat → Int32} {pD : Nat → Int32} {pU : Nat → Int32} {X : List va_E} (m : Int32) (hdi : di < 4) (s : SP) : jC l b D ta False y_M_step b_M_step 8 none (rL 2) [.ref (b + 133), .int m, .int 0, .int 0] (σ ++ rC b ta wt F0 F1 F2 HH kt kp a hi tm sN sx sy pt mn pl pN px py sn lt rc tx sz us s.2.2.2.1 s.2.2.2.2.1 s.2.2.2.2.2 s.1 s.2.1 di up dn s.2.2.1 op gs t0 fr lf pX pY pD pU X) none (σ ++ rC b ta wt F0 F1 F2 HH kt kp a hi tm sN sx sy pt mn pl pN px py sn lt rc tx sz us ((st00 di up m s).2.2.2.1) ((st00 di up m s).2.2.2.2.1) ((st00 di up m s).2.2.2.2.2) ((st00 di up m s).1) ((st00 di up m s).2.1) di up dn ((st00 di up m s).2.2.1) op gs t0 fr lf pX pY pD pU X) := by
  obtain ⟨x, y, be, D0, D1, D2⟩ := s
  exact c_M_step_00 hl m hdi
theorem c_M_stepT_01 {l : Launch} {b : Nat} {D : va_G} {ta : Nat → ClassId} {σ : List va_E} (hl : σ.length = 133) {wt : Int32} {F0 : Nat → Int32} {F1 : Nat → Int32} {F2 : Nat → Int32} {HH : Nat → Int32} {kt : Nat → Int32} {kp : Nat → Int32} {a : Nat} {hi : Nat} {tm : Nat} {sN : Nat} {sx : Nat → Int32} {sy : Nat → Int32} {pt : Nat → Int64} {mn : Nat → Int32} {pl : Nat → Int32} {pN : Nat} {px : Nat → Int32} {py : Nat → Int32} {sn : Nat → Int32} {lt : Nat → Int32} {rc : Nat → Int64} {tx : Nat → Int32} {sz : Nat → Int32} {us : Nat → Int32} {di : Nat} {up : Bool} {dn : Nat} {op : Nat} {gs : Nat → Int32} {t0 : Nat → Int32} {fr : Nat → Int32} {lf : Nat → Int32} {pX : Nat → Int32} {pY : Nat → Int32} {pD : Nat → Int32} {pU : Nat → Int32} {X : List va_E} (m : Int32) (hdi : di < 4) (s : SP) : jC l b D ta False y_M_step b_M_step 8 none (rL 2) [.ref (b + 133), .int m, .int 0, .int 1] (σ ++ rC b ta wt F0 F1 F2 HH kt kp a hi tm sN sx sy pt mn pl pN px py sn lt rc tx sz us s.2.2.2.1 s.2.2.2.2.1 s.2.2.2.2.2 s.1 s.2.1 di up dn s.2.2.1 op gs t0 fr lf pX pY pD pU X) none (σ ++ rC b ta wt F0 F1 F2 HH kt kp a hi tm sN sx sy pt mn pl pN px py sn lt rc tx sz us ((st01 di up m s).2.2.2.1) ((st01 di up m s).2.2.2.2.1) ((st01 di up m s).2.2.2.2.2) ((st01 di up m s).1) ((st01 di up m s).2.1) di up dn ((st01 di up m s).2.2.1) op gs t0 fr lf pX pY pD pU X) := by
  obtain ⟨x, y, be, D0, D1, D2⟩ := s
  exact c_M_step_01 hl m hdi
theorem c_M_stepT_10 {l : Launch} {b : Nat} {D : va_G} {ta : Nat → ClassId} {σ : List va_E} (hl : σ.length = 133) {wt : Int32} {F0 : Nat → Int32} {F1 : Nat → Int32} {F2 : Nat → Int32} {HH : Nat → Int32} {kt : Nat → Int32} {kp : Nat → Int32} {a : Nat} {hi : Nat} {tm : Nat} {sN : Nat} {sx : Nat → Int32} {sy : Nat → Int32} {pt : Nat → Int64} {mn : Nat → Int32} {pl : Nat → Int32} {pN : Nat} {px : Nat → Int32} {py : Nat → Int32} {sn : Nat → Int32} {lt : Nat → Int32} {rc : Nat → Int64} {tx : Nat → Int32} {sz : Nat → Int32} {us : Nat → Int32} {di : Nat} {up : Bool} {dn : Nat} {op : Nat} {gs : Nat → Int32} {t0 : Nat → Int32} {fr : Nat → Int32} {lf : Nat → Int32} {pX : Nat → Int32} {pY : Nat → Int32} {pD : Nat → Int32} {pU : Nat → Int32} {X : List va_E} (m : Int32) (hdi : di < 4) (s : SP) : jC l b D ta False y_M_step b_M_step 8 none (rL 2) [.ref (b + 133), .int m, .int 1, .int 0] (σ ++ rC b ta wt F0 F1 F2 HH kt kp a hi tm sN sx sy pt mn pl pN px py sn lt rc tx sz us s.2.2.2.1 s.2.2.2.2.1 s.2.2.2.2.2 s.1 s.2.1 di up dn s.2.2.1 op gs t0 fr lf pX pY pD pU X) none (σ ++ rC b ta wt F0 F1 F2 HH kt kp a hi tm sN sx sy pt mn pl pN px py sn lt rc tx sz us ((st10 di up m s).2.2.2.1) ((st10 di up m s).2.2.2.2.1) ((st10 di up m s).2.2.2.2.2) ((st10 di up m s).1) ((st10 di up m s).2.1) di up dn ((st10 di up m s).2.2.1) op gs t0 fr lf pX pY pD pU X) := by
  obtain ⟨x, y, be, D0, D1, D2⟩ := s
  exact c_M_step_10 hl m hdi
theorem c_M_stepT_11 {l : Launch} {b : Nat} {D : va_G} {ta : Nat → ClassId} {σ : List va_E} (hl : σ.length = 133) {wt : Int32} {F0 : Nat → Int32} {F1 : Nat → Int32} {F2 : Nat → Int32} {HH : Nat → Int32} {kt : Nat → Int32} {kp : Nat → Int32} {a : Nat} {hi : Nat} {tm : Nat} {sN : Nat} {sx : Nat → Int32} {sy : Nat → Int32} {pt : Nat → Int64} {mn : Nat → Int32} {pl : Nat → Int32} {pN : Nat} {px : Nat → Int32} {py : Nat → Int32} {sn : Nat → Int32} {lt : Nat → Int32} {rc : Nat → Int64} {tx : Nat → Int32} {sz : Nat → Int32} {us : Nat → Int32} {di : Nat} {up : Bool} {dn : Nat} {op : Nat} {gs : Nat → Int32} {t0 : Nat → Int32} {fr : Nat → Int32} {lf : Nat → Int32} {pX : Nat → Int32} {pY : Nat → Int32} {pD : Nat → Int32} {pU : Nat → Int32} {X : List va_E} (m : Int32) (hdi : di < 4) (s : SP) : jC l b D ta False y_M_step b_M_step 8 none (rL 2) [.ref (b + 133), .int m, .int 1, .int 1] (σ ++ rC b ta wt F0 F1 F2 HH kt kp a hi tm sN sx sy pt mn pl pN px py sn lt rc tx sz us s.2.2.2.1 s.2.2.2.2.1 s.2.2.2.2.2 s.1 s.2.1 di up dn s.2.2.1 op gs t0 fr lf pX pY pD pU X) none (σ ++ rC b ta wt F0 F1 F2 HH kt kp a hi tm sN sx sy pt mn pl pN px py sn lt rc tx sz us ((st11 di up m s).2.2.2.1) ((st11 di up m s).2.2.2.2.1) ((st11 di up m s).2.2.2.2.2) ((st11 di up m s).1) ((st11 di up m s).2.1) di up dn ((st11 di up m s).2.2.1) op gs t0 fr lf pX pY pD pU X) := by
  obtain ⟨x, y, be, D0, D1, D2⟩ := s
  exact c_M_step_11 hl m hdi
set_option maxRecDepth 100000 in
set_option maxHeartbeats 4000000 in
theorem c_M_obey_F {l : Launch} {b : Nat} {D : va_G} {ta : Nat → ClassId} {σ : List va_E} (hl : σ.length = 133) {wt : Int32} {F0 : Nat → Int32} {F1 : Nat → Int32} {F2 : Nat → Int32} {HH : Nat → Int32} {kt : Nat → Int32} {kp : Nat → Int32} {a : Nat} {hi : Nat} {tm : Nat} {sN : Nat} {sx : Nat → Int32} {sy : Nat → Int32} {pt : Nat → Int64} {mn : Nat → Int32} {pl : Nat → Int32} {pN : Nat} {px : Nat → Int32} {py : Nat → Int32} {sn : Nat → Int32} {lt : Nat → Int32} {rc : Nat → Int64} {tx : Nat → Int32} {sz : Nat → Int32} {us : Nat → Int32} {D0 : Nat → Int32} {D1 : Nat → Int32} {D2 : Nat → Int32} {qx : Int32} {qy : Int32} {di : Nat} {up : Bool} {dn : Nat} {op : Nat} {gs : Nat → Int32} {t0 : Nat → Int32} {fr : Nat → Int32} {lf : Nat → Int32} {pX : Nat → Int32} {pY : Nat → Int32} {pD : Nat → Int32} {pU : Nat → Int32} {X : List va_E} (hdn : dn < 400) (hdi : di < 4) (hin : inF qx qy = true) : jC l b D ta False y_M_obey b_M_obey 4 none (rL 3) [.ref (b + 133), .int 70] (σ ++ rC b ta wt F0 F1 F2 HH kt kp a hi tm sN sx sy pt mn pl pN px py sn lt rc tx sz us D0 D1 D2 qx qy di up dn false op gs t0 fr lf pX pY pD pU X) none (σ ++ rC b ta wt F0 F1 F2 HH kt kp a hi tm sN sx sy pt mn pl pN px py sn lt rc tx sz us ((st10 di up 1 (qx, qy, false, D0, D1, D2)).2.2.2.1) ((st10 di up 1 (qx, qy, false, D0, D1, D2)).2.2.2.2.1) ((st10 di up 1 (qx, qy, false, D0, D1, D2)).2.2.2.2.2) ((st10 di up 1 (qx, qy, false, D0, D1, D2)).1) ((st10 di up 1 (qx, qy, false, D0, D1, D2)).2.1) di up (dn + 1) ((st10 di up 1 (qx, qy, false, D0, D1, D2)).2.2.1) op gs t0 fr lf pX pY pD pU X) := by
  refine jC_of (own := "WireFieldModel") (by decide +kernel) (Nat.le_of_ble_eq_true rfl) rfl (fun Γ B K => ?_)
  change jW l b D Γ False 0 0 4 (σ ++ rC b ta wt F0 F1 F2 HH kt kp a hi tm sN sx sy pt mn pl pN px py sn lt rc tx sz us D0 D1 D2 qx qy di up dn false op gs t0 fr lf pX pY pD pU X) [(0, .ref (b + 133)), (1, .int 70)] 0 []
  refine j_aload_n B d_M_obey_0 rfl 0 rfl ?_
  refine k_callV (as := []) (rest := []) (st1 := []) B (c_M_countOne_t hl hdn) yf_M_countOne w_918 w_920 w_s34 rfl (rG (ix := 0) hl rfl) rfl (by decide) (by decide) rfl rfl (Nat.le_of_ble_eq_true rfl) d_M_obey_1 ?_
  refine j_aload_n B d_M_obey_4 rfl 0 rfl ?_
  refine gf_M_159 B (rG (ix := 0) hl rfl) rfl d_M_obey_5 ?_
  refine j_if_eq B d_M_obey_8 rfl (fun h8 => ?_) (fun h8 => absurd rfl h8)
  refine j_iload_n B d_M_obey_12 rfl 1 rfl ?_
  refine j_tableIn B d_M_obey_13 (by decide) (by decide) rfl rfl ?_
  refine j_aload_n B d_M_obey_116 rfl 0 rfl ?_
  refine j_iconst (v := 1) B d_M_obey_117 (by decide) ?_
  refine j_iconst (v := 1) B d_M_obey_118 (by decide) ?_
  refine j_iconst (v := 0) B d_M_obey_119 (by decide) ?_
  refine k_callV (as := [.int 1, .int 1, .int 0]) (rest := []) (st1 := []) B (c_M_stepT_10 hl 1 hdi (qx, qy, false, D0, D1, D2)) yf_M_step w_934 w_936 w_s38 rfl (rG (ix := 0) hl rfl) rfl (by decide) (by decide) rfl rfl (Nat.le_of_ble_eq_true rfl) d_M_obey_120 ?_
  exact j_vret B K rfl d_M_obey_123
set_option maxRecDepth 100000 in
set_option maxHeartbeats 4000000 in
theorem c_M_obey_B {l : Launch} {b : Nat} {D : va_G} {ta : Nat → ClassId} {σ : List va_E} (hl : σ.length = 133) {wt : Int32} {F0 : Nat → Int32} {F1 : Nat → Int32} {F2 : Nat → Int32} {HH : Nat → Int32} {kt : Nat → Int32} {kp : Nat → Int32} {a : Nat} {hi : Nat} {tm : Nat} {sN : Nat} {sx : Nat → Int32} {sy : Nat → Int32} {pt : Nat → Int64} {mn : Nat → Int32} {pl : Nat → Int32} {pN : Nat} {px : Nat → Int32} {py : Nat → Int32} {sn : Nat → Int32} {lt : Nat → Int32} {rc : Nat → Int64} {tx : Nat → Int32} {sz : Nat → Int32} {us : Nat → Int32} {D0 : Nat → Int32} {D1 : Nat → Int32} {D2 : Nat → Int32} {qx : Int32} {qy : Int32} {di : Nat} {up : Bool} {dn : Nat} {op : Nat} {gs : Nat → Int32} {t0 : Nat → Int32} {fr : Nat → Int32} {lf : Nat → Int32} {pX : Nat → Int32} {pY : Nat → Int32} {pD : Nat → Int32} {pU : Nat → Int32} {X : List va_E} (hdn : dn < 400) (hdi : di < 4) (hin : inF qx qy = true) : jC l b D ta False y_M_obey b_M_obey 4 none (rL 3) [.ref (b + 133), .int 66] (σ ++ rC b ta wt F0 F1 F2 HH kt kp a hi tm sN sx sy pt mn pl pN px py sn lt rc tx sz us D0 D1 D2 qx qy di up dn false op gs t0 fr lf pX pY pD pU X) none (σ ++ rC b ta wt F0 F1 F2 HH kt kp a hi tm sN sx sy pt mn pl pN px py sn lt rc tx sz us ((st00 di up (-1) (qx, qy, false, D0, D1, D2)).2.2.2.1) ((st00 di up (-1) (qx, qy, false, D0, D1, D2)).2.2.2.2.1) ((st00 di up (-1) (qx, qy, false, D0, D1, D2)).2.2.2.2.2) ((st00 di up (-1) (qx, qy, false, D0, D1, D2)).1) ((st00 di up (-1) (qx, qy, false, D0, D1, D2)).2.1) di up (dn + 1) ((st00 di up (-1) (qx, qy, false, D0, D1, D2)).2.2.1) op gs t0 fr lf pX pY pD pU X) := by
  refine jC_of (own := "WireFieldModel") (by decide +kernel) (Nat.le_of_ble_eq_true rfl) rfl (fun Γ B K => ?_)
  change jW l b D Γ False 0 0 4 (σ ++ rC b ta wt F0 F1 F2 HH kt kp a hi tm sN sx sy pt mn pl pN px py sn lt rc tx sz us D0 D1 D2 qx qy di up dn false op gs t0 fr lf pX pY pD pU X) [(0, .ref (b + 133)), (1, .int 66)] 0 []
  refine j_aload_n B d_M_obey_0 rfl 0 rfl ?_
  refine k_callV (as := []) (rest := []) (st1 := []) B (c_M_countOne_t hl hdn) yf_M_countOne w_918 w_920 w_s34 rfl (rG (ix := 0) hl rfl) rfl (by decide) (by decide) rfl rfl (Nat.le_of_ble_eq_true rfl) d_M_obey_1 ?_
  refine j_aload_n B d_M_obey_4 rfl 0 rfl ?_
  refine gf_M_159 B (rG (ix := 0) hl rfl) rfl d_M_obey_5 ?_
  refine j_if_eq B d_M_obey_8 rfl (fun h8 => ?_) (fun h8 => absurd rfl h8)
  refine j_iload_n B d_M_obey_12 rfl 1 rfl ?_
  refine j_tableIn B d_M_obey_13 (by decide) (by decide) rfl rfl ?_
  refine j_aload_n B d_M_obey_124 rfl 0 rfl ?_
  refine j_iconst (v := (-1)) B d_M_obey_125 (by decide) ?_
  refine j_iconst (v := 0) B d_M_obey_126 (by decide) ?_
  refine j_iconst (v := 0) B d_M_obey_127 (by decide) ?_
  refine k_callV (as := [.int (-1), .int 0, .int 0]) (rest := []) (st1 := []) B (c_M_stepT_00 hl (-1) hdi (qx, qy, false, D0, D1, D2)) yf_M_step w_934 w_936 w_s38 rfl (rG (ix := 0) hl rfl) rfl (by decide) (by decide) rfl rfl (Nat.le_of_ble_eq_true rfl) d_M_obey_128 ?_
  exact j_vret B K rfl d_M_obey_131
set_option maxRecDepth 100000 in
set_option maxHeartbeats 4000000 in
theorem c_M_obey_R {l : Launch} {b : Nat} {D : va_G} {ta : Nat → ClassId} {σ : List va_E} (hl : σ.length = 133) {wt : Int32} {F0 : Nat → Int32} {F1 : Nat → Int32} {F2 : Nat → Int32} {HH : Nat → Int32} {kt : Nat → Int32} {kp : Nat → Int32} {a : Nat} {hi : Nat} {tm : Nat} {sN : Nat} {sx : Nat → Int32} {sy : Nat → Int32} {pt : Nat → Int64} {mn : Nat → Int32} {pl : Nat → Int32} {pN : Nat} {px : Nat → Int32} {py : Nat → Int32} {sn : Nat → Int32} {lt : Nat → Int32} {rc : Nat → Int64} {tx : Nat → Int32} {sz : Nat → Int32} {us : Nat → Int32} {D0 : Nat → Int32} {D1 : Nat → Int32} {D2 : Nat → Int32} {qx : Int32} {qy : Int32} {di : Nat} {up : Bool} {dn : Nat} {op : Nat} {gs : Nat → Int32} {t0 : Nat → Int32} {fr : Nat → Int32} {lf : Nat → Int32} {pX : Nat → Int32} {pY : Nat → Int32} {pD : Nat → Int32} {pU : Nat → Int32} {X : List va_E} (hdn : dn < 400) (hdi : di < 4) (hin : inF qx qy = true) : jC l b D ta False y_M_obey b_M_obey 4 none (rL 3) [.ref (b + 133), .int 82] (σ ++ rC b ta wt F0 F1 F2 HH kt kp a hi tm sN sx sy pt mn pl pN px py sn lt rc tx sz us D0 D1 D2 qx qy di up dn false op gs t0 fr lf pX pY pD pU X) none (σ ++ rC b ta wt F0 F1 F2 HH kt kp a hi tm sN sx sy pt mn pl pN px py sn lt rc tx sz us D0 D1 D2 qx qy ((di + 1) % 4) up (dn + 1) false op gs t0 fr lf pX pY pD pU X) := by
  refine jC_of (own := "WireFieldModel") (by decide +kernel) (Nat.le_of_ble_eq_true rfl) rfl (fun Γ B K => ?_)
  change jW l b D Γ False 0 0 4 (σ ++ rC b ta wt F0 F1 F2 HH kt kp a hi tm sN sx sy pt mn pl pN px py sn lt rc tx sz us D0 D1 D2 qx qy di up dn false op gs t0 fr lf pX pY pD pU X) [(0, .ref (b + 133)), (1, .int 82)] 0 []
  refine j_aload_n B d_M_obey_0 rfl 0 rfl ?_
  refine k_callV (as := []) (rest := []) (st1 := []) B (c_M_countOne_t hl hdn) yf_M_countOne w_918 w_920 w_s34 rfl (rG (ix := 0) hl rfl) rfl (by decide) (by decide) rfl rfl (Nat.le_of_ble_eq_true rfl) d_M_obey_1 ?_
  refine j_aload_n B d_M_obey_4 rfl 0 rfl ?_
  refine gf_M_159 B (rG (ix := 0) hl rfl) rfl d_M_obey_5 ?_
  refine j_if_eq B d_M_obey_8 rfl (fun h8 => ?_) (fun h8 => absurd rfl h8)
  refine j_iload_n B d_M_obey_12 rfl 1 rfl ?_
  refine j_tableIn B d_M_obey_13 (by decide) (by decide) rfl rfl ?_
  refine j_aload_n B d_M_obey_132 rfl 0 rfl ?_
  refine j_aload_n B d_M_obey_133 rfl 0 rfl ?_
  refine gf_M_170 B (rG (ix := 0) hl rfl) rfl d_M_obey_134 ?_
  refine j_iconst (v := 1) B d_M_obey_137 (by decide) ?_
  refine j_iaddE (v := nI (di + 1)) B (nI_add di 1) d_M_obey_138 ?_
  refine j_iconst (v := 4) B d_M_obey_139 (by decide) ?_
  refine j_iremE (v := nI ((di + 1) % 4)) B (by decide) (pk_rem (a := (di + 1)) (d := 4) (by omega) (by decide) (by decide)) d_M_obey_140 ?_
  refine pf_M_170 B not_false (rG (ix := 0) hl rfl) rfl rfl (Nat.le_of_ble_eq_true rfl) d_M_obey_141 ?_
  refine jW.heap (σ2 := σ ++ rC b ta wt F0 F1 F2 HH kt kp a hi tm sN sx sy pt mn pl pN px py sn lt rc tx sz us D0 D1 D2 qx qy ((di + 1) % 4) up (dn + 1) false op gs t0 fr lf pX pY pD pU X) (rT (ix := 0) hl rfl) ?_
  exact j_vret B K rfl d_M_obey_144
set_option maxRecDepth 100000 in
set_option maxHeartbeats 4000000 in
theorem c_M_obey_L {l : Launch} {b : Nat} {D : va_G} {ta : Nat → ClassId} {σ : List va_E} (hl : σ.length = 133) {wt : Int32} {F0 : Nat → Int32} {F1 : Nat → Int32} {F2 : Nat → Int32} {HH : Nat → Int32} {kt : Nat → Int32} {kp : Nat → Int32} {a : Nat} {hi : Nat} {tm : Nat} {sN : Nat} {sx : Nat → Int32} {sy : Nat → Int32} {pt : Nat → Int64} {mn : Nat → Int32} {pl : Nat → Int32} {pN : Nat} {px : Nat → Int32} {py : Nat → Int32} {sn : Nat → Int32} {lt : Nat → Int32} {rc : Nat → Int64} {tx : Nat → Int32} {sz : Nat → Int32} {us : Nat → Int32} {D0 : Nat → Int32} {D1 : Nat → Int32} {D2 : Nat → Int32} {qx : Int32} {qy : Int32} {di : Nat} {up : Bool} {dn : Nat} {op : Nat} {gs : Nat → Int32} {t0 : Nat → Int32} {fr : Nat → Int32} {lf : Nat → Int32} {pX : Nat → Int32} {pY : Nat → Int32} {pD : Nat → Int32} {pU : Nat → Int32} {X : List va_E} (hdn : dn < 400) (hdi : di < 4) (hin : inF qx qy = true) : jC l b D ta False y_M_obey b_M_obey 4 none (rL 3) [.ref (b + 133), .int 76] (σ ++ rC b ta wt F0 F1 F2 HH kt kp a hi tm sN sx sy pt mn pl pN px py sn lt rc tx sz us D0 D1 D2 qx qy di up dn false op gs t0 fr lf pX pY pD pU X) none (σ ++ rC b ta wt F0 F1 F2 HH kt kp a hi tm sN sx sy pt mn pl pN px py sn lt rc tx sz us D0 D1 D2 qx qy ((di + 3) % 4) up (dn + 1) false op gs t0 fr lf pX pY pD pU X) := by
  refine jC_of (own := "WireFieldModel") (by decide +kernel) (Nat.le_of_ble_eq_true rfl) rfl (fun Γ B K => ?_)
  change jW l b D Γ False 0 0 4 (σ ++ rC b ta wt F0 F1 F2 HH kt kp a hi tm sN sx sy pt mn pl pN px py sn lt rc tx sz us D0 D1 D2 qx qy di up dn false op gs t0 fr lf pX pY pD pU X) [(0, .ref (b + 133)), (1, .int 76)] 0 []
  refine j_aload_n B d_M_obey_0 rfl 0 rfl ?_
  refine k_callV (as := []) (rest := []) (st1 := []) B (c_M_countOne_t hl hdn) yf_M_countOne w_918 w_920 w_s34 rfl (rG (ix := 0) hl rfl) rfl (by decide) (by decide) rfl rfl (Nat.le_of_ble_eq_true rfl) d_M_obey_1 ?_
  refine j_aload_n B d_M_obey_4 rfl 0 rfl ?_
  refine gf_M_159 B (rG (ix := 0) hl rfl) rfl d_M_obey_5 ?_
  refine j_if_eq B d_M_obey_8 rfl (fun h8 => ?_) (fun h8 => absurd rfl h8)
  refine j_iload_n B d_M_obey_12 rfl 1 rfl ?_
  refine j_tableIn B d_M_obey_13 (by decide) (by decide) rfl rfl ?_
  refine j_aload_n B d_M_obey_145 rfl 0 rfl ?_
  refine j_aload_n B d_M_obey_146 rfl 0 rfl ?_
  refine gf_M_170 B (rG (ix := 0) hl rfl) rfl d_M_obey_147 ?_
  refine j_iconst (v := 3) B d_M_obey_150 (by decide) ?_
  refine j_iaddE (v := nI (di + 3)) B (nI_add di 3) d_M_obey_151 ?_
  refine j_iconst (v := 4) B d_M_obey_152 (by decide) ?_
  refine j_iremE (v := nI ((di + 3) % 4)) B (by decide) (pk_rem (a := (di + 3)) (d := 4) (by omega) (by decide) (by decide)) d_M_obey_153 ?_
  refine pf_M_170 B not_false (rG (ix := 0) hl rfl) rfl rfl (Nat.le_of_ble_eq_true rfl) d_M_obey_154 ?_
  refine jW.heap (σ2 := σ ++ rC b ta wt F0 F1 F2 HH kt kp a hi tm sN sx sy pt mn pl pN px py sn lt rc tx sz us D0 D1 D2 qx qy ((di + 3) % 4) up (dn + 1) false op gs t0 fr lf pX pY pD pU X) (rT (ix := 0) hl rfl) ?_
  exact j_vret B K rfl d_M_obey_157
set_option maxRecDepth 100000 in
set_option maxHeartbeats 4000000 in
theorem c_M_obey_U {l : Launch} {b : Nat} {D : va_G} {ta : Nat → ClassId} {σ : List va_E} (hl : σ.length = 133) {wt : Int32} {F0 : Nat → Int32} {F1 : Nat → Int32} {F2 : Nat → Int32} {HH : Nat → Int32} {kt : Nat → Int32} {kp : Nat → Int32} {a : Nat} {hi : Nat} {tm : Nat} {sN : Nat} {sx : Nat → Int32} {sy : Nat → Int32} {pt : Nat → Int64} {mn : Nat → Int32} {pl : Nat → Int32} {pN : Nat} {px : Nat → Int32} {py : Nat → Int32} {sn : Nat → Int32} {lt : Nat → Int32} {rc : Nat → Int64} {tx : Nat → Int32} {sz : Nat → Int32} {us : Nat → Int32} {D0 : Nat → Int32} {D1 : Nat → Int32} {D2 : Nat → Int32} {qx : Int32} {qy : Int32} {di : Nat} {up : Bool} {dn : Nat} {op : Nat} {gs : Nat → Int32} {t0 : Nat → Int32} {fr : Nat → Int32} {lf : Nat → Int32} {pX : Nat → Int32} {pY : Nat → Int32} {pD : Nat → Int32} {pU : Nat → Int32} {X : List va_E} (hdn : dn < 400) (hdi : di < 4) (hin : inF qx qy = true) : jC l b D ta False y_M_obey b_M_obey 4 none (rL 3) [.ref (b + 133), .int 85] (σ ++ rC b ta wt F0 F1 F2 HH kt kp a hi tm sN sx sy pt mn pl pN px py sn lt rc tx sz us D0 D1 D2 qx qy di up dn false op gs t0 fr lf pX pY pD pU X) none (σ ++ rC b ta wt F0 F1 F2 HH kt kp a hi tm sN sx sy pt mn pl pN px py sn lt rc tx sz us D0 D1 D2 qx qy di true (dn + 1) false op gs t0 fr lf pX pY pD pU X) := by
  refine jC_of (own := "WireFieldModel") (by decide +kernel) (Nat.le_of_ble_eq_true rfl) rfl (fun Γ B K => ?_)
  change jW l b D Γ False 0 0 4 (σ ++ rC b ta wt F0 F1 F2 HH kt kp a hi tm sN sx sy pt mn pl pN px py sn lt rc tx sz us D0 D1 D2 qx qy di up dn false op gs t0 fr lf pX pY pD pU X) [(0, .ref (b + 133)), (1, .int 85)] 0 []
  refine j_aload_n B d_M_obey_0 rfl 0 rfl ?_
  refine k_callV (as := []) (rest := []) (st1 := []) B (c_M_countOne_t hl hdn) yf_M_countOne w_918 w_920 w_s34 rfl (rG (ix := 0) hl rfl) rfl (by decide) (by decide) rfl rfl (Nat.le_of_ble_eq_true rfl) d_M_obey_1 ?_
  refine j_aload_n B d_M_obey_4 rfl 0 rfl ?_
  refine gf_M_159 B (rG (ix := 0) hl rfl) rfl d_M_obey_5 ?_
  refine j_if_eq B d_M_obey_8 rfl (fun h8 => ?_) (fun h8 => absurd rfl h8)
  refine j_iload_n B d_M_obey_12 rfl 1 rfl ?_
  refine j_tableIn B d_M_obey_13 (by decide) (by decide) rfl rfl ?_
  refine j_aload_n B d_M_obey_158 rfl 0 rfl ?_
  refine j_iconst (v := 1) B d_M_obey_159 (by decide) ?_
  refine pf_M_182 B not_false (rG (ix := 0) hl rfl) (by first | exact bI_nar _ | exact bI_fit _ | decide) (by first | exact bI_nar _ | exact bI_fit _ | decide) (Nat.le_of_ble_eq_true rfl) d_M_obey_160 ?_
  refine jW.heap (σ2 := σ ++ rC b ta wt F0 F1 F2 HH kt kp a hi tm sN sx sy pt mn pl pN px py sn lt rc tx sz us D0 D1 D2 qx qy di true (dn + 1) false op gs t0 fr lf pX pY pD pU X) (rT (ix := 0) hl rfl) ?_
  exact j_vret B K rfl d_M_obey_163
set_option maxRecDepth 100000 in
set_option maxHeartbeats 4000000 in
theorem c_M_obey_D {l : Launch} {b : Nat} {D : va_G} {ta : Nat → ClassId} {σ : List va_E} (hl : σ.length = 133) {wt : Int32} {F0 : Nat → Int32} {F1 : Nat → Int32} {F2 : Nat → Int32} {HH : Nat → Int32} {kt : Nat → Int32} {kp : Nat → Int32} {a : Nat} {hi : Nat} {tm : Nat} {sN : Nat} {sx : Nat → Int32} {sy : Nat → Int32} {pt : Nat → Int64} {mn : Nat → Int32} {pl : Nat → Int32} {pN : Nat} {px : Nat → Int32} {py : Nat → Int32} {sn : Nat → Int32} {lt : Nat → Int32} {rc : Nat → Int64} {tx : Nat → Int32} {sz : Nat → Int32} {us : Nat → Int32} {D0 : Nat → Int32} {D1 : Nat → Int32} {D2 : Nat → Int32} {qx : Int32} {qy : Int32} {di : Nat} {up : Bool} {dn : Nat} {op : Nat} {gs : Nat → Int32} {t0 : Nat → Int32} {fr : Nat → Int32} {lf : Nat → Int32} {pX : Nat → Int32} {pY : Nat → Int32} {pD : Nat → Int32} {pU : Nat → Int32} {X : List va_E} (hdn : dn < 400) (hdi : di < 4) (hin : inF qx qy = true) : jC l b D ta False y_M_obey b_M_obey 4 none (rL 3) [.ref (b + 133), .int 68] (σ ++ rC b ta wt F0 F1 F2 HH kt kp a hi tm sN sx sy pt mn pl pN px py sn lt rc tx sz us D0 D1 D2 qx qy di up dn false op gs t0 fr lf pX pY pD pU X) none (σ ++ rC b ta wt F0 F1 F2 HH kt kp a hi tm sN sx sy pt mn pl pN px py sn lt rc tx sz us D0 D1 D2 qx qy di false (dn + 1) false op gs t0 fr lf pX pY pD pU X) := by
  refine jC_of (own := "WireFieldModel") (by decide +kernel) (Nat.le_of_ble_eq_true rfl) rfl (fun Γ B K => ?_)
  change jW l b D Γ False 0 0 4 (σ ++ rC b ta wt F0 F1 F2 HH kt kp a hi tm sN sx sy pt mn pl pN px py sn lt rc tx sz us D0 D1 D2 qx qy di up dn false op gs t0 fr lf pX pY pD pU X) [(0, .ref (b + 133)), (1, .int 68)] 0 []
  refine j_aload_n B d_M_obey_0 rfl 0 rfl ?_
  refine k_callV (as := []) (rest := []) (st1 := []) B (c_M_countOne_t hl hdn) yf_M_countOne w_918 w_920 w_s34 rfl (rG (ix := 0) hl rfl) rfl (by decide) (by decide) rfl rfl (Nat.le_of_ble_eq_true rfl) d_M_obey_1 ?_
  refine j_aload_n B d_M_obey_4 rfl 0 rfl ?_
  refine gf_M_159 B (rG (ix := 0) hl rfl) rfl d_M_obey_5 ?_
  refine j_if_eq B d_M_obey_8 rfl (fun h8 => ?_) (fun h8 => absurd rfl h8)
  refine j_iload_n B d_M_obey_12 rfl 1 rfl ?_
  refine j_tableIn B d_M_obey_13 (by decide) (by decide) rfl rfl ?_
  refine j_aload_n B d_M_obey_164 rfl 0 rfl ?_
  refine j_iconst (v := 0) B d_M_obey_165 (by decide) ?_
  refine pf_M_182 B not_false (rG (ix := 0) hl rfl) (by first | exact bI_nar _ | exact bI_fit _ | decide) (by first | exact bI_nar _ | exact bI_fit _ | decide) (Nat.le_of_ble_eq_true rfl) d_M_obey_166 ?_
  refine jW.heap (σ2 := σ ++ rC b ta wt F0 F1 F2 HH kt kp a hi tm sN sx sy pt mn pl pN px py sn lt rc tx sz us D0 D1 D2 qx qy di false (dn + 1) false op gs t0 fr lf pX pY pD pU X) (rT (ix := 0) hl rfl) ?_
  exact j_vret B K rfl d_M_obey_169
set_option maxRecDepth 100000 in
set_option maxHeartbeats 4000000 in
theorem c_M_obey_S {l : Launch} {b : Nat} {D : va_G} {ta : Nat → ClassId} {σ : List va_E} (hl : σ.length = 133) {wt : Int32} {F0 : Nat → Int32} {F1 : Nat → Int32} {F2 : Nat → Int32} {HH : Nat → Int32} {kt : Nat → Int32} {kp : Nat → Int32} {a : Nat} {hi : Nat} {tm : Nat} {sN : Nat} {sx : Nat → Int32} {sy : Nat → Int32} {pt : Nat → Int64} {mn : Nat → Int32} {pl : Nat → Int32} {pN : Nat} {px : Nat → Int32} {py : Nat → Int32} {sn : Nat → Int32} {lt : Nat → Int32} {rc : Nat → Int64} {tx : Nat → Int32} {sz : Nat → Int32} {us : Nat → Int32} {D0 : Nat → Int32} {D1 : Nat → Int32} {D2 : Nat → Int32} {qx : Int32} {qy : Int32} {di : Nat} {up : Bool} {dn : Nat} {op : Nat} {gs : Nat → Int32} {t0 : Nat → Int32} {fr : Nat → Int32} {lf : Nat → Int32} {pX : Nat → Int32} {pY : Nat → Int32} {pD : Nat → Int32} {pU : Nat → Int32} {X : List va_E} (hdn : dn < 400) (hdi : di < 4) (hin : inF qx qy = true) : jC l b D ta False y_M_obey b_M_obey 4 none (rL 3) [.ref (b + 133), .int 60] (σ ++ rC b ta wt F0 F1 F2 HH kt kp a hi tm sN sx sy pt mn pl pN px py sn lt rc tx sz us D0 D1 D2 qx qy di up dn false op gs t0 fr lf pX pY pD pU X) none (σ ++ rC b ta wt F0 F1 F2 HH kt kp a hi tm sN sx sy pt mn pl pN px py sn lt rc tx sz us ((st10 di up 1 (st11 di up 1 (st01 di up 1 (st10 di up 1 (qx, qy, false, D0, D1, D2))))).2.2.2.1) ((st10 di up 1 (st11 di up 1 (st01 di up 1 (st10 di up 1 (qx, qy, false, D0, D1, D2))))).2.2.2.2.1) ((st10 di up 1 (st11 di up 1 (st01 di up 1 (st10 di up 1 (qx, qy, false, D0, D1, D2))))).2.2.2.2.2) ((st10 di up 1 (st11 di up 1 (st01 di up 1 (st10 di up 1 (qx, qy, false, D0, D1, D2))))).1) ((st10 di up 1 (st11 di up 1 (st01 di up 1 (st10 di up 1 (qx, qy, false, D0, D1, D2))))).2.1) di up (dn + 1) ((st10 di up 1 (st11 di up 1 (st01 di up 1 (st10 di up 1 (qx, qy, false, D0, D1, D2))))).2.2.1) op gs t0 fr lf pX pY pD pU X) := by
  refine jC_of (own := "WireFieldModel") (by decide +kernel) (Nat.le_of_ble_eq_true rfl) rfl (fun Γ B K => ?_)
  change jW l b D Γ False 0 0 4 (σ ++ rC b ta wt F0 F1 F2 HH kt kp a hi tm sN sx sy pt mn pl pN px py sn lt rc tx sz us D0 D1 D2 qx qy di up dn false op gs t0 fr lf pX pY pD pU X) [(0, .ref (b + 133)), (1, .int 60)] 0 []
  refine j_aload_n B d_M_obey_0 rfl 0 rfl ?_
  refine k_callV (as := []) (rest := []) (st1 := []) B (c_M_countOne_t hl hdn) yf_M_countOne w_918 w_920 w_s34 rfl (rG (ix := 0) hl rfl) rfl (by decide) (by decide) rfl rfl (Nat.le_of_ble_eq_true rfl) d_M_obey_1 ?_
  refine j_aload_n B d_M_obey_4 rfl 0 rfl ?_
  refine gf_M_159 B (rG (ix := 0) hl rfl) rfl d_M_obey_5 ?_
  refine j_if_eq B d_M_obey_8 rfl (fun h8 => ?_) (fun h8 => absurd rfl h8)
  refine j_iload_n B d_M_obey_12 rfl 1 rfl ?_
  refine j_tableOut B d_M_obey_13 (by decide) rfl ?_
  refine j_aload_n B d_M_obey_253 rfl 0 rfl ?_
  refine j_iconst (v := 1) B d_M_obey_254 (by decide) ?_
  refine j_iconst (v := 1) B d_M_obey_255 (by decide) ?_
  refine j_iconst (v := 0) B d_M_obey_256 (by decide) ?_
  refine k_callV (as := [.int 1, .int 1, .int 0]) (rest := []) (st1 := []) B (c_M_stepT_10 hl 1 hdi (qx, qy, false, D0, D1, D2)) yf_M_step w_934 w_936 w_s38 rfl (rG (ix := 0) hl rfl) rfl (by decide) (by decide) rfl rfl (Nat.le_of_ble_eq_true rfl) d_M_obey_257 ?_
  refine j_aload_n B d_M_obey_260 rfl 0 rfl ?_
  refine j_iconst (v := 1) B d_M_obey_261 (by decide) ?_
  refine j_iconst (v := 0) B d_M_obey_262 (by decide) ?_
  refine j_iconst (v := 1) B d_M_obey_263 (by decide) ?_
  refine k_callV (as := [.int 1, .int 0, .int 1]) (rest := []) (st1 := []) B (c_M_stepT_01 hl 1 hdi (st10 di up 1 (qx, qy, false, D0, D1, D2))) yf_M_step w_934 w_936 w_s38 rfl (rG (ix := 0) hl rfl) rfl (by decide) (by decide) rfl rfl (Nat.le_of_ble_eq_true rfl) d_M_obey_264 ?_
  refine j_aload_n B d_M_obey_267 rfl 0 rfl ?_
  refine j_iconst (v := 1) B d_M_obey_268 (by decide) ?_
  refine j_iconst (v := 1) B d_M_obey_269 (by decide) ?_
  refine j_iconst (v := 1) B d_M_obey_270 (by decide) ?_
  refine k_callV (as := [.int 1, .int 1, .int 1]) (rest := []) (st1 := []) B (c_M_stepT_11 hl 1 hdi (st01 di up 1 (st10 di up 1 (qx, qy, false, D0, D1, D2)))) yf_M_step w_934 w_936 w_s38 rfl (rG (ix := 0) hl rfl) rfl (by decide) (by decide) rfl rfl (Nat.le_of_ble_eq_true rfl) d_M_obey_271 ?_
  refine j_aload_n B d_M_obey_274 rfl 0 rfl ?_
  refine j_iconst (v := 1) B d_M_obey_275 (by decide) ?_
  refine j_iconst (v := 1) B d_M_obey_276 (by decide) ?_
  refine j_iconst (v := 0) B d_M_obey_277 (by decide) ?_
  refine k_callV (as := [.int 1, .int 1, .int 0]) (rest := []) (st1 := []) B (c_M_stepT_10 hl 1 hdi (st11 di up 1 (st01 di up 1 (st10 di up 1 (qx, qy, false, D0, D1, D2))))) yf_M_step w_934 w_936 w_s38 rfl (rG (ix := 0) hl rfl) rfl (by decide) (by decide) rfl rfl (Nat.le_of_ble_eq_true rfl) d_M_obey_278 ?_
  exact j_vret B K rfl d_M_obey_281
set_option maxRecDepth 100000 in
set_option maxHeartbeats 4000000 in
theorem c_M_obey_W {l : Launch} {b : Nat} {D : va_G} {ta : Nat → ClassId} {σ : List va_E} (hl : σ.length = 133) {wt : Int32} {F0 : Nat → Int32} {F1 : Nat → Int32} {F2 : Nat → Int32} {HH : Nat → Int32} {kt : Nat → Int32} {kp : Nat → Int32} {a : Nat} {hi : Nat} {tm : Nat} {sN : Nat} {sx : Nat → Int32} {sy : Nat → Int32} {pt : Nat → Int64} {mn : Nat → Int32} {pl : Nat → Int32} {pN : Nat} {px : Nat → Int32} {py : Nat → Int32} {sn : Nat → Int32} {lt : Nat → Int32} {rc : Nat → Int64} {tx : Nat → Int32} {sz : Nat → Int32} {us : Nat → Int32} {D0 : Nat → Int32} {D1 : Nat → Int32} {D2 : Nat → Int32} {qx : Int32} {qy : Int32} {di : Nat} {up : Bool} {dn : Nat} {op : Nat} {gs : Nat → Int32} {t0 : Nat → Int32} {fr : Nat → Int32} {lf : Nat → Int32} {pX : Nat → Int32} {pY : Nat → Int32} {pD : Nat → Int32} {pU : Nat → Int32} {X : List va_E} (hdn : dn < 400) (hdi : di < 4) (hin : inF qx qy = true) : jC l b D ta False y_M_obey b_M_obey 4 none (rL 3) [.ref (b + 133), .int 87] (σ ++ rC b ta wt F0 F1 F2 HH kt kp a hi tm sN sx sy pt mn pl pN px py sn lt rc tx sz us D0 D1 D2 qx qy di up dn false op gs t0 fr lf pX pY pD pU X) none (σ ++ rC b ta wt F0 F1 F2 HH kt kp a hi tm sN sx sy pt mn pl pN px py sn lt rc tx sz us (pB D0 qx qy 0 1) (pB D1 qx qy 0 2) (pB D2 qx qy 0 3) qx qy di up (dn + 1) false op gs t0 fr lf pX pY pD pU X) := by
  refine jC_of (own := "WireFieldModel") (by decide +kernel) (Nat.le_of_ble_eq_true rfl) rfl (fun Γ B K => ?_)
  change jW l b D Γ False 0 0 4 (σ ++ rC b ta wt F0 F1 F2 HH kt kp a hi tm sN sx sy pt mn pl pN px py sn lt rc tx sz us D0 D1 D2 qx qy di up dn false op gs t0 fr lf pX pY pD pU X) [(0, .ref (b + 133)), (1, .int 87)] 0 []
  refine j_aload_n B d_M_obey_0 rfl 0 rfl ?_
  refine k_callV (as := []) (rest := []) (st1 := []) B (c_M_countOne_t hl hdn) yf_M_countOne w_918 w_920 w_s34 rfl (rG (ix := 0) hl rfl) rfl (by decide) (by decide) rfl rfl (Nat.le_of_ble_eq_true rfl) d_M_obey_1 ?_
  refine j_aload_n B d_M_obey_4 rfl 0 rfl ?_
  refine gf_M_159 B (rG (ix := 0) hl rfl) rfl d_M_obey_5 ?_
  refine j_if_eq B d_M_obey_8 rfl (fun h8 => ?_) (fun h8 => absurd rfl h8)
  refine j_iload_n B d_M_obey_12 rfl 1 rfl ?_
  refine j_tableIn B d_M_obey_13 (by decide) (by decide) rfl rfl ?_
  refine j_aload_n B d_M_obey_239 rfl 0 rfl ?_
  refine j_aload_n B d_M_obey_240 rfl 0 rfl ?_
  refine gf_M_167 B (rG (ix := 0) hl rfl) rfl d_M_obey_241 ?_
  refine j_aload_n B d_M_obey_244 rfl 0 rfl ?_
  refine gf_M_176 B (rG (ix := 0) hl rfl) rfl d_M_obey_245 ?_
  refine j_iconst (v := 0) B d_M_obey_248 (by decide) ?_
  refine k_callV (as := [.int qx, .int qy, .int 0]) (rest := []) (st1 := []) B (c_M_put hl qx qy 0) yf_M_put w_944 w_946 w_s39 rfl (rG (ix := 0) hl rfl) rfl (by decide) (by decide) rfl rfl (Nat.le_of_ble_eq_true rfl) d_M_obey_249 ?_
  refine jW.heap (σ2 := σ ++ rC b ta wt F0 F1 F2 HH kt kp a hi tm sN sx sy pt mn pl pN px py sn lt rc tx sz us (pB D0 qx qy 0 1) (pB D1 qx qy 0 2) (pB D2 qx qy 0 3) qx qy di up (dn + 1) false op gs t0 fr lf pX pY pD pU X) (by rw [pE_in hin, pDr_f, pDr_f, pDr_f]) ?_
  exact j_vret B K rfl d_M_obey_252
set_option maxRecDepth 100000 in
set_option maxHeartbeats 4000000 in
theorem c_M_obey_E {l : Launch} {b : Nat} {D : va_G} {ta : Nat → ClassId} {σ : List va_E} (hl : σ.length = 133) {wt : Int32} {F0 : Nat → Int32} {F1 : Nat → Int32} {F2 : Nat → Int32} {HH : Nat → Int32} {kt : Nat → Int32} {kp : Nat → Int32} {a : Nat} {hi : Nat} {tm : Nat} {sN : Nat} {sx : Nat → Int32} {sy : Nat → Int32} {pt : Nat → Int64} {mn : Nat → Int32} {pl : Nat → Int32} {pN : Nat} {px : Nat → Int32} {py : Nat → Int32} {sn : Nat → Int32} {lt : Nat → Int32} {rc : Nat → Int64} {tx : Nat → Int32} {sz : Nat → Int32} {us : Nat → Int32} {D0 : Nat → Int32} {D1 : Nat → Int32} {D2 : Nat → Int32} {qx : Int32} {qy : Int32} {di : Nat} {up : Bool} {dn : Nat} {op : Nat} {gs : Nat → Int32} {t0 : Nat → Int32} {fr : Nat → Int32} {lf : Nat → Int32} {pX : Nat → Int32} {pY : Nat → Int32} {pD : Nat → Int32} {pU : Nat → Int32} {X : List va_E} (hdn : dn < 400) (hdi : di < 4) (hin : inF qx qy = true) : jC l b D ta False y_M_obey b_M_obey 4 none (rL 3) [.ref (b + 133), .int 69] (σ ++ rC b ta wt F0 F1 F2 HH kt kp a hi tm sN sx sy pt mn pl pN px py sn lt rc tx sz us D0 D1 D2 qx qy di up dn false op gs t0 fr lf pX pY pD pU X) none (σ ++ rC b ta wt F0 F1 F2 HH kt kp a hi tm sN sx sy pt mn pl pN px py sn lt rc tx sz us (if inF (qx - jcs di) (qy - jrs di) = true ∧ btR (pB D2 qx qy 1 3 ((qy - jrs di)).toNatClampNeg) (qx - jcs di) = 1 then pB (pB D0 qx qy 1 1) (qx - jcs di) (qy - jrs di) 2 1 else pB D0 qx qy 1 1) (if inF (qx - jcs di) (qy - jrs di) = true ∧ btR (pB D2 qx qy 1 3 ((qy - jrs di)).toNatClampNeg) (qx - jcs di) = 1 then pB (pB D1 qx qy 1 2) (qx - jcs di) (qy - jrs di) 2 2 else pB D1 qx qy 1 2) (if inF (qx - jcs di) (qy - jrs di) = true ∧ btR (pB D2 qx qy 1 3 ((qy - jrs di)).toNatClampNeg) (qx - jcs di) = 1 then pB (pB D2 qx qy 1 3) (qx - jcs di) (qy - jrs di) 2 3 else pB D2 qx qy 1 3) qx qy di up (dn + 1) false op gs t0 fr lf pX pY pD pU X) := by
  refine jC_of (own := "WireFieldModel") (by decide +kernel) (Nat.le_of_ble_eq_true rfl) rfl (fun Γ B K => ?_)
  change jW l b D Γ False 0 0 4 (σ ++ rC b ta wt F0 F1 F2 HH kt kp a hi tm sN sx sy pt mn pl pN px py sn lt rc tx sz us D0 D1 D2 qx qy di up dn false op gs t0 fr lf pX pY pD pU X) [(0, .ref (b + 133)), (1, .int 69)] 0 []
  refine j_aload_n B d_M_obey_0 rfl 0 rfl ?_
  refine k_callV (as := []) (rest := []) (st1 := []) B (c_M_countOne_t hl hdn) yf_M_countOne w_918 w_920 w_s34 rfl (rG (ix := 0) hl rfl) rfl (by decide) (by decide) rfl rfl (Nat.le_of_ble_eq_true rfl) d_M_obey_1 ?_
  refine j_aload_n B d_M_obey_4 rfl 0 rfl ?_
  refine gf_M_159 B (rG (ix := 0) hl rfl) rfl d_M_obey_5 ?_
  refine j_if_eq B d_M_obey_8 rfl (fun h8 => ?_) (fun h8 => absurd rfl h8)
  refine j_iload_n B d_M_obey_12 rfl 1 rfl ?_
  refine j_tableIn B d_M_obey_13 (by decide) (by decide) rfl rfl ?_
  refine j_aload_n B d_M_obey_170 rfl 0 rfl ?_
  refine j_aload_n B d_M_obey_171 rfl 0 rfl ?_
  refine gf_M_167 B (rG (ix := 0) hl rfl) rfl d_M_obey_172 ?_
  refine j_aload_n B d_M_obey_175 rfl 0 rfl ?_
  refine gf_M_176 B (rG (ix := 0) hl rfl) rfl d_M_obey_176 ?_
  refine j_iconst (v := 1) B d_M_obey_179 (by decide) ?_
  refine k_callV (as := [.int qx, .int qy, .int 1]) (rest := []) (st1 := []) B (c_M_put hl qx qy 1) yf_M_put w_944 w_946 w_s39 rfl (rG (ix := 0) hl rfl) rfl (by decide) (by decide) rfl rfl (Nat.le_of_ble_eq_true rfl) d_M_obey_180 ?_
  refine jW.heap (σ2 := σ ++ rC b ta wt F0 F1 F2 HH kt kp a hi tm sN sx sy pt mn pl pN px py sn lt rc tx sz us (pB D0 qx qy 1 1) (pB D1 qx qy 1 2) (pB D2 qx qy 1 3) qx qy di up (dn + 1) false op gs t0 fr lf pX pY pD pU X) (by rw [pE_in hin, pDr_f, pDr_f, pDr_f]) ?_
  refine j_aload_n B d_M_obey_183 rfl 0 rfl ?_
  refine gf_M_167 B (rG (ix := 0) hl rfl) rfl d_M_obey_184 ?_
  refine j_aload_n B d_M_obey_187 rfl 0 rfl ?_
  refine gf_M_170 B (rG (ix := 0) hl rfl) rfl d_M_obey_188 ?_
  refine k_callS (as := [.int (nI di)]) (rest := [.int qx]) (st1 := [.int (jcs di), .int qx]) B (c_M_acrossD (d := di) hdi) yf_M_across w_938 w_939 rfl (by decide) (by decide) rfl rfl (Nat.le_of_ble_eq_true rfl) d_M_obey_191 ?_
  refine j_isub B d_M_obey_194 ?_
  refine j_istore_n (L' := [(0, .ref (b + 133)), (1, .int 69), (2, .int (qx - (jcs di)))]) B d_M_obey_195 rfl (by decide) [1, 2, 0] rfl ?_
  refine j_aload_n B d_M_obey_196 rfl 0 rfl ?_
  refine gf_M_176 B (rG (ix := 0) hl rfl) rfl d_M_obey_197 ?_
  refine j_aload_n B d_M_obey_200 rfl 0 rfl ?_
  refine gf_M_170 B (rG (ix := 0) hl rfl) rfl d_M_obey_201 ?_
  refine k_callS (as := [.int (nI di)]) (rest := [.int qy]) (st1 := [.int (jrs di), .int qy]) B (c_M_downD (d := di) hdi) yf_M_down w_941 w_942 rfl (by decide) (by decide) rfl rfl (Nat.le_of_ble_eq_true rfl) d_M_obey_204 ?_
  refine j_isub B d_M_obey_207 ?_
  refine j_istore_n (L' := [(0, .ref (b + 133)), (1, .int 69), (2, .int (qx - (jcs di))), (3, .int (qy - (jrs di)))]) B d_M_obey_208 rfl (by decide) [1, 2, 3, 0] rfl ?_
  refine j_iload_n B d_M_obey_209 rfl 2 rfl ?_
  refine j_iload_n B d_M_obey_210 rfl 3 rfl ?_
  refine k_callS (as := [.int (qx - (jcs di)), .int (qy - (jrs di))]) (rest := []) (st1 := [.int (bI (inF (qx - (jcs di)) (qy - (jrs di))))]) B (c_M_is (qx - (jcs di)) (qy - (jrs di))) yf_M_is w_899 w_900 rfl (by decide) (by decide) rfl rfl (Nat.le_of_ble_eq_true rfl) d_M_obey_211 ?_
  refine j_if_eq B d_M_obey_214 rfl (fun h214 => ?_) (fun h214 => ?_)
  · -- 214 jump
    replace h214 := bI_f h214
    exact j_vret B K (by simp only [if_neg (show ¬ (inF (qx - jcs di) (qy - jrs di) = true ∧ btR (pB D2 qx qy 1 3 ((qy - jrs di)).toNatClampNeg) (qx - jcs di) = 1) from fun q => bF h214 q.1)]) d_M_obey_238
  · -- 214 on
    replace h214 := bI_t h214
    refine j_aload_n B d_M_obey_217 rfl 0 rfl ?_
    refine gf_M_74 B (rG (ix := 0) hl rfl) rfl d_M_obey_218 ?_
    refine j_iload_n B d_M_obey_221 rfl 3 rfl ?_
    refine j_iald B rfl (rG (ix := 22) hl rfl) (inF_in h214) d_M_obey_222 ?_
    refine j_iload_n B d_M_obey_223 rfl 2 rfl ?_
    refine k_callS (as := [.int ((pB D2 qx qy 1 3) (qy - (jrs di)).toNatClampNeg), .int (qx - (jcs di))]) (rest := []) (st1 := [.int (btR ((pB D2 qx qy 1 3) (qy - (jrs di)).toNatClampNeg) (qx - (jcs di)))]) B (c_M_bit ((pB D2 qx qy 1 3) (qy - (jrs di)).toNatClampNeg) (qx - (jcs di))) yf_M_bit w_853 w_854 rfl (by decide) (by decide) rfl rfl (Nat.le_of_ble_eq_true rfl) d_M_obey_224 ?_
    refine j_iconst (v := 1) B d_M_obey_227 (by decide) ?_
    refine j_icmp_ne B d_M_obey_228 rfl (fun h228 => ?_) (fun h228 => ?_)
    · -- 228 jump
      exact j_vret B K (by simp only [if_neg (show ¬ (inF (qx - jcs di) (qy - jrs di) = true ∧ btR (pB D2 qx qy 1 3 ((qy - jrs di)).toNatClampNeg) (qx - jcs di) = 1) from fun q => h228 q.2)]) d_M_obey_238
    · -- 228 on
      refine j_aload_n B d_M_obey_231 rfl 0 rfl ?_
      refine j_iload_n B d_M_obey_232 rfl 2 rfl ?_
      refine j_iload_n B d_M_obey_233 rfl 3 rfl ?_
      refine j_iconst (v := 2) B d_M_obey_234 (by decide) ?_
      refine k_callV (as := [.int (qx - (jcs di)), .int (qy - (jrs di)), .int 2]) (rest := []) (st1 := []) B (c_M_put hl (qx - (jcs di)) (qy - (jrs di)) 2) yf_M_put w_944 w_946 w_s39 rfl (rG (ix := 0) hl rfl) rfl (by decide) (by decide) rfl rfl (Nat.le_of_ble_eq_true rfl) d_M_obey_235 ?_
      refine jW.heap (σ2 := σ ++ rC b ta wt F0 F1 F2 HH kt kp a hi tm sN sx sy pt mn pl pN px py sn lt rc tx sz us (pB (pB D0 qx qy 1 1) (qx - (jcs di)) (qy - (jrs di)) 2 1) (pB (pB D1 qx qy 1 2) (qx - (jcs di)) (qy - (jrs di)) 2 2) (pB (pB D2 qx qy 1 3) (qx - (jcs di)) (qy - (jrs di)) 2 3) qx qy di up (dn + 1) false op gs t0 fr lf pX pY pD pU X) (by rw [pE_in h214, pDr_f, pDr_f, pDr_f]) ?_
      exact j_vret B K (by simp only [if_pos (show inF (qx - jcs di) (qy - jrs di) = true ∧ btR (pB D2 qx qy 1 3 ((qy - jrs di)).toNatClampNeg) (qx - jcs di) = 1 from ⟨h214, h228⟩)]) d_M_obey_238
set_option maxRecDepth 100000 in
set_option maxHeartbeats 4000000 in
theorem c_M_obey_x {l : Launch} {b : Nat} {D : va_G} {ta : Nat → ClassId} {σ : List va_E} (hl : σ.length = 133) {wt : Int32} {F0 : Nat → Int32} {F1 : Nat → Int32} {F2 : Nat → Int32} {HH : Nat → Int32} {kt : Nat → Int32} {kp : Nat → Int32} {a : Nat} {hi : Nat} {tm : Nat} {sN : Nat} {sx : Nat → Int32} {sy : Nat → Int32} {pt : Nat → Int64} {mn : Nat → Int32} {pl : Nat → Int32} {pN : Nat} {px : Nat → Int32} {py : Nat → Int32} {sn : Nat → Int32} {lt : Nat → Int32} {rc : Nat → Int64} {tx : Nat → Int32} {sz : Nat → Int32} {us : Nat → Int32} {D0 : Nat → Int32} {D1 : Nat → Int32} {D2 : Nat → Int32} {qx : Int32} {qy : Int32} {di : Nat} {up : Bool} {dn : Nat} {op : Nat} {gs : Nat → Int32} {t0 : Nat → Int32} {fr : Nat → Int32} {lf : Nat → Int32} {pX : Nat → Int32} {pY : Nat → Int32} {pD : Nat → Int32} {pU : Nat → Int32} {X : List va_E} {ch : Int32} (hdn : 400 ≤ dn) (hd2 : dn < 2 ^ 20) : jC l b D ta False y_M_obey b_M_obey 4 none (rL 3) [.ref (b + 133), .int ch] (σ ++ rC b ta wt F0 F1 F2 HH kt kp a hi tm sN sx sy pt mn pl pN px py sn lt rc tx sz us D0 D1 D2 qx qy di up dn false op gs t0 fr lf pX pY pD pU X) none (σ ++ rC b ta wt F0 F1 F2 HH kt kp a hi tm sN sx sy pt mn pl pN px py sn lt rc tx sz us D0 D1 D2 qx qy di up (dn + 1) true op gs t0 fr lf pX pY pD pU X) := by
  refine jC_of (own := "WireFieldModel") (by decide +kernel) (Nat.le_of_ble_eq_true rfl) rfl (fun Γ B K => ?_)
  change jW l b D Γ False 0 0 4 (σ ++ rC b ta wt F0 F1 F2 HH kt kp a hi tm sN sx sy pt mn pl pN px py sn lt rc tx sz us D0 D1 D2 qx qy di up dn false op gs t0 fr lf pX pY pD pU X) [(0, .ref (b + 133)), (1, .int ch)] 0 []
  refine j_aload_n B d_M_obey_0 rfl 0 rfl ?_
  refine k_callV (as := []) (rest := []) (st1 := []) B (c_M_countOne_f hl hdn hd2) yf_M_countOne w_918 w_920 w_s34 rfl (rG (ix := 0) hl rfl) rfl (by decide) (by decide) rfl rfl (Nat.le_of_ble_eq_true rfl) d_M_obey_1 ?_
  refine j_aload_n B d_M_obey_4 rfl 0 rfl ?_
  refine gf_M_159 B (rG (ix := 0) hl rfl) rfl d_M_obey_5 ?_
  refine j_if_eq B d_M_obey_8 rfl (fun h8 => absurd h8 (by decide)) (fun h8 => ?_)
  exact j_vret B K rfl d_M_obey_11
set_option maxRecDepth 100000 in
set_option maxHeartbeats 4000000 in
theorem c_M_again_t {l : Launch} {b : Nat} {D : va_G} {ta : Nat → ClassId} {σ : List va_E} (hl : σ.length = 133) {wt : Int32} {F0 : Nat → Int32} {F1 : Nat → Int32} {F2 : Nat → Int32} {HH : Nat → Int32} {kt : Nat → Int32} {kp : Nat → Int32} {a : Nat} {hi : Nat} {tm : Nat} {sN : Nat} {sx : Nat → Int32} {sy : Nat → Int32} {pt : Nat → Int64} {mn : Nat → Int32} {pl : Nat → Int32} {pN : Nat} {px : Nat → Int32} {py : Nat → Int32} {sn : Nat → Int32} {lt : Nat → Int32} {rc : Nat → Int64} {tx : Nat → Int32} {sz : Nat → Int32} {us : Nat → Int32} {D0 : Nat → Int32} {D1 : Nat → Int32} {D2 : Nat → Int32} {qx : Int32} {qy : Int32} {di : Nat} {up : Bool} {dn : Nat} {op : Nat} {gs : Nat → Int32} {t0 : Nat → Int32} {fr : Nat → Int32} {lf : Nat → Int32} {pX : Nat → Int32} {pY : Nat → Int32} {pD : Nat → Int32} {pU : Nat → Int32} {X : List va_E} {L : Nat} (hdn : dn < 400) (hop : op < 32) (hlf : lf op = nI (L + 1)) : jC l b D ta False y_M_again b_M_again 2 none (rL 1) [.ref (b + 133)] (σ ++ rC b ta wt F0 F1 F2 HH kt kp a hi tm sN sx sy pt mn pl pN px py sn lt rc tx sz us D0 D1 D2 qx qy di up dn false (op + 1) gs t0 fr lf pX pY pD pU X) none (σ ++ rC b ta wt F0 F1 F2 HH kt kp a hi tm sN sx sy pt mn pl pN px py sn lt rc tx sz us D0 D1 D2 qx qy di up (dn + 1) false (op + 1) gs t0 fr (upd lf op (nI L)) (upd pX op qx) (upd pY op qy) (upd pD op (nI di)) (upd pU op (vp_nar .boolean (bI up))) X) := by
  refine jC_of (own := "WireFieldModel") (by decide +kernel) (Nat.le_of_ble_eq_true rfl) rfl (fun Γ B K => ?_)
  change jW l b D Γ False 0 0 2 (σ ++ rC b ta wt F0 F1 F2 HH kt kp a hi tm sN sx sy pt mn pl pN px py sn lt rc tx sz us D0 D1 D2 qx qy di up dn false (op + 1) gs t0 fr lf pX pY pD pU X) [(0, .ref (b + 133))] 0 []
  refine j_aload_n B d_M_again_0 rfl 0 rfl ?_
  refine gf_M_196 B (rG (ix := 0) hl rfl) rfl d_M_again_1 ?_
  refine j_iconst (v := 1) B d_M_again_4 (by decide) ?_
  refine j_isubE (v := nI op) B (nI_pred op) d_M_again_5 ?_
  refine j_istore_n (L' := [(0, .ref (b + 133)), (1, .int (nI op))]) B d_M_again_6 rfl (by decide) [1, 0] rfl ?_
  refine j_aload_n B d_M_again_7 rfl 0 rfl ?_
  refine k_callV (as := []) (rest := []) (st1 := []) B (c_M_countOne_t hl hdn) yf_M_countOne w_918 w_920 w_s34 rfl (rG (ix := 0) hl rfl) rfl (by decide) (by decide) rfl rfl (Nat.le_of_ble_eq_true rfl) d_M_again_8 ?_
  refine j_aload_n B d_M_again_11 rfl 0 rfl ?_
  refine gf_M_86 B (rG (ix := 0) hl rfl) rfl d_M_again_12 ?_
  refine j_iload_n B d_M_again_15 rfl 1 rfl ?_
  refine j_dup2 B d_M_again_16 rfl rfl ?_
  refine j_ialdN B rfl (rG (ix := 26) hl rfl) (by omega) d_M_again_17 ?_
  rw [hlf]
  refine j_iconst (v := 1) B d_M_again_18 (by decide) ?_
  refine j_isubE (v := nI L) B (nI_pred L) d_M_again_19 ?_
  refine j_iastN B not_false rfl (rG (ix := 26) hl rfl) (by omega) d_M_again_20 ?_
  refine jW.heap (σ2 := σ ++ rC b ta wt F0 F1 F2 HH kt kp a hi tm sN sx sy pt mn pl pN px py sn lt rc tx sz us D0 D1 D2 qx qy di up (dn + 1) false (op + 1) gs t0 fr (upd lf op (nI L)) pX pY pD pU X) (rT (ix := 26) hl rfl) ?_
  refine j_aload_n B d_M_again_21 rfl 0 rfl ?_
  refine gf_M_89 B (rG (ix := 0) hl rfl) rfl d_M_again_22 ?_
  refine j_iload_n B d_M_again_25 rfl 1 rfl ?_
  refine j_aload_n B d_M_again_26 rfl 0 rfl ?_
  refine gf_M_167 B (rG (ix := 0) hl rfl) rfl d_M_again_27 ?_
  refine j_iastN B not_false rfl (rG (ix := 27) hl rfl) (by omega) d_M_again_30 ?_
  refine jW.heap (σ2 := σ ++ rC b ta wt F0 F1 F2 HH kt kp a hi tm sN sx sy pt mn pl pN px py sn lt rc tx sz us D0 D1 D2 qx qy di up (dn + 1) false (op + 1) gs t0 fr (upd lf op (nI L)) (upd pX op qx) pY pD pU X) (rT (ix := 27) hl rfl) ?_
  refine j_aload_n B d_M_again_31 rfl 0 rfl ?_
  refine gf_M_92 B (rG (ix := 0) hl rfl) rfl d_M_again_32 ?_
  refine j_iload_n B d_M_again_35 rfl 1 rfl ?_
  refine j_aload_n B d_M_again_36 rfl 0 rfl ?_
  refine gf_M_176 B (rG (ix := 0) hl rfl) rfl d_M_again_37 ?_
  refine j_iastN B not_false rfl (rG (ix := 28) hl rfl) (by omega) d_M_again_40 ?_
  refine jW.heap (σ2 := σ ++ rC b ta wt F0 F1 F2 HH kt kp a hi tm sN sx sy pt mn pl pN px py sn lt rc tx sz us D0 D1 D2 qx qy di up (dn + 1) false (op + 1) gs t0 fr (upd lf op (nI L)) (upd pX op qx) (upd pY op qy) pD pU X) (rT (ix := 28) hl rfl) ?_
  refine j_aload_n B d_M_again_41 rfl 0 rfl ?_
  refine gf_M_95 B (rG (ix := 0) hl rfl) rfl d_M_again_42 ?_
  refine j_iload_n B d_M_again_45 rfl 1 rfl ?_
  refine j_aload_n B d_M_again_46 rfl 0 rfl ?_
  refine gf_M_170 B (rG (ix := 0) hl rfl) rfl d_M_again_47 ?_
  refine j_iastN B not_false rfl (rG (ix := 29) hl rfl) (by omega) d_M_again_50 ?_
  refine jW.heap (σ2 := σ ++ rC b ta wt F0 F1 F2 HH kt kp a hi tm sN sx sy pt mn pl pN px py sn lt rc tx sz us D0 D1 D2 qx qy di up (dn + 1) false (op + 1) gs t0 fr (upd lf op (nI L)) (upd pX op qx) (upd pY op qy) (upd pD op (nI di)) pU X) (rT (ix := 29) hl rfl) ?_
  refine j_aload_n B d_M_again_51 rfl 0 rfl ?_
  refine gf_M_98 B (rG (ix := 0) hl rfl) rfl d_M_again_52 ?_
  refine j_iload_n B d_M_again_55 rfl 1 rfl ?_
  refine j_aload_n B d_M_again_56 rfl 0 rfl ?_
  refine gf_M_182 B (rG (ix := 0) hl rfl) rfl d_M_again_57 ?_
  refine j_zastN B not_false rfl (rG (ix := 30) hl rfl) (by omega) d_M_again_60 ?_
  refine jW.heap (σ2 := σ ++ rC b ta wt F0 F1 F2 HH kt kp a hi tm sN sx sy pt mn pl pN px py sn lt rc tx sz us D0 D1 D2 qx qy di up (dn + 1) false (op + 1) gs t0 fr (upd lf op (nI L)) (upd pX op qx) (upd pY op qy) (upd pD op (nI di)) (upd pU op (vp_nar .boolean (bI up))) X) (rT (ix := 30) hl rfl) ?_
  exact j_vret B K rfl d_M_again_61
set_option maxRecDepth 100000 in
set_option maxHeartbeats 4000000 in
theorem c_M_open_t {l : Launch} {b : Nat} {D : va_G} {ta : Nat → ClassId} {σ : List va_E} (hl : σ.length = 133) {wt : Int32} {F0 : Nat → Int32} {F1 : Nat → Int32} {F2 : Nat → Int32} {HH : Nat → Int32} {kt : Nat → Int32} {kp : Nat → Int32} {a : Nat} {hi : Nat} {tm : Nat} {sN : Nat} {sx : Nat → Int32} {sy : Nat → Int32} {pt : Nat → Int64} {mn : Nat → Int32} {pl : Nat → Int32} {pN : Nat} {px : Nat → Int32} {py : Nat → Int32} {sn : Nat → Int32} {lt : Nat → Int32} {rc : Nat → Int64} {tx : Nat → Int32} {sz : Nat → Int32} {us : Nat → Int32} {D0 : Nat → Int32} {D1 : Nat → Int32} {D2 : Nat → Int32} {qx : Int32} {qy : Int32} {di : Nat} {up : Bool} {dn : Nat} {op : Nat} {gs : Nat → Int32} {t0 : Nat → Int32} {fr : Nat → Int32} {lf : Nat → Int32} {pX : Nat → Int32} {pY : Nat → Int32} {pD : Nat → Int32} {pU : Nat → Int32} {X : List va_E} {cc : Int32} {t p L : Nat} (hdn : dn < 400) (hop : op < 32) : jC l b D ta False y_M_open b_M_open 5 none (rL 2) [.ref (b + 133), .int cc, .int (nI t), .int (nI p), .int (nI (L + 1))] (σ ++ rC b ta wt F0 F1 F2 HH kt kp a hi tm sN sx sy pt mn pl pN px py sn lt rc tx sz us D0 D1 D2 qx qy di up dn false op gs t0 fr lf pX pY pD pU X) none (σ ++ rC b ta wt F0 F1 F2 HH kt kp a hi tm sN sx sy pt mn pl pN px py sn lt rc tx sz us D0 D1 D2 qx qy di up (dn + 1) false (op + 1) (upd gs op cc) (upd t0 op (nI t)) (upd fr op (nI p)) (upd (upd lf op (nI (L + 1))) op (nI L)) (upd pX op qx) (upd pY op qy) (upd pD op (nI di)) (upd pU op (vp_nar .boolean (bI up))) X) := by
  refine jC_of (own := "WireFieldModel") (by decide +kernel) (Nat.le_of_ble_eq_true rfl) rfl (fun Γ B K => ?_)
  change jW l b D Γ False 0 0 5 (σ ++ rC b ta wt F0 F1 F2 HH kt kp a hi tm sN sx sy pt mn pl pN px py sn lt rc tx sz us D0 D1 D2 qx qy di up dn false op gs t0 fr lf pX pY pD pU X) [(0, .ref (b + 133)), (1, .int cc), (2, .int (nI t)), (3, .int (nI p)), (4, .int (nI (L + 1)))] 0 []
  refine j_aload_n B d_M_open_0 rfl 0 rfl ?_
  refine gf_M_77 B (rG (ix := 0) hl rfl) rfl d_M_open_1 ?_
  refine j_aload_n B d_M_open_4 rfl 0 rfl ?_
  refine gf_M_196 B (rG (ix := 0) hl rfl) rfl d_M_open_5 ?_
  refine j_iload_n B d_M_open_8 rfl 1 rfl ?_
  refine j_iastN B not_false rfl (rG (ix := 23) hl rfl) (by omega) d_M_open_9 ?_
  refine jW.heap (σ2 := σ ++ rC b ta wt F0 F1 F2 HH kt kp a hi tm sN sx sy pt mn pl pN px py sn lt rc tx sz us D0 D1 D2 qx qy di up dn false op (upd gs op cc) t0 fr lf pX pY pD pU X) (rT (ix := 23) hl rfl) ?_
  refine j_aload_n B d_M_open_10 rfl 0 rfl ?_
  refine gf_M_80 B (rG (ix := 0) hl rfl) rfl d_M_open_11 ?_
  refine j_aload_n B d_M_open_14 rfl 0 rfl ?_
  refine gf_M_196 B (rG (ix := 0) hl rfl) rfl d_M_open_15 ?_
  refine j_iload_n B d_M_open_18 rfl 2 rfl ?_
  refine j_iastN B not_false rfl (rG (ix := 24) hl rfl) (by omega) d_M_open_19 ?_
  refine jW.heap (σ2 := σ ++ rC b ta wt F0 F1 F2 HH kt kp a hi tm sN sx sy pt mn pl pN px py sn lt rc tx sz us D0 D1 D2 qx qy di up dn false op (upd gs op cc) (upd t0 op (nI t)) fr lf pX pY pD pU X) (rT (ix := 24) hl rfl) ?_
  refine j_aload_n B d_M_open_20 rfl 0 rfl ?_
  refine gf_M_83 B (rG (ix := 0) hl rfl) rfl d_M_open_21 ?_
  refine j_aload_n B d_M_open_24 rfl 0 rfl ?_
  refine gf_M_196 B (rG (ix := 0) hl rfl) rfl d_M_open_25 ?_
  refine j_iload_n B d_M_open_28 rfl 3 rfl ?_
  refine j_iastN B not_false rfl (rG (ix := 25) hl rfl) (by omega) d_M_open_29 ?_
  refine jW.heap (σ2 := σ ++ rC b ta wt F0 F1 F2 HH kt kp a hi tm sN sx sy pt mn pl pN px py sn lt rc tx sz us D0 D1 D2 qx qy di up dn false op (upd gs op cc) (upd t0 op (nI t)) (upd fr op (nI p)) lf pX pY pD pU X) (rT (ix := 25) hl rfl) ?_
  refine j_aload_n B d_M_open_30 rfl 0 rfl ?_
  refine gf_M_86 B (rG (ix := 0) hl rfl) rfl d_M_open_31 ?_
  refine j_aload_n B d_M_open_34 rfl 0 rfl ?_
  refine gf_M_196 B (rG (ix := 0) hl rfl) rfl d_M_open_35 ?_
  refine j_iload B d_M_open_38 4 rfl ?_
  refine j_iastN B not_false rfl (rG (ix := 26) hl rfl) (by omega) d_M_open_40 ?_
  refine jW.heap (σ2 := σ ++ rC b ta wt F0 F1 F2 HH kt kp a hi tm sN sx sy pt mn pl pN px py sn lt rc tx sz us D0 D1 D2 qx qy di up dn false op (upd gs op cc) (upd t0 op (nI t)) (upd fr op (nI p)) (upd lf op (nI (L + 1))) pX pY pD pU X) (rT (ix := 26) hl rfl) ?_
  refine j_aload_n B d_M_open_41 rfl 0 rfl ?_
  refine j_dup B d_M_open_42 rfl ?_
  refine gf_M_196 B (rG (ix := 0) hl rfl) rfl d_M_open_43 ?_
  refine j_iconst (v := 1) B d_M_open_46 (by decide) ?_
  refine j_iaddE (v := nI (op + 1)) B (nI_add op 1) d_M_open_47 ?_
  refine pf_M_196 B not_false (rG (ix := 0) hl rfl) rfl rfl (Nat.le_of_ble_eq_true rfl) d_M_open_48 ?_
  refine jW.heap (σ2 := σ ++ rC b ta wt F0 F1 F2 HH kt kp a hi tm sN sx sy pt mn pl pN px py sn lt rc tx sz us D0 D1 D2 qx qy di up dn false (op + 1) (upd gs op cc) (upd t0 op (nI t)) (upd fr op (nI p)) (upd lf op (nI (L + 1))) pX pY pD pU X) (rT (ix := 0) hl rfl) ?_
  refine j_aload_n B d_M_open_51 rfl 0 rfl ?_
  refine k_callV (as := []) (rest := []) (st1 := []) B (c_M_again_t hl hdn hop pk_us) yf_M_again w_914 w_916 w_s33 rfl (rG (ix := 0) hl rfl) rfl (by decide) (by decide) rfl rfl (Nat.le_of_ble_eq_true rfl) d_M_open_52 ?_
  exact j_vret B K rfl d_M_open_55
set_option maxRecDepth 100000 in
set_option maxHeartbeats 4000000 in
theorem c_M_again_f {l : Launch} {b : Nat} {D : va_G} {ta : Nat → ClassId} {σ : List va_E} (hl : σ.length = 133) {wt : Int32} {F0 : Nat → Int32} {F1 : Nat → Int32} {F2 : Nat → Int32} {HH : Nat → Int32} {kt : Nat → Int32} {kp : Nat → Int32} {a : Nat} {hi : Nat} {tm : Nat} {sN : Nat} {sx : Nat → Int32} {sy : Nat → Int32} {pt : Nat → Int64} {mn : Nat → Int32} {pl : Nat → Int32} {pN : Nat} {px : Nat → Int32} {py : Nat → Int32} {sn : Nat → Int32} {lt : Nat → Int32} {rc : Nat → Int64} {tx : Nat → Int32} {sz : Nat → Int32} {us : Nat → Int32} {D0 : Nat → Int32} {D1 : Nat → Int32} {D2 : Nat → Int32} {qx : Int32} {qy : Int32} {di : Nat} {up : Bool} {dn : Nat} {op : Nat} {gs : Nat → Int32} {t0 : Nat → Int32} {fr : Nat → Int32} {lf : Nat → Int32} {pX : Nat → Int32} {pY : Nat → Int32} {pD : Nat → Int32} {pU : Nat → Int32} {X : List va_E} {L : Nat} (hdn : 400 ≤ dn) (hd2 : dn < 2 ^ 20) (hop : op < 32) (hlf : lf op = nI (L + 1)) : jC l b D ta False y_M_again b_M_again 2 none (rL 1) [.ref (b + 133)] (σ ++ rC b ta wt F0 F1 F2 HH kt kp a hi tm sN sx sy pt mn pl pN px py sn lt rc tx sz us D0 D1 D2 qx qy di up dn false (op + 1) gs t0 fr lf pX pY pD pU X) none (σ ++ rC b ta wt F0 F1 F2 HH kt kp a hi tm sN sx sy pt mn pl pN px py sn lt rc tx sz us D0 D1 D2 qx qy di up (dn + 1) true (op + 1) gs t0 fr (upd lf op (nI L)) (upd pX op qx) (upd pY op qy) (upd pD op (nI di)) (upd pU op (vp_nar .boolean (bI up))) X) := by
  refine jC_of (own := "WireFieldModel") (by decide +kernel) (Nat.le_of_ble_eq_true rfl) rfl (fun Γ B K => ?_)
  change jW l b D Γ False 0 0 2 (σ ++ rC b ta wt F0 F1 F2 HH kt kp a hi tm sN sx sy pt mn pl pN px py sn lt rc tx sz us D0 D1 D2 qx qy di up dn false (op + 1) gs t0 fr lf pX pY pD pU X) [(0, .ref (b + 133))] 0 []
  refine j_aload_n B d_M_again_0 rfl 0 rfl ?_
  refine gf_M_196 B (rG (ix := 0) hl rfl) rfl d_M_again_1 ?_
  refine j_iconst (v := 1) B d_M_again_4 (by decide) ?_
  refine j_isubE (v := nI op) B (nI_pred op) d_M_again_5 ?_
  refine j_istore_n (L' := [(0, .ref (b + 133)), (1, .int (nI op))]) B d_M_again_6 rfl (by decide) [1, 0] rfl ?_
  refine j_aload_n B d_M_again_7 rfl 0 rfl ?_
  refine k_callV (as := []) (rest := []) (st1 := []) B (c_M_countOne_f hl hdn hd2) yf_M_countOne w_918 w_920 w_s34 rfl (rG (ix := 0) hl rfl) rfl (by decide) (by decide) rfl rfl (Nat.le_of_ble_eq_true rfl) d_M_again_8 ?_
  refine j_aload_n B d_M_again_11 rfl 0 rfl ?_
  refine gf_M_86 B (rG (ix := 0) hl rfl) rfl d_M_again_12 ?_
  refine j_iload_n B d_M_again_15 rfl 1 rfl ?_
  refine j_dup2 B d_M_again_16 rfl rfl ?_
  refine j_ialdN B rfl (rG (ix := 26) hl rfl) (by omega) d_M_again_17 ?_
  rw [hlf]
  refine j_iconst (v := 1) B d_M_again_18 (by decide) ?_
  refine j_isubE (v := nI L) B (nI_pred L) d_M_again_19 ?_
  refine j_iastN B not_false rfl (rG (ix := 26) hl rfl) (by omega) d_M_again_20 ?_
  refine jW.heap (σ2 := σ ++ rC b ta wt F0 F1 F2 HH kt kp a hi tm sN sx sy pt mn pl pN px py sn lt rc tx sz us D0 D1 D2 qx qy di up (dn + 1) true (op + 1) gs t0 fr (upd lf op (nI L)) pX pY pD pU X) (rT (ix := 26) hl rfl) ?_
  refine j_aload_n B d_M_again_21 rfl 0 rfl ?_
  refine gf_M_89 B (rG (ix := 0) hl rfl) rfl d_M_again_22 ?_
  refine j_iload_n B d_M_again_25 rfl 1 rfl ?_
  refine j_aload_n B d_M_again_26 rfl 0 rfl ?_
  refine gf_M_167 B (rG (ix := 0) hl rfl) rfl d_M_again_27 ?_
  refine j_iastN B not_false rfl (rG (ix := 27) hl rfl) (by omega) d_M_again_30 ?_
  refine jW.heap (σ2 := σ ++ rC b ta wt F0 F1 F2 HH kt kp a hi tm sN sx sy pt mn pl pN px py sn lt rc tx sz us D0 D1 D2 qx qy di up (dn + 1) true (op + 1) gs t0 fr (upd lf op (nI L)) (upd pX op qx) pY pD pU X) (rT (ix := 27) hl rfl) ?_
  refine j_aload_n B d_M_again_31 rfl 0 rfl ?_
  refine gf_M_92 B (rG (ix := 0) hl rfl) rfl d_M_again_32 ?_
  refine j_iload_n B d_M_again_35 rfl 1 rfl ?_
  refine j_aload_n B d_M_again_36 rfl 0 rfl ?_
  refine gf_M_176 B (rG (ix := 0) hl rfl) rfl d_M_again_37 ?_
  refine j_iastN B not_false rfl (rG (ix := 28) hl rfl) (by omega) d_M_again_40 ?_
  refine jW.heap (σ2 := σ ++ rC b ta wt F0 F1 F2 HH kt kp a hi tm sN sx sy pt mn pl pN px py sn lt rc tx sz us D0 D1 D2 qx qy di up (dn + 1) true (op + 1) gs t0 fr (upd lf op (nI L)) (upd pX op qx) (upd pY op qy) pD pU X) (rT (ix := 28) hl rfl) ?_
  refine j_aload_n B d_M_again_41 rfl 0 rfl ?_
  refine gf_M_95 B (rG (ix := 0) hl rfl) rfl d_M_again_42 ?_
  refine j_iload_n B d_M_again_45 rfl 1 rfl ?_
  refine j_aload_n B d_M_again_46 rfl 0 rfl ?_
  refine gf_M_170 B (rG (ix := 0) hl rfl) rfl d_M_again_47 ?_
  refine j_iastN B not_false rfl (rG (ix := 29) hl rfl) (by omega) d_M_again_50 ?_
  refine jW.heap (σ2 := σ ++ rC b ta wt F0 F1 F2 HH kt kp a hi tm sN sx sy pt mn pl pN px py sn lt rc tx sz us D0 D1 D2 qx qy di up (dn + 1) true (op + 1) gs t0 fr (upd lf op (nI L)) (upd pX op qx) (upd pY op qy) (upd pD op (nI di)) pU X) (rT (ix := 29) hl rfl) ?_
  refine j_aload_n B d_M_again_51 rfl 0 rfl ?_
  refine gf_M_98 B (rG (ix := 0) hl rfl) rfl d_M_again_52 ?_
  refine j_iload_n B d_M_again_55 rfl 1 rfl ?_
  refine j_aload_n B d_M_again_56 rfl 0 rfl ?_
  refine gf_M_182 B (rG (ix := 0) hl rfl) rfl d_M_again_57 ?_
  refine j_zastN B not_false rfl (rG (ix := 30) hl rfl) (by omega) d_M_again_60 ?_
  refine jW.heap (σ2 := σ ++ rC b ta wt F0 F1 F2 HH kt kp a hi tm sN sx sy pt mn pl pN px py sn lt rc tx sz us D0 D1 D2 qx qy di up (dn + 1) true (op + 1) gs t0 fr (upd lf op (nI L)) (upd pX op qx) (upd pY op qy) (upd pD op (nI di)) (upd pU op (vp_nar .boolean (bI up))) X) (rT (ix := 30) hl rfl) ?_
  exact j_vret B K rfl d_M_again_61
set_option maxRecDepth 100000 in
set_option maxHeartbeats 4000000 in
theorem c_M_open_f {l : Launch} {b : Nat} {D : va_G} {ta : Nat → ClassId} {σ : List va_E} (hl : σ.length = 133) {wt : Int32} {F0 : Nat → Int32} {F1 : Nat → Int32} {F2 : Nat → Int32} {HH : Nat → Int32} {kt : Nat → Int32} {kp : Nat → Int32} {a : Nat} {hi : Nat} {tm : Nat} {sN : Nat} {sx : Nat → Int32} {sy : Nat → Int32} {pt : Nat → Int64} {mn : Nat → Int32} {pl : Nat → Int32} {pN : Nat} {px : Nat → Int32} {py : Nat → Int32} {sn : Nat → Int32} {lt : Nat → Int32} {rc : Nat → Int64} {tx : Nat → Int32} {sz : Nat → Int32} {us : Nat → Int32} {D0 : Nat → Int32} {D1 : Nat → Int32} {D2 : Nat → Int32} {qx : Int32} {qy : Int32} {di : Nat} {up : Bool} {dn : Nat} {op : Nat} {gs : Nat → Int32} {t0 : Nat → Int32} {fr : Nat → Int32} {lf : Nat → Int32} {pX : Nat → Int32} {pY : Nat → Int32} {pD : Nat → Int32} {pU : Nat → Int32} {X : List va_E} {cc : Int32} {t p L : Nat} (hdn : 400 ≤ dn) (hd2 : dn < 2 ^ 20) (hop : op < 32) : jC l b D ta False y_M_open b_M_open 5 none (rL 2) [.ref (b + 133), .int cc, .int (nI t), .int (nI p), .int (nI (L + 1))] (σ ++ rC b ta wt F0 F1 F2 HH kt kp a hi tm sN sx sy pt mn pl pN px py sn lt rc tx sz us D0 D1 D2 qx qy di up dn false op gs t0 fr lf pX pY pD pU X) none (σ ++ rC b ta wt F0 F1 F2 HH kt kp a hi tm sN sx sy pt mn pl pN px py sn lt rc tx sz us D0 D1 D2 qx qy di up (dn + 1) true (op + 1) (upd gs op cc) (upd t0 op (nI t)) (upd fr op (nI p)) (upd (upd lf op (nI (L + 1))) op (nI L)) (upd pX op qx) (upd pY op qy) (upd pD op (nI di)) (upd pU op (vp_nar .boolean (bI up))) X) := by
  refine jC_of (own := "WireFieldModel") (by decide +kernel) (Nat.le_of_ble_eq_true rfl) rfl (fun Γ B K => ?_)
  change jW l b D Γ False 0 0 5 (σ ++ rC b ta wt F0 F1 F2 HH kt kp a hi tm sN sx sy pt mn pl pN px py sn lt rc tx sz us D0 D1 D2 qx qy di up dn false op gs t0 fr lf pX pY pD pU X) [(0, .ref (b + 133)), (1, .int cc), (2, .int (nI t)), (3, .int (nI p)), (4, .int (nI (L + 1)))] 0 []
  refine j_aload_n B d_M_open_0 rfl 0 rfl ?_
  refine gf_M_77 B (rG (ix := 0) hl rfl) rfl d_M_open_1 ?_
  refine j_aload_n B d_M_open_4 rfl 0 rfl ?_
  refine gf_M_196 B (rG (ix := 0) hl rfl) rfl d_M_open_5 ?_
  refine j_iload_n B d_M_open_8 rfl 1 rfl ?_
  refine j_iastN B not_false rfl (rG (ix := 23) hl rfl) (by omega) d_M_open_9 ?_
  refine jW.heap (σ2 := σ ++ rC b ta wt F0 F1 F2 HH kt kp a hi tm sN sx sy pt mn pl pN px py sn lt rc tx sz us D0 D1 D2 qx qy di up dn false op (upd gs op cc) t0 fr lf pX pY pD pU X) (rT (ix := 23) hl rfl) ?_
  refine j_aload_n B d_M_open_10 rfl 0 rfl ?_
  refine gf_M_80 B (rG (ix := 0) hl rfl) rfl d_M_open_11 ?_
  refine j_aload_n B d_M_open_14 rfl 0 rfl ?_
  refine gf_M_196 B (rG (ix := 0) hl rfl) rfl d_M_open_15 ?_
  refine j_iload_n B d_M_open_18 rfl 2 rfl ?_
  refine j_iastN B not_false rfl (rG (ix := 24) hl rfl) (by omega) d_M_open_19 ?_
  refine jW.heap (σ2 := σ ++ rC b ta wt F0 F1 F2 HH kt kp a hi tm sN sx sy pt mn pl pN px py sn lt rc tx sz us D0 D1 D2 qx qy di up dn false op (upd gs op cc) (upd t0 op (nI t)) fr lf pX pY pD pU X) (rT (ix := 24) hl rfl) ?_
  refine j_aload_n B d_M_open_20 rfl 0 rfl ?_
  refine gf_M_83 B (rG (ix := 0) hl rfl) rfl d_M_open_21 ?_
  refine j_aload_n B d_M_open_24 rfl 0 rfl ?_
  refine gf_M_196 B (rG (ix := 0) hl rfl) rfl d_M_open_25 ?_
  refine j_iload_n B d_M_open_28 rfl 3 rfl ?_
  refine j_iastN B not_false rfl (rG (ix := 25) hl rfl) (by omega) d_M_open_29 ?_
  refine jW.heap (σ2 := σ ++ rC b ta wt F0 F1 F2 HH kt kp a hi tm sN sx sy pt mn pl pN px py sn lt rc tx sz us D0 D1 D2 qx qy di up dn false op (upd gs op cc) (upd t0 op (nI t)) (upd fr op (nI p)) lf pX pY pD pU X) (rT (ix := 25) hl rfl) ?_
  refine j_aload_n B d_M_open_30 rfl 0 rfl ?_
  refine gf_M_86 B (rG (ix := 0) hl rfl) rfl d_M_open_31 ?_
  refine j_aload_n B d_M_open_34 rfl 0 rfl ?_
  refine gf_M_196 B (rG (ix := 0) hl rfl) rfl d_M_open_35 ?_
  refine j_iload B d_M_open_38 4 rfl ?_
  refine j_iastN B not_false rfl (rG (ix := 26) hl rfl) (by omega) d_M_open_40 ?_
  refine jW.heap (σ2 := σ ++ rC b ta wt F0 F1 F2 HH kt kp a hi tm sN sx sy pt mn pl pN px py sn lt rc tx sz us D0 D1 D2 qx qy di up dn false op (upd gs op cc) (upd t0 op (nI t)) (upd fr op (nI p)) (upd lf op (nI (L + 1))) pX pY pD pU X) (rT (ix := 26) hl rfl) ?_
  refine j_aload_n B d_M_open_41 rfl 0 rfl ?_
  refine j_dup B d_M_open_42 rfl ?_
  refine gf_M_196 B (rG (ix := 0) hl rfl) rfl d_M_open_43 ?_
  refine j_iconst (v := 1) B d_M_open_46 (by decide) ?_
  refine j_iaddE (v := nI (op + 1)) B (nI_add op 1) d_M_open_47 ?_
  refine pf_M_196 B not_false (rG (ix := 0) hl rfl) rfl rfl (Nat.le_of_ble_eq_true rfl) d_M_open_48 ?_
  refine jW.heap (σ2 := σ ++ rC b ta wt F0 F1 F2 HH kt kp a hi tm sN sx sy pt mn pl pN px py sn lt rc tx sz us D0 D1 D2 qx qy di up dn false (op + 1) (upd gs op cc) (upd t0 op (nI t)) (upd fr op (nI p)) (upd lf op (nI (L + 1))) pX pY pD pU X) (rT (ix := 0) hl rfl) ?_
  refine j_aload_n B d_M_open_51 rfl 0 rfl ?_
  refine k_callV (as := []) (rest := []) (st1 := []) B (c_M_again_f hl hdn hd2 hop pk_us) yf_M_again w_914 w_916 w_s33 rfl (rG (ix := 0) hl rfl) rfl (by decide) (by decide) rfl rfl (Nat.le_of_ble_eq_true rfl) d_M_open_52 ?_
  exact j_vret B K rfl d_M_open_55
set_option maxRecDepth 100000 in
set_option maxHeartbeats 4000000 in
theorem c_M_comeBack {l : Launch} {b : Nat} {D : va_G} {ta : Nat → ClassId} {σ : List va_E} (hl : σ.length = 133) {wt : Int32} {F0 : Nat → Int32} {F1 : Nat → Int32} {F2 : Nat → Int32} {HH : Nat → Int32} {kt : Nat → Int32} {kp : Nat → Int32} {a : Nat} {hi : Nat} {tm : Nat} {sN : Nat} {sx : Nat → Int32} {sy : Nat → Int32} {pt : Nat → Int64} {mn : Nat → Int32} {pl : Nat → Int32} {pN : Nat} {px : Nat → Int32} {py : Nat → Int32} {sn : Nat → Int32} {lt : Nat → Int32} {rc : Nat → Int64} {tx : Nat → Int32} {sz : Nat → Int32} {us : Nat → Int32} {D0 : Nat → Int32} {D1 : Nat → Int32} {D2 : Nat → Int32} {qx : Int32} {qy : Int32} {di : Nat} {up : Bool} {dn : Nat} {be : Bool} {op : Nat} {gs : Nat → Int32} {t0 : Nat → Int32} {fr : Nat → Int32} {lf : Nat → Int32} {pX : Nat → Int32} {pY : Nat → Int32} {pD : Nat → Int32} {pU : Nat → Int32} {X : List va_E} {d2 : Nat} {u2 : Bool} (hop : op < 32) (hD : pD op = nI d2) (hU : pU op = bI u2) : jC l b D ta False y_M_comeBack b_M_comeBack 2 none (rL 0) [.ref (b + 133)] (σ ++ rC b ta wt F0 F1 F2 HH kt kp a hi tm sN sx sy pt mn pl pN px py sn lt rc tx sz us D0 D1 D2 qx qy di up dn be (op + 1) gs t0 fr lf pX pY pD pU X) none (σ ++ rC b ta wt F0 F1 F2 HH kt kp a hi tm sN sx sy pt mn pl pN px py sn lt rc tx sz us D0 D1 D2 (pX op) (pY op) d2 u2 dn be (op + 1) gs t0 fr lf pX pY pD pU X) := by
  refine jC_of (own := "WireFieldModel") (by decide +kernel) (Nat.le_of_ble_eq_true rfl) rfl (fun Γ B K => ?_)
  change jW l b D Γ False 0 0 2 (σ ++ rC b ta wt F0 F1 F2 HH kt kp a hi tm sN sx sy pt mn pl pN px py sn lt rc tx sz us D0 D1 D2 qx qy di up dn be (op + 1) gs t0 fr lf pX pY pD pU X) [(0, .ref (b + 133))] 0 []
  refine j_aload_n B d_M_comeBack_0 rfl 0 rfl ?_
  refine gf_M_196 B (rG (ix := 0) hl rfl) rfl d_M_comeBack_1 ?_
  refine j_iconst (v := 1) B d_M_comeBack_4 (by decide) ?_
  refine j_isubE (v := nI op) B (nI_pred op) d_M_comeBack_5 ?_
  refine j_istore_n (L' := [(0, .ref (b + 133)), (1, .int (nI op))]) B d_M_comeBack_6 rfl (by decide) [1, 0] rfl ?_
  refine j_aload_n B d_M_comeBack_7 rfl 0 rfl ?_
  refine j_aload_n B d_M_comeBack_8 rfl 0 rfl ?_
  refine gf_M_89 B (rG (ix := 0) hl rfl) rfl d_M_comeBack_9 ?_
  refine j_iload_n B d_M_comeBack_12 rfl 1 rfl ?_
  refine j_ialdN B rfl (rG (ix := 27) hl rfl) (by omega) d_M_comeBack_13 ?_
  refine pf_M_167 B not_false (rG (ix := 0) hl rfl) rfl rfl (Nat.le_of_ble_eq_true rfl) d_M_comeBack_14 ?_
  refine jW.heap (σ2 := σ ++ rC b ta wt F0 F1 F2 HH kt kp a hi tm sN sx sy pt mn pl pN px py sn lt rc tx sz us D0 D1 D2 (pX op) qy di up dn be (op + 1) gs t0 fr lf pX pY pD pU X) (rT (ix := 0) hl rfl) ?_
  refine j_aload_n B d_M_comeBack_17 rfl 0 rfl ?_
  refine j_aload_n B d_M_comeBack_18 rfl 0 rfl ?_
  refine gf_M_92 B (rG (ix := 0) hl rfl) rfl d_M_comeBack_19 ?_
  refine j_iload_n B d_M_comeBack_22 rfl 1 rfl ?_
  refine j_ialdN B rfl (rG (ix := 28) hl rfl) (by omega) d_M_comeBack_23 ?_
  refine pf_M_176 B not_false (rG (ix := 0) hl rfl) rfl rfl (Nat.le_of_ble_eq_true rfl) d_M_comeBack_24 ?_
  refine jW.heap (σ2 := σ ++ rC b ta wt F0 F1 F2 HH kt kp a hi tm sN sx sy pt mn pl pN px py sn lt rc tx sz us D0 D1 D2 (pX op) (pY op) di up dn be (op + 1) gs t0 fr lf pX pY pD pU X) (rT (ix := 0) hl rfl) ?_
  refine j_aload_n B d_M_comeBack_27 rfl 0 rfl ?_
  refine j_aload_n B d_M_comeBack_28 rfl 0 rfl ?_
  refine gf_M_95 B (rG (ix := 0) hl rfl) rfl d_M_comeBack_29 ?_
  refine j_iload_n B d_M_comeBack_32 rfl 1 rfl ?_
  refine j_ialdN B rfl (rG (ix := 29) hl rfl) (by omega) d_M_comeBack_33 ?_
  rw [hD]
  refine pf_M_170 B not_false (rG (ix := 0) hl rfl) rfl rfl (Nat.le_of_ble_eq_true rfl) d_M_comeBack_34 ?_
  refine jW.heap (σ2 := σ ++ rC b ta wt F0 F1 F2 HH kt kp a hi tm sN sx sy pt mn pl pN px py sn lt rc tx sz us D0 D1 D2 (pX op) (pY op) d2 up dn be (op + 1) gs t0 fr lf pX pY pD pU X) (rT (ix := 0) hl rfl) ?_
  refine j_aload_n B d_M_comeBack_37 rfl 0 rfl ?_
  refine j_aload_n B d_M_comeBack_38 rfl 0 rfl ?_
  refine gf_M_98 B (rG (ix := 0) hl rfl) rfl d_M_comeBack_39 ?_
  refine j_iload_n B d_M_comeBack_42 rfl 1 rfl ?_
  refine j_zaldN B rfl (rG (ix := 30) hl rfl) (by omega) d_M_comeBack_43 ?_
  rw [hU]
  refine pf_M_182 B not_false (rG (ix := 0) hl rfl) (by first | exact bI_nar _ | exact bI_fit _ | decide) (by first | exact bI_nar _ | exact bI_fit _ | decide) (Nat.le_of_ble_eq_true rfl) d_M_comeBack_44 ?_
  refine jW.heap (σ2 := σ ++ rC b ta wt F0 F1 F2 HH kt kp a hi tm sN sx sy pt mn pl pN px py sn lt rc tx sz us D0 D1 D2 (pX op) (pY op) d2 u2 dn be (op + 1) gs t0 fr lf pX pY pD pU X) (rT (ix := 0) hl rfl) ?_
  exact j_vret B K rfl d_M_comeBack_47
