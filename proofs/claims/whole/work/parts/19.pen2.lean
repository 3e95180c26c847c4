set_option maxRecDepth 100000 in
set_option maxHeartbeats 4000000 in
theorem c_Pe_begin {l : Launch} {b : Nat} {D : va_G} {ta : Nat → ClassId} {σ : List va_E} {p g h t w : Nat} (H : pW b σ p g h t w) {c r : Int32} {d : Nat} {u : Bool} {o : Nat} {F0 F1 F2 : Nat → Int32} {g2 h2 t2 w2 : Nat} {E0 E1 E2 : Nat → Int32} (hg2 : σ[g2]? = some (.inr (0, [.ref (b + h2), .ref (b + t2), .ref (b + w2)]))) (hh2 : σ[h2]? = some (.inl (ta 0, 24, .inl E0))) (ht2 : σ[t2]? = some (.inl (ta 0, 24, .inl E1))) (hw2 : σ[w2]? = some (.inl (ta 0, 24, .inl E2))) (a0 : p ≠ g2) (a1 : h ≠ g2) (a2 : t ≠ g2) (a3 : w ≠ g2) (a4 : p ≠ h2) (a5 : h ≠ h2) (a6 : t ≠ h2) (a7 : w ≠ h2) (a8 : p ≠ t2) (a9 : h ≠ t2) (a10 : t ≠ t2) (a11 : w ≠ t2) (a12 : p ≠ w2) (a13 : h ≠ w2) (a14 : t ≠ w2) (a15 : w ≠ w2) (z0 : Z24 E0) (z1 : Z24 E1) (z2 : Z24 E2) (y0 : Z24 F0) (y1 : Z24 F1) (y2 : Z24 F2) (c2 r2 : Int32) (d2 : Nat) : jC l b D ta False y_Pe_begin b_Pe_begin 5 none (rL 2) [.ref (b + p), .ref (b + g2), .int c2, .int r2, .int (nI d2)] (pS b ta σ p g h t w c r d u o F0 F1 F2) none (pS b ta σ p g h t w c2 r2 d2 true 0 E0 E1 E2) := by
  refine jC_of (own := "WireField$Pen") (by decide +kernel) (Nat.le_of_ble_eq_true rfl) rfl (fun Γ B K => ?_)
  change jW l b D Γ False 0 0 5 (pS b ta σ p g h t w c r d u o F0 F1 F2) [(0, .ref (b + p)), (1, .ref (b + g2)), (2, .int c2), (3, .int r2), (4, .int (nI d2))] 0 []
  refine j_aload_n B d_Pe_begin_0 rfl 0 rfl ?_
  refine gf_Pe_12 B (pS_p H) rfl d_Pe_begin_1 ?_
  refine j_aload_n B d_Pe_begin_4 rfl 1 rfl ?_
  refine k_callV (as := [.ref (b + g2)]) (rest := []) (st1 := []) B (c_G_takeFrom (pS_g H) (pS_h H) (pS_t H) (pS_w H) (pS_o a0 a1 a2 a3 hg2) (pS_o a4 a5 a6 a7 hh2) (pS_o a8 a9 a10 a11 ht2) (pS_o a12 a13 a14 a15 hw2) H.2.2.2.1.1.symm H.2.2.2.2.1 H.2.2.2.2.2.1 a1 a5 a9 a13 H.2.2.2.1.2.1.symm H.2.2.2.2.2.2 a2 a6 a10 a14 H.2.2.2.1.2.2.symm a3 a7 a11 a15 z0 z1 z2 y0 y1 y2) yf_G_takeFrom w_580 w_254 w_255 rfl (pS_g H) rfl (by decide) (by decide) rfl rfl (Nat.le_of_ble_eq_true rfl) d_Pe_begin_5 ?_
  refine jW.heap (σ2 := pS b ta σ p g h t w c r d u o E0 E1 E2) (pS_wf H) ?_
  refine j_aload_n B d_Pe_begin_8 rfl 0 rfl ?_
  refine j_iload_n B d_Pe_begin_9 rfl 2 rfl ?_
  refine pf_Pe_18 B not_false (pS_p H) rfl rfl (Nat.le_of_ble_eq_true rfl) d_Pe_begin_10 ?_
  refine jW.heap (σ2 := pS b ta σ p g h t w c2 r d u o E0 E1 E2) (pS_wp (c' := c2) (r' := r) (d' := d) (u' := u) (o' := o) H) ?_
  refine j_aload_n B d_Pe_begin_13 rfl 0 rfl ?_
  refine j_iload_n B d_Pe_begin_14 rfl 3 rfl ?_
  refine pf_Pe_22 B not_false (pS_p H) rfl rfl (Nat.le_of_ble_eq_true rfl) d_Pe_begin_15 ?_
  refine jW.heap (σ2 := pS b ta σ p g h t w c2 r2 d u o E0 E1 E2) (pS_wp (c' := c2) (r' := r2) (d' := d) (u' := u) (o' := o) H) ?_
  refine j_aload_n B d_Pe_begin_18 rfl 0 rfl ?_
  refine j_iload B d_Pe_begin_19 4 rfl ?_
  refine pf_Pe_25 B not_false (pS_p H) rfl rfl (Nat.le_of_ble_eq_true rfl) d_Pe_begin_21 ?_
  refine jW.heap (σ2 := pS b ta σ p g h t w c2 r2 d2 u o E0 E1 E2) (pS_wp (c' := c2) (r' := r2) (d' := d2) (u' := u) (o' := o) H) ?_
  refine j_aload_n B d_Pe_begin_24 rfl 0 rfl ?_
  refine j_iconst (v := 1) B d_Pe_begin_25 (by decide) ?_
  refine pf_Pe_28 B not_false (pS_p H) rfl rfl (Nat.le_of_ble_eq_true rfl) d_Pe_begin_26 ?_
  refine jW.heap (σ2 := pS b ta σ p g h t w c2 r2 d2 true o E0 E1 E2) (pS_wp (c' := c2) (r' := r2) (d' := d2) (u' := true) (o' := o) H) ?_
  refine j_aload_n B d_Pe_begin_29 rfl 0 rfl ?_
  refine j_iconst (v := 0) B d_Pe_begin_30 (by decide) ?_
  refine pf_Pe_32 B not_false (pS_p H) rfl rfl (Nat.le_of_ble_eq_true rfl) d_Pe_begin_31 ?_
  refine jW.heap (σ2 := pS b ta σ p g h t w c2 r2 d2 true 0 E0 E1 E2) (pS_wp (c' := c2) (r' := r2) (d' := d2) (u' := true) (o' := 0) H) ?_
  exact j_vret B K rfl d_Pe_begin_34
set_option maxRecDepth 100000 in
set_option maxHeartbeats 4000000 in
theorem c_Pe_obey_F_t {l : Launch} {b : Nat} {D : va_G} {ta : Nat → ClassId} {σ : List va_E} {p g h t w : Nat} (H : pW b σ p g h t w) {c r : Int32} {d : Nat} {u : Bool} {o : Nat} {F0 F1 F2 : Nat → Int32} (hd : d < 4) (hin : inF (cA c d 1 0) (rA r d 1 0) = true) : jC l b D ta False y_Pe_obey b_Pe_obey 2 (some .boolean) (rL 5) [.ref (b + p), .int 70] (pS b ta σ p g h t w c r d u o F0 F1 F2) (some (.int 1)) (pS b ta σ p g h t w (cA c d 1 0) (rA r d 1 0) d u o (mkB u F0 (cA (cA c d 1 0) d 0 0) (rA (rA r d 1 0) d 0 0) 1) (mkB u F1 (cA (cA c d 1 0) d 0 0) (rA (rA r d 1 0) d 0 0) 2) (mkB u F2 (cA (cA c d 1 0) d 0 0) (rA (rA r d 1 0) d 0 0) 3)) := by
  refine jC_of (own := "WireField$Pen") (by decide +kernel) (Nat.le_of_ble_eq_true rfl) rfl (fun Γ B K => ?_)
  change jW l b D Γ False 0 0 2 (pS b ta σ p g h t w c r d u o F0 F1 F2) [(0, .ref (b + p)), (1, .int 70)] 0 []
  refine j_iload_n B d_Pe_obey_0 rfl 1 rfl ?_
  refine j_tableIn B d_Pe_obey_1 (by decide) (by decide) rfl rfl ?_
  refine j_aload_n B d_Pe_obey_128 rfl 0 rfl ?_
  refine k_callV (as := []) (rest := []) (st1 := [.int 1]) B (c_Pe_drawForward_t H hd hin) yf_Pe_drawForward w_615 w_617 w_s15 rfl (pS_p H) rfl (by decide) (by decide) rfl rfl (Nat.le_of_ble_eq_true rfl) d_Pe_obey_129 ?_
  exact j_zret B K (by decide) rfl rfl d_Pe_obey_132
set_option maxRecDepth 100000 in
set_option maxHeartbeats 4000000 in
theorem c_Pe_obey_F_f {l : Launch} {b : Nat} {D : va_G} {ta : Nat → ClassId} {σ : List va_E} {p g h t w : Nat} (H : pW b σ p g h t w) {c r : Int32} {d : Nat} {u : Bool} {o : Nat} {F0 F1 F2 : Nat → Int32} (hd : d < 4) (hin : inF (cA c d 1 0) (rA r d 1 0) = false) : jC l b D ta False y_Pe_obey b_Pe_obey 2 (some .boolean) (rL 5) [.ref (b + p), .int 70] (pS b ta σ p g h t w c r d u o F0 F1 F2) (some (.int 0)) (pS b ta σ p g h t w c r d u o F0 F1 F2) := by
  refine jC_of (own := "WireField$Pen") (by decide +kernel) (Nat.le_of_ble_eq_true rfl) rfl (fun Γ B K => ?_)
  change jW l b D Γ False 0 0 2 (pS b ta σ p g h t w c r d u o F0 F1 F2) [(0, .ref (b + p)), (1, .int 70)] 0 []
  refine j_iload_n B d_Pe_obey_0 rfl 1 rfl ?_
  refine j_tableIn B d_Pe_obey_1 (by decide) (by decide) rfl rfl ?_
  refine j_aload_n B d_Pe_obey_128 rfl 0 rfl ?_
  refine k_callV (as := []) (rest := []) (st1 := [.int 0]) B (c_Pe_drawForward_f H hd hin) yf_Pe_drawForward w_615 w_617 w_s15 rfl (pS_p H) rfl (by decide) (by decide) rfl rfl (Nat.le_of_ble_eq_true rfl) d_Pe_obey_129 ?_
  exact j_zret B K (by decide) rfl rfl d_Pe_obey_132
set_option maxRecDepth 100000 in
set_option maxHeartbeats 4000000 in
theorem c_Pe_obey_B_t {l : Launch} {b : Nat} {D : va_G} {ta : Nat → ClassId} {σ : List va_E} {p g h t w : Nat} (H : pW b σ p g h t w) {c r : Int32} {d : Nat} {u : Bool} {o : Nat} {F0 F1 F2 : Nat → Int32} (hd : d < 4) (hin : inF (cA c d (-1) 0) (rA r d (-1) 0) = true) : jC l b D ta False y_Pe_obey b_Pe_obey 2 (some .boolean) (rL 5) [.ref (b + p), .int 66] (pS b ta σ p g h t w c r d u o F0 F1 F2) (some (.int 1)) (pS b ta σ p g h t w (cA c d (-1) 0) (rA r d (-1) 0) d u o F0 F1 F2) := by
  refine jC_of (own := "WireField$Pen") (by decide +kernel) (Nat.le_of_ble_eq_true rfl) rfl (fun Γ B K => ?_)
  change jW l b D Γ False 0 0 2 (pS b ta σ p g h t w c r d u o F0 F1 F2) [(0, .ref (b + p)), (1, .int 66)] 0 []
  refine j_iload_n B d_Pe_obey_0 rfl 1 rfl ?_
  refine j_tableIn B d_Pe_obey_1 (by decide) (by decide) rfl rfl ?_
  refine j_aload_n B d_Pe_obey_133 rfl 0 rfl ?_
  refine j_iconst (v := (-1)) B d_Pe_obey_134 (by decide) ?_
  refine k_callV (as := [.int (-1)]) (rest := []) (st1 := [.int 1]) B (c_Pe_move_t H hd (-1) hin) yf_Pe_move w_619 w_621 w_s16 rfl (pS_p H) rfl (by decide) (by decide) rfl rfl (Nat.le_of_ble_eq_true rfl) d_Pe_obey_135 ?_
  exact j_zret B K (by decide) rfl rfl d_Pe_obey_138
set_option maxRecDepth 100000 in
set_option maxHeartbeats 4000000 in
theorem c_Pe_obey_B_f {l : Launch} {b : Nat} {D : va_G} {ta : Nat → ClassId} {σ : List va_E} {p g h t w : Nat} (H : pW b σ p g h t w) {c r : Int32} {d : Nat} {u : Bool} {o : Nat} {F0 F1 F2 : Nat → Int32} (hd : d < 4) (hin : inF (cA c d (-1) 0) (rA r d (-1) 0) = false) : jC l b D ta False y_Pe_obey b_Pe_obey 2 (some .boolean) (rL 5) [.ref (b + p), .int 66] (pS b ta σ p g h t w c r d u o F0 F1 F2) (some (.int 0)) (pS b ta σ p g h t w c r d u o F0 F1 F2) := by
  refine jC_of (own := "WireField$Pen") (by decide +kernel) (Nat.le_of_ble_eq_true rfl) rfl (fun Γ B K => ?_)
  change jW l b D Γ False 0 0 2 (pS b ta σ p g h t w c r d u o F0 F1 F2) [(0, .ref (b + p)), (1, .int 66)] 0 []
  refine j_iload_n B d_Pe_obey_0 rfl 1 rfl ?_
  refine j_tableIn B d_Pe_obey_1 (by decide) (by decide) rfl rfl ?_
  refine j_aload_n B d_Pe_obey_133 rfl 0 rfl ?_
  refine j_iconst (v := (-1)) B d_Pe_obey_134 (by decide) ?_
  refine k_callV (as := [.int (-1)]) (rest := []) (st1 := [.int 0]) B (c_Pe_move_f H hd (-1) hin) yf_Pe_move w_619 w_621 w_s16 rfl (pS_p H) rfl (by decide) (by decide) rfl rfl (Nat.le_of_ble_eq_true rfl) d_Pe_obey_135 ?_
  exact j_zret B K (by decide) rfl rfl d_Pe_obey_138
set_option maxRecDepth 100000 in
set_option maxHeartbeats 4000000 in
theorem c_Pe_obey_R {l : Launch} {b : Nat} {D : va_G} {ta : Nat → ClassId} {σ : List va_E} {p g h t w : Nat} (H : pW b σ p g h t w) {c r : Int32} {d : Nat} {u : Bool} {o : Nat} {F0 F1 F2 : Nat → Int32} (hd : d < 4) : jC l b D ta False y_Pe_obey b_Pe_obey 2 (some .boolean) (rL 5) [.ref (b + p), .int 82] (pS b ta σ p g h t w c r d u o F0 F1 F2) (some (.int 1)) (pS b ta σ p g h t w c r ((d + 1) % 4) u o F0 F1 F2) := by
  refine jC_of (own := "WireField$Pen") (by decide +kernel) (Nat.le_of_ble_eq_true rfl) rfl (fun Γ B K => ?_)
  change jW l b D Γ False 0 0 2 (pS b ta σ p g h t w c r d u o F0 F1 F2) [(0, .ref (b + p)), (1, .int 82)] 0 []
  refine j_iload_n B d_Pe_obey_0 rfl 1 rfl ?_
  refine j_tableIn B d_Pe_obey_1 (by decide) (by decide) rfl rfl ?_
  refine j_aload_n B d_Pe_obey_139 rfl 0 rfl ?_
  refine j_aload_n B d_Pe_obey_140 rfl 0 rfl ?_
  refine gf_Pe_25 B (pS_p H) rfl d_Pe_obey_141 ?_
  refine j_iconst (v := 1) B d_Pe_obey_144 (by decide) ?_
  refine j_iaddE (v := nI (d + 1)) B (nI_add d 1) d_Pe_obey_145 ?_
  refine j_iconst (v := 4) B d_Pe_obey_146 (by decide) ?_
  refine j_iremE (v := nI ((d + 1) % 4)) B (by decide) (pk_rem (a := (d + 1)) (d := 4) (by omega) (by decide) (by decide)) d_Pe_obey_147 ?_
  refine pf_Pe_25 B not_false (pS_p H) rfl rfl (Nat.le_of_ble_eq_true rfl) d_Pe_obey_148 ?_
  refine jW.heap (σ2 := pS b ta σ p g h t w c r ((d + 1) % 4) u o F0 F1 F2) (pS_wp (c' := c) (r' := r) (d' := ((d + 1) % 4)) (u' := u) (o' := o) H) ?_
  refine j_iconst (v := 1) B d_Pe_obey_151 (by decide) ?_
  exact j_zret B K (by decide) rfl rfl d_Pe_obey_152
set_option maxRecDepth 100000 in
set_option maxHeartbeats 4000000 in
theorem c_Pe_obey_L {l : Launch} {b : Nat} {D : va_G} {ta : Nat → ClassId} {σ : List va_E} {p g h t w : Nat} (H : pW b σ p g h t w) {c r : Int32} {d : Nat} {u : Bool} {o : Nat} {F0 F1 F2 : Nat → Int32} (hd : d < 4) : jC l b D ta False y_Pe_obey b_Pe_obey 2 (some .boolean) (rL 5) [.ref (b + p), .int 76] (pS b ta σ p g h t w c r d u o F0 F1 F2) (some (.int 1)) (pS b ta σ p g h t w c r ((d + 3) % 4) u o F0 F1 F2) := by
  refine jC_of (own := "WireField$Pen") (by decide +kernel) (Nat.le_of_ble_eq_true rfl) rfl (fun Γ B K => ?_)
  change jW l b D Γ False 0 0 2 (pS b ta σ p g h t w c r d u o F0 F1 F2) [(0, .ref (b + p)), (1, .int 76)] 0 []
  refine j_iload_n B d_Pe_obey_0 rfl 1 rfl ?_
  refine j_tableIn B d_Pe_obey_1 (by decide) (by decide) rfl rfl ?_
  refine j_aload_n B d_Pe_obey_153 rfl 0 rfl ?_
  refine j_aload_n B d_Pe_obey_154 rfl 0 rfl ?_
  refine gf_Pe_25 B (pS_p H) rfl d_Pe_obey_155 ?_
  refine j_iconst (v := 3) B d_Pe_obey_158 (by decide) ?_
  refine j_iaddE (v := nI (d + 3)) B (nI_add d 3) d_Pe_obey_159 ?_
  refine j_iconst (v := 4) B d_Pe_obey_160 (by decide) ?_
  refine j_iremE (v := nI ((d + 3) % 4)) B (by decide) (pk_rem (a := (d + 3)) (d := 4) (by omega) (by decide) (by decide)) d_Pe_obey_161 ?_
  refine pf_Pe_25 B not_false (pS_p H) rfl rfl (Nat.le_of_ble_eq_true rfl) d_Pe_obey_162 ?_
  refine jW.heap (σ2 := pS b ta σ p g h t w c r ((d + 3) % 4) u o F0 F1 F2) (pS_wp (c' := c) (r' := r) (d' := ((d + 3) % 4)) (u' := u) (o' := o) H) ?_
  refine j_iconst (v := 1) B d_Pe_obey_165 (by decide) ?_
  exact j_zret B K (by decide) rfl rfl d_Pe_obey_166
set_option maxRecDepth 100000 in
set_option maxHeartbeats 4000000 in
theorem c_Pe_obey_U {l : Launch} {b : Nat} {D : va_G} {ta : Nat → ClassId} {σ : List va_E} {p g h t w : Nat} (H : pW b σ p g h t w) {c r : Int32} {d : Nat} {u : Bool} {o : Nat} {F0 F1 F2 : Nat → Int32} (hd : d < 4) : jC l b D ta False y_Pe_obey b_Pe_obey 2 (some .boolean) (rL 5) [.ref (b + p), .int 85] (pS b ta σ p g h t w c r d u o F0 F1 F2) (some (.int 1)) (pS b ta σ p g h t w c r d false o F0 F1 F2) := by
  refine jC_of (own := "WireField$Pen") (by decide +kernel) (Nat.le_of_ble_eq_true rfl) rfl (fun Γ B K => ?_)
  change jW l b D Γ False 0 0 2 (pS b ta σ p g h t w c r d u o F0 F1 F2) [(0, .ref (b + p)), (1, .int 85)] 0 []
  refine j_iload_n B d_Pe_obey_0 rfl 1 rfl ?_
  refine j_tableIn B d_Pe_obey_1 (by decide) (by decide) rfl rfl ?_
  refine j_aload_n B d_Pe_obey_167 rfl 0 rfl ?_
  refine j_iconst (v := 0) B d_Pe_obey_168 (by decide) ?_
  refine pf_Pe_28 B not_false (pS_p H) rfl rfl (Nat.le_of_ble_eq_true rfl) d_Pe_obey_169 ?_
  refine jW.heap (σ2 := pS b ta σ p g h t w c r d false o F0 F1 F2) (pS_wp (c' := c) (r' := r) (d' := d) (u' := false) (o' := o) H) ?_
  refine j_iconst (v := 1) B d_Pe_obey_172 (by decide) ?_
  exact j_zret B K (by decide) rfl rfl d_Pe_obey_173
set_option maxRecDepth 100000 in
set_option maxHeartbeats 4000000 in
theorem c_Pe_obey_D {l : Launch} {b : Nat} {D : va_G} {ta : Nat → ClassId} {σ : List va_E} {p g h t w : Nat} (H : pW b σ p g h t w) {c r : Int32} {d : Nat} {u : Bool} {o : Nat} {F0 F1 F2 : Nat → Int32} (hd : d < 4) : jC l b D ta False y_Pe_obey b_Pe_obey 2 (some .boolean) (rL 5) [.ref (b + p), .int 68] (pS b ta σ p g h t w c r d u o F0 F1 F2) (some (.int 1)) (pS b ta σ p g h t w c r d true o F0 F1 F2) := by
  refine jC_of (own := "WireField$Pen") (by decide +kernel) (Nat.le_of_ble_eq_true rfl) rfl (fun Γ B K => ?_)
  change jW l b D Γ False 0 0 2 (pS b ta σ p g h t w c r d u o F0 F1 F2) [(0, .ref (b + p)), (1, .int 68)] 0 []
  refine j_iload_n B d_Pe_obey_0 rfl 1 rfl ?_
  refine j_tableIn B d_Pe_obey_1 (by decide) (by decide) rfl rfl ?_
  refine j_aload_n B d_Pe_obey_174 rfl 0 rfl ?_
  refine j_iconst (v := 1) B d_Pe_obey_175 (by decide) ?_
  refine pf_Pe_28 B not_false (pS_p H) rfl rfl (Nat.le_of_ble_eq_true rfl) d_Pe_obey_176 ?_
  refine jW.heap (σ2 := pS b ta σ p g h t w c r d true o F0 F1 F2) (pS_wp (c' := c) (r' := r) (d' := d) (u' := true) (o' := o) H) ?_
  refine j_iconst (v := 1) B d_Pe_obey_179 (by decide) ?_
  exact j_zret B K (by decide) rfl rfl d_Pe_obey_180
set_option maxRecDepth 100000 in
set_option maxHeartbeats 4000000 in
theorem c_Pe_obey_E {l : Launch} {b : Nat} {D : va_G} {ta : Nat → ClassId} {σ : List va_E} {p g h t w : Nat} (H : pW b σ p g h t w) {c r : Int32} {d : Nat} {u : Bool} {o : Nat} {F0 F1 F2 : Nat → Int32} (hd : d < 4) : jC l b D ta False y_Pe_obey b_Pe_obey 2 (some .boolean) (rL 5) [.ref (b + p), .int 69] (pS b ta σ p g h t w c r d u o F0 F1 F2) (some (.int 1)) (pS b ta σ p g h t w c r d u o (if fVal (pB F0 c r 1 1) (pB F1 c r 1 2) (pB F2 c r 1 3) (cA c d (-1) 0) (rA r d (-1) 0) = 3 then pB (pB F0 c r 1 1) (cA c d (-1) 0) (rA r d (-1) 0) 2 1 else pB F0 c r 1 1) (if fVal (pB F0 c r 1 1) (pB F1 c r 1 2) (pB F2 c r 1 3) (cA c d (-1) 0) (rA r d (-1) 0) = 3 then pB (pB F1 c r 1 2) (cA c d (-1) 0) (rA r d (-1) 0) 2 2 else pB F1 c r 1 2) (if fVal (pB F0 c r 1 1) (pB F1 c r 1 2) (pB F2 c r 1 3) (cA c d (-1) 0) (rA r d (-1) 0) = 3 then pB (pB F2 c r 1 3) (cA c d (-1) 0) (rA r d (-1) 0) 2 3 else pB F2 c r 1 3)) := by
  refine jC_of (own := "WireField$Pen") (by decide +kernel) (Nat.le_of_ble_eq_true rfl) rfl (fun Γ B K => ?_)
  change jW l b D Γ False 0 0 2 (pS b ta σ p g h t w c r d u o F0 F1 F2) [(0, .ref (b + p)), (1, .int 69)] 0 []
  refine j_iload_n B d_Pe_obey_0 rfl 1 rfl ?_
  refine j_tableIn B d_Pe_obey_1 (by decide) (by decide) rfl rfl ?_
  refine j_aload_n B d_Pe_obey_181 rfl 0 rfl ?_
  refine k_callV (as := []) (rest := []) (st1 := []) B (c_Pe_putElectron H hd ) yf_Pe_putElectron w_641 w_643 w_s20 rfl (pS_p H) rfl (by decide) (by decide) rfl rfl (Nat.le_of_ble_eq_true rfl) d_Pe_obey_182 ?_
  refine j_iconst (v := 1) B d_Pe_obey_185 (by decide) ?_
  exact j_zret B K (by decide) rfl rfl d_Pe_obey_186
set_option maxRecDepth 100000 in
set_option maxHeartbeats 4000000 in
theorem c_Pe_obey_W {l : Launch} {b : Nat} {D : va_G} {ta : Nat → ClassId} {σ : List va_E} {p g h t w : Nat} (H : pW b σ p g h t w) {c r : Int32} {d : Nat} {u : Bool} {o : Nat} {F0 F1 F2 : Nat → Int32} (hd : d < 4) : jC l b D ta False y_Pe_obey b_Pe_obey 2 (some .boolean) (rL 5) [.ref (b + p), .int 87] (pS b ta σ p g h t w c r d u o F0 F1 F2) (some (.int 1)) (pS b ta σ p g h t w c r d u o (pB F0 c r 0 1) (pB F1 c r 0 2) (pB F2 c r 0 3)) := by
  refine jC_of (own := "WireField$Pen") (by decide +kernel) (Nat.le_of_ble_eq_true rfl) rfl (fun Γ B K => ?_)
  change jW l b D Γ False 0 0 2 (pS b ta σ p g h t w c r d u o F0 F1 F2) [(0, .ref (b + p)), (1, .int 87)] 0 []
  refine j_iload_n B d_Pe_obey_0 rfl 1 rfl ?_
  refine j_tableIn B d_Pe_obey_1 (by decide) (by decide) rfl rfl ?_
  refine j_aload_n B d_Pe_obey_187 rfl 0 rfl ?_
  refine gf_Pe_12 B (pS_p H) rfl d_Pe_obey_188 ?_
  refine j_aload_n B d_Pe_obey_191 rfl 0 rfl ?_
  refine gf_Pe_18 B (pS_p H) rfl d_Pe_obey_192 ?_
  refine j_aload_n B d_Pe_obey_195 rfl 0 rfl ?_
  refine gf_Pe_22 B (pS_p H) rfl d_Pe_obey_196 ?_
  refine j_iconst (v := 0) B d_Pe_obey_199 (by decide) ?_
  refine k_callV (as := [.int c, .int r, .int 0]) (rest := []) (st1 := []) B (c_G_put (pS_g H) (pS_h H) (pS_t H) (pS_w H) H.2.2.2.2.1 H.2.2.2.2.2.1 H.2.2.2.2.2.2 H.2.2.2.1.1 H.2.2.2.1.2.1 H.2.2.2.1.2.2 c r 0) yf_G_put w_640 w_230 w_231 rfl (pS_g H) rfl (by decide) (by decide) rfl rfl (Nat.le_of_ble_eq_true rfl) d_Pe_obey_200 ?_
  refine jW.heap (σ2 := pS b ta σ p g h t w c r d u o (pB F0 c r 0 1) (pB F1 c r 0 2) (pB F2 c r 0 3)) (pS_wf H) ?_
  refine j_iconst (v := 1) B d_Pe_obey_203 (by decide) ?_
  exact j_zret B K (by decide) rfl rfl d_Pe_obey_204
set_option maxRecDepth 100000 in
set_option maxHeartbeats 4000000 in
theorem c_Pe_obey_S_t {l : Launch} {b : Nat} {D : va_G} {ta : Nat → ClassId} {σ : List va_E} {p g h t w : Nat} (H : pW b σ p g h t w) {c r : Int32} {d : Nat} {u : Bool} {o : Nat} {F0 F1 F2 : Nat → Int32} (hd : d < 4) (h1 : inF (cA c d 4 0) (rA r d 4 0) = true) (h2 : inF (cA c d 2 (-1)) (rA r d 2 (-1)) = true) (h3 : inF (cA c d 2 1) (rA r d 2 1) = true) : jC l b D ta False y_Pe_obey b_Pe_obey 2 (some .boolean) (rL 5) [.ref (b + p), .int 60] (pS b ta σ p g h t w c r d u o F0 F1 F2) (some (.int 1)) (pS b ta σ p g h t w (cA c d 4 0) (rA r d 4 0) d u o (mkB u (mkB u (mkB u (mkB u (mkB u (mkB u (mkB u F0 (cA c d 1 0) (rA r d 1 0) 1) (cA c d 2 (-1)) (rA r d 2 (-1)) 1) (cA c d 2 1) (rA r d 2 1) 1) (cA c d 3 (-1)) (rA r d 3 (-1)) 1) (cA c d 3 0) (rA r d 3 0) 1) (cA c d 3 1) (rA r d 3 1) 1) (cA c d 4 0) (rA r d 4 0) 1) (mkB u (mkB u (mkB u (mkB u (mkB u (mkB u (mkB u F1 (cA c d 1 0) (rA r d 1 0) 2) (cA c d 2 (-1)) (rA r d 2 (-1)) 2) (cA c d 2 1) (rA r d 2 1) 2) (cA c d 3 (-1)) (rA r d 3 (-1)) 2) (cA c d 3 0) (rA r d 3 0) 2) (cA c d 3 1) (rA r d 3 1) 2) (cA c d 4 0) (rA r d 4 0) 2) (mkB u (mkB u (mkB u (mkB u (mkB u (mkB u (mkB u F2 (cA c d 1 0) (rA r d 1 0) 3) (cA c d 2 (-1)) (rA r d 2 (-1)) 3) (cA c d 2 1) (rA r d 2 1) 3) (cA c d 3 (-1)) (rA r d 3 (-1)) 3) (cA c d 3 0) (rA r d 3 0) 3) (cA c d 3 1) (rA r d 3 1) 3) (cA c d 4 0) (rA r d 4 0) 3)) := by
  refine jC_of (own := "WireField$Pen") (by decide +kernel) (Nat.le_of_ble_eq_true rfl) rfl (fun Γ B K => ?_)
  change jW l b D Γ False 0 0 2 (pS b ta σ p g h t w c r d u o F0 F1 F2) [(0, .ref (b + p)), (1, .int 60)] 0 []
  refine j_iload_n B d_Pe_obey_0 rfl 1 rfl ?_
  refine j_tableIn B d_Pe_obey_1 (by decide) (by decide) rfl rfl ?_
  refine j_aload_n B d_Pe_obey_205 rfl 0 rfl ?_
  refine k_callV (as := []) (rest := []) (st1 := [.int 1]) B (c_Pe_drawDiode_t H hd h1 h2 h3) yf_Pe_drawDiode w_646 w_648 w_s21 rfl (pS_p H) rfl (by decide) (by decide) rfl rfl (Nat.le_of_ble_eq_true rfl) d_Pe_obey_206 ?_
  exact j_zret B K (by decide) rfl rfl d_Pe_obey_209
set_option maxRecDepth 100000 in
set_option maxHeartbeats 4000000 in
theorem c_Pe_obey_S_f {l : Launch} {b : Nat} {D : va_G} {ta : Nat → ClassId} {σ : List va_E} {p g h t w : Nat} (H : pW b σ p g h t w) {c r : Int32} {d : Nat} {u : Bool} {o : Nat} {F0 F1 F2 : Nat → Int32} (hd : d < 4) (hq : (inF (cA c d 4 0) (rA r d 4 0) && (inF (cA c d 2 (-1)) (rA r d 2 (-1)) && inF (cA c d 2 1) (rA r d 2 1))) = false) : jC l b D ta False y_Pe_obey b_Pe_obey 2 (some .boolean) (rL 5) [.ref (b + p), .int 60] (pS b ta σ p g h t w c r d u o F0 F1 F2) (some (.int 0)) (pS b ta σ p g h t w c r d u o F0 F1 F2) := by
  refine jC_of (own := "WireField$Pen") (by decide +kernel) (Nat.le_of_ble_eq_true rfl) rfl (fun Γ B K => ?_)
  change jW l b D Γ False 0 0 2 (pS b ta σ p g h t w c r d u o F0 F1 F2) [(0, .ref (b + p)), (1, .int 60)] 0 []
  refine j_iload_n B d_Pe_obey_0 rfl 1 rfl ?_
  refine j_tableIn B d_Pe_obey_1 (by decide) (by decide) rfl rfl ?_
  refine j_aload_n B d_Pe_obey_205 rfl 0 rfl ?_
  refine k_callV (as := []) (rest := []) (st1 := [.int 0]) B (c_Pe_drawDiode_f H hd hq) yf_Pe_drawDiode w_646 w_648 w_s21 rfl (pS_p H) rfl (by decide) (by decide) rfl rfl (Nat.le_of_ble_eq_true rfl) d_Pe_obey_206 ?_
  exact j_zret B K (by decide) rfl rfl d_Pe_obey_209
set_option maxRecDepth 100000 in
set_option maxHeartbeats 4000000 in
theorem c_So_actOn {l : Launch} {b : Nat} {D : va_G} {ta : Nat → ClassId} {σ : List va_E} {p g h t w : Nat} (H : pW b σ p g h t w) {F0 F1 F2 : Nat → Int32} {c r : Int32} {pat : Int64} {n P : Nat} (hP : P < 2 ^ 30) (hn : n < 2 ^ 31) : jC l b D ta False y_So_actOn b_So_actOn 2 none (rL 2) [.ref (b + p), .ref (b + g)] (gS ta σ p h t w (sO c r pat n P) F0 F1 F2) none (gS ta σ p h t w (sO c r pat n (sNx n P)) (sB pat P F0 F1 F2 F0 c r 1) (sB pat P F0 F1 F2 F1 c r 2) (sB pat P F0 F1 F2 F2 c r 3)) := by
  refine jC_of (own := "WireField$Source") (by decide +kernel) (Nat.le_of_ble_eq_true rfl) rfl (fun Γ B K => ?_)
  change jW l b D Γ False 0 0 2 (gS ta σ p h t w (sO c r pat n P) F0 F1 F2) [(0, .ref (b + p)), (1, .ref (b + g))] 0 []
  refine j_aload_n B d_So_actOn_0 rfl 0 rfl ?_
  refine gf_So_18 B (gS_p H) rfl d_So_actOn_1 ?_
  refine j_aload_n B d_So_actOn_4 rfl 0 rfl ?_
  refine gf_So_25 B (gS_p H) rfl d_So_actOn_5 ?_
  refine j_lushr B d_So_actOn_8 rfl ?_
  refine j_lconst (v := 1) B d_So_actOn_9 (by decide) ?_
  refine j_land B d_So_actOn_10 ?_
  refine j_lconst (v := 1) B d_So_actOn_11 (by decide) ?_
  refine j_lcmp B d_So_actOn_12 ?_
  refine j_if_ne B d_So_actOn_13 rfl (fun h13 => ?_) (fun h13 => ?_)
  · -- 13 jump
    have hAct : sAct pat P = false := decide_eq_false (fun q => h13 (lgc.mpr q))
    refine j_aload_n B d_So_actOn_45 rfl 0 rfl ?_
    refine j_aload_n B d_So_actOn_46 rfl 0 rfl ?_
    refine gf_So_25 B (gS_p H) rfl d_So_actOn_47 ?_
    refine j_iconst (v := 1) B d_So_actOn_50 (by decide) ?_
    refine j_iaddE (v := nI (P + 1)) B (nI_add P 1) d_So_actOn_51 ?_
    refine j_aload_n B d_So_actOn_52 rfl 0 rfl ?_
    refine gf_So_22 B (gS_p H) rfl d_So_actOn_53 ?_
    refine j_icmp_ge B d_So_actOn_56 rfl (fun h56 => ?_) (fun h56 => ?_)
    · -- 56 jump
      have hNx : ¬ P + 1 < n := fun q => absurd h56 (nI_ge q hn)
      refine j_iconst (v := 0) B d_So_actOn_68 (by decide) ?_
      refine pf_So_25 B not_false (gS_p H) rfl rfl (Nat.le_of_ble_eq_true rfl) d_So_actOn_69 ?_
      refine jW.heap (σ2 := gS ta σ p h t w (sO c r pat n 0) F0 F1 F2) (gS_wp H) ?_
      exact j_vret B K (by simp only [sB, hAct, sNx, hNx, if_true, if_false, Bool.false_eq_true, false_and]) d_So_actOn_72
    · -- 56 on
      have hNx : P + 1 < n := (Nat.lt_or_ge (P + 1) n).elim id (fun q => absurd (nI_le q (by omega)) h56)
      refine j_aload_n B d_So_actOn_59 rfl 0 rfl ?_
      refine gf_So_25 B (gS_p H) rfl d_So_actOn_60 ?_
      refine j_iconst (v := 1) B d_So_actOn_63 (by decide) ?_
      refine j_iaddE (v := nI (P + 1)) B (nI_add P 1) d_So_actOn_64 ?_
      refine j_goto B d_So_actOn_65 rfl ?_
      refine pf_So_25 B not_false (gS_p H) rfl rfl (Nat.le_of_ble_eq_true rfl) d_So_actOn_69 ?_
      refine jW.heap (σ2 := gS ta σ p h t w (sO c r pat n (P + 1)) F0 F1 F2) (gS_wp H) ?_
      exact j_vret B K (by simp only [sB, hAct, sNx, hNx, if_true, if_false, Bool.false_eq_true, false_and]) d_So_actOn_72
  · -- 13 on
    have hAct : sAct pat P = true := decide_eq_true (lgc.mp h13)
    refine j_aload_n B d_So_actOn_16 rfl 1 rfl ?_
    refine j_aload_n B d_So_actOn_17 rfl 0 rfl ?_
    refine gf_So_9 B (gS_p H) rfl d_So_actOn_18 ?_
    refine j_aload_n B d_So_actOn_21 rfl 0 rfl ?_
    refine gf_So_15 B (gS_p H) rfl d_So_actOn_22 ?_
    refine k_callV (as := [.int c, .int r]) (rest := []) (st1 := [.int (fVal F0 F1 F2 c r)]) B (c_G_valueAt (gS_g H) (gS_h H) (gS_t H) (gS_w H) c r) yf_G_valueAt w_312 w_243 w_244 rfl (gS_g H) rfl (by decide) (by decide) rfl rfl (Nat.le_of_ble_eq_true rfl) d_So_actOn_25 ?_
    refine j_iconst (v := 3) B d_So_actOn_28 (by decide) ?_
    refine j_icmp_ne B d_So_actOn_29 rfl (fun h29 => ?_) (fun h29 => ?_)
    · -- 29 jump
      refine j_aload_n B d_So_actOn_45 rfl 0 rfl ?_
      refine j_aload_n B d_So_actOn_46 rfl 0 rfl ?_
      refine gf_So_25 B (gS_p H) rfl d_So_actOn_47 ?_
      refine j_iconst (v := 1) B d_So_actOn_50 (by decide) ?_
      refine j_iaddE (v := nI (P + 1)) B (nI_add P 1) d_So_actOn_51 ?_
      refine j_aload_n B d_So_actOn_52 rfl 0 rfl ?_
      refine gf_So_22 B (gS_p H) rfl d_So_actOn_53 ?_
      refine j_icmp_ge B d_So_actOn_56 rfl (fun h56 => ?_) (fun h56 => ?_)
      · -- 56 jump
        have hNx : ¬ P + 1 < n := fun q => absurd h56 (nI_ge q hn)
        refine j_iconst (v := 0) B d_So_actOn_68 (by decide) ?_
        refine pf_So_25 B not_false (gS_p H) rfl rfl (Nat.le_of_ble_eq_true rfl) d_So_actOn_69 ?_
        refine jW.heap (σ2 := gS ta σ p h t w (sO c r pat n 0) F0 F1 F2) (gS_wp H) ?_
        exact j_vret B K (by simp only [sB, hAct, sNx, hNx, if_true, if_false, Bool.false_eq_true, false_and, true_and, and_false, h29]) d_So_actOn_72
      · -- 56 on
        have hNx : P + 1 < n := (Nat.lt_or_ge (P + 1) n).elim id (fun q => absurd (nI_le q (by omega)) h56)
        refine j_aload_n B d_So_actOn_59 rfl 0 rfl ?_
        refine gf_So_25 B (gS_p H) rfl d_So_actOn_60 ?_
        refine j_iconst (v := 1) B d_So_actOn_63 (by decide) ?_
        refine j_iaddE (v := nI (P + 1)) B (nI_add P 1) d_So_actOn_64 ?_
        refine j_goto B d_So_actOn_65 rfl ?_
        refine pf_So_25 B not_false (gS_p H) rfl rfl (Nat.le_of_ble_eq_true rfl) d_So_actOn_69 ?_
        refine jW.heap (σ2 := gS ta σ p h t w (sO c r pat n (P + 1)) F0 F1 F2) (gS_wp H) ?_
        exact j_vret B K (by simp only [sB, hAct, sNx, hNx, if_true, if_false, Bool.false_eq_true, false_and, true_and, and_false, h29]) d_So_actOn_72
    · -- 29 on
      refine j_aload_n B d_So_actOn_32 rfl 1 rfl ?_
      refine j_aload_n B d_So_actOn_33 rfl 0 rfl ?_
      refine gf_So_9 B (gS_p H) rfl d_So_actOn_34 ?_
      refine j_aload_n B d_So_actOn_37 rfl 0 rfl ?_
      refine gf_So_15 B (gS_p H) rfl d_So_actOn_38 ?_
      refine j_iconst (v := 1) B d_So_actOn_41 (by decide) ?_
      refine k_callV (as := [.int c, .int r, .int 1]) (rest := []) (st1 := []) B (c_G_put (gS_g H) (gS_h H) (gS_t H) (gS_w H) H.2.2.2.2.1 H.2.2.2.2.2.1 H.2.2.2.2.2.2 H.2.2.2.1.1 H.2.2.2.1.2.1 H.2.2.2.1.2.2 c r 1) yf_G_put w_313 w_230 w_231 rfl (gS_g H) rfl (by decide) (by decide) rfl rfl (Nat.le_of_ble_eq_true rfl) d_So_actOn_42 ?_
      refine jW.heap (σ2 := gS ta σ p h t w (sO c r pat n P) (pB F0 c r 1 1) (pB F1 c r 1 2) (pB F2 c r 1 3)) (gS_wf H) ?_
      refine j_aload_n B d_So_actOn_45 rfl 0 rfl ?_
      refine j_aload_n B d_So_actOn_46 rfl 0 rfl ?_
      refine gf_So_25 B (gS_p H) rfl d_So_actOn_47 ?_
      refine j_iconst (v := 1) B d_So_actOn_50 (by decide) ?_
      refine j_iaddE (v := nI (P + 1)) B (nI_add P 1) d_So_actOn_51 ?_
      refine j_aload_n B d_So_actOn_52 rfl 0 rfl ?_
      refine gf_So_22 B (gS_p H) rfl d_So_actOn_53 ?_
      refine j_icmp_ge B d_So_actOn_56 rfl (fun h56 => ?_) (fun h56 => ?_)
      · -- 56 jump
        have hNx : ¬ P + 1 < n := fun q => absurd h56 (nI_ge q hn)
        refine j_iconst (v := 0) B d_So_actOn_68 (by decide) ?_
        refine pf_So_25 B not_false (gS_p H) rfl rfl (Nat.le_of_ble_eq_true rfl) d_So_actOn_69 ?_
        refine jW.heap (σ2 := gS ta σ p h t w (sO c r pat n 0) (pB F0 c r 1 1) (pB F1 c r 1 2) (pB F2 c r 1 3)) (gS_wp H) ?_
        exact j_vret B K (by simp only [sB, hAct, sNx, hNx, if_true, if_false, Bool.false_eq_true, false_and, true_and, and_false, h29]) d_So_actOn_72
      · -- 56 on
        have hNx : P + 1 < n := (Nat.lt_or_ge (P + 1) n).elim id (fun q => absurd (nI_le q (by omega)) h56)
        refine j_aload_n B d_So_actOn_59 rfl 0 rfl ?_
        refine gf_So_25 B (gS_p H) rfl d_So_actOn_60 ?_
        refine j_iconst (v := 1) B d_So_actOn_63 (by decide) ?_
        refine j_iaddE (v := nI (P + 1)) B (nI_add P 1) d_So_actOn_64 ?_
        refine j_goto B d_So_actOn_65 rfl ?_
        refine pf_So_25 B not_false (gS_p H) rfl rfl (Nat.le_of_ble_eq_true rfl) d_So_actOn_69 ?_
        refine jW.heap (σ2 := gS ta σ p h t w (sO c r pat n (P + 1)) (pB F0 c r 1 1) (pB F1 c r 1 2) (pB F2 c r 1 3)) (gS_wp H) ?_
        exact j_vret B K (by simp only [sB, hAct, sNx, hNx, if_true, if_false, Bool.false_eq_true, false_and, true_and, and_false, h29]) d_So_actOn_72
set_option maxRecDepth 100000 in
set_option maxHeartbeats 4000000 in
theorem c_So_begin {l : Launch} {b : Nat} {D : va_G} {ta : Nat → ClassId} {σ : List va_E} {p : Nat} {c r : Int32} {pat : Int64} {n P : Nat} (hp : σ[p]? = some (.inr (4, [.int c, .int r, .long pat, .int (nI n), .int (nI P)]))) (c2 r2 : Int32) (pat2 : Int64) (n2 : Nat) : jC l b D ta False y_So_begin b_So_begin 6 none (rL 0) [.ref (b + p), .int c2, .int r2, .long pat2, .int (nI n2)] (σ) none (σ.set p (sO c2 r2 pat2 n2 0)) := by
  refine jC_of (own := "WireField$Source") (by decide +kernel) (Nat.le_of_ble_eq_true rfl) rfl (fun Γ B K => ?_)
  change jW l b D Γ False 0 0 6 (σ) [(0, .ref (b + p)), (1, .int c2), (2, .int r2), (3, .long pat2), (5, .int (nI n2))] 0 []
  refine j_aload_n B d_So_begin_0 rfl 0 rfl ?_
  refine j_iload_n B d_So_begin_1 rfl 1 rfl ?_
  refine pf_So_9 B not_false hp rfl rfl (Nat.le_of_ble_eq_true rfl) d_So_begin_2 ?_
  refine j_aload_n B d_So_begin_5 rfl 0 rfl ?_
  refine j_iload_n B d_So_begin_6 rfl 2 rfl ?_
  refine pf_So_15 B not_false (js hp) rfl rfl (Nat.le_of_ble_eq_true rfl) d_So_begin_7 ?_
  refine j_aload_n B d_So_begin_10 rfl 0 rfl ?_
  refine j_lload_n B d_So_begin_11 rfl 3 rfl ?_
  refine pf_So_18 B not_false (js (js hp)) rfl rfl (Nat.le_of_ble_eq_true rfl) d_So_begin_12 ?_
  refine j_aload_n B d_So_begin_15 rfl 0 rfl ?_
  refine j_iload B d_So_begin_16 4 rfl ?_
  refine pf_So_22 B not_false (js (js (js hp))) rfl rfl (Nat.le_of_ble_eq_true rfl) d_So_begin_18 ?_
  refine j_aload_n B d_So_begin_21 rfl 0 rfl ?_
  refine j_iconst (v := 0) B d_So_begin_22 (by decide) ?_
  refine pf_So_25 B not_false (js (js (js (js hp)))) rfl rfl (Nat.le_of_ble_eq_true rfl) d_So_begin_23 ?_
  exact j_vret B K (by simp only [List.set_set]; rfl) d_So_begin_26
set_option maxRecDepth 100000 in
set_option maxHeartbeats 4000000 in
theorem c_Pr_begin {l : Launch} {b : Nat} {D : va_G} {ta : Nat → ClassId} {σ : List va_E} {p : Nat} {c r hc lt : Int32} {hb : Int64} (hp : σ[p]? = some (.inr (3, [.int c, .int r, .int hc, .int lt, .long hb]))) (c2 r2 : Int32) : jC l b D ta False y_Pr_begin b_Pr_begin 3 none (rL 0) [.ref (b + p), .int c2, .int r2] (σ) none (σ.set p (rO c2 r2 hc lt hb)) := by
  refine jC_of (own := "WireField$Probe") (by decide +kernel) (Nat.le_of_ble_eq_true rfl) rfl (fun Γ B K => ?_)
  change jW l b D Γ False 0 0 3 (σ) [(0, .ref (b + p)), (1, .int c2), (2, .int r2)] 0 []
  refine j_aload_n B d_Pr_begin_0 rfl 0 rfl ?_
  refine j_iload_n B d_Pr_begin_1 rfl 1 rfl ?_
  refine pf_Pr_9 B not_false hp rfl rfl (Nat.le_of_ble_eq_true rfl) d_Pr_begin_2 ?_
  refine j_aload_n B d_Pr_begin_5 rfl 0 rfl ?_
  refine j_iload_n B d_Pr_begin_6 rfl 2 rfl ?_
  refine pf_Pr_15 B not_false (js hp) rfl rfl (Nat.le_of_ble_eq_true rfl) d_Pr_begin_7 ?_
  exact j_vret B K (by simp only [List.set_set]; rfl) d_Pr_begin_10
set_option maxRecDepth 100000 in
set_option maxHeartbeats 4000000 in
theorem c_Pr_lookAt_t {l : Launch} {b : Nat} {D : va_G} {ta : Nat → ClassId} {σ : List va_E} {p g h t w : Nat} {F0 F1 F2 : Nat → Int32} {c r hc lt : Int32} {hb : Int64} (hp : σ[p]? = some (.inr (3, [.int c, .int r, .int hc, .int lt, .long hb]))) (hg : σ[g]? = some (.inr (0, [.ref (b + h), .ref (b + t), .ref (b + w)]))) (hh : σ[h]? = some (.inl (ta 0, 24, .inl F0))) (ht : σ[t]? = some (.inl (ta 0, 24, .inl F1))) (hw : σ[w]? = some (.inl (ta 0, 24, .inl F2))) (ng : p ≠ g) (nh : p ≠ h) (nt : p ≠ t) (nw : p ≠ w) (tm : Int32) (hv : fVal F0 F1 F2 c r = 1) : jC l b D ta False y_Pr_lookAt b_Pr_lookAt 4 none (rL 2) [.ref (b + p), .ref (b + g), .int tm] (σ) none (σ.set p (rO c r (hc + 1) tm (hb * 2 + (1 : Int32).toInt64))) := by
  refine jC_of (own := "WireField$Probe") (by decide +kernel) (Nat.le_of_ble_eq_true rfl) rfl (fun Γ B K => ?_)
  change jW l b D Γ False 0 0 4 (σ) [(0, .ref (b + p)), (1, .ref (b + g)), (2, .int tm)] 0 []
  refine j_aload_n B d_Pr_lookAt_0 rfl 1 rfl ?_
  refine j_aload_n B d_Pr_lookAt_1 rfl 0 rfl ?_
  refine gf_Pr_9 B hp rfl d_Pr_lookAt_2 ?_
  refine j_aload_n B d_Pr_lookAt_5 rfl 0 rfl ?_
  refine gf_Pr_15 B hp rfl d_Pr_lookAt_6 ?_
  refine k_callV (as := [.int c, .int r]) (rest := []) (st1 := [.int (fVal F0 F1 F2 c r)]) B (c_G_valueAt hg hh ht hw c r) yf_G_valueAt w_329 w_243 w_244 rfl hg rfl (by decide) (by decide) rfl rfl (Nat.le_of_ble_eq_true rfl) d_Pr_lookAt_9 ?_
  refine j_iconst (v := 1) B d_Pr_lookAt_12 (by decide) ?_
  refine j_icmp_ne B d_Pr_lookAt_13 rfl (fun h13 => absurd hv h13) (fun h13 => ?_)
  refine j_iconst (v := 1) B d_Pr_lookAt_16 (by decide) ?_
  refine j_goto B d_Pr_lookAt_17 rfl ?_
  refine j_istore_n (L' := [(0, .ref (b + p)), (1, .ref (b + g)), (2, .int tm), (3, .int 1)]) B d_Pr_lookAt_21 rfl (by decide) [1, 2, 3, 0] rfl ?_
  refine j_aload_n B d_Pr_lookAt_22 rfl 0 rfl ?_
  refine j_aload_n B d_Pr_lookAt_23 rfl 0 rfl ?_
  refine gf_Pr_24 B hp rfl d_Pr_lookAt_24 ?_
  refine j_ldc2 B w_330 d_Pr_lookAt_27 ?_
  refine j_lmul B d_Pr_lookAt_30 ?_
  refine j_iload_n B d_Pr_lookAt_31 rfl 3 rfl ?_
  refine j_if_eq B d_Pr_lookAt_32 rfl (fun h32 => absurd h32 (by decide)) (fun h32 => ?_)
  refine j_iconst (v := 1) B d_Pr_lookAt_35 (by decide) ?_
  refine j_goto B d_Pr_lookAt_36 rfl ?_
  refine j_i2l B d_Pr_lookAt_40 rfl ?_
  refine j_ladd B d_Pr_lookAt_41 ?_
  refine pf_Pr_24 B not_false hp rfl rfl (Nat.le_of_ble_eq_true rfl) d_Pr_lookAt_42 ?_
  refine j_iload_n B d_Pr_lookAt_45 rfl 3 rfl ?_
  refine j_if_eq B d_Pr_lookAt_46 rfl (fun h46 => absurd h46 (by decide)) (fun h46 => ?_)
  refine j_aload_n B d_Pr_lookAt_49 rfl 0 rfl ?_
  refine j_dup B d_Pr_lookAt_50 rfl ?_
  refine gf_Pr_18 B (js hp) rfl d_Pr_lookAt_51 ?_
  refine j_iconst (v := 1) B d_Pr_lookAt_54 (by decide) ?_
  refine j_iadd B d_Pr_lookAt_55 ?_
  refine pf_Pr_18 B not_false (js hp) rfl rfl (Nat.le_of_ble_eq_true rfl) d_Pr_lookAt_56 ?_
  refine j_aload_n B d_Pr_lookAt_59 rfl 0 rfl ?_
  refine j_iload_n B d_Pr_lookAt_60 rfl 2 rfl ?_
  refine pf_Pr_21 B not_false (js (js hp)) rfl rfl (Nat.le_of_ble_eq_true rfl) d_Pr_lookAt_61 ?_
  exact j_vret B K (by simp only [List.set_set]; rfl) d_Pr_lookAt_64
set_option maxRecDepth 100000 in
set_option maxHeartbeats 4000000 in
theorem c_Pr_lookAt_f {l : Launch} {b : Nat} {D : va_G} {ta : Nat → ClassId} {σ : List va_E} {p g h t w : Nat} {F0 F1 F2 : Nat → Int32} {c r hc lt : Int32} {hb : Int64} (hp : σ[p]? = some (.inr (3, [.int c, .int r, .int hc, .int lt, .long hb]))) (hg : σ[g]? = some (.inr (0, [.ref (b + h), .ref (b + t), .ref (b + w)]))) (hh : σ[h]? = some (.inl (ta 0, 24, .inl F0))) (ht : σ[t]? = some (.inl (ta 0, 24, .inl F1))) (hw : σ[w]? = some (.inl (ta 0, 24, .inl F2))) (ng : p ≠ g) (nh : p ≠ h) (nt : p ≠ t) (nw : p ≠ w) (tm : Int32) (hv : ¬ fVal F0 F1 F2 c r = 1) : jC l b D ta False y_Pr_lookAt b_Pr_lookAt 4 none (rL 2) [.ref (b + p), .ref (b + g), .int tm] (σ) none (σ.set p (rO c r hc lt (hb * 2 + (0 : Int32).toInt64))) := by
  refine jC_of (own := "WireField$Probe") (by decide +kernel) (Nat.le_of_ble_eq_true rfl) rfl (fun Γ B K => ?_)
  change jW l b D Γ False 0 0 4 (σ) [(0, .ref (b + p)), (1, .ref (b + g)), (2, .int tm)] 0 []
  refine j_aload_n B d_Pr_lookAt_0 rfl 1 rfl ?_
  refine j_aload_n B d_Pr_lookAt_1 rfl 0 rfl ?_
  refine gf_Pr_9 B hp rfl d_Pr_lookAt_2 ?_
  refine j_aload_n B d_Pr_lookAt_5 rfl 0 rfl ?_
  refine gf_Pr_15 B hp rfl d_Pr_lookAt_6 ?_
  refine k_callV (as := [.int c, .int r]) (rest := []) (st1 := [.int (fVal F0 F1 F2 c r)]) B (c_G_valueAt hg hh ht hw c r) yf_G_valueAt w_329 w_243 w_244 rfl hg rfl (by decide) (by decide) rfl rfl (Nat.le_of_ble_eq_true rfl) d_Pr_lookAt_9 ?_
  refine j_iconst (v := 1) B d_Pr_lookAt_12 (by decide) ?_
  refine j_icmp_ne B d_Pr_lookAt_13 rfl (fun h13 => ?_) (fun h13 => absurd h13 hv)
  refine j_iconst (v := 0) B d_Pr_lookAt_20 (by decide) ?_
  refine j_istore_n (L' := [(0, .ref (b + p)), (1, .ref (b + g)), (2, .int tm), (3, .int 0)]) B d_Pr_lookAt_21 rfl (by decide) [1, 2, 3, 0] rfl ?_
  refine j_aload_n B d_Pr_lookAt_22 rfl 0 rfl ?_
  refine j_aload_n B d_Pr_lookAt_23 rfl 0 rfl ?_
  refine gf_Pr_24 B hp rfl d_Pr_lookAt_24 ?_
  refine j_ldc2 B w_330 d_Pr_lookAt_27 ?_
  refine j_lmul B d_Pr_lookAt_30 ?_
  refine j_iload_n B d_Pr_lookAt_31 rfl 3 rfl ?_
  refine j_if_eq B d_Pr_lookAt_32 rfl (fun h32 => ?_) (fun h32 => absurd rfl h32)
  refine j_iconst (v := 0) B d_Pr_lookAt_39 (by decide) ?_
  refine j_i2l B d_Pr_lookAt_40 rfl ?_
  refine j_ladd B d_Pr_lookAt_41 ?_
  refine pf_Pr_24 B not_false hp rfl rfl (Nat.le_of_ble_eq_true rfl) d_Pr_lookAt_42 ?_
  refine j_iload_n B d_Pr_lookAt_45 rfl 3 rfl ?_
  refine j_if_eq B d_Pr_lookAt_46 rfl (fun h46 => ?_) (fun h46 => absurd rfl h46)
  exact j_vret B K rfl d_Pr_lookAt_64
