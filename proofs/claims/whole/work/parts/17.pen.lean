set_option maxRecDepth 100000 in
set_option maxHeartbeats 4000000 in
theorem c_Pe_columnAt {l : Launch} {b : Nat} {D : va_G} {ta : Nat → ClassId} {σ : List va_E} {p g h t w : Nat} (H : pW b σ p g h t w) {c r : Int32} {d : Nat} {u : Bool} {o : Nat} {F0 F1 F2 : Nat → Int32} (hd : d < 4) (f a : Int32) : jC l b D ta False y_Pe_columnAt b_Pe_columnAt 3 (some .int) (rL 0) [.ref (b + p), .int f, .int a] (pS b ta σ p g h t w c r d u o F0 F1 F2) (some (.int (cA c d f a))) (pS b ta σ p g h t w c r d u o F0 F1 F2) := by
  refine jC_of (own := "WireField$Pen") (by decide +kernel) (Nat.le_of_ble_eq_true rfl) rfl (fun Γ B K => ?_)
  change jW l b D Γ False 0 0 3 (pS b ta σ p g h t w c r d u o F0 F1 F2) [(0, .ref (b + p)), (1, .int f), (2, .int a)] 0 []
  refine j_aload_n B d_Pe_columnAt_0 rfl 0 rfl ?_
  refine gf_Pe_18 B (pS_p H) rfl d_Pe_columnAt_1 ?_
  refine j_iload_n B d_Pe_columnAt_4 rfl 1 rfl ?_
  refine j_colsN B w_627 d_Pe_columnAt_5 (fun t5 ht5 => ?_)
  refine j_aload_n B d_Pe_columnAt_8 rfl 0 rfl ?_
  refine gf_Pe_25 B (pS_p H) rfl d_Pe_columnAt_9 ?_
  refine j_tiN B ht5 (by omega) d_Pe_columnAt_12 ?_
  refine j_imul B d_Pe_columnAt_13 ?_
  refine j_iadd B d_Pe_columnAt_14 ?_
  refine j_iload_n B d_Pe_columnAt_15 rfl 2 rfl ?_
  refine j_colsN B w_627 d_Pe_columnAt_16 (fun t16 ht16 => ?_)
  refine j_aload_n B d_Pe_columnAt_19 rfl 0 rfl ?_
  refine gf_Pe_25 B (pS_p H) rfl d_Pe_columnAt_20 ?_
  refine j_iconst (v := 1) B d_Pe_columnAt_23 (by decide) ?_
  refine j_iaddE (v := nI (d + 1)) B (nI_add d 1) d_Pe_columnAt_24 ?_
  refine j_iconst (v := 4) B d_Pe_columnAt_25 (by decide) ?_
  refine j_iremE (v := nI ((d + 1) % 4)) B (by decide) (pk_rem (a := (d + 1)) (d := 4) (by omega) (by decide) (by decide)) d_Pe_columnAt_26 ?_
  refine j_tiN B ht16 (by omega) d_Pe_columnAt_27 ?_
  refine j_imul B d_Pe_columnAt_28 ?_
  refine j_iadd B d_Pe_columnAt_29 ?_
  exact j_iret B K rfl rfl d_Pe_columnAt_30
set_option maxRecDepth 100000 in
set_option maxHeartbeats 4000000 in
theorem c_Pe_rowAt {l : Launch} {b : Nat} {D : va_G} {ta : Nat → ClassId} {σ : List va_E} {p g h t w : Nat} (H : pW b σ p g h t w) {c r : Int32} {d : Nat} {u : Bool} {o : Nat} {F0 F1 F2 : Nat → Int32} (hd : d < 4) (f a : Int32) : jC l b D ta False y_Pe_rowAt b_Pe_rowAt 3 (some .int) (rL 0) [.ref (b + p), .int f, .int a] (pS b ta σ p g h t w c r d u o F0 F1 F2) (some (.int (rA r d f a))) (pS b ta σ p g h t w c r d u o F0 F1 F2) := by
  refine jC_of (own := "WireField$Pen") (by decide +kernel) (Nat.le_of_ble_eq_true rfl) rfl (fun Γ B K => ?_)
  change jW l b D Γ False 0 0 3 (pS b ta σ p g h t w c r d u o F0 F1 F2) [(0, .ref (b + p)), (1, .int f), (2, .int a)] 0 []
  refine j_aload_n B d_Pe_rowAt_0 rfl 0 rfl ?_
  refine gf_Pe_22 B (pS_p H) rfl d_Pe_rowAt_1 ?_
  refine j_iload_n B d_Pe_rowAt_4 rfl 1 rfl ?_
  refine j_rowsN B w_633 d_Pe_rowAt_5 (fun t5 ht5 => ?_)
  refine j_aload_n B d_Pe_rowAt_8 rfl 0 rfl ?_
  refine gf_Pe_25 B (pS_p H) rfl d_Pe_rowAt_9 ?_
  refine j_tiN B ht5 (by omega) d_Pe_rowAt_12 ?_
  refine j_imul B d_Pe_rowAt_13 ?_
  refine j_iadd B d_Pe_rowAt_14 ?_
  refine j_iload_n B d_Pe_rowAt_15 rfl 2 rfl ?_
  refine j_rowsN B w_633 d_Pe_rowAt_16 (fun t16 ht16 => ?_)
  refine j_aload_n B d_Pe_rowAt_19 rfl 0 rfl ?_
  refine gf_Pe_25 B (pS_p H) rfl d_Pe_rowAt_20 ?_
  refine j_iconst (v := 1) B d_Pe_rowAt_23 (by decide) ?_
  refine j_iaddE (v := nI (d + 1)) B (nI_add d 1) d_Pe_rowAt_24 ?_
  refine j_iconst (v := 4) B d_Pe_rowAt_25 (by decide) ?_
  refine j_iremE (v := nI ((d + 1) % 4)) B (by decide) (pk_rem (a := (d + 1)) (d := 4) (by omega) (by decide) (by decide)) d_Pe_rowAt_26 ?_
  refine j_tiN B ht16 (by omega) d_Pe_rowAt_27 ?_
  refine j_imul B d_Pe_rowAt_28 ?_
  refine j_iadd B d_Pe_rowAt_29 ?_
  exact j_iret B K rfl rfl d_Pe_rowAt_30
set_option maxRecDepth 100000 in
set_option maxHeartbeats 4000000 in
theorem c_Pe_hasCell {l : Launch} {b : Nat} {D : va_G} {ta : Nat → ClassId} {σ : List va_E} {p g h t w : Nat} (H : pW b σ p g h t w) {c r : Int32} {d : Nat} {u : Bool} {o : Nat} {F0 F1 F2 : Nat → Int32} (hd : d < 4) (f a : Int32) : jC l b D ta False y_Pe_hasCell b_Pe_hasCell 3 (some .boolean) (rL 1) [.ref (b + p), .int f, .int a] (pS b ta σ p g h t w c r d u o F0 F1 F2) (some (.int (bI (inF (cA c d f a) (rA r d f a))))) (pS b ta σ p g h t w c r d u o F0 F1 F2) := by
  refine jC_of (own := "WireField$Pen") (by decide +kernel) (Nat.le_of_ble_eq_true rfl) rfl (fun Γ B K => ?_)
  change jW l b D Γ False 0 0 3 (pS b ta σ p g h t w c r d u o F0 F1 F2) [(0, .ref (b + p)), (1, .int f), (2, .int a)] 0 []
  refine j_aload_n B d_Pe_hasCell_0 rfl 0 rfl ?_
  refine j_iload_n B d_Pe_hasCell_1 rfl 1 rfl ?_
  refine j_iload_n B d_Pe_hasCell_2 rfl 2 rfl ?_
  refine k_callV (as := [.int f, .int a]) (rest := []) (st1 := [.int (cA c d f a)]) B (c_Pe_columnAt H hd f a) yf_Pe_columnAt w_623 w_625 w_s17 rfl (pS_p H) rfl (by decide) (by decide) rfl rfl (Nat.le_of_ble_eq_true rfl) d_Pe_hasCell_3 ?_
  refine j_aload_n B d_Pe_hasCell_6 rfl 0 rfl ?_
  refine j_iload_n B d_Pe_hasCell_7 rfl 1 rfl ?_
  refine j_iload_n B d_Pe_hasCell_8 rfl 2 rfl ?_
  refine k_callV (as := [.int f, .int a]) (rest := [.int (cA c d f a)]) (st1 := [.int (rA r d f a), .int (cA c d f a)]) B (c_Pe_rowAt H hd f a) yf_Pe_rowAt w_629 w_631 w_s18 rfl (pS_p H) rfl (by decide) (by decide) rfl rfl (Nat.le_of_ble_eq_true rfl) d_Pe_hasCell_9 ?_
  refine k_callSN (as := [.int (cA c d f a), .int (rA r d f a)]) (rest := []) (st1 := [.int (bI (inF (cA c d f a) (rA r d f a)))]) B (c_WF_isWithin (cA c d f a) (rA r d f a)) yf_WF_isWithin w_635 w_227 rfl (by decide) (by decide) rfl rfl (Nat.le_of_ble_eq_true rfl) d_Pe_hasCell_12 ?_
  exact j_zret B K (bI_nar _) rfl rfl d_Pe_hasCell_15
set_option maxRecDepth 100000 in
set_option maxHeartbeats 4000000 in
theorem c_Pe_mark {l : Launch} {b : Nat} {D : va_G} {ta : Nat → ClassId} {σ : List va_E} {p g h t w : Nat} (H : pW b σ p g h t w) {c r : Int32} {d : Nat} {u : Bool} {o : Nat} {F0 F1 F2 : Nat → Int32} (hd : d < 4) (f a : Int32) : jC l b D ta False y_Pe_mark b_Pe_mark 3 none (rL 2) [.ref (b + p), .int f, .int a] (pS b ta σ p g h t w c r d u o F0 F1 F2) none (pS b ta σ p g h t w c r d u o (mkB u F0 (cA c d f a) (rA r d f a) 1) (mkB u F1 (cA c d f a) (rA r d f a) 2) (mkB u F2 (cA c d f a) (rA r d f a) 3)) := by
  refine jC_of (own := "WireField$Pen") (by decide +kernel) (Nat.le_of_ble_eq_true rfl) rfl (fun Γ B K => ?_)
  change jW l b D Γ False 0 0 3 (pS b ta σ p g h t w c r d u o F0 F1 F2) [(0, .ref (b + p)), (1, .int f), (2, .int a)] 0 []
  refine j_aload_n B d_Pe_mark_0 rfl 0 rfl ?_
  refine gf_Pe_28 B (pS_p H) rfl d_Pe_mark_1 ?_
  refine j_if_eq B d_Pe_mark_4 rfl (fun h4 => ?_) (fun h4 => ?_)
  · -- 4 jump
    replace h4 := bI_f h4
    exact j_vret B K (by simp only [mkB, h4, Bool.false_eq_true, if_true, if_false]) d_Pe_mark_27
  · -- 4 on
    replace h4 := bI_t h4
    refine j_aload_n B d_Pe_mark_7 rfl 0 rfl ?_
    refine gf_Pe_12 B (pS_p H) rfl d_Pe_mark_8 ?_
    refine j_aload_n B d_Pe_mark_11 rfl 0 rfl ?_
    refine j_iload_n B d_Pe_mark_12 rfl 1 rfl ?_
    refine j_iload_n B d_Pe_mark_13 rfl 2 rfl ?_
    refine k_callV (as := [.int f, .int a]) (rest := [.ref (b + g)]) (st1 := [.int (cA c d f a), .ref (b + g)]) B (c_Pe_columnAt H hd f a) yf_Pe_columnAt w_623 w_625 w_s17 rfl (pS_p H) rfl (by decide) (by decide) rfl rfl (Nat.le_of_ble_eq_true rfl) d_Pe_mark_14 ?_
    refine j_aload_n B d_Pe_mark_17 rfl 0 rfl ?_
    refine j_iload_n B d_Pe_mark_18 rfl 1 rfl ?_
    refine j_iload_n B d_Pe_mark_19 rfl 2 rfl ?_
    refine k_callV (as := [.int f, .int a]) (rest := [.int (cA c d f a), .ref (b + g)]) (st1 := [.int (rA r d f a), .int (cA c d f a), .ref (b + g)]) B (c_Pe_rowAt H hd f a) yf_Pe_rowAt w_629 w_631 w_s18 rfl (pS_p H) rfl (by decide) (by decide) rfl rfl (Nat.le_of_ble_eq_true rfl) d_Pe_mark_20 ?_
    refine j_iconst (v := 3) B d_Pe_mark_23 (by decide) ?_
    refine k_callV (as := [.int (cA c d f a), .int (rA r d f a), .int 3]) (rest := []) (st1 := []) B (c_G_put (pS_g H) (pS_h H) (pS_t H) (pS_w H) H.2.2.2.2.1 H.2.2.2.2.2.1 H.2.2.2.2.2.2 H.2.2.2.1.1 H.2.2.2.1.2.1 H.2.2.2.1.2.2 (cA c d f a) (rA r d f a) 3) yf_G_put w_640 w_230 w_231 rfl (pS_g H) rfl (by decide) (by decide) rfl rfl (Nat.le_of_ble_eq_true rfl) d_Pe_mark_24 ?_
    refine jW.heap (σ2 := pS b ta σ p g h t w c r d u o (pB F0 (cA c d f a) (rA r d f a) 3 1) (pB F1 (cA c d f a) (rA r d f a) 3 2) (pB F2 (cA c d f a) (rA r d f a) 3 3)) (pS_wf H) ?_
    exact j_vret B K (by simp only [mkB, h4, Bool.false_eq_true, if_true, if_false]) d_Pe_mark_27
set_option maxRecDepth 100000 in
set_option maxHeartbeats 4000000 in
theorem c_Pe_move_t {l : Launch} {b : Nat} {D : va_G} {ta : Nat → ClassId} {σ : List va_E} {p g h t w : Nat} (H : pW b σ p g h t w) {c r : Int32} {d : Nat} {u : Bool} {o : Nat} {F0 F1 F2 : Nat → Int32} (hd : d < 4) (f : Int32) (hin : inF (cA c d f 0) (rA r d f 0) = true) : jC l b D ta False y_Pe_move b_Pe_move 4 (some .boolean) (rL 1) [.ref (b + p), .int f] (pS b ta σ p g h t w c r d u o F0 F1 F2) (some (.int 1)) (pS b ta σ p g h t w (cA c d f 0) (rA r d f 0) d u o F0 F1 F2) := by
  refine jC_of (own := "WireField$Pen") (by decide +kernel) (Nat.le_of_ble_eq_true rfl) rfl (fun Γ B K => ?_)
  change jW l b D Γ False 0 0 4 (pS b ta σ p g h t w c r d u o F0 F1 F2) [(0, .ref (b + p)), (1, .int f)] 0 []
  refine j_aload_n B d_Pe_move_0 rfl 0 rfl ?_
  refine j_iload_n B d_Pe_move_1 rfl 1 rfl ?_
  refine j_iconst (v := 0) B d_Pe_move_2 (by decide) ?_
  refine k_callV (as := [.int f, .int 0]) (rest := []) (st1 := [.int (cA c d f 0)]) B (c_Pe_columnAt H hd f 0) yf_Pe_columnAt w_623 w_625 w_s17 rfl (pS_p H) rfl (by decide) (by decide) rfl rfl (Nat.le_of_ble_eq_true rfl) d_Pe_move_3 ?_
  refine j_istore_n (L' := [(0, .ref (b + p)), (1, .int f), (2, .int (cA c d f 0))]) B d_Pe_move_6 rfl (by decide) [1, 2, 0] rfl ?_
  refine j_aload_n B d_Pe_move_7 rfl 0 rfl ?_
  refine j_iload_n B d_Pe_move_8 rfl 1 rfl ?_
  refine j_iconst (v := 0) B d_Pe_move_9 (by decide) ?_
  refine k_callV (as := [.int f, .int 0]) (rest := []) (st1 := [.int (rA r d f 0)]) B (c_Pe_rowAt H hd f 0) yf_Pe_rowAt w_629 w_631 w_s18 rfl (pS_p H) rfl (by decide) (by decide) rfl rfl (Nat.le_of_ble_eq_true rfl) d_Pe_move_10 ?_
  refine j_istore_n (L' := [(0, .ref (b + p)), (1, .int f), (2, .int (cA c d f 0)), (3, .int (rA r d f 0))]) B d_Pe_move_13 rfl (by decide) [1, 2, 3, 0] rfl ?_
  refine j_iload_n B d_Pe_move_14 rfl 2 rfl ?_
  refine j_iload_n B d_Pe_move_15 rfl 3 rfl ?_
  refine k_callSN (as := [.int (cA c d f 0), .int (rA r d f 0)]) (rest := []) (st1 := [.int (bI (inF (cA c d f 0) (rA r d f 0)))]) B (c_WF_isWithin (cA c d f 0) (rA r d f 0)) yf_WF_isWithin w_635 w_227 rfl (by decide) (by decide) rfl rfl (Nat.le_of_ble_eq_true rfl) d_Pe_move_16 ?_
  refine j_if_ne B d_Pe_move_19 rfl (fun h19 => ?_) (fun h19 => absurd (bI_f h19) (by rw [hin]; decide))
  refine j_aload_n B d_Pe_move_24 rfl 0 rfl ?_
  refine j_iload_n B d_Pe_move_25 rfl 2 rfl ?_
  refine pf_Pe_18 B not_false (pS_p H) rfl rfl (Nat.le_of_ble_eq_true rfl) d_Pe_move_26 ?_
  refine jW.heap (σ2 := pS b ta σ p g h t w (cA c d f 0) r d u o F0 F1 F2) (pS_wp (c' := cA c d f 0) (r' := r) (d' := d) (u' := u) (o' := o) H) ?_
  refine j_aload_n B d_Pe_move_29 rfl 0 rfl ?_
  refine j_iload_n B d_Pe_move_30 rfl 3 rfl ?_
  refine pf_Pe_22 B not_false (pS_p H) rfl rfl (Nat.le_of_ble_eq_true rfl) d_Pe_move_31 ?_
  refine jW.heap (σ2 := pS b ta σ p g h t w (cA c d f 0) (rA r d f 0) d u o F0 F1 F2) (pS_wp (c' := cA c d f 0) (r' := rA r d f 0) (d' := d) (u' := u) (o' := o) H) ?_
  refine j_iconst (v := 1) B d_Pe_move_34 (by decide) ?_
  exact j_zret B K (by decide) rfl rfl d_Pe_move_35
set_option maxRecDepth 100000 in
set_option maxHeartbeats 4000000 in
theorem c_Pe_move_f {l : Launch} {b : Nat} {D : va_G} {ta : Nat → ClassId} {σ : List va_E} {p g h t w : Nat} (H : pW b σ p g h t w) {c r : Int32} {d : Nat} {u : Bool} {o : Nat} {F0 F1 F2 : Nat → Int32} (hd : d < 4) (f : Int32) (hin : inF (cA c d f 0) (rA r d f 0) = false) : jC l b D ta False y_Pe_move b_Pe_move 4 (some .boolean) (rL 1) [.ref (b + p), .int f] (pS b ta σ p g h t w c r d u o F0 F1 F2) (some (.int 0)) (pS b ta σ p g h t w c r d u o F0 F1 F2) := by
  refine jC_of (own := "WireField$Pen") (by decide +kernel) (Nat.le_of_ble_eq_true rfl) rfl (fun Γ B K => ?_)
  change jW l b D Γ False 0 0 4 (pS b ta σ p g h t w c r d u o F0 F1 F2) [(0, .ref (b + p)), (1, .int f)] 0 []
  refine j_aload_n B d_Pe_move_0 rfl 0 rfl ?_
  refine j_iload_n B d_Pe_move_1 rfl 1 rfl ?_
  refine j_iconst (v := 0) B d_Pe_move_2 (by decide) ?_
  refine k_callV (as := [.int f, .int 0]) (rest := []) (st1 := [.int (cA c d f 0)]) B (c_Pe_columnAt H hd f 0) yf_Pe_columnAt w_623 w_625 w_s17 rfl (pS_p H) rfl (by decide) (by decide) rfl rfl (Nat.le_of_ble_eq_true rfl) d_Pe_move_3 ?_
  refine j_istore_n (L' := [(0, .ref (b + p)), (1, .int f), (2, .int (cA c d f 0))]) B d_Pe_move_6 rfl (by decide) [1, 2, 0] rfl ?_
  refine j_aload_n B d_Pe_move_7 rfl 0 rfl ?_
  refine j_iload_n B d_Pe_move_8 rfl 1 rfl ?_
  refine j_iconst (v := 0) B d_Pe_move_9 (by decide) ?_
  refine k_callV (as := [.int f, .int 0]) (rest := []) (st1 := [.int (rA r d f 0)]) B (c_Pe_rowAt H hd f 0) yf_Pe_rowAt w_629 w_631 w_s18 rfl (pS_p H) rfl (by decide) (by decide) rfl rfl (Nat.le_of_ble_eq_true rfl) d_Pe_move_10 ?_
  refine j_istore_n (L' := [(0, .ref (b + p)), (1, .int f), (2, .int (cA c d f 0)), (3, .int (rA r d f 0))]) B d_Pe_move_13 rfl (by decide) [1, 2, 3, 0] rfl ?_
  refine j_iload_n B d_Pe_move_14 rfl 2 rfl ?_
  refine j_iload_n B d_Pe_move_15 rfl 3 rfl ?_
  refine k_callSN (as := [.int (cA c d f 0), .int (rA r d f 0)]) (rest := []) (st1 := [.int (bI (inF (cA c d f 0) (rA r d f 0)))]) B (c_WF_isWithin (cA c d f 0) (rA r d f 0)) yf_WF_isWithin w_635 w_227 rfl (by decide) (by decide) rfl rfl (Nat.le_of_ble_eq_true rfl) d_Pe_move_16 ?_
  refine j_if_ne B d_Pe_move_19 rfl (fun h19 => absurd (bI_t h19) (by rw [hin]; decide)) (fun h19 => ?_)
  refine j_iconst (v := 0) B d_Pe_move_22 (by decide) ?_
  exact j_zret B K (by decide) rfl rfl d_Pe_move_23
set_option maxRecDepth 100000 in
set_option maxHeartbeats 4000000 in
theorem c_Pe_drawForward_t {l : Launch} {b : Nat} {D : va_G} {ta : Nat → ClassId} {σ : List va_E} {p g h t w : Nat} (H : pW b σ p g h t w) {c r : Int32} {d : Nat} {u : Bool} {o : Nat} {F0 F1 F2 : Nat → Int32} (hd : d < 4) (hin : inF (cA c d 1 0) (rA r d 1 0) = true) : jC l b D ta False y_Pe_drawForward b_Pe_drawForward 1 (some .boolean) (rL 3) [.ref (b + p)] (pS b ta σ p g h t w c r d u o F0 F1 F2) (some (.int 1)) (pS b ta σ p g h t w (cA c d 1 0) (rA r d 1 0) d u o (mkB u F0 (cA (cA c d 1 0) d 0 0) (rA (rA r d 1 0) d 0 0) 1) (mkB u F1 (cA (cA c d 1 0) d 0 0) (rA (rA r d 1 0) d 0 0) 2) (mkB u F2 (cA (cA c d 1 0) d 0 0) (rA (rA r d 1 0) d 0 0) 3)) := by
  refine jC_of (own := "WireField$Pen") (by decide +kernel) (Nat.le_of_ble_eq_true rfl) rfl (fun Γ B K => ?_)
  change jW l b D Γ False 0 0 1 (pS b ta σ p g h t w c r d u o F0 F1 F2) [(0, .ref (b + p))] 0 []
  refine j_aload_n B d_Pe_drawForward_0 rfl 0 rfl ?_
  refine j_iconst (v := 1) B d_Pe_drawForward_1 (by decide) ?_
  refine k_callV (as := [.int 1]) (rest := []) (st1 := [.int 1]) B (c_Pe_move_t H hd 1 hin) yf_Pe_move w_619 w_621 w_s16 rfl (pS_p H) rfl (by decide) (by decide) rfl rfl (Nat.le_of_ble_eq_true rfl) d_Pe_drawForward_2 ?_
  refine j_if_ne B d_Pe_drawForward_5 rfl (fun h5 => ?_) (fun h5 => absurd h5 (by decide))
  refine j_aload_n B d_Pe_drawForward_10 rfl 0 rfl ?_
  refine j_iconst (v := 0) B d_Pe_drawForward_11 (by decide) ?_
  refine j_iconst (v := 0) B d_Pe_drawForward_12 (by decide) ?_
  refine k_callV (as := [.int 0, .int 0]) (rest := []) (st1 := []) B (c_Pe_mark H hd 0 0) yf_Pe_mark w_636 w_638 w_s19 rfl (pS_p H) rfl (by decide) (by decide) rfl rfl (Nat.le_of_ble_eq_true rfl) d_Pe_drawForward_13 ?_
  refine j_iconst (v := 1) B d_Pe_drawForward_16 (by decide) ?_
  exact j_zret B K (by decide) rfl rfl d_Pe_drawForward_17
set_option maxRecDepth 100000 in
set_option maxHeartbeats 4000000 in
theorem c_Pe_drawForward_f {l : Launch} {b : Nat} {D : va_G} {ta : Nat → ClassId} {σ : List va_E} {p g h t w : Nat} (H : pW b σ p g h t w) {c r : Int32} {d : Nat} {u : Bool} {o : Nat} {F0 F1 F2 : Nat → Int32} (hd : d < 4) (hin : inF (cA c d 1 0) (rA r d 1 0) = false) : jC l b D ta False y_Pe_drawForward b_Pe_drawForward 1 (some .boolean) (rL 3) [.ref (b + p)] (pS b ta σ p g h t w c r d u o F0 F1 F2) (some (.int 0)) (pS b ta σ p g h t w c r d u o F0 F1 F2) := by
  refine jC_of (own := "WireField$Pen") (by decide +kernel) (Nat.le_of_ble_eq_true rfl) rfl (fun Γ B K => ?_)
  change jW l b D Γ False 0 0 1 (pS b ta σ p g h t w c r d u o F0 F1 F2) [(0, .ref (b + p))] 0 []
  refine j_aload_n B d_Pe_drawForward_0 rfl 0 rfl ?_
  refine j_iconst (v := 1) B d_Pe_drawForward_1 (by decide) ?_
  refine k_callV (as := [.int 1]) (rest := []) (st1 := [.int 0]) B (c_Pe_move_f H hd 1 hin) yf_Pe_move w_619 w_621 w_s16 rfl (pS_p H) rfl (by decide) (by decide) rfl rfl (Nat.le_of_ble_eq_true rfl) d_Pe_drawForward_2 ?_
  refine j_if_ne B d_Pe_drawForward_5 rfl (fun h5 => absurd rfl h5) (fun h5 => ?_)
  refine j_iconst (v := 0) B d_Pe_drawForward_8 (by decide) ?_
  exact j_zret B K (by decide) rfl rfl d_Pe_drawForward_9
set_option maxRecDepth 100000 in
set_option maxHeartbeats 4000000 in
theorem c_Pe_putElectron {l : Launch} {b : Nat} {D : va_G} {ta : Nat → ClassId} {σ : List va_E} {p g h t w : Nat} (H : pW b σ p g h t w) {c r : Int32} {d : Nat} {u : Bool} {o : Nat} {F0 F1 F2 : Nat → Int32} (hd : d < 4) : jC l b D ta False y_Pe_putElectron b_Pe_putElectron 3 none (rL 2) [.ref (b + p)] (pS b ta σ p g h t w c r d u o F0 F1 F2) none (pS b ta σ p g h t w c r d u o (if fVal (pB F0 c r 1 1) (pB F1 c r 1 2) (pB F2 c r 1 3) (cA c d (-1) 0) (rA r d (-1) 0) = 3 then pB (pB F0 c r 1 1) (cA c d (-1) 0) (rA r d (-1) 0) 2 1 else pB F0 c r 1 1) (if fVal (pB F0 c r 1 1) (pB F1 c r 1 2) (pB F2 c r 1 3) (cA c d (-1) 0) (rA r d (-1) 0) = 3 then pB (pB F1 c r 1 2) (cA c d (-1) 0) (rA r d (-1) 0) 2 2 else pB F1 c r 1 2) (if fVal (pB F0 c r 1 1) (pB F1 c r 1 2) (pB F2 c r 1 3) (cA c d (-1) 0) (rA r d (-1) 0) = 3 then pB (pB F2 c r 1 3) (cA c d (-1) 0) (rA r d (-1) 0) 2 3 else pB F2 c r 1 3)) := by
  refine jC_of (own := "WireField$Pen") (by decide +kernel) (Nat.le_of_ble_eq_true rfl) rfl (fun Γ B K => ?_)
  change jW l b D Γ False 0 0 3 (pS b ta σ p g h t w c r d u o F0 F1 F2) [(0, .ref (b + p))] 0 []
  refine j_aload_n B d_Pe_putElectron_0 rfl 0 rfl ?_
  refine gf_Pe_12 B (pS_p H) rfl d_Pe_putElectron_1 ?_
  refine j_aload_n B d_Pe_putElectron_4 rfl 0 rfl ?_
  refine gf_Pe_18 B (pS_p H) rfl d_Pe_putElectron_5 ?_
  refine j_aload_n B d_Pe_putElectron_8 rfl 0 rfl ?_
  refine gf_Pe_22 B (pS_p H) rfl d_Pe_putElectron_9 ?_
  refine j_iconst (v := 1) B d_Pe_putElectron_12 (by decide) ?_
  refine k_callV (as := [.int c, .int r, .int 1]) (rest := []) (st1 := []) B (c_G_put (pS_g H) (pS_h H) (pS_t H) (pS_w H) H.2.2.2.2.1 H.2.2.2.2.2.1 H.2.2.2.2.2.2 H.2.2.2.1.1 H.2.2.2.1.2.1 H.2.2.2.1.2.2 c r 1) yf_G_put w_640 w_230 w_231 rfl (pS_g H) rfl (by decide) (by decide) rfl rfl (Nat.le_of_ble_eq_true rfl) d_Pe_putElectron_13 ?_
  refine jW.heap (σ2 := pS b ta σ p g h t w c r d u o (pB F0 c r 1 1) (pB F1 c r 1 2) (pB F2 c r 1 3)) (pS_wf H) ?_
  refine j_aload_n B d_Pe_putElectron_16 rfl 0 rfl ?_
  refine j_iconst (v := (-1)) B d_Pe_putElectron_17 (by decide) ?_
  refine j_iconst (v := 0) B d_Pe_putElectron_18 (by decide) ?_
  refine k_callV (as := [.int (-1), .int 0]) (rest := []) (st1 := [.int (cA c d (-1) 0)]) B (c_Pe_columnAt H hd (-1) 0) yf_Pe_columnAt w_623 w_625 w_s17 rfl (pS_p H) rfl (by decide) (by decide) rfl rfl (Nat.le_of_ble_eq_true rfl) d_Pe_putElectron_19 ?_
  refine j_istore_n (L' := [(0, .ref (b + p)), (1, .int (cA c d (-1) 0))]) B d_Pe_putElectron_22 rfl (by decide) [1, 0] rfl ?_
  refine j_aload_n B d_Pe_putElectron_23 rfl 0 rfl ?_
  refine j_iconst (v := (-1)) B d_Pe_putElectron_24 (by decide) ?_
  refine j_iconst (v := 0) B d_Pe_putElectron_25 (by decide) ?_
  refine k_callV (as := [.int (-1), .int 0]) (rest := []) (st1 := [.int (rA r d (-1) 0)]) B (c_Pe_rowAt H hd (-1) 0) yf_Pe_rowAt w_629 w_631 w_s18 rfl (pS_p H) rfl (by decide) (by decide) rfl rfl (Nat.le_of_ble_eq_true rfl) d_Pe_putElectron_26 ?_
  refine j_istore_n (L' := [(0, .ref (b + p)), (1, .int (cA c d (-1) 0)), (2, .int (rA r d (-1) 0))]) B d_Pe_putElectron_29 rfl (by decide) [1, 2, 0] rfl ?_
  refine j_aload_n B d_Pe_putElectron_30 rfl 0 rfl ?_
  refine gf_Pe_12 B (pS_p H) rfl d_Pe_putElectron_31 ?_
  refine j_iload_n B d_Pe_putElectron_34 rfl 1 rfl ?_
  refine j_iload_n B d_Pe_putElectron_35 rfl 2 rfl ?_
  refine k_callV (as := [.int (cA c d (-1) 0), .int (rA r d (-1) 0)]) (rest := []) (st1 := [.int (fVal (pB F0 c r 1 1) (pB F1 c r 1 2) (pB F2 c r 1 3) (cA c d (-1) 0) (rA r d (-1) 0))]) B (c_G_valueAt (pS_g H) (pS_h H) (pS_t H) (pS_w H) (cA c d (-1) 0) (rA r d (-1) 0)) yf_G_valueAt w_645 w_243 w_244 rfl (pS_g H) rfl (by decide) (by decide) rfl rfl (Nat.le_of_ble_eq_true rfl) d_Pe_putElectron_36 ?_
  refine j_iconst (v := 3) B d_Pe_putElectron_39 (by decide) ?_
  refine j_icmp_ne B d_Pe_putElectron_40 rfl (fun h40 => ?_) (fun h40 => ?_)
  · -- 40 jump
    exact j_vret B K (by simp only [h40, if_true, if_false]) d_Pe_putElectron_53
  · -- 40 on
    refine j_aload_n B d_Pe_putElectron_43 rfl 0 rfl ?_
    refine gf_Pe_12 B (pS_p H) rfl d_Pe_putElectron_44 ?_
    refine j_iload_n B d_Pe_putElectron_47 rfl 1 rfl ?_
    refine j_iload_n B d_Pe_putElectron_48 rfl 2 rfl ?_
    refine j_iconst (v := 2) B d_Pe_putElectron_49 (by decide) ?_
    refine k_callV (as := [.int (cA c d (-1) 0), .int (rA r d (-1) 0), .int 2]) (rest := []) (st1 := []) B (c_G_put (pS_g H) (pS_h H) (pS_t H) (pS_w H) H.2.2.2.2.1 H.2.2.2.2.2.1 H.2.2.2.2.2.2 H.2.2.2.1.1 H.2.2.2.1.2.1 H.2.2.2.1.2.2 (cA c d (-1) 0) (rA r d (-1) 0) 2) yf_G_put w_640 w_230 w_231 rfl (pS_g H) rfl (by decide) (by decide) rfl rfl (Nat.le_of_ble_eq_true rfl) d_Pe_putElectron_50 ?_
    refine jW.heap (σ2 := pS b ta σ p g h t w c r d u o (pB (pB F0 c r 1 1) (cA c d (-1) 0) (rA r d (-1) 0) 2 1) (pB (pB F1 c r 1 2) (cA c d (-1) 0) (rA r d (-1) 0) 2 2) (pB (pB F2 c r 1 3) (cA c d (-1) 0) (rA r d (-1) 0) 2 3)) (pS_wf H) ?_
    exact j_vret B K (by simp only [h40, if_true, if_false]) d_Pe_putElectron_53
set_option maxRecDepth 100000 in
set_option maxHeartbeats 4000000 in
theorem c_Pe_countOrder_t {l : Launch} {b : Nat} {D : va_G} {ta : Nat → ClassId} {σ : List va_E} {p g h t w : Nat} (H : pW b σ p g h t w) {c r : Int32} {d : Nat} {u : Bool} {o : Nat} {F0 F1 F2 : Nat → Int32} (hd : d < 4) (ho : o < 400) : jC l b D ta False y_Pe_countOrder b_Pe_countOrder 1 (some .boolean) (rL 0) [.ref (b + p)] (pS b ta σ p g h t w c r d u o F0 F1 F2) (some (.int 1)) (pS b ta σ p g h t w c r d u (o + 1) F0 F1 F2) := by
  refine jC_of (own := "WireField$Pen") (by decide +kernel) (Nat.le_of_ble_eq_true rfl) rfl (fun Γ B K => ?_)
  change jW l b D Γ False 0 0 1 (pS b ta σ p g h t w c r d u o F0 F1 F2) [(0, .ref (b + p))] 0 []
  refine j_aload_n B d_Pe_countOrder_0 rfl 0 rfl ?_
  refine gf_Pe_32 B (pS_p H) rfl d_Pe_countOrder_1 ?_
  refine j_sipush (v := 400) B d_Pe_countOrder_4 (by decide) ?_
  refine j_icmp_lt B d_Pe_countOrder_7 rfl (fun h7 => ?_) (fun h7 => absurd (nI_lt (a := o) (b := 400) ho (by decide)) h7)
  refine j_aload_n B d_Pe_countOrder_12 rfl 0 rfl ?_
  refine j_dup B d_Pe_countOrder_13 rfl ?_
  refine gf_Pe_32 B (pS_p H) rfl d_Pe_countOrder_14 ?_
  refine j_iconst (v := 1) B d_Pe_countOrder_17 (by decide) ?_
  refine j_iaddE (v := nI (o + 1)) B (nI_add o 1) d_Pe_countOrder_18 ?_
  refine pf_Pe_32 B not_false (pS_p H) rfl rfl (Nat.le_of_ble_eq_true rfl) d_Pe_countOrder_19 ?_
  refine jW.heap (σ2 := pS b ta σ p g h t w c r d u (o + 1) F0 F1 F2) (pS_wp (c' := c) (r' := r) (d' := d) (u' := u) (o' := (o + 1)) H) ?_
  refine j_iconst (v := 1) B d_Pe_countOrder_22 (by decide) ?_
  exact j_zret B K (by decide) rfl rfl d_Pe_countOrder_23
set_option maxRecDepth 100000 in
set_option maxHeartbeats 4000000 in
theorem c_Pe_countOrder_f {l : Launch} {b : Nat} {D : va_G} {ta : Nat → ClassId} {σ : List va_E} {p g h t w : Nat} (H : pW b σ p g h t w) {c r : Int32} {d : Nat} {u : Bool} {o : Nat} {F0 F1 F2 : Nat → Int32} (hd : d < 4) (ho : ¬ o < 400) (ho2 : o < 2 ^ 31) : jC l b D ta False y_Pe_countOrder b_Pe_countOrder 1 (some .boolean) (rL 0) [.ref (b + p)] (pS b ta σ p g h t w c r d u o F0 F1 F2) (some (.int 0)) (pS b ta σ p g h t w c r d u o F0 F1 F2) := by
  refine jC_of (own := "WireField$Pen") (by decide +kernel) (Nat.le_of_ble_eq_true rfl) rfl (fun Γ B K => ?_)
  change jW l b D Γ False 0 0 1 (pS b ta σ p g h t w c r d u o F0 F1 F2) [(0, .ref (b + p))] 0 []
  refine j_aload_n B d_Pe_countOrder_0 rfl 0 rfl ?_
  refine gf_Pe_32 B (pS_p H) rfl d_Pe_countOrder_1 ?_
  refine j_sipush (v := 400) B d_Pe_countOrder_4 (by decide) ?_
  refine j_icmp_lt B d_Pe_countOrder_7 rfl (fun h7 => absurd h7 (nI_nlt (a := o) (b := 400) (by omega) ho2)) (fun h7 => ?_)
  refine j_iconst (v := 0) B d_Pe_countOrder_10 (by decide) ?_
  exact j_zret B K (by decide) rfl rfl d_Pe_countOrder_11
set_option maxRecDepth 100000 in
set_option maxHeartbeats 4000000 in
theorem c_Pe_drawDiode_t {l : Launch} {b : Nat} {D : va_G} {ta : Nat → ClassId} {σ : List va_E} {p g h t w : Nat} (H : pW b σ p g h t w) {c r : Int32} {d : Nat} {u : Bool} {o : Nat} {F0 F1 F2 : Nat → Int32} (hd : d < 4) (h1 : inF (cA c d 4 0) (rA r d 4 0) = true) (h2 : inF (cA c d 2 (-1)) (rA r d 2 (-1)) = true) (h3 : inF (cA c d 2 1) (rA r d 2 1) = true) : jC l b D ta False y_Pe_drawDiode b_Pe_drawDiode 1 (some .boolean) (rL 4) [.ref (b + p)] (pS b ta σ p g h t w c r d u o F0 F1 F2) (some (.int 1)) (pS b ta σ p g h t w (cA c d 4 0) (rA r d 4 0) d u o (mkB u (mkB u (mkB u (mkB u (mkB u (mkB u (mkB u F0 (cA c d 1 0) (rA r d 1 0) 1) (cA c d 2 (-1)) (rA r d 2 (-1)) 1) (cA c d 2 1) (rA r d 2 1) 1) (cA c d 3 (-1)) (rA r d 3 (-1)) 1) (cA c d 3 0) (rA r d 3 0) 1) (cA c d 3 1) (rA r d 3 1) 1) (cA c d 4 0) (rA r d 4 0) 1) (mkB u (mkB u (mkB u (mkB u (mkB u (mkB u (mkB u F1 (cA c d 1 0) (rA r d 1 0) 2) (cA c d 2 (-1)) (rA r d 2 (-1)) 2) (cA c d 2 1) (rA r d 2 1) 2) (cA c d 3 (-1)) (rA r d 3 (-1)) 2) (cA c d 3 0) (rA r d 3 0) 2) (cA c d 3 1) (rA r d 3 1) 2) (cA c d 4 0) (rA r d 4 0) 2) (mkB u (mkB u (mkB u (mkB u (mkB u (mkB u (mkB u F2 (cA c d 1 0) (rA r d 1 0) 3) (cA c d 2 (-1)) (rA r d 2 (-1)) 3) (cA c d 2 1) (rA r d 2 1) 3) (cA c d 3 (-1)) (rA r d 3 (-1)) 3) (cA c d 3 0) (rA r d 3 0) 3) (cA c d 3 1) (rA r d 3 1) 3) (cA c d 4 0) (rA r d 4 0) 3)) := by
  refine jC_of (own := "WireField$Pen") (by decide +kernel) (Nat.le_of_ble_eq_true rfl) rfl (fun Γ B K => ?_)
  change jW l b D Γ False 0 0 1 (pS b ta σ p g h t w c r d u o F0 F1 F2) [(0, .ref (b + p))] 0 []
  refine j_aload_n B d_Pe_drawDiode_0 rfl 0 rfl ?_
  refine j_iconst (v := 4) B d_Pe_drawDiode_1 (by decide) ?_
  refine j_iconst (v := 0) B d_Pe_drawDiode_2 (by decide) ?_
  refine k_callV (as := [.int 4, .int 0]) (rest := []) (st1 := [.int (bI (inF (cA c d 4 0) (rA r d 4 0)))]) B (c_Pe_hasCell H hd 4 0) yf_Pe_hasCell w_650 w_652 w_s22 rfl (pS_p H) rfl (by decide) (by decide) rfl rfl (Nat.le_of_ble_eq_true rfl) d_Pe_drawDiode_3 ?_
  refine j_if_eq B d_Pe_drawDiode_6 rfl (fun h6 => absurd (bI_f h6) (by rw [h1]; decide)) (fun h6 => ?_)
  refine j_aload_n B d_Pe_drawDiode_9 rfl 0 rfl ?_
  refine j_iconst (v := 2) B d_Pe_drawDiode_10 (by decide) ?_
  refine j_iconst (v := (-1)) B d_Pe_drawDiode_11 (by decide) ?_
  refine k_callV (as := [.int 2, .int (-1)]) (rest := []) (st1 := [.int (bI (inF (cA c d 2 (-1)) (rA r d 2 (-1))))]) B (c_Pe_hasCell H hd 2 (-1)) yf_Pe_hasCell w_650 w_652 w_s22 rfl (pS_p H) rfl (by decide) (by decide) rfl rfl (Nat.le_of_ble_eq_true rfl) d_Pe_drawDiode_12 ?_
  refine j_if_eq B d_Pe_drawDiode_15 rfl (fun h15 => absurd (bI_f h15) (by rw [h2]; decide)) (fun h15 => ?_)
  refine j_aload_n B d_Pe_drawDiode_18 rfl 0 rfl ?_
  refine j_iconst (v := 2) B d_Pe_drawDiode_19 (by decide) ?_
  refine j_iconst (v := 1) B d_Pe_drawDiode_20 (by decide) ?_
  refine k_callV (as := [.int 2, .int 1]) (rest := []) (st1 := [.int (bI (inF (cA c d 2 1) (rA r d 2 1)))]) B (c_Pe_hasCell H hd 2 1) yf_Pe_hasCell w_650 w_652 w_s22 rfl (pS_p H) rfl (by decide) (by decide) rfl rfl (Nat.le_of_ble_eq_true rfl) d_Pe_drawDiode_21 ?_
  refine j_if_ne B d_Pe_drawDiode_24 rfl (fun h24 => ?_) (fun h24 => absurd (bI_f h24) (by rw [h3]; decide))
  refine j_aload_n B d_Pe_drawDiode_29 rfl 0 rfl ?_
  refine j_iconst (v := 1) B d_Pe_drawDiode_30 (by decide) ?_
  refine j_iconst (v := 0) B d_Pe_drawDiode_31 (by decide) ?_
  refine k_callV (as := [.int 1, .int 0]) (rest := []) (st1 := []) B (c_Pe_mark H hd 1 0) yf_Pe_mark w_636 w_638 w_s19 rfl (pS_p H) rfl (by decide) (by decide) rfl rfl (Nat.le_of_ble_eq_true rfl) d_Pe_drawDiode_32 ?_
  refine j_aload_n B d_Pe_drawDiode_35 rfl 0 rfl ?_
  refine j_iconst (v := 2) B d_Pe_drawDiode_36 (by decide) ?_
  refine j_iconst (v := (-1)) B d_Pe_drawDiode_37 (by decide) ?_
  refine k_callV (as := [.int 2, .int (-1)]) (rest := []) (st1 := []) B (c_Pe_mark H hd 2 (-1)) yf_Pe_mark w_636 w_638 w_s19 rfl (pS_p H) rfl (by decide) (by decide) rfl rfl (Nat.le_of_ble_eq_true rfl) d_Pe_drawDiode_38 ?_
  refine j_aload_n B d_Pe_drawDiode_41 rfl 0 rfl ?_
  refine j_iconst (v := 2) B d_Pe_drawDiode_42 (by decide) ?_
  refine j_iconst (v := 1) B d_Pe_drawDiode_43 (by decide) ?_
  refine k_callV (as := [.int 2, .int 1]) (rest := []) (st1 := []) B (c_Pe_mark H hd 2 1) yf_Pe_mark w_636 w_638 w_s19 rfl (pS_p H) rfl (by decide) (by decide) rfl rfl (Nat.le_of_ble_eq_true rfl) d_Pe_drawDiode_44 ?_
  refine j_aload_n B d_Pe_drawDiode_47 rfl 0 rfl ?_
  refine j_iconst (v := 3) B d_Pe_drawDiode_48 (by decide) ?_
  refine j_iconst (v := (-1)) B d_Pe_drawDiode_49 (by decide) ?_
  refine k_callV (as := [.int 3, .int (-1)]) (rest := []) (st1 := []) B (c_Pe_mark H hd 3 (-1)) yf_Pe_mark w_636 w_638 w_s19 rfl (pS_p H) rfl (by decide) (by decide) rfl rfl (Nat.le_of_ble_eq_true rfl) d_Pe_drawDiode_50 ?_
  refine j_aload_n B d_Pe_drawDiode_53 rfl 0 rfl ?_
  refine j_iconst (v := 3) B d_Pe_drawDiode_54 (by decide) ?_
  refine j_iconst (v := 0) B d_Pe_drawDiode_55 (by decide) ?_
  refine k_callV (as := [.int 3, .int 0]) (rest := []) (st1 := []) B (c_Pe_mark H hd 3 0) yf_Pe_mark w_636 w_638 w_s19 rfl (pS_p H) rfl (by decide) (by decide) rfl rfl (Nat.le_of_ble_eq_true rfl) d_Pe_drawDiode_56 ?_
  refine j_aload_n B d_Pe_drawDiode_59 rfl 0 rfl ?_
  refine j_iconst (v := 3) B d_Pe_drawDiode_60 (by decide) ?_
  refine j_iconst (v := 1) B d_Pe_drawDiode_61 (by decide) ?_
  refine k_callV (as := [.int 3, .int 1]) (rest := []) (st1 := []) B (c_Pe_mark H hd 3 1) yf_Pe_mark w_636 w_638 w_s19 rfl (pS_p H) rfl (by decide) (by decide) rfl rfl (Nat.le_of_ble_eq_true rfl) d_Pe_drawDiode_62 ?_
  refine j_aload_n B d_Pe_drawDiode_65 rfl 0 rfl ?_
  refine j_iconst (v := 4) B d_Pe_drawDiode_66 (by decide) ?_
  refine j_iconst (v := 0) B d_Pe_drawDiode_67 (by decide) ?_
  refine k_callV (as := [.int 4, .int 0]) (rest := []) (st1 := []) B (c_Pe_mark H hd 4 0) yf_Pe_mark w_636 w_638 w_s19 rfl (pS_p H) rfl (by decide) (by decide) rfl rfl (Nat.le_of_ble_eq_true rfl) d_Pe_drawDiode_68 ?_
  refine j_aload_n B d_Pe_drawDiode_71 rfl 0 rfl ?_
  refine j_iconst (v := 4) B d_Pe_drawDiode_72 (by decide) ?_
  refine k_callV (as := [.int 4]) (rest := []) (st1 := [.int 1]) B (c_Pe_move_t H hd 4 h1) yf_Pe_move w_619 w_621 w_s16 rfl (pS_p H) rfl (by decide) (by decide) rfl rfl (Nat.le_of_ble_eq_true rfl) d_Pe_drawDiode_73 ?_
  exact j_zret B K (by decide) rfl rfl d_Pe_drawDiode_76
set_option maxRecDepth 100000 in
set_option maxHeartbeats 4000000 in
theorem c_Pe_drawDiode_f {l : Launch} {b : Nat} {D : va_G} {ta : Nat → ClassId} {σ : List va_E} {p g h t w : Nat} (H : pW b σ p g h t w) {c r : Int32} {d : Nat} {u : Bool} {o : Nat} {F0 F1 F2 : Nat → Int32} (hd : d < 4) (hq : (inF (cA c d 4 0) (rA r d 4 0) && (inF (cA c d 2 (-1)) (rA r d 2 (-1)) && inF (cA c d 2 1) (rA r d 2 1))) = false) : jC l b D ta False y_Pe_drawDiode b_Pe_drawDiode 1 (some .boolean) (rL 4) [.ref (b + p)] (pS b ta σ p g h t w c r d u o F0 F1 F2) (some (.int 0)) (pS b ta σ p g h t w c r d u o F0 F1 F2) := by
  refine jC_of (own := "WireField$Pen") (by decide +kernel) (Nat.le_of_ble_eq_true rfl) rfl (fun Γ B K => ?_)
  change jW l b D Γ False 0 0 1 (pS b ta σ p g h t w c r d u o F0 F1 F2) [(0, .ref (b + p))] 0 []
  refine j_aload_n B d_Pe_drawDiode_0 rfl 0 rfl ?_
  refine j_iconst (v := 4) B d_Pe_drawDiode_1 (by decide) ?_
  refine j_iconst (v := 0) B d_Pe_drawDiode_2 (by decide) ?_
  refine k_callV (as := [.int 4, .int 0]) (rest := []) (st1 := [.int (bI (inF (cA c d 4 0) (rA r d 4 0)))]) B (c_Pe_hasCell H hd 4 0) yf_Pe_hasCell w_650 w_652 w_s22 rfl (pS_p H) rfl (by decide) (by decide) rfl rfl (Nat.le_of_ble_eq_true rfl) d_Pe_drawDiode_3 ?_
  refine j_if_eq B d_Pe_drawDiode_6 rfl (fun h6 => ?_) (fun h6 => ?_)
  · -- 6 jump
    replace h6 := bI_f h6
    refine j_iconst (v := 0) B d_Pe_drawDiode_27 (by decide) ?_
    exact j_zret B K (by decide) rfl rfl d_Pe_drawDiode_28
  · -- 6 on
    replace h6 := bI_t h6
    refine j_aload_n B d_Pe_drawDiode_9 rfl 0 rfl ?_
    refine j_iconst (v := 2) B d_Pe_drawDiode_10 (by decide) ?_
    refine j_iconst (v := (-1)) B d_Pe_drawDiode_11 (by decide) ?_
    refine k_callV (as := [.int 2, .int (-1)]) (rest := []) (st1 := [.int (bI (inF (cA c d 2 (-1)) (rA r d 2 (-1))))]) B (c_Pe_hasCell H hd 2 (-1)) yf_Pe_hasCell w_650 w_652 w_s22 rfl (pS_p H) rfl (by decide) (by decide) rfl rfl (Nat.le_of_ble_eq_true rfl) d_Pe_drawDiode_12 ?_
    refine j_if_eq B d_Pe_drawDiode_15 rfl (fun h15 => ?_) (fun h15 => ?_)
    · -- 15 jump
      replace h15 := bI_f h15
      refine j_iconst (v := 0) B d_Pe_drawDiode_27 (by decide) ?_
      exact j_zret B K (by decide) rfl rfl d_Pe_drawDiode_28
    · -- 15 on
      replace h15 := bI_t h15
      refine j_aload_n B d_Pe_drawDiode_18 rfl 0 rfl ?_
      refine j_iconst (v := 2) B d_Pe_drawDiode_19 (by decide) ?_
      refine j_iconst (v := 1) B d_Pe_drawDiode_20 (by decide) ?_
      refine k_callV (as := [.int 2, .int 1]) (rest := []) (st1 := [.int (bI (inF (cA c d 2 1) (rA r d 2 1)))]) B (c_Pe_hasCell H hd 2 1) yf_Pe_hasCell w_650 w_652 w_s22 rfl (pS_p H) rfl (by decide) (by decide) rfl rfl (Nat.le_of_ble_eq_true rfl) d_Pe_drawDiode_21 ?_
      refine j_if_ne B d_Pe_drawDiode_24 rfl (fun h24 => ?_) (fun h24 => ?_)
      · -- 24 jump
        replace h24 := bI_t h24
        exact absurd hq (by rw [h6, h15, h24]; decide)
      · -- 24 on
        replace h24 := bI_f h24
        refine j_iconst (v := 0) B d_Pe_drawDiode_27 (by decide) ?_
        exact j_zret B K (by decide) rfl rfl d_Pe_drawDiode_28
