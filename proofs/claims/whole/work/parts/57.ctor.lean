set_option maxRecDepth 100000 in
set_option maxHeartbeats 400000 in
theorem c_G_init {l : Launch} {b : Nat} {D : va_G} {ta : Nat → ClassId} {σ : List va_E} {q n : Nat} (hn : σ.length = n) (hq : σ[q]? = some (.inr (0, [.null, .null, .null]))) (hq2 : q < n) : jC l b D ta True y_G_init b_G_init 1 none (rK 1 3 72) [.ref (b + q)] σ none (cf σ q (.inr (0, [.ref (b + (n + 0)), .ref (b + (n + 1)), .ref (b + (n + 2))])) [.inl (ta 0, 24, .inl (fun _ => 0)), .inl (ta 0, 24, .inl (fun _ => 0)), .inl (ta 0, 24, .inl (fun _ => 0))]) := by
  refine jC_ofI (own := "WireField$Grid") (by decide +kernel) rfl (Nat.le_of_ble_eq_true rfl) rfl (fun Γ B hme K => ?_)
  refine jW.heap (cf_0 hq) ?_
  change jW l b D Γ True 0 0 1 (cf σ q (.inr (0, [.null, .null, .null])) []) [(0, .ref (b + q))] 0 []
  refine j_aload_n B d_G_init_0 rfl 0 rfl ?_
  refine j_objInit B w_36 w_29 w_30 (by decide) (by decide) d_G_init_1 ?_
  refine j_aload_n B d_G_init_4 rfl 0 rfl ?_
  refine j_bipush (v := 24) B d_G_init_5 (by decide) ?_
  refine j_newa (atype := .int) (t := 0) (N := 24) (a0 := (24, .inl (fun _ => 0))) B trivial w_47 rfl na_int (by decide) (by decide) (by decide) (by decide) (by decide) d_G_init_7 ?_
  rw [cf_len hn, cf_app]
  change jW l b D Γ True 1 24 1 (cf σ q (.inr (0, [.null, .null, .null])) [.inl (ta 0, 24, .inl (fun _ => 0))]) [(0, .ref (b + q))] 9 [.ref (b + (n + 0)), .ref (b + q)]
  refine pc_G_9 B hme (cf_q hn hq2) rfl rfl (Nat.le_of_ble_eq_true rfl) d_G_init_9 ?_
  rw [cf_sq hn hq2]
  change jW l b D Γ True 1 24 1 (cf σ q (.inr (0, [.ref (b + (n + 0)), .null, .null])) [.inl (ta 0, 24, .inl (fun _ => 0))]) [(0, .ref (b + q))] 12 []
  refine j_aload_n B d_G_init_12 rfl 0 rfl ?_
  refine j_bipush (v := 24) B d_G_init_13 (by decide) ?_
  refine j_newa (atype := .int) (t := 0) (N := 24) (a0 := (24, .inl (fun _ => 0))) B trivial w_47 rfl na_int (by decide) (by decide) (by decide) (by decide) (by decide) d_G_init_15 ?_
  rw [cf_len hn, cf_app]
  change jW l b D Γ True 2 48 1 (cf σ q (.inr (0, [.ref (b + (n + 0)), .null, .null])) [.inl (ta 0, 24, .inl (fun _ => 0)), .inl (ta 0, 24, .inl (fun _ => 0))]) [(0, .ref (b + q))] 17 [.ref (b + (n + 1)), .ref (b + q)]
  refine pc_G_15 B hme (cf_q hn hq2) rfl rfl (Nat.le_of_ble_eq_true rfl) d_G_init_17 ?_
  rw [cf_sq hn hq2]
  change jW l b D Γ True 2 48 1 (cf σ q (.inr (0, [.ref (b + (n + 0)), .ref (b + (n + 1)), .null])) [.inl (ta 0, 24, .inl (fun _ => 0)), .inl (ta 0, 24, .inl (fun _ => 0))]) [(0, .ref (b + q))] 20 []
  refine j_aload_n B d_G_init_20 rfl 0 rfl ?_
  refine j_bipush (v := 24) B d_G_init_21 (by decide) ?_
  refine j_newa (atype := .int) (t := 0) (N := 24) (a0 := (24, .inl (fun _ => 0))) B trivial w_47 rfl na_int (by decide) (by decide) (by decide) (by decide) (by decide) d_G_init_23 ?_
  rw [cf_len hn, cf_app]
  change jW l b D Γ True 3 72 1 (cf σ q (.inr (0, [.ref (b + (n + 0)), .ref (b + (n + 1)), .null])) [.inl (ta 0, 24, .inl (fun _ => 0)), .inl (ta 0, 24, .inl (fun _ => 0)), .inl (ta 0, 24, .inl (fun _ => 0))]) [(0, .ref (b + q))] 25 [.ref (b + (n + 2)), .ref (b + q)]
  refine pc_G_18 B hme (cf_q hn hq2) rfl rfl (Nat.le_of_ble_eq_true rfl) d_G_init_25 ?_
  rw [cf_sq hn hq2]
  change jW l b D Γ True 3 72 1 (cf σ q (.inr (0, [.ref (b + (n + 0)), .ref (b + (n + 1)), .ref (b + (n + 2))])) [.inl (ta 0, 24, .inl (fun _ => 0)), .inl (ta 0, 24, .inl (fun _ => 0)), .inl (ta 0, 24, .inl (fun _ => 0))]) [(0, .ref (b + q))] 28 []
  exact j_vret B K rfl d_G_init_28
set_option maxRecDepth 100000 in
set_option maxHeartbeats 400000 in
theorem c_Tx_init {l : Launch} {b : Nat} {D : va_G} {ta : Nat → ClassId} {σ : List va_E} {q n : Nat} (hn : σ.length = n) (hq : σ[q]? = some (.inr (5, [.null, .int 0]))) (hq2 : q < n) : jC l b D ta True y_Tx_init b_Tx_init 1 none (rK 1 1 60) [.ref (b + q)] σ none (cf σ q (.inr (5, [.ref (b + (n + 0)), .int 0])) [.inl (ta 1, 60, .inl (fun _ => 0))]) := by
  refine jC_ofI (own := "WireField$Text") (by decide +kernel) rfl (Nat.le_of_ble_eq_true rfl) rfl (fun Γ B hme K => ?_)
  refine jW.heap (cf_0 hq) ?_
  change jW l b D Γ True 0 0 1 (cf σ q (.inr (5, [.null, .int 0])) []) [(0, .ref (b + q))] 0 []
  refine j_aload_n B d_Tx_init_0 rfl 0 rfl ?_
  refine j_objInit B w_86 w_29 w_30 (by decide) (by decide) d_Tx_init_1 ?_
  refine j_aload_n B d_Tx_init_4 rfl 0 rfl ?_
  refine j_bipush (v := 60) B d_Tx_init_5 (by decide) ?_
  refine j_newa (atype := .char) (t := 1) (N := 60) (a0 := (60, .inl (fun _ => 0))) B trivial w_95 rfl na_char (by decide) (by decide) (by decide) (by decide) (by decide) d_Tx_init_7 ?_
  rw [cf_len hn, cf_app]
  change jW l b D Γ True 1 60 1 (cf σ q (.inr (5, [.null, .int 0])) [.inl (ta 1, 60, .inl (fun _ => 0))]) [(0, .ref (b + q))] 9 [.ref (b + (n + 0)), .ref (b + q)]
  refine pc_Tx_9 B hme (cf_q hn hq2) rfl rfl (Nat.le_of_ble_eq_true rfl) d_Tx_init_9 ?_
  rw [cf_sq hn hq2]
  change jW l b D Γ True 1 60 1 (cf σ q (.inr (5, [.ref (b + (n + 0)), .int 0])) [.inl (ta 1, 60, .inl (fun _ => 0))]) [(0, .ref (b + q))] 12 []
  refine j_aload_n B d_Tx_init_12 rfl 0 rfl ?_
  refine j_iconst (v := 0) B d_Tx_init_13 (by decide) ?_
  refine pc_Tx_15 B (cf_q hn hq2) rfl rfl (Nat.le_of_ble_eq_true rfl) d_Tx_init_14 ?_
  rw [cf_sq hn hq2]
  change jW l b D Γ True 1 60 1 (cf σ q (.inr (5, [.ref (b + (n + 0)), .int 0])) [.inl (ta 1, 60, .inl (fun _ => 0))]) [(0, .ref (b + q))] 17 []
  exact j_vret B K rfl d_Tx_init_17
set_option maxRecDepth 100000 in
set_option maxHeartbeats 400000 in
theorem c_So_init {l : Launch} {b : Nat} {D : va_G} {ta : Nat → ClassId} {σ : List va_E} {q n : Nat} (hn : σ.length = n) (hq : σ[q]? = some (.inr (4, [.int 0, .int 0, .long 0, .int 0, .int 0]))) (hq2 : q < n) : jC l b D ta True y_So_init b_So_init 1 none (rK 1 0 0) [.ref (b + q)] σ none (cf σ q (.inr (4, [.int 0, .int 0, .long 0, .int 1, .int 0])) []) := by
  refine jC_ofI (own := "WireField$Source") (by decide +kernel) rfl (Nat.le_of_ble_eq_true rfl) rfl (fun Γ B hme K => ?_)
  refine jW.heap (cf_0 hq) ?_
  change jW l b D Γ True 0 0 1 (cf σ q (.inr (4, [.int 0, .int 0, .long 0, .int 0, .int 0])) []) [(0, .ref (b + q))] 0 []
  refine j_aload_n B d_So_init_0 rfl 0 rfl ?_
  refine j_objInit B w_107 w_29 w_30 (by decide) (by decide) d_So_init_1 ?_
  refine j_aload_n B d_So_init_4 rfl 0 rfl ?_
  refine j_iconst (v := 0) B d_So_init_5 (by decide) ?_
  refine pc_So_9 B (cf_q hn hq2) rfl rfl (Nat.le_of_ble_eq_true rfl) d_So_init_6 ?_
  rw [cf_sq hn hq2]
  change jW l b D Γ True 0 0 1 (cf σ q (.inr (4, [.int 0, .int 0, .long 0, .int 0, .int 0])) []) [(0, .ref (b + q))] 9 []
  refine j_aload_n B d_So_init_9 rfl 0 rfl ?_
  refine j_iconst (v := 0) B d_So_init_10 (by decide) ?_
  refine pc_So_15 B (cf_q hn hq2) rfl rfl (Nat.le_of_ble_eq_true rfl) d_So_init_11 ?_
  rw [cf_sq hn hq2]
  change jW l b D Γ True 0 0 1 (cf σ q (.inr (4, [.int 0, .int 0, .long 0, .int 0, .int 0])) []) [(0, .ref (b + q))] 14 []
  refine j_aload_n B d_So_init_14 rfl 0 rfl ?_
  refine j_lconst (v := 0) B d_So_init_15 (by decide) ?_
  refine pc_So_18 B (cf_q hn hq2) rfl rfl (Nat.le_of_ble_eq_true rfl) d_So_init_16 ?_
  rw [cf_sq hn hq2]
  change jW l b D Γ True 0 0 1 (cf σ q (.inr (4, [.int 0, .int 0, .long 0, .int 0, .int 0])) []) [(0, .ref (b + q))] 19 []
  refine j_aload_n B d_So_init_19 rfl 0 rfl ?_
  refine j_iconst (v := 1) B d_So_init_20 (by decide) ?_
  refine pc_So_22 B (cf_q hn hq2) rfl rfl (Nat.le_of_ble_eq_true rfl) d_So_init_21 ?_
  rw [cf_sq hn hq2]
  change jW l b D Γ True 0 0 1 (cf σ q (.inr (4, [.int 0, .int 0, .long 0, .int 1, .int 0])) []) [(0, .ref (b + q))] 24 []
  refine j_aload_n B d_So_init_24 rfl 0 rfl ?_
  refine j_iconst (v := 0) B d_So_init_25 (by decide) ?_
  refine pc_So_25 B (cf_q hn hq2) rfl rfl (Nat.le_of_ble_eq_true rfl) d_So_init_26 ?_
  rw [cf_sq hn hq2]
  change jW l b D Γ True 0 0 1 (cf σ q (.inr (4, [.int 0, .int 0, .long 0, .int 1, .int 0])) []) [(0, .ref (b + q))] 29 []
  exact j_vret B K rfl d_So_init_29
set_option maxRecDepth 100000 in
set_option maxHeartbeats 400000 in
theorem c_Pr_init {l : Launch} {b : Nat} {D : va_G} {ta : Nat → ClassId} {σ : List va_E} {q n : Nat} (hn : σ.length = n) (hq : σ[q]? = some (.inr (3, [.int 0, .int 0, .int 0, .int 0, .long 0]))) (hq2 : q < n) : jC l b D ta True y_Pr_init b_Pr_init 1 none (rK 1 0 0) [.ref (b + q)] σ none (cf σ q (.inr (3, [.int 0, .int 0, .int 0, .int (-1), .long 0])) []) := by
  refine jC_ofI (own := "WireField$Probe") (by decide +kernel) rfl (Nat.le_of_ble_eq_true rfl) rfl (fun Γ B hme K => ?_)
  refine jW.heap (cf_0 hq) ?_
  change jW l b D Γ True 0 0 1 (cf σ q (.inr (3, [.int 0, .int 0, .int 0, .int 0, .long 0])) []) [(0, .ref (b + q))] 0 []
  refine j_aload_n B d_Pr_init_0 rfl 0 rfl ?_
  refine j_objInit B w_130 w_29 w_30 (by decide) (by decide) d_Pr_init_1 ?_
  refine j_aload_n B d_Pr_init_4 rfl 0 rfl ?_
  refine j_iconst (v := 0) B d_Pr_init_5 (by decide) ?_
  refine pc_Pr_9 B (cf_q hn hq2) rfl rfl (Nat.le_of_ble_eq_true rfl) d_Pr_init_6 ?_
  rw [cf_sq hn hq2]
  change jW l b D Γ True 0 0 1 (cf σ q (.inr (3, [.int 0, .int 0, .int 0, .int 0, .long 0])) []) [(0, .ref (b + q))] 9 []
  refine j_aload_n B d_Pr_init_9 rfl 0 rfl ?_
  refine j_iconst (v := 0) B d_Pr_init_10 (by decide) ?_
  refine pc_Pr_15 B (cf_q hn hq2) rfl rfl (Nat.le_of_ble_eq_true rfl) d_Pr_init_11 ?_
  rw [cf_sq hn hq2]
  change jW l b D Γ True 0 0 1 (cf σ q (.inr (3, [.int 0, .int 0, .int 0, .int 0, .long 0])) []) [(0, .ref (b + q))] 14 []
  refine j_aload_n B d_Pr_init_14 rfl 0 rfl ?_
  refine j_iconst (v := 0) B d_Pr_init_15 (by decide) ?_
  refine pc_Pr_18 B (cf_q hn hq2) rfl rfl (Nat.le_of_ble_eq_true rfl) d_Pr_init_16 ?_
  rw [cf_sq hn hq2]
  change jW l b D Γ True 0 0 1 (cf σ q (.inr (3, [.int 0, .int 0, .int 0, .int 0, .long 0])) []) [(0, .ref (b + q))] 19 []
  refine j_aload_n B d_Pr_init_19 rfl 0 rfl ?_
  refine j_iconst (v := (-1)) B d_Pr_init_20 (by decide) ?_
  refine pc_Pr_21 B (cf_q hn hq2) rfl rfl (Nat.le_of_ble_eq_true rfl) d_Pr_init_21 ?_
  rw [cf_sq hn hq2]
  change jW l b D Γ True 0 0 1 (cf σ q (.inr (3, [.int 0, .int 0, .int 0, .int (-1), .long 0])) []) [(0, .ref (b + q))] 24 []
  refine j_aload_n B d_Pr_init_24 rfl 0 rfl ?_
  refine j_lconst (v := 0) B d_Pr_init_25 (by decide) ?_
  refine pc_Pr_24 B (cf_q hn hq2) rfl rfl (Nat.le_of_ble_eq_true rfl) d_Pr_init_26 ?_
  rw [cf_sq hn hq2]
  change jW l b D Γ True 0 0 1 (cf σ q (.inr (3, [.int 0, .int 0, .int 0, .int (-1), .long 0])) []) [(0, .ref (b + q))] 29 []
  exact j_vret B K rfl d_Pr_init_29
set_option maxRecDepth 100000 in
set_option maxHeartbeats 400000 in
theorem c_Pe_init {l : Launch} {b : Nat} {D : va_G} {ta : Nat → ClassId} {σ : List va_E} {q n : Nat} (hn : σ.length = n) (hq : σ[q]? = some (.inr (2, [.null, .int 0, .int 0, .int 0, .int 0, .int 0]))) (hq2 : q < n) : jC l b D ta True y_Pe_init b_Pe_init 1 none (rK 2 4 75) [.ref (b + q)] σ none (cf σ q (.inr (2, [.ref (b + (n + 0)), .int 0, .int 0, .int 0, .int 1, .int 0])) [.inr (0, [.ref (b + (n + 1)), .ref (b + (n + 2)), .ref (b + (n + 3))]), .inl (ta 0, 24, .inl (fun _ => 0)), .inl (ta 0, 24, .inl (fun _ => 0)), .inl (ta 0, 24, .inl (fun _ => 0))]) := by
  refine jC_ofI (own := "WireField$Pen") (by decide +kernel) rfl (Nat.le_of_ble_eq_true rfl) rfl (fun Γ B hme K => ?_)
  refine jW.heap (cf_0 hq) ?_
  change jW l b D Γ True 0 0 1 (cf σ q (.inr (2, [.null, .int 0, .int 0, .int 0, .int 0, .int 0])) []) [(0, .ref (b + q))] 0 []
  refine j_aload_n B d_Pe_init_0 rfl 0 rfl ?_
  refine j_objInit B w_53 w_29 w_30 (by decide) (by decide) d_Pe_init_1 ?_
  refine j_aload_n B d_Pe_init_4 rfl 0 rfl ?_
  refine j_new (ci := 0) (fs := [.null, .null, .null]) B trivial rfl u_X0 tyX0 tyX0_ok w_54 w_32 w_2 (by decide +kernel) (by decide) (by decide) d_Pe_init_5 ?_
  rw [cf_len hn, cf_app]
  change jW l b D Γ True 1 3 1 (cf σ q (.inr (2, [.null, .int 0, .int 0, .int 0, .int 0, .int 0])) [.inr (0, [.null, .null, .null])]) [(0, .ref (b + q))] 8 [.ref (b + (n + 0)), .ref (b + q)]
  refine j_dup B d_Pe_init_8 rfl ?_
  refine j_callIN (as := []) (rest := [.ref (b + (n + 0)), .ref (b + q)]) B (c_G_init (σ := (cf σ q (.inr (2, [.null, .int 0, .int 0, .int 0, .int 0, .int 0])) [.inr (0, [.null, .null, .null])])) (q := n + 0) (n := n + 1) (cf_len hn) (cf_a hn rfl) (by omega)) yf_G_init w_55 w_34 rfl rfl (by decide) (by decide) rfl (Nat.le_of_ble_eq_true rfl) d_Pe_init_9 ?_
  rw [cf_cf hn]
  change jW l b D Γ True 4 75 1 (cf σ q (.inr (2, [.null, .int 0, .int 0, .int 0, .int 0, .int 0])) [.inr (0, [.ref (b + (n + 1)), .ref (b + (n + 2)), .ref (b + (n + 3))]), .inl (ta 0, 24, .inl (fun _ => 0)), .inl (ta 0, 24, .inl (fun _ => 0)), .inl (ta 0, 24, .inl (fun _ => 0))]) [(0, .ref (b + q))] 12 [.ref (b + (n + 0)), .ref (b + q)]
  refine pc_Pe_12 B hme (cf_q hn hq2) rfl rfl (Nat.le_of_ble_eq_true rfl) d_Pe_init_12 ?_
  rw [cf_sq hn hq2]
  change jW l b D Γ True 4 75 1 (cf σ q (.inr (2, [.ref (b + (n + 0)), .int 0, .int 0, .int 0, .int 0, .int 0])) [.inr (0, [.ref (b + (n + 1)), .ref (b + (n + 2)), .ref (b + (n + 3))]), .inl (ta 0, 24, .inl (fun _ => 0)), .inl (ta 0, 24, .inl (fun _ => 0)), .inl (ta 0, 24, .inl (fun _ => 0))]) [(0, .ref (b + q))] 15 []
  refine j_aload_n B d_Pe_init_15 rfl 0 rfl ?_
  refine j_iconst (v := 0) B d_Pe_init_16 (by decide) ?_
  refine pc_Pe_18 B (cf_q hn hq2) rfl rfl (Nat.le_of_ble_eq_true rfl) d_Pe_init_17 ?_
  rw [cf_sq hn hq2]
  change jW l b D Γ True 4 75 1 (cf σ q (.inr (2, [.ref (b + (n + 0)), .int 0, .int 0, .int 0, .int 0, .int 0])) [.inr (0, [.ref (b + (n + 1)), .ref (b + (n + 2)), .ref (b + (n + 3))]), .inl (ta 0, 24, .inl (fun _ => 0)), .inl (ta 0, 24, .inl (fun _ => 0)), .inl (ta 0, 24, .inl (fun _ => 0))]) [(0, .ref (b + q))] 20 []
  refine j_aload_n B d_Pe_init_20 rfl 0 rfl ?_
  refine j_iconst (v := 0) B d_Pe_init_21 (by decide) ?_
  refine pc_Pe_22 B (cf_q hn hq2) rfl rfl (Nat.le_of_ble_eq_true rfl) d_Pe_init_22 ?_
  rw [cf_sq hn hq2]
  change jW l b D Γ True 4 75 1 (cf σ q (.inr (2, [.ref (b + (n + 0)), .int 0, .int 0, .int 0, .int 0, .int 0])) [.inr (0, [.ref (b + (n + 1)), .ref (b + (n + 2)), .ref (b + (n + 3))]), .inl (ta 0, 24, .inl (fun _ => 0)), .inl (ta 0, 24, .inl (fun _ => 0)), .inl (ta 0, 24, .inl (fun _ => 0))]) [(0, .ref (b + q))] 25 []
  refine j_aload_n B d_Pe_init_25 rfl 0 rfl ?_
  refine j_iconst (v := 0) B d_Pe_init_26 (by decide) ?_
  refine pc_Pe_25 B (cf_q hn hq2) rfl rfl (Nat.le_of_ble_eq_true rfl) d_Pe_init_27 ?_
  rw [cf_sq hn hq2]
  change jW l b D Γ True 4 75 1 (cf σ q (.inr (2, [.ref (b + (n + 0)), .int 0, .int 0, .int 0, .int 0, .int 0])) [.inr (0, [.ref (b + (n + 1)), .ref (b + (n + 2)), .ref (b + (n + 3))]), .inl (ta 0, 24, .inl (fun _ => 0)), .inl (ta 0, 24, .inl (fun _ => 0)), .inl (ta 0, 24, .inl (fun _ => 0))]) [(0, .ref (b + q))] 30 []
  refine j_aload_n B d_Pe_init_30 rfl 0 rfl ?_
  refine j_iconst (v := 1) B d_Pe_init_31 (by decide) ?_
  refine pc_Pe_28 B (cf_q hn hq2) rfl rfl (Nat.le_of_ble_eq_true rfl) d_Pe_init_32 ?_
  rw [cf_sq hn hq2]
  change jW l b D Γ True 4 75 1 (cf σ q (.inr (2, [.ref (b + (n + 0)), .int 0, .int 0, .int 0, .int 1, .int 0])) [.inr (0, [.ref (b + (n + 1)), .ref (b + (n + 2)), .ref (b + (n + 3))]), .inl (ta 0, 24, .inl (fun _ => 0)), .inl (ta 0, 24, .inl (fun _ => 0)), .inl (ta 0, 24, .inl (fun _ => 0))]) [(0, .ref (b + q))] 35 []
  refine j_aload_n B d_Pe_init_35 rfl 0 rfl ?_
  refine j_iconst (v := 0) B d_Pe_init_36 (by decide) ?_
  refine pc_Pe_32 B (cf_q hn hq2) rfl rfl (Nat.le_of_ble_eq_true rfl) d_Pe_init_37 ?_
  rw [cf_sq hn hq2]
  change jW l b D Γ True 4 75 1 (cf σ q (.inr (2, [.ref (b + (n + 0)), .int 0, .int 0, .int 0, .int 1, .int 0])) [.inr (0, [.ref (b + (n + 1)), .ref (b + (n + 2)), .ref (b + (n + 3))]), .inl (ta 0, 24, .inl (fun _ => 0)), .inl (ta 0, 24, .inl (fun _ => 0)), .inl (ta 0, 24, .inl (fun _ => 0))]) [(0, .ref (b + q))] 40 []
  exact j_vret B K rfl d_Pe_init_40
set_option maxRecDepth 100000 in
set_option maxHeartbeats 400000 in
theorem c_Mo_init {l : Launch} {b : Nat} {D : va_G} {ta : Nat → ClassId} {σ : List va_E} {q n : Nat} (hn : σ.length = n) (hq : σ[q]? = some (.inr (1, [.null, .null]))) (hq2 : q < n) : jC l b D ta True y_Mo_init b_Mo_init 1 none (rK 2 5 79) [.ref (b + q)] σ none (cf σ q (.inr (1, [.ref (b + (n + 0)), .ref (b + (n + 4))])) [.inr (0, [.ref (b + (n + 1)), .ref (b + (n + 2)), .ref (b + (n + 3))]), .inl (ta 0, 24, .inl (fun _ => 0)), .inl (ta 0, 24, .inl (fun _ => 0)), .inl (ta 0, 24, .inl (fun _ => 0)), .inl (ta 0, 4, .inl (fun _ => 0))]) := by
  refine jC_ofI (own := "WireField$Moment") (by decide +kernel) rfl (Nat.le_of_ble_eq_true rfl) rfl (fun Γ B hme K => ?_)
  refine jW.heap (cf_0 hq) ?_
  change jW l b D Γ True 0 0 1 (cf σ q (.inr (1, [.null, .null])) []) [(0, .ref (b + q))] 0 []
  refine j_aload_n B d_Mo_init_0 rfl 0 rfl ?_
  refine j_objInit B w_154 w_29 w_30 (by decide) (by decide) d_Mo_init_1 ?_
  refine j_aload_n B d_Mo_init_4 rfl 0 rfl ?_
  refine j_new (ci := 0) (fs := [.null, .null, .null]) B trivial rfl u_X0 tyX0 tyX0_ok w_155 w_32 w_2 (by decide +kernel) (by decide) (by decide) d_Mo_init_5 ?_
  rw [cf_len hn, cf_app]
  change jW l b D Γ True 1 3 1 (cf σ q (.inr (1, [.null, .null])) [.inr (0, [.null, .null, .null])]) [(0, .ref (b + q))] 8 [.ref (b + (n + 0)), .ref (b + q)]
  refine j_dup B d_Mo_init_8 rfl ?_
  refine j_callIN (as := []) (rest := [.ref (b + (n + 0)), .ref (b + q)]) B (c_G_init (σ := (cf σ q (.inr (1, [.null, .null])) [.inr (0, [.null, .null, .null])])) (q := n + 0) (n := n + 1) (cf_len hn) (cf_a hn rfl) (by omega)) yf_G_init w_156 w_34 rfl rfl (by decide) (by decide) rfl (Nat.le_of_ble_eq_true rfl) d_Mo_init_9 ?_
  rw [cf_cf hn]
  change jW l b D Γ True 4 75 1 (cf σ q (.inr (1, [.null, .null])) [.inr (0, [.ref (b + (n + 1)), .ref (b + (n + 2)), .ref (b + (n + 3))]), .inl (ta 0, 24, .inl (fun _ => 0)), .inl (ta 0, 24, .inl (fun _ => 0)), .inl (ta 0, 24, .inl (fun _ => 0))]) [(0, .ref (b + q))] 12 [.ref (b + (n + 0)), .ref (b + q)]
  refine pc_Mo_12 B hme (cf_q hn hq2) rfl rfl (Nat.le_of_ble_eq_true rfl) d_Mo_init_12 ?_
  rw [cf_sq hn hq2]
  change jW l b D Γ True 4 75 1 (cf σ q (.inr (1, [.ref (b + (n + 0)), .null])) [.inr (0, [.ref (b + (n + 1)), .ref (b + (n + 2)), .ref (b + (n + 3))]), .inl (ta 0, 24, .inl (fun _ => 0)), .inl (ta 0, 24, .inl (fun _ => 0)), .inl (ta 0, 24, .inl (fun _ => 0))]) [(0, .ref (b + q))] 15 []
  refine j_aload_n B d_Mo_init_15 rfl 0 rfl ?_
  refine j_iconst (v := 4) B d_Mo_init_16 (by decide) ?_
  refine j_newa (atype := .int) (t := 0) (N := 4) (a0 := (4, .inl (fun _ => 0))) B trivial w_47 rfl na_int (by decide) (by decide) (by decide) (by decide) (by decide) d_Mo_init_17 ?_
  rw [cf_len hn, cf_app]
  change jW l b D Γ True 5 79 1 (cf σ q (.inr (1, [.ref (b + (n + 0)), .null])) [.inr (0, [.ref (b + (n + 1)), .ref (b + (n + 2)), .ref (b + (n + 3))]), .inl (ta 0, 24, .inl (fun _ => 0)), .inl (ta 0, 24, .inl (fun _ => 0)), .inl (ta 0, 24, .inl (fun _ => 0)), .inl (ta 0, 4, .inl (fun _ => 0))]) [(0, .ref (b + q))] 19 [.ref (b + (n + 4)), .ref (b + q)]
  refine pc_Mo_18 B hme (cf_q hn hq2) rfl rfl (Nat.le_of_ble_eq_true rfl) d_Mo_init_19 ?_
  rw [cf_sq hn hq2]
  change jW l b D Γ True 5 79 1 (cf σ q (.inr (1, [.ref (b + (n + 0)), .ref (b + (n + 4))])) [.inr (0, [.ref (b + (n + 1)), .ref (b + (n + 2)), .ref (b + (n + 3))]), .inl (ta 0, 24, .inl (fun _ => 0)), .inl (ta 0, 24, .inl (fun _ => 0)), .inl (ta 0, 24, .inl (fun _ => 0)), .inl (ta 0, 4, .inl (fun _ => 0))]) [(0, .ref (b + q))] 22 []
  exact j_vret B K rfl d_Mo_init_22
