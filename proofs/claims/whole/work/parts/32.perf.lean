set_option maxRecDepth 100000 in
set_option maxHeartbeats 4000000 in
theorem k_WF_performBranch {l : Launch} {b : Nat} {D : va_G} {ta : Nat → ClassId} {σ : List va_E} (H : pW b σ 9 10 11 12 13) {v7 v9 v11 v12 : Int32} (h0 : σ[0]? = some (.inr (6, [.ref (b + 1), .ref (b + 5), .ref (b + 9), .ref (b + 14), .ref (b + 16), .ref (b + 17), .ref (b + 18), .int v7, .ref (b + 19), .int v9, .ref (b + 20), .int v11, .int v12]))) (h16 : σ[16]? = some (aR ta 4 4 (fun j => if j < 4 then some (b + (21 + 2 * j)) else none))) {MS : Nat → Nat → Int32} {MN : Nat → Nat} (hM : ∀ j, j < 4 → tX b ta σ (21 + 2 * j) (22 + 2 * j) (MS j) (MN j)) {x s : Nat} {S : Nat → Int32} {N : Nat} (T : tX b ta σ x s S N) {rec : (Nat → Int32) → Nat → Nat → Nat → PT → Bool × PT} {dp lv : Nat} (hlv : 27 ≤ lv) (hdp : dp < 2 ^ 20) (hrec : ∀ (x s : Nat) (S : Nat → Int32) (N : Nat), tX b ta σ x s S N → ∀ (f t : Nat) (c r : Int32) (d : Nat) (u : Bool) (o : Nat) (F0 F1 F2 : Nat → Int32), f ≤ N → t ≤ N → d < 4 → o ≤ 400 → jC l b D ta False y_WF_perform b_WF_perform 11 (some .boolean) (rL lv) [.ref (b + 0), .ref (b + x), .int (nI f), .int (nI t), .int (nI (dp + 1))] (pS b ta σ 9 10 11 12 13 c r d u o F0 F1 F2) (some (.int (bI (rec S N f t (c, r, d, u, o, F0, F1, F2)).1))) (pS b ta σ 9 10 11 12 13 (rec S N f t (c, r, d, u, o, F0, F1, F2)).2.1 (rec S N f t (c, r, d, u, o, F0, F1, F2)).2.2.1 (rec S N f t (c, r, d, u, o, F0, F1, F2)).2.2.2.1 (rec S N f t (c, r, d, u, o, F0, F1, F2)).2.2.2.2.1 (rec S N f t (c, r, d, u, o, F0, F1, F2)).2.2.2.2.2.1 (rec S N f t (c, r, d, u, o, F0, F1, F2)).2.2.2.2.2.2.1 (rec S N f t (c, r, d, u, o, F0, F1, F2)).2.2.2.2.2.2.2.1 (rec S N f t (c, r, d, u, o, F0, F1, F2)).2.2.2.2.2.2.2.2)) (hPV : ∀ S N f t P, PV P → PV (rec S N f t P).2) {c r : Int32} {d : Nat} {u : Bool} {o : Nat} {F0 F1 F2 : Nat → Int32} (hd : d < 4) (ho : o ≤ 400) {f t : Nat} (hf : f ≤ N) (ht : t ≤ N) : jC l b D ta False y_WF_performBranch b_WF_performBranch 10 (some .boolean) (rL (lv + 1)) [.ref (b + 0), .ref (b + x), .int (nI f), .int (nI t), .int (nI (dp + 1))] (pS b ta σ 9 10 11 12 13 c r d u o F0 F1 F2) (some (.int (bI (rec S N f t (c, r, d, u, o, F0, F1, F2)).1))) (pS b ta σ 9 10 11 12 13 c r d u ((rec S N f t (c, r, d, u, o, F0, F1, F2)).2.2.2.2.2.1) ((rec S N f t (c, r, d, u, o, F0, F1, F2)).2.2.2.2.2.2.1) ((rec S N f t (c, r, d, u, o, F0, F1, F2)).2.2.2.2.2.2.2.1) ((rec S N f t (c, r, d, u, o, F0, F1, F2)).2.2.2.2.2.2.2.2)) := by
  refine jC_of (own := "WireField") (by decide +kernel) (Nat.le_of_ble_eq_true rfl) rfl (fun Γ B K => ?_)
  change jW l b D Γ False 0 0 10 (pS b ta σ 9 10 11 12 13 c r d u o F0 F1 F2) [(0, .ref (b + 0)), (1, .ref (b + x)), (2, .int (nI f)), (3, .int (nI t)), (4, .int (nI (dp + 1)))] 0 []
  refine j_aload_n B d_WF_performBranch_0 rfl 0 rfl ?_
  refine gf_WF_22 B (pS_o (by decide) (by decide) (by decide) (by decide) h0) rfl d_WF_performBranch_1 ?_
  refine gf_WF_261 B (pS_p H) rfl d_WF_performBranch_4 ?_
  refine j_istore (L' := [(0, .ref (b + 0)), (1, .ref (b + x)), (2, .int (nI f)), (3, .int (nI t)), (4, .int (nI (dp + 1))), (5, .int c)]) B d_WF_performBranch_7 (by decide) [1, 2, 3, 4, 5, 0] rfl ?_
  refine j_aload_n B d_WF_performBranch_9 rfl 0 rfl ?_
  refine gf_WF_22 B (pS_o (by decide) (by decide) (by decide) (by decide) h0) rfl d_WF_performBranch_10 ?_
  refine gf_WF_264 B (pS_p H) rfl d_WF_performBranch_13 ?_
  refine j_istore (L' := [(0, .ref (b + 0)), (1, .ref (b + x)), (2, .int (nI f)), (3, .int (nI t)), (4, .int (nI (dp + 1))), (5, .int c), (6, .int r)]) B d_WF_performBranch_16 (by decide) [1, 2, 3, 4, 5, 6, 0] rfl ?_
  refine j_aload_n B d_WF_performBranch_18 rfl 0 rfl ?_
  refine gf_WF_22 B (pS_o (by decide) (by decide) (by decide) (by decide) h0) rfl d_WF_performBranch_19 ?_
  refine gf_WF_267 B (pS_p H) rfl d_WF_performBranch_22 ?_
  refine j_istore (L' := [(0, .ref (b + 0)), (1, .ref (b + x)), (2, .int (nI f)), (3, .int (nI t)), (4, .int (nI (dp + 1))), (5, .int c), (6, .int r), (7, .int (nI d))]) B d_WF_performBranch_25 (by decide) [1, 2, 3, 4, 5, 6, 7, 0] rfl ?_
  refine j_aload_n B d_WF_performBranch_27 rfl 0 rfl ?_
  refine gf_WF_22 B (pS_o (by decide) (by decide) (by decide) (by decide) h0) rfl d_WF_performBranch_28 ?_
  refine gf_WF_270 B (pS_p H) rfl d_WF_performBranch_31 ?_
  refine j_istore (L' := [(0, .ref (b + 0)), (1, .ref (b + x)), (2, .int (nI f)), (3, .int (nI t)), (4, .int (nI (dp + 1))), (5, .int c), (6, .int r), (7, .int (nI d)), (8, .int (bI u))]) B d_WF_performBranch_34 (by decide) [1, 2, 3, 4, 5, 6, 7, 8, 0] rfl ?_
  refine j_aload_n B d_WF_performBranch_36 rfl 0 rfl ?_
  refine j_aload_n B d_WF_performBranch_37 rfl 1 rfl ?_
  refine j_iload_n B d_WF_performBranch_38 rfl 2 rfl ?_
  refine j_iload_n B d_WF_performBranch_39 rfl 3 rfl ?_
  refine j_iload B d_WF_performBranch_40 4 rfl ?_
  refine k_callV (as := [.ref (b + x), .int (nI f), .int (nI t), .int (nI (dp + 1))]) (rest := []) (st1 := [.int (bI (rec S N f t (c, r, d, u, o, F0, F1, F2)).1)]) B (hrec _ _ _ _ T _ _ _ _ _ _ _ _ _ _ hf ht hd ho) yf_WF_perform w_581 w_583 w_s11 rfl (pS_o (by decide) (by decide) (by decide) (by decide) h0) rfl (by omega) (by decide) rfl rfl (Nat.le_of_ble_eq_true rfl) d_WF_performBranch_42 ?_
  refine j_istore (L' := [(0, .ref (b + 0)), (1, .ref (b + x)), (2, .int (nI f)), (3, .int (nI t)), (4, .int (nI (dp + 1))), (5, .int c), (6, .int r), (7, .int (nI d)), (8, .int (bI u)), (9, .int (bI (rec S N f t (c, r, d, u, o, F0, F1, F2)).1))]) B d_WF_performBranch_45 (by decide) [1, 2, 3, 4, 5, 6, 7, 8, 9, 0] rfl ?_
  refine j_aload_n B d_WF_performBranch_47 rfl 0 rfl ?_
  refine gf_WF_22 B (pS_o (by decide) (by decide) (by decide) (by decide) h0) rfl d_WF_performBranch_48 ?_
  refine j_iload B d_WF_performBranch_51 5 rfl ?_
  refine pf_WF_261 B not_false (pS_p H) rfl rfl (Nat.le_of_ble_eq_true rfl) d_WF_performBranch_53 ?_
  refine jW.heap (σ2 := pS b ta σ 9 10 11 12 13 c ((rec S N f t (c, r, d, u, o, F0, F1, F2)).2.2.1) ((rec S N f t (c, r, d, u, o, F0, F1, F2)).2.2.2.1) ((rec S N f t (c, r, d, u, o, F0, F1, F2)).2.2.2.2.1) ((rec S N f t (c, r, d, u, o, F0, F1, F2)).2.2.2.2.2.1) ((rec S N f t (c, r, d, u, o, F0, F1, F2)).2.2.2.2.2.2.1) ((rec S N f t (c, r, d, u, o, F0, F1, F2)).2.2.2.2.2.2.2.1) ((rec S N f t (c, r, d, u, o, F0, F1, F2)).2.2.2.2.2.2.2.2)) (pS_wp (c' := c) (r' := (rec S N f t (c, r, d, u, o, F0, F1, F2)).2.2.1) (d' := ((rec S N f t (c, r, d, u, o, F0, F1, F2)).2.2.2.1)) (u' := ((rec S N f t (c, r, d, u, o, F0, F1, F2)).2.2.2.2.1)) (o' := ((rec S N f t (c, r, d, u, o, F0, F1, F2)).2.2.2.2.2.1)) H) ?_
  refine j_aload_n B d_WF_performBranch_56 rfl 0 rfl ?_
  refine gf_WF_22 B (pS_o (by decide) (by decide) (by decide) (by decide) h0) rfl d_WF_performBranch_57 ?_
  refine j_iload B d_WF_performBranch_60 6 rfl ?_
  refine pf_WF_264 B not_false (pS_p H) rfl rfl (Nat.le_of_ble_eq_true rfl) d_WF_performBranch_62 ?_
  refine jW.heap (σ2 := pS b ta σ 9 10 11 12 13 c r ((rec S N f t (c, r, d, u, o, F0, F1, F2)).2.2.2.1) ((rec S N f t (c, r, d, u, o, F0, F1, F2)).2.2.2.2.1) ((rec S N f t (c, r, d, u, o, F0, F1, F2)).2.2.2.2.2.1) ((rec S N f t (c, r, d, u, o, F0, F1, F2)).2.2.2.2.2.2.1) ((rec S N f t (c, r, d, u, o, F0, F1, F2)).2.2.2.2.2.2.2.1) ((rec S N f t (c, r, d, u, o, F0, F1, F2)).2.2.2.2.2.2.2.2)) (pS_wp (c' := c) (r' := r) (d' := ((rec S N f t (c, r, d, u, o, F0, F1, F2)).2.2.2.1)) (u' := ((rec S N f t (c, r, d, u, o, F0, F1, F2)).2.2.2.2.1)) (o' := ((rec S N f t (c, r, d, u, o, F0, F1, F2)).2.2.2.2.2.1)) H) ?_
  refine j_aload_n B d_WF_performBranch_65 rfl 0 rfl ?_
  refine gf_WF_22 B (pS_o (by decide) (by decide) (by decide) (by decide) h0) rfl d_WF_performBranch_66 ?_
  refine j_iload B d_WF_performBranch_69 7 rfl ?_
  refine pf_WF_267 B not_false (pS_p H) rfl rfl (Nat.le_of_ble_eq_true rfl) d_WF_performBranch_71 ?_
  refine jW.heap (σ2 := pS b ta σ 9 10 11 12 13 c r d ((rec S N f t (c, r, d, u, o, F0, F1, F2)).2.2.2.2.1) ((rec S N f t (c, r, d, u, o, F0, F1, F2)).2.2.2.2.2.1) ((rec S N f t (c, r, d, u, o, F0, F1, F2)).2.2.2.2.2.2.1) ((rec S N f t (c, r, d, u, o, F0, F1, F2)).2.2.2.2.2.2.2.1) ((rec S N f t (c, r, d, u, o, F0, F1, F2)).2.2.2.2.2.2.2.2)) (pS_wp (c' := c) (r' := r) (d' := d) (u' := ((rec S N f t (c, r, d, u, o, F0, F1, F2)).2.2.2.2.1)) (o' := ((rec S N f t (c, r, d, u, o, F0, F1, F2)).2.2.2.2.2.1)) H) ?_
  refine j_aload_n B d_WF_performBranch_74 rfl 0 rfl ?_
  refine gf_WF_22 B (pS_o (by decide) (by decide) (by decide) (by decide) h0) rfl d_WF_performBranch_75 ?_
  refine j_iload B d_WF_performBranch_78 8 rfl ?_
  refine pf_WF_270 B not_false (pS_p H) (by first | exact bI_nar _ | exact bI_fit _) (by first | exact bI_nar _ | exact bI_fit _) (Nat.le_of_ble_eq_true rfl) d_WF_performBranch_80 ?_
  refine jW.heap (σ2 := pS b ta σ 9 10 11 12 13 c r d u ((rec S N f t (c, r, d, u, o, F0, F1, F2)).2.2.2.2.2.1) ((rec S N f t (c, r, d, u, o, F0, F1, F2)).2.2.2.2.2.2.1) ((rec S N f t (c, r, d, u, o, F0, F1, F2)).2.2.2.2.2.2.2.1) ((rec S N f t (c, r, d, u, o, F0, F1, F2)).2.2.2.2.2.2.2.2)) (pS_wp (c' := c) (r' := r) (d' := d) (u' := u) (o' := ((rec S N f t (c, r, d, u, o, F0, F1, F2)).2.2.2.2.2.1)) H) ?_
  refine j_iload B d_WF_performBranch_83 9 rfl ?_
  exact j_zret B K (bI_nar _) rfl rfl d_WF_performBranch_85
set_option maxRecDepth 100000 in
set_option maxHeartbeats 4000000 in
theorem k_WF_performMacro_t {l : Launch} {b : Nat} {D : va_G} {ta : Nat → ClassId} {σ : List va_E} (H : pW b σ 9 10 11 12 13) {v7 v9 v11 v12 : Int32} (h0 : σ[0]? = some (.inr (6, [.ref (b + 1), .ref (b + 5), .ref (b + 9), .ref (b + 14), .ref (b + 16), .ref (b + 17), .ref (b + 18), .int v7, .ref (b + 19), .int v9, .ref (b + 20), .int v11, .int v12]))) (h16 : σ[16]? = some (aR ta 4 4 (fun j => if j < 4 then some (b + (21 + 2 * j)) else none))) {MS : Nat → Nat → Int32} {MN : Nat → Nat} (hM : ∀ j, j < 4 → tX b ta σ (21 + 2 * j) (22 + 2 * j) (MS j) (MN j)) {rec : (Nat → Int32) → Nat → Nat → Nat → PT → Bool × PT} {dp lv : Nat} (hlv : 27 ≤ lv) (hdp : dp < 2 ^ 20) (hrec : ∀ (x s : Nat) (S : Nat → Int32) (N : Nat), tX b ta σ x s S N → ∀ (f t : Nat) (c r : Int32) (d : Nat) (u : Bool) (o : Nat) (F0 F1 F2 : Nat → Int32), f ≤ N → t ≤ N → d < 4 → o ≤ 400 → jC l b D ta False y_WF_perform b_WF_perform 11 (some .boolean) (rL lv) [.ref (b + 0), .ref (b + x), .int (nI f), .int (nI t), .int (nI (dp + 1))] (pS b ta σ 9 10 11 12 13 c r d u o F0 F1 F2) (some (.int (bI (rec S N f t (c, r, d, u, o, F0, F1, F2)).1))) (pS b ta σ 9 10 11 12 13 (rec S N f t (c, r, d, u, o, F0, F1, F2)).2.1 (rec S N f t (c, r, d, u, o, F0, F1, F2)).2.2.1 (rec S N f t (c, r, d, u, o, F0, F1, F2)).2.2.2.1 (rec S N f t (c, r, d, u, o, F0, F1, F2)).2.2.2.2.1 (rec S N f t (c, r, d, u, o, F0, F1, F2)).2.2.2.2.2.1 (rec S N f t (c, r, d, u, o, F0, F1, F2)).2.2.2.2.2.2.1 (rec S N f t (c, r, d, u, o, F0, F1, F2)).2.2.2.2.2.2.2.1 (rec S N f t (c, r, d, u, o, F0, F1, F2)).2.2.2.2.2.2.2.2)) (hPV : ∀ S N f t P, PV P → PV (rec S N f t P).2) {c r : Int32} {d : Nat} {u : Bool} {o : Nat} {F0 F1 F2 : Nat → Int32} (hd : d < 4) (ho : o ≤ 400) {j : Nat} (hj : j < 4) : jC l b D ta False y_WF_performMacro b_WF_performMacro 3 (some .boolean) (rL (lv + 1)) [.ref (b + 0), .int (nI j), .int (nI (dp + 1))] (pS b ta σ 9 10 11 12 13 c r d u o F0 F1 F2) (some (.int (bI (rec (MS j) (MN j) 0 (MN j) (c, r, d, u, o, F0, F1, F2)).1))) (pS b ta σ 9 10 11 12 13 ((rec (MS j) (MN j) 0 (MN j) (c, r, d, u, o, F0, F1, F2)).2.1) ((rec (MS j) (MN j) 0 (MN j) (c, r, d, u, o, F0, F1, F2)).2.2.1) ((rec (MS j) (MN j) 0 (MN j) (c, r, d, u, o, F0, F1, F2)).2.2.2.1) ((rec (MS j) (MN j) 0 (MN j) (c, r, d, u, o, F0, F1, F2)).2.2.2.2.1) ((rec (MS j) (MN j) 0 (MN j) (c, r, d, u, o, F0, F1, F2)).2.2.2.2.2.1) ((rec (MS j) (MN j) 0 (MN j) (c, r, d, u, o, F0, F1, F2)).2.2.2.2.2.2.1) ((rec (MS j) (MN j) 0 (MN j) (c, r, d, u, o, F0, F1, F2)).2.2.2.2.2.2.2.1) ((rec (MS j) (MN j) 0 (MN j) (c, r, d, u, o, F0, F1, F2)).2.2.2.2.2.2.2.2)) := by
  refine jC_of (own := "WireField") (by decide +kernel) (Nat.le_of_ble_eq_true rfl) rfl (fun Γ B K => ?_)
  change jW l b D Γ False 0 0 3 (pS b ta σ 9 10 11 12 13 c r d u o F0 F1 F2) [(0, .ref (b + 0)), (1, .int (nI j)), (2, .int (nI (dp + 1)))] 0 []
  refine j_iload_n B d_WF_performMacro_0 rfl 1 rfl ?_
  refine j_if_lt B d_WF_performMacro_1 rfl (fun h1 => absurd h1 (nI_pos (by omega))) (fun h1 => ?_)
  refine j_iload_n B d_WF_performMacro_4 rfl 1 rfl ?_
  refine j_iconst (v := 4) B d_WF_performMacro_5 (by decide) ?_
  refine j_icmp_lt B d_WF_performMacro_6 rfl (fun h6 => ?_) (fun h6 => absurd (nI_lt (b := 4) hj (by decide)) h6)
  refine j_aload_n B d_WF_performMacro_11 rfl 0 rfl ?_
  refine j_aload_n B d_WF_performMacro_12 rfl 0 rfl ?_
  refine gf_WF_33 B (pS_o (by decide) (by decide) (by decide) (by decide) h0) rfl d_WF_performMacro_13 ?_
  refine j_iload_n B d_WF_performMacro_16 rfl 1 rfl ?_
  refine j_aaldN (z := b + (21 + 2 * j)) B rfl (pS_o (by decide) (by decide) (by decide) (by decide) h16) (by omega) (if_pos (by omega)) d_WF_performMacro_17 ?_
  refine j_iconst (v := 0) B d_WF_performMacro_18 (by decide) ?_
  refine j_aload_n B d_WF_performMacro_19 rfl 0 rfl ?_
  refine gf_WF_33 B (pS_o (by decide) (by decide) (by decide) (by decide) h0) rfl d_WF_performMacro_20 ?_
  refine j_iload_n B d_WF_performMacro_23 rfl 1 rfl ?_
  refine j_aaldN (z := b + (21 + 2 * j)) B rfl (pS_o (by decide) (by decide) (by decide) (by decide) h16) (by omega) (if_pos (by omega)) d_WF_performMacro_24 ?_
  refine gf_WF_107 B (tX_x (hM j hj)) rfl d_WF_performMacro_25 ?_
  refine j_iload_n B d_WF_performMacro_28 rfl 2 rfl ?_
  refine k_callV (as := [.ref (b + (21 + 2 * j)), .int 0, .int (nI (MN j)), .int (nI (dp + 1))]) (rest := []) (st1 := [.int (bI (rec (MS j) (MN j) 0 (MN j) (c, r, d, u, o, F0, F1, F2)).1)]) B (hrec _ _ _ _ (hM j hj) _ _ _ _ _ _ _ _ _ _ (Nat.zero_le _) (Nat.le_refl _) hd ho) yf_WF_perform w_581 w_583 w_s11 rfl (pS_o (by decide) (by decide) (by decide) (by decide) h0) rfl (by omega) (by decide) rfl rfl (Nat.le_of_ble_eq_true rfl) d_WF_performMacro_29 ?_
  exact j_zret B K (bI_nar _) rfl rfl d_WF_performMacro_32
set_option maxRecDepth 100000 in
set_option maxHeartbeats 4000000 in
theorem k_WF_performMacro_f {l : Launch} {b : Nat} {D : va_G} {ta : Nat → ClassId} {σ : List va_E} (H : pW b σ 9 10 11 12 13) {v7 v9 v11 v12 : Int32} (h0 : σ[0]? = some (.inr (6, [.ref (b + 1), .ref (b + 5), .ref (b + 9), .ref (b + 14), .ref (b + 16), .ref (b + 17), .ref (b + 18), .int v7, .ref (b + 19), .int v9, .ref (b + 20), .int v11, .int v12]))) (h16 : σ[16]? = some (aR ta 4 4 (fun j => if j < 4 then some (b + (21 + 2 * j)) else none))) {MS : Nat → Nat → Int32} {MN : Nat → Nat} (hM : ∀ j, j < 4 → tX b ta σ (21 + 2 * j) (22 + 2 * j) (MS j) (MN j)) {lv dp : Nat} {c r : Int32} {d : Nat} {u : Bool} {o : Nat} {F0 F1 F2 : Nat → Int32} (hd : d < 4) (ho : o ≤ 400) {z : Int32} (hz : z < 0 ∨ 4 ≤ z) : jC l b D ta False y_WF_performMacro b_WF_performMacro 3 (some .boolean) (rL lv) [.ref (b + 0), .int z, .int (nI (dp + 1))] (pS b ta σ 9 10 11 12 13 c r d u o F0 F1 F2) (some (.int 0)) (pS b ta σ 9 10 11 12 13 c r d u o F0 F1 F2) := by
  refine jC_of (own := "WireField") (by decide +kernel) (Nat.le_of_ble_eq_true rfl) rfl (fun Γ B K => ?_)
  change jW l b D Γ False 0 0 3 (pS b ta σ 9 10 11 12 13 c r d u o F0 F1 F2) [(0, .ref (b + 0)), (1, .int z), (2, .int (nI (dp + 1)))] 0 []
  refine j_iload_n B d_WF_performMacro_0 rfl 1 rfl ?_
  refine j_if_lt B d_WF_performMacro_1 rfl (fun h1 => ?_) (fun h1 => ?_)
  · -- 1 jump
    refine j_iconst (v := 0) B d_WF_performMacro_9 (by decide) ?_
    exact j_zret B K (by decide) rfl rfl d_WF_performMacro_10
  · -- 1 on
    refine j_iload_n B d_WF_performMacro_4 rfl 1 rfl ?_
    refine j_iconst (v := 4) B d_WF_performMacro_5 (by decide) ?_
    refine j_icmp_lt B d_WF_performMacro_6 rfl (fun h6 => ?_) (fun h6 => ?_)
    · -- 6 jump
      exact absurd hz (fun q => q.elim h1 (fun q => Int32.not_lt.mpr q h6))
    · -- 6 on
      refine j_iconst (v := 0) B d_WF_performMacro_9 (by decide) ?_
      exact j_zret B K (by decide) rfl rfl d_WF_performMacro_10
