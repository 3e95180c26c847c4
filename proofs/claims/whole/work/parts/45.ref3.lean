set_option maxRecDepth 100000 in
set_option maxHeartbeats 4000000 in
theorem c_M_sign {l : Launch} {b : Nat} {D : va_G} {ta : Nat → ClassId} {σ : List va_E} (hl : σ.length = 133) {wt : Int32} {F0 : Nat → Int32} {F1 : Nat → Int32} {F2 : Nat → Int32} {HH : Nat → Int32} {kt : Nat → Int32} {kp : Nat → Int32} {a : Nat} {hi : Nat} {tm : Nat} {sN : Nat} {sx : Nat → Int32} {sy : Nat → Int32} {pt : Nat → Int64} {mn : Nat → Int32} {pl : Nat → Int32} {pN : Nat} {px : Nat → Int32} {py : Nat → Int32} {sn : Nat → Int32} {lt : Nat → Int32} {rc : Nat → Int64} {tx : Nat → Int32} {sz : Nat → Int32} {us : Nat → Int32} {D0 : Nat → Int32} {D1 : Nat → Int32} {D2 : Nat → Int32} {qx : Int32} {qy : Int32} {di : Nat} {up : Bool} {dn : Nat} {be : Bool} {op : Nat} {gs : Nat → Int32} {t0 : Nat → Int32} {fr : Nat → Int32} {lf : Nat → Int32} {pX : Nat → Int32} {pY : Nat → Int32} {pD : Nat → Int32} {pU : Nat → Int32} {X : List va_E} {t N : Nat} (ht : t < 5) (hz : sz t = nI N) (hN : N ≤ 60) {p : Nat} (hp : p < 2 ^ 20) : jC l b D ta False y_M_sign b_M_sign 3 (some .int) (rL 0) [.ref (b + 133), .int (nI t), .int (nI p)] (σ ++ rC b ta wt F0 F1 F2 HH kt kp a hi tm sN sx sy pt mn pl pN px py sn lt rc tx sz us D0 D1 D2 qx qy di up dn be op gs t0 fr lf pX pY pD pU X) (some (.int (sg (fun i => tx (60 * t + i)) N p))) (σ ++ rC b ta wt F0 F1 F2 HH kt kp a hi tm sN sx sy pt mn pl pN px py sn lt rc tx sz us D0 D1 D2 qx qy di up dn be op gs t0 fr lf pX pY pD pU X) := by
  refine jC_of (own := "WireFieldModel") (by decide +kernel) (Nat.le_of_ble_eq_true rfl) rfl (fun Γ B K => ?_)
  change jW l b D Γ False 0 0 3 (σ ++ rC b ta wt F0 F1 F2 HH kt kp a hi tm sN sx sy pt mn pl pN px py sn lt rc tx sz us D0 D1 D2 qx qy di up dn be op gs t0 fr lf pX pY pD pU X) [(0, .ref (b + 133)), (1, .int (nI t)), (2, .int (nI p))] 0 []
  refine j_iload_n B d_M_sign_0 rfl 2 rfl ?_
  refine j_aload_n B d_M_sign_1 rfl 0 rfl ?_
  refine gf_M_62 B (rG (ix := 0) hl rfl) rfl d_M_sign_2 ?_
  refine j_iload_n B d_M_sign_5 rfl 1 rfl ?_
  refine j_ialdN B rfl (rG (ix := 18) hl rfl) (by omega) d_M_sign_6 ?_
  rw [hz]
  refine j_icmp_ge B d_M_sign_7 rfl (fun h7 => ?_) (fun h7 => ?_)
  · -- 7 jump
    have hq : sg (fun i => tx (60 * t + i)) N p = 0 := if_neg (fun q => absurd h7 (nI_ge q (by omega)))
    refine j_iconst (v := 0) B d_M_sign_24 (by decide) ?_
    exact j_iret B K (by rw [hq]) rfl d_M_sign_25
  · -- 7 on
    have hpN : p < N := (Nat.lt_or_ge p N).elim id (fun q => absurd (nI_le q (by omega)) h7)
    have hq : sg (fun i => tx (60 * t + i)) N p = tx (60 * t + p) := if_pos hpN
    refine j_aload_n B d_M_sign_10 rfl 0 rfl ?_
    refine gf_M_59 B (rG (ix := 0) hl rfl) rfl d_M_sign_11 ?_
    refine j_bipush (v := 60) B d_M_sign_14 (by decide) ?_
    refine j_iload_n B d_M_sign_16 rfl 1 rfl ?_
    refine j_imulE (v := nI (60 * t)) B (pk_mul 60 t) d_M_sign_17 ?_
    refine j_iload_n B d_M_sign_18 rfl 2 rfl ?_
    refine j_iaddE (v := nI ((60 * t) + p)) B (nI_add (60 * t) p) d_M_sign_19 ?_
    refine j_ialdN B rfl (rG (ix := 17) hl rfl) (by omega) d_M_sign_20 ?_
    refine j_goto B d_M_sign_21 rfl ?_
    exact j_iret B K (by rw [hq]) rfl d_M_sign_25
set_option maxRecDepth 100000 in
set_option maxHeartbeats 4000000 in
theorem c_M_digit {l : Launch} {b : Nat} {D : va_G} {ta : Nat → ClassId} {σ : List va_E} (c : Int32) : jC l b D ta False y_M_digit b_M_digit 1 (some .boolean) (rL 0) [.int c] (σ) (some (.int (bI (dg c)))) (σ) := by
  refine jC_of (own := "WireFieldModel") (by decide +kernel) (Nat.le_of_ble_eq_true rfl) rfl (fun Γ B K => ?_)
  change jW l b D Γ False 0 0 1 (σ) [(0, .int c)] 0 []
  refine j_iload_n B d_M_digit_0 rfl 0 rfl ?_
  refine j_bipush (v := 47) B d_M_digit_1 (by decide) ?_
  refine j_icmp_le B d_M_digit_3 rfl (fun h3 => ?_) (fun h3 => ?_)
  · -- 3 jump
    refine j_iconst (v := 0) B d_M_digit_16 (by decide) ?_
    exact j_zret B K (by decide) (by first | rw [dgR_t h3 h9] <;> rfl | rw [dgR_f (Or.inl h3)] <;> rfl | rw [dgR_f (Or.inr h9)] <;> rfl) rfl d_M_digit_17
  · -- 3 on
    refine j_iload_n B d_M_digit_6 rfl 0 rfl ?_
    refine j_bipush (v := 58) B d_M_digit_7 (by decide) ?_
    refine j_icmp_ge B d_M_digit_9 rfl (fun h9 => ?_) (fun h9 => ?_)
    · -- 9 jump
      refine j_iconst (v := 0) B d_M_digit_16 (by decide) ?_
      exact j_zret B K (by decide) (by first | rw [dgR_t h3 h9] <;> rfl | rw [dgR_f (Or.inl h3)] <;> rfl | rw [dgR_f (Or.inr h9)] <;> rfl) rfl d_M_digit_17
    · -- 9 on
      refine j_iconst (v := 1) B d_M_digit_12 (by decide) ?_
      refine j_goto B d_M_digit_13 rfl ?_
      exact j_zret B K (by decide) (by first | rw [dgR_t h3 h9] <;> rfl | rw [dgR_f (Or.inl h3)] <;> rfl | rw [dgR_f (Or.inr h9)] <;> rfl) rfl d_M_digit_17
set_option maxRecDepth 100000 in
set_option maxHeartbeats 4000000 in
theorem c_M_single {l : Launch} {b : Nat} {D : va_G} {ta : Nat → ClassId} {σ : List va_E} (c : Int32) : jC l b D ta False y_M_single b_M_single 1 (some .boolean) (rL 0) [.int c] (σ) (some (.int (bI (sing c)))) (σ) := by
  refine jC_of (own := "WireFieldModel") (by decide +kernel) (Nat.le_of_ble_eq_true rfl) rfl (fun Γ B K => ?_)
  change jW l b D Γ False 0 0 1 (σ) [(0, .int c)] 0 []
  refine j_iload_n B d_M_single_0 rfl 0 rfl ?_
  refine j_bipush (v := 70) B d_M_single_1 (by decide) ?_
  refine j_icmp_eq B d_M_single_3 rfl (fun h3 => ?_) (fun h3 => ?_)
  · -- 3 jump
    refine j_iconst (v := 1) B d_M_single_54 (by decide) ?_
    refine j_goto B d_M_single_55 rfl ?_
    exact j_zret B K (by decide) (by simp [bI, sing, h3]) rfl d_M_single_59
  · -- 3 on
    refine j_iload_n B d_M_single_6 rfl 0 rfl ?_
    refine j_bipush (v := 66) B d_M_single_7 (by decide) ?_
    refine j_icmp_eq B d_M_single_9 rfl (fun h9 => ?_) (fun h9 => ?_)
    · -- 9 jump
      refine j_iconst (v := 1) B d_M_single_54 (by decide) ?_
      refine j_goto B d_M_single_55 rfl ?_
      exact j_zret B K (by decide) (by simp [bI, sing, h3, h9]) rfl d_M_single_59
    · -- 9 on
      refine j_iload_n B d_M_single_12 rfl 0 rfl ?_
      refine j_bipush (v := 82) B d_M_single_13 (by decide) ?_
      refine j_icmp_eq B d_M_single_15 rfl (fun h15 => ?_) (fun h15 => ?_)
      · -- 15 jump
        refine j_iconst (v := 1) B d_M_single_54 (by decide) ?_
        refine j_goto B d_M_single_55 rfl ?_
        exact j_zret B K (by decide) (by simp [bI, sing, h3, h9, h15]) rfl d_M_single_59
      · -- 15 on
        refine j_iload_n B d_M_single_18 rfl 0 rfl ?_
        refine j_bipush (v := 76) B d_M_single_19 (by decide) ?_
        refine j_icmp_eq B d_M_single_21 rfl (fun h21 => ?_) (fun h21 => ?_)
        · -- 21 jump
          refine j_iconst (v := 1) B d_M_single_54 (by decide) ?_
          refine j_goto B d_M_single_55 rfl ?_
          exact j_zret B K (by decide) (by simp [bI, sing, h3, h9, h15, h21]) rfl d_M_single_59
        · -- 21 on
          refine j_iload_n B d_M_single_24 rfl 0 rfl ?_
          refine j_bipush (v := 85) B d_M_single_25 (by decide) ?_
          refine j_icmp_eq B d_M_single_27 rfl (fun h27 => ?_) (fun h27 => ?_)
          · -- 27 jump
            refine j_iconst (v := 1) B d_M_single_54 (by decide) ?_
            refine j_goto B d_M_single_55 rfl ?_
            exact j_zret B K (by decide) (by simp [bI, sing, h3, h9, h15, h21, h27]) rfl d_M_single_59
          · -- 27 on
            refine j_iload_n B d_M_single_30 rfl 0 rfl ?_
            refine j_bipush (v := 68) B d_M_single_31 (by decide) ?_
            refine j_icmp_eq B d_M_single_33 rfl (fun h33 => ?_) (fun h33 => ?_)
            · -- 33 jump
              refine j_iconst (v := 1) B d_M_single_54 (by decide) ?_
              refine j_goto B d_M_single_55 rfl ?_
              exact j_zret B K (by decide) (by simp [bI, sing, h3, h9, h15, h21, h27, h33]) rfl d_M_single_59
            · -- 33 on
              refine j_iload_n B d_M_single_36 rfl 0 rfl ?_
              refine j_bipush (v := 69) B d_M_single_37 (by decide) ?_
              refine j_icmp_eq B d_M_single_39 rfl (fun h39 => ?_) (fun h39 => ?_)
              · -- 39 jump
                refine j_iconst (v := 1) B d_M_single_54 (by decide) ?_
                refine j_goto B d_M_single_55 rfl ?_
                exact j_zret B K (by decide) (by simp [bI, sing, h3, h9, h15, h21, h27, h33, h39]) rfl d_M_single_59
              · -- 39 on
                refine j_iload_n B d_M_single_42 rfl 0 rfl ?_
                refine j_bipush (v := 87) B d_M_single_43 (by decide) ?_
                refine j_icmp_eq B d_M_single_45 rfl (fun h45 => ?_) (fun h45 => ?_)
                · -- 45 jump
                  refine j_iconst (v := 1) B d_M_single_54 (by decide) ?_
                  refine j_goto B d_M_single_55 rfl ?_
                  exact j_zret B K (by decide) (by simp [bI, sing, h3, h9, h15, h21, h27, h33, h39, h45]) rfl d_M_single_59
                · -- 45 on
                  refine j_iload_n B d_M_single_48 rfl 0 rfl ?_
                  refine j_bipush (v := 60) B d_M_single_49 (by decide) ?_
                  refine j_icmp_ne B d_M_single_51 rfl (fun h51 => ?_) (fun h51 => ?_)
                  · -- 51 jump
                    refine j_iconst (v := 0) B d_M_single_58 (by decide) ?_
                    exact j_zret B K (by decide) (by simp [bI, sing, h3, h9, h15, h21, h27, h33, h39, h45, h51]) rfl d_M_single_59
                  · -- 51 on
                    refine j_iconst (v := 1) B d_M_single_54 (by decide) ?_
                    refine j_goto B d_M_single_55 rfl ?_
                    exact j_zret B K (by decide) (by simp [bI, sing, h3, h9, h15, h21, h27, h33, h39, h45, h51]) rfl d_M_single_59
set_option maxRecDepth 100000 in
set_option maxHeartbeats 4000000 in
theorem c_M_across {l : Launch} {b : Nat} {D : va_G} {ta : Nat → ClassId} {σ : List va_E} (z : Int32) : jC l b D ta False y_M_across b_M_across 1 (some .int) (rL 0) [.int z] (σ) (some (.int (acR z))) (σ) := by
  refine jC_of (own := "WireFieldModel") (by decide +kernel) (Nat.le_of_ble_eq_true rfl) rfl (fun Γ B K => ?_)
  change jW l b D Γ False 0 0 1 (σ) [(0, .int z)] 0 []
  refine j_iload_n B d_M_across_0 rfl 0 rfl ?_
  refine j_iconst (v := 1) B d_M_across_1 (by decide) ?_
  refine j_icmp_ne B d_M_across_2 rfl (fun h2 => ?_) (fun h2 => ?_)
  · -- 2 jump
    refine j_iload_n B d_M_across_9 rfl 0 rfl ?_
    refine j_iconst (v := 3) B d_M_across_10 (by decide) ?_
    refine j_icmp_ne B d_M_across_11 rfl (fun h11 => ?_) (fun h11 => ?_)
    · -- 11 jump
      refine j_iconst (v := 0) B d_M_across_18 (by decide) ?_
      exact j_iret B K (by simp [acR, h2, h11]) rfl d_M_across_19
    · -- 11 on
      refine j_iconst (v := (-1)) B d_M_across_14 (by decide) ?_
      refine j_goto B d_M_across_15 rfl ?_
      exact j_iret B K (by simp [acR, h2, h11]) rfl d_M_across_19
  · -- 2 on
    refine j_iconst (v := 1) B d_M_across_5 (by decide) ?_
    refine j_goto B d_M_across_6 rfl ?_
    exact j_iret B K (by simp [acR, h2]) rfl d_M_across_19
set_option maxRecDepth 100000 in
set_option maxHeartbeats 4000000 in
theorem c_M_down {l : Launch} {b : Nat} {D : va_G} {ta : Nat → ClassId} {σ : List va_E} (z : Int32) : jC l b D ta False y_M_down b_M_down 1 (some .int) (rL 0) [.int z] (σ) (some (.int (dwR z))) (σ) := by
  refine jC_of (own := "WireFieldModel") (by decide +kernel) (Nat.le_of_ble_eq_true rfl) rfl (fun Γ B K => ?_)
  change jW l b D Γ False 0 0 1 (σ) [(0, .int z)] 0 []
  refine j_iload_n B d_M_down_0 rfl 0 rfl ?_
  refine j_iconst (v := 2) B d_M_down_1 (by decide) ?_
  refine j_icmp_ne B d_M_down_2 rfl (fun h2 => ?_) (fun h2 => ?_)
  · -- 2 jump
    refine j_iload_n B d_M_down_9 rfl 0 rfl ?_
    refine j_if_ne B d_M_down_10 rfl (fun h10 => ?_) (fun h10 => ?_)
    · -- 10 jump
      refine j_iconst (v := 0) B d_M_down_17 (by decide) ?_
      exact j_iret B K (by simp [dwR, h2, h10]) rfl d_M_down_18
    · -- 10 on
      refine j_iconst (v := (-1)) B d_M_down_13 (by decide) ?_
      refine j_goto B d_M_down_14 rfl ?_
      exact j_iret B K (by simp [dwR, h2, h10]) rfl d_M_down_18
  · -- 2 on
    refine j_iconst (v := 1) B d_M_down_5 (by decide) ?_
    refine j_goto B d_M_down_6 rfl ?_
    exact j_iret B K (by simp [dwR, h2]) rfl d_M_down_18

theorem c_M_acrossD {l : Launch} {b : Nat} {D : va_G} {ta : Nat → ClassId} {σ : List va_E} {d : Nat} (hd : d < 4) : jC l b D ta False y_M_across b_M_across 1 (some .int) (rL 0) [.int (nI d)] σ (some (.int (jcs d))) σ := by rw [← acR_j hd]; exact c_M_across _
theorem c_M_downD {l : Launch} {b : Nat} {D : va_G} {ta : Nat → ClassId} {σ : List va_E} {d : Nat} (hd : d < 4) : jC l b D ta False y_M_down b_M_down 1 (some .int) (rL 0) [.int (nI d)] σ (some (.int (jrs d))) σ := by rw [← dwR_j hd]; exact c_M_down _
set_option maxRecDepth 100000 in
set_option maxHeartbeats 4000000 in
theorem c_M_complete {l : Launch} {b : Nat} {D : va_G} {ta : Nat → ClassId} {σ : List va_E} (hl : σ.length = 133) {wt : Int32} {F0 : Nat → Int32} {F1 : Nat → Int32} {F2 : Nat → Int32} {HH : Nat → Int32} {kt : Nat → Int32} {kp : Nat → Int32} {a : Nat} {hi : Nat} {tm : Nat} {sN : Nat} {sx : Nat → Int32} {sy : Nat → Int32} {pt : Nat → Int64} {mn : Nat → Int32} {pl : Nat → Int32} {pN : Nat} {px : Nat → Int32} {py : Nat → Int32} {sn : Nat → Int32} {lt : Nat → Int32} {rc : Nat → Int64} {tx : Nat → Int32} {sz : Nat → Int32} {us : Nat → Int32} {D0 : Nat → Int32} {D1 : Nat → Int32} {D2 : Nat → Int32} {qx : Int32} {qy : Int32} {di : Nat} {up : Bool} {dn : Nat} {be : Bool} {op : Nat} {gs : Nat → Int32} {t0 : Nat → Int32} {fr : Nat → Int32} {lf : Nat → Int32} {pX : Nat → Int32} {pY : Nat → Int32} {pD : Nat → Int32} {pU : Nat → Int32} {X : List va_E} : jC l b D ta False y_M_complete b_M_complete 3 (some .boolean) (rL 1) [.ref (b + 133)] (σ ++ rC b ta wt F0 F1 F2 HH kt kp a hi tm sN sx sy pt mn pl pN px py sn lt rc tx sz us D0 D1 D2 qx qy di up dn be op gs t0 fr lf pX pY pD pU X) (some (.int (bI (mcR sz us 4 (us 4))))) (σ ++ rC b ta wt F0 F1 F2 HH kt kp a hi tm sN sx sy pt mn pl pN px py sn lt rc tx sz us D0 D1 D2 qx qy di up dn be op gs t0 fr lf pX pY pD pU X) := by
  refine jC_of (own := "WireFieldModel") (by decide +kernel) (Nat.le_of_ble_eq_true rfl) rfl (fun Γ B K => ?_)
  change jW l b D Γ False 0 0 3 (σ ++ rC b ta wt F0 F1 F2 HH kt kp a hi tm sN sx sy pt mn pl pN px py sn lt rc tx sz us D0 D1 D2 qx qy di up dn be op gs t0 fr lf pX pY pD pU X) [(0, .ref (b + 133))] 0 []
  refine j_aload_n B d_M_complete_0 rfl 0 rfl ?_
  refine gf_M_65 B (rG (ix := 0) hl rfl) rfl d_M_complete_1 ?_
  refine j_iconst (v := nI 4) B d_M_complete_4 (by decide) ?_
  refine j_ialdN B rfl (rG (ix := 19) hl rfl) (by omega) d_M_complete_5 ?_
  refine j_istore_n (L' := [(0, .ref (b + 133)), (1, .int (us 4))]) B d_M_complete_6 rfl (by decide) [1, 0] rfl ?_
  refine j_iconst (v := 3) B d_M_complete_7 (by decide) ?_
  refine j_istore_n (L' := [(0, .ref (b + 133)), (1, .int (us 4)), (2, .int 3)]) B d_M_complete_8 rfl (by decide) [1, 2, 0] rfl ?_
  have lp9 : ∀ (n9 : Nat) (k : Nat) (nd : Int32), k = n9 → (k ≤ 4) → (mcR sz us k nd = mcR sz us 4 (us 4)) → jW l b D Γ False 0 0 3 (σ ++ rC b ta wt F0 F1 F2 HH kt kp a hi tm sN sx sy pt mn pl pN px py sn lt rc tx sz us D0 D1 D2 qx qy di up dn be op gs t0 fr lf pX pY pD pU X) [(0, .ref (b + 133)), (1, .int nd), (2, .int (rI (prv k)))] 9 [] := by
    refine jloop (fun n9 ih9 => ?_)
    intro k nd hn9 hk hI
    refine j_iload_n B d_M_complete_9 rfl 2 rfl ?_
    refine j_if_lt B d_M_complete_10 rfl (fun h10 => ?_) (fun h10 => ?_)
    · -- 10 jump
      have hk0 := prv_0 hk h10
      subst hk0
      refine j_iconst (v := 1) B d_M_complete_48 (by decide) ?_
      exact j_zret B K (by decide) (by rw [← hI]; rfl) rfl d_M_complete_49
    · -- 10 on
      obtain ⟨j, hkj⟩ := prv_s h10
      subst hkj
      have hj : j < 4 := by omega
      change jW l b D Γ False 0 0 3 (σ ++ rC b ta wt F0 F1 F2 HH kt kp a hi tm sN sx sy pt mn pl pN px py sn lt rc tx sz us D0 D1 D2 qx qy di up dn be op gs t0 fr lf pX pY pD pU X) [(0, .ref (b + 133)), (1, .int nd), (2, .int (nI j))] 13 []
      rw [mcR] at hI
      refine j_iload_n B d_M_complete_13 rfl 1 rfl ?_
      refine j_iload_n B d_M_complete_14 rfl 2 rfl ?_
      refine k_callS (as := [.int nd, .int (nI j)]) (rest := []) (st1 := [.int (btR nd (nI j))]) B (c_M_bit nd (nI j)) yf_M_bit w_853 w_854 rfl (by decide) (by decide) rfl rfl (Nat.le_of_ble_eq_true rfl) d_M_complete_15 ?_
      refine j_iconst (v := 1) B d_M_complete_18 (by decide) ?_
      refine j_icmp_ne B d_M_complete_19 rfl (fun h19 => ?_) (fun h19 => ?_)
      · -- 19 jump
        rw [if_neg h19] at hI
        refine j_iinc (L' := [(0, .ref (b + 133)), (1, .int nd), (2, .int (rI (prv j)))]) (v := rI (prv j)) B d_M_complete_42 (k := 2) rfl (prv_d j) (by decide) [1, 2, 0] rfl ?_
        refine j_goto B d_M_complete_45 rfl ?_
        exact ih9 _ (by omega) j nd rfl (by omega) hI
      · -- 19 on
        rw [if_pos h19] at hI
        refine j_aload_n B d_M_complete_22 rfl 0 rfl ?_
        refine gf_M_62 B (rG (ix := 0) hl rfl) rfl d_M_complete_23 ?_
        refine j_iload_n B d_M_complete_26 rfl 2 rfl ?_
        refine j_ialdN B rfl (rG (ix := 18) hl rfl) (by omega) d_M_complete_27 ?_
        refine j_if_ge B d_M_complete_28 rfl (fun h28 => ?_) (fun h28 => ?_)
        · -- 28 jump
          rw [if_pos h28] at hI
          refine j_iload_n B d_M_complete_33 rfl 1 rfl ?_
          refine j_aload_n B d_M_complete_34 rfl 0 rfl ?_
          refine gf_M_65 B (rG (ix := 0) hl rfl) rfl d_M_complete_35 ?_
          refine j_iload_n B d_M_complete_38 rfl 2 rfl ?_
          refine j_ialdN B rfl (rG (ix := 19) hl rfl) (by omega) d_M_complete_39 ?_
          refine j_ior B d_M_complete_40 ?_
          refine j_istore_n (L' := [(0, .ref (b + 133)), (1, .int (nd ||| (us j))), (2, .int (nI j))]) B d_M_complete_41 rfl (by decide) [1, 0, 2] rfl ?_
          refine j_iinc (L' := [(0, .ref (b + 133)), (1, .int (nd ||| (us j))), (2, .int (rI (prv j)))]) (v := rI (prv j)) B d_M_complete_42 (k := 2) rfl (prv_d j) (by decide) [1, 2, 0] rfl ?_
          refine j_goto B d_M_complete_45 rfl ?_
          exact ih9 _ (by omega) j (nd ||| (us j)) rfl (by omega) hI
        · -- 28 on
          rw [if_neg h28] at hI
          refine j_iconst (v := 0) B d_M_complete_31 (by decide) ?_
          exact j_zret B K (by decide) (by rw [← hI]; rfl) rfl d_M_complete_32
  exact lp9 _ 4 (us 4) rfl (by omega) rfl
set_option maxRecDepth 100000 in
set_option maxHeartbeats 4000000 in
theorem c_M_countOne_t {l : Launch} {b : Nat} {D : va_G} {ta : Nat → ClassId} {σ : List va_E} (hl : σ.length = 133) {wt : Int32} {F0 : Nat → Int32} {F1 : Nat → Int32} {F2 : Nat → Int32} {HH : Nat → Int32} {kt : Nat → Int32} {kp : Nat → Int32} {a : Nat} {hi : Nat} {tm : Nat} {sN : Nat} {sx : Nat → Int32} {sy : Nat → Int32} {pt : Nat → Int64} {mn : Nat → Int32} {pl : Nat → Int32} {pN : Nat} {px : Nat → Int32} {py : Nat → Int32} {sn : Nat → Int32} {lt : Nat → Int32} {rc : Nat → Int64} {tx : Nat → Int32} {sz : Nat → Int32} {us : Nat → Int32} {D0 : Nat → Int32} {D1 : Nat → Int32} {D2 : Nat → Int32} {qx : Int32} {qy : Int32} {di : Nat} {up : Bool} {dn : Nat} {op : Nat} {gs : Nat → Int32} {t0 : Nat → Int32} {fr : Nat → Int32} {lf : Nat → Int32} {pX : Nat → Int32} {pY : Nat → Int32} {pD : Nat → Int32} {pU : Nat → Int32} {X : List va_E} (hdn : dn < 400) : jC l b D ta False y_M_countOne b_M_countOne 1 none (rL 0) [.ref (b + 133)] (σ ++ rC b ta wt F0 F1 F2 HH kt kp a hi tm sN sx sy pt mn pl pN px py sn lt rc tx sz us D0 D1 D2 qx qy di up dn false op gs t0 fr lf pX pY pD pU X) none (σ ++ rC b ta wt F0 F1 F2 HH kt kp a hi tm sN sx sy pt mn pl pN px py sn lt rc tx sz us D0 D1 D2 qx qy di up (dn + 1) false op gs t0 fr lf pX pY pD pU X) := by
  refine jC_of (own := "WireFieldModel") (by decide +kernel) (Nat.le_of_ble_eq_true rfl) rfl (fun Γ B K => ?_)
  change jW l b D Γ False 0 0 1 (σ ++ rC b ta wt F0 F1 F2 HH kt kp a hi tm sN sx sy pt mn pl pN px py sn lt rc tx sz us D0 D1 D2 qx qy di up dn false op gs t0 fr lf pX pY pD pU X) [(0, .ref (b + 133))] 0 []
  refine j_aload_n B d_M_countOne_0 rfl 0 rfl ?_
  refine j_dup B d_M_countOne_1 rfl ?_
  refine gf_M_156 B (rG (ix := 0) hl rfl) rfl d_M_countOne_2 ?_
  refine j_iconst (v := 1) B d_M_countOne_5 (by decide) ?_
  refine j_iaddE (v := nI (dn + 1)) B (nI_add dn 1) d_M_countOne_6 ?_
  refine pf_M_156 B not_false (rG (ix := 0) hl rfl) rfl rfl (Nat.le_of_ble_eq_true rfl) d_M_countOne_7 ?_
  refine jW.heap (σ2 := σ ++ rC b ta wt F0 F1 F2 HH kt kp a hi tm sN sx sy pt mn pl pN px py sn lt rc tx sz us D0 D1 D2 qx qy di up (dn + 1) false op gs t0 fr lf pX pY pD pU X) (rT (ix := 0) hl rfl) ?_
  refine j_aload_n B d_M_countOne_10 rfl 0 rfl ?_
  refine j_aload_n B d_M_countOne_11 rfl 0 rfl ?_
  refine gf_M_159 B (rG (ix := 0) hl rfl) rfl d_M_countOne_12 ?_
  refine j_if_ne B d_M_countOne_15 rfl (fun h15 => absurd rfl h15) (fun h15 => ?_)
  refine j_aload_n B d_M_countOne_18 rfl 0 rfl ?_
  refine gf_M_156 B (rG (ix := 0) hl rfl) rfl d_M_countOne_19 ?_
  refine j_sipush (v := 400) B d_M_countOne_22 (by decide) ?_
  refine j_icmp_le B d_M_countOne_25 rfl (fun h25 => ?_) (fun h25 => absurd (nI_le (a := dn + 1) (b := 400) (by omega) (by decide)) h25)
  refine j_iconst (v := 0) B d_M_countOne_32 (by decide) ?_
  refine pf_M_159 B not_false (rG (ix := 0) hl rfl) (by first | exact bI_nar _ | exact bI_fit _ | decide) (by first | exact bI_nar _ | exact bI_fit _ | decide) (Nat.le_of_ble_eq_true rfl) d_M_countOne_33 ?_
  refine jW.heap (σ2 := σ ++ rC b ta wt F0 F1 F2 HH kt kp a hi tm sN sx sy pt mn pl pN px py sn lt rc tx sz us D0 D1 D2 qx qy di up (dn + 1) false op gs t0 fr lf pX pY pD pU X) (rT (ix := 0) hl rfl) ?_
  exact j_vret B K rfl d_M_countOne_36
set_option maxRecDepth 100000 in
set_option maxHeartbeats 4000000 in
theorem c_M_countOne_f {l : Launch} {b : Nat} {D : va_G} {ta : Nat → ClassId} {σ : List va_E} (hl : σ.length = 133) {wt : Int32} {F0 : Nat → Int32} {F1 : Nat → Int32} {F2 : Nat → Int32} {HH : Nat → Int32} {kt : Nat → Int32} {kp : Nat → Int32} {a : Nat} {hi : Nat} {tm : Nat} {sN : Nat} {sx : Nat → Int32} {sy : Nat → Int32} {pt : Nat → Int64} {mn : Nat → Int32} {pl : Nat → Int32} {pN : Nat} {px : Nat → Int32} {py : Nat → Int32} {sn : Nat → Int32} {lt : Nat → Int32} {rc : Nat → Int64} {tx : Nat → Int32} {sz : Nat → Int32} {us : Nat → Int32} {D0 : Nat → Int32} {D1 : Nat → Int32} {D2 : Nat → Int32} {qx : Int32} {qy : Int32} {di : Nat} {up : Bool} {dn : Nat} {op : Nat} {gs : Nat → Int32} {t0 : Nat → Int32} {fr : Nat → Int32} {lf : Nat → Int32} {pX : Nat → Int32} {pY : Nat → Int32} {pD : Nat → Int32} {pU : Nat → Int32} {X : List va_E} (hdn : 400 ≤ dn) (hd2 : dn < 2 ^ 20) : jC l b D ta False y_M_countOne b_M_countOne 1 none (rL 0) [.ref (b + 133)] (σ ++ rC b ta wt F0 F1 F2 HH kt kp a hi tm sN sx sy pt mn pl pN px py sn lt rc tx sz us D0 D1 D2 qx qy di up dn false op gs t0 fr lf pX pY pD pU X) none (σ ++ rC b ta wt F0 F1 F2 HH kt kp a hi tm sN sx sy pt mn pl pN px py sn lt rc tx sz us D0 D1 D2 qx qy di up (dn + 1) true op gs t0 fr lf pX pY pD pU X) := by
  refine jC_of (own := "WireFieldModel") (by decide +kernel) (Nat.le_of_ble_eq_true rfl) rfl (fun Γ B K => ?_)
  change jW l b D Γ False 0 0 1 (σ ++ rC b ta wt F0 F1 F2 HH kt kp a hi tm sN sx sy pt mn pl pN px py sn lt rc tx sz us D0 D1 D2 qx qy di up dn false op gs t0 fr lf pX pY pD pU X) [(0, .ref (b + 133))] 0 []
  refine j_aload_n B d_M_countOne_0 rfl 0 rfl ?_
  refine j_dup B d_M_countOne_1 rfl ?_
  refine gf_M_156 B (rG (ix := 0) hl rfl) rfl d_M_countOne_2 ?_
  refine j_iconst (v := 1) B d_M_countOne_5 (by decide) ?_
  refine j_iaddE (v := nI (dn + 1)) B (nI_add dn 1) d_M_countOne_6 ?_
  refine pf_M_156 B not_false (rG (ix := 0) hl rfl) rfl rfl (Nat.le_of_ble_eq_true rfl) d_M_countOne_7 ?_
  refine jW.heap (σ2 := σ ++ rC b ta wt F0 F1 F2 HH kt kp a hi tm sN sx sy pt mn pl pN px py sn lt rc tx sz us D0 D1 D2 qx qy di up (dn + 1) false op gs t0 fr lf pX pY pD pU X) (rT (ix := 0) hl rfl) ?_
  refine j_aload_n B d_M_countOne_10 rfl 0 rfl ?_
  refine j_aload_n B d_M_countOne_11 rfl 0 rfl ?_
  refine gf_M_159 B (rG (ix := 0) hl rfl) rfl d_M_countOne_12 ?_
  refine j_if_ne B d_M_countOne_15 rfl (fun h15 => absurd rfl h15) (fun h15 => ?_)
  refine j_aload_n B d_M_countOne_18 rfl 0 rfl ?_
  refine gf_M_156 B (rG (ix := 0) hl rfl) rfl d_M_countOne_19 ?_
  refine j_sipush (v := 400) B d_M_countOne_22 (by decide) ?_
  refine j_icmp_le B d_M_countOne_25 rfl (fun h25 => absurd h25 (nI_ge (a := 400) (b := dn + 1) (by omega) (by omega))) (fun h25 => ?_)
  refine j_iconst (v := 1) B d_M_countOne_28 (by decide) ?_
  refine j_goto B d_M_countOne_29 rfl ?_
  refine pf_M_159 B not_false (rG (ix := 0) hl rfl) (by first | exact bI_nar _ | exact bI_fit _ | decide) (by first | exact bI_nar _ | exact bI_fit _ | decide) (Nat.le_of_ble_eq_true rfl) d_M_countOne_33 ?_
  refine jW.heap (σ2 := σ ++ rC b ta wt F0 F1 F2 HH kt kp a hi tm sN sx sy pt mn pl pN px py sn lt rc tx sz us D0 D1 D2 qx qy di up (dn + 1) true op gs t0 fr lf pX pY pD pU X) (rT (ix := 0) hl rfl) ?_
  exact j_vret B K rfl d_M_countOne_36
set_option maxRecDepth 100000 in
set_option maxHeartbeats 4000000 in
theorem c_M_put {l : Launch} {b : Nat} {D : va_G} {ta : Nat → ClassId} {σ : List va_E} (hl : σ.length = 133) {wt : Int32} {F0 : Nat → Int32} {F1 : Nat → Int32} {F2 : Nat → Int32} {HH : Nat → Int32} {kt : Nat → Int32} {kp : Nat → Int32} {a : Nat} {hi : Nat} {tm : Nat} {sN : Nat} {sx : Nat → Int32} {sy : Nat → Int32} {pt : Nat → Int64} {mn : Nat → Int32} {pl : Nat → Int32} {pN : Nat} {px : Nat → Int32} {py : Nat → Int32} {sn : Nat → Int32} {lt : Nat → Int32} {rc : Nat → Int64} {tx : Nat → Int32} {sz : Nat → Int32} {us : Nat → Int32} {D0 : Nat → Int32} {D1 : Nat → Int32} {D2 : Nat → Int32} {qx : Int32} {qy : Int32} {di : Nat} {up : Bool} {dn : Nat} {be : Bool} {op : Nat} {gs : Nat → Int32} {t0 : Nat → Int32} {fr : Nat → Int32} {lf : Nat → Int32} {pX : Nat → Int32} {pY : Nat → Int32} {pD : Nat → Int32} {pU : Nat → Int32} {X : List va_E} (x y v : Int32) : jC l b D ta False y_M_put b_M_put 5 none (rL 1) [.ref (b + 133), .int x, .int y, .int v] (σ ++ rC b ta wt F0 F1 F2 HH kt kp a hi tm sN sx sy pt mn pl pN px py sn lt rc tx sz us D0 D1 D2 qx qy di up dn be op gs t0 fr lf pX pY pD pU X) none (σ ++ rC b ta wt F0 F1 F2 HH kt kp a hi tm sN sx sy pt mn pl pN px py sn lt rc tx sz us (pDr be D0 x y v 1) (pDr be D1 x y v 2) (pDr be D2 x y v 3) qx qy di up dn (pE be x y) op gs t0 fr lf pX pY pD pU X) := by
  refine jC_of (own := "WireFieldModel") (by decide +kernel) (Nat.le_of_ble_eq_true rfl) rfl (fun Γ B K => ?_)
  change jW l b D Γ False 0 0 5 (σ ++ rC b ta wt F0 F1 F2 HH kt kp a hi tm sN sx sy pt mn pl pN px py sn lt rc tx sz us D0 D1 D2 qx qy di up dn be op gs t0 fr lf pX pY pD pU X) [(0, .ref (b + 133)), (1, .int x), (2, .int y), (3, .int v)] 0 []
  refine j_aload_n B d_M_put_0 rfl 0 rfl ?_
  refine j_aload_n B d_M_put_1 rfl 0 rfl ?_
  refine gf_M_159 B (rG (ix := 0) hl rfl) rfl d_M_put_2 ?_
  refine j_if_ne B d_M_put_5 rfl (fun h5 => ?_) (fun h5 => ?_)
  · -- 5 jump
    replace h5 := bI_t h5
    subst h5
    refine j_iconst (v := 1) B d_M_put_16 (by decide) ?_
    refine j_goto B d_M_put_17 rfl ?_
    refine pf_M_159 B not_false (rG (ix := 0) hl rfl) (by first | exact bI_nar _ | exact bI_fit _ | decide) (by first | exact bI_nar _ | exact bI_fit _ | decide) (Nat.le_of_ble_eq_true rfl) d_M_put_21 ?_
    refine jW.heap (σ2 := σ ++ rC b ta wt F0 F1 F2 HH kt kp a hi tm sN sx sy pt mn pl pN px py sn lt rc tx sz us D0 D1 D2 qx qy di up dn true op gs t0 fr lf pX pY pD pU X) (rT (ix := 0) hl rfl) ?_
    refine j_aload_n B d_M_put_24 rfl 0 rfl ?_
    refine gf_M_159 B (rG (ix := 0) hl rfl) rfl d_M_put_25 ?_
    refine j_if_eq B d_M_put_28 rfl (fun h28 => absurd h28 (by decide)) (fun h28 => ?_)
    exact j_vret B K rfl d_M_put_31
  · -- 5 on
    replace h5 := bI_f h5
    subst h5
    refine j_iload_n B d_M_put_8 rfl 1 rfl ?_
    refine j_iload_n B d_M_put_9 rfl 2 rfl ?_
    refine k_callS (as := [.int x, .int y]) (rest := [.ref (b + 133)]) (st1 := [.int (bI (inF x y)), .ref (b + 133)]) B (c_M_is x y) yf_M_is w_899 w_900 rfl (by decide) (by decide) rfl rfl (Nat.le_of_ble_eq_true rfl) d_M_put_10 ?_
    refine j_if_ne B d_M_put_13 rfl (fun h13 => ?_) (fun h13 => ?_)
    · -- 13 jump
      replace h13 := bI_t h13
      refine j_iconst (v := 0) B d_M_put_20 (by decide) ?_
      refine pf_M_159 B not_false (rG (ix := 0) hl rfl) (by first | exact bI_nar _ | exact bI_fit _ | decide) (by first | exact bI_nar _ | exact bI_fit _ | decide) (Nat.le_of_ble_eq_true rfl) d_M_put_21 ?_
      refine jW.heap (σ2 := σ ++ rC b ta wt F0 F1 F2 HH kt kp a hi tm sN sx sy pt mn pl pN px py sn lt rc tx sz us D0 D1 D2 qx qy di up dn false op gs t0 fr lf pX pY pD pU X) (rT (ix := 0) hl rfl) ?_
      refine j_aload_n B d_M_put_24 rfl 0 rfl ?_
      refine gf_M_159 B (rG (ix := 0) hl rfl) rfl d_M_put_25 ?_
      refine j_if_eq B d_M_put_28 rfl (fun h28 => ?_) (fun h28 => absurd rfl h28)
      refine j_iconst (v := 1) B d_M_put_32 (by decide) ?_
      refine j_iload_n B d_M_put_33 rfl 1 rfl ?_
      refine j_ishl B d_M_put_34 ?_
      refine j_istore (L' := [(0, .ref (b + 133)), (1, .int x), (2, .int y), (3, .int v), (4, .int (1 <<< (x &&& 31)))]) B d_M_put_35 (by decide) [1, 2, 3, 4, 0] rfl ?_
      refine j_aload_n B d_M_put_37 rfl 0 rfl ?_
      refine gf_M_68 B (rG (ix := 0) hl rfl) rfl d_M_put_38 ?_
      refine j_iload_n B d_M_put_41 rfl 2 rfl ?_
      refine j_iload_n B d_M_put_42 rfl 3 rfl ?_
      refine j_iconst (v := 1) B d_M_put_43 (by decide) ?_
      have j70 : ∀ x1 : Int32, x1 = (if v = 1 then (D0 y.toNatClampNeg) ||| (1 <<< (x &&& 31)) else (D0 y.toNatClampNeg) &&& ((1 <<< (x &&& 31)) ^^^ (-1))) → jW l b D Γ False 0 0 5 (σ ++ rC b ta wt F0 F1 F2 HH kt kp a hi tm sN sx sy pt mn pl pN px py sn lt rc tx sz us D0 D1 D2 qx qy di up dn false op gs t0 fr lf pX pY pD pU X) [(0, .ref (b + 133)), (1, .int x), (2, .int y), (3, .int v), (4, .int (1 <<< (x &&& 31)))] 70 [.int x1, .int y, .ref (b + 153)] := by
        intro x1 e_x1
        refine j_iast B not_false rfl (rG (ix := 20) hl rfl) (inF_in h13) d_M_put_70 ?_
        refine jW.heap (σ2 := σ ++ rC b ta wt F0 F1 F2 HH kt kp a hi tm sN sx sy pt mn pl pN px py sn lt rc tx sz us (upd D0 y.toNatClampNeg x1) D1 D2 qx qy di up dn false op gs t0 fr lf pX pY pD pU X) (rT (ix := 20) hl rfl) ?_
        refine j_aload_n B d_M_put_71 rfl 0 rfl ?_
        refine gf_M_71 B (rG (ix := 0) hl rfl) rfl d_M_put_72 ?_
        refine j_iload_n B d_M_put_75 rfl 2 rfl ?_
        refine j_iload_n B d_M_put_76 rfl 3 rfl ?_
        refine j_iconst (v := 2) B d_M_put_77 (by decide) ?_
        have j104 : ∀ x2 : Int32, x2 = (if v = 2 then (D1 y.toNatClampNeg) ||| (1 <<< (x &&& 31)) else (D1 y.toNatClampNeg) &&& ((1 <<< (x &&& 31)) ^^^ (-1))) → jW l b D Γ False 0 0 5 (σ ++ rC b ta wt F0 F1 F2 HH kt kp a hi tm sN sx sy pt mn pl pN px py sn lt rc tx sz us (upd D0 y.toNatClampNeg x1) D1 D2 qx qy di up dn false op gs t0 fr lf pX pY pD pU X) [(0, .ref (b + 133)), (1, .int x), (2, .int y), (3, .int v), (4, .int (1 <<< (x &&& 31)))] 104 [.int x2, .int y, .ref (b + 154)] := by
          intro x2 e_x2
          refine j_iast B not_false rfl (rG (ix := 21) hl rfl) (inF_in h13) d_M_put_104 ?_
          refine jW.heap (σ2 := σ ++ rC b ta wt F0 F1 F2 HH kt kp a hi tm sN sx sy pt mn pl pN px py sn lt rc tx sz us (upd D0 y.toNatClampNeg x1) (upd D1 y.toNatClampNeg x2) D2 qx qy di up dn false op gs t0 fr lf pX pY pD pU X) (rT (ix := 21) hl rfl) ?_
          refine j_aload_n B d_M_put_105 rfl 0 rfl ?_
          refine gf_M_74 B (rG (ix := 0) hl rfl) rfl d_M_put_106 ?_
          refine j_iload_n B d_M_put_109 rfl 2 rfl ?_
          refine j_iload_n B d_M_put_110 rfl 3 rfl ?_
          refine j_iconst (v := 3) B d_M_put_111 (by decide) ?_
          have j138 : ∀ x3 : Int32, x3 = (if v = 3 then (D2 y.toNatClampNeg) ||| (1 <<< (x &&& 31)) else (D2 y.toNatClampNeg) &&& ((1 <<< (x &&& 31)) ^^^ (-1))) → jW l b D Γ False 0 0 5 (σ ++ rC b ta wt F0 F1 F2 HH kt kp a hi tm sN sx sy pt mn pl pN px py sn lt rc tx sz us (upd D0 y.toNatClampNeg x1) (upd D1 y.toNatClampNeg x2) D2 qx qy di up dn false op gs t0 fr lf pX pY pD pU X) [(0, .ref (b + 133)), (1, .int x), (2, .int y), (3, .int v), (4, .int (1 <<< (x &&& 31)))] 138 [.int x3, .int y, .ref (b + 155)] := by
            intro x3 e_x3
            refine j_iast B not_false rfl (rG (ix := 22) hl rfl) (inF_in h13) d_M_put_138 ?_
            refine jW.heap (σ2 := σ ++ rC b ta wt F0 F1 F2 HH kt kp a hi tm sN sx sy pt mn pl pN px py sn lt rc tx sz us (upd D0 y.toNatClampNeg x1) (upd D1 y.toNatClampNeg x2) (upd D2 y.toNatClampNeg x3) qx qy di up dn false op gs t0 fr lf pX pY pD pU X) (rT (ix := 22) hl rfl) ?_
            exact j_vret B K (by subst e_x1 e_x2 e_x3; simp [pE, pDr, pB, h13]) d_M_put_139
          refine j_icmp_ne B d_M_put_112 rfl (fun h112 => ?_) (fun h112 => ?_)
          · -- 112 jump
            refine j_aload_n B d_M_put_127 rfl 0 rfl ?_
            refine gf_M_74 B (rG (ix := 0) hl rfl) rfl d_M_put_128 ?_
            refine j_iload_n B d_M_put_131 rfl 2 rfl ?_
            refine j_iald B rfl (rG (ix := 22) hl rfl) (inF_in h13) d_M_put_132 ?_
            refine j_iload B d_M_put_133 4 rfl ?_
            refine j_iconst (v := (-1)) B d_M_put_135 (by decide) ?_
            refine j_ixor B d_M_put_136 ?_
            refine j_iand B d_M_put_137 ?_
            exact j138 _ (by rw [if_neg h112])
          · -- 112 on
            refine j_aload_n B d_M_put_115 rfl 0 rfl ?_
            refine gf_M_74 B (rG (ix := 0) hl rfl) rfl d_M_put_116 ?_
            refine j_iload_n B d_M_put_119 rfl 2 rfl ?_
            refine j_iald B rfl (rG (ix := 22) hl rfl) (inF_in h13) d_M_put_120 ?_
            refine j_iload B d_M_put_121 4 rfl ?_
            refine j_ior B d_M_put_123 ?_
            refine j_goto B d_M_put_124 rfl ?_
            exact j138 _ (by rw [if_pos h112])
        refine j_icmp_ne B d_M_put_78 rfl (fun h78 => ?_) (fun h78 => ?_)
        · -- 78 jump
          refine j_aload_n B d_M_put_93 rfl 0 rfl ?_
          refine gf_M_71 B (rG (ix := 0) hl rfl) rfl d_M_put_94 ?_
          refine j_iload_n B d_M_put_97 rfl 2 rfl ?_
          refine j_iald B rfl (rG (ix := 21) hl rfl) (inF_in h13) d_M_put_98 ?_
          refine j_iload B d_M_put_99 4 rfl ?_
          refine j_iconst (v := (-1)) B d_M_put_101 (by decide) ?_
          refine j_ixor B d_M_put_102 ?_
          refine j_iand B d_M_put_103 ?_
          exact j104 _ (by rw [if_neg h78])
        · -- 78 on
          refine j_aload_n B d_M_put_81 rfl 0 rfl ?_
          refine gf_M_71 B (rG (ix := 0) hl rfl) rfl d_M_put_82 ?_
          refine j_iload_n B d_M_put_85 rfl 2 rfl ?_
          refine j_iald B rfl (rG (ix := 21) hl rfl) (inF_in h13) d_M_put_86 ?_
          refine j_iload B d_M_put_87 4 rfl ?_
          refine j_ior B d_M_put_89 ?_
          refine j_goto B d_M_put_90 rfl ?_
          exact j104 _ (by rw [if_pos h78])
      refine j_icmp_ne B d_M_put_44 rfl (fun h44 => ?_) (fun h44 => ?_)
      · -- 44 jump
        refine j_aload_n B d_M_put_59 rfl 0 rfl ?_
        refine gf_M_68 B (rG (ix := 0) hl rfl) rfl d_M_put_60 ?_
        refine j_iload_n B d_M_put_63 rfl 2 rfl ?_
        refine j_iald B rfl (rG (ix := 20) hl rfl) (inF_in h13) d_M_put_64 ?_
        refine j_iload B d_M_put_65 4 rfl ?_
        refine j_iconst (v := (-1)) B d_M_put_67 (by decide) ?_
        refine j_ixor B d_M_put_68 ?_
        refine j_iand B d_M_put_69 ?_
        exact j70 _ (by rw [if_neg h44])
      · -- 44 on
        refine j_aload_n B d_M_put_47 rfl 0 rfl ?_
        refine gf_M_68 B (rG (ix := 0) hl rfl) rfl d_M_put_48 ?_
        refine j_iload_n B d_M_put_51 rfl 2 rfl ?_
        refine j_iald B rfl (rG (ix := 20) hl rfl) (inF_in h13) d_M_put_52 ?_
        refine j_iload B d_M_put_53 4 rfl ?_
        refine j_ior B d_M_put_55 ?_
        refine j_goto B d_M_put_56 rfl ?_
        exact j70 _ (by rw [if_pos h44])
    · -- 13 on
      replace h13 := bI_f h13
      refine j_iconst (v := 1) B d_M_put_16 (by decide) ?_
      refine j_goto B d_M_put_17 rfl ?_
      refine pf_M_159 B not_false (rG (ix := 0) hl rfl) (by first | exact bI_nar _ | exact bI_fit _ | decide) (by first | exact bI_nar _ | exact bI_fit _ | decide) (Nat.le_of_ble_eq_true rfl) d_M_put_21 ?_
      refine jW.heap (σ2 := σ ++ rC b ta wt F0 F1 F2 HH kt kp a hi tm sN sx sy pt mn pl pN px py sn lt rc tx sz us D0 D1 D2 qx qy di up dn true op gs t0 fr lf pX pY pD pU X) (rT (ix := 0) hl rfl) ?_
      refine j_aload_n B d_M_put_24 rfl 0 rfl ?_
      refine gf_M_159 B (rG (ix := 0) hl rfl) rfl d_M_put_25 ?_
      refine j_if_eq B d_M_put_28 rfl (fun h28 => absurd h28 (by decide)) (fun h28 => ?_)
      exact j_vret B K (by simp [pE, pDr, pB, h13]) d_M_put_31
set_option maxRecDepth 100000 in
set_option maxHeartbeats 4000000 in
theorem c_M_step_00 {l : Launch} {b : Nat} {D : va_G} {ta : Nat → ClassId} {σ : List va_E} (hl : σ.length = 133) {wt : Int32} {F0 : Nat → Int32} {F1 : Nat → Int32} {F2 : Nat → Int32} {HH : Nat → Int32} {kt : Nat → Int32} {kp : Nat → Int32} {a : Nat} {hi : Nat} {tm : Nat} {sN : Nat} {sx : Nat → Int32} {sy : Nat → Int32} {pt : Nat → Int64} {mn : Nat → Int32} {pl : Nat → Int32} {pN : Nat} {px : Nat → Int32} {py : Nat → Int32} {sn : Nat → Int32} {lt : Nat → Int32} {rc : Nat → Int64} {tx : Nat → Int32} {sz : Nat → Int32} {us : Nat → Int32} {D0 : Nat → Int32} {D1 : Nat → Int32} {D2 : Nat → Int32} {qx : Int32} {qy : Int32} {di : Nat} {up : Bool} {dn : Nat} {be : Bool} {op : Nat} {gs : Nat → Int32} {t0 : Nat → Int32} {fr : Nat → Int32} {lf : Nat → Int32} {pX : Nat → Int32} {pY : Nat → Int32} {pD : Nat → Int32} {pU : Nat → Int32} {X : List va_E} (m : Int32) (hdi : di < 4) : jC l b D ta False y_M_step b_M_step 8 none (rL 2) [.ref (b + 133), .int m, .int 0, .int 0] (σ ++ rC b ta wt F0 F1 F2 HH kt kp a hi tm sN sx sy pt mn pl pN px py sn lt rc tx sz us D0 D1 D2 qx qy di up dn be op gs t0 fr lf pX pY pD pU X) none (σ ++ rC b ta wt F0 F1 F2 HH kt kp a hi tm sN sx sy pt mn pl pN px py sn lt rc tx sz us D0 D1 D2 (qx + m * jcs di) (qy + m * jrs di) di up dn (pE be (qx + m * jcs di) (qy + m * jrs di)) op gs t0 fr lf pX pY pD pU X) := by
  refine jC_of (own := "WireFieldModel") (by decide +kernel) (Nat.le_of_ble_eq_true rfl) rfl (fun Γ B K => ?_)
  change jW l b D Γ False 0 0 8 (σ ++ rC b ta wt F0 F1 F2 HH kt kp a hi tm sN sx sy pt mn pl pN px py sn lt rc tx sz us D0 D1 D2 qx qy di up dn be op gs t0 fr lf pX pY pD pU X) [(0, .ref (b + 133)), (1, .int m), (2, .int 0), (3, .int 0)] 0 []
  refine j_aload_n B d_M_step_0 rfl 0 rfl ?_
  refine j_dup B d_M_step_1 rfl ?_
  refine gf_M_167 B (rG (ix := 0) hl rfl) rfl d_M_step_2 ?_
  refine j_iload_n B d_M_step_5 rfl 1 rfl ?_
  refine j_aload_n B d_M_step_6 rfl 0 rfl ?_
  refine gf_M_170 B (rG (ix := 0) hl rfl) rfl d_M_step_7 ?_
  refine k_callS (as := [.int (nI di)]) (rest := [.int m, .int qx, .ref (b + 133)]) (st1 := [.int (jcs di), .int m, .int qx, .ref (b + 133)]) B (c_M_acrossD (d := di) hdi) yf_M_across w_938 w_939 rfl (by decide) (by decide) rfl rfl (Nat.le_of_ble_eq_true rfl) d_M_step_10 ?_
  refine j_imul B d_M_step_13 ?_
  refine j_iadd B d_M_step_14 ?_
  refine pf_M_167 B not_false (rG (ix := 0) hl rfl) rfl rfl (Nat.le_of_ble_eq_true rfl) d_M_step_15 ?_
  refine jW.heap (σ2 := σ ++ rC b ta wt F0 F1 F2 HH kt kp a hi tm sN sx sy pt mn pl pN px py sn lt rc tx sz us D0 D1 D2 (qx + (m * (jcs di))) qy di up dn be op gs t0 fr lf pX pY pD pU X) (rT (ix := 0) hl rfl) ?_
  refine j_aload_n B d_M_step_18 rfl 0 rfl ?_
  refine j_dup B d_M_step_19 rfl ?_
  refine gf_M_176 B (rG (ix := 0) hl rfl) rfl d_M_step_20 ?_
  refine j_iload_n B d_M_step_23 rfl 1 rfl ?_
  refine j_aload_n B d_M_step_24 rfl 0 rfl ?_
  refine gf_M_170 B (rG (ix := 0) hl rfl) rfl d_M_step_25 ?_
  refine k_callS (as := [.int (nI di)]) (rest := [.int m, .int qy, .ref (b + 133)]) (st1 := [.int (jrs di), .int m, .int qy, .ref (b + 133)]) B (c_M_downD (d := di) hdi) yf_M_down w_941 w_942 rfl (by decide) (by decide) rfl rfl (Nat.le_of_ble_eq_true rfl) d_M_step_28 ?_
  refine j_imul B d_M_step_31 ?_
  refine j_iadd B d_M_step_32 ?_
  refine pf_M_176 B not_false (rG (ix := 0) hl rfl) rfl rfl (Nat.le_of_ble_eq_true rfl) d_M_step_33 ?_
  refine jW.heap (σ2 := σ ++ rC b ta wt F0 F1 F2 HH kt kp a hi tm sN sx sy pt mn pl pN px py sn lt rc tx sz us D0 D1 D2 (qx + (m * (jcs di))) (qy + (m * (jrs di))) di up dn be op gs t0 fr lf pX pY pD pU X) (rT (ix := 0) hl rfl) ?_
  refine j_aload_n B d_M_step_36 rfl 0 rfl ?_
  refine j_aload_n B d_M_step_37 rfl 0 rfl ?_
  refine gf_M_159 B (rG (ix := 0) hl rfl) rfl d_M_step_38 ?_
  have j63 : ∀ b1 : Int32, b1 = (if be = true then 1 else if (inF (qx + (m * (jcs di))) (qy + (m * (jrs di)))) = true then 0 else 1) → jW l b D Γ False 0 0 8 (σ ++ rC b ta wt F0 F1 F2 HH kt kp a hi tm sN sx sy pt mn pl pN px py sn lt rc tx sz us D0 D1 D2 (qx + (m * (jcs di))) (qy + (m * (jrs di))) di up dn be op gs t0 fr lf pX pY pD pU X) [(0, .ref (b + 133)), (1, .int m), (2, .int 0), (3, .int 0)] 63 [.int b1, .ref (b + 133)] := by
    intro b1 e_b1
    have f63 : b1 = bI (pE be (qx + (m * (jcs di))) (qy + (m * (jrs di)))) := by rw [e_b1]; exact bo_if
    subst f63
    refine pf_M_159 B not_false (rG (ix := 0) hl rfl) (by first | exact bI_nar _ | exact bI_fit _ | decide) (by first | exact bI_nar _ | exact bI_fit _ | decide) (Nat.le_of_ble_eq_true rfl) d_M_step_63 ?_
    refine jW.heap (σ2 := σ ++ rC b ta wt F0 F1 F2 HH kt kp a hi tm sN sx sy pt mn pl pN px py sn lt rc tx sz us D0 D1 D2 (qx + (m * (jcs di))) (qy + (m * (jrs di))) di up dn (pE be (qx + (m * (jcs di))) (qy + (m * (jrs di)))) op gs t0 fr lf pX pY pD pU X) (rT (ix := 0) hl rfl) ?_
    refine j_iload_n B d_M_step_66 rfl 2 rfl ?_
    refine j_if_eq B d_M_step_67 rfl (fun h67 => ?_) (fun h67 => absurd rfl h67)
    refine j_iconst (v := (-1)) B d_M_step_90 (by decide) ?_
    refine j_istore (L' := [(0, .ref (b + 133)), (1, .int m), (2, .int 0), (3, .int 0), (4, .int (-1))]) B d_M_step_91 (by decide) [1, 2, 3, 4, 0] rfl ?_
    refine j_iload B d_M_step_93 4 rfl ?_
    refine j_iconst (v := 2) B d_M_step_95 (by decide) ?_
    refine j_icmp_ge B d_M_step_96 rfl (fun h96 => absurd h96 (by decide)) (fun h96 => ?_)
    refine j_iload_n B d_M_step_99 rfl 3 rfl ?_
    refine j_if_eq B d_M_step_100 rfl (fun h100 => ?_) (fun h100 => absurd rfl h100)
    exact j_vret B K rfl d_M_step_191
  refine j_if_ne B d_M_step_41 rfl (fun h41 => ?_) (fun h41 => ?_)
  · -- 41 jump
    replace h41 := bI_t h41
    refine j_iconst (v := 1) B d_M_step_58 (by decide) ?_
    refine j_goto B d_M_step_59 rfl ?_
    exact j63 _ (by rw [if_pos h41])
  · -- 41 on
    replace h41 := bI_f h41
    refine j_aload_n B d_M_step_44 rfl 0 rfl ?_
    refine gf_M_167 B (rG (ix := 0) hl rfl) rfl d_M_step_45 ?_
    refine j_aload_n B d_M_step_48 rfl 0 rfl ?_
    refine gf_M_176 B (rG (ix := 0) hl rfl) rfl d_M_step_49 ?_
    refine k_callS (as := [.int (qx + (m * (jcs di))), .int (qy + (m * (jrs di)))]) (rest := [.ref (b + 133)]) (st1 := [.int (bI (inF (qx + (m * (jcs di))) (qy + (m * (jrs di))))), .ref (b + 133)]) B (c_M_is (qx + (m * (jcs di))) (qy + (m * (jrs di)))) yf_M_is w_899 w_900 rfl (by decide) (by decide) rfl rfl (Nat.le_of_ble_eq_true rfl) d_M_step_52 ?_
    refine j_if_ne B d_M_step_55 rfl (fun h55 => ?_) (fun h55 => ?_)
    · -- 55 jump
      replace h55 := bI_t h55
      refine j_iconst (v := 0) B d_M_step_62 (by decide) ?_
      exact j63 _ (by rw [if_neg (bF h41), if_pos h55])
    · -- 55 on
      replace h55 := bI_f h55
      refine j_iconst (v := 1) B d_M_step_58 (by decide) ?_
      refine j_goto B d_M_step_59 rfl ?_
      exact j63 _ (by rw [if_neg (bF h41), if_neg (bF h55)])
set_option maxRecDepth 100000 in
set_option maxHeartbeats 4000000 in
theorem c_M_step_01 {l : Launch} {b : Nat} {D : va_G} {ta : Nat → ClassId} {σ : List va_E} (hl : σ.length = 133) {wt : Int32} {F0 : Nat → Int32} {F1 : Nat → Int32} {F2 : Nat → Int32} {HH : Nat → Int32} {kt : Nat → Int32} {kp : Nat → Int32} {a : Nat} {hi : Nat} {tm : Nat} {sN : Nat} {sx : Nat → Int32} {sy : Nat → Int32} {pt : Nat → Int64} {mn : Nat → Int32} {pl : Nat → Int32} {pN : Nat} {px : Nat → Int32} {py : Nat → Int32} {sn : Nat → Int32} {lt : Nat → Int32} {rc : Nat → Int64} {tx : Nat → Int32} {sz : Nat → Int32} {us : Nat → Int32} {D0 : Nat → Int32} {D1 : Nat → Int32} {D2 : Nat → Int32} {qx : Int32} {qy : Int32} {di : Nat} {up : Bool} {dn : Nat} {be : Bool} {op : Nat} {gs : Nat → Int32} {t0 : Nat → Int32} {fr : Nat → Int32} {lf : Nat → Int32} {pX : Nat → Int32} {pY : Nat → Int32} {pD : Nat → Int32} {pU : Nat → Int32} {X : List va_E} (m : Int32) (hdi : di < 4) : jC l b D ta False y_M_step b_M_step 8 none (rL 2) [.ref (b + 133), .int m, .int 0, .int 1] (σ ++ rC b ta wt F0 F1 F2 HH kt kp a hi tm sN sx sy pt mn pl pN px py sn lt rc tx sz us D0 D1 D2 qx qy di up dn be op gs t0 fr lf pX pY pD pU X) none (σ ++ rC b ta wt F0 F1 F2 HH kt kp a hi tm sN sx sy pt mn pl pN px py sn lt rc tx sz us (bD up (pE be (qx + m * jcs di) (qy + m * jrs di)) D0 (qx + m * jcs di) (qy + m * jrs di) di 1) (bD up (pE be (qx + m * jcs di) (qy + m * jrs di)) D1 (qx + m * jcs di) (qy + m * jrs di) di 2) (bD up (pE be (qx + m * jcs di) (qy + m * jrs di)) D2 (qx + m * jcs di) (qy + m * jrs di) di 3) (qx + m * jcs di) (qy + m * jrs di) di up dn (bE (pE be (qx + m * jcs di) (qy + m * jrs di)) (qx + m * jcs di) (qy + m * jrs di) di) op gs t0 fr lf pX pY pD pU X) := by
  refine jC_of (own := "WireFieldModel") (by decide +kernel) (Nat.le_of_ble_eq_true rfl) rfl (fun Γ B K => ?_)
  change jW l b D Γ False 0 0 8 (σ ++ rC b ta wt F0 F1 F2 HH kt kp a hi tm sN sx sy pt mn pl pN px py sn lt rc tx sz us D0 D1 D2 qx qy di up dn be op gs t0 fr lf pX pY pD pU X) [(0, .ref (b + 133)), (1, .int m), (2, .int 0), (3, .int 1)] 0 []
  refine j_aload_n B d_M_step_0 rfl 0 rfl ?_
  refine j_dup B d_M_step_1 rfl ?_
  refine gf_M_167 B (rG (ix := 0) hl rfl) rfl d_M_step_2 ?_
  refine j_iload_n B d_M_step_5 rfl 1 rfl ?_
  refine j_aload_n B d_M_step_6 rfl 0 rfl ?_
  refine gf_M_170 B (rG (ix := 0) hl rfl) rfl d_M_step_7 ?_
  refine k_callS (as := [.int (nI di)]) (rest := [.int m, .int qx, .ref (b + 133)]) (st1 := [.int (jcs di), .int m, .int qx, .ref (b + 133)]) B (c_M_acrossD (d := di) hdi) yf_M_across w_938 w_939 rfl (by decide) (by decide) rfl rfl (Nat.le_of_ble_eq_true rfl) d_M_step_10 ?_
  refine j_imul B d_M_step_13 ?_
  refine j_iadd B d_M_step_14 ?_
  refine pf_M_167 B not_false (rG (ix := 0) hl rfl) rfl rfl (Nat.le_of_ble_eq_true rfl) d_M_step_15 ?_
  refine jW.heap (σ2 := σ ++ rC b ta wt F0 F1 F2 HH kt kp a hi tm sN sx sy pt mn pl pN px py sn lt rc tx sz us D0 D1 D2 (qx + (m * (jcs di))) qy di up dn be op gs t0 fr lf pX pY pD pU X) (rT (ix := 0) hl rfl) ?_
  refine j_aload_n B d_M_step_18 rfl 0 rfl ?_
  refine j_dup B d_M_step_19 rfl ?_
  refine gf_M_176 B (rG (ix := 0) hl rfl) rfl d_M_step_20 ?_
  refine j_iload_n B d_M_step_23 rfl 1 rfl ?_
  refine j_aload_n B d_M_step_24 rfl 0 rfl ?_
  refine gf_M_170 B (rG (ix := 0) hl rfl) rfl d_M_step_25 ?_
  refine k_callS (as := [.int (nI di)]) (rest := [.int m, .int qy, .ref (b + 133)]) (st1 := [.int (jrs di), .int m, .int qy, .ref (b + 133)]) B (c_M_downD (d := di) hdi) yf_M_down w_941 w_942 rfl (by decide) (by decide) rfl rfl (Nat.le_of_ble_eq_true rfl) d_M_step_28 ?_
  refine j_imul B d_M_step_31 ?_
  refine j_iadd B d_M_step_32 ?_
  refine pf_M_176 B not_false (rG (ix := 0) hl rfl) rfl rfl (Nat.le_of_ble_eq_true rfl) d_M_step_33 ?_
  refine jW.heap (σ2 := σ ++ rC b ta wt F0 F1 F2 HH kt kp a hi tm sN sx sy pt mn pl pN px py sn lt rc tx sz us D0 D1 D2 (qx + (m * (jcs di))) (qy + (m * (jrs di))) di up dn be op gs t0 fr lf pX pY pD pU X) (rT (ix := 0) hl rfl) ?_
  refine j_aload_n B d_M_step_36 rfl 0 rfl ?_
  refine j_aload_n B d_M_step_37 rfl 0 rfl ?_
  refine gf_M_159 B (rG (ix := 0) hl rfl) rfl d_M_step_38 ?_
  have j63 : ∀ b1 : Int32, b1 = (if be = true then 1 else if (inF (qx + (m * (jcs di))) (qy + (m * (jrs di)))) = true then 0 else 1) → jW l b D Γ False 0 0 8 (σ ++ rC b ta wt F0 F1 F2 HH kt kp a hi tm sN sx sy pt mn pl pN px py sn lt rc tx sz us D0 D1 D2 (qx + (m * (jcs di))) (qy + (m * (jrs di))) di up dn be op gs t0 fr lf pX pY pD pU X) [(0, .ref (b + 133)), (1, .int m), (2, .int 0), (3, .int 1)] 63 [.int b1, .ref (b + 133)] := by
    intro b1 e_b1
    have f63 : b1 = bI (pE be (qx + (m * (jcs di))) (qy + (m * (jrs di)))) := by rw [e_b1]; exact bo_if
    subst f63
    refine pf_M_159 B not_false (rG (ix := 0) hl rfl) (by first | exact bI_nar _ | exact bI_fit _ | decide) (by first | exact bI_nar _ | exact bI_fit _ | decide) (Nat.le_of_ble_eq_true rfl) d_M_step_63 ?_
    refine jW.heap (σ2 := σ ++ rC b ta wt F0 F1 F2 HH kt kp a hi tm sN sx sy pt mn pl pN px py sn lt rc tx sz us D0 D1 D2 (qx + (m * (jcs di))) (qy + (m * (jrs di))) di up dn (pE be (qx + (m * (jcs di))) (qy + (m * (jrs di)))) op gs t0 fr lf pX pY pD pU X) (rT (ix := 0) hl rfl) ?_
    have jn90 : ∀ (xx : Int32) (yy : Int32) (bq : Bool) (G0 : Nat → Int32) (G1 : Nat → Int32) (G2 : Nat → Int32), (xx = (qx + m * jcs di)) → (yy = (qy + m * jrs di)) → (bq = pE be xx yy) → (G0 = D0) → (G1 = D1) → (G2 = D2) → jW l b D Γ False 0 0 8 (σ ++ rC b ta wt F0 F1 F2 HH kt kp a hi tm sN sx sy pt mn pl pN px py sn lt rc tx sz us G0 G1 G2 xx yy di up dn bq op gs t0 fr lf pX pY pD pU X) [(0, .ref (b + 133)), (1, .int m), (2, .int 0), (3, .int 1)] 90 [] := by
      intro xx yy bq G0 G1 G2 ex ey eb eg0 eg1 eg2
      refine j_iconst (v := (-1)) B d_M_step_90 (by decide) ?_
      refine j_istore (L' := [(0, .ref (b + 133)), (1, .int m), (2, .int 0), (3, .int 1), (4, .int (-1))]) B d_M_step_91 (by decide) [1, 2, 3, 4, 0] rfl ?_
      refine j_iload B d_M_step_93 4 rfl ?_
      refine j_iconst (v := 2) B d_M_step_95 (by decide) ?_
      refine j_icmp_ge B d_M_step_96 rfl (fun h96 => absurd h96 (by decide)) (fun h96 => ?_)
      refine j_iload_n B d_M_step_99 rfl 3 rfl ?_
      refine j_if_eq B d_M_step_100 rfl (fun h100 => absurd h100 (by decide)) (fun h100 => ?_)
      refine j_aload_n B d_M_step_103 rfl 0 rfl ?_
      refine gf_M_170 B (rG (ix := 0) hl rfl) rfl d_M_step_104 ?_
      refine j_iconst (v := 1) B d_M_step_107 (by decide) ?_
      refine j_iaddE (v := nI (di + 1)) B (nI_add di 1) d_M_step_108 ?_
      refine j_iconst (v := 3) B d_M_step_109 (by decide) ?_
      refine j_iandE (v := nI ((di + 1) % 4)) B (pk_andN (n := di + 1) (by omega) 2 (by decide)) d_M_step_110 ?_
      refine j_istore (L' := [(0, .ref (b + 133)), (1, .int m), (2, .int 0), (3, .int 1), (4, .int (-1)), (5, .int (nI ((di + 1) % 4)))]) B d_M_step_111 (by decide) [1, 2, 3, 4, 5, 0] rfl ?_
      refine j_aload_n B d_M_step_113 rfl 0 rfl ?_
      refine gf_M_167 B (rG (ix := 0) hl rfl) rfl d_M_step_114 ?_
      refine j_iload B d_M_step_117 4 rfl ?_
      refine j_iload B d_M_step_119 5 rfl ?_
      refine k_callS (as := [.int (nI ((di + 1) % 4))]) (rest := [.int (-1), .int xx]) (st1 := [.int (jcs ((di + 1) % 4)), .int (-1), .int xx]) B (c_M_acrossD (d := ((di + 1) % 4)) (Nat.mod_lt _ (by decide))) yf_M_across w_938 w_939 rfl (by decide) (by decide) rfl rfl (Nat.le_of_ble_eq_true rfl) d_M_step_121 ?_
      refine j_imul B d_M_step_124 ?_
      refine j_iadd B d_M_step_125 ?_
      refine j_istore (L' := [(0, .ref (b + 133)), (1, .int m), (2, .int 0), (3, .int 1), (4, .int (-1)), (5, .int (nI ((di + 1) % 4))), (6, .int (xx + ((-1) * (jcs ((di + 1) % 4)))))]) B d_M_step_126 (by decide) [1, 2, 3, 4, 5, 6, 0] rfl ?_
      refine j_aload_n B d_M_step_128 rfl 0 rfl ?_
      refine gf_M_176 B (rG (ix := 0) hl rfl) rfl d_M_step_129 ?_
      refine j_iload B d_M_step_132 4 rfl ?_
      refine j_iload B d_M_step_134 5 rfl ?_
      refine k_callS (as := [.int (nI ((di + 1) % 4))]) (rest := [.int (-1), .int yy]) (st1 := [.int (jrs ((di + 1) % 4)), .int (-1), .int yy]) B (c_M_downD (d := ((di + 1) % 4)) (Nat.mod_lt _ (by decide))) yf_M_down w_941 w_942 rfl (by decide) (by decide) rfl rfl (Nat.le_of_ble_eq_true rfl) d_M_step_136 ?_
      refine j_imul B d_M_step_139 ?_
      refine j_iadd B d_M_step_140 ?_
      refine j_istore (L' := [(0, .ref (b + 133)), (1, .int m), (2, .int 0), (3, .int 1), (4, .int (-1)), (5, .int (nI ((di + 1) % 4))), (6, .int (xx + ((-1) * (jcs ((di + 1) % 4))))), (7, .int (yy + ((-1) * (jrs ((di + 1) % 4)))))]) B d_M_step_141 (by decide) [1, 2, 3, 4, 5, 6, 7, 0] rfl ?_
      refine j_aload_n B d_M_step_143 rfl 0 rfl ?_
      refine j_aload_n B d_M_step_144 rfl 0 rfl ?_
      refine gf_M_159 B (rG (ix := 0) hl rfl) rfl d_M_step_145 ?_
      have j166 : ∀ b2 : Int32, b2 = (if bq = true then 1 else if (inF (xx + ((-1) * (jcs ((di + 1) % 4)))) (yy + ((-1) * (jrs ((di + 1) % 4))))) = true then 0 else 1) → jW l b D Γ False 0 0 8 (σ ++ rC b ta wt F0 F1 F2 HH kt kp a hi tm sN sx sy pt mn pl pN px py sn lt rc tx sz us G0 G1 G2 xx yy di up dn bq op gs t0 fr lf pX pY pD pU X) [(0, .ref (b + 133)), (1, .int m), (2, .int 0), (3, .int 1), (4, .int (-1)), (5, .int (nI ((di + 1) % 4))), (6, .int (xx + ((-1) * (jcs ((di + 1) % 4))))), (7, .int (yy + ((-1) * (jrs ((di + 1) % 4)))))] 166 [.int b2, .ref (b + 133)] := by
        intro b2 e_b2
        have f166 : b2 = bI (pE bq (xx + ((-1) * (jcs ((di + 1) % 4)))) (yy + ((-1) * (jrs ((di + 1) % 4))))) := by rw [e_b2]; exact bo_if
        subst f166
        refine pf_M_159 B not_false (rG (ix := 0) hl rfl) (by first | exact bI_nar _ | exact bI_fit _ | decide) (by first | exact bI_nar _ | exact bI_fit _ | decide) (Nat.le_of_ble_eq_true rfl) d_M_step_166 ?_
        refine jW.heap (σ2 := σ ++ rC b ta wt F0 F1 F2 HH kt kp a hi tm sN sx sy pt mn pl pN px py sn lt rc tx sz us G0 G1 G2 xx yy di up dn (pE bq (xx + ((-1) * (jcs ((di + 1) % 4)))) (yy + ((-1) * (jrs ((di + 1) % 4))))) op gs t0 fr lf pX pY pD pU X) (rT (ix := 0) hl rfl) ?_
        refine j_aload_n B d_M_step_169 rfl 0 rfl ?_
        refine gf_M_182 B (rG (ix := 0) hl rfl) rfl d_M_step_170 ?_
        refine j_if_ne B d_M_step_173 rfl (fun h173 => ?_) (fun h173 => ?_)
        · -- 173 jump
          replace h173 := bI_t h173
          subst h173
          refine j_iinc (L' := [(0, .ref (b + 133)), (1, .int m), (2, .int 0), (3, .int 1), (4, .int 1), (5, .int (nI ((di + 1) % 4))), (6, .int (xx + ((-1) * (jcs ((di + 1) % 4))))), (7, .int (yy + ((-1) * (jrs ((di + 1) % 4)))))]) (v := 1) B d_M_step_185 (k := 4) rfl (by decide) (by decide) [1, 2, 3, 4, 0, 5, 6, 7] rfl ?_
          refine j_goto B d_M_step_188 rfl ?_
          refine j_iload B d_M_step_93 4 rfl ?_
          refine j_iconst (v := 2) B d_M_step_95 (by decide) ?_
          refine j_icmp_ge B d_M_step_96 rfl (fun h96 => absurd h96 (by decide)) (fun h96 => ?_)
          refine j_iload_n B d_M_step_99 rfl 3 rfl ?_
          refine j_if_eq B d_M_step_100 rfl (fun h100 => absurd h100 (by decide)) (fun h100 => ?_)
          refine j_aload_n B d_M_step_103 rfl 0 rfl ?_
          refine gf_M_170 B (rG (ix := 0) hl rfl) rfl d_M_step_104 ?_
          refine j_iconst (v := 1) B d_M_step_107 (by decide) ?_
          refine j_iaddE (v := nI (di + 1)) B (nI_add di 1) d_M_step_108 ?_
          refine j_iconst (v := 3) B d_M_step_109 (by decide) ?_
          refine j_iandE (v := nI ((di + 1) % 4)) B (pk_andN (n := di + 1) (by omega) 2 (by decide)) d_M_step_110 ?_
          refine j_istore (L' := [(0, .ref (b + 133)), (1, .int m), (2, .int 0), (3, .int 1), (4, .int 1), (5, .int (nI ((di + 1) % 4))), (6, .int (xx + ((-1) * (jcs ((di + 1) % 4))))), (7, .int (yy + ((-1) * (jrs ((di + 1) % 4)))))]) B d_M_step_111 (by decide) [1, 2, 3, 4, 5, 0, 6, 7] rfl ?_
          refine j_aload_n B d_M_step_113 rfl 0 rfl ?_
          refine gf_M_167 B (rG (ix := 0) hl rfl) rfl d_M_step_114 ?_
          refine j_iload B d_M_step_117 4 rfl ?_
          refine j_iload B d_M_step_119 5 rfl ?_
          refine k_callS (as := [.int (nI ((di + 1) % 4))]) (rest := [.int 1, .int xx]) (st1 := [.int (jcs ((di + 1) % 4)), .int 1, .int xx]) B (c_M_acrossD (d := ((di + 1) % 4)) (Nat.mod_lt _ (by decide))) yf_M_across w_938 w_939 rfl (by decide) (by decide) rfl rfl (Nat.le_of_ble_eq_true rfl) d_M_step_121 ?_
          refine j_imul B d_M_step_124 ?_
          refine j_iadd B d_M_step_125 ?_
          refine j_istore (L' := [(0, .ref (b + 133)), (1, .int m), (2, .int 0), (3, .int 1), (4, .int 1), (5, .int (nI ((di + 1) % 4))), (6, .int (xx + (1 * (jcs ((di + 1) % 4))))), (7, .int (yy + ((-1) * (jrs ((di + 1) % 4)))))]) B d_M_step_126 (by decide) [1, 2, 3, 4, 5, 6, 0, 7] rfl ?_
          refine j_aload_n B d_M_step_128 rfl 0 rfl ?_
          refine gf_M_176 B (rG (ix := 0) hl rfl) rfl d_M_step_129 ?_
          refine j_iload B d_M_step_132 4 rfl ?_
          refine j_iload B d_M_step_134 5 rfl ?_
          refine k_callS (as := [.int (nI ((di + 1) % 4))]) (rest := [.int 1, .int yy]) (st1 := [.int (jrs ((di + 1) % 4)), .int 1, .int yy]) B (c_M_downD (d := ((di + 1) % 4)) (Nat.mod_lt _ (by decide))) yf_M_down w_941 w_942 rfl (by decide) (by decide) rfl rfl (Nat.le_of_ble_eq_true rfl) d_M_step_136 ?_
          refine j_imul B d_M_step_139 ?_
          refine j_iadd B d_M_step_140 ?_
          refine j_istore (L' := [(0, .ref (b + 133)), (1, .int m), (2, .int 0), (3, .int 1), (4, .int 1), (5, .int (nI ((di + 1) % 4))), (6, .int (xx + (1 * (jcs ((di + 1) % 4))))), (7, .int (yy + (1 * (jrs ((di + 1) % 4)))))]) B d_M_step_141 (by decide) [1, 2, 3, 4, 5, 6, 7, 0] rfl ?_
          refine j_aload_n B d_M_step_143 rfl 0 rfl ?_
          refine j_aload_n B d_M_step_144 rfl 0 rfl ?_
          refine gf_M_159 B (rG (ix := 0) hl rfl) rfl d_M_step_145 ?_
          have j166 : ∀ b2 : Int32, b2 = (if (pE bq (xx + ((-1) * (jcs ((di + 1) % 4)))) (yy + ((-1) * (jrs ((di + 1) % 4))))) = true then 1 else if (inF (xx + (1 * (jcs ((di + 1) % 4)))) (yy + (1 * (jrs ((di + 1) % 4))))) = true then 0 else 1) → jW l b D Γ False 0 0 8 (σ ++ rC b ta wt F0 F1 F2 HH kt kp a hi tm sN sx sy pt mn pl pN px py sn lt rc tx sz us G0 G1 G2 xx yy di true dn (pE bq (xx + ((-1) * (jcs ((di + 1) % 4)))) (yy + ((-1) * (jrs ((di + 1) % 4))))) op gs t0 fr lf pX pY pD pU X) [(0, .ref (b + 133)), (1, .int m), (2, .int 0), (3, .int 1), (4, .int 1), (5, .int (nI ((di + 1) % 4))), (6, .int (xx + (1 * (jcs ((di + 1) % 4))))), (7, .int (yy + (1 * (jrs ((di + 1) % 4)))))] 166 [.int b2, .ref (b + 133)] := by
            intro b2 e_b2
            have f166 : b2 = bI (pE (pE bq (xx + ((-1) * (jcs ((di + 1) % 4)))) (yy + ((-1) * (jrs ((di + 1) % 4))))) (xx + (1 * (jcs ((di + 1) % 4)))) (yy + (1 * (jrs ((di + 1) % 4))))) := by rw [e_b2]; exact bo_if
            subst f166
            refine pf_M_159 B not_false (rG (ix := 0) hl rfl) (by first | exact bI_nar _ | exact bI_fit _ | decide) (by first | exact bI_nar _ | exact bI_fit _ | decide) (Nat.le_of_ble_eq_true rfl) d_M_step_166 ?_
            refine jW.heap (σ2 := σ ++ rC b ta wt F0 F1 F2 HH kt kp a hi tm sN sx sy pt mn pl pN px py sn lt rc tx sz us G0 G1 G2 xx yy di true dn (pE (pE bq (xx + ((-1) * (jcs ((di + 1) % 4)))) (yy + ((-1) * (jrs ((di + 1) % 4))))) (xx + (1 * (jcs ((di + 1) % 4)))) (yy + (1 * (jrs ((di + 1) % 4))))) op gs t0 fr lf pX pY pD pU X) (rT (ix := 0) hl rfl) ?_
            refine j_aload_n B d_M_step_169 rfl 0 rfl ?_
            refine gf_M_182 B (rG (ix := 0) hl rfl) rfl d_M_step_170 ?_
            refine j_if_ne B d_M_step_173 rfl (fun h173 => ?_) (fun h173 => absurd h173 (by decide))
            refine j_iinc (L' := [(0, .ref (b + 133)), (1, .int m), (2, .int 0), (3, .int 1), (4, .int 3), (5, .int (nI ((di + 1) % 4))), (6, .int (xx + (1 * (jcs ((di + 1) % 4))))), (7, .int (yy + (1 * (jrs ((di + 1) % 4)))))]) (v := 3) B d_M_step_185 (k := 4) rfl (by decide) (by decide) [1, 2, 3, 4, 0, 5, 6, 7] rfl ?_
            refine j_goto B d_M_step_188 rfl ?_
            refine j_iload B d_M_step_93 4 rfl ?_
            refine j_iconst (v := 2) B d_M_step_95 (by decide) ?_
            refine j_icmp_ge B d_M_step_96 rfl (fun h96 => ?_) (fun h96 => absurd (by decide) h96)
            exact j_vret B K (by subst eg0 eg1 eg2 eb ex ey; simp only [bD_t, bE_e, sD_t]) d_M_step_191
          refine j_if_ne B d_M_step_148 rfl (fun h148 => ?_) (fun h148 => ?_)
          · -- 148 jump
            replace h148 := bI_t h148
            refine j_iconst (v := 1) B d_M_step_161 (by decide) ?_
            refine j_goto B d_M_step_162 rfl ?_
            exact j166 _ (by rw [if_pos h148])
          · -- 148 on
            replace h148 := bI_f h148
            refine j_iload B d_M_step_151 6 rfl ?_
            refine j_iload B d_M_step_153 7 rfl ?_
            refine k_callS (as := [.int (xx + (1 * (jcs ((di + 1) % 4)))), .int (yy + (1 * (jrs ((di + 1) % 4))))]) (rest := [.ref (b + 133)]) (st1 := [.int (bI (inF (xx + (1 * (jcs ((di + 1) % 4)))) (yy + (1 * (jrs ((di + 1) % 4)))))), .ref (b + 133)]) B (c_M_is (xx + (1 * (jcs ((di + 1) % 4)))) (yy + (1 * (jrs ((di + 1) % 4))))) yf_M_is w_899 w_900 rfl (by decide) (by decide) rfl rfl (Nat.le_of_ble_eq_true rfl) d_M_step_155 ?_
            refine j_if_ne B d_M_step_158 rfl (fun h158 => ?_) (fun h158 => ?_)
            · -- 158 jump
              replace h158 := bI_t h158
              refine j_iconst (v := 0) B d_M_step_165 (by decide) ?_
              exact j166 _ (by rw [if_neg (bF h148), if_pos h158])
            · -- 158 on
              replace h158 := bI_f h158
              refine j_iconst (v := 1) B d_M_step_161 (by decide) ?_
              refine j_goto B d_M_step_162 rfl ?_
              exact j166 _ (by rw [if_neg (bF h148), if_neg (bF h158)])
        · -- 173 on
          replace h173 := bI_f h173
          subst h173
          refine j_aload_n B d_M_step_176 rfl 0 rfl ?_
          refine j_iload B d_M_step_177 6 rfl ?_
          refine j_iload B d_M_step_179 7 rfl ?_
          refine j_iconst (v := 3) B d_M_step_181 (by decide) ?_
          refine k_callV (as := [.int (xx + ((-1) * (jcs ((di + 1) % 4)))), .int (yy + ((-1) * (jrs ((di + 1) % 4)))), .int 3]) (rest := []) (st1 := []) B (c_M_put hl (xx + ((-1) * (jcs ((di + 1) % 4)))) (yy + ((-1) * (jrs ((di + 1) % 4)))) 3) yf_M_put w_944 w_946 w_s39 rfl (rG (ix := 0) hl rfl) rfl (by decide) (by decide) rfl rfl (Nat.le_of_ble_eq_true rfl) d_M_step_182 ?_
          refine jW.heap (σ2 := σ ++ rC b ta wt F0 F1 F2 HH kt kp a hi tm sN sx sy pt mn pl pN px py sn lt rc tx sz us (pDr (pE bq (xx + ((-1) * (jcs ((di + 1) % 4)))) (yy + ((-1) * (jrs ((di + 1) % 4))))) G0 (xx + ((-1) * (jcs ((di + 1) % 4)))) (yy + ((-1) * (jrs ((di + 1) % 4)))) 3 1) (pDr (pE bq (xx + ((-1) * (jcs ((di + 1) % 4)))) (yy + ((-1) * (jrs ((di + 1) % 4))))) G1 (xx + ((-1) * (jcs ((di + 1) % 4)))) (yy + ((-1) * (jrs ((di + 1) % 4)))) 3 2) (pDr (pE bq (xx + ((-1) * (jcs ((di + 1) % 4)))) (yy + ((-1) * (jrs ((di + 1) % 4))))) G2 (xx + ((-1) * (jcs ((di + 1) % 4)))) (yy + ((-1) * (jrs ((di + 1) % 4)))) 3 3) xx yy di false dn (pE bq (xx + ((-1) * (jcs ((di + 1) % 4)))) (yy + ((-1) * (jrs ((di + 1) % 4))))) op gs t0 fr lf pX pY pD pU X) (by rw [pE_dup]) ?_
          refine j_iinc (L' := [(0, .ref (b + 133)), (1, .int m), (2, .int 0), (3, .int 1), (4, .int 1), (5, .int (nI ((di + 1) % 4))), (6, .int (xx + ((-1) * (jcs ((di + 1) % 4))))), (7, .int (yy + ((-1) * (jrs ((di + 1) % 4)))))]) (v := 1) B d_M_step_185 (k := 4) rfl (by decide) (by decide) [1, 2, 3, 4, 0, 5, 6, 7] rfl ?_
          refine j_goto B d_M_step_188 rfl ?_
          refine j_iload B d_M_step_93 4 rfl ?_
          refine j_iconst (v := 2) B d_M_step_95 (by decide) ?_
          refine j_icmp_ge B d_M_step_96 rfl (fun h96 => absurd h96 (by decide)) (fun h96 => ?_)
          refine j_iload_n B d_M_step_99 rfl 3 rfl ?_
          refine j_if_eq B d_M_step_100 rfl (fun h100 => absurd h100 (by decide)) (fun h100 => ?_)
          refine j_aload_n B d_M_step_103 rfl 0 rfl ?_
          refine gf_M_170 B (rG (ix := 0) hl rfl) rfl d_M_step_104 ?_
          refine j_iconst (v := 1) B d_M_step_107 (by decide) ?_
          refine j_iaddE (v := nI (di + 1)) B (nI_add di 1) d_M_step_108 ?_
          refine j_iconst (v := 3) B d_M_step_109 (by decide) ?_
          refine j_iandE (v := nI ((di + 1) % 4)) B (pk_andN (n := di + 1) (by omega) 2 (by decide)) d_M_step_110 ?_
          refine j_istore (L' := [(0, .ref (b + 133)), (1, .int m), (2, .int 0), (3, .int 1), (4, .int 1), (5, .int (nI ((di + 1) % 4))), (6, .int (xx + ((-1) * (jcs ((di + 1) % 4))))), (7, .int (yy + ((-1) * (jrs ((di + 1) % 4)))))]) B d_M_step_111 (by decide) [1, 2, 3, 4, 5, 0, 6, 7] rfl ?_
          refine j_aload_n B d_M_step_113 rfl 0 rfl ?_
          refine gf_M_167 B (rG (ix := 0) hl rfl) rfl d_M_step_114 ?_
          refine j_iload B d_M_step_117 4 rfl ?_
          refine j_iload B d_M_step_119 5 rfl ?_
          refine k_callS (as := [.int (nI ((di + 1) % 4))]) (rest := [.int 1, .int xx]) (st1 := [.int (jcs ((di + 1) % 4)), .int 1, .int xx]) B (c_M_acrossD (d := ((di + 1) % 4)) (Nat.mod_lt _ (by decide))) yf_M_across w_938 w_939 rfl (by decide) (by decide) rfl rfl (Nat.le_of_ble_eq_true rfl) d_M_step_121 ?_
          refine j_imul B d_M_step_124 ?_
          refine j_iadd B d_M_step_125 ?_
          refine j_istore (L' := [(0, .ref (b + 133)), (1, .int m), (2, .int 0), (3, .int 1), (4, .int 1), (5, .int (nI ((di + 1) % 4))), (6, .int (xx + (1 * (jcs ((di + 1) % 4))))), (7, .int (yy + ((-1) * (jrs ((di + 1) % 4)))))]) B d_M_step_126 (by decide) [1, 2, 3, 4, 5, 6, 0, 7] rfl ?_
          refine j_aload_n B d_M_step_128 rfl 0 rfl ?_
          refine gf_M_176 B (rG (ix := 0) hl rfl) rfl d_M_step_129 ?_
          refine j_iload B d_M_step_132 4 rfl ?_
          refine j_iload B d_M_step_134 5 rfl ?_
          refine k_callS (as := [.int (nI ((di + 1) % 4))]) (rest := [.int 1, .int yy]) (st1 := [.int (jrs ((di + 1) % 4)), .int 1, .int yy]) B (c_M_downD (d := ((di + 1) % 4)) (Nat.mod_lt _ (by decide))) yf_M_down w_941 w_942 rfl (by decide) (by decide) rfl rfl (Nat.le_of_ble_eq_true rfl) d_M_step_136 ?_
          refine j_imul B d_M_step_139 ?_
          refine j_iadd B d_M_step_140 ?_
          refine j_istore (L' := [(0, .ref (b + 133)), (1, .int m), (2, .int 0), (3, .int 1), (4, .int 1), (5, .int (nI ((di + 1) % 4))), (6, .int (xx + (1 * (jcs ((di + 1) % 4))))), (7, .int (yy + (1 * (jrs ((di + 1) % 4)))))]) B d_M_step_141 (by decide) [1, 2, 3, 4, 5, 6, 7, 0] rfl ?_
          refine j_aload_n B d_M_step_143 rfl 0 rfl ?_
          refine j_aload_n B d_M_step_144 rfl 0 rfl ?_
          refine gf_M_159 B (rG (ix := 0) hl rfl) rfl d_M_step_145 ?_
          have j166 : ∀ b2 : Int32, b2 = (if (pE bq (xx + ((-1) * (jcs ((di + 1) % 4)))) (yy + ((-1) * (jrs ((di + 1) % 4))))) = true then 1 else if (inF (xx + (1 * (jcs ((di + 1) % 4)))) (yy + (1 * (jrs ((di + 1) % 4))))) = true then 0 else 1) → jW l b D Γ False 0 0 8 (σ ++ rC b ta wt F0 F1 F2 HH kt kp a hi tm sN sx sy pt mn pl pN px py sn lt rc tx sz us (pDr (pE bq (xx + ((-1) * (jcs ((di + 1) % 4)))) (yy + ((-1) * (jrs ((di + 1) % 4))))) G0 (xx + ((-1) * (jcs ((di + 1) % 4)))) (yy + ((-1) * (jrs ((di + 1) % 4)))) 3 1) (pDr (pE bq (xx + ((-1) * (jcs ((di + 1) % 4)))) (yy + ((-1) * (jrs ((di + 1) % 4))))) G1 (xx + ((-1) * (jcs ((di + 1) % 4)))) (yy + ((-1) * (jrs ((di + 1) % 4)))) 3 2) (pDr (pE bq (xx + ((-1) * (jcs ((di + 1) % 4)))) (yy + ((-1) * (jrs ((di + 1) % 4))))) G2 (xx + ((-1) * (jcs ((di + 1) % 4)))) (yy + ((-1) * (jrs ((di + 1) % 4)))) 3 3) xx yy di false dn (pE bq (xx + ((-1) * (jcs ((di + 1) % 4)))) (yy + ((-1) * (jrs ((di + 1) % 4))))) op gs t0 fr lf pX pY pD pU X) [(0, .ref (b + 133)), (1, .int m), (2, .int 0), (3, .int 1), (4, .int 1), (5, .int (nI ((di + 1) % 4))), (6, .int (xx + (1 * (jcs ((di + 1) % 4))))), (7, .int (yy + (1 * (jrs ((di + 1) % 4)))))] 166 [.int b2, .ref (b + 133)] := by
            intro b2 e_b2
            have f166 : b2 = bI (pE (pE bq (xx + ((-1) * (jcs ((di + 1) % 4)))) (yy + ((-1) * (jrs ((di + 1) % 4))))) (xx + (1 * (jcs ((di + 1) % 4)))) (yy + (1 * (jrs ((di + 1) % 4))))) := by rw [e_b2]; exact bo_if
            subst f166
            refine pf_M_159 B not_false (rG (ix := 0) hl rfl) (by first | exact bI_nar _ | exact bI_fit _ | decide) (by first | exact bI_nar _ | exact bI_fit _ | decide) (Nat.le_of_ble_eq_true rfl) d_M_step_166 ?_
            refine jW.heap (σ2 := σ ++ rC b ta wt F0 F1 F2 HH kt kp a hi tm sN sx sy pt mn pl pN px py sn lt rc tx sz us (pDr (pE bq (xx + ((-1) * (jcs ((di + 1) % 4)))) (yy + ((-1) * (jrs ((di + 1) % 4))))) G0 (xx + ((-1) * (jcs ((di + 1) % 4)))) (yy + ((-1) * (jrs ((di + 1) % 4)))) 3 1) (pDr (pE bq (xx + ((-1) * (jcs ((di + 1) % 4)))) (yy + ((-1) * (jrs ((di + 1) % 4))))) G1 (xx + ((-1) * (jcs ((di + 1) % 4)))) (yy + ((-1) * (jrs ((di + 1) % 4)))) 3 2) (pDr (pE bq (xx + ((-1) * (jcs ((di + 1) % 4)))) (yy + ((-1) * (jrs ((di + 1) % 4))))) G2 (xx + ((-1) * (jcs ((di + 1) % 4)))) (yy + ((-1) * (jrs ((di + 1) % 4)))) 3 3) xx yy di false dn (pE (pE bq (xx + ((-1) * (jcs ((di + 1) % 4)))) (yy + ((-1) * (jrs ((di + 1) % 4))))) (xx + (1 * (jcs ((di + 1) % 4)))) (yy + (1 * (jrs ((di + 1) % 4))))) op gs t0 fr lf pX pY pD pU X) (rT (ix := 0) hl rfl) ?_
            refine j_aload_n B d_M_step_169 rfl 0 rfl ?_
            refine gf_M_182 B (rG (ix := 0) hl rfl) rfl d_M_step_170 ?_
            refine j_if_ne B d_M_step_173 rfl (fun h173 => absurd rfl h173) (fun h173 => ?_)
            refine j_aload_n B d_M_step_176 rfl 0 rfl ?_
            refine j_iload B d_M_step_177 6 rfl ?_
            refine j_iload B d_M_step_179 7 rfl ?_
            refine j_iconst (v := 3) B d_M_step_181 (by decide) ?_
            refine k_callV (as := [.int (xx + (1 * (jcs ((di + 1) % 4)))), .int (yy + (1 * (jrs ((di + 1) % 4)))), .int 3]) (rest := []) (st1 := []) B (c_M_put hl (xx + (1 * (jcs ((di + 1) % 4)))) (yy + (1 * (jrs ((di + 1) % 4)))) 3) yf_M_put w_944 w_946 w_s39 rfl (rG (ix := 0) hl rfl) rfl (by decide) (by decide) rfl rfl (Nat.le_of_ble_eq_true rfl) d_M_step_182 ?_
            refine jW.heap (σ2 := σ ++ rC b ta wt F0 F1 F2 HH kt kp a hi tm sN sx sy pt mn pl pN px py sn lt rc tx sz us (pDr (pE (pE bq (xx + ((-1) * (jcs ((di + 1) % 4)))) (yy + ((-1) * (jrs ((di + 1) % 4))))) (xx + (1 * (jcs ((di + 1) % 4)))) (yy + (1 * (jrs ((di + 1) % 4))))) (pDr (pE bq (xx + ((-1) * (jcs ((di + 1) % 4)))) (yy + ((-1) * (jrs ((di + 1) % 4))))) G0 (xx + ((-1) * (jcs ((di + 1) % 4)))) (yy + ((-1) * (jrs ((di + 1) % 4)))) 3 1) (xx + (1 * (jcs ((di + 1) % 4)))) (yy + (1 * (jrs ((di + 1) % 4)))) 3 1) (pDr (pE (pE bq (xx + ((-1) * (jcs ((di + 1) % 4)))) (yy + ((-1) * (jrs ((di + 1) % 4))))) (xx + (1 * (jcs ((di + 1) % 4)))) (yy + (1 * (jrs ((di + 1) % 4))))) (pDr (pE bq (xx + ((-1) * (jcs ((di + 1) % 4)))) (yy + ((-1) * (jrs ((di + 1) % 4))))) G1 (xx + ((-1) * (jcs ((di + 1) % 4)))) (yy + ((-1) * (jrs ((di + 1) % 4)))) 3 2) (xx + (1 * (jcs ((di + 1) % 4)))) (yy + (1 * (jrs ((di + 1) % 4)))) 3 2) (pDr (pE (pE bq (xx + ((-1) * (jcs ((di + 1) % 4)))) (yy + ((-1) * (jrs ((di + 1) % 4))))) (xx + (1 * (jcs ((di + 1) % 4)))) (yy + (1 * (jrs ((di + 1) % 4))))) (pDr (pE bq (xx + ((-1) * (jcs ((di + 1) % 4)))) (yy + ((-1) * (jrs ((di + 1) % 4))))) G2 (xx + ((-1) * (jcs ((di + 1) % 4)))) (yy + ((-1) * (jrs ((di + 1) % 4)))) 3 3) (xx + (1 * (jcs ((di + 1) % 4)))) (yy + (1 * (jrs ((di + 1) % 4)))) 3 3) xx yy di false dn (pE (pE bq (xx + ((-1) * (jcs ((di + 1) % 4)))) (yy + ((-1) * (jrs ((di + 1) % 4))))) (xx + (1 * (jcs ((di + 1) % 4)))) (yy + (1 * (jrs ((di + 1) % 4))))) op gs t0 fr lf pX pY pD pU X) (by rw [pE_dup]) ?_
            refine j_iinc (L' := [(0, .ref (b + 133)), (1, .int m), (2, .int 0), (3, .int 1), (4, .int 3), (5, .int (nI ((di + 1) % 4))), (6, .int (xx + (1 * (jcs ((di + 1) % 4))))), (7, .int (yy + (1 * (jrs ((di + 1) % 4)))))]) (v := 3) B d_M_step_185 (k := 4) rfl (by decide) (by decide) [1, 2, 3, 4, 0, 5, 6, 7] rfl ?_
            refine j_goto B d_M_step_188 rfl ?_
            refine j_iload B d_M_step_93 4 rfl ?_
            refine j_iconst (v := 2) B d_M_step_95 (by decide) ?_
            refine j_icmp_ge B d_M_step_96 rfl (fun h96 => ?_) (fun h96 => absurd (by decide) h96)
            exact j_vret B K (by subst eg0 eg1 eg2 eb ex ey; simp only [bD_f, bE_e, sD_f]) d_M_step_191
          refine j_if_ne B d_M_step_148 rfl (fun h148 => ?_) (fun h148 => ?_)
          · -- 148 jump
            replace h148 := bI_t h148
            refine j_iconst (v := 1) B d_M_step_161 (by decide) ?_
            refine j_goto B d_M_step_162 rfl ?_
            exact j166 _ (by rw [if_pos h148])
          · -- 148 on
            replace h148 := bI_f h148
            refine j_iload B d_M_step_151 6 rfl ?_
            refine j_iload B d_M_step_153 7 rfl ?_
            refine k_callS (as := [.int (xx + (1 * (jcs ((di + 1) % 4)))), .int (yy + (1 * (jrs ((di + 1) % 4))))]) (rest := [.ref (b + 133)]) (st1 := [.int (bI (inF (xx + (1 * (jcs ((di + 1) % 4)))) (yy + (1 * (jrs ((di + 1) % 4)))))), .ref (b + 133)]) B (c_M_is (xx + (1 * (jcs ((di + 1) % 4)))) (yy + (1 * (jrs ((di + 1) % 4))))) yf_M_is w_899 w_900 rfl (by decide) (by decide) rfl rfl (Nat.le_of_ble_eq_true rfl) d_M_step_155 ?_
            refine j_if_ne B d_M_step_158 rfl (fun h158 => ?_) (fun h158 => ?_)
            · -- 158 jump
              replace h158 := bI_t h158
              refine j_iconst (v := 0) B d_M_step_165 (by decide) ?_
              exact j166 _ (by rw [if_neg (bF h148), if_pos h158])
            · -- 158 on
              replace h158 := bI_f h158
              refine j_iconst (v := 1) B d_M_step_161 (by decide) ?_
              refine j_goto B d_M_step_162 rfl ?_
              exact j166 _ (by rw [if_neg (bF h148), if_neg (bF h158)])
      refine j_if_ne B d_M_step_148 rfl (fun h148 => ?_) (fun h148 => ?_)
      · -- 148 jump
        replace h148 := bI_t h148
        refine j_iconst (v := 1) B d_M_step_161 (by decide) ?_
        refine j_goto B d_M_step_162 rfl ?_
        exact j166 _ (by rw [if_pos h148])
      · -- 148 on
        replace h148 := bI_f h148
        refine j_iload B d_M_step_151 6 rfl ?_
        refine j_iload B d_M_step_153 7 rfl ?_
        refine k_callS (as := [.int (xx + ((-1) * (jcs ((di + 1) % 4)))), .int (yy + ((-1) * (jrs ((di + 1) % 4))))]) (rest := [.ref (b + 133)]) (st1 := [.int (bI (inF (xx + ((-1) * (jcs ((di + 1) % 4)))) (yy + ((-1) * (jrs ((di + 1) % 4)))))), .ref (b + 133)]) B (c_M_is (xx + ((-1) * (jcs ((di + 1) % 4)))) (yy + ((-1) * (jrs ((di + 1) % 4))))) yf_M_is w_899 w_900 rfl (by decide) (by decide) rfl rfl (Nat.le_of_ble_eq_true rfl) d_M_step_155 ?_
        refine j_if_ne B d_M_step_158 rfl (fun h158 => ?_) (fun h158 => ?_)
        · -- 158 jump
          replace h158 := bI_t h158
          refine j_iconst (v := 0) B d_M_step_165 (by decide) ?_
          exact j166 _ (by rw [if_neg (bF h148), if_pos h158])
        · -- 158 on
          replace h158 := bI_f h158
          refine j_iconst (v := 1) B d_M_step_161 (by decide) ?_
          refine j_goto B d_M_step_162 rfl ?_
          exact j166 _ (by rw [if_neg (bF h148), if_neg (bF h158)])
    refine j_iload_n B d_M_step_66 rfl 2 rfl ?_
    refine j_if_eq B d_M_step_67 rfl (fun h67 => ?_) (fun h67 => absurd rfl h67)
    exact jn90 (qx + (m * (jcs di))) (qy + (m * (jrs di))) (pE be (qx + (m * (jcs di))) (qy + (m * (jrs di)))) D0 D1 D2 rfl rfl rfl rfl rfl rfl
  refine j_if_ne B d_M_step_41 rfl (fun h41 => ?_) (fun h41 => ?_)
  · -- 41 jump
    replace h41 := bI_t h41
    refine j_iconst (v := 1) B d_M_step_58 (by decide) ?_
    refine j_goto B d_M_step_59 rfl ?_
    exact j63 _ (by rw [if_pos h41])
  · -- 41 on
    replace h41 := bI_f h41
    refine j_aload_n B d_M_step_44 rfl 0 rfl ?_
    refine gf_M_167 B (rG (ix := 0) hl rfl) rfl d_M_step_45 ?_
    refine j_aload_n B d_M_step_48 rfl 0 rfl ?_
    refine gf_M_176 B (rG (ix := 0) hl rfl) rfl d_M_step_49 ?_
    refine k_callS (as := [.int (qx + (m * (jcs di))), .int (qy + (m * (jrs di)))]) (rest := [.ref (b + 133)]) (st1 := [.int (bI (inF (qx + (m * (jcs di))) (qy + (m * (jrs di))))), .ref (b + 133)]) B (c_M_is (qx + (m * (jcs di))) (qy + (m * (jrs di)))) yf_M_is w_899 w_900 rfl (by decide) (by decide) rfl rfl (Nat.le_of_ble_eq_true rfl) d_M_step_52 ?_
    refine j_if_ne B d_M_step_55 rfl (fun h55 => ?_) (fun h55 => ?_)
    · -- 55 jump
      replace h55 := bI_t h55
      refine j_iconst (v := 0) B d_M_step_62 (by decide) ?_
      exact j63 _ (by rw [if_neg (bF h41), if_pos h55])
    · -- 55 on
      replace h55 := bI_f h55
      refine j_iconst (v := 1) B d_M_step_58 (by decide) ?_
      refine j_goto B d_M_step_59 rfl ?_
      exact j63 _ (by rw [if_neg (bF h41), if_neg (bF h55)])
set_option maxRecDepth 100000 in
set_option maxHeartbeats 4000000 in
theorem c_M_step_10 {l : Launch} {b : Nat} {D : va_G} {ta : Nat → ClassId} {σ : List va_E} (hl : σ.length = 133) {wt : Int32} {F0 : Nat → Int32} {F1 : Nat → Int32} {F2 : Nat → Int32} {HH : Nat → Int32} {kt : Nat → Int32} {kp : Nat → Int32} {a : Nat} {hi : Nat} {tm : Nat} {sN : Nat} {sx : Nat → Int32} {sy : Nat → Int32} {pt : Nat → Int64} {mn : Nat → Int32} {pl : Nat → Int32} {pN : Nat} {px : Nat → Int32} {py : Nat → Int32} {sn : Nat → Int32} {lt : Nat → Int32} {rc : Nat → Int64} {tx : Nat → Int32} {sz : Nat → Int32} {us : Nat → Int32} {D0 : Nat → Int32} {D1 : Nat → Int32} {D2 : Nat → Int32} {qx : Int32} {qy : Int32} {di : Nat} {up : Bool} {dn : Nat} {be : Bool} {op : Nat} {gs : Nat → Int32} {t0 : Nat → Int32} {fr : Nat → Int32} {lf : Nat → Int32} {pX : Nat → Int32} {pY : Nat → Int32} {pD : Nat → Int32} {pU : Nat → Int32} {X : List va_E} (m : Int32) (hdi : di < 4) : jC l b D ta False y_M_step b_M_step 8 none (rL 2) [.ref (b + 133), .int m, .int 1, .int 0] (σ ++ rC b ta wt F0 F1 F2 HH kt kp a hi tm sN sx sy pt mn pl pN px py sn lt rc tx sz us D0 D1 D2 qx qy di up dn be op gs t0 fr lf pX pY pD pU X) none (σ ++ rC b ta wt F0 F1 F2 HH kt kp a hi tm sN sx sy pt mn pl pN px py sn lt rc tx sz us (sD up (pE be (qx + m * jcs di) (qy + m * jrs di)) D0 (qx + m * jcs di) (qy + m * jrs di) 1) (sD up (pE be (qx + m * jcs di) (qy + m * jrs di)) D1 (qx + m * jcs di) (qy + m * jrs di) 2) (sD up (pE be (qx + m * jcs di) (qy + m * jrs di)) D2 (qx + m * jcs di) (qy + m * jrs di) 3) (qx + m * jcs di) (qy + m * jrs di) di up dn (pE be (qx + m * jcs di) (qy + m * jrs di)) op gs t0 fr lf pX pY pD pU X) := by
  refine jC_of (own := "WireFieldModel") (by decide +kernel) (Nat.le_of_ble_eq_true rfl) rfl (fun Γ B K => ?_)
  change jW l b D Γ False 0 0 8 (σ ++ rC b ta wt F0 F1 F2 HH kt kp a hi tm sN sx sy pt mn pl pN px py sn lt rc tx sz us D0 D1 D2 qx qy di up dn be op gs t0 fr lf pX pY pD pU X) [(0, .ref (b + 133)), (1, .int m), (2, .int 1), (3, .int 0)] 0 []
  refine j_aload_n B d_M_step_0 rfl 0 rfl ?_
  refine j_dup B d_M_step_1 rfl ?_
  refine gf_M_167 B (rG (ix := 0) hl rfl) rfl d_M_step_2 ?_
  refine j_iload_n B d_M_step_5 rfl 1 rfl ?_
  refine j_aload_n B d_M_step_6 rfl 0 rfl ?_
  refine gf_M_170 B (rG (ix := 0) hl rfl) rfl d_M_step_7 ?_
  refine k_callS (as := [.int (nI di)]) (rest := [.int m, .int qx, .ref (b + 133)]) (st1 := [.int (jcs di), .int m, .int qx, .ref (b + 133)]) B (c_M_acrossD (d := di) hdi) yf_M_across w_938 w_939 rfl (by decide) (by decide) rfl rfl (Nat.le_of_ble_eq_true rfl) d_M_step_10 ?_
  refine j_imul B d_M_step_13 ?_
  refine j_iadd B d_M_step_14 ?_
  refine pf_M_167 B not_false (rG (ix := 0) hl rfl) rfl rfl (Nat.le_of_ble_eq_true rfl) d_M_step_15 ?_
  refine jW.heap (σ2 := σ ++ rC b ta wt F0 F1 F2 HH kt kp a hi tm sN sx sy pt mn pl pN px py sn lt rc tx sz us D0 D1 D2 (qx + (m * (jcs di))) qy di up dn be op gs t0 fr lf pX pY pD pU X) (rT (ix := 0) hl rfl) ?_
  refine j_aload_n B d_M_step_18 rfl 0 rfl ?_
  refine j_dup B d_M_step_19 rfl ?_
  refine gf_M_176 B (rG (ix := 0) hl rfl) rfl d_M_step_20 ?_
  refine j_iload_n B d_M_step_23 rfl 1 rfl ?_
  refine j_aload_n B d_M_step_24 rfl 0 rfl ?_
  refine gf_M_170 B (rG (ix := 0) hl rfl) rfl d_M_step_25 ?_
  refine k_callS (as := [.int (nI di)]) (rest := [.int m, .int qy, .ref (b + 133)]) (st1 := [.int (jrs di), .int m, .int qy, .ref (b + 133)]) B (c_M_downD (d := di) hdi) yf_M_down w_941 w_942 rfl (by decide) (by decide) rfl rfl (Nat.le_of_ble_eq_true rfl) d_M_step_28 ?_
  refine j_imul B d_M_step_31 ?_
  refine j_iadd B d_M_step_32 ?_
  refine pf_M_176 B not_false (rG (ix := 0) hl rfl) rfl rfl (Nat.le_of_ble_eq_true rfl) d_M_step_33 ?_
  refine jW.heap (σ2 := σ ++ rC b ta wt F0 F1 F2 HH kt kp a hi tm sN sx sy pt mn pl pN px py sn lt rc tx sz us D0 D1 D2 (qx + (m * (jcs di))) (qy + (m * (jrs di))) di up dn be op gs t0 fr lf pX pY pD pU X) (rT (ix := 0) hl rfl) ?_
  refine j_aload_n B d_M_step_36 rfl 0 rfl ?_
  refine j_aload_n B d_M_step_37 rfl 0 rfl ?_
  refine gf_M_159 B (rG (ix := 0) hl rfl) rfl d_M_step_38 ?_
  have j63 : ∀ b1 : Int32, b1 = (if be = true then 1 else if (inF (qx + (m * (jcs di))) (qy + (m * (jrs di)))) = true then 0 else 1) → jW l b D Γ False 0 0 8 (σ ++ rC b ta wt F0 F1 F2 HH kt kp a hi tm sN sx sy pt mn pl pN px py sn lt rc tx sz us D0 D1 D2 (qx + (m * (jcs di))) (qy + (m * (jrs di))) di up dn be op gs t0 fr lf pX pY pD pU X) [(0, .ref (b + 133)), (1, .int m), (2, .int 1), (3, .int 0)] 63 [.int b1, .ref (b + 133)] := by
    intro b1 e_b1
    have f63 : b1 = bI (pE be (qx + (m * (jcs di))) (qy + (m * (jrs di)))) := by rw [e_b1]; exact bo_if
    subst f63
    refine pf_M_159 B not_false (rG (ix := 0) hl rfl) (by first | exact bI_nar _ | exact bI_fit _ | decide) (by first | exact bI_nar _ | exact bI_fit _ | decide) (Nat.le_of_ble_eq_true rfl) d_M_step_63 ?_
    refine jW.heap (σ2 := σ ++ rC b ta wt F0 F1 F2 HH kt kp a hi tm sN sx sy pt mn pl pN px py sn lt rc tx sz us D0 D1 D2 (qx + (m * (jcs di))) (qy + (m * (jrs di))) di up dn (pE be (qx + (m * (jcs di))) (qy + (m * (jrs di)))) op gs t0 fr lf pX pY pD pU X) (rT (ix := 0) hl rfl) ?_
    refine j_iload_n B d_M_step_66 rfl 2 rfl ?_
    refine j_if_eq B d_M_step_67 rfl (fun h67 => absurd h67 (by decide)) (fun h67 => ?_)
    refine j_aload_n B d_M_step_70 rfl 0 rfl ?_
    refine gf_M_182 B (rG (ix := 0) hl rfl) rfl d_M_step_71 ?_
    refine j_if_ne B d_M_step_74 rfl (fun h74 => ?_) (fun h74 => ?_)
    · -- 74 jump
      replace h74 := bI_t h74
      subst h74
      refine j_iconst (v := (-1)) B d_M_step_90 (by decide) ?_
      refine j_istore (L' := [(0, .ref (b + 133)), (1, .int m), (2, .int 1), (3, .int 0), (4, .int (-1))]) B d_M_step_91 (by decide) [1, 2, 3, 4, 0] rfl ?_
      refine j_iload B d_M_step_93 4 rfl ?_
      refine j_iconst (v := 2) B d_M_step_95 (by decide) ?_
      refine j_icmp_ge B d_M_step_96 rfl (fun h96 => absurd h96 (by decide)) (fun h96 => ?_)
      refine j_iload_n B d_M_step_99 rfl 3 rfl ?_
      refine j_if_eq B d_M_step_100 rfl (fun h100 => ?_) (fun h100 => absurd rfl h100)
      exact j_vret B K (by simp only [sD_t]) d_M_step_191
    · -- 74 on
      replace h74 := bI_f h74
      subst h74
      refine j_aload_n B d_M_step_77 rfl 0 rfl ?_
      refine j_aload_n B d_M_step_78 rfl 0 rfl ?_
      refine gf_M_167 B (rG (ix := 0) hl rfl) rfl d_M_step_79 ?_
      refine j_aload_n B d_M_step_82 rfl 0 rfl ?_
      refine gf_M_176 B (rG (ix := 0) hl rfl) rfl d_M_step_83 ?_
      refine j_iconst (v := 3) B d_M_step_86 (by decide) ?_
      refine k_callV (as := [.int (qx + (m * (jcs di))), .int (qy + (m * (jrs di))), .int 3]) (rest := []) (st1 := []) B (c_M_put hl (qx + (m * (jcs di))) (qy + (m * (jrs di))) 3) yf_M_put w_944 w_946 w_s39 rfl (rG (ix := 0) hl rfl) rfl (by decide) (by decide) rfl rfl (Nat.le_of_ble_eq_true rfl) d_M_step_87 ?_
      refine jW.heap (σ2 := σ ++ rC b ta wt F0 F1 F2 HH kt kp a hi tm sN sx sy pt mn pl pN px py sn lt rc tx sz us (pDr (pE be (qx + (m * (jcs di))) (qy + (m * (jrs di)))) D0 (qx + (m * (jcs di))) (qy + (m * (jrs di))) 3 1) (pDr (pE be (qx + (m * (jcs di))) (qy + (m * (jrs di)))) D1 (qx + (m * (jcs di))) (qy + (m * (jrs di))) 3 2) (pDr (pE be (qx + (m * (jcs di))) (qy + (m * (jrs di)))) D2 (qx + (m * (jcs di))) (qy + (m * (jrs di))) 3 3) (qx + (m * (jcs di))) (qy + (m * (jrs di))) di false dn (pE be (qx + (m * (jcs di))) (qy + (m * (jrs di)))) op gs t0 fr lf pX pY pD pU X) (by rw [pE_dup]) ?_
      refine j_iconst (v := (-1)) B d_M_step_90 (by decide) ?_
      refine j_istore (L' := [(0, .ref (b + 133)), (1, .int m), (2, .int 1), (3, .int 0), (4, .int (-1))]) B d_M_step_91 (by decide) [1, 2, 3, 4, 0] rfl ?_
      refine j_iload B d_M_step_93 4 rfl ?_
      refine j_iconst (v := 2) B d_M_step_95 (by decide) ?_
      refine j_icmp_ge B d_M_step_96 rfl (fun h96 => absurd h96 (by decide)) (fun h96 => ?_)
      refine j_iload_n B d_M_step_99 rfl 3 rfl ?_
      refine j_if_eq B d_M_step_100 rfl (fun h100 => ?_) (fun h100 => absurd rfl h100)
      exact j_vret B K (by simp only [sD_f]) d_M_step_191
  refine j_if_ne B d_M_step_41 rfl (fun h41 => ?_) (fun h41 => ?_)
  · -- 41 jump
    replace h41 := bI_t h41
    refine j_iconst (v := 1) B d_M_step_58 (by decide) ?_
    refine j_goto B d_M_step_59 rfl ?_
    exact j63 _ (by rw [if_pos h41])
  · -- 41 on
    replace h41 := bI_f h41
    refine j_aload_n B d_M_step_44 rfl 0 rfl ?_
    refine gf_M_167 B (rG (ix := 0) hl rfl) rfl d_M_step_45 ?_
    refine j_aload_n B d_M_step_48 rfl 0 rfl ?_
    refine gf_M_176 B (rG (ix := 0) hl rfl) rfl d_M_step_49 ?_
    refine k_callS (as := [.int (qx + (m * (jcs di))), .int (qy + (m * (jrs di)))]) (rest := [.ref (b + 133)]) (st1 := [.int (bI (inF (qx + (m * (jcs di))) (qy + (m * (jrs di))))), .ref (b + 133)]) B (c_M_is (qx + (m * (jcs di))) (qy + (m * (jrs di)))) yf_M_is w_899 w_900 rfl (by decide) (by decide) rfl rfl (Nat.le_of_ble_eq_true rfl) d_M_step_52 ?_
    refine j_if_ne B d_M_step_55 rfl (fun h55 => ?_) (fun h55 => ?_)
    · -- 55 jump
      replace h55 := bI_t h55
      refine j_iconst (v := 0) B d_M_step_62 (by decide) ?_
      exact j63 _ (by rw [if_neg (bF h41), if_pos h55])
    · -- 55 on
      replace h55 := bI_f h55
      refine j_iconst (v := 1) B d_M_step_58 (by decide) ?_
      refine j_goto B d_M_step_59 rfl ?_
      exact j63 _ (by rw [if_neg (bF h41), if_neg (bF h55)])
set_option maxRecDepth 100000 in
set_option maxHeartbeats 4000000 in
theorem c_M_step_11 {l : Launch} {b : Nat} {D : va_G} {ta : Nat → ClassId} {σ : List va_E} (hl : σ.length = 133) {wt : Int32} {F0 : Nat → Int32} {F1 : Nat → Int32} {F2 : Nat → Int32} {HH : Nat → Int32} {kt : Nat → Int32} {kp : Nat → Int32} {a : Nat} {hi : Nat} {tm : Nat} {sN : Nat} {sx : Nat → Int32} {sy : Nat → Int32} {pt : Nat → Int64} {mn : Nat → Int32} {pl : Nat → Int32} {pN : Nat} {px : Nat → Int32} {py : Nat → Int32} {sn : Nat → Int32} {lt : Nat → Int32} {rc : Nat → Int64} {tx : Nat → Int32} {sz : Nat → Int32} {us : Nat → Int32} {D0 : Nat → Int32} {D1 : Nat → Int32} {D2 : Nat → Int32} {qx : Int32} {qy : Int32} {di : Nat} {up : Bool} {dn : Nat} {be : Bool} {op : Nat} {gs : Nat → Int32} {t0 : Nat → Int32} {fr : Nat → Int32} {lf : Nat → Int32} {pX : Nat → Int32} {pY : Nat → Int32} {pD : Nat → Int32} {pU : Nat → Int32} {X : List va_E} (m : Int32) (hdi : di < 4) : jC l b D ta False y_M_step b_M_step 8 none (rL 2) [.ref (b + 133), .int m, .int 1, .int 1] (σ ++ rC b ta wt F0 F1 F2 HH kt kp a hi tm sN sx sy pt mn pl pN px py sn lt rc tx sz us D0 D1 D2 qx qy di up dn be op gs t0 fr lf pX pY pD pU X) none (σ ++ rC b ta wt F0 F1 F2 HH kt kp a hi tm sN sx sy pt mn pl pN px py sn lt rc tx sz us (bD up (pE be (qx + m * jcs di) (qy + m * jrs di)) (sD up (pE be (qx + m * jcs di) (qy + m * jrs di)) D0 (qx + m * jcs di) (qy + m * jrs di) 1) (qx + m * jcs di) (qy + m * jrs di) di 1) (bD up (pE be (qx + m * jcs di) (qy + m * jrs di)) (sD up (pE be (qx + m * jcs di) (qy + m * jrs di)) D1 (qx + m * jcs di) (qy + m * jrs di) 2) (qx + m * jcs di) (qy + m * jrs di) di 2) (bD up (pE be (qx + m * jcs di) (qy + m * jrs di)) (sD up (pE be (qx + m * jcs di) (qy + m * jrs di)) D2 (qx + m * jcs di) (qy + m * jrs di) 3) (qx + m * jcs di) (qy + m * jrs di) di 3) (qx + m * jcs di) (qy + m * jrs di) di up dn (bE (pE be (qx + m * jcs di) (qy + m * jrs di)) (qx + m * jcs di) (qy + m * jrs di) di) op gs t0 fr lf pX pY pD pU X) := by
  refine jC_of (own := "WireFieldModel") (by decide +kernel) (Nat.le_of_ble_eq_true rfl) rfl (fun Γ B K => ?_)
  change jW l b D Γ False 0 0 8 (σ ++ rC b ta wt F0 F1 F2 HH kt kp a hi tm sN sx sy pt mn pl pN px py sn lt rc tx sz us D0 D1 D2 qx qy di up dn be op gs t0 fr lf pX pY pD pU X) [(0, .ref (b + 133)), (1, .int m), (2, .int 1), (3, .int 1)] 0 []
  refine j_aload_n B d_M_step_0 rfl 0 rfl ?_
  refine j_dup B d_M_step_1 rfl ?_
  refine gf_M_167 B (rG (ix := 0) hl rfl) rfl d_M_step_2 ?_
  refine j_iload_n B d_M_step_5 rfl 1 rfl ?_
  refine j_aload_n B d_M_step_6 rfl 0 rfl ?_
  refine gf_M_170 B (rG (ix := 0) hl rfl) rfl d_M_step_7 ?_
  refine k_callS (as := [.int (nI di)]) (rest := [.int m, .int qx, .ref (b + 133)]) (st1 := [.int (jcs di), .int m, .int qx, .ref (b + 133)]) B (c_M_acrossD (d := di) hdi) yf_M_across w_938 w_939 rfl (by decide) (by decide) rfl rfl (Nat.le_of_ble_eq_true rfl) d_M_step_10 ?_
  refine j_imul B d_M_step_13 ?_
  refine j_iadd B d_M_step_14 ?_
  refine pf_M_167 B not_false (rG (ix := 0) hl rfl) rfl rfl (Nat.le_of_ble_eq_true rfl) d_M_step_15 ?_
  refine jW.heap (σ2 := σ ++ rC b ta wt F0 F1 F2 HH kt kp a hi tm sN sx sy pt mn pl pN px py sn lt rc tx sz us D0 D1 D2 (qx + (m * (jcs di))) qy di up dn be op gs t0 fr lf pX pY pD pU X) (rT (ix := 0) hl rfl) ?_
  refine j_aload_n B d_M_step_18 rfl 0 rfl ?_
  refine j_dup B d_M_step_19 rfl ?_
  refine gf_M_176 B (rG (ix := 0) hl rfl) rfl d_M_step_20 ?_
  refine j_iload_n B d_M_step_23 rfl 1 rfl ?_
  refine j_aload_n B d_M_step_24 rfl 0 rfl ?_
  refine gf_M_170 B (rG (ix := 0) hl rfl) rfl d_M_step_25 ?_
  refine k_callS (as := [.int (nI di)]) (rest := [.int m, .int qy, .ref (b + 133)]) (st1 := [.int (jrs di), .int m, .int qy, .ref (b + 133)]) B (c_M_downD (d := di) hdi) yf_M_down w_941 w_942 rfl (by decide) (by decide) rfl rfl (Nat.le_of_ble_eq_true rfl) d_M_step_28 ?_
  refine j_imul B d_M_step_31 ?_
  refine j_iadd B d_M_step_32 ?_
  refine pf_M_176 B not_false (rG (ix := 0) hl rfl) rfl rfl (Nat.le_of_ble_eq_true rfl) d_M_step_33 ?_
  refine jW.heap (σ2 := σ ++ rC b ta wt F0 F1 F2 HH kt kp a hi tm sN sx sy pt mn pl pN px py sn lt rc tx sz us D0 D1 D2 (qx + (m * (jcs di))) (qy + (m * (jrs di))) di up dn be op gs t0 fr lf pX pY pD pU X) (rT (ix := 0) hl rfl) ?_
  refine j_aload_n B d_M_step_36 rfl 0 rfl ?_
  refine j_aload_n B d_M_step_37 rfl 0 rfl ?_
  refine gf_M_159 B (rG (ix := 0) hl rfl) rfl d_M_step_38 ?_
  have j63 : ∀ b1 : Int32, b1 = (if be = true then 1 else if (inF (qx + (m * (jcs di))) (qy + (m * (jrs di)))) = true then 0 else 1) → jW l b D Γ False 0 0 8 (σ ++ rC b ta wt F0 F1 F2 HH kt kp a hi tm sN sx sy pt mn pl pN px py sn lt rc tx sz us D0 D1 D2 (qx + (m * (jcs di))) (qy + (m * (jrs di))) di up dn be op gs t0 fr lf pX pY pD pU X) [(0, .ref (b + 133)), (1, .int m), (2, .int 1), (3, .int 1)] 63 [.int b1, .ref (b + 133)] := by
    intro b1 e_b1
    have f63 : b1 = bI (pE be (qx + (m * (jcs di))) (qy + (m * (jrs di)))) := by rw [e_b1]; exact bo_if
    subst f63
    refine pf_M_159 B not_false (rG (ix := 0) hl rfl) (by first | exact bI_nar _ | exact bI_fit _ | decide) (by first | exact bI_nar _ | exact bI_fit _ | decide) (Nat.le_of_ble_eq_true rfl) d_M_step_63 ?_
    refine jW.heap (σ2 := σ ++ rC b ta wt F0 F1 F2 HH kt kp a hi tm sN sx sy pt mn pl pN px py sn lt rc tx sz us D0 D1 D2 (qx + (m * (jcs di))) (qy + (m * (jrs di))) di up dn (pE be (qx + (m * (jcs di))) (qy + (m * (jrs di)))) op gs t0 fr lf pX pY pD pU X) (rT (ix := 0) hl rfl) ?_
    have jn90 : ∀ (xx : Int32) (yy : Int32) (bq : Bool) (G0 : Nat → Int32) (G1 : Nat → Int32) (G2 : Nat → Int32), (xx = (qx + m * jcs di)) → (yy = (qy + m * jrs di)) → (bq = pE be xx yy) → (G0 = sD up bq D0 xx yy 1) → (G1 = sD up bq D1 xx yy 2) → (G2 = sD up bq D2 xx yy 3) → jW l b D Γ False 0 0 8 (σ ++ rC b ta wt F0 F1 F2 HH kt kp a hi tm sN sx sy pt mn pl pN px py sn lt rc tx sz us G0 G1 G2 xx yy di up dn bq op gs t0 fr lf pX pY pD pU X) [(0, .ref (b + 133)), (1, .int m), (2, .int 1), (3, .int 1)] 90 [] := by
      intro xx yy bq G0 G1 G2 ex ey eb eg0 eg1 eg2
      refine j_iconst (v := (-1)) B d_M_step_90 (by decide) ?_
      refine j_istore (L' := [(0, .ref (b + 133)), (1, .int m), (2, .int 1), (3, .int 1), (4, .int (-1))]) B d_M_step_91 (by decide) [1, 2, 3, 4, 0] rfl ?_
      refine j_iload B d_M_step_93 4 rfl ?_
      refine j_iconst (v := 2) B d_M_step_95 (by decide) ?_
      refine j_icmp_ge B d_M_step_96 rfl (fun h96 => absurd h96 (by decide)) (fun h96 => ?_)
      refine j_iload_n B d_M_step_99 rfl 3 rfl ?_
      refine j_if_eq B d_M_step_100 rfl (fun h100 => absurd h100 (by decide)) (fun h100 => ?_)
      refine j_aload_n B d_M_step_103 rfl 0 rfl ?_
      refine gf_M_170 B (rG (ix := 0) hl rfl) rfl d_M_step_104 ?_
      refine j_iconst (v := 1) B d_M_step_107 (by decide) ?_
      refine j_iaddE (v := nI (di + 1)) B (nI_add di 1) d_M_step_108 ?_
      refine j_iconst (v := 3) B d_M_step_109 (by decide) ?_
      refine j_iandE (v := nI ((di + 1) % 4)) B (pk_andN (n := di + 1) (by omega) 2 (by decide)) d_M_step_110 ?_
      refine j_istore (L' := [(0, .ref (b + 133)), (1, .int m), (2, .int 1), (3, .int 1), (4, .int (-1)), (5, .int (nI ((di + 1) % 4)))]) B d_M_step_111 (by decide) [1, 2, 3, 4, 5, 0] rfl ?_
      refine j_aload_n B d_M_step_113 rfl 0 rfl ?_
      refine gf_M_167 B (rG (ix := 0) hl rfl) rfl d_M_step_114 ?_
      refine j_iload B d_M_step_117 4 rfl ?_
      refine j_iload B d_M_step_119 5 rfl ?_
      refine k_callS (as := [.int (nI ((di + 1) % 4))]) (rest := [.int (-1), .int xx]) (st1 := [.int (jcs ((di + 1) % 4)), .int (-1), .int xx]) B (c_M_acrossD (d := ((di + 1) % 4)) (Nat.mod_lt _ (by decide))) yf_M_across w_938 w_939 rfl (by decide) (by decide) rfl rfl (Nat.le_of_ble_eq_true rfl) d_M_step_121 ?_
      refine j_imul B d_M_step_124 ?_
      refine j_iadd B d_M_step_125 ?_
      refine j_istore (L' := [(0, .ref (b + 133)), (1, .int m), (2, .int 1), (3, .int 1), (4, .int (-1)), (5, .int (nI ((di + 1) % 4))), (6, .int (xx + ((-1) * (jcs ((di + 1) % 4)))))]) B d_M_step_126 (by decide) [1, 2, 3, 4, 5, 6, 0] rfl ?_
      refine j_aload_n B d_M_step_128 rfl 0 rfl ?_
      refine gf_M_176 B (rG (ix := 0) hl rfl) rfl d_M_step_129 ?_
      refine j_iload B d_M_step_132 4 rfl ?_
      refine j_iload B d_M_step_134 5 rfl ?_
      refine k_callS (as := [.int (nI ((di + 1) % 4))]) (rest := [.int (-1), .int yy]) (st1 := [.int (jrs ((di + 1) % 4)), .int (-1), .int yy]) B (c_M_downD (d := ((di + 1) % 4)) (Nat.mod_lt _ (by decide))) yf_M_down w_941 w_942 rfl (by decide) (by decide) rfl rfl (Nat.le_of_ble_eq_true rfl) d_M_step_136 ?_
      refine j_imul B d_M_step_139 ?_
      refine j_iadd B d_M_step_140 ?_
      refine j_istore (L' := [(0, .ref (b + 133)), (1, .int m), (2, .int 1), (3, .int 1), (4, .int (-1)), (5, .int (nI ((di + 1) % 4))), (6, .int (xx + ((-1) * (jcs ((di + 1) % 4))))), (7, .int (yy + ((-1) * (jrs ((di + 1) % 4)))))]) B d_M_step_141 (by decide) [1, 2, 3, 4, 5, 6, 7, 0] rfl ?_
      refine j_aload_n B d_M_step_143 rfl 0 rfl ?_
      refine j_aload_n B d_M_step_144 rfl 0 rfl ?_
      refine gf_M_159 B (rG (ix := 0) hl rfl) rfl d_M_step_145 ?_
      have j166 : ∀ b2 : Int32, b2 = (if bq = true then 1 else if (inF (xx + ((-1) * (jcs ((di + 1) % 4)))) (yy + ((-1) * (jrs ((di + 1) % 4))))) = true then 0 else 1) → jW l b D Γ False 0 0 8 (σ ++ rC b ta wt F0 F1 F2 HH kt kp a hi tm sN sx sy pt mn pl pN px py sn lt rc tx sz us G0 G1 G2 xx yy di up dn bq op gs t0 fr lf pX pY pD pU X) [(0, .ref (b + 133)), (1, .int m), (2, .int 1), (3, .int 1), (4, .int (-1)), (5, .int (nI ((di + 1) % 4))), (6, .int (xx + ((-1) * (jcs ((di + 1) % 4))))), (7, .int (yy + ((-1) * (jrs ((di + 1) % 4)))))] 166 [.int b2, .ref (b + 133)] := by
        intro b2 e_b2
        have f166 : b2 = bI (pE bq (xx + ((-1) * (jcs ((di + 1) % 4)))) (yy + ((-1) * (jrs ((di + 1) % 4))))) := by rw [e_b2]; exact bo_if
        subst f166
        refine pf_M_159 B not_false (rG (ix := 0) hl rfl) (by first | exact bI_nar _ | exact bI_fit _ | decide) (by first | exact bI_nar _ | exact bI_fit _ | decide) (Nat.le_of_ble_eq_true rfl) d_M_step_166 ?_
        refine jW.heap (σ2 := σ ++ rC b ta wt F0 F1 F2 HH kt kp a hi tm sN sx sy pt mn pl pN px py sn lt rc tx sz us G0 G1 G2 xx yy di up dn (pE bq (xx + ((-1) * (jcs ((di + 1) % 4)))) (yy + ((-1) * (jrs ((di + 1) % 4))))) op gs t0 fr lf pX pY pD pU X) (rT (ix := 0) hl rfl) ?_
        refine j_aload_n B d_M_step_169 rfl 0 rfl ?_
        refine gf_M_182 B (rG (ix := 0) hl rfl) rfl d_M_step_170 ?_
        refine j_if_ne B d_M_step_173 rfl (fun h173 => ?_) (fun h173 => ?_)
        · -- 173 jump
          replace h173 := bI_t h173
          subst h173
          refine j_iinc (L' := [(0, .ref (b + 133)), (1, .int m), (2, .int 1), (3, .int 1), (4, .int 1), (5, .int (nI ((di + 1) % 4))), (6, .int (xx + ((-1) * (jcs ((di + 1) % 4))))), (7, .int (yy + ((-1) * (jrs ((di + 1) % 4)))))]) (v := 1) B d_M_step_185 (k := 4) rfl (by decide) (by decide) [1, 2, 3, 4, 0, 5, 6, 7] rfl ?_
          refine j_goto B d_M_step_188 rfl ?_
          refine j_iload B d_M_step_93 4 rfl ?_
          refine j_iconst (v := 2) B d_M_step_95 (by decide) ?_
          refine j_icmp_ge B d_M_step_96 rfl (fun h96 => absurd h96 (by decide)) (fun h96 => ?_)
          refine j_iload_n B d_M_step_99 rfl 3 rfl ?_
          refine j_if_eq B d_M_step_100 rfl (fun h100 => absurd h100 (by decide)) (fun h100 => ?_)
          refine j_aload_n B d_M_step_103 rfl 0 rfl ?_
          refine gf_M_170 B (rG (ix := 0) hl rfl) rfl d_M_step_104 ?_
          refine j_iconst (v := 1) B d_M_step_107 (by decide) ?_
          refine j_iaddE (v := nI (di + 1)) B (nI_add di 1) d_M_step_108 ?_
          refine j_iconst (v := 3) B d_M_step_109 (by decide) ?_
          refine j_iandE (v := nI ((di + 1) % 4)) B (pk_andN (n := di + 1) (by omega) 2 (by decide)) d_M_step_110 ?_
          refine j_istore (L' := [(0, .ref (b + 133)), (1, .int m), (2, .int 1), (3, .int 1), (4, .int 1), (5, .int (nI ((di + 1) % 4))), (6, .int (xx + ((-1) * (jcs ((di + 1) % 4))))), (7, .int (yy + ((-1) * (jrs ((di + 1) % 4)))))]) B d_M_step_111 (by decide) [1, 2, 3, 4, 5, 0, 6, 7] rfl ?_
          refine j_aload_n B d_M_step_113 rfl 0 rfl ?_
          refine gf_M_167 B (rG (ix := 0) hl rfl) rfl d_M_step_114 ?_
          refine j_iload B d_M_step_117 4 rfl ?_
          refine j_iload B d_M_step_119 5 rfl ?_
          refine k_callS (as := [.int (nI ((di + 1) % 4))]) (rest := [.int 1, .int xx]) (st1 := [.int (jcs ((di + 1) % 4)), .int 1, .int xx]) B (c_M_acrossD (d := ((di + 1) % 4)) (Nat.mod_lt _ (by decide))) yf_M_across w_938 w_939 rfl (by decide) (by decide) rfl rfl (Nat.le_of_ble_eq_true rfl) d_M_step_121 ?_
          refine j_imul B d_M_step_124 ?_
          refine j_iadd B d_M_step_125 ?_
          refine j_istore (L' := [(0, .ref (b + 133)), (1, .int m), (2, .int 1), (3, .int 1), (4, .int 1), (5, .int (nI ((di + 1) % 4))), (6, .int (xx + (1 * (jcs ((di + 1) % 4))))), (7, .int (yy + ((-1) * (jrs ((di + 1) % 4)))))]) B d_M_step_126 (by decide) [1, 2, 3, 4, 5, 6, 0, 7] rfl ?_
          refine j_aload_n B d_M_step_128 rfl 0 rfl ?_
          refine gf_M_176 B (rG (ix := 0) hl rfl) rfl d_M_step_129 ?_
          refine j_iload B d_M_step_132 4 rfl ?_
          refine j_iload B d_M_step_134 5 rfl ?_
          refine k_callS (as := [.int (nI ((di + 1) % 4))]) (rest := [.int 1, .int yy]) (st1 := [.int (jrs ((di + 1) % 4)), .int 1, .int yy]) B (c_M_downD (d := ((di + 1) % 4)) (Nat.mod_lt _ (by decide))) yf_M_down w_941 w_942 rfl (by decide) (by decide) rfl rfl (Nat.le_of_ble_eq_true rfl) d_M_step_136 ?_
          refine j_imul B d_M_step_139 ?_
          refine j_iadd B d_M_step_140 ?_
          refine j_istore (L' := [(0, .ref (b + 133)), (1, .int m), (2, .int 1), (3, .int 1), (4, .int 1), (5, .int (nI ((di + 1) % 4))), (6, .int (xx + (1 * (jcs ((di + 1) % 4))))), (7, .int (yy + (1 * (jrs ((di + 1) % 4)))))]) B d_M_step_141 (by decide) [1, 2, 3, 4, 5, 6, 7, 0] rfl ?_
          refine j_aload_n B d_M_step_143 rfl 0 rfl ?_
          refine j_aload_n B d_M_step_144 rfl 0 rfl ?_
          refine gf_M_159 B (rG (ix := 0) hl rfl) rfl d_M_step_145 ?_
          have j166 : ∀ b2 : Int32, b2 = (if (pE bq (xx + ((-1) * (jcs ((di + 1) % 4)))) (yy + ((-1) * (jrs ((di + 1) % 4))))) = true then 1 else if (inF (xx + (1 * (jcs ((di + 1) % 4)))) (yy + (1 * (jrs ((di + 1) % 4))))) = true then 0 else 1) → jW l b D Γ False 0 0 8 (σ ++ rC b ta wt F0 F1 F2 HH kt kp a hi tm sN sx sy pt mn pl pN px py sn lt rc tx sz us G0 G1 G2 xx yy di true dn (pE bq (xx + ((-1) * (jcs ((di + 1) % 4)))) (yy + ((-1) * (jrs ((di + 1) % 4))))) op gs t0 fr lf pX pY pD pU X) [(0, .ref (b + 133)), (1, .int m), (2, .int 1), (3, .int 1), (4, .int 1), (5, .int (nI ((di + 1) % 4))), (6, .int (xx + (1 * (jcs ((di + 1) % 4))))), (7, .int (yy + (1 * (jrs ((di + 1) % 4)))))] 166 [.int b2, .ref (b + 133)] := by
            intro b2 e_b2
            have f166 : b2 = bI (pE (pE bq (xx + ((-1) * (jcs ((di + 1) % 4)))) (yy + ((-1) * (jrs ((di + 1) % 4))))) (xx + (1 * (jcs ((di + 1) % 4)))) (yy + (1 * (jrs ((di + 1) % 4))))) := by rw [e_b2]; exact bo_if
            subst f166
            refine pf_M_159 B not_false (rG (ix := 0) hl rfl) (by first | exact bI_nar _ | exact bI_fit _ | decide) (by first | exact bI_nar _ | exact bI_fit _ | decide) (Nat.le_of_ble_eq_true rfl) d_M_step_166 ?_
            refine jW.heap (σ2 := σ ++ rC b ta wt F0 F1 F2 HH kt kp a hi tm sN sx sy pt mn pl pN px py sn lt rc tx sz us G0 G1 G2 xx yy di true dn (pE (pE bq (xx + ((-1) * (jcs ((di + 1) % 4)))) (yy + ((-1) * (jrs ((di + 1) % 4))))) (xx + (1 * (jcs ((di + 1) % 4)))) (yy + (1 * (jrs ((di + 1) % 4))))) op gs t0 fr lf pX pY pD pU X) (rT (ix := 0) hl rfl) ?_
            refine j_aload_n B d_M_step_169 rfl 0 rfl ?_
            refine gf_M_182 B (rG (ix := 0) hl rfl) rfl d_M_step_170 ?_
            refine j_if_ne B d_M_step_173 rfl (fun h173 => ?_) (fun h173 => absurd h173 (by decide))
            refine j_iinc (L' := [(0, .ref (b + 133)), (1, .int m), (2, .int 1), (3, .int 1), (4, .int 3), (5, .int (nI ((di + 1) % 4))), (6, .int (xx + (1 * (jcs ((di + 1) % 4))))), (7, .int (yy + (1 * (jrs ((di + 1) % 4)))))]) (v := 3) B d_M_step_185 (k := 4) rfl (by decide) (by decide) [1, 2, 3, 4, 0, 5, 6, 7] rfl ?_
            refine j_goto B d_M_step_188 rfl ?_
            refine j_iload B d_M_step_93 4 rfl ?_
            refine j_iconst (v := 2) B d_M_step_95 (by decide) ?_
            refine j_icmp_ge B d_M_step_96 rfl (fun h96 => ?_) (fun h96 => absurd (by decide) h96)
            exact j_vret B K (by subst eg0 eg1 eg2 eb ex ey; simp only [bD_t, bE_e, sD_t]) d_M_step_191
          refine j_if_ne B d_M_step_148 rfl (fun h148 => ?_) (fun h148 => ?_)
          · -- 148 jump
            replace h148 := bI_t h148
            refine j_iconst (v := 1) B d_M_step_161 (by decide) ?_
            refine j_goto B d_M_step_162 rfl ?_
            exact j166 _ (by rw [if_pos h148])
          · -- 148 on
            replace h148 := bI_f h148
            refine j_iload B d_M_step_151 6 rfl ?_
            refine j_iload B d_M_step_153 7 rfl ?_
            refine k_callS (as := [.int (xx + (1 * (jcs ((di + 1) % 4)))), .int (yy + (1 * (jrs ((di + 1) % 4))))]) (rest := [.ref (b + 133)]) (st1 := [.int (bI (inF (xx + (1 * (jcs ((di + 1) % 4)))) (yy + (1 * (jrs ((di + 1) % 4)))))), .ref (b + 133)]) B (c_M_is (xx + (1 * (jcs ((di + 1) % 4)))) (yy + (1 * (jrs ((di + 1) % 4))))) yf_M_is w_899 w_900 rfl (by decide) (by decide) rfl rfl (Nat.le_of_ble_eq_true rfl) d_M_step_155 ?_
            refine j_if_ne B d_M_step_158 rfl (fun h158 => ?_) (fun h158 => ?_)
            · -- 158 jump
              replace h158 := bI_t h158
              refine j_iconst (v := 0) B d_M_step_165 (by decide) ?_
              exact j166 _ (by rw [if_neg (bF h148), if_pos h158])
            · -- 158 on
              replace h158 := bI_f h158
              refine j_iconst (v := 1) B d_M_step_161 (by decide) ?_
              refine j_goto B d_M_step_162 rfl ?_
              exact j166 _ (by rw [if_neg (bF h148), if_neg (bF h158)])
        · -- 173 on
          replace h173 := bI_f h173
          subst h173
          refine j_aload_n B d_M_step_176 rfl 0 rfl ?_
          refine j_iload B d_M_step_177 6 rfl ?_
          refine j_iload B d_M_step_179 7 rfl ?_
          refine j_iconst (v := 3) B d_M_step_181 (by decide) ?_
          refine k_callV (as := [.int (xx + ((-1) * (jcs ((di + 1) % 4)))), .int (yy + ((-1) * (jrs ((di + 1) % 4)))), .int 3]) (rest := []) (st1 := []) B (c_M_put hl (xx + ((-1) * (jcs ((di + 1) % 4)))) (yy + ((-1) * (jrs ((di + 1) % 4)))) 3) yf_M_put w_944 w_946 w_s39 rfl (rG (ix := 0) hl rfl) rfl (by decide) (by decide) rfl rfl (Nat.le_of_ble_eq_true rfl) d_M_step_182 ?_
          refine jW.heap (σ2 := σ ++ rC b ta wt F0 F1 F2 HH kt kp a hi tm sN sx sy pt mn pl pN px py sn lt rc tx sz us (pDr (pE bq (xx + ((-1) * (jcs ((di + 1) % 4)))) (yy + ((-1) * (jrs ((di + 1) % 4))))) G0 (xx + ((-1) * (jcs ((di + 1) % 4)))) (yy + ((-1) * (jrs ((di + 1) % 4)))) 3 1) (pDr (pE bq (xx + ((-1) * (jcs ((di + 1) % 4)))) (yy + ((-1) * (jrs ((di + 1) % 4))))) G1 (xx + ((-1) * (jcs ((di + 1) % 4)))) (yy + ((-1) * (jrs ((di + 1) % 4)))) 3 2) (pDr (pE bq (xx + ((-1) * (jcs ((di + 1) % 4)))) (yy + ((-1) * (jrs ((di + 1) % 4))))) G2 (xx + ((-1) * (jcs ((di + 1) % 4)))) (yy + ((-1) * (jrs ((di + 1) % 4)))) 3 3) xx yy di false dn (pE bq (xx + ((-1) * (jcs ((di + 1) % 4)))) (yy + ((-1) * (jrs ((di + 1) % 4))))) op gs t0 fr lf pX pY pD pU X) (by rw [pE_dup]) ?_
          refine j_iinc (L' := [(0, .ref (b + 133)), (1, .int m), (2, .int 1), (3, .int 1), (4, .int 1), (5, .int (nI ((di + 1) % 4))), (6, .int (xx + ((-1) * (jcs ((di + 1) % 4))))), (7, .int (yy + ((-1) * (jrs ((di + 1) % 4)))))]) (v := 1) B d_M_step_185 (k := 4) rfl (by decide) (by decide) [1, 2, 3, 4, 0, 5, 6, 7] rfl ?_
          refine j_goto B d_M_step_188 rfl ?_
          refine j_iload B d_M_step_93 4 rfl ?_
          refine j_iconst (v := 2) B d_M_step_95 (by decide) ?_
          refine j_icmp_ge B d_M_step_96 rfl (fun h96 => absurd h96 (by decide)) (fun h96 => ?_)
          refine j_iload_n B d_M_step_99 rfl 3 rfl ?_
          refine j_if_eq B d_M_step_100 rfl (fun h100 => absurd h100 (by decide)) (fun h100 => ?_)
          refine j_aload_n B d_M_step_103 rfl 0 rfl ?_
          refine gf_M_170 B (rG (ix := 0) hl rfl) rfl d_M_step_104 ?_
          refine j_iconst (v := 1) B d_M_step_107 (by decide) ?_
          refine j_iaddE (v := nI (di + 1)) B (nI_add di 1) d_M_step_108 ?_
          refine j_iconst (v := 3) B d_M_step_109 (by decide) ?_
          refine j_iandE (v := nI ((di + 1) % 4)) B (pk_andN (n := di + 1) (by omega) 2 (by decide)) d_M_step_110 ?_
          refine j_istore (L' := [(0, .ref (b + 133)), (1, .int m), (2, .int 1), (3, .int 1), (4, .int 1), (5, .int (nI ((di + 1) % 4))), (6, .int (xx + ((-1) * (jcs ((di + 1) % 4))))), (7, .int (yy + ((-1) * (jrs ((di + 1) % 4)))))]) B d_M_step_111 (by decide) [1, 2, 3, 4, 5, 0, 6, 7] rfl ?_
          refine j_aload_n B d_M_step_113 rfl 0 rfl ?_
          refine gf_M_167 B (rG (ix := 0) hl rfl) rfl d_M_step_114 ?_
          refine j_iload B d_M_step_117 4 rfl ?_
          refine j_iload B d_M_step_119 5 rfl ?_
          refine k_callS (as := [.int (nI ((di + 1) % 4))]) (rest := [.int 1, .int xx]) (st1 := [.int (jcs ((di + 1) % 4)), .int 1, .int xx]) B (c_M_acrossD (d := ((di + 1) % 4)) (Nat.mod_lt _ (by decide))) yf_M_across w_938 w_939 rfl (by decide) (by decide) rfl rfl (Nat.le_of_ble_eq_true rfl) d_M_step_121 ?_
          refine j_imul B d_M_step_124 ?_
          refine j_iadd B d_M_step_125 ?_
          refine j_istore (L' := [(0, .ref (b + 133)), (1, .int m), (2, .int 1), (3, .int 1), (4, .int 1), (5, .int (nI ((di + 1) % 4))), (6, .int (xx + (1 * (jcs ((di + 1) % 4))))), (7, .int (yy + ((-1) * (jrs ((di + 1) % 4)))))]) B d_M_step_126 (by decide) [1, 2, 3, 4, 5, 6, 0, 7] rfl ?_
          refine j_aload_n B d_M_step_128 rfl 0 rfl ?_
          refine gf_M_176 B (rG (ix := 0) hl rfl) rfl d_M_step_129 ?_
          refine j_iload B d_M_step_132 4 rfl ?_
          refine j_iload B d_M_step_134 5 rfl ?_
          refine k_callS (as := [.int (nI ((di + 1) % 4))]) (rest := [.int 1, .int yy]) (st1 := [.int (jrs ((di + 1) % 4)), .int 1, .int yy]) B (c_M_downD (d := ((di + 1) % 4)) (Nat.mod_lt _ (by decide))) yf_M_down w_941 w_942 rfl (by decide) (by decide) rfl rfl (Nat.le_of_ble_eq_true rfl) d_M_step_136 ?_
          refine j_imul B d_M_step_139 ?_
          refine j_iadd B d_M_step_140 ?_
          refine j_istore (L' := [(0, .ref (b + 133)), (1, .int m), (2, .int 1), (3, .int 1), (4, .int 1), (5, .int (nI ((di + 1) % 4))), (6, .int (xx + (1 * (jcs ((di + 1) % 4))))), (7, .int (yy + (1 * (jrs ((di + 1) % 4)))))]) B d_M_step_141 (by decide) [1, 2, 3, 4, 5, 6, 7, 0] rfl ?_
          refine j_aload_n B d_M_step_143 rfl 0 rfl ?_
          refine j_aload_n B d_M_step_144 rfl 0 rfl ?_
          refine gf_M_159 B (rG (ix := 0) hl rfl) rfl d_M_step_145 ?_
          have j166 : ∀ b2 : Int32, b2 = (if (pE bq (xx + ((-1) * (jcs ((di + 1) % 4)))) (yy + ((-1) * (jrs ((di + 1) % 4))))) = true then 1 else if (inF (xx + (1 * (jcs ((di + 1) % 4)))) (yy + (1 * (jrs ((di + 1) % 4))))) = true then 0 else 1) → jW l b D Γ False 0 0 8 (σ ++ rC b ta wt F0 F1 F2 HH kt kp a hi tm sN sx sy pt mn pl pN px py sn lt rc tx sz us (pDr (pE bq (xx + ((-1) * (jcs ((di + 1) % 4)))) (yy + ((-1) * (jrs ((di + 1) % 4))))) G0 (xx + ((-1) * (jcs ((di + 1) % 4)))) (yy + ((-1) * (jrs ((di + 1) % 4)))) 3 1) (pDr (pE bq (xx + ((-1) * (jcs ((di + 1) % 4)))) (yy + ((-1) * (jrs ((di + 1) % 4))))) G1 (xx + ((-1) * (jcs ((di + 1) % 4)))) (yy + ((-1) * (jrs ((di + 1) % 4)))) 3 2) (pDr (pE bq (xx + ((-1) * (jcs ((di + 1) % 4)))) (yy + ((-1) * (jrs ((di + 1) % 4))))) G2 (xx + ((-1) * (jcs ((di + 1) % 4)))) (yy + ((-1) * (jrs ((di + 1) % 4)))) 3 3) xx yy di false dn (pE bq (xx + ((-1) * (jcs ((di + 1) % 4)))) (yy + ((-1) * (jrs ((di + 1) % 4))))) op gs t0 fr lf pX pY pD pU X) [(0, .ref (b + 133)), (1, .int m), (2, .int 1), (3, .int 1), (4, .int 1), (5, .int (nI ((di + 1) % 4))), (6, .int (xx + (1 * (jcs ((di + 1) % 4))))), (7, .int (yy + (1 * (jrs ((di + 1) % 4)))))] 166 [.int b2, .ref (b + 133)] := by
            intro b2 e_b2
            have f166 : b2 = bI (pE (pE bq (xx + ((-1) * (jcs ((di + 1) % 4)))) (yy + ((-1) * (jrs ((di + 1) % 4))))) (xx + (1 * (jcs ((di + 1) % 4)))) (yy + (1 * (jrs ((di + 1) % 4))))) := by rw [e_b2]; exact bo_if
            subst f166
            refine pf_M_159 B not_false (rG (ix := 0) hl rfl) (by first | exact bI_nar _ | exact bI_fit _ | decide) (by first | exact bI_nar _ | exact bI_fit _ | decide) (Nat.le_of_ble_eq_true rfl) d_M_step_166 ?_
            refine jW.heap (σ2 := σ ++ rC b ta wt F0 F1 F2 HH kt kp a hi tm sN sx sy pt mn pl pN px py sn lt rc tx sz us (pDr (pE bq (xx + ((-1) * (jcs ((di + 1) % 4)))) (yy + ((-1) * (jrs ((di + 1) % 4))))) G0 (xx + ((-1) * (jcs ((di + 1) % 4)))) (yy + ((-1) * (jrs ((di + 1) % 4)))) 3 1) (pDr (pE bq (xx + ((-1) * (jcs ((di + 1) % 4)))) (yy + ((-1) * (jrs ((di + 1) % 4))))) G1 (xx + ((-1) * (jcs ((di + 1) % 4)))) (yy + ((-1) * (jrs ((di + 1) % 4)))) 3 2) (pDr (pE bq (xx + ((-1) * (jcs ((di + 1) % 4)))) (yy + ((-1) * (jrs ((di + 1) % 4))))) G2 (xx + ((-1) * (jcs ((di + 1) % 4)))) (yy + ((-1) * (jrs ((di + 1) % 4)))) 3 3) xx yy di false dn (pE (pE bq (xx + ((-1) * (jcs ((di + 1) % 4)))) (yy + ((-1) * (jrs ((di + 1) % 4))))) (xx + (1 * (jcs ((di + 1) % 4)))) (yy + (1 * (jrs ((di + 1) % 4))))) op gs t0 fr lf pX pY pD pU X) (rT (ix := 0) hl rfl) ?_
            refine j_aload_n B d_M_step_169 rfl 0 rfl ?_
            refine gf_M_182 B (rG (ix := 0) hl rfl) rfl d_M_step_170 ?_
            refine j_if_ne B d_M_step_173 rfl (fun h173 => absurd rfl h173) (fun h173 => ?_)
            refine j_aload_n B d_M_step_176 rfl 0 rfl ?_
            refine j_iload B d_M_step_177 6 rfl ?_
            refine j_iload B d_M_step_179 7 rfl ?_
            refine j_iconst (v := 3) B d_M_step_181 (by decide) ?_
            refine k_callV (as := [.int (xx + (1 * (jcs ((di + 1) % 4)))), .int (yy + (1 * (jrs ((di + 1) % 4)))), .int 3]) (rest := []) (st1 := []) B (c_M_put hl (xx + (1 * (jcs ((di + 1) % 4)))) (yy + (1 * (jrs ((di + 1) % 4)))) 3) yf_M_put w_944 w_946 w_s39 rfl (rG (ix := 0) hl rfl) rfl (by decide) (by decide) rfl rfl (Nat.le_of_ble_eq_true rfl) d_M_step_182 ?_
            refine jW.heap (σ2 := σ ++ rC b ta wt F0 F1 F2 HH kt kp a hi tm sN sx sy pt mn pl pN px py sn lt rc tx sz us (pDr (pE (pE bq (xx + ((-1) * (jcs ((di + 1) % 4)))) (yy + ((-1) * (jrs ((di + 1) % 4))))) (xx + (1 * (jcs ((di + 1) % 4)))) (yy + (1 * (jrs ((di + 1) % 4))))) (pDr (pE bq (xx + ((-1) * (jcs ((di + 1) % 4)))) (yy + ((-1) * (jrs ((di + 1) % 4))))) G0 (xx + ((-1) * (jcs ((di + 1) % 4)))) (yy + ((-1) * (jrs ((di + 1) % 4)))) 3 1) (xx + (1 * (jcs ((di + 1) % 4)))) (yy + (1 * (jrs ((di + 1) % 4)))) 3 1) (pDr (pE (pE bq (xx + ((-1) * (jcs ((di + 1) % 4)))) (yy + ((-1) * (jrs ((di + 1) % 4))))) (xx + (1 * (jcs ((di + 1) % 4)))) (yy + (1 * (jrs ((di + 1) % 4))))) (pDr (pE bq (xx + ((-1) * (jcs ((di + 1) % 4)))) (yy + ((-1) * (jrs ((di + 1) % 4))))) G1 (xx + ((-1) * (jcs ((di + 1) % 4)))) (yy + ((-1) * (jrs ((di + 1) % 4)))) 3 2) (xx + (1 * (jcs ((di + 1) % 4)))) (yy + (1 * (jrs ((di + 1) % 4)))) 3 2) (pDr (pE (pE bq (xx + ((-1) * (jcs ((di + 1) % 4)))) (yy + ((-1) * (jrs ((di + 1) % 4))))) (xx + (1 * (jcs ((di + 1) % 4)))) (yy + (1 * (jrs ((di + 1) % 4))))) (pDr (pE bq (xx + ((-1) * (jcs ((di + 1) % 4)))) (yy + ((-1) * (jrs ((di + 1) % 4))))) G2 (xx + ((-1) * (jcs ((di + 1) % 4)))) (yy + ((-1) * (jrs ((di + 1) % 4)))) 3 3) (xx + (1 * (jcs ((di + 1) % 4)))) (yy + (1 * (jrs ((di + 1) % 4)))) 3 3) xx yy di false dn (pE (pE bq (xx + ((-1) * (jcs ((di + 1) % 4)))) (yy + ((-1) * (jrs ((di + 1) % 4))))) (xx + (1 * (jcs ((di + 1) % 4)))) (yy + (1 * (jrs ((di + 1) % 4))))) op gs t0 fr lf pX pY pD pU X) (by rw [pE_dup]) ?_
            refine j_iinc (L' := [(0, .ref (b + 133)), (1, .int m), (2, .int 1), (3, .int 1), (4, .int 3), (5, .int (nI ((di + 1) % 4))), (6, .int (xx + (1 * (jcs ((di + 1) % 4))))), (7, .int (yy + (1 * (jrs ((di + 1) % 4)))))]) (v := 3) B d_M_step_185 (k := 4) rfl (by decide) (by decide) [1, 2, 3, 4, 0, 5, 6, 7] rfl ?_
            refine j_goto B d_M_step_188 rfl ?_
            refine j_iload B d_M_step_93 4 rfl ?_
            refine j_iconst (v := 2) B d_M_step_95 (by decide) ?_
            refine j_icmp_ge B d_M_step_96 rfl (fun h96 => ?_) (fun h96 => absurd (by decide) h96)
            exact j_vret B K (by subst eg0 eg1 eg2 eb ex ey; simp only [bD_f, bE_e, sD_f]) d_M_step_191
          refine j_if_ne B d_M_step_148 rfl (fun h148 => ?_) (fun h148 => ?_)
          · -- 148 jump
            replace h148 := bI_t h148
            refine j_iconst (v := 1) B d_M_step_161 (by decide) ?_
            refine j_goto B d_M_step_162 rfl ?_
            exact j166 _ (by rw [if_pos h148])
          · -- 148 on
            replace h148 := bI_f h148
            refine j_iload B d_M_step_151 6 rfl ?_
            refine j_iload B d_M_step_153 7 rfl ?_
            refine k_callS (as := [.int (xx + (1 * (jcs ((di + 1) % 4)))), .int (yy + (1 * (jrs ((di + 1) % 4))))]) (rest := [.ref (b + 133)]) (st1 := [.int (bI (inF (xx + (1 * (jcs ((di + 1) % 4)))) (yy + (1 * (jrs ((di + 1) % 4)))))), .ref (b + 133)]) B (c_M_is (xx + (1 * (jcs ((di + 1) % 4)))) (yy + (1 * (jrs ((di + 1) % 4))))) yf_M_is w_899 w_900 rfl (by decide) (by decide) rfl rfl (Nat.le_of_ble_eq_true rfl) d_M_step_155 ?_
            refine j_if_ne B d_M_step_158 rfl (fun h158 => ?_) (fun h158 => ?_)
            · -- 158 jump
              replace h158 := bI_t h158
              refine j_iconst (v := 0) B d_M_step_165 (by decide) ?_
              exact j166 _ (by rw [if_neg (bF h148), if_pos h158])
            · -- 158 on
              replace h158 := bI_f h158
              refine j_iconst (v := 1) B d_M_step_161 (by decide) ?_
              refine j_goto B d_M_step_162 rfl ?_
              exact j166 _ (by rw [if_neg (bF h148), if_neg (bF h158)])
      refine j_if_ne B d_M_step_148 rfl (fun h148 => ?_) (fun h148 => ?_)
      · -- 148 jump
        replace h148 := bI_t h148
        refine j_iconst (v := 1) B d_M_step_161 (by decide) ?_
        refine j_goto B d_M_step_162 rfl ?_
        exact j166 _ (by rw [if_pos h148])
      · -- 148 on
        replace h148 := bI_f h148
        refine j_iload B d_M_step_151 6 rfl ?_
        refine j_iload B d_M_step_153 7 rfl ?_
        refine k_callS (as := [.int (xx + ((-1) * (jcs ((di + 1) % 4)))), .int (yy + ((-1) * (jrs ((di + 1) % 4))))]) (rest := [.ref (b + 133)]) (st1 := [.int (bI (inF (xx + ((-1) * (jcs ((di + 1) % 4)))) (yy + ((-1) * (jrs ((di + 1) % 4)))))), .ref (b + 133)]) B (c_M_is (xx + ((-1) * (jcs ((di + 1) % 4)))) (yy + ((-1) * (jrs ((di + 1) % 4))))) yf_M_is w_899 w_900 rfl (by decide) (by decide) rfl rfl (Nat.le_of_ble_eq_true rfl) d_M_step_155 ?_
        refine j_if_ne B d_M_step_158 rfl (fun h158 => ?_) (fun h158 => ?_)
        · -- 158 jump
          replace h158 := bI_t h158
          refine j_iconst (v := 0) B d_M_step_165 (by decide) ?_
          exact j166 _ (by rw [if_neg (bF h148), if_pos h158])
        · -- 158 on
          replace h158 := bI_f h158
          refine j_iconst (v := 1) B d_M_step_161 (by decide) ?_
          refine j_goto B d_M_step_162 rfl ?_
          exact j166 _ (by rw [if_neg (bF h148), if_neg (bF h158)])
    refine j_iload_n B d_M_step_66 rfl 2 rfl ?_
    refine j_if_eq B d_M_step_67 rfl (fun h67 => absurd h67 (by decide)) (fun h67 => ?_)
    refine j_aload_n B d_M_step_70 rfl 0 rfl ?_
    refine gf_M_182 B (rG (ix := 0) hl rfl) rfl d_M_step_71 ?_
    refine j_if_ne B d_M_step_74 rfl (fun h74 => ?_) (fun h74 => ?_)
    · -- 74 jump
      replace h74 := bI_t h74
      subst h74
      exact jn90 (qx + (m * (jcs di))) (qy + (m * (jrs di))) (pE be (qx + (m * (jcs di))) (qy + (m * (jrs di)))) D0 D1 D2 rfl rfl rfl sD_t.symm sD_t.symm sD_t.symm
    · -- 74 on
      replace h74 := bI_f h74
      subst h74
      refine j_aload_n B d_M_step_77 rfl 0 rfl ?_
      refine j_aload_n B d_M_step_78 rfl 0 rfl ?_
      refine gf_M_167 B (rG (ix := 0) hl rfl) rfl d_M_step_79 ?_
      refine j_aload_n B d_M_step_82 rfl 0 rfl ?_
      refine gf_M_176 B (rG (ix := 0) hl rfl) rfl d_M_step_83 ?_
      refine j_iconst (v := 3) B d_M_step_86 (by decide) ?_
      refine k_callV (as := [.int (qx + (m * (jcs di))), .int (qy + (m * (jrs di))), .int 3]) (rest := []) (st1 := []) B (c_M_put hl (qx + (m * (jcs di))) (qy + (m * (jrs di))) 3) yf_M_put w_944 w_946 w_s39 rfl (rG (ix := 0) hl rfl) rfl (by decide) (by decide) rfl rfl (Nat.le_of_ble_eq_true rfl) d_M_step_87 ?_
      refine jW.heap (σ2 := σ ++ rC b ta wt F0 F1 F2 HH kt kp a hi tm sN sx sy pt mn pl pN px py sn lt rc tx sz us (pDr (pE be (qx + (m * (jcs di))) (qy + (m * (jrs di)))) D0 (qx + (m * (jcs di))) (qy + (m * (jrs di))) 3 1) (pDr (pE be (qx + (m * (jcs di))) (qy + (m * (jrs di)))) D1 (qx + (m * (jcs di))) (qy + (m * (jrs di))) 3 2) (pDr (pE be (qx + (m * (jcs di))) (qy + (m * (jrs di)))) D2 (qx + (m * (jcs di))) (qy + (m * (jrs di))) 3 3) (qx + (m * (jcs di))) (qy + (m * (jrs di))) di false dn (pE be (qx + (m * (jcs di))) (qy + (m * (jrs di)))) op gs t0 fr lf pX pY pD pU X) (by rw [pE_dup]) ?_
      exact jn90 (qx + (m * (jcs di))) (qy + (m * (jrs di))) (pE be (qx + (m * (jcs di))) (qy + (m * (jrs di)))) (pDr (pE be (qx + (m * (jcs di))) (qy + (m * (jrs di)))) D0 (qx + (m * (jcs di))) (qy + (m * (jrs di))) 3 1) (pDr (pE be (qx + (m * (jcs di))) (qy + (m * (jrs di)))) D1 (qx + (m * (jcs di))) (qy + (m * (jrs di))) 3 2) (pDr (pE be (qx + (m * (jcs di))) (qy + (m * (jrs di)))) D2 (qx + (m * (jcs di))) (qy + (m * (jrs di))) 3 3) rfl rfl rfl sD_f.symm sD_f.symm sD_f.symm
  refine j_if_ne B d_M_step_41 rfl (fun h41 => ?_) (fun h41 => ?_)
  · -- 41 jump
    replace h41 := bI_t h41
    refine j_iconst (v := 1) B d_M_step_58 (by decide) ?_
    refine j_goto B d_M_step_59 rfl ?_
    exact j63 _ (by rw [if_pos h41])
  · -- 41 on
    replace h41 := bI_f h41
    refine j_aload_n B d_M_step_44 rfl 0 rfl ?_
    refine gf_M_167 B (rG (ix := 0) hl rfl) rfl d_M_step_45 ?_
    refine j_aload_n B d_M_step_48 rfl 0 rfl ?_
    refine gf_M_176 B (rG (ix := 0) hl rfl) rfl d_M_step_49 ?_
    refine k_callS (as := [.int (qx + (m * (jcs di))), .int (qy + (m * (jrs di)))]) (rest := [.ref (b + 133)]) (st1 := [.int (bI (inF (qx + (m * (jcs di))) (qy + (m * (jrs di))))), .ref (b + 133)]) B (c_M_is (qx + (m * (jcs di))) (qy + (m * (jrs di)))) yf_M_is w_899 w_900 rfl (by decide) (by decide) rfl rfl (Nat.le_of_ble_eq_true rfl) d_M_step_52 ?_
    refine j_if_ne B d_M_step_55 rfl (fun h55 => ?_) (fun h55 => ?_)
    · -- 55 jump
      replace h55 := bI_t h55
      refine j_iconst (v := 0) B d_M_step_62 (by decide) ?_
      exact j63 _ (by rw [if_neg (bF h41), if_pos h55])
    · -- 55 on
      replace h55 := bI_f h55
      refine j_iconst (v := 1) B d_M_step_58 (by decide) ?_
      refine j_goto B d_M_step_59 rfl ?_
      exact j63 _ (by rw [if_neg (bF h41), if_neg (bF h55)])
