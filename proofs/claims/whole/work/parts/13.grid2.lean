set_option maxRecDepth 100000 in
set_option maxHeartbeats 4000000 in
theorem c_Int_bitCount {l : Launch} {b : Nat} {D : va_G} {ta : Nat → ClassId} {σ : List va_E} (x : Int32) : jC l b D ta False y_Int_bitCount b_Int_bitCount 1 (some .int) (rL 0) [.int x] (σ) (some (.int (bcF x))) (σ) := by
  refine jC_ofF (own := "java/lang/Integer") (by decide +kernel) (Nat.le_of_ble_eq_true rfl) rfl (fun Γ B K => ?_)
  change jW l b D Γ False 0 0 1 (σ) [(0, .int x)] 0 []
  refine j_iload_n B d_Int_bitCount_0 rfl 0 rfl ?_
  refine j_iload_n B d_Int_bitCount_1 rfl 0 rfl ?_
  refine j_iconst (v := 1) B d_Int_bitCount_2 (by decide) ?_
  refine j_iushr B d_Int_bitCount_3 rfl ?_
  refine j_ldcw B w_338 d_Int_bitCount_4 ?_
  refine j_iand B d_Int_bitCount_7 ?_
  refine j_isub B d_Int_bitCount_8 ?_
  refine j_topi (fun x1 e_x1 => ?_)
  refine j_istore_n (L' := [(0, .int x1)]) B d_Int_bitCount_9 rfl (by decide) [0] rfl ?_
  refine j_iload_n B d_Int_bitCount_10 rfl 0 rfl ?_
  refine j_ldcw B w_339 d_Int_bitCount_11 ?_
  refine j_iand B d_Int_bitCount_14 ?_
  refine j_iload_n B d_Int_bitCount_15 rfl 0 rfl ?_
  refine j_iconst (v := 2) B d_Int_bitCount_16 (by decide) ?_
  refine j_iushr B d_Int_bitCount_17 rfl ?_
  refine j_ldcw B w_339 d_Int_bitCount_18 ?_
  refine j_iand B d_Int_bitCount_21 ?_
  refine j_iadd B d_Int_bitCount_22 ?_
  refine j_topi (fun x2 e_x2 => ?_)
  refine j_istore_n (L' := [(0, .int x2)]) B d_Int_bitCount_23 rfl (by decide) [0] rfl ?_
  refine j_iload_n B d_Int_bitCount_24 rfl 0 rfl ?_
  refine j_iload_n B d_Int_bitCount_25 rfl 0 rfl ?_
  refine j_iconst (v := 4) B d_Int_bitCount_26 (by decide) ?_
  refine j_iushr B d_Int_bitCount_27 rfl ?_
  refine j_iadd B d_Int_bitCount_28 ?_
  refine j_ldcw B w_340 d_Int_bitCount_29 ?_
  refine j_iand B d_Int_bitCount_32 ?_
  refine j_topi (fun x3 e_x3 => ?_)
  refine j_istore_n (L' := [(0, .int x3)]) B d_Int_bitCount_33 rfl (by decide) [0] rfl ?_
  refine j_iload_n B d_Int_bitCount_34 rfl 0 rfl ?_
  refine j_iload_n B d_Int_bitCount_35 rfl 0 rfl ?_
  refine j_bipush (v := 8) B d_Int_bitCount_36 (by decide) ?_
  refine j_iushr B d_Int_bitCount_38 rfl ?_
  refine j_iadd B d_Int_bitCount_39 ?_
  refine j_topi (fun x4 e_x4 => ?_)
  refine j_istore_n (L' := [(0, .int x4)]) B d_Int_bitCount_40 rfl (by decide) [0] rfl ?_
  refine j_iload_n B d_Int_bitCount_41 rfl 0 rfl ?_
  refine j_iload_n B d_Int_bitCount_42 rfl 0 rfl ?_
  refine j_bipush (v := 16) B d_Int_bitCount_43 (by decide) ?_
  refine j_iushr B d_Int_bitCount_45 rfl ?_
  refine j_iadd B d_Int_bitCount_46 ?_
  refine j_topi (fun x5 e_x5 => ?_)
  refine j_istore_n (L' := [(0, .int x5)]) B d_Int_bitCount_47 rfl (by decide) [0] rfl ?_
  refine j_iload_n B d_Int_bitCount_48 rfl 0 rfl ?_
  refine j_bipush (v := 63) B d_Int_bitCount_49 (by decide) ?_
  refine j_iand B d_Int_bitCount_51 ?_
  exact j_iret B K (by rw [show x5 = bc5 x4 from e_x5, show x4 = bc4 x3 from e_x4, show x3 = bc3 x2 from e_x3, show x2 = bc2 x1 from e_x2, show x1 = bc1 x from e_x1]; rfl) rfl d_Int_bitCount_52
set_option maxRecDepth 100000 in
set_option maxHeartbeats 4000000 in
theorem c_Math_min {l : Launch} {b : Nat} {D : va_G} {ta : Nat → ClassId} {σ : List va_E} (x y : Int32) : jC l b D ta False y_Math_min b_Math_min 2 (some .int) (rL 0) [.int x, .int y] (σ) (some (.int (mnF x y))) (σ) := by
  refine jC_ofF (own := "java/lang/Math") (by decide +kernel) (Nat.le_of_ble_eq_true rfl) rfl (fun Γ B K => ?_)
  change jW l b D Γ False 0 0 2 (σ) [(0, .int x), (1, .int y)] 0 []
  refine j_iload_n B d_Math_min_0 rfl 0 rfl ?_
  refine j_iload_n B d_Math_min_1 rfl 1 rfl ?_
  refine j_icmp_gt B d_Math_min_2 rfl (fun h2 => ?_) (fun h2 => ?_)
  · -- 2 jump
    refine j_iload_n B d_Math_min_9 rfl 1 rfl ?_
    exact j_iret B K (by simp [mnF, h2]) rfl d_Math_min_10
  · -- 2 on
    refine j_iload_n B d_Math_min_5 rfl 0 rfl ?_
    refine j_goto B d_Math_min_6 rfl ?_
    exact j_iret B K (by simp [mnF, h2]) rfl d_Math_min_10
set_option maxRecDepth 100000 in
set_option maxHeartbeats 4000000 in
theorem c_Math_floorMod {l : Launch} {b : Nat} {D : va_G} {ta : Nat → ClassId} {σ : List va_E} {T : Nat} (hT : T < 2 ^ 31) : jC l b D ta False y_Math_floorMod b_Math_floorMod 3 (some .int) (rL 0) [.int (nI T), .int 16] (σ) (some (.int (nI (T % 16)))) (σ) := by
  refine jC_ofF (own := "java/lang/Math") (by decide +kernel) (Nat.le_of_ble_eq_true rfl) rfl (fun Γ B K => ?_)
  change jW l b D Γ False 0 0 3 (σ) [(0, .int (nI T)), (1, .int 16)] 0 []
  refine j_iload_n B d_Math_floorMod_0 rfl 0 rfl ?_
  refine j_iload_n B d_Math_floorMod_1 rfl 1 rfl ?_
  refine j_iremE (v := nI (T % 16)) B (by decide) (pk_rem (a := T) (d := 16) (by omega) (by decide) (by decide)) d_Math_floorMod_2 ?_
  refine j_istore_n (L' := [(0, .int (nI T)), (1, .int 16), (2, .int (nI (T % 16)))]) B d_Math_floorMod_3 rfl (by decide) [1, 2, 0] rfl ?_
  refine j_iload_n B d_Math_floorMod_4 rfl 0 rfl ?_
  refine j_iload_n B d_Math_floorMod_5 rfl 1 rfl ?_
  refine j_ixor B d_Math_floorMod_6 ?_
  refine j_if_ge B d_Math_floorMod_7 rfl (fun h7 => ?_) (fun h7 => absurd (fm_nn hT) h7)
  refine j_iload_n B d_Math_floorMod_18 rfl 2 rfl ?_
  exact j_iret B K rfl rfl d_Math_floorMod_19
set_option maxRecDepth 100000 in
set_option maxHeartbeats 4000000 in
theorem c_G_isSameAs {l : Launch} {b : Nat} {D : va_G} {ta : Nat → ClassId} {σ : List va_E} {g h t w g2 h2 t2 w2 : Nat} {F0 F1 F2 E0 E1 E2 : Nat → Int32} (hg : σ[g]? = some (.inr (0, [.ref (b + h), .ref (b + t), .ref (b + w)]))) (hh : σ[h]? = some (.inl (ta 0, 24, .inl F0))) (ht : σ[t]? = some (.inl (ta 0, 24, .inl F1))) (hw : σ[w]? = some (.inl (ta 0, 24, .inl F2))) (hg2 : σ[g2]? = some (.inr (0, [.ref (b + h2), .ref (b + t2), .ref (b + w2)]))) (hh2 : σ[h2]? = some (.inl (ta 0, 24, .inl E0))) (ht2 : σ[t2]? = some (.inl (ta 0, 24, .inl E1))) (hw2 : σ[w2]? = some (.inl (ta 0, 24, .inl E2))) : jC l b D ta False y_G_isSameAs b_G_isSameAs 3 (some .boolean) (rL 0) [.ref (b + g), .ref (b + g2)] (σ) (some (.int (bI (gEq F0 F1 F2 E0 E1 E2)))) (σ) := by
  refine jC_of (own := "WireField$Grid") (by decide +kernel) (Nat.le_of_ble_eq_true rfl) rfl (fun Γ B K => ?_)
  change jW l b D Γ False 0 0 3 (σ) [(0, .ref (b + g)), (1, .ref (b + g2))] 0 []
  refine j_iconst (v := 0) B d_G_isSameAs_0 (by decide) ?_
  refine j_istore_n (L' := [(0, .ref (b + g)), (1, .ref (b + g2)), (2, .int 0)]) B d_G_isSameAs_1 rfl (by decide) [1, 2, 0] rfl ?_
  have lp2 : ∀ (n2 : Nat) (k : Nat), 24 - k = n2 → (k ≤ 24) → (∀ j, j < k → F0 j = E0 j ∧ F1 j = E1 j ∧ F2 j = E2 j) → jW l b D Γ False 0 0 3 (σ) [(0, .ref (b + g)), (1, .ref (b + g2)), (2, .int (nI k))] 2 [] := by
    refine jloop (fun n2 ih2 => ?_)
    intro k hn2 hk hI
    refine j_iload_n B d_G_isSameAs_2 rfl 2 rfl ?_
    refine j_bipush (v := 24) B d_G_isSameAs_3 (by decide) ?_
    refine j_icmp_ge B d_G_isSameAs_5 rfl (fun h5 => ?_) (fun h5 => ?_)
    · -- 5 jump
      have hk24 := lp_ge (n := 24) (by decide) hk h5
      subst hk24
      refine j_iconst (v := 1) B d_G_isSameAs_61 (by decide) ?_
      exact j_zret B K (by decide) (by rw [gEq_t hI]; rfl) rfl d_G_isSameAs_62
    · -- 5 on
      have hk24 := lp_lt (n := 24) (by decide) hk h5
      refine j_aload_n B d_G_isSameAs_8 rfl 0 rfl ?_
      refine gf_G_9 B hg rfl d_G_isSameAs_9 ?_
      refine j_iload_n B d_G_isSameAs_12 rfl 2 rfl ?_
      refine j_ialdN B rfl hh (by omega) d_G_isSameAs_13 ?_
      refine j_aload_n B d_G_isSameAs_14 rfl 1 rfl ?_
      refine gf_G_9 B hg2 rfl d_G_isSameAs_15 ?_
      refine j_iload_n B d_G_isSameAs_18 rfl 2 rfl ?_
      refine j_ialdN B rfl hh2 (by omega) d_G_isSameAs_19 ?_
      refine j_icmp_ne B d_G_isSameAs_20 rfl (fun h20 => ?_) (fun h20 => ?_)
      · -- 20 jump
        refine j_iconst (v := 0) B d_G_isSameAs_53 (by decide) ?_
        exact j_zret B K (by decide) (by rw [gEq_f hk24 (fun q => by simp_all)]; rfl) rfl d_G_isSameAs_54
      · -- 20 on
        refine j_aload_n B d_G_isSameAs_23 rfl 0 rfl ?_
        refine gf_G_15 B hg rfl d_G_isSameAs_24 ?_
        refine j_iload_n B d_G_isSameAs_27 rfl 2 rfl ?_
        refine j_ialdN B rfl ht (by omega) d_G_isSameAs_28 ?_
        refine j_aload_n B d_G_isSameAs_29 rfl 1 rfl ?_
        refine gf_G_15 B hg2 rfl d_G_isSameAs_30 ?_
        refine j_iload_n B d_G_isSameAs_33 rfl 2 rfl ?_
        refine j_ialdN B rfl ht2 (by omega) d_G_isSameAs_34 ?_
        refine j_icmp_ne B d_G_isSameAs_35 rfl (fun h35 => ?_) (fun h35 => ?_)
        · -- 35 jump
          refine j_iconst (v := 0) B d_G_isSameAs_53 (by decide) ?_
          exact j_zret B K (by decide) (by rw [gEq_f hk24 (fun q => by simp_all)]; rfl) rfl d_G_isSameAs_54
        · -- 35 on
          refine j_aload_n B d_G_isSameAs_38 rfl 0 rfl ?_
          refine gf_G_18 B hg rfl d_G_isSameAs_39 ?_
          refine j_iload_n B d_G_isSameAs_42 rfl 2 rfl ?_
          refine j_ialdN B rfl hw (by omega) d_G_isSameAs_43 ?_
          refine j_aload_n B d_G_isSameAs_44 rfl 1 rfl ?_
          refine gf_G_18 B hg2 rfl d_G_isSameAs_45 ?_
          refine j_iload_n B d_G_isSameAs_48 rfl 2 rfl ?_
          refine j_ialdN B rfl hw2 (by omega) d_G_isSameAs_49 ?_
          refine j_icmp_eq B d_G_isSameAs_50 rfl (fun h50 => ?_) (fun h50 => ?_)
          · -- 50 jump
            refine j_iinc (L' := [(0, .ref (b + g)), (1, .ref (b + g2)), (2, .int (nI (k + 1)))]) (v := nI (k + 1)) B d_G_isSameAs_55 (k := 2) rfl (nI_succ k).symm (by decide) [1, 2, 0] rfl ?_
            refine j_goto B d_G_isSameAs_58 rfl ?_
            exact ih2 _ (by omega) (k + 1) rfl (by omega) (lt_s hI ⟨h20, h35, h50⟩)
          · -- 50 on
            refine j_iconst (v := 0) B d_G_isSameAs_53 (by decide) ?_
            exact j_zret B K (by decide) (by rw [gEq_f hk24 (fun q => by simp_all)]; rfl) rfl d_G_isSameAs_54
  exact lp2 _ 0 rfl (by omega) (fun j h => absurd h (Nat.not_lt_zero j))
set_option maxRecDepth 100000 in
set_option maxHeartbeats 4000000 in
theorem c_G_count {l : Launch} {b : Nat} {D : va_G} {ta : Nat → ClassId} {σ : List va_E} {g h t w : Nat} {F0 F1 F2 : Nat → Int32} (hg : σ[g]? = some (.inr (0, [.ref (b + h), .ref (b + t), .ref (b + w)]))) (hh : σ[h]? = some (.inl (ta 0, 24, .inl F0))) (ht : σ[t]? = some (.inl (ta 0, 24, .inl F1))) (hw : σ[w]? = some (.inl (ta 0, 24, .inl F2))) (v : Int32) : jC l b D ta False y_G_count b_G_count 5 (some .int) (rL 1) [.ref (b + g), .int v] (σ) (some (.int (cntF (selF F0 F1 F2 v) 24))) (σ) := by
  refine jC_of (own := "WireField$Grid") (by decide +kernel) (Nat.le_of_ble_eq_true rfl) rfl (fun Γ B K => ?_)
  change jW l b D Γ False 0 0 5 (σ) [(0, .ref (b + g)), (1, .int v)] 0 []
  refine j_iconst (v := 0) B d_G_count_0 (by decide) ?_
  refine j_istore_n (L' := [(0, .ref (b + g)), (1, .int v), (2, .int 0)]) B d_G_count_1 rfl (by decide) [1, 2, 0] rfl ?_
  refine j_iconst (v := 0) B d_G_count_2 (by decide) ?_
  refine j_istore_n (L' := [(0, .ref (b + g)), (1, .int v), (2, .int 0), (3, .int 0)]) B d_G_count_3 rfl (by decide) [1, 2, 3, 0] rfl ?_
  have lp4 : ∀ (n4 : Nat) (k : Nat) (acc : Int32), 24 - k = n4 → (k ≤ 24) → (acc = cntF (selF F0 F1 F2 v) k) → jW l b D Γ False 0 0 5 (σ) [(0, .ref (b + g)), (1, .int v), (2, .int acc), (3, .int (nI k))] 4 [] := by
    refine jloop (fun n4 ih4 => ?_)
    intro k acc hn4 hk ha
    refine j_iload_n B d_G_count_4 rfl 3 rfl ?_
    refine j_bipush (v := 24) B d_G_count_5 (by decide) ?_
    refine j_icmp_ge B d_G_count_7 rfl (fun h7 => ?_) (fun h7 => ?_)
    · -- 7 jump
      have hk24 := lp_ge (n := 24) (by decide) hk h7
      subst hk24
      refine j_iload_n B d_G_count_60 rfl 2 rfl ?_
      exact j_iret B K ha rfl d_G_count_61
    · -- 7 on
      have hk24 := lp_lt (n := 24) (by decide) hk h7
      refine j_iload_n B d_G_count_10 rfl 1 rfl ?_
      refine j_iconst (v := 1) B d_G_count_11 (by decide) ?_
      have j44 : ∀ x : Int32, x = (if v = 1 then F0 k else if v = 2 then F1 k else F2 k) → jW l b D Γ False 0 0 5 (σ) [(0, .ref (b + g)), (1, .int v), (2, .int acc), (3, .int (nI k))] 44 [.int x] := by
        intro x e_x
        refine j_istore (L' := [(0, .ref (b + g)), (1, .int v), (2, .int acc), (3, .int (nI k)), (4, .int x)]) B d_G_count_44 (by decide) [1, 2, 3, 4, 0] rfl ?_
        refine j_iload_n B d_G_count_46 rfl 2 rfl ?_
        refine j_iload B d_G_count_47 4 rfl ?_
        refine k_callS (as := [.int x]) (rest := [.int acc]) (st1 := [.int (bcF x), .int acc]) B (c_Int_bitCount x) yf_Int_bitCount w_335 w_336 rfl (by decide) (by decide) rfl rfl (Nat.le_of_ble_eq_true rfl) d_G_count_49 ?_
        refine j_iadd B d_G_count_52 ?_
        refine j_istore_n (L' := [(0, .ref (b + g)), (1, .int v), (2, .int (acc + (bcF x))), (3, .int (nI k)), (4, .int x)]) B d_G_count_53 rfl (by decide) [1, 2, 0, 3, 4] rfl ?_
        refine j_iinc (L' := [(0, .ref (b + g)), (1, .int v), (2, .int (acc + (bcF x))), (3, .int (nI (k + 1))), (4, .int x)]) (v := nI (k + 1)) B d_G_count_54 (k := 3) rfl (nI_succ k).symm (by decide) [1, 2, 3, 0, 4] rfl ?_
        refine j_goto B d_G_count_57 rfl ?_
        refine jW.sub (L' := [(0, .ref (b + g)), (1, .int v), (2, .int (acc + (bcF x))), (3, .int (nI (k + 1)))]) [0, 1, 2, 3] rfl ?_; exact ih4 _ (by omega) (k + 1) (acc + bcF x) rfl (by omega) (by rw [ha, e_x]; rfl)
      refine j_icmp_ne B d_G_count_12 rfl (fun h12 => ?_) (fun h12 => ?_)
      · -- 12 jump
        refine j_iload_n B d_G_count_24 rfl 1 rfl ?_
        refine j_iconst (v := 2) B d_G_count_25 (by decide) ?_
        refine j_icmp_ne B d_G_count_26 rfl (fun h26 => ?_) (fun h26 => ?_)
        · -- 26 jump
          refine j_aload_n B d_G_count_38 rfl 0 rfl ?_
          refine gf_G_18 B hg rfl d_G_count_39 ?_
          refine j_iload_n B d_G_count_42 rfl 3 rfl ?_
          refine j_ialdN B rfl hw (by omega) d_G_count_43 ?_
          exact j44 _ (by rw [if_neg h12, if_neg h26])
        · -- 26 on
          refine j_aload_n B d_G_count_29 rfl 0 rfl ?_
          refine gf_G_15 B hg rfl d_G_count_30 ?_
          refine j_iload_n B d_G_count_33 rfl 3 rfl ?_
          refine j_ialdN B rfl ht (by omega) d_G_count_34 ?_
          refine j_goto B d_G_count_35 rfl ?_
          exact j44 _ (by rw [if_neg h12, if_pos h26])
      · -- 12 on
        refine j_aload_n B d_G_count_15 rfl 0 rfl ?_
        refine gf_G_9 B hg rfl d_G_count_16 ?_
        refine j_iload_n B d_G_count_19 rfl 3 rfl ?_
        refine j_ialdN B rfl hh (by omega) d_G_count_20 ?_
        refine j_goto B d_G_count_21 rfl ?_
        exact j44 _ (by rw [if_pos h12])
  exact lp4 _ 0 0 rfl (by omega) rfl
set_option maxRecDepth 100000 in
set_option maxHeartbeats 4000000 in
theorem c_G_besideOneOrTwoHeads {l : Launch} {b : Nat} {D : va_G} {ta : Nat → ClassId} {σ : List va_E} {g h t w : Nat} {F0 F1 F2 : Nat → Int32} (hg : σ[g]? = some (.inr (0, [.ref (b + h), .ref (b + t), .ref (b + w)]))) (hh : σ[h]? = some (.inl (ta 0, 24, .inl F0))) (ht : σ[t]? = some (.inl (ta 0, 24, .inl F1))) (hw : σ[w]? = some (.inl (ta 0, 24, .inl F2))) {R : Nat} (hR : R < 24) : jC l b D ta False y_G_besideOneOrTwoHeads b_G_besideOneOrTwoHeads 8 (some .int) (rL 1) [.ref (b + g), .int (nI R)] (σ) (some (.int (bsd F0 R))) (σ) := by
  refine jC_of (own := "WireField$Grid") (by decide +kernel) (Nat.le_of_ble_eq_true rfl) rfl (fun Γ B K => ?_)
  change jW l b D Γ False 0 0 8 (σ) [(0, .ref (b + g)), (1, .int (nI R))] 0 []
  refine j_iconst (v := 0) B d_G_besideOneOrTwoHeads_0 (by decide) ?_
  refine j_istore_n (L' := [(0, .ref (b + g)), (1, .int (nI R)), (2, .int 0)]) B d_G_besideOneOrTwoHeads_1 rfl (by decide) [1, 2, 0] rfl ?_
  refine j_iconst (v := 0) B d_G_besideOneOrTwoHeads_2 (by decide) ?_
  refine j_istore_n (L' := [(0, .ref (b + g)), (1, .int (nI R)), (2, .int 0), (3, .int 0)]) B d_G_besideOneOrTwoHeads_3 rfl (by decide) [1, 2, 3, 0] rfl ?_
  refine j_iconst (v := 0) B d_G_besideOneOrTwoHeads_4 (by decide) ?_
  refine j_istore (L' := [(0, .ref (b + g)), (1, .int (nI R)), (2, .int 0), (3, .int 0), (4, .int 0)]) B d_G_besideOneOrTwoHeads_5 (by decide) [1, 2, 3, 4, 0] rfl ?_
  refine j_iload_n B d_G_besideOneOrTwoHeads_7 rfl 1 rfl ?_
  refine j_iconst (v := 1) B d_G_besideOneOrTwoHeads_8 (by decide) ?_
  refine j_isub B d_G_besideOneOrTwoHeads_9 ?_
  refine j_iconst (v := 0) B d_G_besideOneOrTwoHeads_10 (by decide) ?_
  refine j_mmax B w_322 w_323 w_15 w_324 (by decide) (by decide) (by decide) (by decide) d_G_besideOneOrTwoHeads_11 ?_
  rw [bs_max hR]
  refine j_istore (L' := [(0, .ref (b + g)), (1, .int (nI R)), (2, .int 0), (3, .int 0), (4, .int 0), (5, .int (nI (R - 1)))]) B d_G_besideOneOrTwoHeads_14 (by decide) [1, 2, 3, 4, 5, 0] rfl ?_
  have lp16 : ∀ (n16 : Nat) (k : Nat) (o : Int32) (t2 : Int32) (t3 : Int32), R + 2 - k = n16 → (k ≤ R + 2) → (bsG F0 (R + 2 - k) k (o, t2, t3) = bsG F0 (R + 2 - (R - 1)) (R - 1) (0, 0, 0)) → jW l b D Γ False 0 0 8 (σ) [(0, .ref (b + g)), (1, .int (nI R)), (2, .int o), (3, .int t2), (4, .int t3), (5, .int (nI k))] 16 [] := by
    refine jloop (fun n16 ih16 => ?_)
    intro k o t2 t3 hn16 hk hI
    refine j_iload B d_G_besideOneOrTwoHeads_16 5 rfl ?_
    refine j_iload_n B d_G_besideOneOrTwoHeads_18 rfl 1 rfl ?_
    refine j_iconst (v := 1) B d_G_besideOneOrTwoHeads_19 (by decide) ?_
    refine j_iaddE (v := nI (R + 1)) B (nI_add R 1) d_G_besideOneOrTwoHeads_20 ?_
    refine j_icmp_gt B d_G_besideOneOrTwoHeads_21 rfl (fun h21 => ?_) (fun h21 => ?_)
    · -- 21 jump
      have hk2 : R + 2 - k = 0 := by have := (nI_ltI (a := R + 1) (b := k) (by omega) (by omega)).mp h21; omega
      rw [hk2] at hI
      refine j_iload_n B d_G_besideOneOrTwoHeads_117 rfl 2 rfl ?_
      refine j_iload B d_G_besideOneOrTwoHeads_118 4 rfl ?_
      refine j_iconst (v := (-1)) B d_G_besideOneOrTwoHeads_120 (by decide) ?_
      refine j_ixor B d_G_besideOneOrTwoHeads_121 ?_
      refine j_iand B d_G_besideOneOrTwoHeads_122 ?_
      exact j_iret B K (by have hI2 : (o, t2, t3) = bsG F0 (R + 2 - (R - 1)) (R - 1) (0, 0, 0) := hI; simp only [bsd, ← hI2]) rfl d_G_besideOneOrTwoHeads_123
    · -- 21 on
      have hk2 : k ≤ R + 1 := (Nat.lt_or_ge (R + 1) k).elim (fun q => absurd (nI_lt q (by omega)) h21) id
      refine j_iload B d_G_besideOneOrTwoHeads_24 5 rfl ?_
      refine j_bipush (v := 24) B d_G_besideOneOrTwoHeads_26 (by decide) ?_
      refine j_icmp_ge B d_G_besideOneOrTwoHeads_28 rfl (fun h28 => ?_) (fun h28 => ?_)
      · -- 28 jump
        have hk3 : ¬ k < 24 := by have := (nI_leI (a := 24) (b := k) (by omega) (by omega)).mp h28; omega
        rw [bsG_0 hk3] at hI
        refine j_iload_n B d_G_besideOneOrTwoHeads_117 rfl 2 rfl ?_
        refine j_iload B d_G_besideOneOrTwoHeads_118 4 rfl ?_
        refine j_iconst (v := (-1)) B d_G_besideOneOrTwoHeads_120 (by decide) ?_
        refine j_ixor B d_G_besideOneOrTwoHeads_121 ?_
        refine j_iand B d_G_besideOneOrTwoHeads_122 ?_
        exact j_iret B K (by have hI2 : (o, t2, t3) = bsG F0 (R + 2 - (R - 1)) (R - 1) (0, 0, 0) := hI; simp only [bsd, ← hI2]) rfl d_G_besideOneOrTwoHeads_123
      · -- 28 on
        have hk3 : k < 24 := (Nat.lt_or_ge k 24).elim id (fun q => absurd (nI_le q (by omega)) h28)
        have hk4 : bsG F0 (R + 2 - k) k (o, t2, t3) = bsG F0 (R + 2 - (k + 1)) (k + 1) (bsR (F0 k) (o, t2, t3)) := by rw [show R + 2 - k = (R + 2 - (k + 1)) + 1 by omega]; exact if_pos hk3
        refine j_iconst (v := 0) B d_G_besideOneOrTwoHeads_31 (by decide) ?_
        refine j_istore (L' := [(0, .ref (b + g)), (1, .int (nI R)), (2, .int o), (3, .int t2), (4, .int t3), (5, .int (nI k)), (6, .int 0)]) B d_G_besideOneOrTwoHeads_32 (by decide) [1, 2, 3, 4, 5, 6, 0] rfl ?_
        refine j_iload B d_G_besideOneOrTwoHeads_34 6 rfl ?_
        refine j_iconst (v := 3) B d_G_besideOneOrTwoHeads_36 (by decide) ?_
        refine j_icmp_ge B d_G_besideOneOrTwoHeads_37 rfl (fun h37 => absurd h37 (by decide)) (fun h37 => ?_)
        refine j_iload B d_G_besideOneOrTwoHeads_40 6 rfl ?_
        refine j_if_ne B d_G_besideOneOrTwoHeads_42 rfl (fun h42 => absurd rfl h42) (fun h42 => ?_)
        refine j_aload_n B d_G_besideOneOrTwoHeads_45 rfl 0 rfl ?_
        refine gf_G_9 B hg rfl d_G_besideOneOrTwoHeads_46 ?_
        refine j_iload B d_G_besideOneOrTwoHeads_49 5 rfl ?_
        refine j_ialdN B rfl hh (by omega) d_G_besideOneOrTwoHeads_51 ?_
        refine j_iconst (v := 1) B d_G_besideOneOrTwoHeads_52 (by decide) ?_
        refine j_ishl B d_G_besideOneOrTwoHeads_53 ?_
        refine j_goto B d_G_besideOneOrTwoHeads_54 rfl ?_
        refine j_istore (L' := [(0, .ref (b + g)), (1, .int (nI R)), (2, .int o), (3, .int t2), (4, .int t3), (5, .int (nI k)), (6, .int 0), (7, .int ((F0 k) <<< (1 &&& 31)))]) B d_G_besideOneOrTwoHeads_82 (by decide) [1, 2, 3, 4, 5, 6, 7, 0] rfl ?_
        refine j_iload B d_G_besideOneOrTwoHeads_84 4 rfl ?_
        refine j_iload_n B d_G_besideOneOrTwoHeads_86 rfl 3 rfl ?_
        refine j_iload B d_G_besideOneOrTwoHeads_87 7 rfl ?_
        refine j_iand B d_G_besideOneOrTwoHeads_89 ?_
        refine j_ior B d_G_besideOneOrTwoHeads_90 ?_
        refine j_istore (L' := [(0, .ref (b + g)), (1, .int (nI R)), (2, .int o), (3, .int t2), (4, .int (t3 ||| (t2 &&& ((F0 k) <<< (1 &&& 31))))), (5, .int (nI k)), (6, .int 0), (7, .int ((F0 k) <<< (1 &&& 31)))]) B d_G_besideOneOrTwoHeads_91 (by decide) [1, 2, 3, 4, 0, 5, 6, 7] rfl ?_
        refine j_iload_n B d_G_besideOneOrTwoHeads_93 rfl 3 rfl ?_
        refine j_iload_n B d_G_besideOneOrTwoHeads_94 rfl 2 rfl ?_
        refine j_iload B d_G_besideOneOrTwoHeads_95 7 rfl ?_
        refine j_iand B d_G_besideOneOrTwoHeads_97 ?_
        refine j_ior B d_G_besideOneOrTwoHeads_98 ?_
        refine j_istore_n (L' := [(0, .ref (b + g)), (1, .int (nI R)), (2, .int o), (3, .int (t2 ||| (o &&& ((F0 k) <<< (1 &&& 31))))), (4, .int (t3 ||| (t2 &&& ((F0 k) <<< (1 &&& 31))))), (5, .int (nI k)), (6, .int 0), (7, .int ((F0 k) <<< (1 &&& 31)))]) B d_G_besideOneOrTwoHeads_99 rfl (by decide) [1, 2, 3, 0, 4, 5, 6, 7] rfl ?_
        refine j_iload_n B d_G_besideOneOrTwoHeads_100 rfl 2 rfl ?_
        refine j_iload B d_G_besideOneOrTwoHeads_101 7 rfl ?_
        refine j_ior B d_G_besideOneOrTwoHeads_103 ?_
        refine j_istore_n (L' := [(0, .ref (b + g)), (1, .int (nI R)), (2, .int (o ||| ((F0 k) <<< (1 &&& 31)))), (3, .int (t2 ||| (o &&& ((F0 k) <<< (1 &&& 31))))), (4, .int (t3 ||| (t2 &&& ((F0 k) <<< (1 &&& 31))))), (5, .int (nI k)), (6, .int 0), (7, .int ((F0 k) <<< (1 &&& 31)))]) B d_G_besideOneOrTwoHeads_104 rfl (by decide) [1, 2, 0, 3, 4, 5, 6, 7] rfl ?_
        refine j_iinc (L' := [(0, .ref (b + g)), (1, .int (nI R)), (2, .int (o ||| ((F0 k) <<< (1 &&& 31)))), (3, .int (t2 ||| (o &&& ((F0 k) <<< (1 &&& 31))))), (4, .int (t3 ||| (t2 &&& ((F0 k) <<< (1 &&& 31))))), (5, .int (nI k)), (6, .int 1), (7, .int ((F0 k) <<< (1 &&& 31)))]) (v := 1) B d_G_besideOneOrTwoHeads_105 (k := 6) rfl rfl (by decide) [1, 2, 3, 4, 5, 6, 0, 7] rfl ?_
        refine j_goto B d_G_besideOneOrTwoHeads_108 rfl ?_
        refine j_iload B d_G_besideOneOrTwoHeads_34 6 rfl ?_
        refine j_iconst (v := 3) B d_G_besideOneOrTwoHeads_36 (by decide) ?_
        refine j_icmp_ge B d_G_besideOneOrTwoHeads_37 rfl (fun h37 => absurd h37 (by decide)) (fun h37 => ?_)
        refine j_iload B d_G_besideOneOrTwoHeads_40 6 rfl ?_
        refine j_if_ne B d_G_besideOneOrTwoHeads_42 rfl (fun h42 => ?_) (fun h42 => absurd h42 (by decide))
        refine j_iload B d_G_besideOneOrTwoHeads_57 6 rfl ?_
        refine j_iconst (v := 1) B d_G_besideOneOrTwoHeads_59 (by decide) ?_
        refine j_icmp_ne B d_G_besideOneOrTwoHeads_60 rfl (fun h60 => absurd rfl h60) (fun h60 => ?_)
        refine j_aload_n B d_G_besideOneOrTwoHeads_63 rfl 0 rfl ?_
        refine gf_G_9 B hg rfl d_G_besideOneOrTwoHeads_64 ?_
        refine j_iload B d_G_besideOneOrTwoHeads_67 5 rfl ?_
        refine j_ialdN B rfl hh (by omega) d_G_besideOneOrTwoHeads_69 ?_
        refine j_goto B d_G_besideOneOrTwoHeads_70 rfl ?_
        refine j_istore (L' := [(0, .ref (b + g)), (1, .int (nI R)), (2, .int (o ||| ((F0 k) <<< (1 &&& 31)))), (3, .int (t2 ||| (o &&& ((F0 k) <<< (1 &&& 31))))), (4, .int (t3 ||| (t2 &&& ((F0 k) <<< (1 &&& 31))))), (5, .int (nI k)), (6, .int 1), (7, .int (F0 k))]) B d_G_besideOneOrTwoHeads_82 (by decide) [1, 2, 3, 4, 5, 6, 7, 0] rfl ?_
        refine j_iload B d_G_besideOneOrTwoHeads_84 4 rfl ?_
        refine j_iload_n B d_G_besideOneOrTwoHeads_86 rfl 3 rfl ?_
        refine j_iload B d_G_besideOneOrTwoHeads_87 7 rfl ?_
        refine j_iand B d_G_besideOneOrTwoHeads_89 ?_
        refine j_ior B d_G_besideOneOrTwoHeads_90 ?_
        refine j_istore (L' := [(0, .ref (b + g)), (1, .int (nI R)), (2, .int (o ||| ((F0 k) <<< (1 &&& 31)))), (3, .int (t2 ||| (o &&& ((F0 k) <<< (1 &&& 31))))), (4, .int ((t3 ||| (t2 &&& ((F0 k) <<< (1 &&& 31)))) ||| ((t2 ||| (o &&& ((F0 k) <<< (1 &&& 31)))) &&& (F0 k)))), (5, .int (nI k)), (6, .int 1), (7, .int (F0 k))]) B d_G_besideOneOrTwoHeads_91 (by decide) [1, 2, 3, 4, 0, 5, 6, 7] rfl ?_
        refine j_iload_n B d_G_besideOneOrTwoHeads_93 rfl 3 rfl ?_
        refine j_iload_n B d_G_besideOneOrTwoHeads_94 rfl 2 rfl ?_
        refine j_iload B d_G_besideOneOrTwoHeads_95 7 rfl ?_
        refine j_iand B d_G_besideOneOrTwoHeads_97 ?_
        refine j_ior B d_G_besideOneOrTwoHeads_98 ?_
        refine j_istore_n (L' := [(0, .ref (b + g)), (1, .int (nI R)), (2, .int (o ||| ((F0 k) <<< (1 &&& 31)))), (3, .int ((t2 ||| (o &&& ((F0 k) <<< (1 &&& 31)))) ||| ((o ||| ((F0 k) <<< (1 &&& 31))) &&& (F0 k)))), (4, .int ((t3 ||| (t2 &&& ((F0 k) <<< (1 &&& 31)))) ||| ((t2 ||| (o &&& ((F0 k) <<< (1 &&& 31)))) &&& (F0 k)))), (5, .int (nI k)), (6, .int 1), (7, .int (F0 k))]) B d_G_besideOneOrTwoHeads_99 rfl (by decide) [1, 2, 3, 0, 4, 5, 6, 7] rfl ?_
        refine j_iload_n B d_G_besideOneOrTwoHeads_100 rfl 2 rfl ?_
        refine j_iload B d_G_besideOneOrTwoHeads_101 7 rfl ?_
        refine j_ior B d_G_besideOneOrTwoHeads_103 ?_
        refine j_istore_n (L' := [(0, .ref (b + g)), (1, .int (nI R)), (2, .int ((o ||| ((F0 k) <<< (1 &&& 31))) ||| (F0 k))), (3, .int ((t2 ||| (o &&& ((F0 k) <<< (1 &&& 31)))) ||| ((o ||| ((F0 k) <<< (1 &&& 31))) &&& (F0 k)))), (4, .int ((t3 ||| (t2 &&& ((F0 k) <<< (1 &&& 31)))) ||| ((t2 ||| (o &&& ((F0 k) <<< (1 &&& 31)))) &&& (F0 k)))), (5, .int (nI k)), (6, .int 1), (7, .int (F0 k))]) B d_G_besideOneOrTwoHeads_104 rfl (by decide) [1, 2, 0, 3, 4, 5, 6, 7] rfl ?_
        refine j_iinc (L' := [(0, .ref (b + g)), (1, .int (nI R)), (2, .int ((o ||| ((F0 k) <<< (1 &&& 31))) ||| (F0 k))), (3, .int ((t2 ||| (o &&& ((F0 k) <<< (1 &&& 31)))) ||| ((o ||| ((F0 k) <<< (1 &&& 31))) &&& (F0 k)))), (4, .int ((t3 ||| (t2 &&& ((F0 k) <<< (1 &&& 31)))) ||| ((t2 ||| (o &&& ((F0 k) <<< (1 &&& 31)))) &&& (F0 k)))), (5, .int (nI k)), (6, .int 2), (7, .int (F0 k))]) (v := 2) B d_G_besideOneOrTwoHeads_105 (k := 6) rfl rfl (by decide) [1, 2, 3, 4, 5, 6, 0, 7] rfl ?_
        refine j_goto B d_G_besideOneOrTwoHeads_108 rfl ?_
        refine j_iload B d_G_besideOneOrTwoHeads_34 6 rfl ?_
        refine j_iconst (v := 3) B d_G_besideOneOrTwoHeads_36 (by decide) ?_
        refine j_icmp_ge B d_G_besideOneOrTwoHeads_37 rfl (fun h37 => absurd h37 (by decide)) (fun h37 => ?_)
        refine j_iload B d_G_besideOneOrTwoHeads_40 6 rfl ?_
        refine j_if_ne B d_G_besideOneOrTwoHeads_42 rfl (fun h42 => ?_) (fun h42 => absurd h42 (by decide))
        refine j_iload B d_G_besideOneOrTwoHeads_57 6 rfl ?_
        refine j_iconst (v := 1) B d_G_besideOneOrTwoHeads_59 (by decide) ?_
        refine j_icmp_ne B d_G_besideOneOrTwoHeads_60 rfl (fun h60 => ?_) (fun h60 => absurd h60 (by decide))
        refine j_aload_n B d_G_besideOneOrTwoHeads_73 rfl 0 rfl ?_
        refine gf_G_9 B hg rfl d_G_besideOneOrTwoHeads_74 ?_
        refine j_iload B d_G_besideOneOrTwoHeads_77 5 rfl ?_
        refine j_ialdN B rfl hh (by omega) d_G_besideOneOrTwoHeads_79 ?_
        refine j_iconst (v := 1) B d_G_besideOneOrTwoHeads_80 (by decide) ?_
        refine j_iushr B d_G_besideOneOrTwoHeads_81 rfl ?_
        refine j_istore (L' := [(0, .ref (b + g)), (1, .int (nI R)), (2, .int ((o ||| ((F0 k) <<< (1 &&& 31))) ||| (F0 k))), (3, .int ((t2 ||| (o &&& ((F0 k) <<< (1 &&& 31)))) ||| ((o ||| ((F0 k) <<< (1 &&& 31))) &&& (F0 k)))), (4, .int ((t3 ||| (t2 &&& ((F0 k) <<< (1 &&& 31)))) ||| ((t2 ||| (o &&& ((F0 k) <<< (1 &&& 31)))) &&& (F0 k)))), (5, .int (nI k)), (6, .int 2), (7, .int (((F0 k).toUInt32 >>> ((1 : Int32).toUInt32 &&& Int32.toUInt32 31)).toInt32))]) B d_G_besideOneOrTwoHeads_82 (by decide) [1, 2, 3, 4, 5, 6, 7, 0] rfl ?_
        refine j_iload B d_G_besideOneOrTwoHeads_84 4 rfl ?_
        refine j_iload_n B d_G_besideOneOrTwoHeads_86 rfl 3 rfl ?_
        refine j_iload B d_G_besideOneOrTwoHeads_87 7 rfl ?_
        refine j_iand B d_G_besideOneOrTwoHeads_89 ?_
        refine j_ior B d_G_besideOneOrTwoHeads_90 ?_
        refine j_istore (L' := [(0, .ref (b + g)), (1, .int (nI R)), (2, .int ((o ||| ((F0 k) <<< (1 &&& 31))) ||| (F0 k))), (3, .int ((t2 ||| (o &&& ((F0 k) <<< (1 &&& 31)))) ||| ((o ||| ((F0 k) <<< (1 &&& 31))) &&& (F0 k)))), (4, .int (((t3 ||| (t2 &&& ((F0 k) <<< (1 &&& 31)))) ||| ((t2 ||| (o &&& ((F0 k) <<< (1 &&& 31)))) &&& (F0 k))) ||| (((t2 ||| (o &&& ((F0 k) <<< (1 &&& 31)))) ||| ((o ||| ((F0 k) <<< (1 &&& 31))) &&& (F0 k))) &&& (((F0 k).toUInt32 >>> ((1 : Int32).toUInt32 &&& Int32.toUInt32 31)).toInt32)))), (5, .int (nI k)), (6, .int 2), (7, .int (((F0 k).toUInt32 >>> ((1 : Int32).toUInt32 &&& Int32.toUInt32 31)).toInt32))]) B d_G_besideOneOrTwoHeads_91 (by decide) [1, 2, 3, 4, 0, 5, 6, 7] rfl ?_
        refine j_iload_n B d_G_besideOneOrTwoHeads_93 rfl 3 rfl ?_
        refine j_iload_n B d_G_besideOneOrTwoHeads_94 rfl 2 rfl ?_
        refine j_iload B d_G_besideOneOrTwoHeads_95 7 rfl ?_
        refine j_iand B d_G_besideOneOrTwoHeads_97 ?_
        refine j_ior B d_G_besideOneOrTwoHeads_98 ?_
        refine j_istore_n (L' := [(0, .ref (b + g)), (1, .int (nI R)), (2, .int ((o ||| ((F0 k) <<< (1 &&& 31))) ||| (F0 k))), (3, .int (((t2 ||| (o &&& ((F0 k) <<< (1 &&& 31)))) ||| ((o ||| ((F0 k) <<< (1 &&& 31))) &&& (F0 k))) ||| (((o ||| ((F0 k) <<< (1 &&& 31))) ||| (F0 k)) &&& (((F0 k).toUInt32 >>> ((1 : Int32).toUInt32 &&& Int32.toUInt32 31)).toInt32)))), (4, .int (((t3 ||| (t2 &&& ((F0 k) <<< (1 &&& 31)))) ||| ((t2 ||| (o &&& ((F0 k) <<< (1 &&& 31)))) &&& (F0 k))) ||| (((t2 ||| (o &&& ((F0 k) <<< (1 &&& 31)))) ||| ((o ||| ((F0 k) <<< (1 &&& 31))) &&& (F0 k))) &&& (((F0 k).toUInt32 >>> ((1 : Int32).toUInt32 &&& Int32.toUInt32 31)).toInt32)))), (5, .int (nI k)), (6, .int 2), (7, .int (((F0 k).toUInt32 >>> ((1 : Int32).toUInt32 &&& Int32.toUInt32 31)).toInt32))]) B d_G_besideOneOrTwoHeads_99 rfl (by decide) [1, 2, 3, 0, 4, 5, 6, 7] rfl ?_
        refine j_iload_n B d_G_besideOneOrTwoHeads_100 rfl 2 rfl ?_
        refine j_iload B d_G_besideOneOrTwoHeads_101 7 rfl ?_
        refine j_ior B d_G_besideOneOrTwoHeads_103 ?_
        refine j_istore_n (L' := [(0, .ref (b + g)), (1, .int (nI R)), (2, .int (((o ||| ((F0 k) <<< (1 &&& 31))) ||| (F0 k)) ||| (((F0 k).toUInt32 >>> ((1 : Int32).toUInt32 &&& Int32.toUInt32 31)).toInt32))), (3, .int (((t2 ||| (o &&& ((F0 k) <<< (1 &&& 31)))) ||| ((o ||| ((F0 k) <<< (1 &&& 31))) &&& (F0 k))) ||| (((o ||| ((F0 k) <<< (1 &&& 31))) ||| (F0 k)) &&& (((F0 k).toUInt32 >>> ((1 : Int32).toUInt32 &&& Int32.toUInt32 31)).toInt32)))), (4, .int (((t3 ||| (t2 &&& ((F0 k) <<< (1 &&& 31)))) ||| ((t2 ||| (o &&& ((F0 k) <<< (1 &&& 31)))) &&& (F0 k))) ||| (((t2 ||| (o &&& ((F0 k) <<< (1 &&& 31)))) ||| ((o ||| ((F0 k) <<< (1 &&& 31))) &&& (F0 k))) &&& (((F0 k).toUInt32 >>> ((1 : Int32).toUInt32 &&& Int32.toUInt32 31)).toInt32)))), (5, .int (nI k)), (6, .int 2), (7, .int (((F0 k).toUInt32 >>> ((1 : Int32).toUInt32 &&& Int32.toUInt32 31)).toInt32))]) B d_G_besideOneOrTwoHeads_104 rfl (by decide) [1, 2, 0, 3, 4, 5, 6, 7] rfl ?_
        refine j_iinc (L' := [(0, .ref (b + g)), (1, .int (nI R)), (2, .int (((o ||| ((F0 k) <<< (1 &&& 31))) ||| (F0 k)) ||| (((F0 k).toUInt32 >>> ((1 : Int32).toUInt32 &&& Int32.toUInt32 31)).toInt32))), (3, .int (((t2 ||| (o &&& ((F0 k) <<< (1 &&& 31)))) ||| ((o ||| ((F0 k) <<< (1 &&& 31))) &&& (F0 k))) ||| (((o ||| ((F0 k) <<< (1 &&& 31))) ||| (F0 k)) &&& (((F0 k).toUInt32 >>> ((1 : Int32).toUInt32 &&& Int32.toUInt32 31)).toInt32)))), (4, .int (((t3 ||| (t2 &&& ((F0 k) <<< (1 &&& 31)))) ||| ((t2 ||| (o &&& ((F0 k) <<< (1 &&& 31)))) &&& (F0 k))) ||| (((t2 ||| (o &&& ((F0 k) <<< (1 &&& 31)))) ||| ((o ||| ((F0 k) <<< (1 &&& 31))) &&& (F0 k))) &&& (((F0 k).toUInt32 >>> ((1 : Int32).toUInt32 &&& Int32.toUInt32 31)).toInt32)))), (5, .int (nI k)), (6, .int 3), (7, .int (((F0 k).toUInt32 >>> ((1 : Int32).toUInt32 &&& Int32.toUInt32 31)).toInt32))]) (v := 3) B d_G_besideOneOrTwoHeads_105 (k := 6) rfl rfl (by decide) [1, 2, 3, 4, 5, 6, 0, 7] rfl ?_
        refine j_goto B d_G_besideOneOrTwoHeads_108 rfl ?_
        refine j_iload B d_G_besideOneOrTwoHeads_34 6 rfl ?_
        refine j_iconst (v := 3) B d_G_besideOneOrTwoHeads_36 (by decide) ?_
        refine j_icmp_ge B d_G_besideOneOrTwoHeads_37 rfl (fun h37 => ?_) (fun h37 => absurd (by decide) h37)
        refine j_iinc (L' := [(0, .ref (b + g)), (1, .int (nI R)), (2, .int (((o ||| ((F0 k) <<< (1 &&& 31))) ||| (F0 k)) ||| (((F0 k).toUInt32 >>> ((1 : Int32).toUInt32 &&& Int32.toUInt32 31)).toInt32))), (3, .int (((t2 ||| (o &&& ((F0 k) <<< (1 &&& 31)))) ||| ((o ||| ((F0 k) <<< (1 &&& 31))) &&& (F0 k))) ||| (((o ||| ((F0 k) <<< (1 &&& 31))) ||| (F0 k)) &&& (((F0 k).toUInt32 >>> ((1 : Int32).toUInt32 &&& Int32.toUInt32 31)).toInt32)))), (4, .int (((t3 ||| (t2 &&& ((F0 k) <<< (1 &&& 31)))) ||| ((t2 ||| (o &&& ((F0 k) <<< (1 &&& 31)))) &&& (F0 k))) ||| (((t2 ||| (o &&& ((F0 k) <<< (1 &&& 31)))) ||| ((o ||| ((F0 k) <<< (1 &&& 31))) &&& (F0 k))) &&& (((F0 k).toUInt32 >>> ((1 : Int32).toUInt32 &&& Int32.toUInt32 31)).toInt32)))), (5, .int (nI (k + 1))), (6, .int 3), (7, .int (((F0 k).toUInt32 >>> ((1 : Int32).toUInt32 &&& Int32.toUInt32 31)).toInt32))]) (v := nI (k + 1)) B d_G_besideOneOrTwoHeads_111 (k := 5) rfl (nI_succ k).symm (by decide) [1, 2, 3, 4, 5, 0, 6, 7] rfl ?_
        refine j_goto B d_G_besideOneOrTwoHeads_114 rfl ?_
        refine jW.sub (L' := [(0, .ref (b + g)), (1, .int (nI R)), (2, .int (((o ||| ((F0 k) <<< (1 &&& 31))) ||| (F0 k)) ||| (((F0 k).toUInt32 >>> ((1 : Int32).toUInt32 &&& Int32.toUInt32 31)).toInt32))), (3, .int (((t2 ||| (o &&& ((F0 k) <<< (1 &&& 31)))) ||| ((o ||| ((F0 k) <<< (1 &&& 31))) &&& (F0 k))) ||| (((o ||| ((F0 k) <<< (1 &&& 31))) ||| (F0 k)) &&& (((F0 k).toUInt32 >>> ((1 : Int32).toUInt32 &&& Int32.toUInt32 31)).toInt32)))), (4, .int (((t3 ||| (t2 &&& ((F0 k) <<< (1 &&& 31)))) ||| ((t2 ||| (o &&& ((F0 k) <<< (1 &&& 31)))) &&& (F0 k))) ||| (((t2 ||| (o &&& ((F0 k) <<< (1 &&& 31)))) ||| ((o ||| ((F0 k) <<< (1 &&& 31))) &&& (F0 k))) &&& (((F0 k).toUInt32 >>> ((1 : Int32).toUInt32 &&& Int32.toUInt32 31)).toInt32)))), (5, .int (nI (k + 1)))]) [0, 1, 2, 3, 4, 5] rfl ?_; exact ih16 _ (by omega) (k + 1) (((o ||| ((F0 k) <<< (1 &&& 31))) ||| (F0 k)) ||| (((F0 k).toUInt32 >>> ((1 : Int32).toUInt32 &&& Int32.toUInt32 31)).toInt32)) (((t2 ||| (o &&& ((F0 k) <<< (1 &&& 31)))) ||| ((o ||| ((F0 k) <<< (1 &&& 31))) &&& (F0 k))) ||| (((o ||| ((F0 k) <<< (1 &&& 31))) ||| (F0 k)) &&& (((F0 k).toUInt32 >>> ((1 : Int32).toUInt32 &&& Int32.toUInt32 31)).toInt32))) (((t3 ||| (t2 &&& ((F0 k) <<< (1 &&& 31)))) ||| ((t2 ||| (o &&& ((F0 k) <<< (1 &&& 31)))) &&& (F0 k))) ||| (((t2 ||| (o &&& ((F0 k) <<< (1 &&& 31)))) ||| ((o ||| ((F0 k) <<< (1 &&& 31))) &&& (F0 k))) &&& (((F0 k).toUInt32 >>> ((1 : Int32).toUInt32 &&& Int32.toUInt32 31)).toInt32))) rfl (by omega) (by rw [← hI, hk4]; rfl)
  exact lp16 _ (R - 1) 0 0 0 rfl (by omega) rfl
set_option maxRecDepth 100000 in
set_option maxHeartbeats 4000000 in
theorem c_G_becomeGenerationAfter {l : Launch} {b : Nat} {D : va_G} {ta : Nat → ClassId} {σ : List va_E} {g h t w g2 h2 t2 w2 : Nat} {F0 F1 F2 E0 E1 E2 : Nat → Int32} (hg : σ[g]? = some (.inr (0, [.ref (b + h), .ref (b + t), .ref (b + w)]))) (hh : σ[h]? = some (.inl (ta 0, 24, .inl F0))) (ht : σ[t]? = some (.inl (ta 0, 24, .inl F1))) (hw : σ[w]? = some (.inl (ta 0, 24, .inl F2))) (hg2 : σ[g2]? = some (.inr (0, [.ref (b + h2), .ref (b + t2), .ref (b + w2)]))) (hh2 : σ[h2]? = some (.inl (ta 0, 24, .inl E0))) (ht2 : σ[t2]? = some (.inl (ta 0, 24, .inl E1))) (hw2 : σ[w2]? = some (.inl (ta 0, 24, .inl E2))) (nhg : h ≠ g) (nht : h ≠ t) (nhw : h ≠ w) (nhg2 : h ≠ g2) (nhh2 : h ≠ h2) (nht2 : h ≠ t2) (nhw2 : h ≠ w2) (ntg : t ≠ g) (ntw : t ≠ w) (ntg2 : t ≠ g2) (nth2 : t ≠ h2) (ntt2 : t ≠ t2) (ntw2 : t ≠ w2) (nwg : w ≠ g) (nwg2 : w ≠ g2) (nwh2 : w ≠ h2) (nwt2 : w ≠ t2) (nww2 : w ≠ w2) (z0 : Z24 E0) (z1 : Z24 E1) (z2 : Z24 E2) (y0 : Z24 F0) (y1 : Z24 F1) (y2 : Z24 F2) : jC l b D ta False y_G_becomeGenerationAfter b_G_becomeGenerationAfter 4 none (rL 2) [.ref (b + g), .ref (b + g2)] (σ) none (((σ.set h (.inl (ta 0, 24, .inl (nxH E0 E2)))).set t (.inl (ta 0, 24, .inl E0))).set w (.inl (ta 0, 24, .inl (nxW E0 E1 E2)))) := by
  refine jC_of (own := "WireField$Grid") (by decide +kernel) (Nat.le_of_ble_eq_true rfl) rfl (fun Γ B K => ?_)
  change jW l b D Γ False 0 0 4 (σ) [(0, .ref (b + g)), (1, .ref (b + g2))] 0 []
  refine j_iconst (v := 0) B d_G_becomeGenerationAfter_0 (by decide) ?_
  refine j_istore_n (L' := [(0, .ref (b + g)), (1, .ref (b + g2)), (2, .int 0)]) B d_G_becomeGenerationAfter_1 rfl (by decide) [1, 2, 0] rfl ?_
  have lp2 : ∀ (n2 : Nat) (k : Nat), 24 - k = n2 → (k ≤ 24) → jW l b D Γ False 0 0 4 (((σ.set h (.inl (ta 0, 24, .inl (gUp (nxH E0 E2) F0 k)))).set t (.inl (ta 0, 24, .inl (gUp E0 F1 k)))).set w (.inl (ta 0, 24, .inl (gUp (nxW E0 E1 E2) F2 k)))) [(0, .ref (b + g)), (1, .ref (b + g2)), (2, .int (nI k))] 2 [] := by
    refine jloop (fun n2 ih2 => ?_)
    intro k hn2 hk
    refine j_iload_n B d_G_becomeGenerationAfter_2 rfl 2 rfl ?_
    refine j_bipush (v := 24) B d_G_becomeGenerationAfter_3 (by decide) ?_
    refine j_icmp_ge B d_G_becomeGenerationAfter_5 rfl (fun h5 => ?_) (fun h5 => ?_)
    · -- 5 jump
      have hk24 := lp_ge (n := 24) (by decide) hk h5
      subst hk24
      exact j_vret B K (by rw [gUp_e nxH_z y0, gUp_e z0 y1, gUp_e (nxW_z z1 z2) y2]) d_G_becomeGenerationAfter_69
    · -- 5 on
      have hk24 := lp_lt (n := 24) (by decide) hk h5
      refine j_aload_n B d_G_becomeGenerationAfter_8 rfl 1 rfl ?_
      refine gf_G_18 B (jn nwg2 (jn ntg2 (jn nhg2 hg2))) rfl d_G_becomeGenerationAfter_9 ?_
      refine j_iload_n B d_G_becomeGenerationAfter_12 rfl 2 rfl ?_
      refine j_ialdN B rfl (jn nww2 (jn ntw2 (jn nhw2 hw2))) (by omega) d_G_becomeGenerationAfter_13 ?_
      refine j_aload_n B d_G_becomeGenerationAfter_14 rfl 1 rfl ?_
      refine j_iload_n B d_G_becomeGenerationAfter_15 rfl 2 rfl ?_
      refine k_callV (as := [.int (nI k)]) (rest := [.int (E2 k)]) (st1 := [.int (bsd E0 k), .int (E2 k)]) B (c_G_besideOneOrTwoHeads (jn nwg2 (jn ntg2 (jn nhg2 hg2))) (jn nwh2 (jn nth2 (jn nhh2 hh2))) (jn nwt2 (jn ntt2 (jn nht2 ht2))) (jn nww2 (jn ntw2 (jn nhw2 hw2))) (by omega)) yf_G_besideOneOrTwoHeads w_318 w_320 w_s5 rfl (jn nwg2 (jn ntg2 (jn nhg2 hg2))) rfl (by decide) (by decide) rfl rfl (Nat.le_of_ble_eq_true rfl) d_G_becomeGenerationAfter_16 ?_
      refine j_iand B d_G_becomeGenerationAfter_19 ?_
      refine j_istore_n (L' := [(0, .ref (b + g)), (1, .ref (b + g2)), (2, .int (nI k)), (3, .int ((E2 k) &&& (bsd E0 k)))]) B d_G_becomeGenerationAfter_20 rfl (by decide) [1, 2, 3, 0] rfl ?_
      refine j_aload_n B d_G_becomeGenerationAfter_21 rfl 0 rfl ?_
      refine gf_G_9 B (jn nwg (jn ntg (jn nhg hg))) rfl d_G_becomeGenerationAfter_22 ?_
      refine j_iload_n B d_G_becomeGenerationAfter_25 rfl 2 rfl ?_
      refine j_iload_n B d_G_becomeGenerationAfter_26 rfl 3 rfl ?_
      refine j_iastN B not_false rfl (jn nhw.symm (jn nht.symm (js hh))) (by omega) d_G_becomeGenerationAfter_27 ?_
      refine j_aload_n B d_G_becomeGenerationAfter_28 rfl 0 rfl ?_
      refine gf_G_15 B (jn nhg (jn nwg (jn ntg (jn nhg hg)))) rfl d_G_becomeGenerationAfter_29 ?_
      refine j_iload_n B d_G_becomeGenerationAfter_32 rfl 2 rfl ?_
      refine j_aload_n B d_G_becomeGenerationAfter_33 rfl 1 rfl ?_
      refine gf_G_9 B (jn nhg2 (jn nwg2 (jn ntg2 (jn nhg2 hg2)))) rfl d_G_becomeGenerationAfter_34 ?_
      refine j_iload_n B d_G_becomeGenerationAfter_37 rfl 2 rfl ?_
      refine j_ialdN B rfl (jn nhh2 (jn nwh2 (jn nth2 (jn nhh2 hh2)))) (by omega) d_G_becomeGenerationAfter_38 ?_
      refine j_iastN B not_false rfl (jn nht (jn ntw.symm (js (jn nht ht)))) (by omega) d_G_becomeGenerationAfter_39 ?_
      refine j_aload_n B d_G_becomeGenerationAfter_40 rfl 0 rfl ?_
      refine gf_G_18 B (jn ntg (jn nhg (jn nwg (jn ntg (jn nhg hg))))) rfl d_G_becomeGenerationAfter_41 ?_
      refine j_iload_n B d_G_becomeGenerationAfter_44 rfl 2 rfl ?_
      refine j_aload_n B d_G_becomeGenerationAfter_45 rfl 1 rfl ?_
      refine gf_G_18 B (jn ntg2 (jn nhg2 (jn nwg2 (jn ntg2 (jn nhg2 hg2))))) rfl d_G_becomeGenerationAfter_46 ?_
      refine j_iload_n B d_G_becomeGenerationAfter_49 rfl 2 rfl ?_
      refine j_ialdN B rfl (jn ntw2 (jn nhw2 (jn nww2 (jn ntw2 (jn nhw2 hw2))))) (by omega) d_G_becomeGenerationAfter_50 ?_
      refine j_iload_n B d_G_becomeGenerationAfter_51 rfl 3 rfl ?_
      refine j_iconst (v := (-1)) B d_G_becomeGenerationAfter_52 (by decide) ?_
      refine j_ixor B d_G_becomeGenerationAfter_53 ?_
      refine j_iand B d_G_becomeGenerationAfter_54 ?_
      refine j_aload_n B d_G_becomeGenerationAfter_55 rfl 1 rfl ?_
      refine gf_G_15 B (jn ntg2 (jn nhg2 (jn nwg2 (jn ntg2 (jn nhg2 hg2))))) rfl d_G_becomeGenerationAfter_56 ?_
      refine j_iload_n B d_G_becomeGenerationAfter_59 rfl 2 rfl ?_
      refine j_ialdN B rfl (jn ntt2 (jn nht2 (jn nwt2 (jn ntt2 (jn nht2 ht2))))) (by omega) d_G_becomeGenerationAfter_60 ?_
      refine j_ior B d_G_becomeGenerationAfter_61 ?_
      refine j_iastN B not_false rfl (jn ntw (jn nhw (js (jn ntw (jn nhw hw))))) (by omega) d_G_becomeGenerationAfter_62 ?_
      refine j_iinc (L' := [(0, .ref (b + g)), (1, .ref (b + g2)), (2, .int (nI (k + 1))), (3, .int ((E2 k) &&& (bsd E0 k)))]) (v := nI (k + 1)) B d_G_becomeGenerationAfter_63 (k := 2) rfl (nI_succ k).symm (by decide) [1, 2, 0, 3] rfl ?_
      refine j_goto B d_G_becomeGenerationAfter_66 rfl ?_
      refine jW.sub (L' := [(0, .ref (b + g)), (1, .ref (b + g2)), (2, .int (nI (k + 1)))]) [0, 1, 2] rfl ?_; refine jW.heap (σ2 := ((σ.set h (.inl (ta 0, 24, .inl (gUp (nxH E0 E2) F0 (k + 1))))).set t (.inl (ta 0, 24, .inl (gUp E0 F1 (k + 1))))).set w (.inl (ta 0, 24, .inl (gUp (nxW E0 E1 E2) F2 (k + 1))))) (by rw [s3 nht nhw ntw, gUp_s _ _ _ _ (nxH_at hk24).symm, gUp_s _ _ _ _ rfl, gUp_s _ _ _ _ (by simp only [nxW, nxH_at hk24])]) ?_; exact ih2 _ (by omega) (k + 1) rfl (by omega)
  refine jW.heap (σ2 := ((σ.set h (.inl (ta 0, 24, .inl (gUp (nxH E0 E2) F0 0)))).set t (.inl (ta 0, 24, .inl (gUp E0 F1 0)))).set w (.inl (ta 0, 24, .inl (gUp (nxW E0 E1 E2) F2 0)))) (by rw [gUp_0, gUp_0, gUp_0]; exact (s3_0 hh ht hw).symm) ?_
  exact lp2 _ 0 rfl (by omega)
