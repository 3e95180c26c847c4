set_option maxRecDepth 100000 in
set_option maxHeartbeats 4000000 in
theorem c_Lat_canEncode {l : Launch} {b : Nat} {D : va_G} {ta : Nat → ClassId} {σ : List va_E} (c : Int32) : jC l b D ta False y_Lat_canEncode b_Lat_canEncode 1 (some .boolean) (rL 0) [.int c] (σ) (some (.int (bI (canE c)))) (σ) := by
  refine jC_ofF (own := "java/lang/StringLatin1") (by decide +kernel) (Nat.le_of_ble_eq_true rfl) rfl (fun Γ B K => ?_)
  change jW l b D Γ False 0 0 1 (σ) [(0, .int c)] 0 []
  refine j_iload_n B d_Lat_canEncode_0 rfl 0 rfl ?_
  refine j_if_lt B d_Lat_canEncode_1 rfl (fun h1 => ?_) (fun h1 => ?_)
  · -- 1 jump
    refine j_iconst (v := 0) B d_Lat_canEncode_15 (by decide) ?_
    exact j_zret B K (by decide) (by simp [bI, canE, h1]) rfl d_Lat_canEncode_16
  · -- 1 on
    refine j_iload_n B d_Lat_canEncode_4 rfl 0 rfl ?_
    refine j_sipush (v := 255) B d_Lat_canEncode_5 (by decide) ?_
    refine j_icmp_gt B d_Lat_canEncode_8 rfl (fun h8 => ?_) (fun h8 => ?_)
    · -- 8 jump
      refine j_iconst (v := 0) B d_Lat_canEncode_15 (by decide) ?_
      exact j_zret B K (by decide) (by simp [bI, canE, h1, h8]) rfl d_Lat_canEncode_16
    · -- 8 on
      refine j_iconst (v := 1) B d_Lat_canEncode_11 (by decide) ?_
      refine j_goto B d_Lat_canEncode_12 rfl ?_
      exact j_zret B K (by decide) (by simp [bI, canE, h1, h8]) rfl d_Lat_canEncode_16
set_option maxRecDepth 100000 in
set_option maxHeartbeats 4000000 in
theorem c_Str_isLatin1 {l : Launch} {b : Nat} {D : va_G} {ta : Nat → ClassId} {σ : List va_E} : jC l b D ta False y_Str_isLatin1 b_Str_isLatin1 1 (some .boolean) (rL 0) [.ref (ta 100)] (σ) (some (.int 1)) (σ) := by
  refine jC_ofF (own := "java/lang/String") (by decide +kernel) (Nat.le_of_ble_eq_true rfl) rfl (fun Γ B K => ?_)
  change jW l b D Γ False 0 0 1 (σ) [(0, .ref (ta 100))] 0 []
  refine j_strCompact B w_482 d_Str_isLatin1_0 ?_
  refine j_if_eq B d_Str_isLatin1_3 rfl (fun h3 => absurd h3 (by decide)) (fun h3 => ?_)
  refine j_aload_n B d_Str_isLatin1_6 rfl 0 rfl ?_
  refine j_strCoder B w_986 d_Str_isLatin1_7 ?_
  refine j_if_ne B d_Str_isLatin1_10 rfl (fun h10 => absurd rfl h10) (fun h10 => ?_)
  refine j_iconst (v := 1) B d_Str_isLatin1_13 (by decide) ?_
  refine j_goto B d_Str_isLatin1_14 rfl ?_
  exact j_zret B K (by decide) rfl rfl d_Str_isLatin1_18
set_option maxRecDepth 100000 in
set_option maxHeartbeats 4000000 in
theorem c_Str_coder {l : Launch} {b : Nat} {D : va_G} {ta : Nat → ClassId} {σ : List va_E} : jC l b D ta False y_Str_coder b_Str_coder 1 (some .byte) (rL 0) [.ref (ta 100)] (σ) (some (.int 0)) (σ) := by
  refine jC_ofF (own := "java/lang/String") (by decide +kernel) (Nat.le_of_ble_eq_true rfl) rfl (fun Γ B K => ?_)
  change jW l b D Γ False 0 0 1 (σ) [(0, .ref (ta 100))] 0 []
  refine j_strCompact B w_482 d_Str_coder_0 ?_
  refine j_if_eq B d_Str_coder_3 rfl (fun h3 => absurd h3 (by decide)) (fun h3 => ?_)
  refine j_aload_n B d_Str_coder_6 rfl 0 rfl ?_
  refine j_strCoder B w_986 d_Str_coder_7 ?_
  refine j_goto B d_Str_coder_10 rfl ?_
  exact j_zret B K (by decide) rfl rfl d_Str_coder_14
set_option maxRecDepth 100000 in
set_option maxHeartbeats 4000000 in
theorem c_Str_length {l : Launch} {b : Nat} {D : va_G} {ta : Nat → ClassId} {σ : List va_E} : jC l b D ta False y_Str_length b_Str_length 1 (some .int) (rL 1) [.ref (ta 100)] (σ) (some (.int 9)) (σ) := by
  refine jC_ofF (own := "java/lang/String") (by decide +kernel) (Nat.le_of_ble_eq_true rfl) rfl (fun Γ B K => ?_)
  change jW l b D Γ False 0 0 1 (σ) [(0, .ref (ta 100))] 0 []
  refine j_aload_n B d_Str_length_0 rfl 0 rfl ?_
  refine j_strValue B w_987 d_Str_length_1 ?_
  refine j_strLen B d_Str_length_4 ?_
  refine j_aload_n B d_Str_length_5 rfl 0 rfl ?_
  refine k_callStr (as := []) (rest := [.int 9]) (st1 := [.int 0, .int 9]) B c_Str_coder yf_Str_coder w_488 w_489 w_490 rfl (by decide) (by decide) rfl rfl (Nat.le_of_ble_eq_true rfl) d_Str_length_6 ?_
  refine j_ishrE (v := 9) B (by decide) d_Str_length_9 ?_
  exact j_iret B K rfl rfl d_Str_length_10
set_option maxRecDepth 100000 in
set_option maxHeartbeats 4000000 in
theorem c_Lat_indexOfChar {l : Launch} {b : Nat} {D : va_G} {ta : Nat → ClassId} {σ : List va_E} (c : Int32) : jC l b D ta False y_Lat_indexOfChar b_Lat_indexOfChar 6 (some .int) (rL 0) [.ref (ta 101), .int c, .int 0, .int 9] (σ) (some (.int (ixL c.toInt8.toInt32 9 0))) (σ) := by
  refine jC_ofF (own := "java/lang/StringLatin1") (by decide +kernel) (Nat.le_of_ble_eq_true rfl) rfl (fun Γ B K => ?_)
  change jW l b D Γ False 0 0 6 (σ) [(0, .ref (ta 101)), (1, .int c), (2, .int 0), (3, .int 9)] 0 []
  refine j_iload_n B d_Lat_indexOfChar_0 rfl 1 rfl ?_
  refine j_i2b B d_Lat_indexOfChar_1 rfl ?_
  refine j_istore (L' := [(0, .ref (ta 101)), (1, .int c), (2, .int 0), (3, .int 9), (4, .int c.toInt8.toInt32)]) B d_Lat_indexOfChar_2 (by decide) [1, 2, 3, 4, 0] rfl ?_
  refine j_iload_n B d_Lat_indexOfChar_4 rfl 2 rfl ?_
  refine j_istore (L' := [(0, .ref (ta 101)), (1, .int c), (2, .int 0), (3, .int 9), (4, .int c.toInt8.toInt32), (5, .int 0)]) B d_Lat_indexOfChar_5 (by decide) [1, 2, 3, 4, 5, 0] rfl ?_
  have lp7 : ∀ (n7 : Nat) (k : Nat), 9 - k = n7 → (k ≤ 9) → (ixL c.toInt8.toInt32 (9 - k) k = ixL c.toInt8.toInt32 9 0) → jW l b D Γ False 0 0 6 (σ) [(0, .ref (ta 101)), (1, .int c), (2, .int 0), (3, .int 9), (4, .int c.toInt8.toInt32), (5, .int (nI k))] 7 [] := by
    refine jloop (fun n7 ih7 => ?_)
    intro k hn7 hk hI
    refine j_iload B d_Lat_indexOfChar_7 5 rfl ?_
    refine j_iload_n B d_Lat_indexOfChar_9 rfl 3 rfl ?_
    refine j_icmp_ge B d_Lat_indexOfChar_10 rfl (fun h10 => ?_) (fun h10 => ?_)
    · -- 10 jump
      have hk9 : k = 9 := lp_ge (n := 9) (by decide) hk h10
      subst hk9
      refine j_iconst (v := (-1)) B d_Lat_indexOfChar_31 (by decide) ?_
      exact j_iret B K hI rfl d_Lat_indexOfChar_32
    · -- 10 on
      have hk9 : k < 9 := lp_lt (n := 9) (by decide) hk h10
      rw [show 9 - k = (9 - (k + 1)) + 1 by omega, ixL] at hI
      refine j_aload_n B d_Lat_indexOfChar_13 rfl 0 rfl ?_
      refine j_iload B d_Lat_indexOfChar_14 5 rfl ?_
      refine j_strByte B (by omega) d_Lat_indexOfChar_16 ?_
      refine j_iload B d_Lat_indexOfChar_17 4 rfl ?_
      refine j_icmp_ne B d_Lat_indexOfChar_19 rfl (fun h19 => ?_) (fun h19 => ?_)
      · -- 19 jump
        rw [if_neg h19] at hI
        refine j_iinc (L' := [(0, .ref (ta 101)), (1, .int c), (2, .int 0), (3, .int 9), (4, .int c.toInt8.toInt32), (5, .int (nI (k + 1)))]) (v := nI (k + 1)) B d_Lat_indexOfChar_25 (k := 5) rfl (nI_succ k).symm (by decide) [1, 2, 3, 4, 5, 0] rfl ?_
        refine j_goto B d_Lat_indexOfChar_28 rfl ?_
        exact ih7 _ (by omega) (k + 1) rfl (by omega) hI
      · -- 19 on
        rw [if_pos h19] at hI
        refine j_iload B d_Lat_indexOfChar_22 5 rfl ?_
        exact j_iret B K hI rfl d_Lat_indexOfChar_24
  exact lp7 _ 0 rfl (by omega) rfl
set_option maxRecDepth 100000 in
set_option maxHeartbeats 4000000 in
theorem c_Lat_indexOf {l : Launch} {b : Nat} {D : va_G} {ta : Nat → ClassId} {σ : List va_E} (c : Int32) : jC l b D ta False y_Lat_indexOf b_Lat_indexOf 4 (some .int) (rL 1) [.ref (ta 101), .int c, .int 0, .int 9] (σ) (some (.int (ixF c))) (σ) := by
  refine jC_ofF (own := "java/lang/StringLatin1") (by decide +kernel) (Nat.le_of_ble_eq_true rfl) rfl (fun Γ B K => ?_)
  change jW l b D Γ False 0 0 4 (σ) [(0, .ref (ta 101)), (1, .int c), (2, .int 0), (3, .int 9)] 0 []
  refine j_iload_n B d_Lat_indexOf_0 rfl 1 rfl ?_
  refine k_callS (as := [.int c]) (rest := []) (st1 := [.int (bI (canE c))]) B (c_Lat_canEncode c) yf_Lat_canEncode w_495 w_496 rfl (by decide) (by decide) rfl rfl (Nat.le_of_ble_eq_true rfl) d_Lat_indexOf_1 ?_
  refine j_if_ne B d_Lat_indexOf_4 rfl (fun h4 => ?_) (fun h4 => ?_)
  · -- 4 jump
    replace h4 := bI_t h4
    refine j_iload_n B d_Lat_indexOf_9 rfl 2 rfl ?_
    refine j_iconst (v := 0) B d_Lat_indexOf_10 (by decide) ?_
    refine j_mmax B w_498 w_323 w_15 w_324 (by decide) (by decide) (by decide) (by decide) d_Lat_indexOf_11 ?_
    rw [show (if (0 : Int32) < 0 then (0 : Int32) else 0) = 0 from by decide]
    refine j_istore_n (L' := [(0, .ref (ta 101)), (1, .int c), (2, .int 0), (3, .int 9)]) B d_Lat_indexOf_14 rfl (by decide) [1, 2, 0, 3] rfl ?_
    refine j_iload_n B d_Lat_indexOf_15 rfl 3 rfl ?_
    refine j_aload_n B d_Lat_indexOf_16 rfl 0 rfl ?_
    refine j_strLen B d_Lat_indexOf_17 ?_
    refine k_callS (as := [.int 9, .int 9]) (rest := []) (st1 := [.int (mnF 9 9)]) B (c_Math_min 9 9) yf_Math_min w_499 w_306 rfl (by decide) (by decide) rfl rfl (Nat.le_of_ble_eq_true rfl) d_Lat_indexOf_18 ?_
    rw [show mnF 9 9 = 9 from by decide]
    refine j_istore_n (L' := [(0, .ref (ta 101)), (1, .int c), (2, .int 0), (3, .int 9)]) B d_Lat_indexOf_21 rfl (by decide) [1, 2, 3, 0] rfl ?_
    refine j_iload_n B d_Lat_indexOf_22 rfl 2 rfl ?_
    refine j_iload_n B d_Lat_indexOf_23 rfl 3 rfl ?_
    refine j_icmp_lt B d_Lat_indexOf_24 rfl (fun h24 => ?_) (fun h24 => absurd (by decide) h24)
    refine j_aload_n B d_Lat_indexOf_29 rfl 0 rfl ?_
    refine j_iload_n B d_Lat_indexOf_30 rfl 1 rfl ?_
    refine j_iload_n B d_Lat_indexOf_31 rfl 2 rfl ?_
    refine j_iload_n B d_Lat_indexOf_32 rfl 3 rfl ?_
    refine k_callS (as := [.ref (ta 101), .int c, .int 0, .int 9]) (rest := []) (st1 := [.int (ixL c.toInt8.toInt32 9 0)]) B (c_Lat_indexOfChar c) yf_Lat_indexOfChar w_500 w_501 rfl (by decide) (by decide) rfl rfl (Nat.le_of_ble_eq_true rfl) d_Lat_indexOf_33 ?_
    exact j_iret B K (by rw [ixF, h4] <;> rfl) rfl d_Lat_indexOf_36
  · -- 4 on
    replace h4 := bI_f h4
    refine j_iconst (v := (-1)) B d_Lat_indexOf_7 (by decide) ?_
    exact j_iret B K (by rw [ixF, h4] <;> rfl) rfl d_Lat_indexOf_8
set_option maxRecDepth 100000 in
set_option maxHeartbeats 4000000 in
theorem c_Str_indexOf2 {l : Launch} {b : Nat} {D : va_G} {ta : Nat → ClassId} {σ : List va_E} (c : Int32) : jC l b D ta False y_Str_indexOf2 b_Str_indexOf2 3 (some .int) (rL 2) [.ref (ta 100), .int c, .int 0] (σ) (some (.int (ixF c))) (σ) := by
  refine jC_ofF (own := "java/lang/String") (by decide +kernel) (Nat.le_of_ble_eq_true rfl) rfl (fun Γ B K => ?_)
  change jW l b D Γ False 0 0 3 (σ) [(0, .ref (ta 100)), (1, .int c), (2, .int 0)] 0 []
  refine j_aload_n B d_Str_indexOf2_0 rfl 0 rfl ?_
  refine k_callStr (as := []) (rest := []) (st1 := [.int 1]) B c_Str_isLatin1 yf_Str_isLatin1 w_478 w_479 w_480 rfl (by decide) (by decide) rfl rfl (Nat.le_of_ble_eq_true rfl) d_Str_indexOf2_1 ?_
  refine j_if_eq B d_Str_indexOf2_4 rfl (fun h4 => absurd h4 (by decide)) (fun h4 => ?_)
  refine j_aload_n B d_Str_indexOf2_7 rfl 0 rfl ?_
  refine j_strValue B w_987 d_Str_indexOf2_8 ?_
  refine j_iload_n B d_Str_indexOf2_11 rfl 1 rfl ?_
  refine j_iload_n B d_Str_indexOf2_12 rfl 2 rfl ?_
  refine j_aload_n B d_Str_indexOf2_13 rfl 0 rfl ?_
  refine k_callStr (as := []) (rest := [.int 0, .int c, .ref (ta 101)]) (st1 := [.int 9, .int 0, .int c, .ref (ta 101)]) B c_Str_length yf_Str_length w_484 w_485 w_486 rfl (by decide) (by decide) rfl rfl (Nat.le_of_ble_eq_true rfl) d_Str_indexOf2_14 ?_
  refine k_callS (as := [.ref (ta 101), .int c, .int 0, .int 9]) (rest := []) (st1 := [.int (ixF c)]) B (c_Lat_indexOf c) yf_Lat_indexOf w_492 w_493 rfl (by decide) (by decide) rfl rfl (Nat.le_of_ble_eq_true rfl) d_Str_indexOf2_17 ?_
  refine j_goto B d_Str_indexOf2_20 rfl ?_
  exact j_iret B K rfl rfl d_Str_indexOf2_36
set_option maxRecDepth 100000 in
set_option maxHeartbeats 4000000 in
theorem c_Str_indexOf {l : Launch} {b : Nat} {D : va_G} {ta : Nat → ClassId} {σ : List va_E} (c : Int32) : jC l b D ta False y_Str_indexOf b_Str_indexOf 2 (some .int) (rL 3) [.ref (ta 100), .int c] (σ) (some (.int (ixF c))) (σ) := by
  refine jC_ofF (own := "java/lang/String") (by decide +kernel) (Nat.le_of_ble_eq_true rfl) rfl (fun Γ B K => ?_)
  change jW l b D Γ False 0 0 2 (σ) [(0, .ref (ta 100)), (1, .int c)] 0 []
  refine j_aload_n B d_Str_indexOf_0 rfl 0 rfl ?_
  refine j_iload_n B d_Str_indexOf_1 rfl 1 rfl ?_
  refine j_iconst (v := 0) B d_Str_indexOf_2 (by decide) ?_
  refine k_callStr (as := [.int c, .int 0]) (rest := []) (st1 := [.int (ixF c)]) B (c_Str_indexOf2 c) yf_Str_indexOf2 w_474 w_475 w_476 rfl (by decide) (by decide) rfl rfl (Nat.le_of_ble_eq_true rfl) d_Str_indexOf_3 ?_
  exact j_iret B K rfl rfl d_Str_indexOf_6
set_option maxRecDepth 100000 in
set_option maxHeartbeats 4000000 in
theorem k_Tx_endOfOrder {l : Launch} {b : Nat} {D : va_G} {ta : Nat → ClassId} {σ : List va_E} {x s : Nat} {S : Nat → Int32} {N : Nat} (hx : σ[x]? = some (.inr (5, [.ref (b + s), .int (nI N)]))) (hs : σ[s]? = some (.inl (ta 1, 60, .inl S))) (hS : Fc S) (hN : N ≤ 60) {rec : Nat → Option Nat} {Lt d lv : Nat} (hB : ∀ k c, k ≤ N → jC l b D ta False y_Tx_endOfBracket b_Tx_endOfBracket 6 (some .int) (rL lv) [.ref (b + x), .int (nI k), .int c, .int (nI (d + 1)), .int (nI Lt)] σ (some (.int (rI (eoB rec S N k c)))) σ) {k : Nat} (hk : k ≤ 62) : jC l b D ta False y_Tx_endOfOrder b_Tx_endOfOrder 6 (some .int) (rL (lv + 4)) [.ref (b + x), .int (nI k), .int (nI d), .int (nI Lt)] (σ) (some (.int (rI (eoO rec S N Lt k)))) (σ) := by
  refine jC_of (own := "WireField$Text") (by decide +kernel) (Nat.le_of_ble_eq_true rfl) rfl (fun Γ B K => ?_)
  change jW l b D Γ False 0 0 6 (σ) [(0, .ref (b + x)), (1, .int (nI k)), (2, .int (nI d)), (3, .int (nI Lt))] 0 []
  refine j_aload_n B d_Tx_endOfOrder_0 rfl 0 rfl ?_
  refine j_iload_n B d_Tx_endOfOrder_1 rfl 1 rfl ?_
  refine k_callV (as := [.int (nI k)]) (rest := []) (st1 := [.int (sg S N k)]) B (c_Tx_signAt hx hs hS hN (k := k) (by omega)) yf_Tx_signAt w_447 w_448 w_449 rfl hx rfl (by omega) (by decide) rfl rfl (Nat.le_of_ble_eq_true rfl) d_Tx_endOfOrder_2 ?_
  refine j_istore (L' := [(0, .ref (b + x)), (1, .int (nI k)), (2, .int (nI d)), (3, .int (nI Lt)), (4, .int (sg S N k))]) B d_Tx_endOfOrder_5 (by decide) [1, 2, 3, 4, 0] rfl ?_
  refine j_iload B d_Tx_endOfOrder_7 4 rfl ?_
  refine j_bipush (v := 40) B d_Tx_endOfOrder_9 (by decide) ?_
  refine j_icmp_ne B d_Tx_endOfOrder_11 rfl (fun h11 => ?_) (fun h11 => ?_)
  · -- 11 jump
    refine j_iload B d_Tx_endOfOrder_28 4 rfl ?_
    refine j_bipush (v := 91) B d_Tx_endOfOrder_30 (by decide) ?_
    refine j_icmp_ne B d_Tx_endOfOrder_32 rfl (fun h32 => ?_) (fun h32 => ?_)
    · -- 32 jump
      refine j_iload B d_Tx_endOfOrder_49 4 rfl ?_
      refine j_bipush (v := 64) B d_Tx_endOfOrder_51 (by decide) ?_
      refine j_icmp_ne B d_Tx_endOfOrder_53 rfl (fun h53 => ?_) (fun h53 => ?_)
      · -- 53 jump
        refine j_ldcOrd B d_Tx_endOfOrder_87 ?_
        refine j_iload B d_Tx_endOfOrder_89 4 rfl ?_
        refine k_callStr (as := [.int (sg S N k)]) (rest := []) (st1 := [.int (ixF (sg S N k))]) B (c_Str_indexOf (sg S N k)) yf_Str_indexOf w_470 w_471 w_472 rfl (by omega) (by decide) rfl rfl (Nat.le_of_ble_eq_true rfl) d_Tx_endOfOrder_91 ?_
        refine j_if_lt B d_Tx_endOfOrder_94 rfl (fun h94 => ?_) (fun h94 => ?_)
        · -- 94 jump
          refine j_iconst (v := (-1)) B d_Tx_endOfOrder_103 (by decide) ?_
          exact j_iret B K (by rw [eoO, if_neg h11, if_neg h32, if_neg h53, if_neg (fun q => (ix_sing _).mp q h94)]; rfl) rfl d_Tx_endOfOrder_104
        · -- 94 on
          refine j_iload_n B d_Tx_endOfOrder_97 rfl 1 rfl ?_
          refine j_iconst (v := 1) B d_Tx_endOfOrder_98 (by decide) ?_
          refine j_iaddE (v := nI (k + 1)) B (nI_add k 1) d_Tx_endOfOrder_99 ?_
          refine j_goto B d_Tx_endOfOrder_100 rfl ?_
          exact j_iret B K (by rw [eoO, if_neg h11, if_neg h32, if_neg h53, if_pos ((ix_sing _).mpr h94)]; rfl) rfl d_Tx_endOfOrder_104
      · -- 53 on
        refine j_aload_n B d_Tx_endOfOrder_56 rfl 0 rfl ?_
        refine j_iload_n B d_Tx_endOfOrder_57 rfl 1 rfl ?_
        refine j_iconst (v := 1) B d_Tx_endOfOrder_58 (by decide) ?_
        refine j_iaddE (v := nI (k + 1)) B (nI_add k 1) d_Tx_endOfOrder_59 ?_
        refine k_callV (as := [.int (nI (k + 1))]) (rest := []) (st1 := [.int (sg S N (k + 1))]) B (c_Tx_signAt hx hs hS hN (k := (k + 1)) (by omega)) yf_Tx_signAt w_447 w_448 w_449 rfl hx rfl (by omega) (by decide) rfl rfl (Nat.le_of_ble_eq_true rfl) d_Tx_endOfOrder_60 ?_
        refine j_bipush (v := 97) B d_Tx_endOfOrder_63 (by decide) ?_
        refine j_isub B d_Tx_endOfOrder_65 ?_
        refine j_istore (L' := [(0, .ref (b + x)), (1, .int (nI k)), (2, .int (nI d)), (3, .int (nI Lt)), (4, .int (sg S N k)), (5, .int ((sg S N (k + 1)) - 97))]) B d_Tx_endOfOrder_66 (by decide) [1, 2, 3, 4, 5, 0] rfl ?_
        refine j_iload B d_Tx_endOfOrder_68 5 rfl ?_
        refine j_if_lt B d_Tx_endOfOrder_70 rfl (fun h70 => ?_) (fun h70 => ?_)
        · -- 70 jump
          refine j_iconst (v := (-1)) B d_Tx_endOfOrder_85 (by decide) ?_
          exact j_iret B K (by rw [eoO, if_neg h11, if_neg h32, if_pos h53, if_neg (fun q => q.1 h70)]; rfl) rfl d_Tx_endOfOrder_86
        · -- 70 on
          refine j_iload B d_Tx_endOfOrder_73 5 rfl ?_
          refine j_iload_n B d_Tx_endOfOrder_75 rfl 3 rfl ?_
          refine j_icmp_ge B d_Tx_endOfOrder_76 rfl (fun h76 => ?_) (fun h76 => ?_)
          · -- 76 jump
            refine j_iconst (v := (-1)) B d_Tx_endOfOrder_85 (by decide) ?_
            exact j_iret B K (by rw [eoO, if_neg h11, if_neg h32, if_pos h53, if_neg (fun q => q.2 h76)]; rfl) rfl d_Tx_endOfOrder_86
          · -- 76 on
            refine j_iload_n B d_Tx_endOfOrder_79 rfl 1 rfl ?_
            refine j_iconst (v := 2) B d_Tx_endOfOrder_80 (by decide) ?_
            refine j_iaddE (v := nI (k + 2)) B (nI_add k 2) d_Tx_endOfOrder_81 ?_
            refine j_goto B d_Tx_endOfOrder_82 rfl ?_
            exact j_iret B K (by rw [eoO, if_neg h11, if_neg h32, if_pos h53, if_pos ⟨h70, h76⟩]; rfl) rfl d_Tx_endOfOrder_86
    · -- 32 on
      refine j_aload_n B d_Tx_endOfOrder_35 rfl 0 rfl ?_
      refine j_iload_n B d_Tx_endOfOrder_36 rfl 1 rfl ?_
      refine j_iconst (v := 1) B d_Tx_endOfOrder_37 (by decide) ?_
      refine j_iaddE (v := nI (k + 1)) B (nI_add k 1) d_Tx_endOfOrder_38 ?_
      refine j_bipush (v := 93) B d_Tx_endOfOrder_39 (by decide) ?_
      refine j_iload_n B d_Tx_endOfOrder_41 rfl 2 rfl ?_
      refine j_iconst (v := 1) B d_Tx_endOfOrder_42 (by decide) ?_
      refine j_iaddE (v := nI (d + 1)) B (nI_add d 1) d_Tx_endOfOrder_43 ?_
      refine j_iload_n B d_Tx_endOfOrder_44 rfl 3 rfl ?_
      refine k_callV (as := [.int (nI (k + 1)), .int 93, .int (nI (d + 1)), .int (nI Lt)]) (rest := []) (st1 := [.int (rI (eoB rec S N (k + 1) 93))]) B (hB _ _ (by have := sg_in (S := S) (N := N) (k := k) (by rw [h32]; decide); omega)) yf_Tx_endOfBracket w_465 w_467 w_s9 rfl hx rfl (by omega) (by decide) rfl rfl (Nat.le_of_ble_eq_true rfl) d_Tx_endOfOrder_45 ?_
      exact j_iret B K (by rw [eoO, if_neg h11, if_pos h32]) rfl d_Tx_endOfOrder_48
  · -- 11 on
    refine j_aload_n B d_Tx_endOfOrder_14 rfl 0 rfl ?_
    refine j_iload_n B d_Tx_endOfOrder_15 rfl 1 rfl ?_
    refine j_iconst (v := 1) B d_Tx_endOfOrder_16 (by decide) ?_
    refine j_iaddE (v := nI (k + 1)) B (nI_add k 1) d_Tx_endOfOrder_17 ?_
    refine j_bipush (v := 41) B d_Tx_endOfOrder_18 (by decide) ?_
    refine j_iload_n B d_Tx_endOfOrder_20 rfl 2 rfl ?_
    refine j_iconst (v := 1) B d_Tx_endOfOrder_21 (by decide) ?_
    refine j_iaddE (v := nI (d + 1)) B (nI_add d 1) d_Tx_endOfOrder_22 ?_
    refine j_iload_n B d_Tx_endOfOrder_23 rfl 3 rfl ?_
    refine k_callV (as := [.int (nI (k + 1)), .int 41, .int (nI (d + 1)), .int (nI Lt)]) (rest := []) (st1 := [.int (rI (eoB rec S N (k + 1) 41))]) B (hB _ _ (by have := sg_in (S := S) (N := N) (k := k) (by rw [h11]; decide); omega)) yf_Tx_endOfBracket w_465 w_467 w_s9 rfl hx rfl (by omega) (by decide) rfl rfl (Nat.le_of_ble_eq_true rfl) d_Tx_endOfOrder_24 ?_
    exact j_iret B K (by rw [eoO, if_pos h11]) rfl d_Tx_endOfOrder_27

section EN
variable {l : Launch} {b : Nat} {D : va_G} {ta : Nat → ClassId} {σ : List va_E} {x s : Nat} {S : Nat → Int32} {N : Nat}
theorem en_B4 (hx : σ[x]? = some (.inr (5, [.ref (b + s), .int (nI N)]))) (hs : σ[s]? = some (.inl (ta 1, 60, .inl S))) (hS : Fc S) (hN : N ≤ 60) (Lt lv : Nat) : ∀ k c, k ≤ N → jC l b D ta False y_Tx_endOfBracket b_Tx_endOfBracket 6 (some .int) (rL lv) [.ref (b + x), .int (nI k), .int c, .int (nI (3 + 1)), .int (nI Lt)] σ (some (.int (rI (eoB (eoD S N Lt 0) S N k c)))) σ := fun k c _ => k_Tx_endOfBracket_4 hx hs hS hN
/-- one level up: orders at depth d out of brackets at depth d + 1 -/
theorem en_P (hx : σ[x]? = some (.inr (5, [.ref (b + s), .int (nI N)]))) (hs : σ[s]? = some (.inl (ta 1, 60, .inl S))) (hS : Fc S) (hN : N ≤ 60) {Lt d lv m : Nat} (hB : ∀ k c, k ≤ N → jC l b D ta False y_Tx_endOfBracket b_Tx_endOfBracket 6 (some .int) (rL lv) [.ref (b + x), .int (nI k), .int c, .int (nI (d + 1)), .int (nI Lt)] σ (some (.int (rI (eoB (eoD S N Lt m) S N k c)))) σ) :
    ∀ k, k ≤ N → jC l b D ta False y_Tx_endOfOrders b_Tx_endOfOrders 6 (some .int) (rL (lv + 6)) [.ref (b + x), .int (nI k), .int (nI d), .int (nI Lt)] σ (some (.int (rI (eoD S N Lt (m + 1) k)))) σ := fun k hk => k_Tx_endOfOrders hx hs hS hN (rec := eoD S N Lt m) (lv := lv + 4) (fun k' hk' => k_Tx_endOfOrder hx hs hS hN hB hk') hk
theorem en_B (hx : σ[x]? = some (.inr (5, [.ref (b + s), .int (nI N)]))) (hs : σ[s]? = some (.inl (ta 1, 60, .inl S))) (hS : Fc S) (hN : N ≤ 60) {Lt d lv m : Nat} (hd : d ≤ 3) (hP : ∀ k, k ≤ N → jC l b D ta False y_Tx_endOfOrders b_Tx_endOfOrders 6 (some .int) (rL lv) [.ref (b + x), .int (nI k), .int (nI d), .int (nI Lt)] σ (some (.int (rI (eoD S N Lt m k)))) σ) :
    ∀ k c, k ≤ N → jC l b D ta False y_Tx_endOfBracket b_Tx_endOfBracket 6 (some .int) (rL (lv + 1)) [.ref (b + x), .int (nI k), .int c, .int (nI d), .int (nI Lt)] σ (some (.int (rI (eoB (eoD S N Lt m) S N k c)))) σ := fun k c hk => k_Tx_endOfBracket hx hs hS hN hd hP (eoD_le m) hk
theorem en_B1 (hx : σ[x]? = some (.inr (5, [.ref (b + s), .int (nI N)]))) (hs : σ[s]? = some (.inl (ta 1, 60, .inl S))) (hS : Fc S) (hN : N ≤ 60) (Lt : Nat) : ∀ k c, k ≤ N → jC l b D ta False y_Tx_endOfBracket b_Tx_endOfBracket 6 (some .int) (rL 21) [.ref (b + x), .int (nI k), .int c, .int (nI (0 + 1)), .int (nI Lt)] σ (some (.int (rI (eoB (eoD S N Lt 3) S N k c)))) σ :=
  en_B hx hs hS hN (by decide) (en_P hx hs hS hN (en_B hx hs hS hN (by decide) (en_P hx hs hS hN (en_B hx hs hS hN (by decide) (en_P hx hs hS hN (en_B4 hx hs hS hN Lt 0))))))
theorem c_Tx_endOfOrders (hx : σ[x]? = some (.inr (5, [.ref (b + s), .int (nI N)]))) (hs : σ[s]? = some (.inl (ta 1, 60, .inl S))) (hS : Fc S) (hN : N ≤ 60) (Lt : Nat) {k : Nat} (hk : k ≤ N) : jC l b D ta False y_Tx_endOfOrders b_Tx_endOfOrders 6 (some .int) (rL 27) [.ref (b + x), .int (nI k), .int (nI 0), .int (nI Lt)] σ (some (.int (rI (eoD S N Lt 4 k)))) σ := en_P hx hs hS hN (en_B1 hx hs hS hN Lt) k hk
theorem c_Tx_endOfOrder (hx : σ[x]? = some (.inr (5, [.ref (b + s), .int (nI N)]))) (hs : σ[s]? = some (.inl (ta 1, 60, .inl S))) (hS : Fc S) (hN : N ≤ 60) (Lt : Nat) {k : Nat} (hk : k ≤ 62) : jC l b D ta False y_Tx_endOfOrder b_Tx_endOfOrder 6 (some .int) (rL 25) [.ref (b + x), .int (nI k), .int (nI 0), .int (nI Lt)] σ (some (.int (rI (eoO (eoD S N Lt 3) S N Lt k)))) σ := k_Tx_endOfOrder hx hs hS hN (en_B1 hx hs hS hN Lt) hk
end EN
set_option maxRecDepth 100000 in
set_option maxHeartbeats 4000000 in
theorem c_Tx_isOrders {l : Launch} {b : Nat} {D : va_G} {ta : Nat → ClassId} {σ : List va_E} {x s : Nat} {S : Nat → Int32} {N : Nat} (hx : σ[x]? = some (.inr (5, [.ref (b + s), .int (nI N)]))) (hs : σ[s]? = some (.inl (ta 1, 60, .inl S))) (hS : Fc S) (hN : N ≤ 60) (Lt : Nat) : jC l b D ta False y_Tx_isOrders b_Tx_isOrders 2 (some .boolean) (rL 28) [.ref (b + x), .int (nI Lt)] (σ) (some (.int (bI (ioF S N Lt)))) (σ) := by
  refine jC_of (own := "WireField$Text") (by decide +kernel) (Nat.le_of_ble_eq_true rfl) rfl (fun Γ B K => ?_)
  change jW l b D Γ False 0 0 2 (σ) [(0, .ref (b + x)), (1, .int (nI Lt))] 0 []
  refine j_aload_n B d_Tx_isOrders_0 rfl 0 rfl ?_
  refine j_iconst (v := 0) B d_Tx_isOrders_1 (by decide) ?_
  refine j_iconst (v := 0) B d_Tx_isOrders_2 (by decide) ?_
  refine j_iload_n B d_Tx_isOrders_3 rfl 1 rfl ?_
  refine k_callV (as := [.int 0, .int 0, .int (nI Lt)]) (rest := []) (st1 := [.int (rI (eoD S N Lt 4 0))]) B (c_Tx_endOfOrders hx hs hS hN Lt (k := 0) (Nat.zero_le _)) yf_Tx_endOfOrders w_443 w_445 w_s7 rfl hx rfl (by decide) (by decide) rfl rfl (Nat.le_of_ble_eq_true rfl) d_Tx_isOrders_4 ?_
  refine j_aload_n B d_Tx_isOrders_7 rfl 0 rfl ?_
  refine gf_Tx_15 B hx rfl d_Tx_isOrders_8 ?_
  refine j_icmp_ne B d_Tx_isOrders_11 rfl (fun h11 => ?_) (fun h11 => ?_)
  · -- 11 jump
    refine j_iconst (v := 0) B d_Tx_isOrders_18 (by decide) ?_
    exact j_zret B K (by decide) (by rw [show ioF S N Lt = false from decide_eq_false (fun q => h11 ((rI_eq (fun k h => eoD_le 4 0 k (Nat.zero_le _) h) hN).mpr q))]; rfl) rfl d_Tx_isOrders_19
  · -- 11 on
    refine j_iconst (v := 1) B d_Tx_isOrders_14 (by decide) ?_
    refine j_goto B d_Tx_isOrders_15 rfl ?_
    exact j_zret B K (by decide) (by rw [show ioF S N Lt = true from decide_eq_true ((rI_eq (fun k h => eoD_le 4 0 k (Nat.zero_le _) h) hN).mp h11)]; rfl) rfl d_Tx_isOrders_19
set_option maxRecDepth 100000 in
set_option maxHeartbeats 4000000 in
theorem c_Tx_behindOrder {l : Launch} {b : Nat} {D : va_G} {ta : Nat → ClassId} {σ : List va_E} {x s : Nat} {S : Nat → Int32} {N : Nat} (hx : σ[x]? = some (.inr (5, [.ref (b + s), .int (nI N)]))) (hs : σ[s]? = some (.inl (ta 1, 60, .inl S))) (hS : Fc S) (hN : N ≤ 60) {k : Nat} (hk : k ≤ 62) : jC l b D ta False y_Tx_behindOrder b_Tx_behindOrder 2 (some .int) (rL 26) [.ref (b + x), .int (nI k)] (σ) (some (.int (rI (eoO (eoD S N 4 3) S N 4 k)))) (σ) := by
  refine jC_of (own := "WireField$Text") (by decide +kernel) (Nat.le_of_ble_eq_true rfl) rfl (fun Γ B K => ?_)
  change jW l b D Γ False 0 0 2 (σ) [(0, .ref (b + x)), (1, .int (nI k))] 0 []
  refine j_aload_n B d_Tx_behindOrder_0 rfl 0 rfl ?_
  refine j_iload_n B d_Tx_behindOrder_1 rfl 1 rfl ?_
  refine j_iconst (v := 0) B d_Tx_behindOrder_2 (by decide) ?_
  refine j_iconst (v := 4) B d_Tx_behindOrder_3 (by decide) ?_
  refine k_callV (as := [.int (nI k), .int 0, .int 4]) (rest := []) (st1 := [.int (rI (eoO (eoD S N 4 3) S N 4 k))]) B (c_Tx_endOfOrder hx hs hS hN 4 hk) yf_Tx_endOfOrder w_461 w_463 w_s8 rfl hx rfl (by decide) (by decide) rfl rfl (Nat.le_of_ble_eq_true rfl) d_Tx_behindOrder_4 ?_
  exact j_iret B K rfl rfl d_Tx_behindOrder_7
