set_option maxRecDepth 100000 in
set_option maxHeartbeats 4000000 in
theorem c_WF_isWithin {l : Launch} {b : Nat} {D : va_G} {ta : Nat → ClassId} {σ : List va_E} (c r : Int32) : jC l b D ta False y_WF_isWithin b_WF_isWithin 2 (some .boolean) (rL 0) [.int c, .int r] (σ) (some (.int (bI (inF c r)))) (σ) := by
  refine jC_of (own := "WireField") (by decide +kernel) (Nat.le_of_ble_eq_true rfl) rfl (fun Γ B K => ?_)
  change jW l b D Γ False 0 0 2 (σ) [(0, .int c), (1, .int r)] 0 []
  refine j_iload_n B d_WF_isWithin_0 rfl 0 rfl ?_
  refine j_if_lt B d_WF_isWithin_1 rfl (fun h1 => ?_) (fun h1 => ?_)
  · -- 1 jump
    refine j_iconst (v := 0) B d_WF_isWithin_24 (by decide) ?_
    exact j_zret B K (by decide) (by simp [bI, inF, h1]) rfl d_WF_isWithin_25
  · -- 1 on
    refine j_iload_n B d_WF_isWithin_4 rfl 0 rfl ?_
    refine j_bipush (v := 32) B d_WF_isWithin_5 (by decide) ?_
    refine j_icmp_ge B d_WF_isWithin_7 rfl (fun h7 => ?_) (fun h7 => ?_)
    · -- 7 jump
      refine j_iconst (v := 0) B d_WF_isWithin_24 (by decide) ?_
      exact j_zret B K (by decide) (by simp [bI, inF, h1, h7]) rfl d_WF_isWithin_25
    · -- 7 on
      refine j_iload_n B d_WF_isWithin_10 rfl 1 rfl ?_
      refine j_if_lt B d_WF_isWithin_11 rfl (fun h11 => ?_) (fun h11 => ?_)
      · -- 11 jump
        refine j_iconst (v := 0) B d_WF_isWithin_24 (by decide) ?_
        exact j_zret B K (by decide) (by simp [bI, inF, h1, h7, h11]) rfl d_WF_isWithin_25
      · -- 11 on
        refine j_iload_n B d_WF_isWithin_14 rfl 1 rfl ?_
        refine j_bipush (v := 24) B d_WF_isWithin_15 (by decide) ?_
        refine j_icmp_ge B d_WF_isWithin_17 rfl (fun h17 => ?_) (fun h17 => ?_)
        · -- 17 jump
          refine j_iconst (v := 0) B d_WF_isWithin_24 (by decide) ?_
          exact j_zret B K (by decide) (by simp [bI, inF, h1, h7, h11, h17]) rfl d_WF_isWithin_25
        · -- 17 on
          refine j_iconst (v := 1) B d_WF_isWithin_20 (by decide) ?_
          refine j_goto B d_WF_isWithin_21 rfl ?_
          exact j_zret B K (by decide) (by simp [bI, inF, h1, h7, h11, h17]) rfl d_WF_isWithin_25
set_option maxRecDepth 100000 in
set_option maxHeartbeats 4000000 in
theorem c_G_valueAt {l : Launch} {b : Nat} {D : va_G} {ta : Nat → ClassId} {σ : List va_E} {g h t w : Nat} {F0 F1 F2 : Nat → Int32} (hg : σ[g]? = some (.inr (0, [.ref (b + h), .ref (b + t), .ref (b + w)]))) (hh : σ[h]? = some (.inl (ta 0, 24, .inl F0))) (ht : σ[t]? = some (.inl (ta 0, 24, .inl F1))) (hw : σ[w]? = some (.inl (ta 0, 24, .inl F2))) (c r : Int32) : jC l b D ta False y_G_valueAt b_G_valueAt 3 (some .int) (rL 1) [.ref (b + g), .int c, .int r] (σ) (some (.int (fVal F0 F1 F2 c r))) (σ) := by
  refine jC_of (own := "WireField$Grid") (by decide +kernel) (Nat.le_of_ble_eq_true rfl) rfl (fun Γ B K => ?_)
  change jW l b D Γ False 0 0 3 (σ) [(0, .ref (b + g)), (1, .int c), (2, .int r)] 0 []
  refine j_iload_n B d_G_valueAt_0 rfl 1 rfl ?_
  refine j_iload_n B d_G_valueAt_1 rfl 2 rfl ?_
  refine k_callSN (as := [.int c, .int r]) (rest := []) (st1 := [.int (bI (inF c r))]) B (c_WF_isWithin c r) yf_WF_isWithin w_233 w_227 rfl (by decide) (by decide) rfl rfl (Nat.le_of_ble_eq_true rfl) d_G_valueAt_2 ?_
  refine j_if_ne B d_G_valueAt_5 rfl (fun h5 => ?_) (fun h5 => ?_)
  · -- 5 jump
    replace h5 := bI_t h5
    refine j_aload_n B d_G_valueAt_10 rfl 0 rfl ?_
    refine gf_G_9 B hg rfl d_G_valueAt_11 ?_
    refine j_iload_n B d_G_valueAt_14 rfl 2 rfl ?_
    refine j_iald B rfl hh (inF_in h5) d_G_valueAt_15 ?_
    refine j_iload_n B d_G_valueAt_16 rfl 1 rfl ?_
    refine j_iushr B d_G_valueAt_17 rfl ?_
    refine j_iconst (v := 1) B d_G_valueAt_18 (by decide) ?_
    refine j_iand B d_G_valueAt_19 ?_
    refine j_iconst (v := 1) B d_G_valueAt_20 (by decide) ?_
    refine j_icmp_ne B d_G_valueAt_21 rfl (fun h21 => ?_) (fun h21 => ?_)
    · -- 21 jump
      refine j_aload_n B d_G_valueAt_26 rfl 0 rfl ?_
      refine gf_G_15 B hg rfl d_G_valueAt_27 ?_
      refine j_iload_n B d_G_valueAt_30 rfl 2 rfl ?_
      refine j_iald B rfl ht (inF_in h5) d_G_valueAt_31 ?_
      refine j_iload_n B d_G_valueAt_32 rfl 1 rfl ?_
      refine j_iushr B d_G_valueAt_33 rfl ?_
      refine j_iconst (v := 1) B d_G_valueAt_34 (by decide) ?_
      refine j_iand B d_G_valueAt_35 ?_
      refine j_iconst (v := 1) B d_G_valueAt_36 (by decide) ?_
      refine j_icmp_ne B d_G_valueAt_37 rfl (fun h37 => ?_) (fun h37 => ?_)
      · -- 37 jump
        refine j_aload_n B d_G_valueAt_42 rfl 0 rfl ?_
        refine gf_G_18 B hg rfl d_G_valueAt_43 ?_
        refine j_iload_n B d_G_valueAt_46 rfl 2 rfl ?_
        refine j_iald B rfl hw (inF_in h5) d_G_valueAt_47 ?_
        refine j_iload_n B d_G_valueAt_48 rfl 1 rfl ?_
        refine j_iushr B d_G_valueAt_49 rfl ?_
        refine j_iconst (v := 1) B d_G_valueAt_50 (by decide) ?_
        refine j_iand B d_G_valueAt_51 ?_
        refine j_iconst (v := 1) B d_G_valueAt_52 (by decide) ?_
        refine j_icmp_ne B d_G_valueAt_53 rfl (fun h53 => ?_) (fun h53 => ?_)
        · -- 53 jump
          refine j_iconst (v := 0) B d_G_valueAt_60 (by decide) ?_
          exact j_iret B K (by simp [fVal, tb, h5, h21, h37, h53]) rfl d_G_valueAt_61
        · -- 53 on
          refine j_iconst (v := 3) B d_G_valueAt_56 (by decide) ?_
          refine j_goto B d_G_valueAt_57 rfl ?_
          exact j_iret B K (by simp [fVal, tb, h5, h21, h37, h53]) rfl d_G_valueAt_61
      · -- 37 on
        refine j_iconst (v := 2) B d_G_valueAt_40 (by decide) ?_
        exact j_iret B K (by simp [fVal, tb, h5, h21, h37]) rfl d_G_valueAt_41
    · -- 21 on
      refine j_iconst (v := 1) B d_G_valueAt_24 (by decide) ?_
      exact j_iret B K (by simp [fVal, tb, h5, h21]) rfl d_G_valueAt_25
  · -- 5 on
    replace h5 := bI_f h5
    refine j_iconst (v := (-1)) B d_G_valueAt_8 (by decide) ?_
    exact j_iret B K (by simp [fVal, tb, h5]) rfl d_G_valueAt_9
set_option maxRecDepth 100000 in
set_option maxHeartbeats 4000000 in
theorem c_G_put {l : Launch} {b : Nat} {D : va_G} {ta : Nat → ClassId} {σ : List va_E} {g h t w : Nat} {F0 F1 F2 : Nat → Int32} (hg : σ[g]? = some (.inr (0, [.ref (b + h), .ref (b + t), .ref (b + w)]))) (hh : σ[h]? = some (.inl (ta 0, 24, .inl F0))) (ht : σ[t]? = some (.inl (ta 0, 24, .inl F1))) (hw : σ[w]? = some (.inl (ta 0, 24, .inl F2))) (nht : h ≠ t) (nhw : h ≠ w) (ntw : t ≠ w) (ngh : g ≠ h) (ngt : g ≠ t) (ngw : g ≠ w) (c r v : Int32) : jC l b D ta False y_G_put b_G_put 5 none (rL 1) [.ref (b + g), .int c, .int r, .int v] (σ) none (((σ.set h (.inl (ta 0, 24, .inl (pB F0 c r v 1)))).set t (.inl (ta 0, 24, .inl (pB F1 c r v 2)))).set w (.inl (ta 0, 24, .inl (pB F2 c r v 3)))) := by
  refine jC_of (own := "WireField$Grid") (by decide +kernel) (Nat.le_of_ble_eq_true rfl) rfl (fun Γ B K => ?_)
  change jW l b D Γ False 0 0 5 (σ) [(0, .ref (b + g)), (1, .int c), (2, .int r), (3, .int v)] 0 []
  refine j_iload_n B d_G_put_0 rfl 1 rfl ?_
  refine j_iload_n B d_G_put_1 rfl 2 rfl ?_
  refine k_callSN (as := [.int c, .int r]) (rest := []) (st1 := [.int (bI (inF c r))]) B (c_WF_isWithin c r) yf_WF_isWithin w_233 w_227 rfl (by decide) (by decide) rfl rfl (Nat.le_of_ble_eq_true rfl) d_G_put_2 ?_
  refine j_if_ne B d_G_put_5 rfl (fun h5 => ?_) (fun h5 => ?_)
  · -- 5 jump
    replace h5 := bI_t h5
    refine j_iconst (v := 1) B d_G_put_9 (by decide) ?_
    refine j_iload_n B d_G_put_10 rfl 1 rfl ?_
    refine j_ishl B d_G_put_11 ?_
    refine j_istore (L' := [(0, .ref (b + g)), (1, .int c), (2, .int r), (3, .int v), (4, .int (1 <<< (c &&& 31)))]) B d_G_put_12 (by decide) [1, 2, 3, 4, 0] rfl ?_
    refine j_aload_n B d_G_put_14 rfl 0 rfl ?_
    refine gf_G_9 B hg rfl d_G_put_15 ?_
    refine j_iload_n B d_G_put_18 rfl 2 rfl ?_
    refine j_iload_n B d_G_put_19 rfl 3 rfl ?_
    refine j_iconst (v := 1) B d_G_put_20 (by decide) ?_
    have j47 : ∀ x1 : Int32, x1 = (if v = 1 then (F0 r.toNatClampNeg) ||| (1 <<< (c &&& 31)) else (F0 r.toNatClampNeg) &&& ((1 <<< (c &&& 31)) ^^^ (-1))) → jW l b D Γ False 0 0 5 (σ) [(0, .ref (b + g)), (1, .int c), (2, .int r), (3, .int v), (4, .int (1 <<< (c &&& 31)))] 47 [.int x1, .int r, .ref (b + h)] := by
      intro x1 e_x1
      refine j_iast B not_false rfl hh (inF_in h5) d_G_put_47 ?_
      refine j_aload_n B d_G_put_48 rfl 0 rfl ?_
      refine gf_G_15 B (jn ngh.symm hg) rfl d_G_put_49 ?_
      refine j_iload_n B d_G_put_52 rfl 2 rfl ?_
      refine j_iload_n B d_G_put_53 rfl 3 rfl ?_
      refine j_iconst (v := 2) B d_G_put_54 (by decide) ?_
      have j81 : ∀ x2 : Int32, x2 = (if v = 2 then (F1 r.toNatClampNeg) ||| (1 <<< (c &&& 31)) else (F1 r.toNatClampNeg) &&& ((1 <<< (c &&& 31)) ^^^ (-1))) → jW l b D Γ False 0 0 5 (σ.set h (.inl (ta 0, 24, .inl (upd F0 r.toNatClampNeg x1)))) [(0, .ref (b + g)), (1, .int c), (2, .int r), (3, .int v), (4, .int (1 <<< (c &&& 31)))] 81 [.int x2, .int r, .ref (b + t)] := by
        intro x2 e_x2
        refine j_iast B not_false rfl (jn nht ht) (inF_in h5) d_G_put_81 ?_
        refine j_aload_n B d_G_put_82 rfl 0 rfl ?_
        refine gf_G_18 B (jn ngt.symm (jn ngh.symm hg)) rfl d_G_put_83 ?_
        refine j_iload_n B d_G_put_86 rfl 2 rfl ?_
        refine j_iload_n B d_G_put_87 rfl 3 rfl ?_
        refine j_iconst (v := 3) B d_G_put_88 (by decide) ?_
        have j115 : ∀ x3 : Int32, x3 = (if v = 3 then (F2 r.toNatClampNeg) ||| (1 <<< (c &&& 31)) else (F2 r.toNatClampNeg) &&& ((1 <<< (c &&& 31)) ^^^ (-1))) → jW l b D Γ False 0 0 5 ((σ.set h (.inl (ta 0, 24, .inl (upd F0 r.toNatClampNeg x1)))).set t (.inl (ta 0, 24, .inl (upd F1 r.toNatClampNeg x2)))) [(0, .ref (b + g)), (1, .int c), (2, .int r), (3, .int v), (4, .int (1 <<< (c &&& 31)))] 115 [.int x3, .int r, .ref (b + w)] := by
          intro x3 e_x3
          refine j_iast B not_false rfl (jn ntw (jn nhw hw)) (inF_in h5) d_G_put_115 ?_
          exact j_vret B K (by subst e_x1 e_x2 e_x3; simp only [pB, h5, if_true]) d_G_put_116
        refine j_icmp_ne B d_G_put_89 rfl (fun h89 => ?_) (fun h89 => ?_)
        · -- 89 jump
          refine j_aload_n B d_G_put_104 rfl 0 rfl ?_
          refine gf_G_18 B (jn ngt.symm (jn ngh.symm hg)) rfl d_G_put_105 ?_
          refine j_iload_n B d_G_put_108 rfl 2 rfl ?_
          refine j_iald B rfl (jn ntw (jn nhw hw)) (inF_in h5) d_G_put_109 ?_
          refine j_iload B d_G_put_110 4 rfl ?_
          refine j_iconst (v := (-1)) B d_G_put_112 (by decide) ?_
          refine j_ixor B d_G_put_113 ?_
          refine j_iand B d_G_put_114 ?_
          exact j115 _ (by rw [if_neg h89])
        · -- 89 on
          refine j_aload_n B d_G_put_92 rfl 0 rfl ?_
          refine gf_G_18 B (jn ngt.symm (jn ngh.symm hg)) rfl d_G_put_93 ?_
          refine j_iload_n B d_G_put_96 rfl 2 rfl ?_
          refine j_iald B rfl (jn ntw (jn nhw hw)) (inF_in h5) d_G_put_97 ?_
          refine j_iload B d_G_put_98 4 rfl ?_
          refine j_ior B d_G_put_100 ?_
          refine j_goto B d_G_put_101 rfl ?_
          exact j115 _ (by rw [if_pos h89])
      refine j_icmp_ne B d_G_put_55 rfl (fun h55 => ?_) (fun h55 => ?_)
      · -- 55 jump
        refine j_aload_n B d_G_put_70 rfl 0 rfl ?_
        refine gf_G_15 B (jn ngh.symm hg) rfl d_G_put_71 ?_
        refine j_iload_n B d_G_put_74 rfl 2 rfl ?_
        refine j_iald B rfl (jn nht ht) (inF_in h5) d_G_put_75 ?_
        refine j_iload B d_G_put_76 4 rfl ?_
        refine j_iconst (v := (-1)) B d_G_put_78 (by decide) ?_
        refine j_ixor B d_G_put_79 ?_
        refine j_iand B d_G_put_80 ?_
        exact j81 _ (by rw [if_neg h55])
      · -- 55 on
        refine j_aload_n B d_G_put_58 rfl 0 rfl ?_
        refine gf_G_15 B (jn ngh.symm hg) rfl d_G_put_59 ?_
        refine j_iload_n B d_G_put_62 rfl 2 rfl ?_
        refine j_iald B rfl (jn nht ht) (inF_in h5) d_G_put_63 ?_
        refine j_iload B d_G_put_64 4 rfl ?_
        refine j_ior B d_G_put_66 ?_
        refine j_goto B d_G_put_67 rfl ?_
        exact j81 _ (by rw [if_pos h55])
    refine j_icmp_ne B d_G_put_21 rfl (fun h21 => ?_) (fun h21 => ?_)
    · -- 21 jump
      refine j_aload_n B d_G_put_36 rfl 0 rfl ?_
      refine gf_G_9 B hg rfl d_G_put_37 ?_
      refine j_iload_n B d_G_put_40 rfl 2 rfl ?_
      refine j_iald B rfl hh (inF_in h5) d_G_put_41 ?_
      refine j_iload B d_G_put_42 4 rfl ?_
      refine j_iconst (v := (-1)) B d_G_put_44 (by decide) ?_
      refine j_ixor B d_G_put_45 ?_
      refine j_iand B d_G_put_46 ?_
      exact j47 _ (by rw [if_neg h21])
    · -- 21 on
      refine j_aload_n B d_G_put_24 rfl 0 rfl ?_
      refine gf_G_9 B hg rfl d_G_put_25 ?_
      refine j_iload_n B d_G_put_28 rfl 2 rfl ?_
      refine j_iald B rfl hh (inF_in h5) d_G_put_29 ?_
      refine j_iload B d_G_put_30 4 rfl ?_
      refine j_ior B d_G_put_32 ?_
      refine j_goto B d_G_put_33 rfl ?_
      exact j47 _ (by rw [if_pos h21])
  · -- 5 on
    replace h5 := bI_f h5
    exact j_vret B K (by simp only [pB, h5, Bool.false_eq_true, if_false, jset hh, jset ht, jset hw]) d_G_put_8
set_option maxRecDepth 100000 in
set_option maxHeartbeats 4000000 in
theorem c_G_takeFrom {l : Launch} {b : Nat} {D : va_G} {ta : Nat → ClassId} {σ : List va_E} {g h t w g2 h2 t2 w2 : Nat} {F0 F1 F2 E0 E1 E2 : Nat → Int32} (hg : σ[g]? = some (.inr (0, [.ref (b + h), .ref (b + t), .ref (b + w)]))) (hh : σ[h]? = some (.inl (ta 0, 24, .inl F0))) (ht : σ[t]? = some (.inl (ta 0, 24, .inl F1))) (hw : σ[w]? = some (.inl (ta 0, 24, .inl F2))) (hg2 : σ[g2]? = some (.inr (0, [.ref (b + h2), .ref (b + t2), .ref (b + w2)]))) (hh2 : σ[h2]? = some (.inl (ta 0, 24, .inl E0))) (ht2 : σ[t2]? = some (.inl (ta 0, 24, .inl E1))) (hw2 : σ[w2]? = some (.inl (ta 0, 24, .inl E2))) (nhg : h ≠ g) (nht : h ≠ t) (nhw : h ≠ w) (nhg2 : h ≠ g2) (nhh2 : h ≠ h2) (nht2 : h ≠ t2) (nhw2 : h ≠ w2) (ntg : t ≠ g) (ntw : t ≠ w) (ntg2 : t ≠ g2) (nth2 : t ≠ h2) (ntt2 : t ≠ t2) (ntw2 : t ≠ w2) (nwg : w ≠ g) (nwg2 : w ≠ g2) (nwh2 : w ≠ h2) (nwt2 : w ≠ t2) (nww2 : w ≠ w2) (z0 : Z24 E0) (z1 : Z24 E1) (z2 : Z24 E2) (y0 : Z24 F0) (y1 : Z24 F1) (y2 : Z24 F2) : jC l b D ta False y_G_takeFrom b_G_takeFrom 2 none (rL 1) [.ref (b + g), .ref (b + g2)] (σ) none (((σ.set h (.inl (ta 0, 24, .inl E0))).set t (.inl (ta 0, 24, .inl E1))).set w (.inl (ta 0, 24, .inl E2))) := by
  refine jC_of (own := "WireField$Grid") (by decide +kernel) (Nat.le_of_ble_eq_true rfl) rfl (fun Γ B K => ?_)
  change jW l b D Γ False 0 0 2 (σ) [(0, .ref (b + g)), (1, .ref (b + g2))] 0 []
  refine j_aload_n B d_G_takeFrom_0 rfl 1 rfl ?_
  refine gf_G_9 B hg2 rfl d_G_takeFrom_1 ?_
  refine j_iconst (v := 0) B d_G_takeFrom_4 (by decide) ?_
  refine j_aload_n B d_G_takeFrom_5 rfl 0 rfl ?_
  refine gf_G_9 B hg rfl d_G_takeFrom_6 ?_
  refine j_iconst (v := 0) B d_G_takeFrom_9 (by decide) ?_
  refine j_bipush (v := 24) B d_G_takeFrom_10 (by decide) ?_
  refine k_copy B w_257 w_259 w_258 w_20 rfl rfl hh2 hh ⟨by decide, by decide⟩ (fun _ _ => rfl) (by decide) (Nat.le_of_ble_eq_true rfl) (z24 z0 y0) d_G_takeFrom_12 ?_
  refine j_aload_n B d_G_takeFrom_15 rfl 1 rfl ?_
  refine gf_G_15 B (jn nhg2 hg2) rfl d_G_takeFrom_16 ?_
  refine j_iconst (v := 0) B d_G_takeFrom_19 (by decide) ?_
  refine j_aload_n B d_G_takeFrom_20 rfl 0 rfl ?_
  refine gf_G_15 B (jn nhg hg) rfl d_G_takeFrom_21 ?_
  refine j_iconst (v := 0) B d_G_takeFrom_24 (by decide) ?_
  refine j_bipush (v := 24) B d_G_takeFrom_25 (by decide) ?_
  refine k_copy B w_257 w_259 w_258 w_20 rfl rfl (jn nht2 ht2) (jn nht ht) ⟨by decide, by decide⟩ (fun _ _ => rfl) (by decide) (Nat.le_of_ble_eq_true rfl) (z24 z1 y1) d_G_takeFrom_27 ?_
  refine j_aload_n B d_G_takeFrom_30 rfl 1 rfl ?_
  refine gf_G_18 B (jn ntg2 (jn nhg2 hg2)) rfl d_G_takeFrom_31 ?_
  refine j_iconst (v := 0) B d_G_takeFrom_34 (by decide) ?_
  refine j_aload_n B d_G_takeFrom_35 rfl 0 rfl ?_
  refine gf_G_18 B (jn ntg (jn nhg hg)) rfl d_G_takeFrom_36 ?_
  refine j_iconst (v := 0) B d_G_takeFrom_39 (by decide) ?_
  refine j_bipush (v := 24) B d_G_takeFrom_40 (by decide) ?_
  refine k_copy B w_257 w_259 w_258 w_20 rfl rfl (jn ntw2 (jn nhw2 hw2)) (jn ntw (jn nhw hw)) ⟨by decide, by decide⟩ (fun _ _ => rfl) (by decide) (Nat.le_of_ble_eq_true rfl) (z24 z2 y2) d_G_takeFrom_42 ?_
  exact j_vret B K rfl d_G_takeFrom_45
