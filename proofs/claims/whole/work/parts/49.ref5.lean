set_option maxRecDepth 100000 in
set_option maxHeartbeats 4000000 in
theorem c_M_behind {l : Launch} {b : Nat} {D : va_G} {ta : Nat → ClassId} {σ : List va_E} (hl : σ.length = 133) {wt : Int32} {F0 : Nat → Int32} {F1 : Nat → Int32} {F2 : Nat → Int32} {HH : Nat → Int32} {kt : Nat → Int32} {kp : Nat → Int32} {a : Nat} {hi : Nat} {tm : Nat} {sN : Nat} {sx : Nat → Int32} {sy : Nat → Int32} {pt : Nat → Int64} {mn : Nat → Int32} {pl : Nat → Int32} {pN : Nat} {px : Nat → Int32} {py : Nat → Int32} {sn : Nat → Int32} {lt : Nat → Int32} {rc : Nat → Int64} {tx : Nat → Int32} {sz : Nat → Int32} {us : Nat → Int32} {D0 : Nat → Int32} {D1 : Nat → Int32} {D2 : Nat → Int32} {qx : Int32} {qy : Int32} {di : Nat} {up : Bool} {dn : Nat} {be : Bool} {op : Nat} {gs : Nat → Int32} {t0 : Nat → Int32} {fr : Nat → Int32} {lf : Nat → Int32} {pX : Nat → Int32} {pY : Nat → Int32} {pD : Nat → Int32} {pU : Nat → Int32} {X : List va_E} {t N p e f0 : Nat} (ht : t < 5) (hz : sz t = nI N) (hN : N ≤ 60) (hf : p + f0 < 2 ^ 18) (h0 : cls (sg (fun i => tx (60 * t + i)) N p) = false) (hb : bhR (fun i => tx (60 * t + i)) N f0 p 0 = some e) : jC l b D ta False y_M_behind b_M_behind 6 (some .int) (rL 1) [.ref (b + 133), .int (nI t), .int (nI p)] (σ ++ rC b ta wt F0 F1 F2 HH kt kp a hi tm sN sx sy pt mn pl pN px py sn lt rc tx sz us D0 D1 D2 qx qy di up dn be op gs t0 fr lf pX pY pD pU X) (some (.int (nI e))) (σ ++ rC b ta wt F0 F1 F2 HH kt kp a hi tm sN sx sy pt mn pl pN px py sn lt rc tx sz us D0 D1 D2 qx qy di up dn be op gs t0 fr lf pX pY pD pU X) := by
  refine jC_of (own := "WireFieldModel") (by decide +kernel) (Nat.le_of_ble_eq_true rfl) rfl (fun Γ B K => ?_)
  change jW l b D Γ False 0 0 6 (σ ++ rC b ta wt F0 F1 F2 HH kt kp a hi tm sN sx sy pt mn pl pN px py sn lt rc tx sz us D0 D1 D2 qx qy di up dn be op gs t0 fr lf pX pY pD pU X) [(0, .ref (b + 133)), (1, .int (nI t)), (2, .int (nI p))] 0 []
  refine j_iconst (v := 0) B d_M_behind_0 (by decide) ?_
  refine j_istore_n (L' := [(0, .ref (b + 133)), (1, .int (nI t)), (2, .int (nI p)), (3, .int 0)]) B d_M_behind_1 rfl (by decide) [1, 2, 3, 0] rfl ?_
  refine j_iload_n B d_M_behind_2 rfl 2 rfl ?_
  refine j_istore (L' := [(0, .ref (b + 133)), (1, .int (nI t)), (2, .int (nI p)), (3, .int 0), (4, .int (nI p))]) B d_M_behind_3 (by decide) [1, 2, 3, 4, 0] rfl ?_
  have lp5 : ∀ (n5 : Nat) (f : Nat) (k : Nat) (d : Nat), f = n5 → (k + f < 2 ^ 18 ∧ d + f < 2 ^ 18) → (bhR (fun i => tx (60 * t + i)) N f k d = some e) → (d = 0 → cls (sg (fun i => tx (60 * t + i)) N k) = false) → jW l b D Γ False 0 0 6 (σ ++ rC b ta wt F0 F1 F2 HH kt kp a hi tm sN sx sy pt mn pl pN px py sn lt rc tx sz us D0 D1 D2 qx qy di up dn be op gs t0 fr lf pX pY pD pU X) [(0, .ref (b + 133)), (1, .int (nI t)), (2, .int (nI p)), (3, .int (nI d)), (4, .int (nI k))] 5 [] := by
    refine jloop (fun n5 ih5 => ?_)
    intro f k d hn5 hb2 hI hc
    refine j_aload_n B d_M_behind_5 rfl 0 rfl ?_
    refine j_iload_n B d_M_behind_6 rfl 1 rfl ?_
    refine j_iload B d_M_behind_7 4 rfl ?_
    refine k_callV (as := [.int (nI t), .int (nI k)]) (rest := []) (st1 := [.int (sg (fun i => tx (60 * t + i)) N k)]) B (c_M_sign hl (t := t) (N := N) (p := k) ht hz hN (by omega)) yf_M_sign w_885 w_887 w_s29 rfl (rG (ix := 0) hl rfl) rfl (by decide) (by decide) rfl rfl (Nat.le_of_ble_eq_true rfl) d_M_behind_9 ?_
    refine j_istore (L' := [(0, .ref (b + 133)), (1, .int (nI t)), (2, .int (nI p)), (3, .int (nI d)), (4, .int (nI k)), (5, .int (sg (fun i => tx (60 * t + i)) N k))]) B d_M_behind_12 (by decide) [1, 2, 3, 4, 5, 0] rfl ?_
    obtain ⟨g, hg⟩ : ∃ g, f = g + 1 := by
          cases f with
          | zero => cases hI
          | succ g => exact ⟨g, rfl⟩
    subst hg
    refine j_iload_n B d_M_behind_14 rfl 3 rfl ?_
    refine j_iload B d_M_behind_15 5 rfl ?_
    refine j_bipush (v := 40) B d_M_behind_17 (by decide) ?_
    refine j_icmp_eq B d_M_behind_19 rfl (fun h19 => ?_) (fun h19 => ?_)
    · -- 19 jump
      have ho : opn (sg (fun i => tx (60 * t + i)) N k) = true := by rw [h19]; decide
      rw [bhR, if_pos ho] at hI
      refine j_iconst (v := 1) B d_M_behind_29 (by decide) ?_
      refine j_goto B d_M_behind_30 rfl ?_
      refine j_iaddE (v := nI (d + 1)) B (nI_add d 1) d_M_behind_52 ?_
      refine j_istore_n (L' := [(0, .ref (b + 133)), (1, .int (nI t)), (2, .int (nI p)), (3, .int (nI (d + 1))), (4, .int (nI k)), (5, .int (sg (fun i => tx (60 * t + i)) N k))]) B d_M_behind_53 rfl (by decide) [1, 2, 3, 0, 4, 5] rfl ?_
      refine j_iinc (L' := [(0, .ref (b + 133)), (1, .int (nI t)), (2, .int (nI p)), (3, .int (nI (d + 1))), (4, .int (nI (k + 1))), (5, .int (sg (fun i => tx (60 * t + i)) N k))]) (v := nI (k + 1)) B d_M_behind_54 (k := 4) rfl (nI_succ k).symm (by decide) [1, 2, 3, 4, 0, 5] rfl ?_
      refine j_iload_n B d_M_behind_57 rfl 3 rfl ?_
      refine j_if_gt B d_M_behind_58 rfl (fun h58 => ?_) (fun h58 => absurd (nI_lt (a := 0) (b := d + 1) (by omega) (by omega)) h58)
      refine jW.sub (L' := [(0, .ref (b + 133)), (1, .int (nI t)), (2, .int (nI p)), (3, .int (nI (d + 1))), (4, .int (nI (k + 1)))]) [0, 1, 2, 3, 4] rfl ?_; exact ih5 _ (by omega) g (k + 1) (d + 1) rfl (by omega) hI (fun q => absurd q (by omega))
    · -- 19 on
      refine j_iload B d_M_behind_22 5 rfl ?_
      refine j_bipush (v := 91) B d_M_behind_24 (by decide) ?_
      refine j_icmp_ne B d_M_behind_26 rfl (fun h26 => ?_) (fun h26 => ?_)
      · -- 26 jump
        refine j_iload B d_M_behind_33 5 rfl ?_
        refine j_bipush (v := 41) B d_M_behind_35 (by decide) ?_
        refine j_icmp_eq B d_M_behind_37 rfl (fun h37 => ?_) (fun h37 => ?_)
        · -- 37 jump
          have ho : ¬ opn (sg (fun i => tx (60 * t + i)) N k) = true := by rw [h37]; decide
          have hq : cls (sg (fun i => tx (60 * t + i)) N k) = true := by rw [h37]; decide
          rw [bhR, if_neg ho, if_pos hq] at hI
          have h1d : 1 ≤ d := (Nat.eq_zero_or_pos d).elim (fun q => absurd (hc q) (by rw [hq]; decide)) id
          refine j_iconst (v := (-1)) B d_M_behind_47 (by decide) ?_
          refine j_goto B d_M_behind_48 rfl ?_
          refine j_iaddE (v := nI (d - 1)) B (m1_d h1d) d_M_behind_52 ?_
          refine j_istore_n (L' := [(0, .ref (b + 133)), (1, .int (nI t)), (2, .int (nI p)), (3, .int (nI (d - 1))), (4, .int (nI k)), (5, .int (sg (fun i => tx (60 * t + i)) N k))]) B d_M_behind_53 rfl (by decide) [1, 2, 3, 0, 4, 5] rfl ?_
          refine j_iinc (L' := [(0, .ref (b + 133)), (1, .int (nI t)), (2, .int (nI p)), (3, .int (nI (d - 1))), (4, .int (nI (k + 1))), (5, .int (sg (fun i => tx (60 * t + i)) N k))]) (v := nI (k + 1)) B d_M_behind_54 (k := 4) rfl (nI_succ k).symm (by decide) [1, 2, 3, 4, 0, 5] rfl ?_
          refine j_iload_n B d_M_behind_57 rfl 3 rfl ?_
          refine j_if_gt B d_M_behind_58 rfl (fun h58 => ?_) (fun h58 => ?_)
          · -- 58 jump
            have h2 : 1 < d := (Nat.eq_zero_or_pos (d - 1)).elim (fun q => absurd h58 (by rw [q]; decide)) (fun q => by omega)
            rw [if_pos h2] at hI
            refine jW.sub (L' := [(0, .ref (b + 133)), (1, .int (nI t)), (2, .int (nI p)), (3, .int (nI (d - 1))), (4, .int (nI (k + 1)))]) [0, 1, 2, 3, 4] rfl ?_; exact ih5 _ (by omega) g (k + 1) (d - 1) rfl (by omega) hI (fun q => absurd q (by omega))
          · -- 58 on
            have h2 : ¬ 1 < d := fun q => absurd (nI_lt (a := 0) (b := (d - 1)) (by omega) (by omega)) h58
            rw [if_neg h2] at hI
            refine j_iload B d_M_behind_61 4 rfl ?_
            exact j_iret B K (by rw [Option.some.inj hI]) rfl d_M_behind_63
        · -- 37 on
          refine j_iload B d_M_behind_40 5 rfl ?_
          refine j_bipush (v := 93) B d_M_behind_42 (by decide) ?_
          refine j_icmp_ne B d_M_behind_44 rfl (fun h44 => ?_) (fun h44 => ?_)
          · -- 44 jump
            have ho : ¬ opn (sg (fun i => tx (60 * t + i)) N k) = true := by simp [opn, h19, h26]
            have hq : ¬ cls (sg (fun i => tx (60 * t + i)) N k) = true := by simp [cls, h37, h44]
            rw [bhR, if_neg ho, if_neg hq] at hI
            refine j_iconst (v := 0) B d_M_behind_51 (by decide) ?_
            refine j_iaddE (v := nI (d + 0)) B (nI_add d 0) d_M_behind_52 ?_
            refine j_istore_n (L' := [(0, .ref (b + 133)), (1, .int (nI t)), (2, .int (nI p)), (3, .int (nI (d + 0))), (4, .int (nI k)), (5, .int (sg (fun i => tx (60 * t + i)) N k))]) B d_M_behind_53 rfl (by decide) [1, 2, 3, 0, 4, 5] rfl ?_
            refine j_iinc (L' := [(0, .ref (b + 133)), (1, .int (nI t)), (2, .int (nI p)), (3, .int (nI (d + 0))), (4, .int (nI (k + 1))), (5, .int (sg (fun i => tx (60 * t + i)) N k))]) (v := nI (k + 1)) B d_M_behind_54 (k := 4) rfl (nI_succ k).symm (by decide) [1, 2, 3, 4, 0, 5] rfl ?_
            refine j_iload_n B d_M_behind_57 rfl 3 rfl ?_
            refine j_if_gt B d_M_behind_58 rfl (fun h58 => ?_) (fun h58 => ?_)
            · -- 58 jump
              have h2 : 0 < d := (Nat.eq_zero_or_pos (d + 0)).elim (fun q => absurd h58 (by rw [q]; decide)) (fun q => by omega)
              rw [if_pos h2] at hI
              refine jW.sub (L' := [(0, .ref (b + 133)), (1, .int (nI t)), (2, .int (nI p)), (3, .int (nI (d + 0))), (4, .int (nI (k + 1)))]) [0, 1, 2, 3, 4] rfl ?_; exact ih5 _ (by omega) g (k + 1) (d + 0) rfl (by omega) hI (fun q => absurd q (by omega))
            · -- 58 on
              have h2 : ¬ 0 < d := fun q => absurd (nI_lt (a := 0) (b := (d + 0)) (by omega) (by omega)) h58
              rw [if_neg h2] at hI
              refine j_iload B d_M_behind_61 4 rfl ?_
              exact j_iret B K (by rw [Option.some.inj hI]) rfl d_M_behind_63
          · -- 44 on
            have ho : ¬ opn (sg (fun i => tx (60 * t + i)) N k) = true := by rw [h44]; decide
            have hq : cls (sg (fun i => tx (60 * t + i)) N k) = true := by rw [h44]; decide
            rw [bhR, if_neg ho, if_pos hq] at hI
            have h1d : 1 ≤ d := (Nat.eq_zero_or_pos d).elim (fun q => absurd (hc q) (by rw [hq]; decide)) id
            refine j_iconst (v := (-1)) B d_M_behind_47 (by decide) ?_
            refine j_goto B d_M_behind_48 rfl ?_
            refine j_iaddE (v := nI (d - 1)) B (m1_d h1d) d_M_behind_52 ?_
            refine j_istore_n (L' := [(0, .ref (b + 133)), (1, .int (nI t)), (2, .int (nI p)), (3, .int (nI (d - 1))), (4, .int (nI k)), (5, .int (sg (fun i => tx (60 * t + i)) N k))]) B d_M_behind_53 rfl (by decide) [1, 2, 3, 0, 4, 5] rfl ?_
            refine j_iinc (L' := [(0, .ref (b + 133)), (1, .int (nI t)), (2, .int (nI p)), (3, .int (nI (d - 1))), (4, .int (nI (k + 1))), (5, .int (sg (fun i => tx (60 * t + i)) N k))]) (v := nI (k + 1)) B d_M_behind_54 (k := 4) rfl (nI_succ k).symm (by decide) [1, 2, 3, 4, 0, 5] rfl ?_
            refine j_iload_n B d_M_behind_57 rfl 3 rfl ?_
            refine j_if_gt B d_M_behind_58 rfl (fun h58 => ?_) (fun h58 => ?_)
            · -- 58 jump
              have h2 : 1 < d := (Nat.eq_zero_or_pos (d - 1)).elim (fun q => absurd h58 (by rw [q]; decide)) (fun q => by omega)
              rw [if_pos h2] at hI
              refine jW.sub (L' := [(0, .ref (b + 133)), (1, .int (nI t)), (2, .int (nI p)), (3, .int (nI (d - 1))), (4, .int (nI (k + 1)))]) [0, 1, 2, 3, 4] rfl ?_; exact ih5 _ (by omega) g (k + 1) (d - 1) rfl (by omega) hI (fun q => absurd q (by omega))
            · -- 58 on
              have h2 : ¬ 1 < d := fun q => absurd (nI_lt (a := 0) (b := (d - 1)) (by omega) (by omega)) h58
              rw [if_neg h2] at hI
              refine j_iload B d_M_behind_61 4 rfl ?_
              exact j_iret B K (by rw [Option.some.inj hI]) rfl d_M_behind_63
      · -- 26 on
        have ho : opn (sg (fun i => tx (60 * t + i)) N k) = true := by rw [h26]; decide
        rw [bhR, if_pos ho] at hI
        refine j_iconst (v := 1) B d_M_behind_29 (by decide) ?_
        refine j_goto B d_M_behind_30 rfl ?_
        refine j_iaddE (v := nI (d + 1)) B (nI_add d 1) d_M_behind_52 ?_
        refine j_istore_n (L' := [(0, .ref (b + 133)), (1, .int (nI t)), (2, .int (nI p)), (3, .int (nI (d + 1))), (4, .int (nI k)), (5, .int (sg (fun i => tx (60 * t + i)) N k))]) B d_M_behind_53 rfl (by decide) [1, 2, 3, 0, 4, 5] rfl ?_
        refine j_iinc (L' := [(0, .ref (b + 133)), (1, .int (nI t)), (2, .int (nI p)), (3, .int (nI (d + 1))), (4, .int (nI (k + 1))), (5, .int (sg (fun i => tx (60 * t + i)) N k))]) (v := nI (k + 1)) B d_M_behind_54 (k := 4) rfl (nI_succ k).symm (by decide) [1, 2, 3, 4, 0, 5] rfl ?_
        refine j_iload_n B d_M_behind_57 rfl 3 rfl ?_
        refine j_if_gt B d_M_behind_58 rfl (fun h58 => ?_) (fun h58 => absurd (nI_lt (a := 0) (b := d + 1) (by omega) (by omega)) h58)
        refine jW.sub (L' := [(0, .ref (b + 133)), (1, .int (nI t)), (2, .int (nI p)), (3, .int (nI (d + 1))), (4, .int (nI (k + 1)))]) [0, 1, 2, 3, 4] rfl ?_; exact ih5 _ (by omega) g (k + 1) (d + 1) rfl (by omega) hI (fun q => absurd q (by omega))
  exact lp5 _ f0 p 0 rfl (by omega) hb (fun _ => h0)
set_option maxRecDepth 100000 in
set_option maxHeartbeats 4000000 in
theorem c_M_reads {l : Launch} {b : Nat} {D : va_G} {ta : Nat → ClassId} {σ : List va_E} (hl : σ.length = 133) {wt : Int32} {F0 : Nat → Int32} {F1 : Nat → Int32} {F2 : Nat → Int32} {HH : Nat → Int32} {kt : Nat → Int32} {kp : Nat → Int32} {a : Nat} {hi : Nat} {tm : Nat} {sN : Nat} {sx : Nat → Int32} {sy : Nat → Int32} {pt : Nat → Int64} {mn : Nat → Int32} {pl : Nat → Int32} {pN : Nat} {px : Nat → Int32} {py : Nat → Int32} {sn : Nat → Int32} {lt : Nat → Int32} {rc : Nat → Int64} {tx : Nat → Int32} {sz : Nat → Int32} {us : Nat → Int32} {D0 : Nat → Int32} {D1 : Nat → Int32} {D2 : Nat → Int32} {qx : Int32} {qy : Int32} {di : Nat} {up : Bool} {dn : Nat} {be : Bool} {op : Nat} {gs : Nat → Int32} {t0 : Nat → Int32} {fr : Nat → Int32} {lf : Nat → Int32} {pX : Nat → Int32} {pY : Nat → Int32} {pD : Nat → Int32} {pU : Nat → Int32} {X : List va_E} {N : Nat} (hz : sz 4 = nI N) (hN : N ≤ 60) : jC l b D ta False y_M_reads b_M_reads 9 (some .boolean) (rL 1) [.ref (b + 133)] (σ ++ rC b ta wt F0 F1 F2 HH kt kp a hi tm sN sx sy pt mn pl pN px py sn lt rc tx sz us D0 D1 D2 qx qy di up dn be op gs t0 fr lf pX pY pD pU X) (some (.int (bI (rdF (fun i => tx (60 * 4 + i)) N).1))) (σ ++ rC b ta wt F0 F1 F2 HH kt kp a hi tm sN sx sy pt mn pl pN px py sn lt rc tx sz (upd us 4 (rdF (fun i => tx (60 * 4 + i)) N).2) D0 D1 D2 qx qy di up dn be op gs t0 fr lf pX pY pD pU X) := by
  refine jC_of (own := "WireFieldModel") (by decide +kernel) (Nat.le_of_ble_eq_true rfl) rfl (fun Γ B K => ?_)
  change jW l b D Γ False 0 0 9 (σ ++ rC b ta wt F0 F1 F2 HH kt kp a hi tm sN sx sy pt mn pl pN px py sn lt rc tx sz us D0 D1 D2 qx qy di up dn be op gs t0 fr lf pX pY pD pU X) [(0, .ref (b + 133))] 0 []
  refine j_iconst (v := 0) B d_M_reads_0 (by decide) ?_
  refine j_istore_n (L' := [(0, .ref (b + 133)), (1, .int 0)]) B d_M_reads_1 rfl (by decide) [1, 0] rfl ?_
  refine j_iconst (v := 0) B d_M_reads_2 (by decide) ?_
  refine j_istore_n (L' := [(0, .ref (b + 133)), (1, .int 0), (2, .int 0)]) B d_M_reads_3 rfl (by decide) [1, 2, 0] rfl ?_
  refine j_iconst (v := 0) B d_M_reads_4 (by decide) ?_
  refine j_istore_n (L' := [(0, .ref (b + 133)), (1, .int 0), (2, .int 0), (3, .int 0)]) B d_M_reads_5 rfl (by decide) [1, 2, 3, 0] rfl ?_
  refine j_aload_n B d_M_reads_6 rfl 0 rfl ?_
  refine gf_M_65 B (rG (ix := 0) hl rfl) rfl d_M_reads_7 ?_
  refine j_iconst (v := nI 4) B d_M_reads_10 (by decide) ?_
  refine j_iconst (v := 0) B d_M_reads_11 (by decide) ?_
  refine j_iastN B not_false rfl (rG (ix := 19) hl rfl) (by omega) d_M_reads_12 ?_
  refine jW.heap (σ2 := σ ++ rC b ta wt F0 F1 F2 HH kt kp a hi tm sN sx sy pt mn pl pN px py sn lt rc tx sz (upd us 4 0) D0 D1 D2 qx qy di up dn be op gs t0 fr lf pX pY pD pU X) (rT (ix := 19) hl rfl) ?_
  have lp13 : ∀ (n13 : Nat) (i : Nat) (p : Nat) (d : Nat) (o : Nat) (u : Int32), 60 - i = n13 → (i ≤ p) → (p ≤ N) → (d ≤ 3) → ((d = 0 → o < 1) ∧ (d ≤ 1 → o < 2) ∧ (d ≤ 2 → o < 4) ∧ o < 8) → (rdS (fun i => tx (60 * 4 + i)) N (61 - i) p d o u = rdF (fun i => tx (60 * 4 + i)) N) → jW l b D Γ False 0 0 9 (σ ++ rC b ta wt F0 F1 F2 HH kt kp a hi tm sN sx sy pt mn pl pN px py sn lt rc tx sz (upd us 4 u) D0 D1 D2 qx qy di up dn be op gs t0 fr lf pX pY pD pU X) [(0, .ref (b + 133)), (1, .int (nI p)), (2, .int (nI d)), (3, .int (nI o))] 13 [] := by
    refine jloop (fun n13 ih13 => ?_)
    intro i p d o u hn13 hip hp hd ho8 hI
    refine j_iload_n B d_M_reads_13 rfl 1 rfl ?_
    refine j_aload_n B d_M_reads_14 rfl 0 rfl ?_
    refine gf_M_62 B (rG (ix := 0) hl rfl) rfl d_M_reads_15 ?_
    refine j_iconst (v := nI 4) B d_M_reads_18 (by decide) ?_
    refine j_ialdN B rfl (rG (ix := 18) hl rfl) (by omega) d_M_reads_19 ?_
    rw [hz]
    refine j_icmp_ge B d_M_reads_20 rfl (fun h20 => ?_) (fun h20 => ?_)
    · -- 20 jump
      have hpE : ¬ p < N := fun q => absurd h20 (nI_ge q (by omega))
      rw [show 61 - i = (60 - i) + 1 by omega, rdS, if_neg hpE] at hI
      refine j_iload_n B d_M_reads_262 rfl 2 rfl ?_
      refine j_if_ne B d_M_reads_263 rfl (fun h263 => ?_) (fun h263 => ?_)
      · -- 263 jump
        have hd0 : ¬ d = 0 := fun q => h263 (by rw [q]; rfl)
        rw [decide_eq_false hd0] at hI
        refine j_iconst (v := 0) B d_M_reads_270 (by decide) ?_
        exact j_zret B K (by decide) (by rw [← hI] <;> rfl) (by rw [← hI]) d_M_reads_271
      · -- 263 on
        have hd0 : d = 0 := (Nat.eq_zero_or_pos d).elim id (fun q => absurd h263 (nI_ne0 q (by omega)))
        rw [decide_eq_true hd0] at hI
        refine j_iconst (v := 1) B d_M_reads_266 (by decide) ?_
        refine j_goto B d_M_reads_267 rfl ?_
        exact j_zret B K (by decide) (by rw [← hI] <;> rfl) (by rw [← hI]) d_M_reads_271
    · -- 20 on
      have hpN : p < N := (Nat.lt_or_ge p N).elim id (fun q => absurd (nI_le q (by omega)) h20)
      rw [show 61 - i = (60 - i) + 1 by omega, rdS, if_pos hpN] at hI
      have hg3 := dg3_le (S := (fun i => tx (60 * 4 + i))) (N := N) (p := p)
      have jn53 : ∀ (g : Nat), (g = dg3 (fun i => tx (60 * 4 + i)) N p) → jW l b D Γ False 0 0 9 (σ ++ rC b ta wt F0 F1 F2 HH kt kp a hi tm sN sx sy pt mn pl pN px py sn lt rc tx sz (upd us 4 u) D0 D1 D2 qx qy di up dn be op gs t0 fr lf pX pY pD pU X) [(0, .ref (b + 133)), (1, .int (nI (p + g))), (2, .int (nI d)), (3, .int (nI o)), (4, .int (nI g))] 53 [] := by
        intro g hg
        refine j_aload_n B d_M_reads_53 rfl 0 rfl ?_
        rw [← hg] at hI
        refine j_iconst (v := nI 4) B d_M_reads_54 (by decide) ?_
        refine j_iload_n B d_M_reads_55 rfl 1 rfl ?_
        refine k_callV (as := [.int (nI 4), .int (nI (p + g))]) (rest := []) (st1 := [.int (sg (fun i => tx (60 * 4 + i)) N (p + g))]) B (c_M_sign hl (t := 4) (N := N) (p := (p + g)) (by decide) hz hN (by omega)) yf_M_sign w_885 w_887 w_s29 rfl (rG (ix := 0) hl rfl) rfl (by decide) (by decide) rfl rfl (Nat.le_of_ble_eq_true rfl) d_M_reads_56 ?_
        refine j_istore (L' := [(0, .ref (b + 133)), (1, .int (nI (p + g))), (2, .int (nI d)), (3, .int (nI o)), (4, .int (nI g)), (5, .int (sg (fun i => tx (60 * 4 + i)) N (p + g)))]) B d_M_reads_59 (by decide) [1, 2, 3, 4, 5, 0] rfl ?_
        by_cases hc40 : sg (fun i => tx (60 * 4 + i)) N (p + g) = 40
        · -- 40
          refine j_iload B d_M_reads_61 5 rfl ?_
          refine j_bipush (v := 40) B d_M_reads_63 (by decide) ?_
          refine j_icmp_eq B d_M_reads_65 rfl (fun h65 => ?_) (fun h65 => absurd hc40 h65)
          refine j_iconst (v := 1) B d_M_reads_75 (by decide) ?_
          refine j_goto B d_M_reads_76 rfl ?_
          refine j_istore (L' := [(0, .ref (b + 133)), (1, .int (nI (p + g))), (2, .int (nI d)), (3, .int (nI o)), (4, .int (nI g)), (5, .int (sg (fun i => tx (60 * 4 + i)) N (p + g))), (6, .int 1)]) B d_M_reads_80 (by decide) [1, 2, 3, 4, 5, 6, 0] rfl ?_
          refine j_iload B d_M_reads_82 5 rfl ?_
          refine j_bipush (v := 41) B d_M_reads_84 (by decide) ?_
          refine j_icmp_eq B d_M_reads_86 rfl (fun h86 => absurd h86 (by rw [hc40]; decide)) (fun h86 => ?_)
          refine j_iload B d_M_reads_89 5 rfl ?_
          refine j_bipush (v := 93) B d_M_reads_91 (by decide) ?_
          refine j_icmp_ne B d_M_reads_93 rfl (fun h93 => ?_) (fun h93 => absurd h93 (by rw [hc40]; decide))
          refine j_iconst (v := 0) B d_M_reads_100 (by decide) ?_
          refine j_istore (L' := [(0, .ref (b + 133)), (1, .int (nI (p + g))), (2, .int (nI d)), (3, .int (nI o)), (4, .int (nI g)), (5, .int (sg (fun i => tx (60 * 4 + i)) N (p + g))), (6, .int 1), (7, .int 0)]) B d_M_reads_101 (by decide) [1, 2, 3, 4, 5, 6, 7, 0] rfl ?_
          refine j_iload B d_M_reads_103 4 rfl ?_
          refine j_iconst (v := 2) B d_M_reads_105 (by decide) ?_
          refine j_icmp_gt B d_M_reads_106 rfl (fun h106 => ?_) (fun h106 => ?_)
          · -- 106 jump
            have h2g : 2 < g := (Nat.lt_or_ge 2 g).elim id (fun q => absurd h106 (nI_nlt (a := 2) q (by omega)))
            rw [if_pos h2g] at hI
            refine j_iconst (v := 0) B d_M_reads_151 (by decide) ?_
            exact j_zret B K (by decide) (by rw [← hI] <;> rfl) (by rw [← hI]) d_M_reads_152
          · -- 106 on
            have h2g : ¬ 2 < g := fun q => absurd (nI_lt (a := 2) q (by omega)) h106
            rw [if_neg h2g] at hI
            have ho : opn (sg (fun i => tx (60 * 4 + i)) N (p + g)) = true := by rw [hc40]; decide
            rw [if_pos ho] at hI
            rw [hc40] at hI
            refine j_iload B d_M_reads_109 7 rfl ?_
            refine j_if_eq B d_M_reads_111 rfl (fun h111 => ?_) (fun h111 => absurd rfl h111)
            refine j_iload B d_M_reads_141 6 rfl ?_
            refine j_if_eq B d_M_reads_143 rfl (fun h143 => absurd h143 (by decide)) (fun h143 => ?_)
            refine j_iload_n B d_M_reads_146 rfl 2 rfl ?_
            refine j_iconst (v := 3) B d_M_reads_147 (by decide) ?_
            refine j_icmp_ne B d_M_reads_148 rfl (fun h148 => ?_) (fun h148 => ?_)
            · -- 148 jump
              have hd3 : ¬ d = 3 := fun q => h148 (by rw [q]; rfl)
              rw [if_neg hd3] at hI
              refine j_iload B d_M_reads_153 6 rfl ?_
              refine j_if_eq B d_M_reads_155 rfl (fun h155 => absurd h155 (by decide)) (fun h155 => ?_)
              refine j_iinc (L' := [(0, .ref (b + 133)), (1, .int (nI (p + g))), (2, .int (nI (d + 1))), (3, .int (nI o)), (4, .int (nI g)), (5, .int (sg (fun i => tx (60 * 4 + i)) N (p + g))), (6, .int 1), (7, .int 0)]) (v := nI (d + 1)) B d_M_reads_158 (k := 2) rfl (nI_succ d).symm (by decide) [1, 2, 0, 3, 4, 5, 6, 7] rfl ?_
              refine j_iconst (v := 2) B d_M_reads_161 (by decide) ?_
              refine j_iload_n B d_M_reads_162 rfl 3 rfl ?_
              refine j_imulE (v := nI (2 * o)) B (pk_mul 2 o) d_M_reads_163 ?_
              refine j_iload B d_M_reads_164 5 rfl ?_
              refine j_bipush (v := 40) B d_M_reads_166 (by decide) ?_
              refine j_icmp_ne B d_M_reads_168 rfl (fun h168 => absurd hc40 h168) (fun h168 => ?_)
              refine j_iconst (v := 0) B d_M_reads_171 (by decide) ?_
              refine j_goto B d_M_reads_172 rfl ?_
              refine j_iaddE (v := nI ((2 * o) + 0)) B (nI_add (2 * o) 0) d_M_reads_176 ?_
              refine j_istore_n (L' := [(0, .ref (b + 133)), (1, .int (nI (p + g))), (2, .int (nI (d + 1))), (3, .int (nI ((2 * o) + 0))), (4, .int (nI g)), (5, .int (sg (fun i => tx (60 * 4 + i)) N (p + g))), (6, .int 1), (7, .int 0)]) B d_M_reads_177 rfl (by decide) [1, 2, 3, 0, 4, 5, 6, 7] rfl ?_
              refine j_goto B d_M_reads_178 rfl ?_
              refine j_iinc (L' := [(0, .ref (b + 133)), (1, .int (nI (p + g + 1))), (2, .int (nI (d + 1))), (3, .int (nI ((2 * o) + 0))), (4, .int (nI g)), (5, .int (sg (fun i => tx (60 * 4 + i)) N (p + g))), (6, .int 1), (7, .int 0)]) (v := nI (p + g + 1)) B d_M_reads_256 (k := 1) rfl (nI_succ (p + g)).symm (by decide) [1, 0, 2, 3, 4, 5, 6, 7] rfl ?_
              refine j_goto B d_M_reads_259 rfl ?_
              refine jW.sub (L' := [(0, .ref (b + 133)), (1, .int (nI (p + g + 1))), (2, .int (nI (d + 1))), (3, .int (nI ((2 * o) + 0)))]) [0, 1, 2, 3] rfl ?_; refine jW.heap (σ2 := σ ++ rC b ta wt F0 F1 F2 HH kt kp a hi tm sN sx sy pt mn pl pN px py sn lt rc tx sz (upd us 4 u) D0 D1 D2 qx qy di up dn be op gs t0 fr lf pX pY pD pU X) rfl ?_; exact ih13 _ (by omega) (i + 1) (p + g + 1) (d + 1) ((2 * o) + 0) u rfl (by omega) (by have := sg_in (S := (fun i => tx (60 * 4 + i))) (N := N) (k := p + g) (by rw [hc40]; decide); omega) (by omega) (by omega) (by rw [show 61 - (i + 1) = 60 - i by omega]; exact hI)
            · -- 148 on
              have hd3 : d = 3 := (nI_eq (b := 3) (by omega) (by decide)).mp h148
              rw [if_pos hd3] at hI
              refine j_iconst (v := 0) B d_M_reads_151 (by decide) ?_
              exact j_zret B K (by decide) (by rw [← hI] <;> rfl) (by rw [← hI]) d_M_reads_152
        by_cases hc91 : sg (fun i => tx (60 * 4 + i)) N (p + g) = 91
        · -- 91
          refine j_iload B d_M_reads_61 5 rfl ?_
          refine j_bipush (v := 40) B d_M_reads_63 (by decide) ?_
          refine j_icmp_eq B d_M_reads_65 rfl (fun h65 => absurd h65 (by rw [hc91]; decide)) (fun h65 => ?_)
          refine j_iload B d_M_reads_68 5 rfl ?_
          refine j_bipush (v := 91) B d_M_reads_70 (by decide) ?_
          refine j_icmp_ne B d_M_reads_72 rfl (fun h72 => absurd hc91 h72) (fun h72 => ?_)
          refine j_iconst (v := 1) B d_M_reads_75 (by decide) ?_
          refine j_goto B d_M_reads_76 rfl ?_
          refine j_istore (L' := [(0, .ref (b + 133)), (1, .int (nI (p + g))), (2, .int (nI d)), (3, .int (nI o)), (4, .int (nI g)), (5, .int (sg (fun i => tx (60 * 4 + i)) N (p + g))), (6, .int 1)]) B d_M_reads_80 (by decide) [1, 2, 3, 4, 5, 6, 0] rfl ?_
          refine j_iload B d_M_reads_82 5 rfl ?_
          refine j_bipush (v := 41) B d_M_reads_84 (by decide) ?_
          refine j_icmp_eq B d_M_reads_86 rfl (fun h86 => absurd h86 (by rw [hc91]; decide)) (fun h86 => ?_)
          refine j_iload B d_M_reads_89 5 rfl ?_
          refine j_bipush (v := 93) B d_M_reads_91 (by decide) ?_
          refine j_icmp_ne B d_M_reads_93 rfl (fun h93 => ?_) (fun h93 => absurd h93 (by rw [hc91]; decide))
          refine j_iconst (v := 0) B d_M_reads_100 (by decide) ?_
          refine j_istore (L' := [(0, .ref (b + 133)), (1, .int (nI (p + g))), (2, .int (nI d)), (3, .int (nI o)), (4, .int (nI g)), (5, .int (sg (fun i => tx (60 * 4 + i)) N (p + g))), (6, .int 1), (7, .int 0)]) B d_M_reads_101 (by decide) [1, 2, 3, 4, 5, 6, 7, 0] rfl ?_
          refine j_iload B d_M_reads_103 4 rfl ?_
          refine j_iconst (v := 2) B d_M_reads_105 (by decide) ?_
          refine j_icmp_gt B d_M_reads_106 rfl (fun h106 => ?_) (fun h106 => ?_)
          · -- 106 jump
            have h2g : 2 < g := (Nat.lt_or_ge 2 g).elim id (fun q => absurd h106 (nI_nlt (a := 2) q (by omega)))
            rw [if_pos h2g] at hI
            refine j_iconst (v := 0) B d_M_reads_151 (by decide) ?_
            exact j_zret B K (by decide) (by rw [← hI] <;> rfl) (by rw [← hI]) d_M_reads_152
          · -- 106 on
            have h2g : ¬ 2 < g := fun q => absurd (nI_lt (a := 2) q (by omega)) h106
            rw [if_neg h2g] at hI
            have ho : opn (sg (fun i => tx (60 * 4 + i)) N (p + g)) = true := by rw [hc91]; decide
            rw [if_pos ho] at hI
            rw [hc91] at hI
            refine j_iload B d_M_reads_109 7 rfl ?_
            refine j_if_eq B d_M_reads_111 rfl (fun h111 => ?_) (fun h111 => absurd rfl h111)
            refine j_iload B d_M_reads_141 6 rfl ?_
            refine j_if_eq B d_M_reads_143 rfl (fun h143 => absurd h143 (by decide)) (fun h143 => ?_)
            refine j_iload_n B d_M_reads_146 rfl 2 rfl ?_
            refine j_iconst (v := 3) B d_M_reads_147 (by decide) ?_
            refine j_icmp_ne B d_M_reads_148 rfl (fun h148 => ?_) (fun h148 => ?_)
            · -- 148 jump
              have hd3 : ¬ d = 3 := fun q => h148 (by rw [q]; rfl)
              rw [if_neg hd3] at hI
              refine j_iload B d_M_reads_153 6 rfl ?_
              refine j_if_eq B d_M_reads_155 rfl (fun h155 => absurd h155 (by decide)) (fun h155 => ?_)
              refine j_iinc (L' := [(0, .ref (b + 133)), (1, .int (nI (p + g))), (2, .int (nI (d + 1))), (3, .int (nI o)), (4, .int (nI g)), (5, .int (sg (fun i => tx (60 * 4 + i)) N (p + g))), (6, .int 1), (7, .int 0)]) (v := nI (d + 1)) B d_M_reads_158 (k := 2) rfl (nI_succ d).symm (by decide) [1, 2, 0, 3, 4, 5, 6, 7] rfl ?_
              refine j_iconst (v := 2) B d_M_reads_161 (by decide) ?_
              refine j_iload_n B d_M_reads_162 rfl 3 rfl ?_
              refine j_imulE (v := nI (2 * o)) B (pk_mul 2 o) d_M_reads_163 ?_
              refine j_iload B d_M_reads_164 5 rfl ?_
              refine j_bipush (v := 40) B d_M_reads_166 (by decide) ?_
              refine j_icmp_ne B d_M_reads_168 rfl (fun h168 => ?_) (fun h168 => absurd h168 (by rw [hc91]; decide))
              refine j_iconst (v := 1) B d_M_reads_175 (by decide) ?_
              refine j_iaddE (v := nI ((2 * o) + 1)) B (nI_add (2 * o) 1) d_M_reads_176 ?_
              refine j_istore_n (L' := [(0, .ref (b + 133)), (1, .int (nI (p + g))), (2, .int (nI (d + 1))), (3, .int (nI ((2 * o) + 1))), (4, .int (nI g)), (5, .int (sg (fun i => tx (60 * 4 + i)) N (p + g))), (6, .int 1), (7, .int 0)]) B d_M_reads_177 rfl (by decide) [1, 2, 3, 0, 4, 5, 6, 7] rfl ?_
              refine j_goto B d_M_reads_178 rfl ?_
              refine j_iinc (L' := [(0, .ref (b + 133)), (1, .int (nI (p + g + 1))), (2, .int (nI (d + 1))), (3, .int (nI ((2 * o) + 1))), (4, .int (nI g)), (5, .int (sg (fun i => tx (60 * 4 + i)) N (p + g))), (6, .int 1), (7, .int 0)]) (v := nI (p + g + 1)) B d_M_reads_256 (k := 1) rfl (nI_succ (p + g)).symm (by decide) [1, 0, 2, 3, 4, 5, 6, 7] rfl ?_
              refine j_goto B d_M_reads_259 rfl ?_
              refine jW.sub (L' := [(0, .ref (b + 133)), (1, .int (nI (p + g + 1))), (2, .int (nI (d + 1))), (3, .int (nI ((2 * o) + 1)))]) [0, 1, 2, 3] rfl ?_; refine jW.heap (σ2 := σ ++ rC b ta wt F0 F1 F2 HH kt kp a hi tm sN sx sy pt mn pl pN px py sn lt rc tx sz (upd us 4 u) D0 D1 D2 qx qy di up dn be op gs t0 fr lf pX pY pD pU X) rfl ?_; exact ih13 _ (by omega) (i + 1) (p + g + 1) (d + 1) ((2 * o) + 1) u rfl (by omega) (by have := sg_in (S := (fun i => tx (60 * 4 + i))) (N := N) (k := p + g) (by rw [hc91]; decide); omega) (by omega) (by omega) (by rw [show 61 - (i + 1) = 60 - i by omega]; exact hI)
            · -- 148 on
              have hd3 : d = 3 := (nI_eq (b := 3) (by omega) (by decide)).mp h148
              rw [if_pos hd3] at hI
              refine j_iconst (v := 0) B d_M_reads_151 (by decide) ?_
              exact j_zret B K (by decide) (by rw [← hI] <;> rfl) (by rw [← hI]) d_M_reads_152
        by_cases hc41 : sg (fun i => tx (60 * 4 + i)) N (p + g) = 41
        · -- 41
          refine j_iload B d_M_reads_61 5 rfl ?_
          refine j_bipush (v := 40) B d_M_reads_63 (by decide) ?_
          refine j_icmp_eq B d_M_reads_65 rfl (fun h65 => absurd h65 (by rw [hc41]; decide)) (fun h65 => ?_)
          refine j_iload B d_M_reads_68 5 rfl ?_
          refine j_bipush (v := 91) B d_M_reads_70 (by decide) ?_
          refine j_icmp_ne B d_M_reads_72 rfl (fun h72 => ?_) (fun h72 => absurd h72 (by rw [hc41]; decide))
          refine j_iconst (v := 0) B d_M_reads_79 (by decide) ?_
          refine j_istore (L' := [(0, .ref (b + 133)), (1, .int (nI (p + g))), (2, .int (nI d)), (3, .int (nI o)), (4, .int (nI g)), (5, .int (sg (fun i => tx (60 * 4 + i)) N (p + g))), (6, .int 0)]) B d_M_reads_80 (by decide) [1, 2, 3, 4, 5, 6, 0] rfl ?_
          refine j_iload B d_M_reads_82 5 rfl ?_
          refine j_bipush (v := 41) B d_M_reads_84 (by decide) ?_
          refine j_icmp_eq B d_M_reads_86 rfl (fun h86 => ?_) (fun h86 => absurd hc41 h86)
          refine j_iconst (v := 1) B d_M_reads_96 (by decide) ?_
          refine j_goto B d_M_reads_97 rfl ?_
          refine j_istore (L' := [(0, .ref (b + 133)), (1, .int (nI (p + g))), (2, .int (nI d)), (3, .int (nI o)), (4, .int (nI g)), (5, .int (sg (fun i => tx (60 * 4 + i)) N (p + g))), (6, .int 0), (7, .int 1)]) B d_M_reads_101 (by decide) [1, 2, 3, 4, 5, 6, 7, 0] rfl ?_
          refine j_iload B d_M_reads_103 4 rfl ?_
          refine j_iconst (v := 2) B d_M_reads_105 (by decide) ?_
          refine j_icmp_gt B d_M_reads_106 rfl (fun h106 => ?_) (fun h106 => ?_)
          · -- 106 jump
            have h2g : 2 < g := (Nat.lt_or_ge 2 g).elim id (fun q => absurd h106 (nI_nlt (a := 2) q (by omega)))
            rw [if_pos h2g] at hI
            refine j_iconst (v := 0) B d_M_reads_151 (by decide) ?_
            exact j_zret B K (by decide) (by rw [← hI] <;> rfl) (by rw [← hI]) d_M_reads_152
          · -- 106 on
            have h2g : ¬ 2 < g := fun q => absurd (nI_lt (a := 2) q (by omega)) h106
            rw [if_neg h2g] at hI
            have ho : ¬ opn (sg (fun i => tx (60 * 4 + i)) N (p + g)) = true := by rw [hc41]; decide
            have hk : cls (sg (fun i => tx (60 * 4 + i)) N (p + g)) = true := by rw [hc41]; decide
            rw [if_neg ho, if_pos hk] at hI
            rw [hc41] at hI
            refine j_iload B d_M_reads_109 7 rfl ?_
            refine j_if_eq B d_M_reads_111 rfl (fun h111 => absurd h111 (by decide)) (fun h111 => ?_)
            refine j_iload B d_M_reads_114 4 rfl ?_
            refine j_if_gt B d_M_reads_116 rfl (fun h116 => ?_) (fun h116 => ?_)
            · -- 116 jump
              have hgp : 0 < g := (Nat.eq_zero_or_pos g).elim (fun q => absurd h116 (by rw [q]; decide)) id
              rw [if_pos (Or.inl hgp)] at hI
              refine j_iconst (v := 0) B d_M_reads_151 (by decide) ?_
              exact j_zret B K (by decide) (by rw [← hI] <;> rfl) (by rw [← hI]) d_M_reads_152
            · -- 116 on
              have hg0 : ¬ 0 < g := fun q => absurd (nI_lt (a := 0) q (by omega)) h116
              refine j_iload_n B d_M_reads_119 rfl 2 rfl ?_
              refine j_if_eq B d_M_reads_120 rfl (fun h120 => ?_) (fun h120 => ?_)
              · -- 120 jump
                have hd0 : d = 0 := (Nat.eq_zero_or_pos d).elim id (fun q => absurd h120 (nI_ne0 q (by omega)))
                rw [if_pos (Or.inr (Or.inl hd0))] at hI
                refine j_iconst (v := 0) B d_M_reads_151 (by decide) ?_
                exact j_zret B K (by decide) (by rw [← hI] <;> rfl) (by rw [← hI]) d_M_reads_152
              · -- 120 on
                have hd0 : ¬ d = 0 := fun q => h120 (by rw [q]; rfl)
                refine j_iload_n B d_M_reads_123 rfl 3 rfl ?_
                refine j_iconst (v := 2) B d_M_reads_124 (by decide) ?_
                refine j_iremE (v := nI (o % 2)) B (by decide) (pk_rem (a := o) (d := 2) (by omega) (by decide) (by decide)) d_M_reads_125 ?_
                refine j_iload B d_M_reads_126 5 rfl ?_
                refine j_bipush (v := 41) B d_M_reads_128 (by decide) ?_
                refine j_icmp_ne B d_M_reads_130 rfl (fun h130 => absurd hc41 h130) (fun h130 => ?_)
                refine j_iconst (v := 0) B d_M_reads_133 (by decide) ?_
                refine j_goto B d_M_reads_134 rfl ?_
                refine j_icmp_ne B d_M_reads_138 rfl (fun h138 => ?_) (fun h138 => ?_)
                · -- 138 jump
                  have hox : ¬ o % 2 = (if (41 : Int32) = 41 then 0 else 1) := fun q => h138 (by rw [q]; rfl)
                  rw [if_pos (Or.inr (Or.inr hox))] at hI
                  refine j_iconst (v := 0) B d_M_reads_151 (by decide) ?_
                  exact j_zret B K (by decide) (by rw [← hI] <;> rfl) (by rw [← hI]) d_M_reads_152
                · -- 138 on
                  have hox : o % 2 = (if (41 : Int32) = 41 then 0 else 1) := (nI_eq (b := 0) (by omega) (by decide)).mp h138
                  rw [if_neg (fun q => q.elim hg0 (fun q => q.elim hd0 (fun q => q hox)))] at hI
                  refine j_iload B d_M_reads_141 6 rfl ?_
                  refine j_if_eq B d_M_reads_143 rfl (fun h143 => ?_) (fun h143 => absurd rfl h143)
                  refine j_iload B d_M_reads_153 6 rfl ?_
                  refine j_if_eq B d_M_reads_155 rfl (fun h155 => ?_) (fun h155 => absurd rfl h155)
                  refine j_iload B d_M_reads_181 7 rfl ?_
                  refine j_if_eq B d_M_reads_183 rfl (fun h183 => absurd h183 (by decide)) (fun h183 => ?_)
                  refine j_iinc (L' := [(0, .ref (b + 133)), (1, .int (nI (p + g))), (2, .int (nI (d - 1))), (3, .int (nI o)), (4, .int (nI g)), (5, .int (sg (fun i => tx (60 * 4 + i)) N (p + g))), (6, .int 0), (7, .int 1)]) (v := nI (d - 1)) B d_M_reads_186 (k := 2) rfl (m1_d (Nat.pos_of_ne_zero hd0)) (by decide) [1, 2, 0, 3, 4, 5, 6, 7] rfl ?_
                  refine j_iload_n B d_M_reads_189 rfl 3 rfl ?_
                  refine j_iconst (v := 2) B d_M_reads_190 (by decide) ?_
                  refine j_idivE (v := nI (o / 2)) B (by decide) (pk_div (a := o) (d := 2) (by omega) (by decide) (by decide)) d_M_reads_191 ?_
                  refine j_istore_n (L' := [(0, .ref (b + 133)), (1, .int (nI (p + g))), (2, .int (nI (d - 1))), (3, .int (nI (o / 2))), (4, .int (nI g)), (5, .int (sg (fun i => tx (60 * 4 + i)) N (p + g))), (6, .int 0), (7, .int 1)]) B d_M_reads_192 rfl (by decide) [1, 2, 3, 0, 4, 5, 6, 7] rfl ?_
                  refine j_goto B d_M_reads_193 rfl ?_
                  refine j_iinc (L' := [(0, .ref (b + 133)), (1, .int (nI (p + g + 1))), (2, .int (nI (d - 1))), (3, .int (nI (o / 2))), (4, .int (nI g)), (5, .int (sg (fun i => tx (60 * 4 + i)) N (p + g))), (6, .int 0), (7, .int 1)]) (v := nI (p + g + 1)) B d_M_reads_256 (k := 1) rfl (nI_succ (p + g)).symm (by decide) [1, 0, 2, 3, 4, 5, 6, 7] rfl ?_
                  refine j_goto B d_M_reads_259 rfl ?_
                  refine jW.sub (L' := [(0, .ref (b + 133)), (1, .int (nI (p + g + 1))), (2, .int (nI (d - 1))), (3, .int (nI (o / 2)))]) [0, 1, 2, 3] rfl ?_; refine jW.heap (σ2 := σ ++ rC b ta wt F0 F1 F2 HH kt kp a hi tm sN sx sy pt mn pl pN px py sn lt rc tx sz (upd us 4 u) D0 D1 D2 qx qy di up dn be op gs t0 fr lf pX pY pD pU X) rfl ?_; exact ih13 _ (by omega) (i + 1) (p + g + 1) (d - 1) (o / 2) u rfl (by omega) (by have := sg_in (S := (fun i => tx (60 * 4 + i))) (N := N) (k := p + g) (by rw [hc41]; decide); omega) (by omega) (by omega) (by rw [show 61 - (i + 1) = 60 - i by omega]; exact hI)
        by_cases hc93 : sg (fun i => tx (60 * 4 + i)) N (p + g) = 93
        · -- 93
          refine j_iload B d_M_reads_61 5 rfl ?_
          refine j_bipush (v := 40) B d_M_reads_63 (by decide) ?_
          refine j_icmp_eq B d_M_reads_65 rfl (fun h65 => absurd h65 (by rw [hc93]; decide)) (fun h65 => ?_)
          refine j_iload B d_M_reads_68 5 rfl ?_
          refine j_bipush (v := 91) B d_M_reads_70 (by decide) ?_
          refine j_icmp_ne B d_M_reads_72 rfl (fun h72 => ?_) (fun h72 => absurd h72 (by rw [hc93]; decide))
          refine j_iconst (v := 0) B d_M_reads_79 (by decide) ?_
          refine j_istore (L' := [(0, .ref (b + 133)), (1, .int (nI (p + g))), (2, .int (nI d)), (3, .int (nI o)), (4, .int (nI g)), (5, .int (sg (fun i => tx (60 * 4 + i)) N (p + g))), (6, .int 0)]) B d_M_reads_80 (by decide) [1, 2, 3, 4, 5, 6, 0] rfl ?_
          refine j_iload B d_M_reads_82 5 rfl ?_
          refine j_bipush (v := 41) B d_M_reads_84 (by decide) ?_
          refine j_icmp_eq B d_M_reads_86 rfl (fun h86 => absurd h86 (by rw [hc93]; decide)) (fun h86 => ?_)
          refine j_iload B d_M_reads_89 5 rfl ?_
          refine j_bipush (v := 93) B d_M_reads_91 (by decide) ?_
          refine j_icmp_ne B d_M_reads_93 rfl (fun h93 => absurd hc93 h93) (fun h93 => ?_)
          refine j_iconst (v := 1) B d_M_reads_96 (by decide) ?_
          refine j_goto B d_M_reads_97 rfl ?_
          refine j_istore (L' := [(0, .ref (b + 133)), (1, .int (nI (p + g))), (2, .int (nI d)), (3, .int (nI o)), (4, .int (nI g)), (5, .int (sg (fun i => tx (60 * 4 + i)) N (p + g))), (6, .int 0), (7, .int 1)]) B d_M_reads_101 (by decide) [1, 2, 3, 4, 5, 6, 7, 0] rfl ?_
          refine j_iload B d_M_reads_103 4 rfl ?_
          refine j_iconst (v := 2) B d_M_reads_105 (by decide) ?_
          refine j_icmp_gt B d_M_reads_106 rfl (fun h106 => ?_) (fun h106 => ?_)
          · -- 106 jump
            have h2g : 2 < g := (Nat.lt_or_ge 2 g).elim id (fun q => absurd h106 (nI_nlt (a := 2) q (by omega)))
            rw [if_pos h2g] at hI
            refine j_iconst (v := 0) B d_M_reads_151 (by decide) ?_
            exact j_zret B K (by decide) (by rw [← hI] <;> rfl) (by rw [← hI]) d_M_reads_152
          · -- 106 on
            have h2g : ¬ 2 < g := fun q => absurd (nI_lt (a := 2) q (by omega)) h106
            rw [if_neg h2g] at hI
            have ho : ¬ opn (sg (fun i => tx (60 * 4 + i)) N (p + g)) = true := by rw [hc93]; decide
            have hk : cls (sg (fun i => tx (60 * 4 + i)) N (p + g)) = true := by rw [hc93]; decide
            rw [if_neg ho, if_pos hk] at hI
            rw [hc93] at hI
            refine j_iload B d_M_reads_109 7 rfl ?_
            refine j_if_eq B d_M_reads_111 rfl (fun h111 => absurd h111 (by decide)) (fun h111 => ?_)
            refine j_iload B d_M_reads_114 4 rfl ?_
            refine j_if_gt B d_M_reads_116 rfl (fun h116 => ?_) (fun h116 => ?_)
            · -- 116 jump
              have hgp : 0 < g := (Nat.eq_zero_or_pos g).elim (fun q => absurd h116 (by rw [q]; decide)) id
              rw [if_pos (Or.inl hgp)] at hI
              refine j_iconst (v := 0) B d_M_reads_151 (by decide) ?_
              exact j_zret B K (by decide) (by rw [← hI] <;> rfl) (by rw [← hI]) d_M_reads_152
            · -- 116 on
              have hg0 : ¬ 0 < g := fun q => absurd (nI_lt (a := 0) q (by omega)) h116
              refine j_iload_n B d_M_reads_119 rfl 2 rfl ?_
              refine j_if_eq B d_M_reads_120 rfl (fun h120 => ?_) (fun h120 => ?_)
              · -- 120 jump
                have hd0 : d = 0 := (Nat.eq_zero_or_pos d).elim id (fun q => absurd h120 (nI_ne0 q (by omega)))
                rw [if_pos (Or.inr (Or.inl hd0))] at hI
                refine j_iconst (v := 0) B d_M_reads_151 (by decide) ?_
                exact j_zret B K (by decide) (by rw [← hI] <;> rfl) (by rw [← hI]) d_M_reads_152
              · -- 120 on
                have hd0 : ¬ d = 0 := fun q => h120 (by rw [q]; rfl)
                refine j_iload_n B d_M_reads_123 rfl 3 rfl ?_
                refine j_iconst (v := 2) B d_M_reads_124 (by decide) ?_
                refine j_iremE (v := nI (o % 2)) B (by decide) (pk_rem (a := o) (d := 2) (by omega) (by decide) (by decide)) d_M_reads_125 ?_
                refine j_iload B d_M_reads_126 5 rfl ?_
                refine j_bipush (v := 41) B d_M_reads_128 (by decide) ?_
                refine j_icmp_ne B d_M_reads_130 rfl (fun h130 => ?_) (fun h130 => absurd h130 (by rw [hc93]; decide))
                refine j_iconst (v := 1) B d_M_reads_137 (by decide) ?_
                refine j_icmp_ne B d_M_reads_138 rfl (fun h138 => ?_) (fun h138 => ?_)
                · -- 138 jump
                  have hox : ¬ o % 2 = (if (93 : Int32) = 41 then 0 else 1) := fun q => h138 (by rw [q]; rfl)
                  rw [if_pos (Or.inr (Or.inr hox))] at hI
                  refine j_iconst (v := 0) B d_M_reads_151 (by decide) ?_
                  exact j_zret B K (by decide) (by rw [← hI] <;> rfl) (by rw [← hI]) d_M_reads_152
                · -- 138 on
                  have hox : o % 2 = (if (93 : Int32) = 41 then 0 else 1) := (nI_eq (b := 1) (by omega) (by decide)).mp h138
                  rw [if_neg (fun q => q.elim hg0 (fun q => q.elim hd0 (fun q => q hox)))] at hI
                  refine j_iload B d_M_reads_141 6 rfl ?_
                  refine j_if_eq B d_M_reads_143 rfl (fun h143 => ?_) (fun h143 => absurd rfl h143)
                  refine j_iload B d_M_reads_153 6 rfl ?_
                  refine j_if_eq B d_M_reads_155 rfl (fun h155 => ?_) (fun h155 => absurd rfl h155)
                  refine j_iload B d_M_reads_181 7 rfl ?_
                  refine j_if_eq B d_M_reads_183 rfl (fun h183 => absurd h183 (by decide)) (fun h183 => ?_)
                  refine j_iinc (L' := [(0, .ref (b + 133)), (1, .int (nI (p + g))), (2, .int (nI (d - 1))), (3, .int (nI o)), (4, .int (nI g)), (5, .int (sg (fun i => tx (60 * 4 + i)) N (p + g))), (6, .int 0), (7, .int 1)]) (v := nI (d - 1)) B d_M_reads_186 (k := 2) rfl (m1_d (Nat.pos_of_ne_zero hd0)) (by decide) [1, 2, 0, 3, 4, 5, 6, 7] rfl ?_
                  refine j_iload_n B d_M_reads_189 rfl 3 rfl ?_
                  refine j_iconst (v := 2) B d_M_reads_190 (by decide) ?_
                  refine j_idivE (v := nI (o / 2)) B (by decide) (pk_div (a := o) (d := 2) (by omega) (by decide) (by decide)) d_M_reads_191 ?_
                  refine j_istore_n (L' := [(0, .ref (b + 133)), (1, .int (nI (p + g))), (2, .int (nI (d - 1))), (3, .int (nI (o / 2))), (4, .int (nI g)), (5, .int (sg (fun i => tx (60 * 4 + i)) N (p + g))), (6, .int 0), (7, .int 1)]) B d_M_reads_192 rfl (by decide) [1, 2, 3, 0, 4, 5, 6, 7] rfl ?_
                  refine j_goto B d_M_reads_193 rfl ?_
                  refine j_iinc (L' := [(0, .ref (b + 133)), (1, .int (nI (p + g + 1))), (2, .int (nI (d - 1))), (3, .int (nI (o / 2))), (4, .int (nI g)), (5, .int (sg (fun i => tx (60 * 4 + i)) N (p + g))), (6, .int 0), (7, .int 1)]) (v := nI (p + g + 1)) B d_M_reads_256 (k := 1) rfl (nI_succ (p + g)).symm (by decide) [1, 0, 2, 3, 4, 5, 6, 7] rfl ?_
                  refine j_goto B d_M_reads_259 rfl ?_
                  refine jW.sub (L' := [(0, .ref (b + 133)), (1, .int (nI (p + g + 1))), (2, .int (nI (d - 1))), (3, .int (nI (o / 2)))]) [0, 1, 2, 3] rfl ?_; refine jW.heap (σ2 := σ ++ rC b ta wt F0 F1 F2 HH kt kp a hi tm sN sx sy pt mn pl pN px py sn lt rc tx sz (upd us 4 u) D0 D1 D2 qx qy di up dn be op gs t0 fr lf pX pY pD pU X) rfl ?_; exact ih13 _ (by omega) (i + 1) (p + g + 1) (d - 1) (o / 2) u rfl (by omega) (by have := sg_in (S := (fun i => tx (60 * 4 + i))) (N := N) (k := p + g) (by rw [hc93]; decide); omega) (by omega) (by omega) (by rw [show 61 - (i + 1) = 60 - i by omega]; exact hI)
        by_cases hc64 : sg (fun i => tx (60 * 4 + i)) N (p + g) = 64
        · -- 64
          refine j_iload B d_M_reads_61 5 rfl ?_
          refine j_bipush (v := 40) B d_M_reads_63 (by decide) ?_
          refine j_icmp_eq B d_M_reads_65 rfl (fun h65 => absurd h65 (by rw [hc64]; decide)) (fun h65 => ?_)
          refine j_iload B d_M_reads_68 5 rfl ?_
          refine j_bipush (v := 91) B d_M_reads_70 (by decide) ?_
          refine j_icmp_ne B d_M_reads_72 rfl (fun h72 => ?_) (fun h72 => absurd h72 (by rw [hc64]; decide))
          refine j_iconst (v := 0) B d_M_reads_79 (by decide) ?_
          refine j_istore (L' := [(0, .ref (b + 133)), (1, .int (nI (p + g))), (2, .int (nI d)), (3, .int (nI o)), (4, .int (nI g)), (5, .int (sg (fun i => tx (60 * 4 + i)) N (p + g))), (6, .int 0)]) B d_M_reads_80 (by decide) [1, 2, 3, 4, 5, 6, 0] rfl ?_
          refine j_iload B d_M_reads_82 5 rfl ?_
          refine j_bipush (v := 41) B d_M_reads_84 (by decide) ?_
          refine j_icmp_eq B d_M_reads_86 rfl (fun h86 => absurd h86 (by rw [hc64]; decide)) (fun h86 => ?_)
          refine j_iload B d_M_reads_89 5 rfl ?_
          refine j_bipush (v := 93) B d_M_reads_91 (by decide) ?_
          refine j_icmp_ne B d_M_reads_93 rfl (fun h93 => ?_) (fun h93 => absurd h93 (by rw [hc64]; decide))
          refine j_iconst (v := 0) B d_M_reads_100 (by decide) ?_
          refine j_istore (L' := [(0, .ref (b + 133)), (1, .int (nI (p + g))), (2, .int (nI d)), (3, .int (nI o)), (4, .int (nI g)), (5, .int (sg (fun i => tx (60 * 4 + i)) N (p + g))), (6, .int 0), (7, .int 0)]) B d_M_reads_101 (by decide) [1, 2, 3, 4, 5, 6, 7, 0] rfl ?_
          refine j_iload B d_M_reads_103 4 rfl ?_
          refine j_iconst (v := 2) B d_M_reads_105 (by decide) ?_
          refine j_icmp_gt B d_M_reads_106 rfl (fun h106 => ?_) (fun h106 => ?_)
          · -- 106 jump
            have h2g : 2 < g := (Nat.lt_or_ge 2 g).elim id (fun q => absurd h106 (nI_nlt (a := 2) q (by omega)))
            rw [if_pos h2g] at hI
            refine j_iconst (v := 0) B d_M_reads_151 (by decide) ?_
            exact j_zret B K (by decide) (by rw [← hI] <;> rfl) (by rw [← hI]) d_M_reads_152
          · -- 106 on
            have h2g : ¬ 2 < g := fun q => absurd (nI_lt (a := 2) q (by omega)) h106
            rw [if_neg h2g] at hI
            have ho : ¬ opn (sg (fun i => tx (60 * 4 + i)) N (p + g)) = true := by rw [hc64]; decide
            have hk : ¬ cls (sg (fun i => tx (60 * 4 + i)) N (p + g)) = true := by rw [hc64]; decide
            rw [if_neg ho, if_neg hk, if_pos hc64] at hI
            refine j_iload B d_M_reads_109 7 rfl ?_
            refine j_if_eq B d_M_reads_111 rfl (fun h111 => ?_) (fun h111 => absurd rfl h111)
            refine j_iload B d_M_reads_141 6 rfl ?_
            refine j_if_eq B d_M_reads_143 rfl (fun h143 => ?_) (fun h143 => absurd rfl h143)
            refine j_iload B d_M_reads_153 6 rfl ?_
            refine j_if_eq B d_M_reads_155 rfl (fun h155 => ?_) (fun h155 => absurd rfl h155)
            refine j_iload B d_M_reads_181 7 rfl ?_
            refine j_if_eq B d_M_reads_183 rfl (fun h183 => ?_) (fun h183 => absurd rfl h183)
            refine j_iload B d_M_reads_196 5 rfl ?_
            refine j_bipush (v := 64) B d_M_reads_198 (by decide) ?_
            refine j_icmp_ne B d_M_reads_200 rfl (fun h200 => absurd hc64 h200) (fun h200 => ?_)
            refine j_iinc (L' := [(0, .ref (b + 133)), (1, .int (nI (p + g + 1))), (2, .int (nI d)), (3, .int (nI o)), (4, .int (nI g)), (5, .int (sg (fun i => tx (60 * 4 + i)) N (p + g))), (6, .int 0), (7, .int 0)]) (v := nI (p + g + 1)) B d_M_reads_203 (k := 1) rfl (nI_succ (p + g)).symm (by decide) [1, 0, 2, 3, 4, 5, 6, 7] rfl ?_
            refine j_aload_n B d_M_reads_206 rfl 0 rfl ?_
            refine j_iconst (v := nI 4) B d_M_reads_207 (by decide) ?_
            refine j_iload_n B d_M_reads_208 rfl 1 rfl ?_
            refine k_callV (as := [.int (nI 4), .int (nI (p + g + 1))]) (rest := []) (st1 := [.int (sg (fun i => tx (60 * 4 + i)) N (p + g + 1))]) B (c_M_sign hl (t := 4) (N := N) (p := (p + g + 1)) (by decide) hz hN (by omega)) yf_M_sign w_885 w_887 w_s29 rfl (rG (ix := 0) hl rfl) rfl (by decide) (by decide) rfl rfl (Nat.le_of_ble_eq_true rfl) d_M_reads_209 ?_
            refine j_bipush (v := 97) B d_M_reads_212 (by decide) ?_
            refine j_isub B d_M_reads_214 ?_
            refine j_istore (L' := [(0, .ref (b + 133)), (1, .int (nI (p + g + 1))), (2, .int (nI d)), (3, .int (nI o)), (4, .int (nI g)), (5, .int (sg (fun i => tx (60 * 4 + i)) N (p + g))), (6, .int 0), (7, .int 0), (8, .int ((sg (fun i => tx (60 * 4 + i)) N (p + g + 1)) - 97))]) B d_M_reads_215 (by decide) [1, 2, 3, 4, 5, 6, 7, 8, 0] rfl ?_
            refine j_iload B d_M_reads_217 8 rfl ?_
            refine j_if_lt B d_M_reads_219 rfl (fun h219 => ?_) (fun h219 => ?_)
            · -- 219 jump
              rw [if_pos (Or.inl h219)] at hI
              refine j_iconst (v := 0) B d_M_reads_228 (by decide) ?_
              exact j_zret B K (by decide) (by rw [← hI] <;> rfl) (by rw [← hI]) d_M_reads_229
            · -- 219 on
              refine j_iload B d_M_reads_222 8 rfl ?_
              refine j_iconst (v := 3) B d_M_reads_224 (by decide) ?_
              refine j_icmp_le B d_M_reads_225 rfl (fun h225 => ?_) (fun h225 => ?_)
              · -- 225 jump
                rw [if_neg (fun q => q.elim h219 (fun q => q h225))] at hI
                refine j_aload_n B d_M_reads_230 rfl 0 rfl ?_
                refine gf_M_65 B (rG (ix := 0) hl rfl) rfl d_M_reads_231 ?_
                refine j_iconst (v := nI 4) B d_M_reads_234 (by decide) ?_
                refine j_dup2 B d_M_reads_235 rfl rfl ?_
                refine j_ialdN B rfl (rG (ix := 19) hl rfl) (by omega) d_M_reads_236 ?_
                rw [pk_us]
                refine j_iconst (v := 1) B d_M_reads_237 (by decide) ?_
                refine j_iload B d_M_reads_238 8 rfl ?_
                refine j_ishl B d_M_reads_240 ?_
                refine j_ior B d_M_reads_241 ?_
                refine j_iastN B not_false rfl (rG (ix := 19) hl rfl) (by omega) d_M_reads_242 ?_
                refine jW.heap (σ2 := σ ++ rC b ta wt F0 F1 F2 HH kt kp a hi tm sN sx sy pt mn pl pN px py sn lt rc tx sz (upd (upd us 4 u) 4 (u ||| (1 <<< (((sg (fun i => tx (60 * 4 + i)) N (p + g + 1)) - 97) &&& 31)))) D0 D1 D2 qx qy di up dn be op gs t0 fr lf pX pY pD pU X) (rT (ix := 19) hl rfl) ?_
                refine j_goto B d_M_reads_243 rfl ?_
                refine j_iinc (L' := [(0, .ref (b + 133)), (1, .int (nI (p + g + 1 + 1))), (2, .int (nI d)), (3, .int (nI o)), (4, .int (nI g)), (5, .int (sg (fun i => tx (60 * 4 + i)) N (p + g))), (6, .int 0), (7, .int 0), (8, .int ((sg (fun i => tx (60 * 4 + i)) N (p + g + 1)) - 97))]) (v := nI (p + g + 1 + 1)) B d_M_reads_256 (k := 1) rfl (nI_succ (p + g + 1)).symm (by decide) [1, 0, 2, 3, 4, 5, 6, 7, 8] rfl ?_
                refine j_goto B d_M_reads_259 rfl ?_
                refine jW.sub (L' := [(0, .ref (b + 133)), (1, .int (nI (p + g + 1 + 1))), (2, .int (nI d)), (3, .int (nI o))]) [0, 1, 2, 3] rfl ?_; refine jW.heap (σ2 := σ ++ rC b ta wt F0 F1 F2 HH kt kp a hi tm sN sx sy pt mn pl pN px py sn lt rc tx sz (upd us 4 (u ||| (1 <<< ((sg (fun i => tx (60 * 4 + i)) N (p + g + 1) - 97) &&& 31)))) D0 D1 D2 qx qy di up dn be op gs t0 fr lf pX pY pD pU X) (by rw [upd2]) ?_; exact ih13 _ (by omega) (i + 1) (p + g + 1 + 1) d o (u ||| (1 <<< ((sg (fun i => tx (60 * 4 + i)) N (p + g + 1) - 97) &&& 31))) rfl (by omega) (by have := sg_in (S := (fun i => tx (60 * 4 + i))) (N := N) (k := p + g + 1) (by intro q; rw [q] at h219; exact absurd (by decide) h219); omega) (by omega) (by omega) (by rw [show 61 - (i + 1) = 60 - i by omega]; exact hI)
              · -- 225 on
                rw [if_pos (Or.inr h225)] at hI
                refine j_iconst (v := 0) B d_M_reads_228 (by decide) ?_
                exact j_zret B K (by decide) (by rw [← hI] <;> rfl) (by rw [← hI]) d_M_reads_229
        by_cases hsg : sing (sg (fun i => tx (60 * 4 + i)) N (p + g)) = true
        · -- s
          refine j_iload B d_M_reads_61 5 rfl ?_
          refine j_bipush (v := 40) B d_M_reads_63 (by decide) ?_
          refine j_icmp_eq B d_M_reads_65 rfl (fun h65 => absurd h65 hc40) (fun h65 => ?_)
          refine j_iload B d_M_reads_68 5 rfl ?_
          refine j_bipush (v := 91) B d_M_reads_70 (by decide) ?_
          refine j_icmp_ne B d_M_reads_72 rfl (fun h72 => ?_) (fun h72 => absurd h72 hc91)
          refine j_iconst (v := 0) B d_M_reads_79 (by decide) ?_
          refine j_istore (L' := [(0, .ref (b + 133)), (1, .int (nI (p + g))), (2, .int (nI d)), (3, .int (nI o)), (4, .int (nI g)), (5, .int (sg (fun i => tx (60 * 4 + i)) N (p + g))), (6, .int 0)]) B d_M_reads_80 (by decide) [1, 2, 3, 4, 5, 6, 0] rfl ?_
          refine j_iload B d_M_reads_82 5 rfl ?_
          refine j_bipush (v := 41) B d_M_reads_84 (by decide) ?_
          refine j_icmp_eq B d_M_reads_86 rfl (fun h86 => absurd h86 hc41) (fun h86 => ?_)
          refine j_iload B d_M_reads_89 5 rfl ?_
          refine j_bipush (v := 93) B d_M_reads_91 (by decide) ?_
          refine j_icmp_ne B d_M_reads_93 rfl (fun h93 => ?_) (fun h93 => absurd h93 hc93)
          refine j_iconst (v := 0) B d_M_reads_100 (by decide) ?_
          refine j_istore (L' := [(0, .ref (b + 133)), (1, .int (nI (p + g))), (2, .int (nI d)), (3, .int (nI o)), (4, .int (nI g)), (5, .int (sg (fun i => tx (60 * 4 + i)) N (p + g))), (6, .int 0), (7, .int 0)]) B d_M_reads_101 (by decide) [1, 2, 3, 4, 5, 6, 7, 0] rfl ?_
          refine j_iload B d_M_reads_103 4 rfl ?_
          refine j_iconst (v := 2) B d_M_reads_105 (by decide) ?_
          refine j_icmp_gt B d_M_reads_106 rfl (fun h106 => ?_) (fun h106 => ?_)
          · -- 106 jump
            have h2g : 2 < g := (Nat.lt_or_ge 2 g).elim id (fun q => absurd h106 (nI_nlt (a := 2) q (by omega)))
            rw [if_pos h2g] at hI
            refine j_iconst (v := 0) B d_M_reads_151 (by decide) ?_
            exact j_zret B K (by decide) (by rw [← hI] <;> rfl) (by rw [← hI]) d_M_reads_152
          · -- 106 on
            have h2g : ¬ 2 < g := fun q => absurd (nI_lt (a := 2) q (by omega)) h106
            rw [if_neg h2g] at hI
            have ho : ¬ opn (sg (fun i => tx (60 * 4 + i)) N (p + g)) = true := by simp [opn, hc40, hc91]
            have hk : ¬ cls (sg (fun i => tx (60 * 4 + i)) N (p + g)) = true := by simp [cls, hc41, hc93]
            rw [if_neg ho, if_neg hk, if_neg hc64, if_pos hsg] at hI
            refine j_iload B d_M_reads_109 7 rfl ?_
            refine j_if_eq B d_M_reads_111 rfl (fun h111 => ?_) (fun h111 => absurd rfl h111)
            refine j_iload B d_M_reads_141 6 rfl ?_
            refine j_if_eq B d_M_reads_143 rfl (fun h143 => ?_) (fun h143 => absurd rfl h143)
            refine j_iload B d_M_reads_153 6 rfl ?_
            refine j_if_eq B d_M_reads_155 rfl (fun h155 => ?_) (fun h155 => absurd rfl h155)
            refine j_iload B d_M_reads_181 7 rfl ?_
            refine j_if_eq B d_M_reads_183 rfl (fun h183 => ?_) (fun h183 => absurd rfl h183)
            refine j_iload B d_M_reads_196 5 rfl ?_
            refine j_bipush (v := 64) B d_M_reads_198 (by decide) ?_
            refine j_icmp_ne B d_M_reads_200 rfl (fun h200 => ?_) (fun h200 => absurd h200 hc64)
            refine j_iload B d_M_reads_246 5 rfl ?_
            refine k_callS (as := [.int (sg (fun i => tx (60 * 4 + i)) N (p + g))]) (rest := []) (st1 := [.int (bI (sing (sg (fun i => tx (60 * 4 + i)) N (p + g))))]) B (c_M_single (sg (fun i => tx (60 * 4 + i)) N (p + g))) yf_M_single w_892 w_893 rfl (by decide) (by decide) rfl rfl (Nat.le_of_ble_eq_true rfl) d_M_reads_248 ?_
            refine j_if_ne B d_M_reads_251 rfl (fun h251 => ?_) (fun h251 => absurd (bI_f h251) (by rw [hsg]; decide))
            refine j_iinc (L' := [(0, .ref (b + 133)), (1, .int (nI (p + g + 1))), (2, .int (nI d)), (3, .int (nI o)), (4, .int (nI g)), (5, .int (sg (fun i => tx (60 * 4 + i)) N (p + g))), (6, .int 0), (7, .int 0)]) (v := nI (p + g + 1)) B d_M_reads_256 (k := 1) rfl (nI_succ (p + g)).symm (by decide) [1, 0, 2, 3, 4, 5, 6, 7] rfl ?_
            refine j_goto B d_M_reads_259 rfl ?_
            refine jW.sub (L' := [(0, .ref (b + 133)), (1, .int (nI (p + g + 1))), (2, .int (nI d)), (3, .int (nI o))]) [0, 1, 2, 3] rfl ?_; refine jW.heap (σ2 := σ ++ rC b ta wt F0 F1 F2 HH kt kp a hi tm sN sx sy pt mn pl pN px py sn lt rc tx sz (upd us 4 u) D0 D1 D2 qx qy di up dn be op gs t0 fr lf pX pY pD pU X) rfl ?_; exact ih13 _ (by omega) (i + 1) (p + g + 1) d o u rfl (by omega) (by have := sg_in (S := (fun i => tx (60 * 4 + i))) (N := N) (k := p + g) (by intro q; rw [q] at hsg; exact absurd hsg (by decide)); omega) (by omega) (by omega) (by rw [show 61 - (i + 1) = 60 - i by omega]; exact hI)
        · -- x
          refine j_iload B d_M_reads_61 5 rfl ?_
          refine j_bipush (v := 40) B d_M_reads_63 (by decide) ?_
          refine j_icmp_eq B d_M_reads_65 rfl (fun h65 => absurd h65 hc40) (fun h65 => ?_)
          refine j_iload B d_M_reads_68 5 rfl ?_
          refine j_bipush (v := 91) B d_M_reads_70 (by decide) ?_
          refine j_icmp_ne B d_M_reads_72 rfl (fun h72 => ?_) (fun h72 => absurd h72 hc91)
          refine j_iconst (v := 0) B d_M_reads_79 (by decide) ?_
          refine j_istore (L' := [(0, .ref (b + 133)), (1, .int (nI (p + g))), (2, .int (nI d)), (3, .int (nI o)), (4, .int (nI g)), (5, .int (sg (fun i => tx (60 * 4 + i)) N (p + g))), (6, .int 0)]) B d_M_reads_80 (by decide) [1, 2, 3, 4, 5, 6, 0] rfl ?_
          refine j_iload B d_M_reads_82 5 rfl ?_
          refine j_bipush (v := 41) B d_M_reads_84 (by decide) ?_
          refine j_icmp_eq B d_M_reads_86 rfl (fun h86 => absurd h86 hc41) (fun h86 => ?_)
          refine j_iload B d_M_reads_89 5 rfl ?_
          refine j_bipush (v := 93) B d_M_reads_91 (by decide) ?_
          refine j_icmp_ne B d_M_reads_93 rfl (fun h93 => ?_) (fun h93 => absurd h93 hc93)
          refine j_iconst (v := 0) B d_M_reads_100 (by decide) ?_
          refine j_istore (L' := [(0, .ref (b + 133)), (1, .int (nI (p + g))), (2, .int (nI d)), (3, .int (nI o)), (4, .int (nI g)), (5, .int (sg (fun i => tx (60 * 4 + i)) N (p + g))), (6, .int 0), (7, .int 0)]) B d_M_reads_101 (by decide) [1, 2, 3, 4, 5, 6, 7, 0] rfl ?_
          refine j_iload B d_M_reads_103 4 rfl ?_
          refine j_iconst (v := 2) B d_M_reads_105 (by decide) ?_
          refine j_icmp_gt B d_M_reads_106 rfl (fun h106 => ?_) (fun h106 => ?_)
          · -- 106 jump
            have h2g : 2 < g := (Nat.lt_or_ge 2 g).elim id (fun q => absurd h106 (nI_nlt (a := 2) q (by omega)))
            rw [if_pos h2g] at hI
            refine j_iconst (v := 0) B d_M_reads_151 (by decide) ?_
            exact j_zret B K (by decide) (by rw [← hI] <;> rfl) (by rw [← hI]) d_M_reads_152
          · -- 106 on
            have h2g : ¬ 2 < g := fun q => absurd (nI_lt (a := 2) q (by omega)) h106
            rw [if_neg h2g] at hI
            have ho : ¬ opn (sg (fun i => tx (60 * 4 + i)) N (p + g)) = true := by simp [opn, hc40, hc91]
            have hk : ¬ cls (sg (fun i => tx (60 * 4 + i)) N (p + g)) = true := by simp [cls, hc41, hc93]
            rw [if_neg ho, if_neg hk, if_neg hc64, if_neg hsg] at hI
            refine j_iload B d_M_reads_109 7 rfl ?_
            refine j_if_eq B d_M_reads_111 rfl (fun h111 => ?_) (fun h111 => absurd rfl h111)
            refine j_iload B d_M_reads_141 6 rfl ?_
            refine j_if_eq B d_M_reads_143 rfl (fun h143 => ?_) (fun h143 => absurd rfl h143)
            refine j_iload B d_M_reads_153 6 rfl ?_
            refine j_if_eq B d_M_reads_155 rfl (fun h155 => ?_) (fun h155 => absurd rfl h155)
            refine j_iload B d_M_reads_181 7 rfl ?_
            refine j_if_eq B d_M_reads_183 rfl (fun h183 => ?_) (fun h183 => absurd rfl h183)
            refine j_iload B d_M_reads_196 5 rfl ?_
            refine j_bipush (v := 64) B d_M_reads_198 (by decide) ?_
            refine j_icmp_ne B d_M_reads_200 rfl (fun h200 => ?_) (fun h200 => absurd h200 hc64)
            refine j_iload B d_M_reads_246 5 rfl ?_
            refine k_callS (as := [.int (sg (fun i => tx (60 * 4 + i)) N (p + g))]) (rest := []) (st1 := [.int (bI (sing (sg (fun i => tx (60 * 4 + i)) N (p + g))))]) B (c_M_single (sg (fun i => tx (60 * 4 + i)) N (p + g))) yf_M_single w_892 w_893 rfl (by decide) (by decide) rfl rfl (Nat.le_of_ble_eq_true rfl) d_M_reads_248 ?_
            refine j_if_ne B d_M_reads_251 rfl (fun h251 => absurd (bI_t h251) hsg) (fun h251 => ?_)
            refine j_iconst (v := 0) B d_M_reads_254 (by decide) ?_
            exact j_zret B K (by decide) (by rw [← hI] <;> rfl) (by rw [← hI]) d_M_reads_255
      refine j_iconst (v := 0) B d_M_reads_23 (by decide) ?_
      refine j_istore (L' := [(0, .ref (b + 133)), (1, .int (nI p)), (2, .int (nI d)), (3, .int (nI o)), (4, .int 0)]) B d_M_reads_24 (by decide) [1, 2, 3, 4, 0] rfl ?_
      refine j_iload B d_M_reads_26 4 rfl ?_
      refine j_iconst (v := 3) B d_M_reads_28 (by decide) ?_
      refine j_icmp_ge B d_M_reads_29 rfl (fun h29 => absurd h29 (by decide)) (fun h29 => ?_)
      refine j_aload_n B d_M_reads_32 rfl 0 rfl ?_
      refine j_iconst (v := nI 4) B d_M_reads_33 (by decide) ?_
      refine j_iload_n B d_M_reads_34 rfl 1 rfl ?_
      refine k_callV (as := [.int (nI 4), .int (nI p)]) (rest := []) (st1 := [.int (sg (fun i => tx (60 * 4 + i)) N p)]) B (c_M_sign hl (t := 4) (N := N) (p := p) (by decide) hz hN (by omega)) yf_M_sign w_885 w_887 w_s29 rfl (rG (ix := 0) hl rfl) rfl (by decide) (by decide) rfl rfl (Nat.le_of_ble_eq_true rfl) d_M_reads_35 ?_
      refine k_callS (as := [.int (sg (fun i => tx (60 * 4 + i)) N p)]) (rest := []) (st1 := [.int (bI (dg (sg (fun i => tx (60 * 4 + i)) N p)))]) B (c_M_digit (sg (fun i => tx (60 * 4 + i)) N p)) yf_M_digit w_889 w_890 rfl (by decide) (by decide) rfl rfl (Nat.le_of_ble_eq_true rfl) d_M_reads_38 ?_
      refine j_if_eq B d_M_reads_41 rfl (fun h41 => ?_) (fun h41 => ?_)
      · -- 41 jump
        replace h41 := bI_f h41
        exact jn53 0 (by unfold dg3; rw [if_neg (bF h41)])
      · -- 41 on
        replace h41 := bI_t h41
        have hq0 := h41
        refine j_iinc (L' := [(0, .ref (b + 133)), (1, .int (nI p)), (2, .int (nI d)), (3, .int (nI o)), (4, .int 1)]) (v := 1) B d_M_reads_44 (k := 4) rfl (by decide) (by decide) [1, 2, 3, 4, 0] rfl ?_
        refine j_iinc (L' := [(0, .ref (b + 133)), (1, .int (nI (p + 1))), (2, .int (nI d)), (3, .int (nI o)), (4, .int 1)]) (v := nI (p + 1)) B d_M_reads_47 (k := 1) rfl (nI_succ p).symm (by decide) [1, 0, 2, 3, 4] rfl ?_
        refine j_goto B d_M_reads_50 rfl ?_
        refine j_iload B d_M_reads_26 4 rfl ?_
        refine j_iconst (v := 3) B d_M_reads_28 (by decide) ?_
        refine j_icmp_ge B d_M_reads_29 rfl (fun h29 => absurd h29 (by decide)) (fun h29 => ?_)
        refine j_aload_n B d_M_reads_32 rfl 0 rfl ?_
        refine j_iconst (v := nI 4) B d_M_reads_33 (by decide) ?_
        refine j_iload_n B d_M_reads_34 rfl 1 rfl ?_
        refine k_callV (as := [.int (nI 4), .int (nI (p + 1))]) (rest := []) (st1 := [.int (sg (fun i => tx (60 * 4 + i)) N (p + 1))]) B (c_M_sign hl (t := 4) (N := N) (p := (p + 1)) (by decide) hz hN (by omega)) yf_M_sign w_885 w_887 w_s29 rfl (rG (ix := 0) hl rfl) rfl (by decide) (by decide) rfl rfl (Nat.le_of_ble_eq_true rfl) d_M_reads_35 ?_
        refine k_callS (as := [.int (sg (fun i => tx (60 * 4 + i)) N (p + 1))]) (rest := []) (st1 := [.int (bI (dg (sg (fun i => tx (60 * 4 + i)) N (p + 1))))]) B (c_M_digit (sg (fun i => tx (60 * 4 + i)) N (p + 1))) yf_M_digit w_889 w_890 rfl (by decide) (by decide) rfl rfl (Nat.le_of_ble_eq_true rfl) d_M_reads_38 ?_
        refine j_if_eq B d_M_reads_41 rfl (fun h41 => ?_) (fun h41 => ?_)
        · -- 41 jump
          replace h41 := bI_f h41
          exact jn53 1 (by unfold dg3; rw [if_pos hq0, if_neg (bF h41)])
        · -- 41 on
          replace h41 := bI_t h41
          have hq1 := h41
          refine j_iinc (L' := [(0, .ref (b + 133)), (1, .int (nI (p + 1))), (2, .int (nI d)), (3, .int (nI o)), (4, .int 2)]) (v := 2) B d_M_reads_44 (k := 4) rfl (by decide) (by decide) [1, 2, 3, 4, 0] rfl ?_
          refine j_iinc (L' := [(0, .ref (b + 133)), (1, .int (nI (p + 1 + 1))), (2, .int (nI d)), (3, .int (nI o)), (4, .int 2)]) (v := nI (p + 1 + 1)) B d_M_reads_47 (k := 1) rfl (nI_succ (p + 1)).symm (by decide) [1, 0, 2, 3, 4] rfl ?_
          refine j_goto B d_M_reads_50 rfl ?_
          refine j_iload B d_M_reads_26 4 rfl ?_
          refine j_iconst (v := 3) B d_M_reads_28 (by decide) ?_
          refine j_icmp_ge B d_M_reads_29 rfl (fun h29 => absurd h29 (by decide)) (fun h29 => ?_)
          refine j_aload_n B d_M_reads_32 rfl 0 rfl ?_
          refine j_iconst (v := nI 4) B d_M_reads_33 (by decide) ?_
          refine j_iload_n B d_M_reads_34 rfl 1 rfl ?_
          refine k_callV (as := [.int (nI 4), .int (nI (p + 1 + 1))]) (rest := []) (st1 := [.int (sg (fun i => tx (60 * 4 + i)) N (p + 1 + 1))]) B (c_M_sign hl (t := 4) (N := N) (p := (p + 1 + 1)) (by decide) hz hN (by omega)) yf_M_sign w_885 w_887 w_s29 rfl (rG (ix := 0) hl rfl) rfl (by decide) (by decide) rfl rfl (Nat.le_of_ble_eq_true rfl) d_M_reads_35 ?_
          refine k_callS (as := [.int (sg (fun i => tx (60 * 4 + i)) N (p + 1 + 1))]) (rest := []) (st1 := [.int (bI (dg (sg (fun i => tx (60 * 4 + i)) N (p + 1 + 1))))]) B (c_M_digit (sg (fun i => tx (60 * 4 + i)) N (p + 1 + 1))) yf_M_digit w_889 w_890 rfl (by decide) (by decide) rfl rfl (Nat.le_of_ble_eq_true rfl) d_M_reads_38 ?_
          refine j_if_eq B d_M_reads_41 rfl (fun h41 => ?_) (fun h41 => ?_)
          · -- 41 jump
            replace h41 := bI_f h41
            exact jn53 2 (by unfold dg3; rw [if_pos hq0, if_pos hq1, if_neg (bF h41)])
          · -- 41 on
            replace h41 := bI_t h41
            have hq2 := h41
            refine j_iinc (L' := [(0, .ref (b + 133)), (1, .int (nI (p + 1 + 1))), (2, .int (nI d)), (3, .int (nI o)), (4, .int 3)]) (v := 3) B d_M_reads_44 (k := 4) rfl (by decide) (by decide) [1, 2, 3, 4, 0] rfl ?_
            refine j_iinc (L' := [(0, .ref (b + 133)), (1, .int (nI (p + 1 + 1 + 1))), (2, .int (nI d)), (3, .int (nI o)), (4, .int 3)]) (v := nI (p + 1 + 1 + 1)) B d_M_reads_47 (k := 1) rfl (nI_succ (p + 1 + 1)).symm (by decide) [1, 0, 2, 3, 4] rfl ?_
            refine j_goto B d_M_reads_50 rfl ?_
            refine j_iload B d_M_reads_26 4 rfl ?_
            refine j_iconst (v := 3) B d_M_reads_28 (by decide) ?_
            refine j_icmp_ge B d_M_reads_29 rfl (fun h29 => ?_) (fun h29 => absurd (by decide) h29)
            exact jn53 3 (by unfold dg3; rw [if_pos hq0, if_pos hq1, if_pos hq2])
  refine jW.heap (σ2 := σ ++ rC b ta wt F0 F1 F2 HH kt kp a hi tm sN sx sy pt mn pl pN px py sn lt rc tx sz (upd us 4 0) D0 D1 D2 qx qy di up dn be op gs t0 fr lf pX pY pD pU X) rfl ?_
  exact lp13 _ 0 0 0 0 0 rfl (by omega) (by omega) (by omega) (by omega) rfl
