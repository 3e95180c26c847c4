
def c_0 : CSt := ((fun _ => 0), (fun _ => 0), (fun _ => 0), (fun _ => 0), (fun _ => 0), (fun _ => 0), 0, 0, 0, true, 0, (fun _ => 0), (fun _ => 0), (fun _ => 0), (fun _ => 0), 0, (fun _ => 0), (fun _ _ => 0), (fun _ => 0), (fun _ => (0, 0, 0, 1, 0)), (fun _ => (0, 0, 0, -1, 0)), 0, 0, 0, 0, (fun _ _ => 0), (fun _ _ => 0), (fun _ _ => 0), (fun _ _ => 0))
def r_0 : RSt := (0, (fun _ => 0), (fun _ => 0), (fun _ => 0), (fun _ => 0), (fun _ => 0), (fun _ => 0), 0, 0, 0, 0, (fun _ => 0), (fun _ => 0), (fun _ => 0), (fun _ => 0), (fun _ => 0), 0, (fun _ => 0), (fun _ => 0), (fun _ => 0), (fun _ => 0), (fun _ => 0), (fun _ => 0), (upd (upd (upd (upd (fun _ => 0) 0 (-1)) 1 (-1)) 2 (-1)) 3 (-1)), (fun _ => 0), (fun _ => 0), (fun _ => 0), (fun _ => 0), 0, 0, 0, false, 0, false, 0, (fun _ => 0), (fun _ => 0), (fun _ => 0), (fun _ => 0), (fun _ => 0), (fun _ => 0), (fun _ => 0), (fun _ => 0))
theorem z_24 : Z24 (fun _ => 0) := fun _ _ => rfl
theorem z_fc : Fc (fun _ => 0) := fun _ => ch_fc 0 (by decide)
theorem z_tb : ∀ i, i < 32 → ¬ tbn 0 i = true := by decide
theorem z_sz : ∀ k, k < 4 → upd (upd (upd (upd (fun _ => (0 : Int32)) 0 (-1)) 1 (-1)) 2 (-1)) 3 (-1) k = -1 := by decide
theorem RG_z : RG 0 0 (fun _ => 0) (fun _ => 0) (fun _ => 0) (fun _ => 0) (fun _ => 0) (fun _ => 0) (((fun _ => 0), (fun _ => 0), (fun _ => 0)), ((fun _ => 0), (fun _ => 0), (fun _ => 0)), (fun _ => (0, 0, 0, 1, 0)), (fun _ => (0, 0, 0, -1, 0)), 0, 0, ((fun _ _ => 0), (fun _ _ => 0), (fun _ _ => 0)), (fun _ _ => 0)) (((fun _ => 0), (fun _ => 0), (fun _ => 0)), (fun _ => 0), (fun _ => 0), (fun _ => 0), 0, 0, 0, (fun _ => 0), ((fun _ => 0), (fun _ => 0), (fun _ => 0))) :=
  ⟨rfl, fun r i hi => ⟨fun q => z_tb i hi q.1, fun q => z_tb i hi q.1, fun q => z_tb i hi q.1⟩, ⟨z_24, z_24, z_24⟩, ⟨z_24, z_24, z_24⟩, fun _ => ⟨z_24, z_24, z_24⟩, z_24, fun k hk => absurd hk (Nat.not_lt_zero _), fun k _ => ⟨(by decide : (1 : Nat) ≤ 64), fun _ => ⟨rfl, rfl⟩⟩, fun k hk => absurd hk (Nat.not_lt_zero _), rfl, rfl, hist_0 (by decide)⟩
theorem TI_z : TI (fun _ => 0) 0 (fun _ => 0) (fun _ _ => 0) (fun _ => 0) (fun _ => 0) (upd (upd (upd (upd (fun _ => 0) 0 (-1)) 1 (-1)) 2 (-1)) 3 (-1)) (fun _ => 0) :=
  ⟨Nat.zero_le _, by decide, z_fc, fun _ _ => rfl, fun _ _ => rfl, fun k hk => ⟨Nat.zero_le _, z_fc, fun _ _ => rfl, fun _ => z_sz k hk, fun h => absurd rfl h⟩⟩
theorem Inv_z : Inv 0 c_0 r_0 := ⟨RG_z, ⟨rfl, rfl, Nat.zero_le _, Nat.zero_le _, Nat.le_refl _⟩, ⟨z_24, z_24, z_24⟩, ⟨z_24, z_24, z_24⟩, TI_z, fun k _ _ => ⟨rfl, rfl, rfl⟩⟩
theorem mH_len {b : Nat} {ta : Nat → ClassId} {r : RSt} : (mH b ta r []).length = 31 := rfl
theorem lH_z {b : Nat} {ta : Nat → ClassId} {c : CSt} {r : RSt} {f : Nat → Int64} : (cH b ta c [] ++ mH b ta r []) ++ [oC ta f] = lH b ta c r f := by
  rw [lH_e, List.append_assoc]
  rfl
theorem i_WF {l : Launch} {b : Nat} {D : va_G} {ta : Nat → ClassId} : jC l b D ta True y_WF_init b_WF_init 2 none (rK 3 132 1909) [.ref (b + 0)] [.inr (6, [.null, .null, .null, .null, .null, .null, .null, .int 0, .null, .int 0, .null, .int 0, .int 0])] none (cH b ta c_0 []) := c_WF_init
theorem i_M {l : Launch} {b : Nat} {D : va_G} {ta : Nat → ClassId} {σ : List va_E} (hl : σ.length = 133) : jC l b D ta True y_M_init b_M_init 2 none (rK 1 30 1990) [.ref (b + 133)] (σ ++ [.inr (7, [.int 0, .null, .null, .null, .null, .null, .null, .int 0, .int 0, .int 0, .int 0, .null, .null, .null, .null, .null, .int 0, .null, .null, .null, .null, .null, .null, .null, .null, .null, .null, .null, .int 0, .int 0, .int 0, .int 0, .int 0, .int 0, .int 0, .null, .null, .null, .null, .null, .null, .null, .null])]) none (σ ++ mH b ta r_0 []) := c_M_init hl
section LG
variable {l : Launch} {b : Nat} {D : va_G} {ta : Nat → ClassId} {Γ : jG} {sb Ln : Nat} {xs : Nat → Int32}
set_option maxRecDepth 100000 in
set_option maxHeartbeats 4000000 in
theorem lw_go (B : lwB l b D ta Γ) (loop : jW l b D Γ False 200 4000 7 (lH b ta c_0 r_0 (fun _ => 0)) (lwL b sb 0) 23 []) : jW l b D Γ True 0 0 7 [] [(0, .ref sb)] 0 [] := by
  refine j_new (ci := 6) (fs := [.null, .null, .null, .null, .null, .null, .null, .int 0, .null, .int 0, .null, .int 0, .int 0]) B trivial rfl u_X6 tyX6 tyX6_ok w_23 w_24 w_1 (by decide +kernel) (by decide) (by decide) d_law_0 ?_
  change jW l b D Γ True 1 13 7 [.inr (6, [.null, .null, .null, .null, .null, .null, .null, .int 0, .null, .int 0, .null, .int 0, .int 0])] [(0, .ref sb)] 3 [.ref (b + 0)]
  refine j_dup B d_law_3 rfl ?_
  refine j_callI (as := []) (rest := [.ref (b + 0)]) B i_WF yf_WF_init w_25 w_26 rfl rfl (by decide) (by decide) rfl (Nat.le_of_ble_eq_true rfl) d_law_4 ?_
  change jW l b D Γ True 133 1922 7 (cH b ta c_0 []) [(0, .ref sb)] 7 [.ref (b + 0)]
  refine j_astore_n (L' := [(0, .ref sb), (1, .ref (b + 0))]) B d_law_7 rfl (by decide) [1, 0] rfl ?_
  refine j_new (ci := 7) (fs := [.int 0, .null, .null, .null, .null, .null, .null, .int 0, .int 0, .int 0, .int 0, .null, .null, .null, .null, .null, .int 0, .null, .null, .null, .null, .null, .null, .null, .null, .null, .null, .null, .int 0, .int 0, .int 0, .int 0, .int 0, .int 0, .int 0, .null, .null, .null, .null, .null, .null, .null, .null]) B trivial rfl u_X7 tyX7 tyX7_ok w_692 w_693 w_8 (by decide +kernel) (by decide) (by decide) d_law_8 ?_
  rw [cH_len]
  refine j_dup B d_law_11 rfl ?_
  refine j_callI (as := []) (rest := [.ref (b + 133)]) B (i_M cH_len) yf_M_init w_694 w_695 rfl rfl (by decide) (by decide) rfl (Nat.le_of_ble_eq_true rfl) d_law_12 ?_
  change jW l b D Γ True 164 3955 7 (cH b ta c_0 [] ++ mH b ta r_0 []) [(0, .ref sb), (1, .ref (b + 0))] 15 [.ref (b + 133)]
  refine j_astore_n (L' := [(0, .ref sb), (1, .ref (b + 0)), (2, .ref (b + 133))]) B d_law_15 rfl (by decide) [1, 2, 0] rfl ?_
  refine j_iconst (v := 1) B d_law_16 (by decide) ?_
  refine j_newa (atype := .long) (t := 3) (N := 1) (a0 := (1, .inr (.inl (fun _ => 0)))) B trivial w_828 rfl na_long (by decide) (by decide) (by decide) (by decide) (by decide) d_law_17 ?_
  rw [List.length_append, cH_len, mH_len]
  change jW l b D Γ True 165 3956 7 ((cH b ta c_0 [] ++ mH b ta r_0 []) ++ [oC ta (fun _ => 0)]) _ 19 [.ref (b + 164)]
  rw [lH_z]
  refine j_astore_n (L' := [(0, .ref sb), (1, .ref (b + 0)), (2, .ref (b + 133)), (3, .ref (b + 164))]) B d_law_19 rfl (by decide) [1, 2, 3, 0] rfl ?_
  refine j_iconst (v := nI 0) B d_law_20 (by decide) ?_
  refine j_istore (L' := lwL b sb 0) B d_law_21 (by decide) [1, 2, 3, 4, 0] rfl ?_
  exact jW_ex (jW.widen (by decide) (by decide) loop)
set_option maxRecDepth 100000 in
set_option maxHeartbeats 4000000 in
theorem lw_step (B : lwB l b D ta Γ) (hC : lwC b Γ sb Ln xs) (hst : l.stackTraces = false) (hend : ∀ (cs ss : Nat) (σ : List va_E) (L : List (Nat × Value)), cs ≤ 601024 → ss ≤ 7293034 → jW l b D Γ False cs ss 7 σ L 775 []) (j : Nat) (hj : j ≤ 600) (c : CSt) (r : RSt) (f : Nat → Int64) (I : Inv (60 * j) c r) (hnext : 8 * j + 8 ≤ Ln → ∀ (c2 : CSt) (r2 : RSt) (f2 : Nat → Int64), Inv (60 * (j + 1)) c2 r2 → jW l b D Γ False (200 + (j + 1)) (4000 + 6 * (j + 1)) 7 (lH b ta c2 r2 f2) (lwL b sb (j + 1)) 23 []) : jW l b D Γ False (200 + j) (4000 + 6 * j) 7 (lH b ta c r f) (lwL b sb j) 23 [] := by
  have hLn := hC.2.2.2
  refine j_iload B d_law_23 4 rfl ?_
  refine j_aload_n B d_law_25 rfl 0 rfl ?_
  refine s_len B hC d_law_26 ?_
  refine j_bipush (v := nI 8) B d_law_27 (by decide) ?_
  refine j_isub B d_law_29 ?_
  refine j_icmp_gt B d_law_30 rfl (fun _ => hend _ _ _ _ (by omega) (by omega)) (fun h => ?_)
  have hj8 : 8 * j + 8 ≤ Ln := by
    have h2 : ¬ (nI Ln - nI 8).toInt < (nI (8 * j)).toInt := fun q => h (i_lt.mpr q)
    rw [pk_sub_toInt (by omega) (by decide), nI_toInt (by omega)] at h2
    omega
  refine j_aload_n B d_law_33 rfl 0 rfl ?_
  refine j_iload B d_law_34 4 rfl ?_
  refine s_ld (j := 8 * j) B hC (by omega) rfl d_law_36 ?_
  refine j_bipush (v := 15) B d_law_37 (by decide) ?_
  refine j_iand B d_law_39 ?_
  obtain ⟨k, hk, e⟩ := pk_andE (xs (8 * j)) (m := 15) 4 (by decide)
  rw [e]
  have hn : ∀ (c2 : CSt) (r2 : RSt) (f2 : Nat → Int64), Inv (60 * j + 60) c2 r2 → jW l b D Γ False (200 + j + 1) (4000 + 6 * j + 6) 7 (lH b ta c2 r2 f2) (lwL b sb j) 769 [] := fun c2 r2 f2 I2 => by
    refine j_iinc (L' := lwL b sb (j + 1)) (v := nI (8 * (j + 1))) (k := 4) B d_law_769 rfl (by rw [show Int32.ofInt 8 = nI 8 from by decide]; exact nI_add _ _) (by decide) [1, 2, 3, 4, 0] rfl ?_
    refine j_goto B d_law_772 rfl ?_
    exact jW.widen (by omega) (by omega) (hnext hj8 c2 r2 f2 I2)
  have hk2 : k = 0 ∨ k = 1 ∨ k = 2 ∨ k = 3 ∨ k = 4 ∨ k = 5 ∨ k = 6 ∨ k = 7 ∨ k = 8 ∨ k = 9 ∨ k = 10 ∨ k = 11 ∨ k = 12 ∨ k = 13 ∨ k = 14 ∨ k = 15 := by omega
  rcases hk2 with rfl | rfl | rfl | rfl | rfl | rfl | rfl | rfl | rfl | rfl | rfl | rfl | rfl | rfl | rfl | rfl
  · refine j_tableIn (tgt := 116) (off := 76) B d_law_40 (by decide) (by decide) (by decide) rfl ?_
    exact lc_0 B hC hst hj8 ⟨by omega, by omega⟩ I hn
  · refine j_tableIn (tgt := 143) (off := 103) B d_law_40 (by decide) (by decide) (by decide) rfl ?_
    exact lc_1 B hC hst hj8 ⟨by omega, by omega⟩ I hn
  · refine j_tableIn (tgt := 223) (off := 183) B d_law_40 (by decide) (by decide) (by decide) rfl ?_
    exact lc_2 B hC hst hj8 ⟨by omega, by omega⟩ I hn
  · refine j_tableIn (tgt := 259) (off := 219) B d_law_40 (by decide) (by decide) (by decide) rfl ?_
    exact lc_3 B hC hst hj8 ⟨by omega, by omega⟩ I hn
  · refine j_tableIn (tgt := 270) (off := 230) B d_law_40 (by decide) (by decide) (by decide) rfl ?_
    exact lc_4 B hC hst hj8 ⟨by omega, by omega⟩ I hn
  · refine j_tableIn (tgt := 319) (off := 279) B d_law_40 (by decide) (by decide) (by decide) rfl ?_
    exact lc_5 B hC hst hj8 ⟨by omega, by omega⟩ I hn
  · refine j_tableIn (tgt := 356) (off := 316) B d_law_40 (by decide) (by decide) (by decide) rfl ?_
    exact lc_6 B hC hst hj8 ⟨by omega, by omega⟩ I hn
  · refine j_tableIn (tgt := 457) (off := 417) B d_law_40 (by decide) (by decide) (by decide) rfl ?_
    exact lc_7 B hC hst hj8 ⟨by omega, by omega⟩ I hn
  · refine j_tableIn (tgt := 550) (off := 510) B d_law_40 (by decide) (by decide) (by decide) rfl ?_
    exact lc_8 B hC hst hj8 ⟨by omega, by omega⟩ I hn
  · refine j_tableIn (tgt := 587) (off := 547) B d_law_40 (by decide) (by decide) (by decide) rfl ?_
    exact lc_9 B hC hst hj8 ⟨by omega, by omega⟩ I hn
  · refine j_tableIn (tgt := 612) (off := 572) B d_law_40 (by decide) (by decide) (by decide) rfl ?_
    exact lc_10 B hC hst hj8 ⟨by omega, by omega⟩ I hn
  · refine j_tableIn (tgt := 637) (off := 597) B d_law_40 (by decide) (by decide) (by decide) rfl ?_
    exact lc_11 B hC hst hj8 ⟨by omega, by omega⟩ I hn
  · refine j_tableIn (tgt := 650) (off := 610) B d_law_40 (by decide) (by decide) (by decide) rfl ?_
    exact lc_12 B hC hst hj8 ⟨by omega, by omega⟩ I hn
  · refine j_tableIn (tgt := 718) (off := 678) B d_law_40 (by decide) (by decide) (by decide) rfl ?_
    exact lc_13 B hC hst hj8 ⟨by omega, by omega⟩ I hn
  · refine j_tableIn (tgt := 744) (off := 704) B d_law_40 (by decide) (by decide) (by decide) rfl ?_
    exact lc_14 B hC hst hj8 ⟨by omega, by omega⟩ I hn
  · refine j_tableOut (tgt := 769) B d_law_40 (Or.inr (by decide)) rfl ?_
    exact jW.widen (Nat.le_add_right _ _) (Nat.le_add_right _ _) (hn c r f (Inv_mono (Nat.le_add_right _ _) I))
theorem lw_loop (B : lwB l b D ta Γ) (hC : lwC b Γ sb Ln xs) (hst : l.stackTraces = false) (hend : ∀ (cs ss : Nat) (σ : List va_E) (L : List (Nat × Value)), cs ≤ 601024 → ss ≤ 7293034 → jW l b D Γ False cs ss 7 σ L 775 []) : ∀ (n j : Nat), j + n = 600 → ∀ (c : CSt) (r : RSt) (f : Nat → Int64), Inv (60 * j) c r → jW l b D Γ False (200 + j) (4000 + 6 * j) 7 (lH b ta c r f) (lwL b sb j) 23 [] := by
  have hLn := hC.2.2.2
  intro n
  induction n with
  | zero => intro j hj c r f I; exact lw_step B hC hst hend j (by omega) c r f I (fun h => absurd h (by omega))
  | succ n ih => intro j hj c r f I; exact lw_step B hC hst hend j (by omega) c r f I (fun _ c2 r2 f2 I2 => ih (j + 1) (by omega) c2 r2 f2 I2)
theorem lw_all (B : lwB l b D ta Γ) (hC : lwC b Γ sb Ln xs) (hst : l.stackTraces = false) (hend : ∀ (cs ss : Nat) (σ : List va_E) (L : List (Nat × Value)), cs ≤ 601024 → ss ≤ 7293034 → jW l b D Γ False cs ss 7 σ L 775 []) : jW l b D Γ True 0 0 7 [] [(0, .ref sb)] 0 [] := lw_go B (lw_loop B hC hst hend 600 0 rfl c_0 r_0 _ Inv_z)
end LG
