def p37 (b : Nat) (ta : Nat → ClassId) (f : Nat → Option Nat) : List va_E := [.inr (6, [.ref (b + 1), .ref (b + 5), .ref (b + 9), .ref (b + 14), .ref (b + 16), .ref (b + 17), .ref (b + 18), .int 0, .ref (b + 19), .int 0, .ref (b + 20), .int 0, .int 0]), zG b 2 3 4, zI ta, zI ta, zI ta, zG b 6 7 8, zI ta, zI ta, zI ta, zN b 10, zG b 11 12 13, zI ta, zI ta, zI ta, zT b 15, zC ta, aR ta 4 4 (fun j => if j < 4 then some (b + (21 + 2 * j)) else none), .inl (ta 2, 4, .inl (fun _ => 0)), aR ta 5 4 (fun j => if j < 4 then some (b + (29 + j)) else none), aR ta 6 4 (fun j => if j < 4 then some (b + (33 + j)) else none), .inl (ta 7, 16, .inr (.inr (.inr (.inr f)))), zT b 22, zC ta, zT b 24, zC ta, zT b 26, zC ta, zT b 28, zC ta, zS, zS, zS, zS, zP, zP, zP, zP]
def mZ (b : Nat) (ta : Nat → ClassId) (k : Nat) : List va_E := (List.range k).flatMap (mB b ta (fun _ _ => 0) (fun _ _ => 0) (fun _ _ => 0) (fun _ _ => 0))
theorem mZ_s {b : Nat} {ta : Nat → ClassId} {k : Nat} : mZ b ta (k + 1) = mZ b ta k ++ mB b ta (fun _ _ => 0) (fun _ _ => 0) (fun _ _ => 0) (fun _ _ => 0) k := by
  unfold mZ
  rw [List.range_succ, List.flatMap_append, List.flatMap_cons, List.flatMap_nil, List.append_nil]
theorem mZ_len {b : Nat} {ta : Nat → ClassId} : ∀ k, (mZ b ta k).length = 6 * k := by
  intro k
  induction k with
  | zero => rfl
  | succ k ih => rw [mZ_s, List.length_append, ih]; show 6 * k + 6 = _; omega
theorem pm_len {b : Nat} {ta : Nat → ClassId} {f : Nat → Option Nat} {k : Nat} : (p37 b ta f ++ mZ b ta k).length = 37 + 6 * k := by rw [List.length_append, mZ_len]; rfl
theorem pm_cf {b : Nat} {ta : Nat → ClassId} {f : Nat → Option Nat} {k : Nat} : cf ((p37 b ta f ++ mZ b ta k) ++ [.inr (1, [.null, .null])]) (37 + 6 * k) (.inr (1, [.ref (b + (38 + 6 * k + 0)), .ref (b + (38 + 6 * k + 4))])) [.inr (0, [.ref (b + (38 + 6 * k + 1)), .ref (b + (38 + 6 * k + 2)), .ref (b + (38 + 6 * k + 3))]), .inl (ta 0, 24, .inl (fun _ => 0)), .inl (ta 0, 24, .inl (fun _ => 0)), .inl (ta 0, 24, .inl (fun _ => 0)), .inl (ta 0, 4, .inl (fun _ => 0))] = p37 b ta f ++ mZ b ta (k + 1) := by
  unfold cf
  rw [List.set_append_right _ _ (by rw [pm_len]; omega), pm_len, Nat.sub_self, mZ_s, List.append_assoc, List.append_assoc]
  rw [show 38 + 6 * k + 0 = 38 + 6 * k from rfl, show 38 + 6 * k + 4 = 42 + 6 * k by omega, show 38 + 6 * k + 1 = 39 + 6 * k by omega, show 38 + 6 * k + 2 = 40 + 6 * k by omega, show 38 + 6 * k + 3 = 41 + 6 * k by omega]
  rfl
theorem pm_mo {b : Nat} {ta : Nat → ClassId} {f : Nat → Option Nat} {k : Nat} : (p37 b ta f ++ mZ b ta (k + 1))[37 + 6 * k]? = some (.inr (1, [.ref (b + (38 + 6 * k)), .ref (b + (42 + 6 * k))])) := by
  rw [mZ_s, ← List.append_assoc, List.getElem?_append_right (by rw [pm_len]; omega), pm_len, Nat.sub_self]
  rfl
theorem pm_end {b : Nat} {ta : Nat → ClassId} : p37 b ta (fun j => if j < 16 then some (b + (37 + 6 * j)) else none) ++ mZ b ta 16 = hC b ta (fun _ => 0) (fun _ => 0) (fun _ => 0) (fun _ => 0) (fun _ => 0) (fun _ => 0) 0 0 0 true 0 (fun _ => 0) (fun _ => 0) (fun _ => 0) (fun _ => 0) 0 (fun _ => 0) (fun _ _ => 0) (fun _ => 0) (fun _ => (0, 0, 0, 1, 0)) (fun _ => (0, 0, 0, -1, 0)) 0 0 0 0 (fun _ _ => 0) (fun _ _ => 0) (fun _ _ => 0) (fun _ _ => 0) [] := by
  unfold hC mL
  rw [List.append_nil]
  rfl
set_option maxRecDepth 100000 in
set_option maxHeartbeats 4000000 in
theorem wf_mom {l : Launch} {b : Nat} {D : va_G} {ta : Nat → ClassId} {Γ : jG} (B : jB l b D ta Γ "WireField" b_WF_init none 2 (rK 3 132 1909)) (K : jR b D True Γ none (hC b ta (fun _ => 0) (fun _ => 0) (fun _ => 0) (fun _ => 0) (fun _ => 0) (fun _ => 0) 0 0 0 true 0 (fun _ => 0) (fun _ => 0) (fun _ => 0) (fun _ => 0) 0 (fun _ => 0) (fun _ _ => 0) (fun _ => 0) (fun _ => (0, 0, 0, 1, 0)) (fun _ => (0, 0, 0, -1, 0)) 0 0 0 0 (fun _ _ => 0) (fun _ _ => 0) (fun _ _ => 0) (fun _ _ => 0) []) 132 1909) : ∀ n k, k + n = 16 → jW l b D Γ True (36 + 6 * k) (613 + 81 * k) 2 (p37 b ta (fun j => if j < k then some (b + (37 + 6 * j)) else none) ++ mZ b ta k) [(0, .ref (b + 0)), (1, .int (nI k))] 188 [] := by
  intro n
  induction n with
  | zero =>
    intro k hk
    have e : k = 16 := by omega
    subst e
    refine j_iload_n B d_WF_init_188 rfl 1 rfl ?_
    refine j_bipush (v := 16) B d_WF_init_189 (by decide) ?_
    refine j_icmp_ge B d_WF_init_191 rfl (fun _ => ?_) (fun h => absurd (by decide) h)
    exact j_vret B K pm_end d_WF_init_213
  | succ n ih =>
    intro k hk
    refine j_iload_n B d_WF_init_188 rfl 1 rfl ?_
    refine j_bipush (v := 16) B d_WF_init_189 (by decide) ?_
    refine j_icmp_ge B d_WF_init_191 rfl (fun h => absurd h (nI_ge (b := 16) (by omega) (by decide))) (fun _ => ?_)
    refine j_aload_n B d_WF_init_194 rfl 0 rfl ?_
    refine gf_WF_62 B rfl rfl d_WF_init_195 ?_
    refine j_iload_n B d_WF_init_198 rfl 1 rfl ?_
    refine j_new (ci := 1) (fs := [.null, .null]) B trivial rfl u_X1 tyX1 tyX1_ok w_101 w_150 w_7 (by decide +kernel) (by show 36 + 6 * k + 1 ≤ 132; omega) (by show 613 + 81 * k + 2 ≤ 1909; omega) d_WF_init_199 ?_
    rw [pm_len]
    refine j_dup B d_WF_init_202 rfl ?_
    refine j_callIN (as := []) (rest := [.ref (b + (37 + 6 * k)), .int (nI k), .ref (b + 20)]) B (c_Mo_init (σ := (p37 b ta (fun j => if j < k then some (b + (37 + 6 * j)) else none) ++ mZ b ta k) ++ [.inr (1, [.null, .null])]) (q := 37 + 6 * k) (n := 38 + 6 * k) (by rw [List.length_append, pm_len]; show 37 + 6 * k + 1 = _; omega) (by rw [List.getElem?_append_right (by rw [pm_len]; omega), pm_len, Nat.sub_self]; rfl) (by omega)) yf_Mo_init w_151 w_152 rfl rfl (by decide) ⟨by show 36 + 6 * k + 1 + 5 ≤ 132; omega, by show 613 + 81 * k + 2 + 79 ≤ 1909; omega⟩ rfl (Nat.le_of_ble_eq_true rfl) d_WF_init_203 ?_
    refine jW.heap (σ2 := p37 b ta (fun j => if j < k then some (b + (37 + 6 * j)) else none) ++ mZ b ta (k + 1)) pm_cf ?_
    refine j_aastX (ci := 1) B rfl rfl rfl pm_mo (vp_in_iff.mpr (by rw [nI_toInt (by omega)]; omega)) d_WF_init_206 ?_
    rw [nI_clamp (by omega), vaup_s]
    refine jW.heap (σ2 := p37 b ta (fun j => if j < k + 1 then some (b + (37 + 6 * j)) else none) ++ mZ b ta (k + 1)) rfl ?_
    refine j_iinc (L' := [(0, .ref (b + 0)), (1, .int (nI (k + 1)))]) (v := nI (k + 1)) B d_WF_init_207 (k := 1) rfl (nI_succ k).symm (by decide) [1, 0] rfl ?_
    refine j_goto B d_WF_init_210 rfl ?_
    refine jW.widen (cs' := 36 + 6 * (k + 1)) (ss' := 613 + 81 * (k + 1)) (by show 36 + 6 * k + 1 + 5 ≤ _; omega) (by show 613 + 81 * k + 2 + 79 ≤ _; omega) ?_
    exact ih (k + 1) (by omega)
theorem nI_int0 : True := trivial
