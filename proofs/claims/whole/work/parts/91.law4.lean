set_option maxRecDepth 100000 in
theorem w_363 : (Jvm.Cond.codeWith ({ cls := "WireFieldLaw", name := "draw", desc := "(LWireField;III[J)I" } : Jvm.MethodName) method_3_code (6 : Nat) (Option.some Jvm.ClassFile.FieldType.int) [((0 : Nat), (12 : Nat), (15 : Nat), (13 : Nat)), ((0 : Nat), (12 : Nat), (19 : Nat), (15 : Nat)), ((0 : Nat), (12 : Nat), (23 : Nat), (17 : Nat))]) ∈ jWS := jWS_in 404 rfl rfl
set_option maxRecDepth 100000 in
theorem w_672 : (Jvm.Cond.codeWith ({ cls := "WireFieldLaw", name := "macro", desc := "(LWireField;I)I" } : Jvm.MethodName) method_4_code (3 : Nat) (Option.some Jvm.ClassFile.FieldType.int) [((0 : Nat), (5 : Nat), (8 : Nat), (13 : Nat)), ((0 : Nat), (5 : Nat), (11 : Nat), (15 : Nat))]) ∈ jWS := jWS_in 713 rfl rfl
set_option maxRecDepth 100000 in
theorem w_686 : (Jvm.Cond.codeWith ({ cls := "WireFieldLaw", name := "seen", desc := "(LWireField;II[J)I" } : Jvm.MethodName) method_5_code (5 : Nat) (Option.some Jvm.ClassFile.FieldType.int) [((0 : Nat), (10 : Nat), (13 : Nat), (13 : Nat))]) ∈ jWS := jWS_in 727 rfl rfl
set_option maxRecDepth 100000 in
set_option maxHeartbeats 4000000 in
theorem lc_0 {l : Launch} {b : Nat} {D : va_G} {ta : Nat → ClassId} {Γ : jG} {sb Ln cs ss j : Nat} {xs : Nat → Int32} {c : CSt} {r : RSt} {f : Nat → Int64} (B : lwB l b D ta Γ) (hC : lwC b Γ sb Ln xs) (hst : l.stackTraces = false) (hj : 8 * j + 8 ≤ Ln) (hcs : cs + 1 ≤ 601024 ∧ ss + 6 ≤ 7293034) (I : Inv (60 * j) c r) (hn : ∀ (c2 : CSt) (r2 : RSt) (f2 : Nat → Int64), Inv (60 * j + 60) c2 r2 → jW l b D Γ False (cs + 1) (ss + 6) 7 (lH b ta c2 r2 f2) (lwL b sb j) 769 []) : jW l b D Γ False cs ss 7 (lH b ta c r f) (lwL b sb j) 116 [] := by
  obtain ⟨c2, r2, z, I2, h1, h2⟩ := Pr_l (call_type (l := l) (b := b) (D := D) (ta := ta) I (((xs (8 * j + 1)).toUInt32 % 65536).toInt32))
  refine j_aload_n B d_law_116 rfl 1 rfl ?_
  refine s_arg (m := 1) B hC (by omega) rfl rfl (by decide) d_law_117 d_law_118 d_law_120 d_law_121 d_law_122 ?_
  refine j_i2c B d_law_123 rfl ?_
  refine kl_callV (as := [.int (((xs (8 * j + 1)).toUInt32 % 65536).toInt32)]) (rest := []) (st1 := [.int z]) B (h1 f) yf_WF_type w_206 w_207 w_208 rfl lH_0.choose_spec rfl (by decide) (by decide) ⟨by omega, by omega⟩ rfl rfl (Nat.le_of_ble_eq_true rfl) d_law_124 ?_
  change jW l b D Γ False _ _ 7 (lH b ta c2 r f) _ 127 [.int z]
  refine j_aload_n B d_law_127 rfl 2 rfl ?_
  refine s_arg (m := 1) B hC (by omega) rfl rfl (by decide) d_law_128 d_law_129 d_law_131 d_law_132 d_law_133 ?_
  refine j_i2c B d_law_134 rfl ?_
  refine kl_callV (as := [.int (((xs (8 * j + 1)).toUInt32 % 65536).toInt32)]) (rest := [.int z]) (st1 := [.int z, .int z]) B (h2 f) yf_M_type w_869 w_870 w_871 rfl lH_133.choose_spec rfl (by decide) (by decide) ⟨by omega, by omega⟩ rfl rfl (Nat.le_of_ble_eq_true rfl) d_law_135 ?_
  change jW l b D Γ False _ _ 7 (lH b ta c2 r2 f) _ 138 [.int z, .int z]
  refine j_icmp_eq B d_law_138 rfl (fun _ => ?_) (fun h => absurd rfl h)
  exact jW.widen (Nat.le_add_right _ _) (Nat.le_add_right _ _) (hn c2 r2 f (Inv_mono (Nat.le_add_right _ _) I2))
set_option maxRecDepth 100000 in
set_option maxHeartbeats 4000000 in
theorem lc_1 {l : Launch} {b : Nat} {D : va_G} {ta : Nat → ClassId} {Γ : jG} {sb Ln cs ss j : Nat} {xs : Nat → Int32} {c : CSt} {r : RSt} {f : Nat → Int64} (B : lwB l b D ta Γ) (hC : lwC b Γ sb Ln xs) (hst : l.stackTraces = false) (hj : 8 * j + 8 ≤ Ln) (hcs : cs + 1 ≤ 601024 ∧ ss + 6 ≤ 7293034) (I : Inv (60 * j) c r) (hn : ∀ (c2 : CSt) (r2 : RSt) (f2 : Nat → Int64), Inv (60 * j + 60) c2 r2 → jW l b D Γ False (cs + 1) (ss + 6) 7 (lH b ta c2 r2 f2) (lwL b sb j) 769 []) : jW l b D Γ False cs ss 7 (lH b ta c r f) (lwL b sb j) 143 [] := by
  obtain ⟨c2, k, z2, f2, r2, I2, hk, hz, hW, hM⟩ := call_draw (l := l) (b := b) (D := D) (ta := ta) hst I (xs (8 * j + 1)) (xs (8 * j + 2)) (xs (8 * j + 3)) f
  refine j_aload_n B d_law_143 rfl 1 rfl ?_
  refine s_arg (m := 1) B hC (by omega) rfl rfl (by decide) d_law_144 d_law_145 d_law_147 d_law_148 d_law_149 ?_
  refine s_arg (m := 2) B hC (by omega) rfl rfl (by decide) d_law_150 d_law_151 d_law_153 d_law_154 d_law_155 ?_
  refine s_arg (m := 3) B hC (by omega) rfl rfl (by decide) d_law_156 d_law_157 d_law_159 d_law_160 d_law_161 ?_
  refine j_aload_n B d_law_162 rfl 3 rfl ?_
  refine kl_callSW (as := [.ref (b + 0), .int (xs (8 * j + 1)), .int (xs (8 * j + 2)), .int (xs (8 * j + 3)), .ref (b + 164)]) (rest := []) (st1 := [.int k]) B hW w_363 w_0 (by decide) w_361 w_362 ((by decide +kernel : (parseMethodDescriptor ("(LWireField;III[J)I")).map (fun d => d.parameters.length) = some 5)) (by decide) (by decide) hcs rfl rfl (Nat.le_of_ble_eq_true rfl) d_law_163 ?_
  refine j_istore (L' := [(0, .ref sb), (1, .ref (b + 0)), (2, .ref (b + 133)), (3, .ref (b + 164)), (4, .int (nI (8 * j))), (5, .int k)]) B d_law_166 (by decide) [1, 2, 3, 4, 5, 0] rfl ?_
  refine j_aload_n B d_law_168 rfl 2 rfl ?_
  refine s_arg (m := 1) B hC (by omega) rfl rfl (by decide) d_law_169 d_law_170 d_law_172 d_law_173 d_law_174 ?_
  refine s_arg (m := 2) B hC (by omega) rfl rfl (by decide) d_law_175 d_law_176 d_law_178 d_law_179 d_law_180 ?_
  refine s_arg (m := 3) B hC (by omega) rfl rfl (by decide) d_law_181 d_law_182 d_law_184 d_law_185 d_law_186 ?_
  refine kl_callV (as := [.int (xs (8 * j + 1)), .int (xs (8 * j + 2)), .int (xs (8 * j + 3))]) (rest := []) (st1 := [.int z2]) B hM yf_M_draw w_895 w_896 w_897 rfl lH_133.choose_spec rfl (by decide) (by decide) ⟨by omega, by omega⟩ rfl rfl (Nat.le_of_ble_eq_true rfl) d_law_187 ?_
  change jW l b D Γ False _ _ 7 (lH b ta c2 r2 f2) _ 190 [.int z2]
  refine j_istore (L' := [(0, .ref sb), (1, .ref (b + 0)), (2, .ref (b + 133)), (3, .ref (b + 164)), (4, .int (nI (8 * j))), (5, .int k), (6, .int z2)]) B d_law_190 (by decide) [1, 2, 3, 4, 5, 6, 0] rfl ?_
  refine j_aload_n B d_law_192 rfl 2 rfl ?_
  refine kl_callV (as := []) (rest := []) (st1 := [.int r2.1]) B thr_l yf_M_thrown w_829 w_830 w_831 rfl lH_133.choose_spec rfl (by decide) (by decide) ⟨by omega, by omega⟩ rfl rfl (Nat.le_of_ble_eq_true rfl) d_law_193 ?_
  change jW l b D Γ False _ _ 7 (lH b ta c2 r2 f2) _ 196 [.int r2.1]
  refine j_iload B d_law_196 5 rfl ?_
  refine j_icmp_eq B d_law_198 rfl (fun _ => ?_) (fun h => absurd hk h)
  have h769 : jW l b D Γ False (cs + 1) (ss + 6) 7 (lH b ta c2 r2 f2) [(0, .ref sb), (1, .ref (b + 0)), (2, .ref (b + 133)), (3, .ref (b + 164)), (4, .int (nI (8 * j))), (5, .int k), (6, .int z2)] 220 [] := by
    refine j_goto B d_law_220 rfl ?_
    exact jW.sub [0, 1, 2, 3, 4] rfl (hn c2 r2 f2 (Inv_mono (Nat.le_add_right _ _) I2))
  refine j_iload B d_law_203 5 rfl ?_
  refine j_if_ne B d_law_205 rfl (fun _ => h769) (fun h0 => ?_)
  refine j_aload_n B d_law_208 rfl 3 rfl ?_
  refine j_iconst (v := nI 0) B d_law_209 (by decide) ?_
  refine j_laldN (t := 3) (k := 0) B rfl lH_o (by omega) d_law_210 ?_
  refine j_iload B d_law_211 6 rfl ?_
  refine j_i2l B d_law_213 rfl ?_
  refine j_lcmp B d_law_214 ?_
  exact j_if_eq B d_law_215 rfl (fun _ => h769) (fun h => absurd (lgc.mpr (hz h0)) h)
set_option maxRecDepth 100000 in
set_option maxHeartbeats 4000000 in
theorem lc_2 {l : Launch} {b : Nat} {D : va_G} {ta : Nat → ClassId} {Γ : jG} {sb Ln cs ss j : Nat} {xs : Nat → Int32} {c : CSt} {r : RSt} {f : Nat → Int64} (B : lwB l b D ta Γ) (hC : lwC b Γ sb Ln xs) (hst : l.stackTraces = false) (hj : 8 * j + 8 ≤ Ln) (hcs : cs + 1 ≤ 601024 ∧ ss + 6 ≤ 7293034) (I : Inv (60 * j) c r) (hn : ∀ (c2 : CSt) (r2 : RSt) (f2 : Nat → Int64), Inv (60 * j + 60) c2 r2 → jW l b D Γ False (cs + 1) (ss + 6) 7 (lH b ta c2 r2 f2) (lwL b sb j) 769 []) : jW l b D Γ False cs ss 7 (lH b ta c r f) (lwL b sb j) 223 [] := by
  obtain ⟨c2, k, z2, f2, r2, I2, hk, hf, hz, hW, hM⟩ := call_macro (l := l) (b := b) (D := D) (ta := ta) hst I (xs (8 * j + 1)) f
  refine j_aload_n B d_law_223 rfl 1 rfl ?_
  refine s_arg (m := 1) B hC (by omega) rfl rfl (by decide) d_law_224 d_law_225 d_law_227 d_law_228 d_law_229 ?_
  refine kl_callSW (as := [.ref (b + 0), .int (xs (8 * j + 1))]) (rest := []) (st1 := [.int k]) B hW w_672 w_0 (by decide) w_670 w_671 ((by decide +kernel : (parseMethodDescriptor ("(LWireField;I)I")).map (fun d => d.parameters.length) = some 2)) (by decide) (by decide) hcs rfl rfl (Nat.le_of_ble_eq_true rfl) d_law_230 ?_
  refine j_istore (L' := [(0, .ref sb), (1, .ref (b + 0)), (2, .ref (b + 133)), (3, .ref (b + 164)), (4, .int (nI (8 * j))), (5, .int k)]) B d_law_233 (by decide) [1, 2, 3, 4, 5, 0] rfl ?_
  refine j_aload_n B d_law_235 rfl 2 rfl ?_
  refine s_arg (m := 1) B hC (by omega) rfl rfl (by decide) d_law_236 d_law_237 d_law_239 d_law_240 d_law_241 ?_
  refine kl_callV (as := [.int (xs (8 * j + 1))]) (rest := []) (st1 := []) B hM yf_M_macro w_877 w_878 w_879 rfl lH_133.choose_spec rfl (by decide) (by decide) ⟨by omega, by omega⟩ rfl rfl (Nat.le_of_ble_eq_true rfl) d_law_242 ?_
  change jW l b D Γ False _ _ 7 (lH b ta c2 r2 f2) _ 245 []
  refine j_aload_n B d_law_245 rfl 2 rfl ?_
  refine kl_callV (as := []) (rest := []) (st1 := [.int r2.1]) B thr_l yf_M_thrown w_829 w_830 w_831 rfl lH_133.choose_spec rfl (by decide) (by decide) ⟨by omega, by omega⟩ rfl rfl (Nat.le_of_ble_eq_true rfl) d_law_246 ?_
  change jW l b D Γ False _ _ 7 (lH b ta c2 r2 f2) _ 249 [.int r2.1]
  refine j_iload B d_law_249 5 rfl ?_
  refine j_icmp_eq B d_law_251 rfl (fun _ => ?_) (fun h => absurd hk h)
  refine j_goto B d_law_256 rfl ?_
  exact jW.sub [0, 1, 2, 3, 4] rfl (hn c2 r2 f2 (Inv_mono (Nat.le_add_right _ _) I2))
set_option maxRecDepth 100000 in
set_option maxHeartbeats 4000000 in
theorem lc_3 {l : Launch} {b : Nat} {D : va_G} {ta : Nat → ClassId} {Γ : jG} {sb Ln cs ss j : Nat} {xs : Nat → Int32} {c : CSt} {r : RSt} {f : Nat → Int64} (B : lwB l b D ta Γ) (hC : lwC b Γ sb Ln xs) (hst : l.stackTraces = false) (hj : 8 * j + 8 ≤ Ln) (hcs : cs + 1 ≤ 601024 ∧ ss + 6 ≤ 7293034) (I : Inv (60 * j) c r) (hn : ∀ (c2 : CSt) (r2 : RSt) (f2 : Nat → Int64), Inv (60 * j + 60) c2 r2 → jW l b D Γ False (cs + 1) (ss + 6) 7 (lH b ta c2 r2 f2) (lwL b sb j) 769 []) : jW l b D Γ False cs ss 7 (lH b ta c r f) (lwL b sb j) 259 [] := by
  obtain ⟨c2, r2, z, I2, h1, h2⟩ := Pr_l (call_wipe (l := l) (b := b) (D := D) (ta := ta) I)
  refine j_aload_n B d_law_259 rfl 1 rfl ?_
  refine kl_callV (as := []) (rest := []) (st1 := []) B (h1 f) yf_WF_wipe w_214 w_215 w_216 rfl lH_0.choose_spec rfl (by decide) (by decide) ⟨by omega, by omega⟩ rfl rfl (Nat.le_of_ble_eq_true rfl) d_law_260 ?_
  change jW l b D Γ False _ _ 7 (lH b ta c2 r f) _ 263 []
  refine j_aload_n B d_law_263 rfl 2 rfl ?_
  refine kl_callV (as := []) (rest := []) (st1 := []) B (h2 f) yf_M_wipe w_873 w_874 w_875 rfl lH_133.choose_spec rfl (by decide) (by decide) ⟨by omega, by omega⟩ rfl rfl (Nat.le_of_ble_eq_true rfl) d_law_264 ?_
  change jW l b D Γ False _ _ 7 (lH b ta c2 r2 f) _ 267 []
  refine j_goto B d_law_267 rfl ?_
  exact jW.widen (Nat.le_add_right _ _) (Nat.le_add_right _ _) (hn c2 r2 f (Inv_mono (Nat.le_add_right _ _) I2))
set_option maxRecDepth 100000 in
set_option maxHeartbeats 4000000 in
theorem lc_4 {l : Launch} {b : Nat} {D : va_G} {ta : Nat → ClassId} {Γ : jG} {sb Ln cs ss j : Nat} {xs : Nat → Int32} {c : CSt} {r : RSt} {f : Nat → Int64} (B : lwB l b D ta Γ) (hC : lwC b Γ sb Ln xs) (hst : l.stackTraces = false) (hj : 8 * j + 8 ≤ Ln) (hcs : cs + 1 ≤ 601024 ∧ ss + 6 ≤ 7293034) (I : Inv (60 * j) c r) (hn : ∀ (c2 : CSt) (r2 : RSt) (f2 : Nat → Int64), Inv (60 * j + 60) c2 r2 → jW l b D Γ False (cs + 1) (ss + 6) 7 (lH b ta c2 r2 f2) (lwL b sb j) 769 []) : jW l b D Γ False cs ss 7 (lH b ta c r f) (lwL b sb j) 270 [] := by
  obtain ⟨c2, r2, z, I2, h1, h2⟩ := Pr_l (call_set (l := l) (b := b) (D := D) (ta := ta) I (xs (8 * j + 1)) (xs (8 * j + 2)) (xs (8 * j + 3)))
  refine j_aload_n B d_law_270 rfl 1 rfl ?_
  refine s_arg (m := 1) B hC (by omega) rfl rfl (by decide) d_law_271 d_law_272 d_law_274 d_law_275 d_law_276 ?_
  refine s_arg (m := 2) B hC (by omega) rfl rfl (by decide) d_law_277 d_law_278 d_law_280 d_law_281 d_law_282 ?_
  refine s_arg (m := 3) B hC (by omega) rfl rfl (by decide) d_law_283 d_law_284 d_law_286 d_law_287 d_law_288 ?_
  refine kl_callV (as := [.int (xs (8 * j + 1)), .int (xs (8 * j + 2)), .int (xs (8 * j + 3))]) (rest := []) (st1 := [.int z]) B (h1 f) yf_WF_set w_222 w_223 w_224 rfl lH_0.choose_spec rfl (by decide) (by decide) ⟨by omega, by omega⟩ rfl rfl (Nat.le_of_ble_eq_true rfl) d_law_289 ?_
  change jW l b D Γ False _ _ 7 (lH b ta c2 r f) _ 292 [.int z]
  refine j_aload_n B d_law_292 rfl 2 rfl ?_
  refine s_arg (m := 1) B hC (by omega) rfl rfl (by decide) d_law_293 d_law_294 d_law_296 d_law_297 d_law_298 ?_
  refine s_arg (m := 2) B hC (by omega) rfl rfl (by decide) d_law_299 d_law_300 d_law_302 d_law_303 d_law_304 ?_
  refine s_arg (m := 3) B hC (by omega) rfl rfl (by decide) d_law_305 d_law_306 d_law_308 d_law_309 d_law_310 ?_
  refine kl_callV (as := [.int (xs (8 * j + 1)), .int (xs (8 * j + 2)), .int (xs (8 * j + 3))]) (rest := [.int z]) (st1 := [.int z, .int z]) B (h2 f) yf_M_set w_948 w_949 w_950 rfl lH_133.choose_spec rfl (by decide) (by decide) ⟨by omega, by omega⟩ rfl rfl (Nat.le_of_ble_eq_true rfl) d_law_311 ?_
  change jW l b D Γ False _ _ 7 (lH b ta c2 r2 f) _ 314 [.int z, .int z]
  refine j_icmp_eq B d_law_314 rfl (fun _ => ?_) (fun h => absurd rfl h)
  exact jW.widen (Nat.le_add_right _ _) (Nat.le_add_right _ _) (hn c2 r2 f (Inv_mono (Nat.le_add_right _ _) I2))
set_option maxRecDepth 100000 in
set_option maxHeartbeats 4000000 in
theorem lc_5 {l : Launch} {b : Nat} {D : va_G} {ta : Nat → ClassId} {Γ : jG} {sb Ln cs ss j : Nat} {xs : Nat → Int32} {c : CSt} {r : RSt} {f : Nat → Int64} (B : lwB l b D ta Γ) (hC : lwC b Γ sb Ln xs) (hst : l.stackTraces = false) (hj : 8 * j + 8 ≤ Ln) (hcs : cs + 1 ≤ 601024 ∧ ss + 6 ≤ 7293034) (I : Inv (60 * j) c r) (hn : ∀ (c2 : CSt) (r2 : RSt) (f2 : Nat → Int64), Inv (60 * j + 60) c2 r2 → jW l b D Γ False (cs + 1) (ss + 6) 7 (lH b ta c2 r2 f2) (lwL b sb j) 769 []) : jW l b D Γ False cs ss 7 (lH b ta c r f) (lwL b sb j) 319 [] := by
  obtain ⟨c2, r2, z, I2, h1, h2⟩ := Pr_l (call_cell (l := l) (b := b) (D := D) (ta := ta) I (xs (8 * j + 1)) (xs (8 * j + 2)))
  refine j_aload_n B d_law_319 rfl 1 rfl ?_
  refine s_arg (m := 1) B hC (by omega) rfl rfl (by decide) d_law_320 d_law_321 d_law_323 d_law_324 d_law_325 ?_
  refine s_arg (m := 2) B hC (by omega) rfl rfl (by decide) d_law_326 d_law_327 d_law_329 d_law_330 d_law_331 ?_
  refine kl_callV (as := [.int (xs (8 * j + 1)), .int (xs (8 * j + 2))]) (rest := []) (st1 := [.int z]) B (h1 f) yf_WF_cell w_238 w_239 w_240 rfl lH_0.choose_spec rfl (by decide) (by decide) ⟨by omega, by omega⟩ rfl rfl (Nat.le_of_ble_eq_true rfl) d_law_332 ?_
  change jW l b D Γ False _ _ 7 (lH b ta c2 r f) _ 335 [.int z]
  refine j_aload_n B d_law_335 rfl 2 rfl ?_
  refine s_arg (m := 1) B hC (by omega) rfl rfl (by decide) d_law_336 d_law_337 d_law_339 d_law_340 d_law_341 ?_
  refine s_arg (m := 2) B hC (by omega) rfl rfl (by decide) d_law_342 d_law_343 d_law_345 d_law_346 d_law_347 ?_
  refine kl_callV (as := [.int (xs (8 * j + 1)), .int (xs (8 * j + 2))]) (rest := [.int z]) (st1 := [.int z, .int z]) B (h2 f) yf_M_cell w_956 w_957 w_958 rfl lH_133.choose_spec rfl (by decide) (by decide) ⟨by omega, by omega⟩ rfl rfl (Nat.le_of_ble_eq_true rfl) d_law_348 ?_
  change jW l b D Γ False _ _ 7 (lH b ta c2 r2 f) _ 351 [.int z, .int z]
  refine j_icmp_eq B d_law_351 rfl (fun _ => ?_) (fun h => absurd rfl h)
  exact jW.widen (Nat.le_add_right _ _) (Nat.le_add_right _ _) (hn c2 r2 f (Inv_mono (Nat.le_add_right _ _) I2))
set_option maxRecDepth 100000 in
set_option maxHeartbeats 4000000 in
theorem lc_6 {l : Launch} {b : Nat} {D : va_G} {ta : Nat → ClassId} {Γ : jG} {sb Ln cs ss j : Nat} {xs : Nat → Int32} {c : CSt} {r : RSt} {f : Nat → Int64} (B : lwB l b D ta Γ) (hC : lwC b Γ sb Ln xs) (hst : l.stackTraces = false) (hj : 8 * j + 8 ≤ Ln) (hcs : cs + 1 ≤ 601024 ∧ ss + 6 ≤ 7293034) (I : Inv (60 * j) c r) (hn : ∀ (c2 : CSt) (r2 : RSt) (f2 : Nat → Int64), Inv (60 * j + 60) c2 r2 → jW l b D Γ False (cs + 1) (ss + 6) 7 (lH b ta c2 r2 f2) (lwL b sb j) 769 []) : jW l b D Γ False cs ss 7 (lH b ta c r f) (lwL b sb j) 356 [] := by
  obtain ⟨c2, r2, z, I2, h1, h2⟩ := Pr_l (call_copy (l := l) (b := b) (D := D) (ta := ta) I (xs (8 * j + 1)) (xs (8 * j + 2)) (xs (8 * j + 3)) (xs (8 * j + 4)) (xs (8 * j + 5)) (xs (8 * j + 6)) (xs (8 * j + 7)))
  refine j_aload_n B d_law_356 rfl 1 rfl ?_
  refine s_arg (m := 1) B hC (by omega) rfl rfl (by decide) d_law_357 d_law_358 d_law_360 d_law_361 d_law_362 ?_
  refine s_arg (m := 2) B hC (by omega) rfl rfl (by decide) d_law_363 d_law_364 d_law_366 d_law_367 d_law_368 ?_
  refine s_arg (m := 3) B hC (by omega) rfl rfl (by decide) d_law_369 d_law_370 d_law_372 d_law_373 d_law_374 ?_
  refine s_arg (m := 4) B hC (by omega) rfl rfl (by decide) d_law_375 d_law_376 d_law_378 d_law_379 d_law_380 ?_
  refine s_arg (m := 5) B hC (by omega) rfl rfl (by decide) d_law_381 d_law_382 d_law_384 d_law_385 d_law_386 ?_
  refine s_argb (m := 6) B hC (by omega) rfl rfl (by decide) d_law_387 d_law_388 d_law_390 d_law_392 d_law_393 ?_
  refine s_argb (m := 7) B hC (by omega) rfl rfl (by decide) d_law_394 d_law_395 d_law_397 d_law_399 d_law_400 ?_
  refine kl_callV (as := [.int (xs (8 * j + 1)), .int (xs (8 * j + 2)), .int (xs (8 * j + 3)), .int (xs (8 * j + 4)), .int (xs (8 * j + 5)), .int (xs (8 * j + 6)), .int (xs (8 * j + 7))]) (rest := []) (st1 := [.int z]) B (h1 f) yf_WF_copy w_246 w_247 w_248 rfl lH_0.choose_spec rfl (by decide) (by decide) ⟨by omega, by omega⟩ rfl rfl (Nat.le_of_ble_eq_true rfl) d_law_401 ?_
  change jW l b D Γ False _ _ 7 (lH b ta c2 r f) _ 404 [.int z]
  refine j_aload_n B d_law_404 rfl 2 rfl ?_
  refine s_arg (m := 1) B hC (by omega) rfl rfl (by decide) d_law_405 d_law_406 d_law_408 d_law_409 d_law_410 ?_
  refine s_arg (m := 2) B hC (by omega) rfl rfl (by decide) d_law_411 d_law_412 d_law_414 d_law_415 d_law_416 ?_
  refine s_arg (m := 3) B hC (by omega) rfl rfl (by decide) d_law_417 d_law_418 d_law_420 d_law_421 d_law_422 ?_
  refine s_arg (m := 4) B hC (by omega) rfl rfl (by decide) d_law_423 d_law_424 d_law_426 d_law_427 d_law_428 ?_
  refine s_arg (m := 5) B hC (by omega) rfl rfl (by decide) d_law_429 d_law_430 d_law_432 d_law_433 d_law_434 ?_
  refine s_argb (m := 6) B hC (by omega) rfl rfl (by decide) d_law_435 d_law_436 d_law_438 d_law_440 d_law_441 ?_
  refine s_argb (m := 7) B hC (by omega) rfl rfl (by decide) d_law_442 d_law_443 d_law_445 d_law_447 d_law_448 ?_
  refine kl_callV (as := [.int (xs (8 * j + 1)), .int (xs (8 * j + 2)), .int (xs (8 * j + 3)), .int (xs (8 * j + 4)), .int (xs (8 * j + 5)), .int (xs (8 * j + 6)), .int (xs (8 * j + 7))]) (rest := [.int z]) (st1 := [.int z, .int z]) B (h2 f) yf_M_copy w_960 w_961 w_962 rfl lH_133.choose_spec rfl (by decide) (by decide) ⟨by omega, by omega⟩ rfl rfl (Nat.le_of_ble_eq_true rfl) d_law_449 ?_
  change jW l b D Γ False _ _ 7 (lH b ta c2 r2 f) _ 452 [.int z, .int z]
  refine j_icmp_eq B d_law_452 rfl (fun _ => ?_) (fun h => absurd rfl h)
  exact jW.widen (Nat.le_add_right _ _) (Nat.le_add_right _ _) (hn c2 r2 f (Inv_mono (Nat.le_add_right _ _) I2))
set_option maxRecDepth 100000 in
set_option maxHeartbeats 4000000 in
theorem lc_7 {l : Launch} {b : Nat} {D : va_G} {ta : Nat → ClassId} {Γ : jG} {sb Ln cs ss j : Nat} {xs : Nat → Int32} {c : CSt} {r : RSt} {f : Nat → Int64} (B : lwB l b D ta Γ) (hC : lwC b Γ sb Ln xs) (hst : l.stackTraces = false) (hj : 8 * j + 8 ≤ Ln) (hcs : cs + 1 ≤ 601024 ∧ ss + 6 ≤ 7293034) (I : Inv (60 * j) c r) (hn : ∀ (c2 : CSt) (r2 : RSt) (f2 : Nat → Int64), Inv (60 * j + 60) c2 r2 → jW l b D Γ False (cs + 1) (ss + 6) 7 (lH b ta c2 r2 f2) (lwL b sb j) 769 []) : jW l b D Γ False cs ss 7 (lH b ta c r f) (lwL b sb j) 457 [] := by
  obtain ⟨c2, r2, z, I2, h1, h2⟩ := Pr_l (call_source (l := l) (b := b) (D := D) (ta := ta) I (xs (8 * j + 1)) (xs (8 * j + 2)) (((xs (8 * j + 3)).toInt64 <<< ((nI 32).toInt64 &&& 63)) ||| ((xs (8 * j + 4)).toInt64 &&& 4294967295)) (xs (8 * j + 5)))
  refine j_aload_n B d_law_457 rfl 1 rfl ?_
  refine s_arg (m := 1) B hC (by omega) rfl rfl (by decide) d_law_458 d_law_459 d_law_461 d_law_462 d_law_463 ?_
  refine s_arg (m := 2) B hC (by omega) rfl rfl (by decide) d_law_464 d_law_465 d_law_467 d_law_468 d_law_469 ?_
  refine s_arg (m := 3) B hC (by omega) rfl rfl (by decide) d_law_470 d_law_471 d_law_473 d_law_474 d_law_475 ?_
  refine j_i2l B d_law_476 rfl ?_
  refine j_bipush (v := nI 32) B d_law_477 (by decide) ?_
  refine j_lshl B d_law_479 rfl ?_
  refine s_arg (m := 4) B hC (by omega) rfl rfl (by decide) d_law_480 d_law_481 d_law_483 d_law_484 d_law_485 ?_
  refine j_i2l B d_law_486 rfl ?_
  refine j_ldc2 B w_984 d_law_487 ?_
  refine j_land B d_law_490 ?_
  refine j_lor B d_law_491 ?_
  refine s_arg (m := 5) B hC (by omega) rfl rfl (by decide) d_law_492 d_law_493 d_law_495 d_law_496 d_law_497 ?_
  refine kl_callV (as := [.int (xs (8 * j + 1)), .int (xs (8 * j + 2)), .long (((xs (8 * j + 3)).toInt64 <<< ((nI 32).toInt64 &&& 63)) ||| ((xs (8 * j + 4)).toInt64 &&& 4294967295)), .int (xs (8 * j + 5))]) (rest := []) (st1 := [.int z]) B (h1 f) yf_WF_source w_270 w_271 w_272 rfl lH_0.choose_spec rfl (by decide) (by decide) ⟨by omega, by omega⟩ rfl rfl (Nat.le_of_ble_eq_true rfl) d_law_498 ?_
  change jW l b D Γ False _ _ 7 (lH b ta c2 r f) _ 501 [.int z]
  refine j_aload_n B d_law_501 rfl 2 rfl ?_
  refine s_arg (m := 1) B hC (by omega) rfl rfl (by decide) d_law_502 d_law_503 d_law_505 d_law_506 d_law_507 ?_
  refine s_arg (m := 2) B hC (by omega) rfl rfl (by decide) d_law_508 d_law_509 d_law_511 d_law_512 d_law_513 ?_
  refine s_arg (m := 3) B hC (by omega) rfl rfl (by decide) d_law_514 d_law_515 d_law_517 d_law_518 d_law_519 ?_
  refine j_i2l B d_law_520 rfl ?_
  refine j_bipush (v := nI 32) B d_law_521 (by decide) ?_
  refine j_lshl B d_law_523 rfl ?_
  refine s_arg (m := 4) B hC (by omega) rfl rfl (by decide) d_law_524 d_law_525 d_law_527 d_law_528 d_law_529 ?_
  refine j_i2l B d_law_530 rfl ?_
  refine j_ldc2 B w_984 d_law_531 ?_
  refine j_land B d_law_534 ?_
  refine j_lor B d_law_535 ?_
  refine s_arg (m := 5) B hC (by omega) rfl rfl (by decide) d_law_536 d_law_537 d_law_539 d_law_540 d_law_541 ?_
  refine kl_callV (as := [.int (xs (8 * j + 1)), .int (xs (8 * j + 2)), .long (((xs (8 * j + 3)).toInt64 <<< ((nI 32).toInt64 &&& 63)) ||| ((xs (8 * j + 4)).toInt64 &&& 4294967295)), .int (xs (8 * j + 5))]) (rest := [.int z]) (st1 := [.int z, .int z]) B (h2 f) yf_M_source w_964 w_965 w_966 rfl lH_133.choose_spec rfl (by decide) (by decide) ⟨by omega, by omega⟩ rfl rfl (Nat.le_of_ble_eq_true rfl) d_law_542 ?_
  change jW l b D Γ False _ _ 7 (lH b ta c2 r2 f) _ 545 [.int z, .int z]
  refine j_icmp_eq B d_law_545 rfl (fun _ => ?_) (fun h => absurd rfl h)
  exact jW.widen (Nat.le_add_right _ _) (Nat.le_add_right _ _) (hn c2 r2 f (Inv_mono (Nat.le_add_right _ _) I2))
set_option maxRecDepth 100000 in
set_option maxHeartbeats 4000000 in
theorem lc_8 {l : Launch} {b : Nat} {D : va_G} {ta : Nat → ClassId} {Γ : jG} {sb Ln cs ss j : Nat} {xs : Nat → Int32} {c : CSt} {r : RSt} {f : Nat → Int64} (B : lwB l b D ta Γ) (hC : lwC b Γ sb Ln xs) (hst : l.stackTraces = false) (hj : 8 * j + 8 ≤ Ln) (hcs : cs + 1 ≤ 601024 ∧ ss + 6 ≤ 7293034) (I : Inv (60 * j) c r) (hn : ∀ (c2 : CSt) (r2 : RSt) (f2 : Nat → Int64), Inv (60 * j + 60) c2 r2 → jW l b D Γ False (cs + 1) (ss + 6) 7 (lH b ta c2 r2 f2) (lwL b sb j) 769 []) : jW l b D Γ False cs ss 7 (lH b ta c r f) (lwL b sb j) 550 [] := by
  obtain ⟨c2, r2, z, I2, h1, h2⟩ := Pr_l (call_probe (l := l) (b := b) (D := D) (ta := ta) I (xs (8 * j + 1)) (xs (8 * j + 2)))
  refine j_aload_n B d_law_550 rfl 1 rfl ?_
  refine s_arg (m := 1) B hC (by omega) rfl rfl (by decide) d_law_551 d_law_552 d_law_554 d_law_555 d_law_556 ?_
  refine s_arg (m := 2) B hC (by omega) rfl rfl (by decide) d_law_557 d_law_558 d_law_560 d_law_561 d_law_562 ?_
  refine kl_callV (as := [.int (xs (8 * j + 1)), .int (xs (8 * j + 2))]) (rest := []) (st1 := [.int z]) B (h1 f) yf_WF_probe w_278 w_279 w_280 rfl lH_0.choose_spec rfl (by decide) (by decide) ⟨by omega, by omega⟩ rfl rfl (Nat.le_of_ble_eq_true rfl) d_law_563 ?_
  change jW l b D Γ False _ _ 7 (lH b ta c2 r f) _ 566 [.int z]
  refine j_aload_n B d_law_566 rfl 2 rfl ?_
  refine s_arg (m := 1) B hC (by omega) rfl rfl (by decide) d_law_567 d_law_568 d_law_570 d_law_571 d_law_572 ?_
  refine s_arg (m := 2) B hC (by omega) rfl rfl (by decide) d_law_573 d_law_574 d_law_576 d_law_577 d_law_578 ?_
  refine kl_callV (as := [.int (xs (8 * j + 1)), .int (xs (8 * j + 2))]) (rest := [.int z]) (st1 := [.int z, .int z]) B (h2 f) yf_M_probe w_968 w_969 w_970 rfl lH_133.choose_spec rfl (by decide) (by decide) ⟨by omega, by omega⟩ rfl rfl (Nat.le_of_ble_eq_true rfl) d_law_579 ?_
  change jW l b D Γ False _ _ 7 (lH b ta c2 r2 f) _ 582 [.int z, .int z]
  refine j_icmp_eq B d_law_582 rfl (fun _ => ?_) (fun h => absurd rfl h)
  exact jW.widen (Nat.le_add_right _ _) (Nat.le_add_right _ _) (hn c2 r2 f (Inv_mono (Nat.le_add_right _ _) I2))
set_option maxRecDepth 100000 in
set_option maxHeartbeats 4000000 in
theorem lc_9 {l : Launch} {b : Nat} {D : va_G} {ta : Nat → ClassId} {Γ : jG} {sb Ln cs ss j : Nat} {xs : Nat → Int32} {c : CSt} {r : RSt} {f : Nat → Int64} (B : lwB l b D ta Γ) (hC : lwC b Γ sb Ln xs) (hst : l.stackTraces = false) (hj : 8 * j + 8 ≤ Ln) (hcs : cs + 1 ≤ 601024 ∧ ss + 6 ≤ 7293034) (I : Inv (60 * j) c r) (hn : ∀ (c2 : CSt) (r2 : RSt) (f2 : Nat → Int64), Inv (60 * j + 60) c2 r2 → jW l b D Γ False (cs + 1) (ss + 6) 7 (lH b ta c2 r2 f2) (lwL b sb j) 769 []) : jW l b D Γ False cs ss 7 (lH b ta c r f) (lwL b sb j) 587 [] := by
  obtain ⟨c2, r2, z, I2, h1, h2⟩ := Pr_l (call_run (l := l) (b := b) (D := D) (ta := ta) I (by have := hC.2.2.2; omega) (xs (8 * j + 1)))
  refine j_aload_n B d_law_587 rfl 1 rfl ?_
  refine s_arg (m := 1) B hC (by omega) rfl rfl (by decide) d_law_588 d_law_589 d_law_591 d_law_592 d_law_593 ?_
  refine kl_callV (as := [.int (xs (8 * j + 1))]) (rest := []) (st1 := [.int z]) B (h1 f) yf_WF_run w_286 w_287 w_288 rfl lH_0.choose_spec rfl (by decide) (by decide) ⟨by omega, by omega⟩ rfl rfl (Nat.le_of_ble_eq_true rfl) d_law_594 ?_
  change jW l b D Γ False _ _ 7 (lH b ta c2 r f) _ 597 [.int z]
  refine j_aload_n B d_law_597 rfl 2 rfl ?_
  refine s_arg (m := 1) B hC (by omega) rfl rfl (by decide) d_law_598 d_law_599 d_law_601 d_law_602 d_law_603 ?_
  refine kl_callV (as := [.int (xs (8 * j + 1))]) (rest := [.int z]) (st1 := [.int z, .int z]) B (h2 f) yf_M_run w_833 w_834 w_835 rfl lH_133.choose_spec rfl (by decide) (by decide) ⟨by omega, by omega⟩ rfl rfl (Nat.le_of_ble_eq_true rfl) d_law_604 ?_
  change jW l b D Γ False _ _ 7 (lH b ta c2 r2 f) _ 607 [.int z, .int z]
  refine j_icmp_eq B d_law_607 rfl (fun _ => ?_) (fun h => absurd rfl h)
  exact jW.widen (Nat.le_add_right _ _) (Nat.le_add_right _ _) (hn c2 r2 f I2)
set_option maxRecDepth 100000 in
set_option maxHeartbeats 4000000 in
theorem lc_10 {l : Launch} {b : Nat} {D : va_G} {ta : Nat → ClassId} {Γ : jG} {sb Ln cs ss j : Nat} {xs : Nat → Int32} {c : CSt} {r : RSt} {f : Nat → Int64} (B : lwB l b D ta Γ) (hC : lwC b Γ sb Ln xs) (hst : l.stackTraces = false) (hj : 8 * j + 8 ≤ Ln) (hcs : cs + 1 ≤ 601024 ∧ ss + 6 ≤ 7293034) (I : Inv (60 * j) c r) (hn : ∀ (c2 : CSt) (r2 : RSt) (f2 : Nat → Int64), Inv (60 * j + 60) c2 r2 → jW l b D Γ False (cs + 1) (ss + 6) 7 (lH b ta c2 r2 f2) (lwL b sb j) 769 []) : jW l b D Γ False cs ss 7 (lH b ta c r f) (lwL b sb j) 612 [] := by
  obtain ⟨c2, r2, z, I2, h1, h2⟩ := Pr_l (call_back (l := l) (b := b) (D := D) (ta := ta) I (by have := hC.2.2.2; omega) (xs (8 * j + 1)))
  refine j_aload_n B d_law_612 rfl 1 rfl ?_
  refine s_arg (m := 1) B hC (by omega) rfl rfl (by decide) d_law_613 d_law_614 d_law_616 d_law_617 d_law_618 ?_
  refine kl_callV (as := [.int (xs (8 * j + 1))]) (rest := []) (st1 := [.int z]) B (h1 f) yf_WF_back w_341 w_342 w_343 rfl lH_0.choose_spec rfl (by decide) (by decide) ⟨by omega, by omega⟩ rfl rfl (Nat.le_of_ble_eq_true rfl) d_law_619 ?_
  change jW l b D Γ False _ _ 7 (lH b ta c2 r f) _ 622 [.int z]
  refine j_aload_n B d_law_622 rfl 2 rfl ?_
  refine s_arg (m := 1) B hC (by omega) rfl rfl (by decide) d_law_623 d_law_624 d_law_626 d_law_627 d_law_628 ?_
  refine kl_callV (as := [.int (xs (8 * j + 1))]) (rest := [.int z]) (st1 := [.int z, .int z]) B (h2 f) yf_M_back w_861 w_862 w_863 rfl lH_133.choose_spec rfl (by decide) (by decide) ⟨by omega, by omega⟩ rfl rfl (Nat.le_of_ble_eq_true rfl) d_law_629 ?_
  change jW l b D Γ False _ _ 7 (lH b ta c2 r2 f) _ 632 [.int z, .int z]
  refine j_icmp_eq B d_law_632 rfl (fun _ => ?_) (fun h => absurd rfl h)
  exact jW.widen (Nat.le_add_right _ _) (Nat.le_add_right _ _) (hn c2 r2 f (Inv_mono (Nat.le_add_right _ _) I2))
set_option maxRecDepth 100000 in
set_option maxHeartbeats 4000000 in
theorem lc_11 {l : Launch} {b : Nat} {D : va_G} {ta : Nat → ClassId} {Γ : jG} {sb Ln cs ss j : Nat} {xs : Nat → Int32} {c : CSt} {r : RSt} {f : Nat → Int64} (B : lwB l b D ta Γ) (hC : lwC b Γ sb Ln xs) (hst : l.stackTraces = false) (hj : 8 * j + 8 ≤ Ln) (hcs : cs + 1 ≤ 601024 ∧ ss + 6 ≤ 7293034) (I : Inv (60 * j) c r) (hn : ∀ (c2 : CSt) (r2 : RSt) (f2 : Nat → Int64), Inv (60 * j + 60) c2 r2 → jW l b D Γ False (cs + 1) (ss + 6) 7 (lH b ta c2 r2 f2) (lwL b sb j) 769 []) : jW l b D Γ False cs ss 7 (lH b ta c r f) (lwL b sb j) 637 [] := by
  obtain ⟨c2, r2, z, I2, h1, h2⟩ := Pr_l (call_period (l := l) (b := b) (D := D) (ta := ta) I (by have := hC.2.2.2; omega))
  refine j_aload_n B d_law_637 rfl 1 rfl ?_
  refine kl_callV (as := []) (rest := []) (st1 := [.int z]) B (h1 f) yf_WF_period w_345 w_346 w_347 rfl lH_0.choose_spec rfl (by decide) (by decide) ⟨by omega, by omega⟩ rfl rfl (Nat.le_of_ble_eq_true rfl) d_law_638 ?_
  change jW l b D Γ False _ _ 7 (lH b ta c2 r f) _ 641 [.int z]
  refine j_aload_n B d_law_641 rfl 2 rfl ?_
  refine kl_callV (as := []) (rest := [.int z]) (st1 := [.int z, .int z]) B (h2 f) yf_M_period w_865 w_866 w_867 rfl lH_133.choose_spec rfl (by decide) (by decide) ⟨by omega, by omega⟩ rfl rfl (Nat.le_of_ble_eq_true rfl) d_law_642 ?_
  change jW l b D Γ False _ _ 7 (lH b ta c2 r2 f) _ 645 [.int z, .int z]
  refine j_icmp_eq B d_law_645 rfl (fun _ => ?_) (fun h => absurd rfl h)
  exact jW.widen (Nat.le_add_right _ _) (Nat.le_add_right _ _) (hn c2 r2 f (Inv_mono (Nat.le_add_right _ _) I2))
set_option maxRecDepth 100000 in
set_option maxHeartbeats 4000000 in
theorem lc_12 {l : Launch} {b : Nat} {D : va_G} {ta : Nat → ClassId} {Γ : jG} {sb Ln cs ss j : Nat} {xs : Nat → Int32} {c : CSt} {r : RSt} {f : Nat → Int64} (B : lwB l b D ta Γ) (hC : lwC b Γ sb Ln xs) (hst : l.stackTraces = false) (hj : 8 * j + 8 ≤ Ln) (hcs : cs + 1 ≤ 601024 ∧ ss + 6 ≤ 7293034) (I : Inv (60 * j) c r) (hn : ∀ (c2 : CSt) (r2 : RSt) (f2 : Nat → Int64), Inv (60 * j + 60) c2 r2 → jW l b D Γ False (cs + 1) (ss + 6) 7 (lH b ta c2 r2 f2) (lwL b sb j) 769 []) : jW l b D Γ False cs ss 7 (lH b ta c r f) (lwL b sb j) 650 [] := by
  obtain ⟨c2, k, z2, f2, r2, I2, hk, hz, hW, hM⟩ := call_seen (l := l) (b := b) (D := D) (ta := ta) hst I (xs (8 * j + 1)) (xs (8 * j + 2)) f
  refine j_aload_n B d_law_650 rfl 1 rfl ?_
  refine s_arg (m := 1) B hC (by omega) rfl rfl (by decide) d_law_651 d_law_652 d_law_654 d_law_655 d_law_656 ?_
  refine s_arg (m := 2) B hC (by omega) rfl rfl (by decide) d_law_657 d_law_658 d_law_660 d_law_661 d_law_662 ?_
  refine j_aload_n B d_law_663 rfl 3 rfl ?_
  refine kl_callSW (as := [.ref (b + 0), .int (xs (8 * j + 1)), .int (xs (8 * j + 2)), .ref (b + 164)]) (rest := []) (st1 := [.int k]) B hW w_686 w_0 (by decide) w_684 w_685 ((by decide +kernel : (parseMethodDescriptor ("(LWireField;II[J)I")).map (fun d => d.parameters.length) = some 4)) (by decide) (by decide) hcs rfl rfl (Nat.le_of_ble_eq_true rfl) d_law_664 ?_
  refine j_istore (L' := [(0, .ref sb), (1, .ref (b + 0)), (2, .ref (b + 133)), (3, .ref (b + 164)), (4, .int (nI (8 * j))), (5, .int k)]) B d_law_667 (by decide) [1, 2, 3, 4, 5, 0] rfl ?_
  refine j_aload_n B d_law_669 rfl 2 rfl ?_
  refine s_arg (m := 1) B hC (by omega) rfl rfl (by decide) d_law_670 d_law_671 d_law_673 d_law_674 d_law_675 ?_
  refine s_arg (m := 2) B hC (by omega) rfl rfl (by decide) d_law_676 d_law_677 d_law_679 d_law_680 d_law_681 ?_
  refine kl_callV (as := [.int (xs (8 * j + 1)), .int (xs (8 * j + 2))]) (rest := []) (st1 := [.int z2]) B hM yf_M_seen w_972 w_973 w_974 rfl lH_133.choose_spec rfl (by decide) (by decide) ⟨by omega, by omega⟩ rfl rfl (Nat.le_of_ble_eq_true rfl) d_law_682 ?_
  change jW l b D Γ False _ _ 7 (lH b ta c2 r2 f2) _ 685 [.int z2]
  refine j_istore (L' := [(0, .ref sb), (1, .ref (b + 0)), (2, .ref (b + 133)), (3, .ref (b + 164)), (4, .int (nI (8 * j))), (5, .int k), (6, .int z2)]) B d_law_685 (by decide) [1, 2, 3, 4, 5, 6, 0] rfl ?_
  refine j_aload_n B d_law_687 rfl 2 rfl ?_
  refine kl_callV (as := []) (rest := []) (st1 := [.int r2.1]) B thr_l yf_M_thrown w_829 w_830 w_831 rfl lH_133.choose_spec rfl (by decide) (by decide) ⟨by omega, by omega⟩ rfl rfl (Nat.le_of_ble_eq_true rfl) d_law_688 ?_
  change jW l b D Γ False _ _ 7 (lH b ta c2 r2 f2) _ 691 [.int r2.1]
  refine j_iload B d_law_691 5 rfl ?_
  refine j_icmp_eq B d_law_693 rfl (fun _ => ?_) (fun h => absurd hk h)
  have h769 : jW l b D Γ False (cs + 1) (ss + 6) 7 (lH b ta c2 r2 f2) [(0, .ref sb), (1, .ref (b + 0)), (2, .ref (b + 133)), (3, .ref (b + 164)), (4, .int (nI (8 * j))), (5, .int k), (6, .int z2)] 715 [] := by
    refine j_goto B d_law_715 rfl ?_
    exact jW.sub [0, 1, 2, 3, 4] rfl (hn c2 r2 f2 (Inv_mono (Nat.le_add_right _ _) I2))
  refine j_iload B d_law_698 5 rfl ?_
  refine j_if_ne B d_law_700 rfl (fun _ => h769) (fun h0 => ?_)
  refine j_aload_n B d_law_703 rfl 3 rfl ?_
  refine j_iconst (v := nI 0) B d_law_704 (by decide) ?_
  refine j_laldN (t := 3) (k := 0) B rfl lH_o (by omega) d_law_705 ?_
  refine j_iload B d_law_706 6 rfl ?_
  refine j_i2l B d_law_708 rfl ?_
  refine j_lcmp B d_law_709 ?_
  exact j_if_eq B d_law_710 rfl (fun _ => h769) (fun h => absurd (lgc.mpr (hz h0)) h)
set_option maxRecDepth 100000 in
set_option maxHeartbeats 4000000 in
theorem lc_13 {l : Launch} {b : Nat} {D : va_G} {ta : Nat → ClassId} {Γ : jG} {sb Ln cs ss j : Nat} {xs : Nat → Int32} {c : CSt} {r : RSt} {f : Nat → Int64} (B : lwB l b D ta Γ) (hC : lwC b Γ sb Ln xs) (hst : l.stackTraces = false) (hj : 8 * j + 8 ≤ Ln) (hcs : cs + 1 ≤ 601024 ∧ ss + 6 ≤ 7293034) (I : Inv (60 * j) c r) (hn : ∀ (c2 : CSt) (r2 : RSt) (f2 : Nat → Int64), Inv (60 * j + 60) c2 r2 → jW l b D Γ False (cs + 1) (ss + 6) 7 (lH b ta c2 r2 f2) (lwL b sb j) 769 []) : jW l b D Γ False cs ss 7 (lH b ta c r f) (lwL b sb j) 718 [] := by
  obtain ⟨c2, r2, z, I2, h1, h2⟩ := Pr_l (call_record (l := l) (b := b) (D := D) (ta := ta) I (xs (8 * j + 1)))
  refine j_aload_n B d_law_718 rfl 1 rfl ?_
  refine s_arg (m := 1) B hC (by omega) rfl rfl (by decide) d_law_719 d_law_720 d_law_722 d_law_723 d_law_724 ?_
  refine kl_callV (as := [.int (xs (8 * j + 1))]) (rest := []) (st1 := [.long z]) B (h1 f) yf_WF_record w_353 w_354 w_355 rfl lH_0.choose_spec rfl (by decide) (by decide) ⟨by omega, by omega⟩ rfl rfl (Nat.le_of_ble_eq_true rfl) d_law_725 ?_
  change jW l b D Γ False _ _ 7 (lH b ta c2 r f) _ 728 [.long z]
  refine j_aload_n B d_law_728 rfl 2 rfl ?_
  refine s_arg (m := 1) B hC (by omega) rfl rfl (by decide) d_law_729 d_law_730 d_law_732 d_law_733 d_law_734 ?_
  refine kl_callV (as := [.int (xs (8 * j + 1))]) (rest := [.long z]) (st1 := [.long z, .long z]) B (h2 f) yf_M_record w_976 w_977 w_978 rfl lH_133.choose_spec rfl (by decide) (by decide) ⟨by omega, by omega⟩ rfl rfl (Nat.le_of_ble_eq_true rfl) d_law_735 ?_
  change jW l b D Γ False _ _ 7 (lH b ta c2 r2 f) _ 738 [.long z, .long z]
  refine j_lcmp B d_law_738 ?_
  refine j_if_eq B d_law_739 rfl (fun _ => ?_) (fun h => absurd (lgc.mpr rfl) h)
  exact jW.widen (Nat.le_add_right _ _) (Nat.le_add_right _ _) (hn c2 r2 f (Inv_mono (Nat.le_add_right _ _) I2))
set_option maxRecDepth 100000 in
set_option maxHeartbeats 4000000 in
theorem lc_14 {l : Launch} {b : Nat} {D : va_G} {ta : Nat → ClassId} {Γ : jG} {sb Ln cs ss j : Nat} {xs : Nat → Int32} {c : CSt} {r : RSt} {f : Nat → Int64} (B : lwB l b D ta Γ) (hC : lwC b Γ sb Ln xs) (hst : l.stackTraces = false) (hj : 8 * j + 8 ≤ Ln) (hcs : cs + 1 ≤ 601024 ∧ ss + 6 ≤ 7293034) (I : Inv (60 * j) c r) (hn : ∀ (c2 : CSt) (r2 : RSt) (f2 : Nat → Int64), Inv (60 * j + 60) c2 r2 → jW l b D Γ False (cs + 1) (ss + 6) 7 (lH b ta c2 r2 f2) (lwL b sb j) 769 []) : jW l b D Γ False cs ss 7 (lH b ta c r f) (lwL b sb j) 744 [] := by
  obtain ⟨c2, r2, z, I2, h1, h2⟩ := Pr_l (call_look (l := l) (b := b) (D := D) (ta := ta) I (xs (8 * j + 1)))
  refine j_aload_n B d_law_744 rfl 1 rfl ?_
  refine s_arg (m := 1) B hC (by omega) rfl rfl (by decide) d_law_745 d_law_746 d_law_748 d_law_749 d_law_750 ?_
  refine kl_callV (as := [.int (xs (8 * j + 1))]) (rest := []) (st1 := [.int z]) B (h1 f) yf_WF_look w_357 w_358 w_359 rfl lH_0.choose_spec rfl (by decide) (by decide) ⟨by omega, by omega⟩ rfl rfl (Nat.le_of_ble_eq_true rfl) d_law_751 ?_
  change jW l b D Γ False _ _ 7 (lH b ta c2 r f) _ 754 [.int z]
  refine j_aload_n B d_law_754 rfl 2 rfl ?_
  refine s_arg (m := 1) B hC (by omega) rfl rfl (by decide) d_law_755 d_law_756 d_law_758 d_law_759 d_law_760 ?_
  refine kl_callV (as := [.int (xs (8 * j + 1))]) (rest := [.int z]) (st1 := [.int z, .int z]) B (h2 f) yf_M_look w_980 w_981 w_982 rfl lH_133.choose_spec rfl (by decide) (by decide) ⟨by omega, by omega⟩ rfl rfl (Nat.le_of_ble_eq_true rfl) d_law_761 ?_
  change jW l b D Γ False _ _ 7 (lH b ta c2 r2 f) _ 764 [.int z, .int z]
  refine j_icmp_eq B d_law_764 rfl (fun _ => ?_) (fun h => absurd rfl h)
  exact jW.widen (Nat.le_add_right _ _) (Nat.le_add_right _ _) (hn c2 r2 f (Inv_mono (Nat.le_add_right _ _) I2))
