
/-! the law's heap: class, reference, the array of one long -/
def oC (ta : Nat → ClassId) (f : Nat → Int64) : va_E := .inl (ta 3, 1, .inr (.inl f))
def lH (b : Nat) (ta : Nat → ClassId) (c : CSt) (r : RSt) (f : Nat → Int64) : List va_E := cH b ta c (mH b ta r [oC ta f])
theorem lH_e {b : Nat} {ta : Nat → ClassId} {c : CSt} {r : RSt} {f : Nat → Int64} : lH b ta c r f = cH b ta c [] ++ mH b ta r [oC ta f] := cH_app
theorem lH_o {b : Nat} {ta : Nat → ClassId} {c : CSt} {r : RSt} {f : Nat → Int64} : (lH b ta c r f)[164]? = some (.inl (ta 3, 1, .inr (.inl f))) := by
  rw [lH_e]
  exact rG (ix := 31) cH_len rfl
theorem lH_so {b : Nat} {ta : Nat → ClassId} {c : CSt} {r : RSt} {f g : Nat → Int64} : (lH b ta c r f).set 164 (.inl (ta 3, 1, .inr (.inl g))) = lH b ta c r g := by
  rw [lH_e, lH_e]
  exact rT (ix := 31) cH_len rfl
abbrev b_Lw_draw : ByteArray := method_3_code
theorem d_Lw_draw_0 : decode b_Lw_draw 0 = .ok (.aload 4, 2) := by decide +kernel
theorem d_Lw_draw_2 : decode b_Lw_draw 2 = .ok (.iconst 0, 1) := by decide +kernel
theorem d_Lw_draw_3 : decode b_Lw_draw 3 = .ok (.aload_n 0, 1) := by decide +kernel
theorem d_Lw_draw_4 : decode b_Lw_draw 4 = .ok (.iload_n 1, 1) := by decide +kernel
theorem d_Lw_draw_5 : decode b_Lw_draw 5 = .ok (.iload_n 2, 1) := by decide +kernel
theorem d_Lw_draw_6 : decode b_Lw_draw 6 = .ok (.iload_n 3, 1) := by decide +kernel
theorem d_Lw_draw_7 : decode b_Lw_draw 7 = .ok (.invokevirtual 7, 3) := by decide +kernel
theorem d_Lw_draw_10 : decode b_Lw_draw 10 = .ok (.i2l, 1) := by decide +kernel
theorem d_Lw_draw_11 : decode b_Lw_draw 11 = .ok (.lastore, 1) := by decide +kernel
theorem d_Lw_draw_12 : decode b_Lw_draw 12 = .ok (.goto 15, 3) := by decide +kernel
theorem d_Lw_draw_15 : decode b_Lw_draw 15 = .ok (.astore 5, 2) := by decide +kernel
theorem d_Lw_draw_17 : decode b_Lw_draw 17 = .ok (.iconst 1, 1) := by decide +kernel
theorem d_Lw_draw_18 : decode b_Lw_draw 18 = .ok (.ireturn, 1) := by decide +kernel
theorem d_Lw_draw_19 : decode b_Lw_draw 19 = .ok (.astore 5, 2) := by decide +kernel
theorem d_Lw_draw_21 : decode b_Lw_draw 21 = .ok (.iconst 2, 1) := by decide +kernel
theorem d_Lw_draw_22 : decode b_Lw_draw 22 = .ok (.ireturn, 1) := by decide +kernel
theorem d_Lw_draw_23 : decode b_Lw_draw 23 = .ok (.astore 5, 2) := by decide +kernel
theorem d_Lw_draw_25 : decode b_Lw_draw 25 = .ok (.iconst 3, 1) := by decide +kernel
theorem d_Lw_draw_26 : decode b_Lw_draw 26 = .ok (.ireturn, 1) := by decide +kernel
theorem d_Lw_draw_27 : decode b_Lw_draw 27 = .ok (.iconst 0, 1) := by decide +kernel
theorem d_Lw_draw_28 : decode b_Lw_draw 28 = .ok (.ireturn, 1) := by decide +kernel
abbrev b_Lw_macro : ByteArray := method_4_code
theorem d_Lw_macro_0 : decode b_Lw_macro 0 = .ok (.aload_n 0, 1) := by decide +kernel
theorem d_Lw_macro_1 : decode b_Lw_macro 1 = .ok (.iload_n 1, 1) := by decide +kernel
theorem d_Lw_macro_2 : decode b_Lw_macro 2 = .ok (.invokevirtual 19, 3) := by decide +kernel
theorem d_Lw_macro_5 : decode b_Lw_macro 5 = .ok (.goto 9, 3) := by decide +kernel
theorem d_Lw_macro_8 : decode b_Lw_macro 8 = .ok (.astore_n 2, 1) := by decide +kernel
theorem d_Lw_macro_9 : decode b_Lw_macro 9 = .ok (.iconst 1, 1) := by decide +kernel
theorem d_Lw_macro_10 : decode b_Lw_macro 10 = .ok (.ireturn, 1) := by decide +kernel
theorem d_Lw_macro_11 : decode b_Lw_macro 11 = .ok (.astore_n 2, 1) := by decide +kernel
theorem d_Lw_macro_12 : decode b_Lw_macro 12 = .ok (.iconst 2, 1) := by decide +kernel
theorem d_Lw_macro_13 : decode b_Lw_macro 13 = .ok (.ireturn, 1) := by decide +kernel
theorem d_Lw_macro_14 : decode b_Lw_macro 14 = .ok (.iconst 0, 1) := by decide +kernel
theorem d_Lw_macro_15 : decode b_Lw_macro 15 = .ok (.ireturn, 1) := by decide +kernel
abbrev b_Lw_seen : ByteArray := method_5_code
theorem d_Lw_seen_0 : decode b_Lw_seen 0 = .ok (.aload_n 3, 1) := by decide +kernel
theorem d_Lw_seen_1 : decode b_Lw_seen 1 = .ok (.iconst 0, 1) := by decide +kernel
theorem d_Lw_seen_2 : decode b_Lw_seen 2 = .ok (.aload_n 0, 1) := by decide +kernel
theorem d_Lw_seen_3 : decode b_Lw_seen 3 = .ok (.iload_n 1, 1) := by decide +kernel
theorem d_Lw_seen_4 : decode b_Lw_seen 4 = .ok (.iload_n 2, 1) := by decide +kernel
theorem d_Lw_seen_5 : decode b_Lw_seen 5 = .ok (.invokevirtual 23, 3) := by decide +kernel
theorem d_Lw_seen_8 : decode b_Lw_seen 8 = .ok (.i2l, 1) := by decide +kernel
theorem d_Lw_seen_9 : decode b_Lw_seen 9 = .ok (.lastore, 1) := by decide +kernel
theorem d_Lw_seen_10 : decode b_Lw_seen 10 = .ok (.goto 7, 3) := by decide +kernel
theorem d_Lw_seen_13 : decode b_Lw_seen 13 = .ok (.astore 4, 2) := by decide +kernel
theorem d_Lw_seen_15 : decode b_Lw_seen 15 = .ok (.iconst 1, 1) := by decide +kernel
theorem d_Lw_seen_16 : decode b_Lw_seen 16 = .ok (.ireturn, 1) := by decide +kernel
theorem d_Lw_seen_17 : decode b_Lw_seen 17 = .ok (.iconst 0, 1) := by decide +kernel
theorem d_Lw_seen_18 : decode b_Lw_seen 18 = .ok (.ireturn, 1) := by decide +kernel
set_option maxRecDepth 100000 in
set_option maxHeartbeats 4000000 in
theorem L_draw_0 {l : Launch} {b : Nat} {D : va_G} {ta : Nat → ClassId} {c c2 : CSt} {r : RSt} {f : Nat → Int64} {p0 p1 p2 : Int32} {z : Int32} (hd : ∀ X, jC l b D ta False y_WF_draw b_WF_draw 4 (some .int) (rL 88) [.ref (b + 0), .int p0, .int p1, .int p2] (cH b ta c X) (some (.int z)) (cH b ta c2 X)) : jCW l b D ta y_Lw_draw b_Lw_draw 6 (some .int) [(0, 12, 15, 13), (0, 12, 19, 15), (0, 12, 23, 17)] (rK 89 1 6) [.ref (b + 0), .int p0, .int p1, .int p2, .ref (b + 164)] (lH b ta c r f) (some (.int 0)) (lH b ta c2 r (vp_updL f 0 z.toInt64)) := by
  refine jCW_of (own := "WireFieldLaw") (by decide +kernel) (Nat.le_of_ble_eq_true rfl) rfl (fun Γ B htb K => ?_)
  change jW l b D Γ False 0 0 6 (lH b ta c r f) [(0, .ref (b + 0)), (1, .int p0), (2, .int p1), (3, .int p2), (4, .ref (b + 164))] 0 []
  refine j_aload B d_Lw_draw_0 4 rfl ?_
  refine j_iconst (v := nI 0) B d_Lw_draw_2 (by decide) ?_
  refine j_aload_n B d_Lw_draw_3 rfl 0 rfl ?_
  refine j_iload_n B d_Lw_draw_4 rfl 1 rfl ?_
  refine j_iload_n B d_Lw_draw_5 rfl 2 rfl ?_
  refine j_iload_n B d_Lw_draw_6 rfl 3 rfl ?_
  refine kx_callV (as := [.int p0, .int p1, .int p2]) (rest := [.int (nI 0), .ref (b + 164)]) (st1 := [.int z, .int (nI 0), .ref (b + 164)]) B (hd _) yf_WF_draw w_367 w_368 w_369 rfl rfl rfl (by decide) (by decide) rfl rfl (Nat.le_of_ble_eq_true rfl) d_Lw_draw_7 ?_
  change jW l b D Γ False 0 0 6 (lH b ta c2 r f) [(0, .ref (b + 0)), (1, .int p0), (2, .int p1), (3, .int p2), (4, .ref (b + 164))] 10 [.int z, .int (nI 0), .ref (b + 164)]
  refine j_i2l B d_Lw_draw_10 rfl ?_
  refine j_lastN B not_false rfl lH_o (by omega) d_Lw_draw_11 ?_
  rw [lH_so]
  refine j_goto B d_Lw_draw_12 rfl ?_
  refine j_iconst (v := 0) B d_Lw_draw_27 (by decide) ?_
  refine jW.widen (cs' := 1) (ss' := 6) (by decide) (by decide) ?_
  exact j_iret B K rfl rfl d_Lw_draw_28
set_option maxRecDepth 100000 in
set_option maxHeartbeats 4000000 in
theorem L_draw_1 {l : Launch} {b : Nat} {D : va_G} {ta : Nat → ClassId} {c c2 : CSt} {r : RSt} {f : Nat → Int64} {p0 p1 p2 : Int32} (hx : ∀ X, jTh l b D ta y_WF_draw b_WF_draw 4 (some .int) (rK 88 1 6) [.ref (b + 0), .int p0, .int p1, .int p2] (cH b ta c X) "java/lang/IndexOutOfBoundsException" (cH b ta c2 X)) : jCW l b D ta y_Lw_draw b_Lw_draw 6 (some .int) [(0, 12, 15, 13), (0, 12, 19, 15), (0, 12, 23, 17)] (rK 89 1 6) [.ref (b + 0), .int p0, .int p1, .int p2, .ref (b + 164)] (lH b ta c r f) (some (.int 1)) (lH b ta c2 r f) := by
  refine jCW_of (own := "WireFieldLaw") (by decide +kernel) (Nat.le_of_ble_eq_true rfl) rfl (fun Γ B htb K => ?_)
  change jW l b D Γ False 0 0 6 (lH b ta c r f) [(0, .ref (b + 0)), (1, .int p0), (2, .int p1), (3, .int p2), (4, .ref (b + 164))] 0 []
  refine j_aload B d_Lw_draw_0 4 rfl ?_
  refine j_iconst (v := nI 0) B d_Lw_draw_2 (by decide) ?_
  refine j_aload_n B d_Lw_draw_3 rfl 0 rfl ?_
  refine j_iload_n B d_Lw_draw_4 rfl 1 rfl ?_
  refine j_iload_n B d_Lw_draw_5 rfl 2 rfl ?_
  refine j_iload_n B d_Lw_draw_6 rfl 3 rfl ?_
  refine j_callT (as := [.int p0, .int p1, .int p2]) (rest := [.int (nI 0), .ref (b + 164)]) B (hx _) yf_WF_draw w_367 w_368 w_369 rfl rfl rfl (by decide) (by decide) rfl (Nat.le_of_ble_eq_true rfl) d_Lw_draw_7 (pre := []) (x := ({ startPc := 0, endPc := 12, handlerPc := 15, catchType := 13 } : ExceptionTableEntry)) (suf := [({ startPc := 0, endPc := 12, handlerPc := 19, catchType := 15 } : ExceptionTableEntry), ({ startPc := 0, endPc := 12, handlerPc := 23, catchType := 17 } : ExceptionTableEntry)]) (htb.trans rfl) (fun z hz => nomatch hz) rfl (by decide) w_364 (by decide) (fun q9 => ?_)
  change jW l b D Γ False 1 6 6 (lH b ta c2 r f) [(0, .ref (b + 0)), (1, .int p0), (2, .int p1), (3, .int p2), (4, .ref (b + 164))] 15 [.ref q9]
  refine j_astore (L' := [(0, .ref (b + 0)), (1, .int p0), (2, .int p1), (3, .int p2), (4, .ref (b + 164)), (5, .ref q9)]) B d_Lw_draw_15 (by decide) [1, 2, 3, 4, 5, 0] rfl ?_
  refine j_iconst (v := 1) B d_Lw_draw_17 (by decide) ?_
  exact j_iret B K rfl rfl d_Lw_draw_18
set_option maxRecDepth 100000 in
set_option maxHeartbeats 4000000 in
theorem L_draw_2 {l : Launch} {b : Nat} {D : va_G} {ta : Nat → ClassId} {c c2 : CSt} {r : RSt} {f : Nat → Int64} {p0 p1 p2 : Int32} (hx : ∀ X, jTh l b D ta y_WF_draw b_WF_draw 4 (some .int) (rK 88 1 6) [.ref (b + 0), .int p0, .int p1, .int p2] (cH b ta c X) "java/lang/IllegalArgumentException" (cH b ta c2 X)) : jCW l b D ta y_Lw_draw b_Lw_draw 6 (some .int) [(0, 12, 15, 13), (0, 12, 19, 15), (0, 12, 23, 17)] (rK 89 1 6) [.ref (b + 0), .int p0, .int p1, .int p2, .ref (b + 164)] (lH b ta c r f) (some (.int 2)) (lH b ta c2 r f) := by
  refine jCW_of (own := "WireFieldLaw") (by decide +kernel) (Nat.le_of_ble_eq_true rfl) rfl (fun Γ B htb K => ?_)
  change jW l b D Γ False 0 0 6 (lH b ta c r f) [(0, .ref (b + 0)), (1, .int p0), (2, .int p1), (3, .int p2), (4, .ref (b + 164))] 0 []
  refine j_aload B d_Lw_draw_0 4 rfl ?_
  refine j_iconst (v := nI 0) B d_Lw_draw_2 (by decide) ?_
  refine j_aload_n B d_Lw_draw_3 rfl 0 rfl ?_
  refine j_iload_n B d_Lw_draw_4 rfl 1 rfl ?_
  refine j_iload_n B d_Lw_draw_5 rfl 2 rfl ?_
  refine j_iload_n B d_Lw_draw_6 rfl 3 rfl ?_
  refine j_callT (as := [.int p0, .int p1, .int p2]) (rest := [.int (nI 0), .ref (b + 164)]) B (hx _) yf_WF_draw w_367 w_368 w_369 rfl rfl rfl (by decide) (by decide) rfl (Nat.le_of_ble_eq_true rfl) d_Lw_draw_7 (pre := [({ startPc := 0, endPc := 12, handlerPc := 15, catchType := 13 } : ExceptionTableEntry)]) (x := ({ startPc := 0, endPc := 12, handlerPc := 19, catchType := 15 } : ExceptionTableEntry)) (suf := [({ startPc := 0, endPc := 12, handlerPc := 23, catchType := 17 } : ExceptionTableEntry)]) (htb.trans rfl) (fun z hz => by
      rcases List.mem_cons.mp hz with h9 | h9
      · subst h9; exact ⟨by decide, "java/lang/IndexOutOfBoundsException", w_364, by decide⟩
      · exact nomatch h9) rfl (by decide) w_365 (by decide) (fun q9 => ?_)
  change jW l b D Γ False 1 6 6 (lH b ta c2 r f) [(0, .ref (b + 0)), (1, .int p0), (2, .int p1), (3, .int p2), (4, .ref (b + 164))] 19 [.ref q9]
  refine j_astore (L' := [(0, .ref (b + 0)), (1, .int p0), (2, .int p1), (3, .int p2), (4, .ref (b + 164)), (5, .ref q9)]) B d_Lw_draw_19 (by decide) [1, 2, 3, 4, 5, 0] rfl ?_
  refine j_iconst (v := 2) B d_Lw_draw_21 (by decide) ?_
  exact j_iret B K rfl rfl d_Lw_draw_22
set_option maxRecDepth 100000 in
set_option maxHeartbeats 4000000 in
theorem L_draw_3 {l : Launch} {b : Nat} {D : va_G} {ta : Nat → ClassId} {c c2 : CSt} {r : RSt} {f : Nat → Int64} {p0 p1 p2 : Int32} (hx : ∀ X, jTh l b D ta y_WF_draw b_WF_draw 4 (some .int) (rK 88 1 6) [.ref (b + 0), .int p0, .int p1, .int p2] (cH b ta c X) "java/lang/UnsupportedOperationException" (cH b ta c2 X)) : jCW l b D ta y_Lw_draw b_Lw_draw 6 (some .int) [(0, 12, 15, 13), (0, 12, 19, 15), (0, 12, 23, 17)] (rK 89 1 6) [.ref (b + 0), .int p0, .int p1, .int p2, .ref (b + 164)] (lH b ta c r f) (some (.int 3)) (lH b ta c2 r f) := by
  refine jCW_of (own := "WireFieldLaw") (by decide +kernel) (Nat.le_of_ble_eq_true rfl) rfl (fun Γ B htb K => ?_)
  change jW l b D Γ False 0 0 6 (lH b ta c r f) [(0, .ref (b + 0)), (1, .int p0), (2, .int p1), (3, .int p2), (4, .ref (b + 164))] 0 []
  refine j_aload B d_Lw_draw_0 4 rfl ?_
  refine j_iconst (v := nI 0) B d_Lw_draw_2 (by decide) ?_
  refine j_aload_n B d_Lw_draw_3 rfl 0 rfl ?_
  refine j_iload_n B d_Lw_draw_4 rfl 1 rfl ?_
  refine j_iload_n B d_Lw_draw_5 rfl 2 rfl ?_
  refine j_iload_n B d_Lw_draw_6 rfl 3 rfl ?_
  refine j_callT (as := [.int p0, .int p1, .int p2]) (rest := [.int (nI 0), .ref (b + 164)]) B (hx _) yf_WF_draw w_367 w_368 w_369 rfl rfl rfl (by decide) (by decide) rfl (Nat.le_of_ble_eq_true rfl) d_Lw_draw_7 (pre := [({ startPc := 0, endPc := 12, handlerPc := 15, catchType := 13 } : ExceptionTableEntry), ({ startPc := 0, endPc := 12, handlerPc := 19, catchType := 15 } : ExceptionTableEntry)]) (x := ({ startPc := 0, endPc := 12, handlerPc := 23, catchType := 17 } : ExceptionTableEntry)) (suf := []) (htb.trans rfl) (fun z hz => by
      rcases List.mem_cons.mp hz with h9 | h9
      · subst h9; exact ⟨by decide, "java/lang/IndexOutOfBoundsException", w_364, by decide⟩
      · rcases List.mem_cons.mp h9 with h8 | h8
        · subst h8; exact ⟨by decide, "java/lang/IllegalArgumentException", w_365, by decide⟩
        · exact nomatch h8) rfl (by decide) w_366 (by decide) (fun q9 => ?_)
  change jW l b D Γ False 1 6 6 (lH b ta c2 r f) [(0, .ref (b + 0)), (1, .int p0), (2, .int p1), (3, .int p2), (4, .ref (b + 164))] 23 [.ref q9]
  refine j_astore (L' := [(0, .ref (b + 0)), (1, .int p0), (2, .int p1), (3, .int p2), (4, .ref (b + 164)), (5, .ref q9)]) B d_Lw_draw_23 (by decide) [1, 2, 3, 4, 5, 0] rfl ?_
  refine j_iconst (v := 3) B d_Lw_draw_25 (by decide) ?_
  exact j_iret B K rfl rfl d_Lw_draw_26
set_option maxRecDepth 100000 in
set_option maxHeartbeats 4000000 in
theorem L_macro_0 {l : Launch} {b : Nat} {D : va_G} {ta : Nat → ClassId} {c c2 : CSt} {r : RSt} {f : Nat → Int64} {p0 : Int32} (hd : ∀ X, jC l b D ta False y_WF_macro b_WF_macro 2 none (rL 29) [.ref (b + 0), .int p0] (cH b ta c X) none (cH b ta c2 X)) : jCW l b D ta y_Lw_macro b_Lw_macro 3 (some .int) [(0, 5, 8, 13), (0, 5, 11, 15)] (rK 30 1 6) [.ref (b + 0), .int p0] (lH b ta c r f) (some (.int 0)) (lH b ta c2 r f) := by
  refine jCW_of (own := "WireFieldLaw") (by decide +kernel) (Nat.le_of_ble_eq_true rfl) rfl (fun Γ B htb K => ?_)
  change jW l b D Γ False 0 0 3 (lH b ta c r f) [(0, .ref (b + 0)), (1, .int p0)] 0 []
  refine j_aload_n B d_Lw_macro_0 rfl 0 rfl ?_
  refine j_iload_n B d_Lw_macro_1 rfl 1 rfl ?_
  refine kx_callV (as := [.int p0]) (rest := []) (st1 := []) B (hd _) yf_WF_macro w_673 w_674 w_675 rfl rfl rfl (by decide) (by decide) rfl rfl (Nat.le_of_ble_eq_true rfl) d_Lw_macro_2 ?_
  change jW l b D Γ False 0 0 3 (lH b ta c2 r f) [(0, .ref (b + 0)), (1, .int p0)] 5 []
  refine j_goto B d_Lw_macro_5 rfl ?_
  refine j_iconst (v := 0) B d_Lw_macro_14 (by decide) ?_
  refine jW.widen (cs' := 1) (ss' := 6) (by decide) (by decide) ?_
  exact j_iret B K rfl rfl d_Lw_macro_15
set_option maxRecDepth 100000 in
set_option maxHeartbeats 4000000 in
theorem L_macro_1 {l : Launch} {b : Nat} {D : va_G} {ta : Nat → ClassId} {c c2 : CSt} {r : RSt} {f : Nat → Int64} {p0 : Int32} (hx : ∀ X, jTh l b D ta y_WF_macro b_WF_macro 2 none (rK 29 1 6) [.ref (b + 0), .int p0] (cH b ta c X) "java/lang/IndexOutOfBoundsException" (cH b ta c2 X)) : jCW l b D ta y_Lw_macro b_Lw_macro 3 (some .int) [(0, 5, 8, 13), (0, 5, 11, 15)] (rK 30 1 6) [.ref (b + 0), .int p0] (lH b ta c r f) (some (.int 1)) (lH b ta c2 r f) := by
  refine jCW_of (own := "WireFieldLaw") (by decide +kernel) (Nat.le_of_ble_eq_true rfl) rfl (fun Γ B htb K => ?_)
  change jW l b D Γ False 0 0 3 (lH b ta c r f) [(0, .ref (b + 0)), (1, .int p0)] 0 []
  refine j_aload_n B d_Lw_macro_0 rfl 0 rfl ?_
  refine j_iload_n B d_Lw_macro_1 rfl 1 rfl ?_
  refine j_callT (as := [.int p0]) (rest := []) B (hx _) yf_WF_macro w_673 w_674 w_675 rfl rfl rfl (by decide) (by decide) rfl (Nat.le_of_ble_eq_true rfl) d_Lw_macro_2 (pre := []) (x := ({ startPc := 0, endPc := 5, handlerPc := 8, catchType := 13 } : ExceptionTableEntry)) (suf := [({ startPc := 0, endPc := 5, handlerPc := 11, catchType := 15 } : ExceptionTableEntry)]) (htb.trans rfl) (fun z hz => nomatch hz) rfl (by decide) w_364 (by decide) (fun q9 => ?_)
  change jW l b D Γ False 1 6 3 (lH b ta c2 r f) [(0, .ref (b + 0)), (1, .int p0)] 8 [.ref q9]
  refine j_astore_n (L' := [(0, .ref (b + 0)), (1, .int p0), (2, .ref q9)]) B d_Lw_macro_8 rfl (by decide) [1, 2, 0] rfl ?_
  refine j_iconst (v := 1) B d_Lw_macro_9 (by decide) ?_
  exact j_iret B K rfl rfl d_Lw_macro_10
set_option maxRecDepth 100000 in
set_option maxHeartbeats 4000000 in
theorem L_macro_2 {l : Launch} {b : Nat} {D : va_G} {ta : Nat → ClassId} {c c2 : CSt} {r : RSt} {f : Nat → Int64} {p0 : Int32} (hx : ∀ X, jTh l b D ta y_WF_macro b_WF_macro 2 none (rK 29 1 6) [.ref (b + 0), .int p0] (cH b ta c X) "java/lang/IllegalArgumentException" (cH b ta c2 X)) : jCW l b D ta y_Lw_macro b_Lw_macro 3 (some .int) [(0, 5, 8, 13), (0, 5, 11, 15)] (rK 30 1 6) [.ref (b + 0), .int p0] (lH b ta c r f) (some (.int 2)) (lH b ta c2 r f) := by
  refine jCW_of (own := "WireFieldLaw") (by decide +kernel) (Nat.le_of_ble_eq_true rfl) rfl (fun Γ B htb K => ?_)
  change jW l b D Γ False 0 0 3 (lH b ta c r f) [(0, .ref (b + 0)), (1, .int p0)] 0 []
  refine j_aload_n B d_Lw_macro_0 rfl 0 rfl ?_
  refine j_iload_n B d_Lw_macro_1 rfl 1 rfl ?_
  refine j_callT (as := [.int p0]) (rest := []) B (hx _) yf_WF_macro w_673 w_674 w_675 rfl rfl rfl (by decide) (by decide) rfl (Nat.le_of_ble_eq_true rfl) d_Lw_macro_2 (pre := [({ startPc := 0, endPc := 5, handlerPc := 8, catchType := 13 } : ExceptionTableEntry)]) (x := ({ startPc := 0, endPc := 5, handlerPc := 11, catchType := 15 } : ExceptionTableEntry)) (suf := []) (htb.trans rfl) (fun z hz => by
      rcases List.mem_cons.mp hz with h9 | h9
      · subst h9; exact ⟨by decide, "java/lang/IndexOutOfBoundsException", w_364, by decide⟩
      · exact nomatch h9) rfl (by decide) w_365 (by decide) (fun q9 => ?_)
  change jW l b D Γ False 1 6 3 (lH b ta c2 r f) [(0, .ref (b + 0)), (1, .int p0)] 11 [.ref q9]
  refine j_astore_n (L' := [(0, .ref (b + 0)), (1, .int p0), (2, .ref q9)]) B d_Lw_macro_11 rfl (by decide) [1, 2, 0] rfl ?_
  refine j_iconst (v := 2) B d_Lw_macro_12 (by decide) ?_
  exact j_iret B K rfl rfl d_Lw_macro_13
set_option maxRecDepth 100000 in
set_option maxHeartbeats 4000000 in
theorem L_seen_0 {l : Launch} {b : Nat} {D : va_G} {ta : Nat → ClassId} {c c2 : CSt} {r : RSt} {f : Nat → Int64} {p0 p1 : Int32} {z : Int32} (hd : ∀ X, jC l b D ta False y_WF_seen b_WF_seen 3 (some .int) (rL 0) [.ref (b + 0), .int p0, .int p1] (cH b ta c X) (some (.int z)) (cH b ta c2 X)) : jCW l b D ta y_Lw_seen b_Lw_seen 5 (some .int) [(0, 10, 13, 13)] (rK 7 1 6) [.ref (b + 0), .int p0, .int p1, .ref (b + 164)] (lH b ta c r f) (some (.int 0)) (lH b ta c2 r (vp_updL f 0 z.toInt64)) := by
  refine jCW_of (own := "WireFieldLaw") (by decide +kernel) (Nat.le_of_ble_eq_true rfl) rfl (fun Γ B htb K => ?_)
  change jW l b D Γ False 0 0 5 (lH b ta c r f) [(0, .ref (b + 0)), (1, .int p0), (2, .int p1), (3, .ref (b + 164))] 0 []
  refine j_aload_n B d_Lw_seen_0 rfl 3 rfl ?_
  refine j_iconst (v := nI 0) B d_Lw_seen_1 (by decide) ?_
  refine j_aload_n B d_Lw_seen_2 rfl 0 rfl ?_
  refine j_iload_n B d_Lw_seen_3 rfl 1 rfl ?_
  refine j_iload_n B d_Lw_seen_4 rfl 2 rfl ?_
  refine kx_callV (as := [.int p0, .int p1]) (rest := [.int (nI 0), .ref (b + 164)]) (st1 := [.int z, .int (nI 0), .ref (b + 164)]) B (hd _) yf_WF_seen w_687 w_688 w_689 rfl rfl rfl (by decide) (by decide) rfl rfl (Nat.le_of_ble_eq_true rfl) d_Lw_seen_5 ?_
  change jW l b D Γ False 0 0 5 (lH b ta c2 r f) [(0, .ref (b + 0)), (1, .int p0), (2, .int p1), (3, .ref (b + 164))] 8 [.int z, .int (nI 0), .ref (b + 164)]
  refine j_i2l B d_Lw_seen_8 rfl ?_
  refine j_lastN B not_false rfl lH_o (by omega) d_Lw_seen_9 ?_
  rw [lH_so]
  refine j_goto B d_Lw_seen_10 rfl ?_
  refine j_iconst (v := 0) B d_Lw_seen_17 (by decide) ?_
  refine jW.widen (cs' := 1) (ss' := 6) (by decide) (by decide) ?_
  exact j_iret B K rfl rfl d_Lw_seen_18
set_option maxRecDepth 100000 in
set_option maxHeartbeats 4000000 in
theorem L_seen_1 {l : Launch} {b : Nat} {D : va_G} {ta : Nat → ClassId} {c c2 : CSt} {r : RSt} {f : Nat → Int64} {p0 p1 : Int32} (hx : ∀ X, jTh l b D ta y_WF_seen b_WF_seen 3 (some .int) (rK 6 1 6) [.ref (b + 0), .int p0, .int p1] (cH b ta c X) "java/lang/IndexOutOfBoundsException" (cH b ta c2 X)) : jCW l b D ta y_Lw_seen b_Lw_seen 5 (some .int) [(0, 10, 13, 13)] (rK 7 1 6) [.ref (b + 0), .int p0, .int p1, .ref (b + 164)] (lH b ta c r f) (some (.int 1)) (lH b ta c2 r f) := by
  refine jCW_of (own := "WireFieldLaw") (by decide +kernel) (Nat.le_of_ble_eq_true rfl) rfl (fun Γ B htb K => ?_)
  change jW l b D Γ False 0 0 5 (lH b ta c r f) [(0, .ref (b + 0)), (1, .int p0), (2, .int p1), (3, .ref (b + 164))] 0 []
  refine j_aload_n B d_Lw_seen_0 rfl 3 rfl ?_
  refine j_iconst (v := nI 0) B d_Lw_seen_1 (by decide) ?_
  refine j_aload_n B d_Lw_seen_2 rfl 0 rfl ?_
  refine j_iload_n B d_Lw_seen_3 rfl 1 rfl ?_
  refine j_iload_n B d_Lw_seen_4 rfl 2 rfl ?_
  refine j_callT (as := [.int p0, .int p1]) (rest := [.int (nI 0), .ref (b + 164)]) B (hx _) yf_WF_seen w_687 w_688 w_689 rfl rfl rfl (by decide) (by decide) rfl (Nat.le_of_ble_eq_true rfl) d_Lw_seen_5 (pre := []) (x := ({ startPc := 0, endPc := 10, handlerPc := 13, catchType := 13 } : ExceptionTableEntry)) (suf := []) (htb.trans rfl) (fun z hz => nomatch hz) rfl (by decide) w_364 (by decide) (fun q9 => ?_)
  change jW l b D Γ False 1 6 5 (lH b ta c2 r f) [(0, .ref (b + 0)), (1, .int p0), (2, .int p1), (3, .ref (b + 164))] 13 [.ref q9]
  refine j_astore (L' := [(0, .ref (b + 0)), (1, .int p0), (2, .int p1), (3, .ref (b + 164)), (4, .ref q9)]) B d_Lw_seen_13 (by decide) [1, 2, 3, 4, 0] rfl ?_
  refine j_iconst (v := 1) B d_Lw_seen_15 (by decide) ?_
  exact j_iret B K rfl rfl d_Lw_seen_16
