def R_law : String := "WireFieldLaw"
def lw_P (b : Addr) (xs : List Int32) (args : Array Value) (s : State) : Prop := args = #[.ref b] ∧ s.IntsAt b xs ∧ xs.length ≤ 4096 ∧ (Jvm.Cond.and given_1 narrow_1).before args s = true
def lw_Q (_ : Array Value) (s : State) (o : Outcome) (t : State) : Prop := o = .returned (some (.int 1)) ∧ Framed s o t [] 601024 7293034
def lw_Z (below : List Frame) (a : Array Value) (s : State) : State → Prop := fun t => ∃ o, t.status = .running ∧ Ended t below o ∧ lw_Q a s o t
/-- the law's own end, with 1 on the stack, nothing written that was there before, its room as the claim has it -/
theorem lw_ret {p : Program} {l : Launch} {e : Env} {s : State} {m : MethodId} {below : List Frame} {meth : Method} {c : Code} {b : Nat} (hx : p.tables.exec = Jvm.exec) (hb : c.code = code) (hr : meth.sig.returnType = ret) (hlocks : meth.locks = false) {pc : Nat} {H : Heap} {ls : Array Slot} (hdg : decode code pc = .ok (.ireturn, 1)) : W p l e room_1 s m #[Value.ref b] below meth c H [] 601024 7293034 (lw_Z below #[Value.ref b] s) (F0 m pc ls [.int 1]) := by
  intro T hT X
  obtain ⟨fs, hret, hrun, hended, hW, hframe⟩ := X.leave (v := some (.int 1)) (hlocks := hlocks) (fun h => by rw [hr] at h; cases h)
  have hmeth' : T.vm.method? m = some meth := X.method'
  refine ⟨T.setFrames fs, ?_, .returned (some (.int 1)), hrun, hended, rfl, ⟨_, rfl⟩, hW, hframe⟩
  jvm_step X.here [X.here.top, hx, hb, hdg, hmeth', hr, ret, narrow_b1]
  (try refine ⟨rfl, ?_⟩); (try refine ⟨rfl, ?_⟩)
  first | (intro acts; rw [hret _ acts rfl rfl rfl]) | rw [hret _ _ rfl rfl rfl]
  exact Steps.refl _
/-- what holds at the law's entry: the machine, the code, the tables' words (any of lw_tbl by 'hts w (by decide +kernel)'), the script of L ints xs at the cell b, what the Statement gives of the start (any of its parts by flat_of_before) -/
def lw_At (p : Program) (s : State) (m : MethodId) (meth : Method) (c : Code) (b L : Nat) (xs : Nat → Int32) : Prop :=
  p.tables.exec = Jvm.exec ∧ c.code = code ∧ meth.sig.returnType = ret ∧ c.maxLocals = 7 ∧ s.vm.findClass R_law = some m.cls ∧ (∀ w ∈ lw_tbl, w.before #[Value.ref b] s = true) ∧ va_X b L xs s s.heap ∧ b < s.heap.size ∧ meth.locks = false ∧ (Jvm.Cond.and given_1 narrow_1).before #[Value.ref b] s = true


/-! what holds at the law's entry -/
section ST
variable {s : State} {args : Array Value}
theorem st_arr {ty : FieldType} (h : (Cond.arrayClass ty).before args s = true) : ∃ c : ClassId, ArrOfT s c ty ∧ s.vm.findClass ("[" ++ ty.toString) = some c := by
  obtain ⟨c, k, comp, h1, h2, h3⟩ := Cond.arrayClass_spec h
  exact ⟨c, fun n z => ⟨fun k h => (by cases h), k, h2, comp, h3⟩, h1⟩
theorem st_arrO {C : String} (h : (Cond.arrayOver (.object C)).before args s = true) : ∃ c : ClassId, ArrOfT s c (.object C) ∧ va_RA s c (.object C) := by
  obtain ⟨comp, c, k, h1, h2, h3, h4, h5⟩ := Cond.arrayOver_spec h
  exact ⟨c, fun n z => ⟨fun k h => (by cases h), k, h3, comp, h4⟩, k, comp, h3, h4, h1, h5⟩
theorem st_LS {C n d : String} (h1 : (Cond.laysStatic C n d).before args s = true) (h2 : (Cond.isRef (.static C n d)).before args s = true) : jLS C n d s.heap.size s s.heap := by
  obtain ⟨c, k, i, f, a, cell, hc, hi, hst, ha, hcell, hs, hcls, hlt, hty⟩ := Cond.laysStatic_spec h1
  obtain ⟨v, hv, hr⟩ := Cond.isRef_spec h2
  obtain ⟨hst', a', cell', ha', hcell', -, hslot⟩ := Term.static_spec hi hv
  cases ha.symm.trans ha'
  cases hcell.symm.trans hcell'
  exact ⟨c, k, i, f, a, cell, v, hc, hi, hst, ha, hcell, hs, hcls, hlt, hty, hslot, hr, Nat.not_le.mpr (Array.getElem?_eq_some_iff.mp hcell).1⟩
theorem st_Ca {C : String} (h : (Cond.castable C C).before args s = true) : jCa C s := by
  obtain ⟨c, t, h1, h2, h3⟩ := Cond.castable_spec h
  cases h1.symm.trans h2
  exact ⟨c, h1, h3⟩
theorem st_R {own tx : String} {k : Nat} (h1 : (Cond.stringRef own k tx).before args s = true) (h2 : (Cond.exactly (.string own k) "java/lang/String").before args s = true) : ∃ a : Nat, vk_R own k tx a s := by
  obtain ⟨a, c, cA, kA, q1, -⟩ := Cond.exactly_spec h2
  exact ⟨a, vk_R.of h1 q1⟩
theorem st_A : ∀ a : Nat, a < s.heap.size → ¬ (fun q => s.heap.size ≤ q) a := fun a h => Nat.not_le.mpr h
end ST

set_option maxRecDepth 100000 in
theorem st_D {s : State} {args : Array Value} (htj : ∀ w ∈ jWS, w.before args s = true) : ∃ D : va_G, ∀ (c : Nat) (q : vw_C), vwCl[c]? = some q → u_Kn s q.1 q.2.1 q.2.2 (D.1 c) (D.2 c) := by
  obtain ⟨d0, i0, k0⟩ := u_known (C := RX0) (T := TX0) (N := 3) htj u_X0 (htj _ w_32)
  obtain ⟨d1, i1, k1⟩ := u_known (C := RX1) (T := TX1) (N := 2) htj u_X1 (htj _ w_150)
  obtain ⟨d2, i2, k2⟩ := u_known (C := RX2) (T := TX2) (N := 6) htj u_X2 (htj _ w_49)
  obtain ⟨d3, i3, k3⟩ := u_known (C := RX3) (T := TX3) (N := 5) htj u_X3 (htj _ w_126)
  obtain ⟨d4, i4, k4⟩ := u_known (C := RX4) (T := TX4) (N := 5) htj u_X4 (htj _ w_103)
  obtain ⟨d5, i5, k5⟩ := u_known (C := RX5) (T := TX5) (N := 2) htj u_X5 (htj _ w_82)
  obtain ⟨d6, i6, k6⟩ := u_known (C := RX6) (T := TX6) (N := 13) htj u_X6 (htj _ w_24)
  obtain ⟨d7, i7, k7⟩ := u_known (C := RX7) (T := TX7) (N := 43) htj u_X7 (htj _ w_693)
  refine ⟨(fun c => [d0, d1, d2, d3, d4, d5, d6, d7].getD c d0, fun c => [i0, i1, i2, i3, i4, i5, i6, i7].getD c i0), fun c q hq => ?_⟩
  have hlt : c < 8 := (List.getElem?_eq_some_iff.mp hq).1
  have hc : c = 0 ∨ c = 1 ∨ c = 2 ∨ c = 3 ∨ c = 4 ∨ c = 5 ∨ c = 6 ∨ c = 7 := by omega
  rcases hc with rfl | rfl | rfl | rfl | rfl | rfl | rfl | rfl
  · obtain rfl : (RX0, TX0, 3) = q := Option.some.inj hq
    exact k0
  · obtain rfl : (RX1, TX1, 2) = q := Option.some.inj hq
    exact k1
  · obtain rfl : (RX2, TX2, 6) = q := Option.some.inj hq
    exact k2
  · obtain rfl : (RX3, TX3, 5) = q := Option.some.inj hq
    exact k3
  · obtain rfl : (RX4, TX4, 5) = q := Option.some.inj hq
    exact k4
  · obtain rfl : (RX5, TX5, 2) = q := Option.some.inj hq
    exact k5
  · obtain rfl : (RX6, TX6, 13) = q := Option.some.inj hq
    exact k6
  · obtain rfl : (RX7, TX7, 43) = q := Option.some.inj hq
    exact k7

set_option maxRecDepth 100000 in
theorem st_T {s : State} {args : Array Value} (hts : ∀ w ∈ lw_tbl, w.before args s = true) (aK aV : Nat) : ∃ ta : Nat → ClassId, ta 100 = aK ∧ ta 101 = aV ∧ ∀ (k : Nat) (q : ClassId × FieldType), (jT ta)[k]? = some q → ArrOfT s q.1 q.2 ∧ va_RA s q.1 q.2 := by
  obtain ⟨a0, m0, n0⟩ := st_arr (ty := .int) (hts _ (List.mem_of_getElem? (i := 88) rfl))
  obtain ⟨a1, m1, n1⟩ := st_arr (ty := .char) (hts _ (List.mem_of_getElem? (i := 136) rfl))
  obtain ⟨a2, m2, n2⟩ := st_arr (ty := .boolean) (hts _ (List.mem_of_getElem? (i := 166) rfl))
  obtain ⟨a3, m3, n3⟩ := st_arr (ty := .long) (hts _ (List.mem_of_getElem? (i := 869) rfl))
  obtain ⟨a4, m4, n4⟩ := st_arrO (C := "WireField$Text") (hts _ (List.mem_of_getElem? (i := 137) rfl))
  obtain ⟨a5, m5, n5⟩ := st_arrO (C := "WireField$Source") (hts _ (List.mem_of_getElem? (i := 139) rfl))
  obtain ⟨a6, m6, n6⟩ := st_arrO (C := "WireField$Probe") (hts _ (List.mem_of_getElem? (i := 141) rfl))
  obtain ⟨a7, m7, n7⟩ := st_arrO (C := "WireField$Moment") (hts _ (List.mem_of_getElem? (i := 143) rfl))
  refine ⟨fun k => if k = 100 then aK else if k = 101 then aV else [a0, a1, a2, a3, a4, a5, a6, a7].getD k a0, if_pos rfl, rfl, fun k q hq => ?_⟩
  have hlt : k < 8 := (List.getElem?_eq_some_iff.mp hq).1
  have hc : k = 0 ∨ k = 1 ∨ k = 2 ∨ k = 3 ∨ k = 4 ∨ k = 5 ∨ k = 6 ∨ k = 7 := by omega
  rcases hc with rfl | rfl | rfl | rfl | rfl | rfl | rfl | rfl
  · obtain rfl : ((a0, .int) : ClassId × FieldType) = q := Option.some.inj hq
    exact ⟨m0, n0⟩
  · obtain rfl : ((a1, .char) : ClassId × FieldType) = q := Option.some.inj hq
    exact ⟨m1, n1⟩
  · obtain rfl : ((a2, .boolean) : ClassId × FieldType) = q := Option.some.inj hq
    exact ⟨m2, n2⟩
  · obtain rfl : ((a3, .long) : ClassId × FieldType) = q := Option.some.inj hq
    exact ⟨m3, n3⟩
  · obtain rfl : ((a4, .object "WireField$Text") : ClassId × FieldType) = q := Option.some.inj hq
    exact ⟨m4, n4⟩
  · obtain rfl : ((a5, .object "WireField$Source") : ClassId × FieldType) = q := Option.some.inj hq
    exact ⟨m5, n5⟩
  · obtain rfl : ((a6, .object "WireField$Probe") : ClassId × FieldType) = q := Option.some.inj hq
    exact ⟨m6, n6⟩
  · obtain rfl : ((a7, .object "WireField$Moment") : ClassId × FieldType) = q := Option.some.inj hq
    exact ⟨m7, n7⟩

set_option maxRecDepth 100000 in
set_option maxHeartbeats 4000000 in
theorem st_X1 {s : State} {args : Array Value} (hts : ∀ w ∈ lw_tbl, w.before args s = true) (hs : ∀ c ∈ flatC (Jvm.Cond.and given_1 narrow_1), c.before args s = true) : jX1 s.heap.size s s.heap := by
  obtain ⟨t1, e1, h1⟩ := va_Tof (tm := (Term.static "WireField" "COLUMN_STEPS" "[I")) (ty := .int) (N := 4) (f := fun j => .int (jcs j)) (A := fun q => s.heap.size ≤ q) (by decide) (hs (Cond.arrayOf (Term.static "WireField" "COLUMN_STEPS" "[I") .int) (by decide +kernel)) (va_eqt (hs (Cond.eq (.length (Term.static "WireField" "COLUMN_STEPS" "[I")) (.int 4)) (by decide +kernel))) (fun j hj => by
      have hc : j = 0 ∨ j = 1 ∨ j = 2 ∨ j = 3 := by omega
      rcases hc with rfl | rfl | rfl | rfl
      · exact va_eqt (hs (Cond.eq (.elem (Term.static "WireField" "COLUMN_STEPS" "[I") (.int 0)) (.int (0))) (by decide +kernel))
      · exact va_eqt (hs (Cond.eq (.elem (Term.static "WireField" "COLUMN_STEPS" "[I") (.int 1)) (.int (1))) (by decide +kernel))
      · exact va_eqt (hs (Cond.eq (.elem (Term.static "WireField" "COLUMN_STEPS" "[I") (.int 2)) (.int (0))) (by decide +kernel))
      · exact va_eqt (hs (Cond.eq (.elem (Term.static "WireField" "COLUMN_STEPS" "[I") (.int 3)) (.int (-1))) (by decide +kernel))
      ) st_A
  obtain ⟨t2, e2, h2⟩ := va_Tof (tm := (Term.static "WireField" "ROW_STEPS" "[I")) (ty := .int) (N := 4) (f := fun j => .int (jrs j)) (A := fun q => s.heap.size ≤ q) (by decide) (hs (Cond.arrayOf (Term.static "WireField" "ROW_STEPS" "[I") .int) (by decide +kernel)) (va_eqt (hs (Cond.eq (.length (Term.static "WireField" "ROW_STEPS" "[I")) (.int 4)) (by decide +kernel))) (fun j hj => by
      have hc : j = 0 ∨ j = 1 ∨ j = 2 ∨ j = 3 := by omega
      rcases hc with rfl | rfl | rfl | rfl
      · exact va_eqt (hs (Cond.eq (.elem (Term.static "WireField" "ROW_STEPS" "[I") (.int 0)) (.int (-1))) (by decide +kernel))
      · exact va_eqt (hs (Cond.eq (.elem (Term.static "WireField" "ROW_STEPS" "[I") (.int 1)) (.int (0))) (by decide +kernel))
      · exact va_eqt (hs (Cond.eq (.elem (Term.static "WireField" "ROW_STEPS" "[I") (.int 2)) (.int (1))) (by decide +kernel))
      · exact va_eqt (hs (Cond.eq (.elem (Term.static "WireField" "ROW_STEPS" "[I") (.int 3)) (.int (0))) (by decide +kernel))
      ) st_A
  exact ⟨t1, t2, va_Zref (hts _ (List.mem_of_getElem? (i := 669) rfl)) (hts _ (List.mem_of_getElem? (i := 42) rfl)) e1 st_A, h1, va_Zref (hts _ (List.mem_of_getElem? (i := 675) rfl)) (hts _ (List.mem_of_getElem? (i := 42) rfl)) e2 st_A, h2⟩

set_option maxRecDepth 100000 in
set_option maxHeartbeats 4000000 in
theorem st_X2 {s : State} {args : Array Value} (hts : ∀ w ∈ lw_tbl, w.before args s = true) (hs : ∀ c ∈ flatC (Jvm.Cond.and given_1 narrow_1), c.before args s = true) : ∃ aK aV : Nat, vk_R "WireField$Text" 51 "FBRLUDEW<" aK s ∧ jStr s.heap.size aK aV s s.heap := by
  obtain ⟨a, c, cA, kA, q1, q2, q3, q4, q5, q6, -⟩ := Cond.exactly_spec (args := args) (first := s) (o := none) (s := s) (idx := []) (t := (Term.string "WireField$Text" 51)) (cls := "java/lang/String") (hs (Cond.exactly (Term.string "WireField$Text" 51) "java/lang/String") (by decide +kernel))
  obtain ⟨t, ht, hT⟩ := va_Tof (tm := (.field (Term.string "WireField$Text" 51) "java/lang/String" "value" "[B")) (ty := .byte) (N := 9) (f := fun j => .int (jord j)) (A := fun q => s.heap.size ≤ q) (by decide) (hs (Cond.arrayOf (.field (Term.string "WireField$Text" 51) "java/lang/String" "value" "[B") .byte) (by decide +kernel)) (va_eqt (hs (Cond.eq (.length (.field (Term.string "WireField$Text" 51) "java/lang/String" "value" "[B")) (.int 9)) (by decide +kernel))) (fun j hj => by
      have hc : j = 0 ∨ j = 1 ∨ j = 2 ∨ j = 3 ∨ j = 4 ∨ j = 5 ∨ j = 6 ∨ j = 7 ∨ j = 8 := by omega
      rcases hc with rfl | rfl | rfl | rfl | rfl | rfl | rfl | rfl | rfl
      · exact va_eqt (hs (Cond.eq (.elem (.field (Term.string "WireField$Text" 51) "java/lang/String" "value" "[B") (.int 0)) (.int 70)) (by decide +kernel))
      · exact va_eqt (hs (Cond.eq (.elem (.field (Term.string "WireField$Text" 51) "java/lang/String" "value" "[B") (.int 1)) (.int 66)) (by decide +kernel))
      · exact va_eqt (hs (Cond.eq (.elem (.field (Term.string "WireField$Text" 51) "java/lang/String" "value" "[B") (.int 2)) (.int 82)) (by decide +kernel))
      · exact va_eqt (hs (Cond.eq (.elem (.field (Term.string "WireField$Text" 51) "java/lang/String" "value" "[B") (.int 3)) (.int 76)) (by decide +kernel))
      · exact va_eqt (hs (Cond.eq (.elem (.field (Term.string "WireField$Text" 51) "java/lang/String" "value" "[B") (.int 4)) (.int 85)) (by decide +kernel))
      · exact va_eqt (hs (Cond.eq (.elem (.field (Term.string "WireField$Text" 51) "java/lang/String" "value" "[B") (.int 5)) (.int 68)) (by decide +kernel))
      · exact va_eqt (hs (Cond.eq (.elem (.field (Term.string "WireField$Text" 51) "java/lang/String" "value" "[B") (.int 6)) (.int 69)) (by decide +kernel))
      · exact va_eqt (hs (Cond.eq (.elem (.field (Term.string "WireField$Text" 51) "java/lang/String" "value" "[B") (.int 7)) (.int 87)) (by decide +kernel))
      · exact va_eqt (hs (Cond.eq (.elem (.field (Term.string "WireField$Text" 51) "java/lang/String" "value" "[B") (.int 8)) (.int 60)) (by decide +kernel))
      ) st_A
  exact ⟨a, t, vk_R.of (hts _ (List.mem_of_getElem? (i := 510) rfl)) q1, ⟨cA, q3, q5, by rw [q6]; exact q2, st_A a (Array.getElem?_eq_some_iff.mp q3).1⟩, vk_OFof q1 (va_eqt (hs (Cond.eq (.field (Term.string "WireField$Text" 51) "java/lang/String" "coder" "B") (.int 0)) (by decide +kernel))) st_A, vk_OFof q1 ht st_A, hT, va_Zof (hts _ (List.mem_of_getElem? (i := 524) rfl)) (hts _ (List.mem_of_getElem? (i := 54) rfl)) (va_eqt (hs (Cond.eq (.static "java/lang/String" "COMPACT_STRINGS" "Z") (.int 1)) (by decide +kernel))) st_A⟩

set_option maxRecDepth 100000 in
set_option maxHeartbeats 4000000 in
theorem st_X3 {s : State} {args : Array Value} (hts : ∀ w ∈ lw_tbl, w.before args s = true) (hs : ∀ c ∈ flatC (Jvm.Cond.and given_1 narrow_1), c.before args s = true) : jX3 s.heap.size s s.heap := by
  refine ⟨?_, st_LS (hts _ (List.mem_of_getElem? (i := 439) rfl)) (hs _ (by decide +kernel)), st_LS (hts _ (List.mem_of_getElem? (i := 441) rfl)) (hs _ (by decide +kernel)), ?_, ?_, ?_⟩
  · refine List.forall_mem_cons.mpr ⟨st_R (hts _ (List.mem_of_getElem? (i := 453) rfl)) (hs (Cond.exactly (.string "WireField" 85) "java/lang/String") (by decide +kernel)), ?_⟩
    refine List.forall_mem_cons.mpr ⟨st_R (hts _ (List.mem_of_getElem? (i := 610) rfl)) (hs (Cond.exactly (.string "WireField" 100) "java/lang/String") (by decide +kernel)), ?_⟩
    refine List.forall_mem_cons.mpr ⟨st_R (hts _ (List.mem_of_getElem? (i := 704) rfl)) (hs (Cond.exactly (.string "WireField" 116) "java/lang/String") (by decide +kernel)), ?_⟩
    refine List.forall_mem_cons.mpr ⟨st_R (hts _ (List.mem_of_getElem? (i := 718) rfl)) (hs (Cond.exactly (.string "WireField" 135) "java/lang/String") (by decide +kernel)), ?_⟩
    refine List.forall_mem_cons.mpr ⟨st_R (hts _ (List.mem_of_getElem? (i := 719) rfl)) (hs (Cond.exactly (.string "WireField" 137) "java/lang/String") (by decide +kernel)), ?_⟩
    refine List.forall_mem_cons.mpr ⟨st_R (hts _ (List.mem_of_getElem? (i := 732) rfl)) (hs (Cond.exactly (.string "WireField" 189) "java/lang/String") (by decide +kernel)), ?_⟩
    exact fun _ h => absurd h List.not_mem_nil
  · refine List.forall_mem_cons.mpr ⟨va_AO.of (hts _ (List.mem_of_getElem? (i := 137) rfl)), ?_⟩
    refine List.forall_mem_cons.mpr ⟨va_AO.of (hts _ (List.mem_of_getElem? (i := 139) rfl)), ?_⟩
    refine List.forall_mem_cons.mpr ⟨va_AO.of (hts _ (List.mem_of_getElem? (i := 141) rfl)), ?_⟩
    refine List.forall_mem_cons.mpr ⟨va_AO.of (hts _ (List.mem_of_getElem? (i := 143) rfl)), ?_⟩
    exact fun _ h => absurd h List.not_mem_nil
  · refine List.forall_mem_cons.mpr ⟨va_Nc.of (hs (Cond.not (.castable "java/lang/IllegalArgumentException" "java/lang/IndexOutOfBoundsException")) (by decide +kernel)), ?_⟩
    refine List.forall_mem_cons.mpr ⟨va_Nc.of (hs (Cond.not (.castable "java/lang/UnsupportedOperationException" "java/lang/IndexOutOfBoundsException")) (by decide +kernel)), ?_⟩
    refine List.forall_mem_cons.mpr ⟨va_Nc.of (hs (Cond.not (.castable "java/lang/UnsupportedOperationException" "java/lang/IllegalArgumentException")) (by decide +kernel)), ?_⟩
    exact fun _ h => absurd h List.not_mem_nil
  · refine List.forall_mem_cons.mpr ⟨st_Ca (hts _ (List.mem_of_getElem? (i := 414) rfl)), ?_⟩
    refine List.forall_mem_cons.mpr ⟨st_Ca (hts _ (List.mem_of_getElem? (i := 603) rfl)), ?_⟩
    refine List.forall_mem_cons.mpr ⟨st_Ca (hts _ (List.mem_of_getElem? (i := 697) rfl)), ?_⟩
    exact fun _ h => absurd h List.not_mem_nil


theorem st_E {s : State} {args : Array Value} (hts : ∀ w ∈ lw_tbl, w.before args s = true) (hs : ∀ c ∈ flatC (Jvm.Cond.and given_1 narrow_1), c.before args s = true) : ∃ (D : va_G) (ta : Nat → ClassId), jE s.heap.size D ta s s.heap := by
  obtain ⟨D, hD⟩ := st_D (fun w hw => hts w (List.mem_filter.mp hw).1)
  obtain ⟨aK, aV, hR, hS⟩ := st_X2 hts hs
  obtain ⟨ta, rfl, rfl, hT⟩ := st_T hts aK aV
  exact ⟨D, ta, ⟨hD, hT⟩, fun w hw => va_Nw.of (jNW_tab hw) (hts w (List.mem_filter.mp hw).1), st_X1 hts hs, ⟨hR, hS⟩, st_X3 hts hs⟩
