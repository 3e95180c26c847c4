
/-! what throws -/
/-- at the end of a method that throws: an object of this class, the cells as said -/
def jQT (b : Nat) (D : va_G) (E : String) (σ' : List va_E) (mc ms : Nat) : Array Value → State → Outcome → State → Prop := fun _ st oc t =>
  ∃ (q : Addr) (ce : Cell) (L : List Loc), oc = .threw q ∧ t.heap[q]? = some ce ∧ ce.vm = .none ∧ st.vm.findClass E = some ce.cls ∧ va_P D vwCl (jw b σ') t.heap ∧ va_F (fun q => b ≤ q) st t ∧ st.WarmedH t.vm ∧ st.sameButNew ({ t with vm := st.vm } : State) L mc ms ∧ ∀ z ∈ L, b ≤ z.base
def jTh (l : Launch) (b : Nat) (D : va_G) (ta : Nat → ClassId) (y : MethodName) (cb : ByteArray) (mL : Nat) (ret : Option FieldType) (rm : Room) (as : List Value) (σ : List va_E) (E : String) (σ' : List va_E) : Prop :=
  MetFree l y (headSpec (Cond.code y cb mL ret :: jWS) rm) (va_Pc as (fun U => jE b D ta U U.heap ∧ va_P D vwCl (jw b σ) U.heap ∧ (False → U.heap.size = b + σ.length))) (fun _ _ _ _ _ => True) (jQT b D E σ' rm.cells rm.slots)
def jRT (b : Nat) (D : va_G) (Γ : jG) (E : String) (σ' : List va_E) (mc ms : Nat) : Prop :=
  Γ.2.2.2.2.2.2.2.2.2 = fun t => ∃ o, t.status = .running ∧ Ended t Γ.2.2.2.2.2.2.1 o ∧ jQT b D E σ' mc ms Γ.2.2.2.2.2.1 Γ.2.2.2.1 o t
theorem jTh_of {l : Launch} {b : Nat} {D : va_G} {ta : Nat → ClassId} {y : MethodName} {cb : ByteArray} {mL : Nat} {ret : Option FieldType} {rm : Room} {as : List Value} {σ : List va_E} {E : String} {σ' : List va_E}
    (hy : plainName y.cls = true) (hlen : (lg_sl as).length ≤ mL) {own : String} (ho : y.cls = own)
    (body : ∀ Γ : jG, jB l b D ta Γ own cb ret mL rm → (∀ x ∈ Γ.2.2.2.2.2.2.2.2.1.exceptionTable.toList, False) → jRT b D Γ E σ' rm.cells rm.slots → jW l b D Γ False 0 0 mL σ (lv_args 0 as) 0 []) : jTh l b D ta y cb mL ret rm as σ E σ' := by
  subst ho
  refine MetFree.of_bodyS (code := cb) (maxLocals := mL) (ret := ret) hy ?_ ?_
  · intro args s m h hn
    obtain ⟨meth, c, h1, h2, h3, h4, h5, h6, -, -⟩ := Cond.code_spec hn (atoms_spec (ws := Cond.code y cb mL ret :: jWS) h _ List.mem_cons_self)
    exact ⟨meth, c, h1, h2, h3, h4, h5, h6⟩
  · intro p e s m args below meth c s₁ B hml hv _
    obtain ⟨rfl, hE, hP, hZ⟩ := hv
    have hts := atoms_spec (ws := Cond.code y cb mL ret :: jWS) B.pre
    have hh0 : s₁.heap = s.heap := by rw [B.state]; rfl
    obtain ⟨meth2, c2, q1, q2, -, -, -, -, q7, -⟩ := Cond.code_spec B.named (hts _ List.mem_cons_self)
    have X0 := Stand.of_body B
    have hc2 : c2 = c := by
      have e1 : meth2 = meth := Option.some.inj (q1.symm.trans B.method)
      subst e1
      exact Option.some.inj (q2.symm.trans X0.code)
    subst hc2
    have hl := lv_entry as (n := mL) hlen
    have hb := body (p, e, rm, s, m, as.toArray, below, meth, c2, fun t => ∃ o, t.status = .running ∧ Ended t below o ∧ jQT b D E σ' rm.cells rm.slots as.toArray s o t)
      ⟨B.exec, B.bytes, B.returns, hml, findClass_of_methodNamed B.named, fun w h => hts w (List.mem_cons_of_mem _ h), hE, B.notSynchronized, rfl, rfl⟩
      (fun x hx => by
        have e0 : c2.exceptionTable.toList = [] := by
          have := Array.isEmpty_iff.mp q7
          rw [this]
        rw [e0] at hx
        exact nomatch hx) rfl
    rw [lg_entry_eq]
    generalize (lg_sl as ++ List.replicate (mL - (lg_sl as).length) Slot.unset).toArray = ls at hl ⊢
    obtain ⟨t, a1, o, b1, b2, b3⟩ := hb ls s.heap [] hl hP va_S.rf hZ s₁ hh0 X0
    exact ⟨t, o, a1, b1, b2, b3⟩
section THR
variable {p : Program} {l : Launch} {e : Env} {R : Room} {s : State} {m : MethodId} {args : Array Value} {below : List Frame} {meth : Method} {c : Code} {T : State} {locs : List Loc} {cells slots : Nat}
/-- the frame as it stands, as if it had been entered just now -/
theorem jre (X : Stand p l e R s m args below meth c T locs cells slots) {R2 : Room} (hf : R2.frames ≤ R.frames) (hl : R2.locals ≤ R.locals) (hc : cells + R2.cells ≤ R.cells) (hs : slots + R2.slots ≤ R.slots) :
    Stand p l e R2 ((T.setVm s.vm).setFrames (.invoking m args :: below)) m args below meth c T [] 0 0 := by
  have ht : (T.setVm s.vm).topJava?.isSome := X.here.top
  have hF : ((T.setVm s.vm).setFrames (.invoking m args :: below)).frames = .invoking m args :: below := State.frames_setFrames _ (State.cur_lt_of_top ht)
  obtain ⟨g0, h0⟩ := Option.isSome_iff_exists.mp ht
  obtain ⟨r0, hr⟩ := State.topJava?_eq_some.mp h0
  have k1 : e.platform.stackLimits (T.setVm s.vm).me = e.platform.stackLimits s.me := X.limits
  have k2 : (T.setVm s.vm).me.stackBytes = s.me.stackBytes := X.bytes
  have hD : (T.heap.toList.drop T.heap.size) = [] := List.drop_eq_nil_of_le (Nat.le_of_eq Array.length_toList)
  refine ⟨X.admits, X.cas, X.clock, hF, ?_, X.hears, X.method, X.code, X.here, X.tail, X.warmed, ?_, ?_, ?_⟩
  · have hr9 := X.room
    have hU : ((T.setVm s.vm).setFrames (.invoking m args :: below)).localsInUse = s.localsInUse := by
      rw [State.localsInUse_invoking hF (meth := meth) (c := c) X.method X.code, State.localsInUse_invoking X.frames X.method X.code]
    have z1 := X.heapSize
    have z2 := X.used
    simp only [State.hasRoom, Bool.and_eq_true, decide_eq_true_eq] at hr9 ⊢
    obtain ⟨⟨⟨⟨h1, h2, h3, h4, h5, h6⟩, h7⟩, h8⟩, h9⟩ := hr9
    rw [X.frames, List.length_cons] at h2 h3
    simp only [hF, hU, List.length_cons, State.stackLimits_setFrames, State.stackBytes_setFrames, k1, k2]
    refine ⟨⟨⟨⟨by omega, by omega, by omega, by omega, by omega, h6⟩, ?_⟩, ?_⟩, X.book⟩
    · show T.heap.size + R2.cells ≤ e.platform.maxCells
      omega
    · show T.slotsUsed + R2.slots ≤ e.platform.maxSlots
      omega
  · rw [State.stackLimits_setFrames]; rfl
  · rw [State.stackBytes_setFrames]; rfl
  · refine ⟨?_, Nat.le_refl _, Nat.le_refl _, ?_, ?_, fun a c9 h9 => ⟨c9, h9, rfl, rfl, fun _ _ => rfl⟩⟩
    · obtain ⟨t9, ht9, -⟩ := State.frames_cons hr
      show T.setVm s.vm = { ((T.setVm s.vm).setFrames (.invoking m args :: below)).setFrames (T.setVm s.vm).frames with heap := T.heap, slotsUsed := T.slotsUsed }
      rw [State.setFrames_setFrames, State.setFrames_self ht9]
      rfl
    · show T.slotsUsed = T.slotsUsed + ((T.heap.toList.drop T.heap.size).map (·.slots.size)).sum
      rw [hD]; rfl
    · show ((T.heap.toList.drop T.heap.size).map (·.slots.size)).sum ≤ 0
      rw [hD]; exact Nat.le_refl _
theorem jLS.lays {C n d : String} {b : Nat} {U : State} {A : Array Value} (h : jLS C n d b U U.heap) : (Cond.laysStatic C n d).before A U = true := by
  obtain ⟨c, k, i, f, a, cell, v, h1, h2, h3, h4, h5, h6, h7, h8, h9, -⟩ := h
  show (Cond.laysStatic C n d).holds A U none U [] = true
  exact Cond.laysStatic_of h1 h2 h3 h4 h5 h6 h7 h8 h9
theorem jLS.isRef {C n d : String} {b : Nat} {U : State} {A : Array Value} (h : jLS C n d b U U.heap) : (Cond.isRef (.static C n d)).before A U = true := by
  obtain ⟨c, k, i, f, a, cell, v, h1, h2, h3, h4, h5, h6, h7, h8, h9, h10, h11, -⟩ := h
  have he : (Term.static C n d).eval A U none [] U = some v := by
    simp [Term.eval, State.fieldNamed?, h2, h3, h4, h5, h6, h10]
  simp only [Cond.before, Cond.holds, Cond.value, he]
  cases v <;> simp_all [Value.isRef]
theorem jCa.word {C : String} {U : State} {A : Array Value} (h : jCa C U) : (Cond.castable C C).before A U = true := by
  obtain ⟨c, h1, h2⟩ := h
  simp [Cond.before, Cond.holds, Cond.value, h1, h2]
/-- the words of a throw that the tables hold -/
def jno (E : String) (w : Cond) : Bool := decide (w ≠ .isRef (.static Bundle.tN "UNASSIGNED_STACK" Bundle.steD)) && decide (w ≠ .isRef (.static Bundle.tN "SUPPRESSED_SENTINEL" Bundle.listD)) && decide (w ≠ .laysStatic Bundle.tN "UNASSIGNED_STACK" Bundle.steD) && decide (w ≠ .laysStatic Bundle.tN "SUPPRESSED_SENTINEL" Bundle.listD) && decide (w ≠ .castable E E)
theorem jno_or {E : String} {w : Cond} {P : Prop} (h1 : w = .isRef (.static Bundle.tN "UNASSIGNED_STACK" Bundle.steD) → P) (h2 : w = .isRef (.static Bundle.tN "SUPPRESSED_SENTINEL" Bundle.listD) → P) (h3 : w = .laysStatic Bundle.tN "UNASSIGNED_STACK" Bundle.steD → P) (h4 : w = .laysStatic Bundle.tN "SUPPRESSED_SENTINEL" Bundle.listD → P) (h5 : w = .castable E E → P) (h6 : jno E w = true → P) : P := by
  by_cases e1 : w = .isRef (.static Bundle.tN "UNASSIGNED_STACK" Bundle.steD)
  · exact h1 e1
  by_cases e2 : w = .isRef (.static Bundle.tN "SUPPRESSED_SENTINEL" Bundle.listD)
  · exact h2 e2
  by_cases e3 : w = .laysStatic Bundle.tN "UNASSIGNED_STACK" Bundle.steD
  · exact h3 e3
  by_cases e4 : w = .laysStatic Bundle.tN "SUPPRESSED_SENTINEL" Bundle.listD
  · exact h4 e4
  by_cases e5 : w = .castable E E
  · exact h5 e5
  refine h6 ?_
  unfold jno
  rw [decide_eq_true e1, decide_eq_true e2, decide_eq_true e3, decide_eq_true e4, decide_eq_true e5]
  rfl
end THR
theorem decl_w {x : MethodName} {bytes : ByteArray} {mL : Nat} {ret : Option FieldType} {A : Array Value} {U : State} (h1 : (Cond.instanceMethod x).before A U = true) (h2 : (Cond.code x bytes mL ret).before A U = true) : (Cond.declares x).before A U = true := by
  obtain ⟨m, meth, hn, hm, hst, -⟩ := Cond.instanceMethod_spec h1
  obtain ⟨meth2, c, hm2, -, -, -, -, -, -, hsig⟩ := Cond.code_spec hn h2
  cases hm.symm.trans hm2
  simp [Cond.before, Cond.holds, Cond.value, hn, hm, hst, hsig]
/-- the constructors above, which their classes declare -/
def jdl : List (MethodName × ByteArray) := [(Bundle.initS "java/lang/RuntimeException", Bundle.six), (Bundle.initS "java/lang/Exception", Bundle.six), (Bundle.initS Bundle.tN, LibCode.Throwable.InitS.code)]
set_option maxRecDepth 100000 in
theorem jdl_w : ∀ q ∈ jdl, Cond.instanceMethod q.1 ∈ jWS ∧ Cond.code q.1 q.2 2 none ∈ jWS := by decide +kernel
theorem jfr {s U : State} {L : List Loc} {k n : Nat} (h : s.sameButNew ({ U with vm := s.vm } : State) L k n) : s.heap.size ≤ U.heap.size ∧ ∀ q : Nat, q < s.heap.size → (∀ z ∈ L, z.base ≠ q) → U.heap[q]? = s.heap[q]? := by
  obtain ⟨-, h2, -, -, -, h6⟩ := h
  refine ⟨h2, fun q hq hz => ?_⟩
  obtain ⟨c9, e1, e2, e3, e4⟩ := h6 q _ (Array.getElem?_eq_getElem hq)
  have hs : c9.slots = (s.heap[q]).slots := Array.ext_getElem? fun i => e4 i fun hm => hz _ hm rfl
  have h9 : c9 = s.heap[q] := by
    rw [hs] at e2
    exact e2
  have e5 : U.heap[q]? = some c9 := e1
  rw [e5, h9, Array.getElem?_eq_getElem hq]
/-- 'throw new E(text)' -/
theorem j_thr {l : Launch} {b : Nat} {D : va_G} {ta : Nat → ClassId} {Γ : jG} {cc : ByteArray} {ret : Option FieldType} {nL pc : Nat} {rm : Room} {σ : List va_E} {L : List (Nat × Value)} (B : jB l b D ta Γ "WireField" cc ret nL rm) (hst : l.stackTraces = false) (htab : ∀ x ∈ Γ.2.2.2.2.2.2.2.2.1.exceptionTable.toList, False) {E : String} {names : List String} {ik is ic : Nat} {text : String}
    (hfit : Bundle.fit E = true) (hnames : ∀ n ∈ names, Bundle.fit n = true) (hE : E ∈ jex) (hk : Cond.classLink "WireField" ik E ∈ jWS) (hini : Cond.initialized E ∈ jWS) (htx : (is, text) ∈ jtx) (hat : ∀ w ∈ (Bundle.ownAtoms "WireField" ic E names).filter (jno E), w ∈ jWS ∨ w ∈ jdl.map (fun q => Cond.declares q.1))
    (K : jRT b D Γ E σ 1 6) (hfr : names.length + 3 < rm.frames) (hlo : 13 * (names.length + 1) + 43 ≤ rm.locals) (hce : 1 ≤ rm.cells) (hsl : 6 ≤ rm.slots)
    (d0 : decode cc pc = .ok (.new ik, 3)) (d3 : decode cc (pc + 3) = .ok (.dup, 1)) (d4 : decode cc (pc + 4) = .ok (.ldc is, 2)) (d6 : decode cc (pc + 6) = .ok (.invokespecial ic, 3)) (d9 : decode cc (pc + 9) = .ok (.athrow, 1)) : jW l b D Γ False 0 0 nL σ L pc [] := by
  intro ls H locs hll hP hS hZ T hT X
  obtain ⟨p, e, R, s, m, args, below, meth, c, Q⟩ := Γ
  obtain ⟨hexec, hb, hret, hml, hown, hts, hJ, hlocks, hR, -⟩ := B
  dsimp only at hexec hb hret hml hown hts hJ hlocks hR hS X htab ⊢
  have K : Q = fun t => ∃ o, t.status = .running ∧ Ended t below o ∧ jQT b D E σ 1 6 args s o t := K
  subst hR
  have htr : e.platform.stackTraces = false := (show e.platform.stackTraces = l.stackTraces by rw [X.admits.platform]).trans hst
  have Y := jre X (R2 := { frames := R.frames, locals := R.locals, cells := 1, slots := 6 }) (Nat.le_refl _) (Nat.le_refl _) (by show 0 + 1 ≤ _; omega) (by show 0 + 6 ≤ _; omega)
  obtain ⟨s2, hA⟩ : ∃ z, z = (T.setVm s.vm).setFrames (.invoking m args :: below) := ⟨_, rfl⟩
  rw [← hA] at Y
  have hvm : s2.vm = s.vm := by rw [hA]; rfl
  have hhp : s2.heap = H := by rw [hA]; exact hT
  have hW0 : s.WarmedH s2.vm := by rw [hvm]; exact State.WarmedH.refl s
  have hw : ∀ w ∈ jWS, w.before args s2 = true := fun w h => word_at hW0 (good_of_word (List.mem_filter.mp h).2) (hts w h)
  have hX2 : jX b ta s2 s2.heap := jX.warm (H := s.heap) hW0 (by rw [hhp]; exact hS.2.1) hJ.2.2
  obtain ⟨-, -, t1, t2, t3, t4, t5, t6⟩ := hX2
  have hall : ∀ w ∈ Bundle.ownAtoms "WireField" ic E names, w.before args s2 = true := fun w h =>
    jno_or (E := E) (w := w) (fun q => by rw [q]; exact t2.isRef) (fun q => by rw [q]; exact t3.isRef) (fun q => by rw [q]; exact t2.lays) (fun q => by rw [q]; exact t3.lays) (fun q => by rw [q]; exact (t6 E hE).word) (fun q => (hat w (List.mem_filter.mpr ⟨h, q⟩)).elim (hw w) (fun h9 => by
      obtain ⟨z, hz, rfl⟩ := List.mem_map.mp h9
      exact decl_w (hw _ (jdl_w z hz).1) (hw _ (jdl_w z hz).2)))
  have hown2 : s2.vm.findClass "WireField" = some m.cls := by rw [hvm]; exact hown
  obtain ⟨sa, hsa⟩ := t1 (is, text) htx
  have hins : (Cond.instantiable E 6).before args s2 = true := hall _ (by simp [Bundle.ownAtoms])
  obtain ⟨vm1, cX, kX, hfX, hkX, -, -, X1, st1⟩ := Y.newCold hexec (own := "WireField") (C := E) (index := ik) (n := 6) hown2 (hw _ hk) hins (hw _ hini)
    (g := F0 m pc ls []) rfl (by rw [hb]; exact d0) (Nat.le_refl _) (Nat.le_refl _)
  generalize hT1 : (T.setVm vm1).pushCell { cls := cX, slots := kX.instanceTypes.map defaultValue, vm := .none } = T1 at X1 st1
  have hcat : (Value.ref T.heap.size).category = 1 := rfl
  have hcellA : T1.heap[T.heap.size]? = some (freshCell cX kX) := by rw [← hT1]; exact State.heap_pushCell_size _ _
  have d3' : decode c.code (pc + 3) = .ok (.dup, 1) := by rw [hb]; exact d3
  have d4' : decode c.code (pc + 4) = .ok (.ldc is, 2) := by rw [hb]; exact d4
  obtain ⟨U, hsteps, hrun, hend, hW, hsame, ce, hce2, hO⟩ := X1.ctorThrowS hexec htr (own := "WireField") (cls := E) (names := names) (ic := ic) hown2 hfit hnames hall (fun x hx => nomatch hx) hfX hkX hcellA (by rw [hhp, hT]; exact Nat.le_refl _) (msg := .ref sa) rfl
    (g := { method := m, pc := pc + 6, locals := ls, stack := .ref sa :: .ref T.heap.size :: .ref T.heap.size :: [], locked := none }) rfl (hll.1.trans hml.symm) rfl rfl (rest := []) rfl
    (by rw [hb]; exact d6) (by rw [hb]; exact d9) (fun x hx => (htab x hx).elim) hfr (by simp only [List.map_cons, List.map_nil, List.sum_cons, List.sum_nil, hcat]; show 2 * 0 + _ + _ ≤ _; omega) hlocks
  obtain ⟨f1, f2⟩ := jfr hsame
  rw [hhp] at f1 f2
  have f3 : ∀ q : Nat, q < H.size → U.heap[q]? = H[q]? := fun q hq => f2 q hq (fun z hz => nomatch hz)
  have hWs : s.WarmedH U.vm := State.WarmedH.trans hW0 hW
  have hcl : s.vm.findClass E = some ce.cls := by
    have h9 := hO.cls
    rw [hvm] at h9
    exact h9
  have hsm : s.sameButNew ({ U with vm := s.vm } : State) locs 1 6 := by
    subst hA
    obtain ⟨e1, e2⟩ := hsame
    rw [State.setFrames_setFrames] at e1
    have h2 : (T.setVm s.vm).sameButNew ({ U with vm := s.vm } : State) [] (0 + 1) (0 + 6) := ⟨e1, e2⟩
    have h3 := X.same.trans h2
    rw [List.append_nil] at h3
    exact h3.mono (Nat.le_refl _) (Nat.le_refl _)
  rw [K]
  refine ⟨U, ?_, .threw T.heap.size, hrun, hend, T.heap.size, ce, locs, rfl, hce2, hO.vm, hcl, hP.kept (fun k x hx => f3 x.1 (hP k x hx).lt), ⟨Nat.le_trans hS.1 f1, fun q h1 h2 => (f3 q (Nat.lt_of_lt_of_le h1 hS.1)).trans (hS.2.1 q h1 h2)⟩, hWs, hsm, hS.2.2⟩
  refine st1 _ ?_
  show Steps p.tables e below (T1.setTop { method := m, pc := pc + 3, locals := ls, stack := .ref T.heap.size :: [], locked := none }) _
  jvm_step X1.here [X1.here.top, hexec, d3', Value.category]
  exact X1.ldcString hexec (own := "WireField") (text := text) (index := is) (a := sa) hown2 hsa.1 hsa.2
    (g := { method := m, pc := pc + 4, locals := ls, stack := .ref T.heap.size :: .ref T.heap.size :: [], locked := none }) rfl d4' _ hsteps
