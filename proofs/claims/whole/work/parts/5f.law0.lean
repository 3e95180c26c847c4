
/-! the law's helpers: methods that catch -/
def jCW (l : Launch) (b : Nat) (D : va_G) (ta : Nat → ClassId) (y : MethodName) (cb : ByteArray) (mL : Nat) (ret : Option FieldType) (hs : List (Nat × Nat × Nat × Nat)) (rm : Room) (as : List Value) (σ : List va_E) (r : Option Value) (σ' : List va_E) : Prop :=
  Met l y (Cond.codeWith y cb mL ret hs :: jWS) rm (va_Pc as (fun U => jE b D ta U U.heap ∧ va_P D vwCl (jw b σ) U.heap ∧ (False → U.heap.size = b + σ.length))) (jQ b D False r σ') rm.cells rm.slots (fun q => b ≤ q)
theorem jCW_of {l : Launch} {b : Nat} {D : va_G} {ta : Nat → ClassId} {y : MethodName} {cb : ByteArray} {mL : Nat} {ret : Option FieldType} {hs : List (Nat × Nat × Nat × Nat)} {rm : Room} {as : List Value} {σ : List va_E} {r : Option Value} {σ' : List va_E}
    (hy : plainName y.cls = true) (hlen : (lg_sl as).length ≤ mL) {own : String} (ho : y.cls = own)
    (body : ∀ Γ : jG, jB l b D ta Γ own cb ret mL rm → Γ.2.2.2.2.2.2.2.2.1.exceptionTable.toList = tableOf hs → jR b D False Γ r σ' rm.cells rm.slots → jW l b D Γ False 0 0 mL σ (lv_args 0 as) 0 []) : jCW l b D ta y cb mL ret hs rm as σ r σ' := by
  subst ho
  unfold jCW Met
  refine MetFree.of_bodyS (code := cb) (maxLocals := mL) (ret := ret) hy ?_ ?_
  · intro args s m h hn
    obtain ⟨m2, meth, c, h0, h1, h2, h3, h4, h5, h6, h7, -⟩ := Cond.codeWith_spec (atoms_spec (ws := Cond.codeWith y cb mL ret hs :: jWS) h _ List.mem_cons_self)
    cases Option.some.inj (h0.symm.trans hn)
    exact ⟨meth, c, h1, h2, h3, h4, h6, h7⟩
  · intro p e s m args below meth c s₁ B hml hv _
    obtain ⟨rfl, hE, hP, hZ⟩ := hv
    have hts := atoms_spec (ws := Cond.codeWith y cb mL ret hs :: jWS) B.pre
    have hh0 : s₁.heap = s.heap := by rw [B.state]; rfl
    obtain ⟨m2, meth2, c2, q0, q1, q2, -, -, q5, -, -, -⟩ := Cond.codeWith_spec (hts _ List.mem_cons_self)
    cases Option.some.inj (q0.symm.trans B.named)
    have X0 := Stand.of_body B
    have hc2 : c2 = c := by
      have e1 : meth2 = meth := Option.some.inj (q1.symm.trans B.method)
      subst e1
      exact Option.some.inj (q2.symm.trans X0.code)
    subst hc2
    have hl := lv_entry as (n := mL) hlen
    have hb := body (p, e, rm, s, m, as.toArray, below, meth, c2, MQ below (jQ b D False r σ') as.toArray s rm.cells rm.slots (fun q => b ≤ q))
      ⟨B.exec, B.bytes, B.returns, hml, findClass_of_methodNamed B.named, fun w h => hts w (List.mem_cons_of_mem _ h), hE, B.notSynchronized, rfl, rfl⟩
      (by rw [← q5, table_eq]) rfl
    rw [lg_entry_eq]
    generalize (lg_sl as ++ List.replicate (mL - (lg_sl as).length) Slot.unset).toArray = ls at hl ⊢
    obtain ⟨t, a1, o, b1, b2, b3⟩ := hb ls s.heap [] hl hP va_S.rf hZ s₁ hh0 X0
    exact ⟨t, o, a1, b1, b2, b3⟩
set_option maxHeartbeats 4000000 in
theorem j_callSW {l : Launch} {b : Nat} {D : va_G} {ta : Nat → ClassId} {Γ : jG} {own : String} {cc : ByteArray} {ret : Option FieldType} {nL cs ss pc : Nat} {rm : Room} {σ : List va_E} {L : List (Nat × Value)} {rest : List Value} {y : MethodName} {cb : ByteArray} {mL : Nat} {ret' : Option FieldType} {hs : List (Nat × Nat × Nat × Nat)} {rm' : Room} {as : List Value} {r : Option Value} {σ' : List va_E} {st0 st1 : List Value} {index : Nat}
    (B : jB l b D ta Γ own cc ret nL rm) (hM : jCW l b D ta y cb mL ret' hs rm' as σ r σ') (hcw : Cond.codeWith y cb mL ret' hs ∈ jWS) (hini : Cond.initialized y.cls ∈ jWS) (hyy : y.cls ≠ "java/lang/invoke/MethodHandle" ∧ y.cls ≠ "java/lang/invoke/VarHandle") (hlink : Cond.methodLink own index y ∈ jWS) (hst : Cond.static y ∈ jWS) (hn : (parseMethodDescriptor y.desc).map (fun d => d.parameters.length) = some as.length) (hR : rm'.frames + 1 ≤ rm.frames ∧ 8 + (mL + 11) + rm'.locals ≤ rm.locals) (hc : cs + rm'.cells ≤ rm.cells ∧ ss + rm'.slots ≤ rm.slots) (hs0 : st0 = as.reverse ++ rest) (hs1 : r.toList ++ rest = st1) (hsum : (rest.map fun v => v.category).sum ≤ 8) (hdg : decode cc pc = .ok (.invokestatic index, 3))
    (kk : jW l b D Γ False (cs + rm'.cells) (ss + rm'.slots) nL σ' L (pc + 3) st1) : jW l b D Γ False cs ss nL σ L pc st0 := by
  subst hs0 hs1
  intro ls H locs hl hP hS hZ T9 hT X
  obtain ⟨p, e, R, s, m, args, below, meth, c, Q⟩ := Γ
  obtain ⟨hexec, hb, hret, hml, hown, hts, hJ, hlocks, hRR, -⟩ := B
  dsimp only at hexec hb hret hml hown hts hJ hlocks hRR hS X kk ⊢
  subst hRR
  obtain ⟨mk, methM, cM, hnamed, hmethM, hcM, -, hlM, -, -, -, hsigM⟩ := Cond.codeWith_spec (hts _ hcw)
  have hstatic : methM.isStatic = true := Cond.static_spec hnamed hmethM (hts _ hst)
  obtain ⟨kP, hkP, -⟩ := className_of_methodNamed hnamed
  have hinitP : kP.init = .initialized := Cond.initialized_spec (findClass_of_methodNamed hnamed) hkP (hts _ hini)
  have hlen : as.length = methM.sig.parameters.length := by
    rw [hsigM] at hn
    exact (Option.some.inj hn).symm
  obtain ⟨vm1, X1, hstep1⟩ := X.invokestatic hexec hown (hts _ hlink) hnamed hmethM hstatic hkP hinitP hyy (g := F0 m pc ls (as.reverse ++ rest)) rfl (argsL := as) (rest := rest) hlen rfl (by rw [hb]; exact hdg)
  obtain ⟨U, hU⟩ : ∃ z, z = T9.setVm vm1 := ⟨_, rfl⟩
  rw [← hU] at X1
  have hUh : U.heap = H := by rw [hU]; exact hT
  obtain ⟨g, hg⟩ : ∃ z, z = F0 m pc ls rest := ⟨_, rfl⟩
  have hgm : g.method = m := by rw [hg]
  have hgpc : g.pc = pc := by rw [hg]
  have hgst : g.stack = rest := by rw [hg]
  have hw1 : ∀ a9, ∀ w ∈ Cond.codeWith y cb mL ret' hs :: jWS, w.before a9 U = true := fun a9 w h => by
    rcases List.mem_cons.mp h with h9 | h9
    · rw [h9]; exact word_at X1.warmed (good_of_word (List.mem_filter.mp hcw).2) (hts _ hcw)
    · exact word_at X1.warmed (good_of_word (List.mem_filter.mp h9).2) (hts w h9)
  have hn1 := X1.named hnamed
  have h1 : (headSpec (Cond.codeWith y cb mL ret' hs :: jWS) rm').pre.before (as.toArray) U = true := atoms_intro fun w hw => hw1 _ w hw
  obtain ⟨kY, hkY, -⟩ := className_of_methodNamed hn1
  have hinitY : kY.init = .initialized := Cond.initialized_spec (findClass_of_methodNamed hn1) hkY (hw1 (as.toArray) _ (List.mem_cons_of_mem _ hini))
  obtain ⟨mY, methY, cY, hnY, hmY, hcY, -, hlY, -, -, -, -⟩ := Cond.codeWith_spec (hw1 (as.toArray) _ List.mem_cons_self)
  cases Option.some.inj (hnY.symm.trans hn1)
  have hAt : At U g.method c below := by rw [hgm]; exact X1.here
  have hPc : va_Pc as (fun U => jE b D ta U U.heap ∧ va_P D vwCl (jw b σ) U.heap ∧ (False → U.heap.size = b + σ.length)) (as.toArray) (U.calling g mk (as.toArray)) :=
    j_blind (ex := False) _ _ _ _ ⟨rfl, by rw [hUh]; exact jE.warm X1.warmed hS.2.1 hJ, by rw [hUh]; exact hP, fun h => h.elim⟩
  have hdg2 : decode c.code g.pc = .ok (.invokestatic index, 3) := by rw [hgpc, hb]; exact hdg
  have happ : (headSpec (Cond.codeWith y cb mL ret' hs :: jWS) rm').appliesLoose y e.platform (U.calling g mk (as.toArray)) = true :=
    Spec.appliesLoose_calling (g := g) hAt hdg2 hn1 hkY hinitY
      (X1.room_calling (g := g) (R' := rm') (by rw [hg]; exact hl.1.trans hml.symm) hmY hcY hR.1 (by rw [hlY, hg]; show 2 * 0 + (rest.map fun v => v.category).sum + _ + _ ≤ _; have := hR.2; omega) hc.1 hc.2) h1
  obtain ⟨mid, hmid⟩ := hAt.above
  have hfr : (U.setTop g).frames = (.java g :: mid) ++ below := by rw [State.frames_setTop' g hAt.top, hmid]; rfl
  unfold jCW Met at hM
  obtain ⟨o, s₂, hsteps, -, hend, hqq⟩ := Steps.callFree hM p X1.admits X1.cas X1.clock (acts := []) hfr happ hPc trivial
  have hqq2 : jQ b D False r σ' (as.toArray) (U.calling g mk (as.toArray)) o s₂ ∧ ∃ L9, FrameEnd (U.calling g mk (as.toArray)) o s₂ L9 rm'.cells rm'.slots ∧ ∀ q ∈ L9, b ≤ q.base := hqq
  obtain ⟨⟨rfl, hP2, hF2, -⟩, L9, hfe, hL⟩ := hqq2
  rw [State.frames_setTop' g hAt.top] at hend
  obtain ⟨g₀, hg0⟩ := Option.isSome_iff_exists.mp hAt.top
  obtain ⟨r0, hr⟩ := State.topJava?_eq_some.mp hg0
  have hr' : (({ U with heap := s₂.heap, slotsUsed := s₂.slotsUsed } : State).setVm s₂.vm).frames = .java g₀ :: r0 := hr
  obtain ⟨-, hW₂, e2, w2, w3, w4, w5, w6⟩ := id hfe
  have e3 : s₂ = ({ (U.calling g mk (as.toArray)).setFrames s₂.frames with heap := s₂.heap, slotsUsed := s₂.slotsUsed } : State).setVm s₂.vm := by
    have : s₂ = ({ s₂ with vm := (U.calling g mk (as.toArray)).vm } : State).setVm s₂.vm := rfl
    rw [e2] at this
    exact this
  obtain ⟨c₂, i₂, len₂, hc₂, hd₂, hf₂⟩ := hend
  have hW' : U.WarmedH s₂.vm := hW₂
  have hcc : c₂ = c := by
    have h9 : s₂.code? g.method = U.code? g.method := by
      rw [State.code?_eq, State.code?_eq, hW'.alike.method?]
    exact Option.some.inj (hc₂.symm.trans (h9.trans hAt.code))
  subst hcc
  have hlen2 : len₂ = 3 := by rw [hdg2] at hd₂; cases hd₂; rfl
  subst hlen2
  have hs₂ : s₂ = (({ U with heap := s₂.heap, slotsUsed := s₂.slotsUsed } : State).setVm s₂.vm).setTop { g with pc := g.pc + 3, stack := r.toList ++ g.stack } := by
    refine e3.trans ?_
    rw [hf₂, State.calling_eq hAt.top, State.setFrames_setFrames, State.setTop_of_frames _ hr', hr]
    rfl
  have hsame : U.sameButNew ({ U with heap := s₂.heap, slotsUsed := s₂.slotsUsed } : State) L9 rm'.cells rm'.slots := by
    refine ⟨?_, w2, w3, w4, w5, w6⟩
    obtain ⟨t, ht, -⟩ := State.frames_cons hr
    show ({ U with heap := s₂.heap, slotsUsed := s₂.slotsUsed } : State) = { U.setFrames U.frames with heap := s₂.heap, slotsUsed := s₂.slotsUsed }
    rw [State.setFrames_self ht]
  obtain ⟨U2, hU2⟩ : ∃ z, z = ({ U with heap := s₂.heap, slotsUsed := s₂.slotsUsed } : State).setVm s₂.vm := ⟨_, rfl⟩
  have X2 : Stand p l e R s m args below meth c₂ U2 (locs ++ L9) (cs + rm'.cells) (ss + rm'.slots) := by
    rw [hU2]
    exact ⟨X1.admits, X1.cas, X1.clock, X1.frames, X1.room, X1.hears, X1.method, X1.code, (X1.here.setHeapUsed s₂.heap s₂.slotsUsed).setVm hW'.alike, X1.tail, State.WarmedH.trans X1.warmed hW', X1.limits, X1.bytes, X1.same.trans (hsame.setVm s.vm)⟩
  have hU2h : U2.heap = s₂.heap := by rw [hU2]; rfl
  have f1 := hF2.1
  have f2 := hF2.2
  have hUc : (U.calling g mk (as.toArray)).heap = H := hUh
  rw [hUc] at f1 f2
  obtain ⟨t, a1, b1⟩ := kk ls s₂.heap (locs ++ L9) hl hP2 ⟨Nat.le_trans hS.1 f1, fun a h1 h2 => by rw [f2 a (Nat.lt_of_lt_of_le h1 hS.1) h2]; exact hS.2.1 a h1 h2, fun z hz => (List.mem_append.mp hz).elim (hS.2.2 z) (hL z)⟩ (fun h => h.elim) U2 hU2h X2
  refine ⟨t, ?_, b1⟩
  refine hstep1 _ fun acts => ?_
  rw [doInvoke_state]
  have h9 := hsteps
  rw [hs₂, ← hU2] at h9
  rw [hg, hU] at h9
  rw [← hU]
  rw [← hU] at h9
  exact h9.trans a1
