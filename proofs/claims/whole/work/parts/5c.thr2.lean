
/-! a call that throws, caught by its caller -/
set_option maxHeartbeats 4000000 in
theorem j_callT {l : Launch} {b : Nat} {D : va_G} {ta : Nat → ClassId} {Γ : jG} {own : String} {cc : ByteArray} {ret : Option FieldType} {nL cs ss pc : Nat} {rm : Room} {σ : List va_E} {L : List (Nat × Value)} {rest : List Value} {y : MethodName} {cb : ByteArray} {mL : Nat} {ret' : Option FieldType} {rm' : Room} {as : List Value} {σ' : List va_E} {st0 : List Value} {n index q : Nat} {E : String} {C : String} {T : u_T} {N ci : Nat} {fs : List Value}
    (B : jB l b D ta Γ own cc ret nL rm) (hM : jTh l b D ta y cb mL ret' rm' (.ref (b + q) :: as) σ E σ') (hY : jY y cb mL ret' n) (hlink : Cond.methodLink own index y ∈ jWS) (hin : Cond.instanceMethod y ∈ jWS) (hse : Cond.selects C y y ∈ jWS) (hcl : vwCl[ci]? = some (C, T, N)) (hq : σ[q]? = some (.inr (ci, fs))) (hn : as.length = n) (hR : rm'.frames + 1 ≤ rm.frames ∧ 8 + (mL + 11) + rm'.locals ≤ rm.locals) (hc : cs + rm'.cells ≤ rm.cells ∧ ss + rm'.slots ≤ rm.slots) (hs0 : st0 = as.reverse ++ .ref (b + q) :: rest) (hsum : (rest.map fun v => v.category).sum ≤ 8) (hdg : decode cc pc = .ok (.invokevirtual index, 3))
    {pre suf : List ExceptionTableEntry} {x : ExceptionTableEntry} (htb : Γ.2.2.2.2.2.2.2.2.1.exceptionTable.toList = pre ++ x :: suf) (hpass : ∀ z ∈ pre, z.catchType ≠ 0 ∧ ∃ nm : String, Cond.classLink own z.catchType nm ∈ jWS ∧ (E, nm) ∈ jnc) (hx : covers x pc = true) (h0 : x.catchType ≠ 0) (hxl : Cond.classLink own x.catchType E ∈ jWS) (hE : E ∈ jex)
    (kk : ∀ q9 : Nat, jW l b D Γ False (cs + rm'.cells) (ss + rm'.slots) nL σ' L x.handlerPc [.ref q9]) : jW l b D Γ False cs ss nL σ L pc st0 := by
  subst hs0
  intro ls H locs hl hP hS hZ T9 hT X
  obtain ⟨p, e, R, s, m, args, below, meth, c, Q⟩ := Γ
  obtain ⟨hexec, hb, hret, hml, hown, hts, hJ, hlocks, hRR, -⟩ := B
  dsimp only at hexec hb hret hml hown hts hJ hlocks hRR hS X htb kk ⊢
  subst hRR
  have hpl : e.platform.magicAccessors = ({} : Platform).magicAccessors := by rw [X.admits.platform]
  have hcode := hts _ hY.1
  have hyy : y.cls ≠ "java/lang/invoke/MethodHandle" ∧ y.cls ≠ "java/lang/invoke/VarHandle" := ⟨hY.2.2.1, hY.2.2.2.1⟩
  obtain ⟨cellB, hcB, hoB, hclB⟩ := va_recv hJ.1 hP hcl (jw_at hq)
  obtain ⟨mk, methM, hnamed, hmethM, hstM, habM⟩ := Cond.instanceMethod_spec (hts _ hin)
  obtain ⟨methM', cM, hmethM', hcM, -, hlM, -, -, -, hsigM⟩ := Cond.code_spec hnamed hcode
  cases hmethM.symm.trans hmethM'
  obtain ⟨c2, r2, m2, q1, q2, q3, q4, kP, hkP, hkPi⟩ := Cond.selects_spec (hts _ hse)
  cases hclB.symm.trans q1
  cases (State.methodFound?_of_named hnamed hyy).symm.trans q2
  cases hnamed.symm.trans q3
  have hselP : selectMethod e.platform s.vm cellB.cls mk = .method mk := by rw [Launch.admits_selectMethod X.admits]; exact q4
  have hlen : as.length = methM.sig.parameters.length := by
    have h5 := hY.2.2.2.2
    rw [hsigM] at h5
    exact hn.trans (Option.some.inj h5).symm
  obtain ⟨vm1, X1, hstep1⟩ := X.invokevirtual hexec hown (hts _ hlink) hnamed hmethM hstM hkP hkPi hyy (a := b + q) (cell := cellB) (by rw [hT]; exact hcB)
    (fun z h => by rw [h] at hoB; cases hoB) hselP hmethM habM hkP hkPi (g := F0 m pc ls (as.reverse ++ .ref (b + q) :: rest)) rfl (argsL := as) (rest := rest) hlen rfl (by rw [hb]; exact hdg)
  obtain ⟨U, hU⟩ : ∃ z, z = T9.setVm vm1 := ⟨_, rfl⟩
  rw [← hU] at X1
  have hUh : U.heap = H := by rw [hU]; exact hT
  obtain ⟨g, hg⟩ : ∃ z, z = F0 m pc ls rest := ⟨_, rfl⟩
  have hgm : g.method = m := by rw [hg]
  have hgpc : g.pc = pc := by rw [hg]
  have hw1 : ∀ a9, ∀ w ∈ Cond.code y cb mL ret' :: jWS, w.before a9 U = true := fun a9 w h => by
    rcases List.mem_cons.mp h with h9 | h9
    · rw [h9]; exact word_at X1.warmed (good_of_word (List.mem_filter.mp hY.1).2) hcode
    · exact word_at X1.warmed (good_of_word (List.mem_filter.mp h9).2) (hts w h9)
  have hn1 := X1.named hnamed
  have h1 : (headSpec (Cond.code y cb mL ret' :: jWS) rm').pre.before ((Value.ref (b + q) :: as).toArray) U = true := atoms_intro fun w hw => hw1 _ w hw
  obtain ⟨kY, hkY, -⟩ := className_of_methodNamed hn1
  have hinitY : kY.init = .initialized := Cond.initialized_spec (findClass_of_methodNamed hn1) hkY (hw1 ((Value.ref (b + q) :: as).toArray) _ (List.mem_cons_of_mem _ hY.2.1))
  obtain ⟨methY, cY, hmY, hcY, -, hlY, -, -, -, -⟩ := Cond.code_spec hn1 (hw1 ((Value.ref (b + q) :: as).toArray) _ List.mem_cons_self)
  have hAt : At U g.method c below := by rw [hgm]; exact X1.here
  have hPc : va_Pc (.ref (b + q) :: as) (fun U => jE b D ta U U.heap ∧ va_P D vwCl (jw b σ) U.heap ∧ (False → U.heap.size = b + σ.length)) ((Value.ref (b + q) :: as).toArray) (U.calling g mk ((Value.ref (b + q) :: as).toArray)) :=
    j_blind (ex := False) _ _ _ _ ⟨rfl, by rw [hUh]; exact jE.warm X1.warmed hS.2.1 hJ, by rw [hUh]; exact hP, fun h => h.elim⟩
  have happ : (headSpec (Cond.code y cb mL ret' :: jWS) rm').appliesLoose y e.platform (U.calling g mk ((Value.ref (b + q) :: as).toArray)) = true :=
    Spec.appliesLoose_calling (g := g) hAt (by rw [hgpc, hb]; exact hdg) hn1 hkY hinitY
      (X1.room_calling (g := g) (R' := rm') (by rw [hg]; exact hl.1.trans hml.symm) hmY hcY hR.1 (by rw [hlY, hg]; show 2 * 0 + (rest.map fun v => v.category).sum + _ + _ ≤ _; have := hR.2; omega) hc.1 hc.2) h1
  obtain ⟨mid, hmid⟩ := hAt.above
  have hfr : (U.setTop g).frames = (.java g :: mid) ++ below := by rw [State.frames_setTop' g hAt.top, hmid]; rfl
  obtain ⟨o, s₂, hsteps, -, hend, hqq⟩ := Steps.callFree hM p X1.admits X1.cas X1.clock (acts := []) hfr happ hPc trivial
  have hqq2 : jQT b D E σ' rm'.cells rm'.slots ((Value.ref (b + q) :: as).toArray) (U.calling g mk ((Value.ref (b + q) :: as).toArray)) o s₂ := hqq
  obtain ⟨q9, ce, L9, rfl, hce, hcv, hclE, hP2, hF2, hW₂, hsm, hL⟩ := hqq2
  rw [State.frames_setTop' g hAt.top] at hend
  obtain ⟨g₀, hg0⟩ := Option.isSome_iff_exists.mp hAt.top
  obtain ⟨r, hr⟩ := State.topJava?_eq_some.mp hg0
  have hr' : (({ U with heap := s₂.heap, slotsUsed := s₂.slotsUsed } : State).setVm s₂.vm).frames = .java g₀ :: r := hr
  obtain ⟨e2, w2, w3, w4, w5, w6⟩ := id hsm
  have e3 : s₂ = ({ (U.calling g mk ((Value.ref (b + q) :: as).toArray)).setFrames s₂.frames with heap := s₂.heap, slotsUsed := s₂.slotsUsed } : State).setVm s₂.vm := by
    have : s₂ = ({ s₂ with vm := (U.calling g mk ((Value.ref (b + q) :: as).toArray)).vm } : State).setVm s₂.vm := rfl
    rw [e2] at this
    exact this
  have hf₂ : s₂.frames = .throwing q9 :: .java g :: U.frames.tail := hend
  have hW' : U.WarmedH s₂.vm := hW₂
  have hs₂ : s₂ = ((({ U with heap := s₂.heap, slotsUsed := s₂.slotsUsed } : State).setVm s₂.vm).setTop g).pushFrame (.throwing q9) := by
    refine e3.trans ?_
    rw [hf₂, State.calling_eq hAt.top, State.setFrames_setFrames, State.pushFrame, State.frames_setTop _ hr', State.setTop_of_frames _ hr', State.setFrames_setFrames, hr]
    rfl
  have hsame : U.sameButNew ({ U with heap := s₂.heap, slotsUsed := s₂.slotsUsed } : State) L9 rm'.cells rm'.slots := by
    refine ⟨?_, w2, w3, w4, w5, w6⟩
    obtain ⟨t, ht, -⟩ := State.frames_cons hr
    show ({ U with heap := s₂.heap, slotsUsed := s₂.slotsUsed } : State) = { U.setFrames U.frames with heap := s₂.heap, slotsUsed := s₂.slotsUsed }
    rw [State.setFrames_self ht]
  obtain ⟨U2, hU2⟩ : ∃ z, z = ({ U with heap := s₂.heap, slotsUsed := s₂.slotsUsed } : State).setVm s₂.vm := ⟨_, rfl⟩
  have X2 : Stand p l e R s m args below meth c U2 (locs ++ L9) (cs + rm'.cells) (ss + rm'.slots) := by
    rw [hU2]
    exact ⟨X1.admits, X1.cas, X1.clock, X1.frames, X1.room, X1.hears, X1.method, X1.code, (X1.here.setHeapUsed s₂.heap s₂.slotsUsed).setVm hW'.alike, X1.tail, State.WarmedH.trans X1.warmed hW', X1.limits, X1.bytes, X1.same.trans (hsame.setVm s.vm)⟩
  have hU2h : U2.heap = s₂.heap := by rw [hU2]; rfl
  have hEs : s.vm.findClass E = some ce.cls := by
    have h9 : U.vm.findClass E = some ce.cls := hclE
    rw [X1.warmed.alike.findClass] at h9
    exact h9
  obtain ⟨-, -, -, -, -, -, t5, t6⟩ := hJ.2.2
  obtain ⟨cE, hcE, hasg⟩ := t6 E hE
  cases Option.some.inj (hcE.symm.trans hEs)
  obtain ⟨c5, hc5, hcl5⟩ := Cond.classLink_spec hown (hts _ hxl) e.platform hpl
  cases Option.some.inj (hcE.symm.trans hc5)
  have hcome : Steps p.tables e below (T9.setTop (F0 m pc ls (as.reverse ++ .ref (b + q) :: rest))) ((U2.setTop g).pushFrame (.throwing q9)) := by
    refine hstep1 _ fun acts => ?_
    rw [doInvoke_state, hU2, ← hs₂]
    have h9 := hsteps
    rw [hg, hU] at h9
    exact h9
  obtain ⟨vm', X', st⟩ := X2.thenCaughtThrough q9 (g := g) hgm hcome (by rw [hU2h]; exact hce) (by rw [hcv]; rfl) (by obtain ⟨k9, h9, -⟩ := Vm.findClass_spec hEs; exact ⟨k9, h9⟩) pre x suf htb
    (fun z hz => by
      obtain ⟨hz0, nm, hl1, hn9⟩ := hpass z hz
      obtain ⟨c6, hc6, hcl6⟩ := Cond.classLink_spec hown (hts _ hl1) e.platform hpl
      obtain ⟨a8, b8, k1, k2, k3⟩ := t5 _ hn9
      cases Option.some.inj (k1.symm.trans hEs)
      cases Option.some.inj (k2.symm.trans hc6)
      exact Or.inr ⟨hz0, _, hcl6, k3⟩) (by rw [hgpc]; exact hx) (Or.inr ⟨h0, _, hcl5, hasg⟩)
  have hUc : (U.calling g mk ((Value.ref (b + q) :: as).toArray)).heap = H := hUh
  have f1 := hF2.1
  have f2 := hF2.2
  rw [hUc] at f1 f2
  obtain ⟨t, a1, b1⟩ := kk q9 ls s₂.heap (locs ++ L9) hl hP2 ⟨Nat.le_trans hS.1 f1, fun a h1 h2 => by rw [f2 a (Nat.lt_of_lt_of_le h1 hS.1) h2]; exact hS.2.1 a h1 h2, fun z hz => (List.mem_append.mp hz).elim (hS.2.2 z) (hL z)⟩ (fun h => h.elim) (U2.setVm vm') (by show U2.heap = _; rw [hU2h]) X'
  refine ⟨t, st.trans ?_, b1⟩
  rw [hg]
  exact a1
