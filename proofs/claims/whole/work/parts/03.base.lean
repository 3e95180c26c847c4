section JA
/-- the abstract heap: a list of cells, from the address b on -/
def jw (b : Nat) (σ : List va_E) : va_W := σ.mapIdx (fun k e => (b + k, e))
theorem jw_len (b : Nat) (σ : List va_E) : (jw b σ).length = σ.length := by simp [jw]
theorem jw_get (b : Nat) (σ : List va_E) (k : Nat) : (jw b σ)[k]? = (σ[k]?).map (fun e => (b + k, e)) := by simp [jw]
theorem jw_at {b : Nat} {σ : List va_E} {k : Nat} {e : va_E} (h : σ[k]? = some e) : (jw b σ)[k]? = some (b + k, e) := by rw [jw_get, h]; rfl
theorem jw_set (b : Nat) (σ : List va_E) (k : Nat) (e : va_E) : (jw b σ).set k (b + k, e) = jw b (σ.set k e) := by
  apply List.ext_getElem?
  intro i
  rw [List.getElem?_set, jw_get, jw_get, List.getElem?_set, jw_len]
  by_cases h : k = i
  · subst h
    by_cases h2 : k < σ.length <;> simp [h2]
  · simp [h]
theorem jw_push (b : Nat) (σ : List va_E) (e : va_E) : jw b (σ ++ [e]) = jw b σ ++ [(b + σ.length, e)] := by simp [jw, List.mapIdx_append]
theorem jw_D {b : Nat} {σ : List va_E} : va_D (fun q => b ≤ q) (jw b σ) := by
  refine ⟨fun i j p q hi hj hpq => ?_, fun k q hk => ?_⟩
  · rw [jw_get] at hi hj
    obtain ⟨e1, -, rfl⟩ := Option.map_eq_some_iff.mp hi
    obtain ⟨e2, -, rfl⟩ := Option.map_eq_some_iff.mp hj
    have h : b + i = b + j := hpq
    omega
  · rw [jw_get] at hk
    obtain ⟨e1, -, rfl⟩ := Option.map_eq_some_iff.mp hk
    exact Nat.le_add_right _ _
theorem js {α : Type} {σ : List α} {k : Nat} {e0 e : α} (h : σ[k]? = some e0) : (σ.set k e)[k]? = some e := by
  have h1 := (List.getElem?_eq_some_iff.mp h).1
  simp [h1]
theorem jn {α : Type} {σ : List α} {k i : Nat} {e e1 : α} (hne : k ≠ i) (h : σ[i]? = some e1) : (σ.set k e)[i]? = some e1 := by
  rw [List.getElem?_set_ne hne]; exact h
/-- the tables' words that go along into every callee, and those of nest mates -/
def jWS : List Cond := lw_tbl.filter goodWord
def jNst : Cond → Bool
  | .fieldLinkNest _ _ _ _ _ _ => true
  | .methodLinkNest _ _ _ _ => true
  | _ => false
def jNW : List Cond := lw_tbl.filter jNst
theorem jWS_in {w : Cond} (i : Nat) (h : lw_tbl[i]? = some w) (g : goodWord w = true) : w ∈ jWS := List.mem_filter.mpr ⟨List.mem_of_getElem? h, g⟩
theorem jNW_in {w : Cond} (i : Nat) (h : lw_tbl[i]? = some w) (g : jNst w = true) : w ∈ jNW := List.mem_filter.mpr ⟨List.mem_of_getElem? h, g⟩
theorem jNW_tab {w : Cond} (h : w ∈ jNW) : w.onTables = true := by
  have h1 := (List.mem_filter.mp h).2
  cases w <;> first | rfl | (simp [jNst] at h1)
theorem jNW_warm {w : Cond} (h : w ∈ jNW) {s U : State} (hW : s.WarmedH U.vm) (hZ : va_Nw w s) : va_Nw w U := by
  have h1 := (List.mem_filter.mp h).2
  cases w <;> first | exact va_Nw.warmF hW hZ | exact va_Nw.warmM hW hZ | (simp [jNst] at h1)
theorem jGood {w : Cond} (hc : w ∈ jWS) : GoodIn jWS (w :: jWS) := by
  intro v hv
  rcases List.mem_cons.mp hv with h | h
  · rw [h]; exact ⟨hc, good_of_word (List.mem_filter.mp hc).2⟩
  · exact ⟨h, good_of_word (List.mem_filter.mp h).2⟩
end JA
section JS
/-- the array types, by number -/
def jT (ta : Nat → ClassId) : List (ClassId × FieldType) := [(ta 0, .int), (ta 1, .char), (ta 2, .boolean), (ta 3, .long), (ta 4, .object "WireField$Text"), (ta 5, .object "WireField$Source"), (ta 6, .object "WireField$Probe"), (ta 7, .object "WireField$Moment")]
def jcs (j : Nat) : Int32 := [0, 1, 0, -1].getD j 0
def jrs (j : Nat) : Int32 := [-1, 0, 1, 0].getD j 0
/-- the bytes of the orders of one sign -/
def jord (j : Nat) : Int32 := [70, 66, 82, 76, 85, 68, 69, 87, 60].getD j 0
/-- what is known of statics: the steps -/
def jX1 (b : Nat) (U : State) (H : Heap) : Prop := ∃ t1 t2 : Nat, va_Z "WireField" "COLUMN_STEPS" "[I" (.ref t1) (fun q => b ≤ q) U H ∧ va_T .int t1 4 (fun j => .int (jcs j)) (fun q => b ≤ q) U H ∧ va_Z "WireField" "ROW_STEPS" "[I" (.ref t2) (fun q => b ≤ q) U H ∧ va_T .int t2 4 (fun j => .int (jrs j)) (fun q => b ≤ q) U H
/-- the text of the orders of one sign -/
def jStr (b aK aV : Nat) (U : State) (H : Heap) : Prop := va_O "java/lang/String" aK (fun q => b ≤ q) U H ∧ va_OF "java/lang/String" "coder" "B" (.int 0) aK (fun q => b ≤ q) U H ∧ va_OF "java/lang/String" "value" "[B" (.ref aV) aK (fun q => b ≤ q) U H ∧ va_T .byte aV 9 (fun j => .int (jord j)) (fun q => b ≤ q) U H ∧ va_Z "java/lang/String" "COMPACT_STRINGS" "Z" (.int 1) (fun q => b ≤ q) U H
/-- its address and that of its bytes are ta 100, ta 101 (names of the whole run, like the classes' numbers) -/
def jX2 (b : Nat) (ta : Nat → ClassId) (U : State) (H : Heap) : Prop := vk_R "WireField$Text" 51 "FBRLUDEW<" (ta 100) U ∧ jStr b (ta 100) (ta 101) U H
/-- a static field that holds a reference or null, with its lay -/
def jLS (C n d : String) (b : Nat) (U : State) (H : Heap) : Prop := ∃ (c : ClassId) (k : Class) (i : Nat) (f : Field) (a : Nat) (cell : Cell) (v : Value), U.vm.findClass C = some c ∧ U.fieldFound? C n d = some (c, k, i, f) ∧ f.isStatic = true ∧ k.statics = some a ∧ H[a]? = some cell ∧ cell.vm.isStatics = true ∧ cell.cls = c ∧ f.slot < cell.slots.size ∧ k.staticTypes[f.slot]? = some f.type ∧ cell.slots[f.slot]? = some v ∧ v.isRef = true ∧ ¬ b ≤ a
/-- the texts of the class's throws -/
def jtx : List (Nat × String) := [(85, "there is no such cell or direction"), (100, "the line can not be drawn"), (116, "the line leads beyond the field or does too many orders"), (135, "there is no such macro"), (137, "the line can not be this macro"), (189, "there is no such probe or what")]
/-- the classes over which the constructor makes arrays -/
def jao : List String := ["WireField$Text", "WireField$Source", "WireField$Probe", "WireField$Moment"]
/-- the classes that are thrown: which is which -/
def jex : List String := ["java/lang/IndexOutOfBoundsException", "java/lang/IllegalArgumentException", "java/lang/UnsupportedOperationException"]
def jnc : List (String × String) := [("java/lang/IllegalArgumentException", "java/lang/IndexOutOfBoundsException"), ("java/lang/UnsupportedOperationException", "java/lang/IndexOutOfBoundsException"), ("java/lang/UnsupportedOperationException", "java/lang/IllegalArgumentException")]
def jCa (C : String) (U : State) : Prop := ∃ c : ClassId, U.vm.findClass C = some c ∧ U.vm.assignable c c = true
theorem jCa.moved {C : String} {u U : State} (hvm : u.vm.Alike U.vm) (h : jCa C u) : jCa C U := by
  obtain ⟨c, h1, h2⟩ := h
  exact ⟨c, by rw [hvm.findClass]; exact h1, by rw [hvm.assignable]; exact h2⟩
def jX3 (b : Nat) (U : State) (H : Heap) : Prop := (∀ q ∈ jtx, ∃ a : Nat, vk_R "WireField" q.1 q.2 a U) ∧ jLS "java/lang/Throwable" "UNASSIGNED_STACK" "[Ljava/lang/StackTraceElement;" b U H ∧ jLS "java/lang/Throwable" "SUPPRESSED_SENTINEL" "Ljava/util/List;" b U H ∧ (∀ C ∈ jao, va_AO C U) ∧ (∀ q ∈ jnc, va_Nc q.1 q.2 U) ∧ ∀ C ∈ jex, jCa C U
def jX (b : Nat) (ta : Nat → ClassId) (U : State) (H : Heap) : Prop := jX1 b U H ∧ jX2 b ta U H ∧ jX3 b U H
theorem jLS.moved {C n d : String} {b : Nat} {u U : State} {H : Heap} (hvm : u.vm.Alike U.vm) (h : jLS C n d b u H) : jLS C n d b U H := by
  obtain ⟨c, k, i, f, a, cell, v, h1, h2, h3, h4, h5, h6, h7, h8, h9, h10⟩ := h
  obtain ⟨k', hi', he⟩ := State.fieldFound?_setVm hvm h2
  exact ⟨c, k', i, f, a, cell, v, by rw [hvm.findClass]; exact h1, hi', h3, by rw [he]; exact h4, h5, h6, h7, h8, by rw [he]; exact h9, h10⟩
theorem jLS.kept {C n d : String} {b : Nat} {U : State} {H H1 : Heap} (hk : ∀ a : Nat, a < H.size → ¬ b ≤ a → H1[a]? = H[a]?) (h : jLS C n d b U H) : jLS C n d b U H1 := by
  obtain ⟨c, k, i, f, a, cell, v, h1, h2, h3, h4, h5, h6, h7, h8, h9, h10, h11, h12⟩ := h
  exact ⟨c, k, i, f, a, cell, v, h1, h2, h3, h4, by rw [hk a (Array.getElem?_eq_some_iff.mp h5).1 h12]; exact h5, h6, h7, h8, h9, h10, h11, h12⟩
theorem jStr.moved {b aK aV : Nat} {u U : State} {H : Heap} (hvm : u.vm.Alike U.vm) (h : jStr b aK aV u H) : jStr b aK aV U H := ⟨va_O.moved hvm h.1, va_OF.moved hvm h.2.1, va_OF.moved hvm h.2.2.1, va_T.moved hvm h.2.2.2.1, va_Z.moved hvm h.2.2.2.2⟩
theorem jStr.kept {b aK aV : Nat} {U : State} {H H1 : Heap} (hk : ∀ a : Nat, a < H.size → ¬ b ≤ a → H1[a]? = H[a]?) (h : jStr b aK aV U H) : jStr b aK aV U H1 := ⟨h.1.kept hk, h.2.1.kept hk, h.2.2.1.kept hk, h.2.2.2.1.kept hk, h.2.2.2.2.kept hk⟩
theorem jX.warm {b : Nat} {ta : Nat → ClassId} {s U : State} {H H1 : Heap} (hW : s.WarmedH U.vm) (hk : ∀ a : Nat, a < H.size → ¬ b ≤ a → H1[a]? = H[a]?) (h : jX b ta s H) : jX b ta U H1 := by
  obtain ⟨⟨t1, t2, h1, h2, h3, h4⟩, ⟨h5, h6⟩, h7, h8, h9, h10, h11, h12⟩ := h
  have hA := hW.alike
  exact ⟨⟨t1, t2, va_Z.moved hA (h1.kept hk), va_T.moved hA (h2.kept hk), va_Z.moved hA (h3.kept hk), va_T.moved hA (h4.kept hk)⟩, ⟨vk_R.warm hW h5, (h6.kept hk).moved hA⟩, fun q hq => (h7 q hq).elim (fun a ha => ⟨a, vk_R.warm hW ha⟩), (h8.kept hk).moved hA, (h9.kept hk).moved hA, fun C hC => va_AO.moved hA (h10 C hC), fun q hq => va_Nc.moved hA (h11 q hq), fun C hC => jCa.moved hA (h12 C hC)⟩
theorem jX.same {b : Nat} {ta : Nat → ClassId} {s U : State} {H : Heap} (hv : s.vm = U.vm) (h : jX b ta s H) : jX b ta U H := by
  obtain ⟨⟨t1, t2, h1, h2, h3, h4⟩, ⟨h5, h6⟩, h7, h8, h9, h10, h11, h12⟩ := h
  have hA : s.vm.Alike U.vm := by rw [hv]; exact Vm.Alike.refl U.vm
  exact ⟨⟨t1, t2, va_Z.moved hA h1, va_T.moved hA h2, va_Z.moved hA h3, va_T.moved hA h4⟩, ⟨vk_R.same hv.symm h5, h6.moved hA⟩, fun q hq => (h7 q hq).elim (fun a ha => ⟨a, vk_R.same hv.symm ha⟩), h8.moved hA, h9.moved hA, fun C hC => va_AO.moved hA (h10 C hC), fun q hq => va_Nc.moved hA (h11 q hq), fun C hC => jCa.moved hA (h12 C hC)⟩
end JS
section JB
/-- what holds of the tables and of the statics in every frame -/
def jE (b : Nat) (D : va_G) (ta : Nat → ClassId) (U : State) (H : Heap) : Prop := va_K D vwCl (jT ta) U ∧ (∀ w ∈ jNW, va_Nw w U) ∧ jX b ta U H
theorem jE.warm {b : Nat} {D : va_G} {ta : Nat → ClassId} {s U : State} {H H1 : Heap} (hW : s.WarmedH U.vm) (hk : ∀ a : Nat, a < H.size → ¬ b ≤ a → H1[a]? = H[a]?) (h : jE b D ta s H) : jE b D ta U H1 :=
  ⟨va_K.moved hW.alike h.1, fun w hw => jNW_warm hw hW (h.2.1 w hw), jX.warm hW hk h.2.2⟩
theorem jE.same {b : Nat} {D : va_G} {ta : Nat → ClassId} {s U : State} {H : Heap} (hv : s.vm = U.vm) (h : jE b D ta s H) : jE b D ta U H :=
  ⟨va_K.moved (by rw [hv]; exact Vm.Alike.refl U.vm) h.1, fun w hw => va_Nw.same (jNW_tab hw) hv (h.2.1 w hw), jX.same hv h.2.2⟩
/-- program, env, room, state at the entry, method, args, frames below, method, code, what is owed at the end -/
abbrev jG : Type := Program × Env × Room × State × MethodId × Array Value × List Frame × Method × Code × (State → Prop)
def jB (l : Launch) (b : Nat) (D : va_G) (ta : Nat → ClassId) (Γ : jG) (own : String) (cc : ByteArray) (ret : Option FieldType) (nL : Nat) (rm : Room) : Prop :=
  Γ.1.tables.exec = Jvm.exec ∧ Γ.2.2.2.2.2.2.2.2.1.code = cc ∧ Γ.2.2.2.2.2.2.2.1.sig.returnType = ret ∧ Γ.2.2.2.2.2.2.2.2.1.maxLocals = nL ∧ Γ.2.2.2.1.vm.findClass own = some Γ.2.2.2.2.1.cls ∧ (∀ w ∈ jWS, w.before Γ.2.2.2.2.2.1 Γ.2.2.2.1 = true) ∧ jE b D ta Γ.2.2.2.1 Γ.2.2.2.1.heap ∧ Γ.2.2.2.2.2.2.2.1.locks = false ∧ Γ.2.2.1 = rm ∧ l = l
def jW (l : Launch) (b : Nat) (D : va_G) (Γ : jG) (ex : Prop) (cs ss nL : Nat) (σ : List va_E) (L : List (Nat × Value)) (pc : Nat) (st : List Value) : Prop :=
  ∀ (ls : Array Slot) (H : Heap) (locs : List Loc), lv_has ls nL L → va_P D vwCl (jw b σ) H → va_S (fun q => b ≤ q) Γ.2.2.2.1.heap H locs → (ex → H.size = b + σ.length) →
    W Γ.1 l Γ.2.1 Γ.2.2.1 Γ.2.2.2.1 Γ.2.2.2.2.1 Γ.2.2.2.2.2.1 Γ.2.2.2.2.2.2.1 Γ.2.2.2.2.2.2.2.1 Γ.2.2.2.2.2.2.2.2.1 H locs cs ss Γ.2.2.2.2.2.2.2.2.2 (F0 Γ.2.2.2.2.1 pc ls st)
def jQ (b : Nat) (D : va_G) (ex : Prop) (r : Option Value) (σ' : List va_E) : Array Value → State → Outcome → State → Prop := fun _ st oc t =>
  oc = .returned r ∧ va_P D vwCl (jw b σ') t.heap ∧ va_F (fun q => b ≤ q) st t ∧ (ex → t.heap.size = b + σ'.length)
/-- a contract: at these arguments and this heap the method returns r, and the heap is σ' -/
def jC (l : Launch) (b : Nat) (D : va_G) (ta : Nat → ClassId) (ex : Prop) (y : MethodName) (cb : ByteArray) (mL : Nat) (ret : Option FieldType) (rm : Room) (as : List Value) (σ : List va_E) (r : Option Value) (σ' : List va_E) : Prop :=
  Met l y (Cond.code y cb mL ret :: jWS) rm (va_Pc as (fun U => jE b D ta U U.heap ∧ va_P D vwCl (jw b σ) U.heap ∧ (ex → U.heap.size = b + σ.length))) (jQ b D ex r σ') rm.cells rm.slots (fun q => b ≤ q)
def jR (b : Nat) (D : va_G) (ex : Prop) (Γ : jG) (r : Option Value) (σ' : List va_E) (mc ms : Nat) : Prop :=
  Γ.2.2.2.2.2.2.2.2.2 = MQ Γ.2.2.2.2.2.2.1 (jQ b D ex r σ') Γ.2.2.2.2.2.1 Γ.2.2.2.1 mc ms (fun q => b ≤ q)
theorem jC_of {l : Launch} {b : Nat} {D : va_G} {ta : Nat → ClassId} {ex : Prop} {y : MethodName} {cb : ByteArray} {mL : Nat} {ret : Option FieldType} {rm : Room} {as : List Value} {σ : List va_E} {r : Option Value} {σ' : List va_E}
    (hy : plainName y.cls = true) (hlen : (lg_sl as).length ≤ mL) {own : String} (ho : y.cls = own)
    (body : ∀ Γ : jG, jB l b D ta Γ own cb ret mL rm → jR b D ex Γ r σ' rm.cells rm.slots → jW l b D Γ ex 0 0 mL σ (lv_args 0 as) 0 []) : jC l b D ta ex y cb mL ret rm as σ r σ' := by
  subst ho
  refine Met.ofW (cc := cb) (maxL := mL) (ret := ret) hy rfl ?_
  intro p e s m args below meth c s₁ B hml hv
  obtain ⟨rfl, hE, hP, hZ⟩ := hv
  have hts := atoms_spec (ws := Cond.code y cb mL ret :: jWS) B.pre
  have hl := lv_entry as (n := mL) hlen
  rw [lg_entry_eq]
  generalize (lg_sl as ++ List.replicate (mL - (lg_sl as).length) Slot.unset).toArray = ls at hl ⊢
  exact body (p, e, rm, s, m, as.toArray, below, meth, c, MQ below (jQ b D ex r σ') as.toArray s rm.cells rm.slots (fun q => b ≤ q))
    ⟨B.exec, B.bytes, B.returns, hml, findClass_of_methodNamed B.named, fun w h => hts w (List.mem_cons_of_mem _ h), hE, B.notSynchronized, rfl, rfl⟩ rfl ls s.heap [] hl hP va_S.rf hZ
variable {l : Launch} {b : Nat} {D : va_G} {ta : Nat → ClassId} {Γ : jG} {ex : Prop} {own : String} {cc : ByteArray} {ret : Option FieldType} {nL cs ss pc : Nat} {rm : Room} {σ : List va_E} {L : List (Nat × Value)} {rest : List Value}
theorem jW.widen {cs' ss' : Nat} (h1 : cs ≤ cs') (h2 : ss ≤ ss') (k : jW l b D Γ ex cs' ss' nL σ L pc rest) : jW l b D Γ ex cs ss nL σ L pc rest := fun ls H locs hl hP hS hZ => W.widen h1 h2 (k ls H locs hl hP hS hZ)
/-- fewer locals, another order -/
theorem jW.sub {L' : List (Nat × Value)} (ks : List Nat) (h : lv_pick L ks = L') (k : jW l b D Γ ex cs ss nL σ L' pc rest) : jW l b D Γ ex cs ss nL σ L pc rest := fun ls H locs hl hP hS hZ => k ls H locs (lv_sub hl ks h) hP hS hZ
theorem j_vret {σ' : List va_E} (B : jB l b D ta Γ own cc none nL rm) (K : jR b D ex Γ none σ' cs ss) (hσ : σ = σ') (hd : decode cc pc = .ok (.return_, 1)) : jW l b D Γ ex cs ss nL σ L pc [] := by
  subst hσ
  intro ls H locs hl hP hS hZ
  rw [show Γ.2.2.2.2.2.2.2.2.2 = _ from K]
  exact W.vret B.1 B.2.1 B.2.2.1 (fun t ht hW => ⟨rfl, by rw [ht]; exact hP, hS.F ht, fun h => by rw [ht]; exact hZ h⟩) hS.2.2 hd B.2.2.2.2.2.2.2.1
theorem j_iret {σ' : List va_E} {v v' : Int32} (B : jB l b D ta Γ own cc (some .int) nL rm) (K : jR b D ex Γ (some (.int v')) σ' cs ss) (hv : v = v') (hσ : σ = σ') (hd : decode cc pc = .ok (.ireturn, 1)) : jW l b D Γ ex cs ss nL σ L pc [.int v] := by
  subst hσ; subst hv
  intro ls H locs hl hP hS hZ
  rw [show Γ.2.2.2.2.2.2.2.2.2 = _ from K]
  exact W.iret B.1 B.2.1 B.2.2.1 (fun t ht hW => ⟨rfl, by rw [ht]; exact hP, hS.F ht, fun h => by rw [ht]; exact hZ h⟩) hS.2.2 hd B.2.2.2.2.2.2.2.1
theorem j_zret {σ' : List va_E} {v v' : Int32} {ty : FieldType} (B : jB l b D ta Γ own cc (some ty) nL rm) (K : jR b D ex Γ (some (.int v')) σ' cs ss) (hn : narrow ty (.int v) = .int v) (hv : v = v') (hσ : σ = σ') (hd : decode cc pc = .ok (.ireturn, 1)) : jW l b D Γ ex cs ss nL σ L pc [.int v] := by
  subst hσ; subst hv
  intro ls H locs hl hP hS hZ
  rw [show Γ.2.2.2.2.2.2.2.2.2 = _ from K]
  exact W.zret B.1 B.2.1 B.2.2.1 hn (fun t ht hW => ⟨rfl, by rw [ht]; exact hP, hS.F ht, fun h => by rw [ht]; exact hZ h⟩) hS.2.2 hd B.2.2.2.2.2.2.2.1
theorem j_lret {σ' : List va_E} {v v' : Int64} (B : jB l b D ta Γ own cc (some .long) nL rm) (K : jR b D ex Γ (some (.long v')) σ' cs ss) (hv : v = v') (hσ : σ = σ') (hd : decode cc pc = .ok (.lreturn, 1)) : jW l b D Γ ex cs ss nL σ L pc [.long v] := by
  subst hσ; subst hv
  intro ls H locs hl hP hS hZ
  rw [show Γ.2.2.2.2.2.2.2.2.2 = _ from K]
  exact W.lret B.1 B.2.1 B.2.2.1 (fun t ht hW => ⟨rfl, by rw [ht]; exact hP, hS.F ht, fun h => by rw [ht]; exact hZ h⟩) hS.2.2 hd B.2.2.2.2.2.2.2.1
theorem j_aret {σ' : List va_E} {a a' : Nat} {rt : FieldType} (B : jB l b D ta Γ own cc (some rt) nL rm) (hrt : (∃ n, rt = .object n) ∨ ∃ t, rt = .array t) (K : jR b D ex Γ (some (.ref a')) σ' cs ss) (hv : a = a') (hσ : σ = σ') (hd : decode cc pc = .ok (.areturn, 1)) : jW l b D Γ ex cs ss nL σ L pc [.ref a] := by
  subst hσ; subst hv
  intro ls H locs hl hP hS hZ
  rw [show Γ.2.2.2.2.2.2.2.2.2 = _ from K]
  exact W.aret B.1 B.2.1 B.2.2.1 hrt (Or.inr ⟨_, rfl⟩) (fun t ht hW => ⟨rfl, by rw [ht]; exact hP, hS.F ht, fun h => by rw [ht]; exact hZ h⟩) hS.2.2 hd B.2.2.2.2.2.2.2.1
/-- getfield; a nest mate's -/
theorem j_get (B : jB l b D ta Γ own cc ret nL rm) {ref C : String} {T : u_T} {N ci index : Nat} (hc : vwCl[ci]? = some (C, T, N)) (hin : ∀ w ∈ u_ws C T N, w ∈ jWS) (k : Nat) (hk : k < N) (href : (T k).1 = ref) (hlink : Cond.fieldLink own index ref (T k).2.1 (T k).2.2.1 ∈ jWS)
    {q : Nat} {fs : List Value} (hq : σ[q]? = some (.inr (ci, fs))) {v : Value} (hv : fs[k]? = some v) (hdg : decode cc pc = .ok (.getfield index, 3)) (kk : jW l b D Γ ex cs ss nL σ L (pc + 3) (v :: rest)) : jW l b D Γ ex cs ss nL σ L pc (.ref (b + q) :: rest) :=
  fun ls H locs hl hP hS hZ => va_get B.1 B.2.1 B.2.2.2.2.2.1 hin B.2.2.2.2.1 B.2.2.2.2.2.2.1.1 hP q (jw_at hq) hc k hk (B.2.2.2.2.2.1 _ hlink) (fun x h => by rw [← href]; exact h) hv hdg (kk ls H locs hl hP hS hZ)
theorem j_getN (B : jB l b D ta Γ own cc ret nL rm) {ref C host : String} {T : u_T} {N ci index : Nat} (hc : vwCl[ci]? = some (C, T, N)) (hin : ∀ w ∈ u_ws C T N, w ∈ jWS) (k : Nat) (hk : k < N) (href : (T k).1 = ref) (hlink : Cond.fieldLinkNest own index ref (T k).2.1 (T k).2.2.1 host ∈ jNW)
    {q : Nat} {fs : List Value} (hq : σ[q]? = some (.inr (ci, fs))) {v : Value} (hv : fs[k]? = some v) (hdg : decode cc pc = .ok (.getfield index, 3)) (kk : jW l b D Γ ex cs ss nL σ L (pc + 3) (v :: rest)) : jW l b D Γ ex cs ss nL σ L pc (.ref (b + q) :: rest) :=
  fun ls H locs hl hP hS hZ => va_getN B.1 B.2.1 B.2.2.2.2.2.1 hin B.2.2.2.2.1 B.2.2.2.2.2.2.1.1 hP q (jw_at hq) hc k hk (va_Nw.use (jNW_tab hlink) (B.2.2.2.2.2.2.1.2.1 _ hlink)) (fun x h => by rw [← href]; exact h) hv hdg (kk ls H locs hl hP hS hZ)
/-- putfield outside a constructor -/
theorem j_put (B : jB l b D ta Γ own cc ret nL rm) (hex : ¬ ex) {ref C : String} {T : u_T} {N ci index : Nat} (hc : vwCl[ci]? = some (C, T, N)) (hin : ∀ w ∈ u_ws C T N, w ∈ jWS) (ty0 : Nat → FieldType) (hty : ∀ k, k < N → parseFieldDescriptor (T k).2.2.1 = some (ty0 k)) (hnm : ∀ a, a < N → ∀ b, b < N → a ≠ b → (T a).2.1 ≠ (T b).2.1) (k : Nat) (hk : k < N) (href : (T k).1 = ref) (hlink : Cond.fieldLink own index ref (T k).2.1 (T k).2.2.1 ∈ jWS) (hfin : (T k).2.2.2 = false)
    {q : Nat} {fs : List Value} (hq : σ[q]? = some (.inr (ci, fs))) {v : Value} (hn : narrow (ty0 k) v = v) (hfit : fits (ty0 k) v = true) (hl : k < fs.length) (hdg : decode cc pc = .ok (.putfield index, 3)) (kk : jW l b D Γ ex cs ss nL (σ.set q (.inr (ci, fs.set k v))) L (pc + 3) rest) : jW l b D Γ ex cs ss nL σ L pc (v :: .ref (b + q) :: rest) :=
  fun ls H locs hll hP hS hZ => va_put B.1 B.2.1 B.2.2.2.2.2.1 hin ty0 hty hnm B.2.2.2.2.1 B.2.2.2.2.2.2.1.1 hP jw_D hS q (jw_at hq) hc k hk (B.2.2.2.2.2.1 _ hlink) (fun x h => by rw [← href]; exact h) hfin (hty k hk) hn hfit hl hdg
    (fun H1 locs1 hP1 _ hS1 => kk ls H1 locs1 hll (by rw [← jw_set]; exact hP1) hS1 (fun h => absurd h hex))
theorem j_putN (B : jB l b D ta Γ own cc ret nL rm) (hex : ¬ ex) {ref C host : String} {T : u_T} {N ci index : Nat} (hc : vwCl[ci]? = some (C, T, N)) (hin : ∀ w ∈ u_ws C T N, w ∈ jWS) (ty0 : Nat → FieldType) (hty : ∀ k, k < N → parseFieldDescriptor (T k).2.2.1 = some (ty0 k)) (hnm : ∀ a, a < N → ∀ b, b < N → a ≠ b → (T a).2.1 ≠ (T b).2.1) (k : Nat) (hk : k < N) (href : (T k).1 = ref) (hlink : Cond.fieldLinkNest own index ref (T k).2.1 (T k).2.2.1 host ∈ jNW) (hfin : (T k).2.2.2 = false)
    {q : Nat} {fs : List Value} (hq : σ[q]? = some (.inr (ci, fs))) {v : Value} (hn : narrow (ty0 k) v = v) (hfit : fits (ty0 k) v = true) (hl : k < fs.length) (hdg : decode cc pc = .ok (.putfield index, 3)) (kk : jW l b D Γ ex cs ss nL (σ.set q (.inr (ci, fs.set k v))) L (pc + 3) rest) : jW l b D Γ ex cs ss nL σ L pc (v :: .ref (b + q) :: rest) :=
  fun ls H locs hll hP hS hZ => va_putN B.1 B.2.1 B.2.2.2.2.2.1 hin ty0 hty hnm B.2.2.2.2.1 B.2.2.2.2.2.2.1.1 hP jw_D hS q (jw_at hq) hc k hk (va_Nw.use (jNW_tab hlink) (B.2.2.2.2.2.2.1.2.1 _ hlink)) (fun x h => by rw [← href]; exact h) hfin (hty k hk) hn hfit hl hdg
    (fun H1 locs1 hP1 _ hS1 => kk ls H1 locs1 hll (by rw [← jw_set]; exact hP1) hS1 (fun h => absurd h hex))
/-- arrays -/
theorem j_iald (B : jB l b D ta Γ own cc ret nL rm) {q n t : Nat} {f : Nat → Int32} {i : Int32} (ht : (jT ta)[t]? = some (ta t, .int)) (hq : σ[q]? = some (.inl (ta t, n, .inl f))) (hin : vp_in i n) (hdg : decode cc pc = .ok (.iaload, 1)) (kk : jW l b D Γ ex cs ss nL σ L (pc + 1) (.int (f i.toNatClampNeg) :: rest)) : jW l b D Γ ex cs ss nL σ L pc (.int i :: .ref (b + q) :: rest) :=
  fun ls H locs hl hP hS hZ => va_iald B.1 B.2.1 B.2.2.2.2.2.2.1.1 hP q t (jw_at hq) ht hin hdg (kk ls H locs hl hP hS hZ)
theorem j_zald (B : jB l b D ta Γ own cc ret nL rm) {q n t : Nat} {f : Nat → Int32} {i : Int32} (ht : (jT ta)[t]? = some (ta t, .boolean)) (hq : σ[q]? = some (.inl (ta t, n, .inl f))) (hin : vp_in i n) (hdg : decode cc pc = .ok (.baload, 1)) (kk : jW l b D Γ ex cs ss nL σ L (pc + 1) (.int (f i.toNatClampNeg) :: rest)) : jW l b D Γ ex cs ss nL σ L pc (.int i :: .ref (b + q) :: rest) :=
  fun ls H locs hl hP hS hZ => va_zald B.1 B.2.1 B.2.2.2.2.2.2.1.1 hP q t (jw_at hq) ht hin hdg (kk ls H locs hl hP hS hZ)
theorem j_cald (B : jB l b D ta Γ own cc ret nL rm) {q n t : Nat} {f : Nat → Int32} {i : Int32} (ht : (jT ta)[t]? = some (ta t, .char)) (hq : σ[q]? = some (.inl (ta t, n, .inl f))) (hin : vp_in i n) (hdg : decode cc pc = .ok (.caload, 1)) (kk : jW l b D Γ ex cs ss nL σ L (pc + 1) (.int (f i.toNatClampNeg) :: rest)) : jW l b D Γ ex cs ss nL σ L pc (.int i :: .ref (b + q) :: rest) :=
  fun ls H locs hl hP hS hZ => va_cald B.1 B.2.1 B.2.2.2.2.2.2.1.1 hP q t (jw_at hq) ht hin hdg (kk ls H locs hl hP hS hZ)
theorem j_lald (B : jB l b D ta Γ own cc ret nL rm) {q n t : Nat} {f : Nat → Int64} {i : Int32} (ht : (jT ta)[t]? = some (ta t, .long)) (hq : σ[q]? = some (.inl (ta t, n, .inr (.inl f)))) (hin : vp_in i n) (hdg : decode cc pc = .ok (.laload, 1)) (kk : jW l b D Γ ex cs ss nL σ L (pc + 1) (.long (f i.toNatClampNeg) :: rest)) : jW l b D Γ ex cs ss nL σ L pc (.int i :: .ref (b + q) :: rest) :=
  fun ls H locs hl hP hS hZ => va_lald B.1 B.2.1 B.2.2.2.2.2.2.1.1 hP q t (jw_at hq) ht hin hdg (kk ls H locs hl hP hS hZ)
theorem j_aald (B : jB l b D ta Γ own cc ret nL rm) {q n t : Nat} {C : String} {f : Nat → Option Nat} {i : Int32} {z : Nat} (ht : (jT ta)[t]? = some (ta t, .object C)) (hq : σ[q]? = some (.inl (ta t, n, .inr (.inr (.inr (.inr f)))))) (hin : vp_in i n) (hz : f i.toNatClampNeg = some z) (hdg : decode cc pc = .ok (.aaload, 1)) (kk : jW l b D Γ ex cs ss nL σ L (pc + 1) (.ref z :: rest)) : jW l b D Γ ex cs ss nL σ L pc (.int i :: .ref (b + q) :: rest) :=
  fun ls H locs hl hP hS hZ => va_aldq B.1 B.2.1 B.2.2.2.2.2.2.1.1 hP q t (jw_at hq) ht hin hdg (by rw [hz]; exact kk ls H locs hl hP hS hZ)
theorem j_iast (B : jB l b D ta Γ own cc ret nL rm) (hex : ¬ ex) {q n t : Nat} {f : Nat → Int32} {i x : Int32} (ht : (jT ta)[t]? = some (ta t, .int)) (hq : σ[q]? = some (.inl (ta t, n, .inl f))) (hin : vp_in i n) (hdg : decode cc pc = .ok (.iastore, 1)) (kk : jW l b D Γ ex cs ss nL (σ.set q (.inl (ta t, n, .inl (upd f i.toNatClampNeg x)))) L (pc + 1) rest) : jW l b D Γ ex cs ss nL σ L pc (.int x :: .int i :: .ref (b + q) :: rest) :=
  fun ls H locs hl hP hS hZ => va_iast B.1 B.2.1 B.2.2.2.2.2.2.1.1 hP jw_D hS q t (jw_at hq) ht hin hdg (fun H1 locs1 hP1 _ hS1 => kk ls H1 locs1 hl (by rw [← jw_set]; exact hP1) hS1 (fun h => absurd h hex))
theorem j_zast (B : jB l b D ta Γ own cc ret nL rm) (hex : ¬ ex) {q n t : Nat} {f : Nat → Int32} {i x : Int32} (ht : (jT ta)[t]? = some (ta t, .boolean)) (hq : σ[q]? = some (.inl (ta t, n, .inl f))) (hin : vp_in i n) (hdg : decode cc pc = .ok (.bastore, 1)) (kk : jW l b D Γ ex cs ss nL (σ.set q (.inl (ta t, n, .inl (upd f i.toNatClampNeg (vp_nar .boolean x))))) L (pc + 1) rest) : jW l b D Γ ex cs ss nL σ L pc (.int x :: .int i :: .ref (b + q) :: rest) :=
  fun ls H locs hl hP hS hZ => va_zast B.1 B.2.1 B.2.2.2.2.2.2.1.1 hP jw_D hS q t (jw_at hq) ht hin hdg (fun H1 locs1 hP1 _ hS1 => kk ls H1 locs1 hl (by rw [← jw_set]; exact hP1) hS1 (fun h => absurd h hex))
theorem j_cast (B : jB l b D ta Γ own cc ret nL rm) (hex : ¬ ex) {q n t : Nat} {f : Nat → Int32} {i x : Int32} (ht : (jT ta)[t]? = some (ta t, .char)) (hq : σ[q]? = some (.inl (ta t, n, .inl f))) (hin : vp_in i n) (hdg : decode cc pc = .ok (.castore, 1)) (kk : jW l b D Γ ex cs ss nL (σ.set q (.inl (ta t, n, .inl (upd f i.toNatClampNeg (vp_nar .char x))))) L (pc + 1) rest) : jW l b D Γ ex cs ss nL σ L pc (.int x :: .int i :: .ref (b + q) :: rest) :=
  fun ls H locs hl hP hS hZ => va_cast B.1 B.2.1 B.2.2.2.2.2.2.1.1 hP jw_D hS q t (jw_at hq) ht hin hdg (fun H1 locs1 hP1 _ hS1 => kk ls H1 locs1 hl (by rw [← jw_set]; exact hP1) hS1 (fun h => absurd h hex))
theorem j_last (B : jB l b D ta Γ own cc ret nL rm) (hex : ¬ ex) {q n t : Nat} {f : Nat → Int64} {i : Int32} {x : Int64} (ht : (jT ta)[t]? = some (ta t, .long)) (hq : σ[q]? = some (.inl (ta t, n, .inr (.inl f)))) (hin : vp_in i n) (hdg : decode cc pc = .ok (.lastore, 1)) (kk : jW l b D Γ ex cs ss nL (σ.set q (.inl (ta t, n, .inr (.inl (vp_updL f i.toNatClampNeg x))))) L (pc + 1) rest) : jW l b D Γ ex cs ss nL σ L pc (.long x :: .int i :: .ref (b + q) :: rest) :=
  fun ls H locs hl hP hS hZ => va_last B.1 B.2.1 B.2.2.2.2.2.2.1.1 hP jw_D hS q t (jw_at hq) ht hin hdg (fun H1 locs1 hP1 _ hS1 => kk ls H1 locs1 hl (by rw [← jw_set]; exact hP1) hS1 (fun h => absurd h hex))
theorem j_alen (B : jB l b D ta Γ own cc ret nL rm) {q t : Nat} {x : vp_A} {ty : FieldType} {v : Int32} (ht : (jT ta)[t]? = some (ta t, ty)) (hq : σ[q]? = some (.inl (ta t, x))) (hv : Int32.ofNat x.1 = v) (hdg : decode cc pc = .ok (.arraylength, 1)) (kk : jW l b D Γ ex cs ss nL σ L (pc + 1) (.int v :: rest)) : jW l b D Γ ex cs ss nL σ L pc (.ref (b + q) :: rest) :=
  fun ls H locs hl hP hS hZ => va_alen B.1 B.2.1 B.2.2.2.2.2.2.1.1 hP q t (jw_at hq) ht hv hdg (kk ls H locs hl hP hS hZ)
theorem j_copyi (B : jB l b D ta Γ own cc ret nL rm) (hex : ¬ ex) {index q q1 t : Nat} {n n1 : Nat} {f g : Nat → Int32} {ty : FieldType} {sp dp k : Int32} (hlink : Cond.methodLink own index arraycopyName ∈ jWS) (hnat : Cond.native arraycopyName ∈ jWS) (hstat : Cond.static arraycopyName ∈ jWS) (hini : Cond.initialized "java/lang/System" ∈ jWS)
    (ht : (jT ta)[t]? = some (ta t, ty)) (hprim : refKind ty = false) (hq : σ[q]? = some (.inl (ta t, n, .inl f))) (hq1 : σ[q1]? = some (.inl (ta t, n1, .inl g))) (h1 : ¬ sp < 0) (h2 : ¬ dp < 0) (h3 : ¬ k < 0) (h4 : sp.toNatClampNeg + k.toNatClampNeg ≤ n) (h5 : dp.toNatClampNeg + k.toNatClampNeg ≤ n1) (hfit : ∀ i, i < k.toNatClampNeg → fits ty (.int (f (sp.toNatClampNeg + i))) = true)
    (hframes : 1 ≤ rm.frames) (hlocals : (rest.map fun v => v.category).sum + (nativeFrameWords "java/lang/System" "arraycopy" 5 + 11) ≤ rm.locals) (hdg : decode cc pc = .ok (.invokestatic index, 3))
    (kk : jW l b D Γ ex cs ss nL (σ.set q1 (.inl (ta t, n1, .inl (va_cpy f g sp.toNatClampNeg dp.toNatClampNeg k.toNatClampNeg)))) L (pc + 3) rest) : jW l b D Γ ex cs ss nL σ L pc (.int k :: .int dp :: .ref (b + q1) :: .int sp :: .ref (b + q) :: rest) :=
  fun ls H locs hl hP hS hZ => va_copyi B.1 B.2.1 (B.2.2.2.1.trans hl.1.symm) B.2.2.2.2.1 (B.2.2.2.2.2.1 _ hlink) (B.2.2.2.2.2.1 _ hnat) (B.2.2.2.2.2.1 _ hstat) (B.2.2.2.2.2.1 _ hini) B.2.2.2.2.2.2.1.1 hP jw_D hS q q1 t t (jw_at hq) (jw_at hq1) ht ht hprim h1 h2 h3 h4 h5 hfit
    (by rw [B.2.2.2.2.2.2.2.2.1]; exact hframes) (by rw [B.2.2.2.2.2.2.2.2.1]; exact hlocals) hdg (fun H1 locs1 hP1 _ hS1 => kk ls H1 locs1 hl (by rw [← jw_set]; exact hP1) hS1 (fun h => absurd h hex))
/-- calls -/
theorem j_blind {as : List Value} {σ : List va_E} : FrameBlind (va_Pc as (fun U => jE b D ta U U.heap ∧ va_P D vwCl (jw b σ) U.heap ∧ (ex → U.heap.size = b + σ.length))) := fun a U g mk h => ⟨h.1, jE.same (s := U) rfl h.2.1, h.2.2.1, h.2.2.2⟩
theorem j_pre {as : List Value} (B : jB l b D ta Γ own cc ret nL rm) {H : Heap} {locs : List Loc} (hP : va_P D vwCl (jw b σ) H) (hS : va_S (fun q => b ≤ q) Γ.2.2.2.1.heap H locs) (hZ : ex → H.size = b + σ.length) (U : State) (hU : U.heap = H) (hW : Γ.2.2.2.1.WarmedH U.vm) : va_Pc as (fun U => jE b D ta U U.heap ∧ va_P D vwCl (jw b σ) U.heap ∧ (ex → U.heap.size = b + σ.length)) as.toArray U :=
  ⟨rfl, by rw [hU]; exact jE.warm hW hS.2.1 B.2.2.2.2.2.2.1, by rw [hU]; exact hP, by rw [hU]; exact hZ⟩
theorem j_go {p : Program} {e : Env} {R : Room} {s : State} {m : MethodId} {args : Array Value} {below : List Frame} {meth : Method} {c : Code} {H : Heap} {locs : List Loc} {Q : State → Prop} {mc ms : Nat} {ls : Array Slot} {st0 : List Value} {r : Option Value} {σ' : List va_E} {a : Array Value}
    (hr : va_Run p l e R s m args below meth c H locs cs ss mc ms (F0 m pc ls st0) rest (jQ b D ex r σ' a) (fun q => b ≤ q)) (hS : va_S (fun q => b ≤ q) s.heap H locs)
    (kk : ∀ (H1 : Heap) (locs1 : List Loc), va_P D vwCl (jw b σ') H1 → va_S (fun q => b ≤ q) s.heap H1 locs1 → (ex → H1.size = b + σ'.length) → W p l e R s m args below meth c H1 locs1 (cs + mc) (ss + ms) Q (F0 m (pc + 3) ls (r.toList ++ rest))) : W p l e R s m args below meth c H locs cs ss Q (F0 m pc ls st0) := by
  intro T hT X
  obtain ⟨v, st₀, t, T', L, h0, X', hL, e1, e2, ⟨hv, hp, ⟨hz, hk⟩, hx⟩, st⟩ := hr T hT X
  cases hv
  rw [h0] at hz hk
  obtain ⟨t2, a1, b1⟩ := kk T'.heap (locs ++ L) (by rw [e1]; exact hp)
    ⟨Nat.le_trans hS.1 (by rw [e1]; exact hz), fun q h1 h2 => by rw [e1, hk q (Nat.lt_of_lt_of_le h1 hS.1) h2]; exact hS.2.1 q h1 h2, fun q hq => by
      rcases List.mem_append.mp hq with h | h
      · exact hS.2.2 q h
      · exact hL q h⟩ (by rw [e1]; exact hx) T' rfl X'
  exact ⟨t2, st t2 a1, b1⟩
/-- the callee's facts: its code and class among the words, its name, how many arguments -/
def jY (y : MethodName) (cb : ByteArray) (mL : Nat) (ret : Option FieldType) (n : Nat) : Prop := Cond.code y cb mL ret ∈ jWS ∧ Cond.initialized y.cls ∈ jWS ∧ (y.cls ≠ "java/lang/invoke/MethodHandle" ∧ y.cls ≠ "java/lang/invoke/VarHandle" ∧ (parseMethodDescriptor y.desc).map (fun d => d.parameters.length) = some n)
variable {y : MethodName} {cb : ByteArray} {mL : Nat} {ret' : Option FieldType} {rm' : Room} {as : List Value} {r : Option Value} {σ' : List va_E} {st0 st1 : List Value} {n index q : Nat} {host : String}
theorem j_sum {m : MethodId} {ls : Array Slot} {st : List Value} (h : (rest.map fun v => v.category).sum ≤ 8) : 2 * (F0 m pc ls st).monitorRoom + (rest.map fun v => v.category).sum ≤ 8 := lv_room h
theorem j_callS (B : jB l b D ta Γ own cc ret nL rm) (hM : jC l b D ta ex y cb mL ret' rm' as σ r σ') (hY : jY y cb mL ret' n) (hlink : Cond.methodLink own index y ∈ jWS) (hst : Cond.static y ∈ jWS) (hn : as.length = n) (hR : rm'.frames + 1 ≤ rm.frames ∧ 8 + (mL + 11) + rm'.locals ≤ rm.locals) (hc : cs + rm'.cells ≤ rm.cells ∧ ss + rm'.slots ≤ rm.slots) (hs0 : st0 = as.reverse ++ rest) (hs1 : r.toList ++ rest = st1) (hsum : (rest.map fun v => v.category).sum ≤ 8)
    (hdg : decode cc pc = .ok (.invokestatic index, 3)) (kk : jW l b D Γ ex (cs + rm'.cells) (ss + rm'.slots) nL σ' L (pc + 3) st1) : jW l b D Γ ex cs ss nL σ L pc st0 := by
  subst hs0; subst hs1
  intro ls H locs hl hP hS hZ
  have hR1 : rm'.frames + 1 ≤ Γ.2.2.1.frames ∧ 8 + (mL + 11) + rm'.locals ≤ Γ.2.2.1.locals := by rw [B.2.2.2.2.2.2.2.2.1]; exact hR
  have hc1 : cs + rm'.cells ≤ Γ.2.2.1.cells ∧ ss + rm'.slots ≤ Γ.2.2.1.slots := by rw [B.2.2.2.2.2.2.2.2.1]; exact hc
  exact j_go (va_runS (bytes := cb) (maxL := mL) (ret := ret') ⟨B.1, B.2.1, B.2.2.2.1, B.2.2.2.2.1, B.2.2.2.2.2.1⟩ hM ⟨callB_of n B.2.2.2.2.2.1 (jGood hY.1) rfl rfl rfl (B.2.2.2.2.2.1 _ hY.2.1) (B.2.2.2.2.2.1 _ hlink) hY.2.2 hR1, B.2.2.2.2.2.1 _ hst⟩ ⟨j_blind, fun U hU hW => j_pre B hP hS hZ U hU hW⟩ rfl hn hl.1 rfl (j_sum hsum) hdg hc1) hS (fun H1 locs1 hP1 hS1 hZ1 => kk ls H1 locs1 hl hP1 hS1 hZ1)
theorem j_cn (B : jB l b D ta Γ own cc ret nL rm) (hY : jY y cb mL ret' n) (hlink : Cond.methodLinkNest own index y host ∈ jNW) (hR : rm'.frames + 1 ≤ rm.frames ∧ 8 + (mL + 11) + rm'.locals ≤ rm.locals) : va_CN Γ.2.2.1 Γ.2.2.2.1 Γ.2.2.2.2.2.1 own index y host cb mL ret' (Cond.code y cb mL ret' :: jWS) rm' rm'.cells rm'.slots n :=
  va_cnB n B.2.2.2.2.2.1 (jGood hY.1) rfl rfl rfl (B.2.2.2.2.2.2.1.2.1 _ hlink) (B.2.2.2.2.2.1 _ hY.2.1) hY.2.2 (by rw [B.2.2.2.2.2.2.2.2.1]; exact hR)
theorem j_callSN (B : jB l b D ta Γ own cc ret nL rm) (hM : jC l b D ta ex y cb mL ret' rm' as σ r σ') (hY : jY y cb mL ret' n) (hlink : Cond.methodLinkNest own index y host ∈ jNW) (hst : Cond.static y ∈ jWS) (hn : as.length = n) (hR : rm'.frames + 1 ≤ rm.frames ∧ 8 + (mL + 11) + rm'.locals ≤ rm.locals) (hc : cs + rm'.cells ≤ rm.cells ∧ ss + rm'.slots ≤ rm.slots) (hs0 : st0 = as.reverse ++ rest) (hs1 : r.toList ++ rest = st1) (hsum : (rest.map fun v => v.category).sum ≤ 8)
    (hdg : decode cc pc = .ok (.invokestatic index, 3)) (kk : jW l b D Γ ex (cs + rm'.cells) (ss + rm'.slots) nL σ' L (pc + 3) st1) : jW l b D Γ ex cs ss nL σ L pc st0 := by
  subst hs0; subst hs1
  intro ls H locs hl hP hS hZ
  have hR1 : rm'.frames + 1 ≤ Γ.2.2.1.frames ∧ 8 + (mL + 11) + rm'.locals ≤ Γ.2.2.1.locals := by rw [B.2.2.2.2.2.2.2.2.1]; exact hR
  have hc1 : cs + rm'.cells ≤ Γ.2.2.1.cells ∧ ss + rm'.slots ≤ Γ.2.2.1.slots := by rw [B.2.2.2.2.2.2.2.2.1]; exact hc
  exact j_go (va_runSN (bytes := cb) (maxL := mL) (ret := ret') (host := host) ⟨B.1, B.2.1, B.2.2.2.1, B.2.2.2.2.1, B.2.2.2.2.2.1⟩ hM ⟨j_cn B hY hlink hR, B.2.2.2.2.2.1 _ hst, trivial⟩ ⟨j_blind, fun U hU hW => j_pre B hP hS hZ U hU hW⟩ rfl hn hl.1 rfl (j_sum hsum) hdg hc1) hS (fun H1 locs1 hP1 hS1 hZ1 => kk ls H1 locs1 hl hP1 hS1 hZ1)
theorem j_callV {C : String} {T : u_T} {N ci : Nat} {fs : List Value} (B : jB l b D ta Γ own cc ret nL rm) (hM : jC l b D ta ex y cb mL ret' rm' (.ref (b + q) :: as) σ r σ') (hY : jY y cb mL ret' n) (hlink : Cond.methodLink own index y ∈ jWS) (hin : Cond.instanceMethod y ∈ jWS) (hse : Cond.selects C y y ∈ jWS) (hcl : vwCl[ci]? = some (C, T, N)) (hq : σ[q]? = some (.inr (ci, fs))) (hn : as.length = n) (hR : rm'.frames + 1 ≤ rm.frames ∧ 8 + (mL + 11) + rm'.locals ≤ rm.locals) (hc : cs + rm'.cells ≤ rm.cells ∧ ss + rm'.slots ≤ rm.slots) (hs0 : st0 = as.reverse ++ .ref (b + q) :: rest) (hs1 : r.toList ++ rest = st1) (hsum : (rest.map fun v => v.category).sum ≤ 8)
    (hdg : decode cc pc = .ok (.invokevirtual index, 3)) (kk : jW l b D Γ ex (cs + rm'.cells) (ss + rm'.slots) nL σ' L (pc + 3) st1) : jW l b D Γ ex cs ss nL σ L pc st0 := by
  subst hs0; subst hs1
  intro ls H locs hl hP hS hZ
  have hR1 : rm'.frames + 1 ≤ Γ.2.2.1.frames ∧ 8 + (mL + 11) + rm'.locals ≤ Γ.2.2.1.locals := by rw [B.2.2.2.2.2.2.2.2.1]; exact hR
  have hc1 : cs + rm'.cells ≤ Γ.2.2.1.cells ∧ ss + rm'.slots ≤ Γ.2.2.1.slots := by rw [B.2.2.2.2.2.2.2.2.1]; exact hc
  exact j_go (va_runV (bytes := cb) (maxL := mL) (ret := ret') (C := C) ⟨B.1, B.2.1, B.2.2.2.1, B.2.2.2.2.1, B.2.2.2.2.2.1⟩ hM ⟨callB_of n B.2.2.2.2.2.1 (jGood hY.1) rfl rfl rfl (B.2.2.2.2.2.1 _ hY.2.1) (B.2.2.2.2.2.1 _ hlink) hY.2.2 hR1, B.2.2.2.2.2.1 _ hin, B.2.2.2.2.2.1 _ hse⟩ ⟨j_blind, va_recv B.2.2.2.2.2.2.1.1 hP hcl (jw_at hq), fun U hU hW => j_pre B hP hS hZ U hU hW⟩ rfl hn hl.1 rfl (j_sum hsum) hdg hc1) hS (fun H1 locs1 hP1 hS1 hZ1 => kk ls H1 locs1 hl hP1 hS1 hZ1)
theorem j_callVN {C : String} {T : u_T} {N ci : Nat} {fs : List Value} (B : jB l b D ta Γ own cc ret nL rm) (hM : jC l b D ta ex y cb mL ret' rm' (.ref (b + q) :: as) σ r σ') (hY : jY y cb mL ret' n) (hlink : Cond.methodLinkNest own index y host ∈ jNW) (hin : Cond.instanceMethod y ∈ jWS) (hse : Cond.selects C y y ∈ jWS) (hcl : vwCl[ci]? = some (C, T, N)) (hq : σ[q]? = some (.inr (ci, fs))) (hn : as.length = n) (hR : rm'.frames + 1 ≤ rm.frames ∧ 8 + (mL + 11) + rm'.locals ≤ rm.locals) (hc : cs + rm'.cells ≤ rm.cells ∧ ss + rm'.slots ≤ rm.slots) (hs0 : st0 = as.reverse ++ .ref (b + q) :: rest) (hs1 : r.toList ++ rest = st1) (hsum : (rest.map fun v => v.category).sum ≤ 8)
    (hdg : decode cc pc = .ok (.invokevirtual index, 3)) (kk : jW l b D Γ ex (cs + rm'.cells) (ss + rm'.slots) nL σ' L (pc + 3) st1) : jW l b D Γ ex cs ss nL σ L pc st0 := by
  subst hs0; subst hs1
  intro ls H locs hl hP hS hZ
  have hR1 : rm'.frames + 1 ≤ Γ.2.2.1.frames ∧ 8 + (mL + 11) + rm'.locals ≤ Γ.2.2.1.locals := by rw [B.2.2.2.2.2.2.2.2.1]; exact hR
  have hc1 : cs + rm'.cells ≤ Γ.2.2.1.cells ∧ ss + rm'.slots ≤ Γ.2.2.1.slots := by rw [B.2.2.2.2.2.2.2.2.1]; exact hc
  exact j_go (va_runVN (bytes := cb) (maxL := mL) (ret := ret') (C := C) (host := host) ⟨B.1, B.2.1, B.2.2.2.1, B.2.2.2.2.1, B.2.2.2.2.2.1⟩ hM ⟨j_cn B hY hlink hR, B.2.2.2.2.2.1 _ hin, B.2.2.2.2.2.1 _ hse⟩ ⟨j_blind, va_recv B.2.2.2.2.2.2.1.1 hP hcl (jw_at hq), fun U hU hW => j_pre B hP hS hZ U hU hW⟩ rfl hn hl.1 rfl (j_sum hsum) hdg hc1) hS (fun H1 locs1 hP1 hS1 hZ1 => kk ls H1 locs1 hl hP1 hS1 hZ1)
theorem j_callI (B : jB l b D ta Γ own cc ret nL rm) (hM : jC l b D ta ex y cb mL none rm' (.ref (b + q) :: as) σ none σ') (hY : jY y cb mL none n) (hlink : Cond.methodLink own index y ∈ jWS) (hin : Cond.instanceMethod y ∈ jWS) (hy1 : y.name = "<init>") (hn : as.length = n) (hR : rm'.frames + 1 ≤ rm.frames ∧ 8 + (mL + 11) + rm'.locals ≤ rm.locals) (hc : cs + rm'.cells ≤ rm.cells ∧ ss + rm'.slots ≤ rm.slots) (hs0 : st0 = as.reverse ++ .ref (b + q) :: rest) (hsum : (rest.map fun v => v.category).sum ≤ 8)
    (hdg : decode cc pc = .ok (.invokespecial index, 3)) (kk : jW l b D Γ ex (cs + rm'.cells) (ss + rm'.slots) nL σ' L (pc + 3) rest) : jW l b D Γ ex cs ss nL σ L pc st0 := by
  subst hs0
  intro ls H locs hl hP hS hZ
  have hR1 : rm'.frames + 1 ≤ Γ.2.2.1.frames ∧ 8 + (mL + 11) + rm'.locals ≤ Γ.2.2.1.locals := by rw [B.2.2.2.2.2.2.2.2.1]; exact hR
  have hc1 : cs + rm'.cells ≤ Γ.2.2.1.cells ∧ ss + rm'.slots ≤ Γ.2.2.1.slots := by rw [B.2.2.2.2.2.2.2.2.1]; exact hc
  exact j_go (va_runI (bytes := cb) (maxL := mL) ⟨B.1, B.2.1, B.2.2.2.1, B.2.2.2.2.1, B.2.2.2.2.2.1⟩ hM ⟨callB_of n B.2.2.2.2.2.1 (jGood hY.1) rfl rfl rfl (B.2.2.2.2.2.1 _ hY.2.1) (B.2.2.2.2.2.1 _ hlink) hY.2.2 hR1, hy1, B.2.2.2.2.2.1 _ hin⟩ ⟨j_blind, fun U hU hW => j_pre B hP hS hZ U hU hW⟩ rfl hn hl.1 rfl (j_sum hsum) hdg hc1) hS (fun H1 locs1 hP1 hS1 hZ1 => kk ls H1 locs1 hl hP1 hS1 hZ1)
/-- in constructors: the heap's size is known -/
theorem j_new (B : jB l b D ta Γ own cc ret nL rm) (hex : ex) {C : String} {T : u_T} {N ci index : Nat} (hc : vwCl[ci]? = some (C, T, N)) (hin : ∀ w ∈ u_ws C T N, w ∈ jWS) (ty : Nat → FieldType) (hty : ∀ k, k < N → parseFieldDescriptor (T k).2.2.1 = some (ty k)) (hcl : Cond.classLink own index C ∈ jWS) (hinst : Cond.instantiable C N ∈ jWS) (hini : Cond.initialized C ∈ jWS)
    {fs : List Value} (hfs : ∀ j, j < N → defaultValue (ty j) = vp_V fs j) (hcells : cs + 1 ≤ rm.cells) (hslots : ss + N ≤ rm.slots) (hdg : decode cc pc = .ok (.new index, 3)) (kk : jW l b D Γ ex (cs + 1) (ss + N) nL (σ ++ [.inr (ci, fs)]) L (pc + 3) (.ref (b + σ.length) :: rest)) : jW l b D Γ ex cs ss nL σ L pc rest := by
  intro ls H locs hl hP hS hZ
  have hKn := B.2.2.2.2.2.2.1.1.1 ci _ hc
  have hsz := hZ hex
  have hRR := B.2.2.2.2.2.2.2.2.1
  refine W.newcK B.1 B.2.1 B.2.2.2.2.1 (B.2.2.2.2.2.1 _ hcl) (B.2.2.2.2.2.1 _ hinst) (B.2.2.2.2.2.1 _ hini) rfl hdg (by rw [hRR]; exact hcells) (by rw [hRR]; exact hslots) hKn.2.1 hsz fun H1 kC hkC e1 z1 o1 => ?_
  have hk : ∀ (k : Nat) (x : Nat × va_E), (jw b σ)[k]? = some x → H1[x.1]? = H[x.1]? := fun k x hx => o1 x.1 (by rw [← hsz]; exact (hP k x hx).lt)
  refine kk ls H1 locs hl ?_ ⟨Nat.le_trans hS.1 (by omega), fun x h1 h2 => (o1 x (by rw [← hsz]; exact Nat.lt_of_lt_of_le h1 hS.1)).trans (hS.2.1 x h1 h2), hS.2.2⟩ (fun _ => by rw [z1, List.length_append]; rfl)
  rw [jw_push]
  refine (hP.kept hk).app (fun k x hx => ?_)
  have hz : k < 1 := (List.getElem?_eq_some_iff.mp hx).1
  rw [show k = 0 by omega] at hx
  cases hx
  exact ⟨_, hc, (u_born ty B.2.2.2.2.2.1 hin hKn hkC e1 hty).to hfs⟩
theorem j_newa (B : jB l b D ta Γ own cc ret nL rm) (hex : ex) {atype : ArrayType} {t : Nat} (harr : Cond.arrayClass (newarray.typeOf atype) ∈ jWS) (ht : (jT ta)[t]? = some (ta t, newarray.typeOf atype)) {n : Int32} {N : Nat} {a0 : vp_A} (ha : ∀ cA : ClassId, vp_cell cA a0 = arrV cA N (fun _ => defaultValue (newarray.typeOf atype)))
    (hn : ¬ n < 0) (hN : n.toNatClampNeg = N) (hbytes : N * componentBytes (newarray.typeOf atype) ≤ 536870912) (hcells : cs + 1 ≤ rm.cells) (hslots : ss + N ≤ rm.slots) (hdg : decode cc pc = .ok (.newarray atype, 2)) (kk : jW l b D Γ ex (cs + 1) (ss + N) nL (σ ++ [.inl (ta t, a0)]) L (pc + 2) (.ref (b + σ.length) :: rest)) : jW l b D Γ ex cs ss nL σ L pc (.int n :: rest) := by
  intro ls H locs hl hP hS hZ
  have hsz := hZ hex
  have hRR := B.2.2.2.2.2.2.2.2.1
  refine va_newaK B.1 B.2.1 (B.2.2.2.2.2.1 _ harr) rfl hdg rfl hn hN hbytes (by rw [hRR]; exact hcells) (by rw [hRR]; exact hslots) hsz fun H1 cA e1 z1 o1 hAr hNm => ?_
  have hcA : cA = ta t := by
    have h9 := (B.2.2.2.2.2.2.1.1.2 t _ ht).2
    cases atype <;> exact Option.some.inj (hNm.symm.trans h9)
  subst hcA
  have hk : ∀ (k : Nat) (x : Nat × va_E), (jw b σ)[k]? = some x → H1[x.1]? = H[x.1]? := fun k x hx => o1 x.1 (by rw [← hsz]; exact (hP k x hx).lt)
  refine kk ls H1 locs hl ?_ ⟨Nat.le_trans hS.1 (by omega), fun x h1 h2 => (o1 x (by rw [← hsz]; exact Nat.lt_of_lt_of_le h1 hS.1)).trans (hS.2.1 x h1 h2), hS.2.2⟩ (fun _ => by rw [z1, List.length_append]; rfl)
  rw [jw_push]
  refine (hP.kept hk).app (fun k x hx => ?_)
  have hz : k < 1 := (List.getElem?_eq_some_iff.mp hx).1
  rw [show k = 0 by omega] at hx
  cases hx
  show H1[b + σ.length]? = some (vp_cell _ _)
  rw [ha]
  exact e1
theorem j_newq (B : jB l b D ta Γ own cc ret nL rm) (hex : ex) {C : String} {index t : Nat} (hcl : Cond.classLink own index C ∈ jWS) (hover : va_AO C Γ.2.2.2.1) (ht : (jT ta)[t]? = some (ta t, .object C)) {n : Int32} {N : Nat}
    (hn : ¬ n < 0) (hN : n.toNatClampNeg = N) (hbytes : N * 4 ≤ 536870912) (hcells : cs + 1 ≤ rm.cells) (hslots : ss + N ≤ rm.slots) (hdg : decode cc pc = .ok (.anewarray index, 3)) (kk : jW l b D Γ ex (cs + 1) (ss + N) nL (σ ++ [.inl (ta t, N, .inr (.inr (.inr (.inr (fun _ => none)))))]) L (pc + 3) (.ref (b + σ.length) :: rest)) : jW l b D Γ ex cs ss nL σ L pc (.int n :: rest) := by
  intro ls H locs hl hP hS hZ
  have hsz := hZ hex
  have hRR := B.2.2.2.2.2.2.2.2.1
  subst hN
  refine W.anew B.1 B.2.1 B.2.2.2.2.1 (B.2.2.2.2.2.1 _ hcl) (va_AO.use hover) rfl hdg rfl hn hbytes (by rw [hRR]; exact hcells) (by rw [hRR]; exact hslots) fun cA kA comp f1 f2 f3 f4 => ?_
  have hcA : cA = ta t := by
    obtain ⟨k9, c9, -, -, -, h9⟩ := (B.2.2.2.2.2.2.1.1.2 t _ ht).2
    exact Option.some.inj (f1.symm.trans h9)
  subst hcA
  generalize hH1 : H.push ({ cls := ta t, slots := Array.replicate n.toNatClampNeg .null, vm := .none } : Cell) = H1
  have z1 : H1.size = H.size + 1 := by rw [← hH1, Array.size_push]
  have e1 : H1[H.size]? = some (arrV (ta t) n.toNatClampNeg (fun _ => .null)) := by rw [← hH1, Array.getElem?_push_size, ← arrV_new]
  have o1 : ∀ q : Nat, q < H.size → H1[q]? = H[q]? := fun q hq => by rw [← hH1, Array.getElem?_push, if_neg (Nat.ne_of_lt hq)]
  rw [hsz] at e1 ⊢
  have hk : ∀ (k : Nat) (x : Nat × va_E), (jw b σ)[k]? = some x → H1[x.1]? = H[x.1]? := fun k x hx => o1 x.1 ((hP k x hx).lt)
  refine kk ls H1 locs hl ?_ ⟨Nat.le_trans hS.1 (by omega), fun x h1 h2 => (o1 x (Nat.lt_of_lt_of_le h1 hS.1)).trans (hS.2.1 x h1 h2), hS.2.2⟩ (fun _ => by rw [z1, hsz, List.length_append]; rfl)
  rw [jw_push]
  refine (hP.kept hk).app (fun k x hx => ?_)
  have hz : k < 1 := (List.getElem?_eq_some_iff.mp hx).1
  rw [show k = 0 by omega] at hx
  cases hx
  show H1[b + σ.length]? = some (vp_cell _ _)
  rw [vp_cell_q]
  exact e1
theorem j_objInit (B : jB l b D ta Γ own cc ret nL rm) {index a : Nat} (hlink : Cond.methodLink own index objectInit ∈ jWS) (hin : Cond.instanceMethod objectInit ∈ jWS) (hcode : Cond.code objectInit ⟨#[0xb1]⟩ 1 none ∈ jWS) (hframes : 1 ≤ rm.frames) (hlocals : (rest.map fun v => v.category).sum + 12 ≤ rm.locals) (hdg : decode cc pc = .ok (.invokespecial index, 3)) (kk : jW l b D Γ ex cs ss nL σ L (pc + 3) rest) : jW l b D Γ ex cs ss nL σ L pc (.ref a :: rest) := by
  intro ls H locs hl hP hS hZ
  have hRR := B.2.2.2.2.2.2.2.2.1
  exact W.objInit B.1 B.2.1 B.2.2.2.2.1 (B.2.2.2.2.2.1 _ hlink) (B.2.2.2.2.2.1 _ hin) (B.2.2.2.2.2.1 _ hcode) rfl (hl.1.trans B.2.2.2.1.symm) rfl hdg (by rw [hRR]; exact hframes) (by rw [hRR]; show 2 * 0 + _ + _ ≤ _; omega) (kk ls H locs hl hP hS hZ)
/-- putfield in a constructor: a final field, another one -/
theorem j_putF (B : jB l b D ta Γ own cc ret nL rm) (hme : Γ.2.2.2.2.2.2.2.1.name = "<init>") {ref C : String} {T : u_T} {N ci index : Nat} (hc : vwCl[ci]? = some (C, T, N)) (hin : ∀ w ∈ u_ws C T N, w ∈ jWS) (ty0 : Nat → FieldType) (hty : ∀ k, k < N → parseFieldDescriptor (T k).2.2.1 = some (ty0 k)) (hnm : ∀ a, a < N → ∀ b, b < N → a ≠ b → (T a).2.1 ≠ (T b).2.1) (k : Nat) (hk : k < N) (href : (T k).1 = ref) (hlink : Cond.fieldLink own index ref (T k).2.1 (T k).2.2.1 ∈ jWS) (hfin : (T k).2.2.2 = true) (hdecl : (T k).1 = own)
    {q : Nat} {fs : List Value} (hq : σ[q]? = some (.inr (ci, fs))) {v : Value} (hn : narrow (ty0 k) v = v) (hfit : fits (ty0 k) v = true) (hl : k < fs.length) (hdg : decode cc pc = .ok (.putfield index, 3)) (kk : jW l b D Γ ex cs ss nL (σ.set q (.inr (ci, fs.set k v))) L (pc + 3) rest) : jW l b D Γ ex cs ss nL σ L pc (v :: .ref (b + q) :: rest) := by
  intro ls H locs hll hP hS0 hZ
  have hts := B.2.2.2.2.2.1
  have hK := B.2.2.2.2.2.2.1.1
  have hown := B.2.2.2.2.1
  have he := jw_at (b := b) hq
  have hD : va_D (fun q => b ≤ q) (jw b σ) := jw_D
  have hap := va_apart (own := own) hts hin ty0 hty hnm hK hc
  obtain ⟨r, h1, cell, q1, q2, q3, q4⟩ := hP q _ he
  have hr : r = (C, T, N) := Option.some.inj (h1.symm.trans hc)
  subst hr
  obtain ⟨hS, hfc, kC, hkC, hkind⟩ := hK.1 ci _ hc
  obtain ⟨cf, kf, fi, f, hi, hsl⟩ := hS k hk
  have hlay := hts _ (hin _ (u_in_lay hk))
  unfold u_lay at hlay
  rw [if_pos hfin] at hlay
  have hst := (u_facts hfc hkC (u_lays hts hin hk) hi).1
  have hcf : Γ.2.2.2.2.1.cls = cf := by
    obtain ⟨_, _, c', _, _, _, -, -, hf', -, -, -, hown2, -⟩ := Cond.laysFinal_spec hlay
    have e1 : c' = cf := by have := hi.symm.trans hf'; simp at this; exact this.1.symm
    rw [hdecl] at hown2
    rw [← e1]; exact Option.some.inj (hown.symm.trans hown2)
  have h6 := u_fits hfc hkC hkind (Or.inr hlay) hi (hty k hk) hn hfit
  refine W.putFinK B.1 B.2.1 hown (hts _ hlink) (by rw [← href]; exact hi) hst hcf hme (by rw [q2]; exact h6) q1 q3 (by rw [hsl]; exact k2_hasslot (q4 k hk)) rfl rfl hdg fun H' e1 e2 e3 => ?_
  rw [hsl] at e1 ⊢
  refine kk ls H' _ hll ?_ (hS0.put e2 e3 (hD.2 q _ he)) (fun h => by rw [e2, List.length_set]; exact hZ h)
  rw [← jw_set]
  exact hP.set hD he ⟨_, hc, t_OB.to (V := updV (vp_V fs) k v) ⟨_, e1, q2, q3, t_set q4 hap hk v⟩ (fun j _ => vp_updV_set hl v j)⟩ e3
theorem j_putX (B : jB l b D ta Γ own cc ret nL rm) {ref C : String} {T : u_T} {N ci index : Nat} (hc : vwCl[ci]? = some (C, T, N)) (hin : ∀ w ∈ u_ws C T N, w ∈ jWS) (ty0 : Nat → FieldType) (hty : ∀ k, k < N → parseFieldDescriptor (T k).2.2.1 = some (ty0 k)) (hnm : ∀ a, a < N → ∀ b, b < N → a ≠ b → (T a).2.1 ≠ (T b).2.1) (k : Nat) (hk : k < N) (href : (T k).1 = ref) (hlink : Cond.fieldLink own index ref (T k).2.1 (T k).2.2.1 ∈ jWS) (hfin : (T k).2.2.2 = false)
    {q : Nat} {fs : List Value} (hq : σ[q]? = some (.inr (ci, fs))) {v : Value} (hn : narrow (ty0 k) v = v) (hfit : fits (ty0 k) v = true) (hl : k < fs.length) (hdg : decode cc pc = .ok (.putfield index, 3)) (kk : jW l b D Γ ex cs ss nL (σ.set q (.inr (ci, fs.set k v))) L (pc + 3) rest) : jW l b D Γ ex cs ss nL σ L pc (v :: .ref (b + q) :: rest) := by
  intro ls H locs hll hP hS0 hZ
  have hts := B.2.2.2.2.2.1
  have hK := B.2.2.2.2.2.2.1.1
  have hown := B.2.2.2.2.1
  have he := jw_at (b := b) hq
  have hD : va_D (fun q => b ≤ q) (jw b σ) := jw_D
  have hap := va_apart (own := own) hts hin ty0 hty hnm hK hc
  obtain ⟨r, h1, cell, q1, q2, q3, q4⟩ := hP q _ he
  have hr : r = (C, T, N) := Option.some.inj (h1.symm.trans hc)
  subst hr
  obtain ⟨hS, hfc, kC, hkC, hkind⟩ := hK.1 ci _ hc
  obtain ⟨cf, kf, fi, f, hi, hsl⟩ := hS k hk
  have hlay := hts _ (hin _ (u_in_lay hk))
  unfold u_lay at hlay
  rw [if_neg (by rw [hfin]; decide)] at hlay
  have hst := (u_facts hfc hkC (u_lays hts hin hk) hi).1
  have h6 := u_store hfc hkC hkind hlay hi (hty k hk) hn hfit
  refine W.putK B.1 B.2.1 (f := f) ⟨hown, hts _ hlink, ⟨_, _, _, by rw [← href]; exact hi⟩, hst⟩ (by rw [q2]; exact h6) q1 q3 (by rw [hsl]; exact k2_hasslot (q4 k hk)) rfl rfl hdg fun H' e1 e2 e3 => ?_
  rw [hsl] at e1 ⊢
  refine kk ls H' _ hll ?_ (hS0.put e2 e3 (hD.2 q _ he)) (fun h => by rw [e2, List.length_set]; exact hZ h)
  rw [← jw_set]
  exact hP.set hD he ⟨_, hc, t_OB.to (V := updV (vp_V fs) k v) ⟨_, e1, q2, q3, t_set q4 hap hk v⟩ (fun j _ => vp_updV_set hl v j)⟩ e3
theorem j_aastX (B : jB l b D ta Γ own cc ret nL rm) {q qk n t ci : Nat} {rc : vw_C} {vs : List Value} {f : Nat → Option Nat} {i : Int32} (hc : vwCl[ci]? = some rc) (ht : (jT ta)[t]? = some (ta t, .object rc.1)) (hq : σ[q]? = some (.inl (ta t, n, .inr (.inr (.inr (.inr f)))))) (hv : σ[qk]? = some (.inr (ci, vs))) (hin : vp_in i n) (hdg : decode cc pc = .ok (.aastore, 1))
    (kk : jW l b D Γ ex cs ss nL (σ.set q (.inl (ta t, n, .inr (.inr (.inr (.inr (va_up f i.toNatClampNeg (some (b + qk))))))))) L (pc + 1) rest) : jW l b D Γ ex cs ss nL σ L pc (.ref (b + qk) :: .int i :: .ref (b + q) :: rest) := by
  intro ls H locs hll hP hS hZ
  have hK := B.2.2.2.2.2.2.1.1
  have ha := jw_at (b := b) hq
  have hD : va_D (fun q => b ≤ q) (jw b σ) := jw_D
  have hlt : i.toNatClampNeg < n := Nat.not_le.mp fun q => hin (Or.inr q)
  have h0 : ¬ i < 0 := fun q => hin (Or.inl q)
  obtain ⟨r', hr', cellV, g1, g2, g3, -⟩ := hP qk _ (jw_at (b := b) hv)
  have hcls := (hK.1 ci rc hc).2
  obtain ⟨kA, comp, k1, k2, k3, -⟩ := (hK.2 t _ ht).2
  have hcomp : comp = D.1 ci := Option.some.inj (k3.symm.trans hcls.1)
  subst hcomp
  obtain ⟨kC, hkC, -⟩ := hcls.2
  refine W.aast B.1 B.2.1 (hP q _ ha) (fun q h => by cases h) (fun h => by cases h) k1 k2 rfl hkC ⟨h0, by show _ < (arrV _ _ _).slots.size; rw [arrV_size]; exact hlt⟩ g1 (fun q h => by rw [g3] at h; cases h) (by rw [g2]; exact hkC) (by rw [g2]; exact va_assign hcls) rfl rfl hdg fun H1 e z oq => ?_
  refine kk ls H1 _ hll ?_ (hS.put z oq (hD.2 q _ ha)) (fun h => by rw [z, List.length_set]; exact hZ h)
  rw [← jw_set]
  refine hP.set hD ha ?_ oq
  show H1[b + q]? = some (vp_cell _ _)
  rw [e]
  rw [vp_cell_q, vp_cell_q, arrV_store]
  congr 2
  funext z9
  by_cases hq9 : z9 = i.toNatClampNeg
  · subst hq9
    simp [updV, va_up, va_rf]
  · simp [updV, va_up, hq9]
theorem j_callIN (B : jB l b D ta Γ own cc ret nL rm) (hM : jC l b D ta ex y cb mL none rm' (.ref (b + q) :: as) σ none σ') (hY : jY y cb mL none n) (hlink : Cond.methodLinkNest own index y host ∈ jNW) (hin : Cond.instanceMethod y ∈ jWS) (hy1 : y.name = "<init>") (hn : as.length = n) (hR : rm'.frames + 1 ≤ rm.frames ∧ 8 + (mL + 11) + rm'.locals ≤ rm.locals) (hc : cs + rm'.cells ≤ rm.cells ∧ ss + rm'.slots ≤ rm.slots) (hs0 : st0 = as.reverse ++ .ref (b + q) :: rest) (hsum : (rest.map fun v => v.category).sum ≤ 8)
    (hdg : decode cc pc = .ok (.invokespecial index, 3)) (kk : jW l b D Γ ex (cs + rm'.cells) (ss + rm'.slots) nL σ' L (pc + 3) rest) : jW l b D Γ ex cs ss nL σ L pc st0 := by
  subst hs0
  intro ls H locs hl hP hS hZ
  have hR1 : rm'.frames + 1 ≤ Γ.2.2.1.frames ∧ 8 + (mL + 11) + rm'.locals ≤ Γ.2.2.1.locals := by rw [B.2.2.2.2.2.2.2.2.1]; exact hR
  have hc1 : cs + rm'.cells ≤ Γ.2.2.1.cells ∧ ss + rm'.slots ≤ Γ.2.2.1.slots := by rw [B.2.2.2.2.2.2.2.2.1]; exact hc
  exact j_go (va_runIN (bytes := cb) (maxL := mL) (host := host) ⟨B.1, B.2.1, B.2.2.2.1, B.2.2.2.2.1, B.2.2.2.2.2.1⟩ hM ⟨j_cn B hY hlink hR, hy1, B.2.2.2.2.2.1 _ hin⟩ ⟨j_blind, fun U hU hW => j_pre B hP hS hZ U hU hW⟩ rfl hn hl.1 rfl (j_sum hsum) hdg hc1) hS (fun H1 locs1 hP1 hS1 hZ1 => kk ls H1 locs1 hl hP1 hS1 hZ1)
theorem j_lcmp (B : jB l b D ta Γ own cc ret nL rm) {x y : Int64} (hdg : decode cc pc = .ok (.lcmp, 1)) (kk : jW l b D Γ ex cs ss nL σ L (pc + 1) (.int (lg_cmp x y) :: rest)) : jW l b D Γ ex cs ss nL σ L pc (.long y :: .long x :: rest) := fun ls H locs hl hP hS hZ => W.lcmp B.1 B.2.1 hdg (kk ls H locs hl hP hS hZ)
theorem j_mmax (B : jB l b D ta Γ own cc ret nL rm) {index : Nat} (hlink : Cond.methodLink own index Lib.Math.max.name ∈ jWS) (hst : Cond.static Lib.Math.max.name ∈ jWS) (hini : Cond.initialized "java/lang/Math" ∈ jWS) (hcode : Cond.code Lib.Math.max.name Lib.Math.max.code 2 (some .int) ∈ jWS) (hframes : 1 ≤ rm.frames) (hlocals : (rest.map fun v => v.category).sum + 13 ≤ rm.locals) (hc : cs ≤ rm.cells) (hs : ss ≤ rm.slots) {x y : Int32} (hdg : decode cc pc = .ok (.invokestatic index, 3)) (kk : jW l b D Γ ex cs ss nL σ L (pc + 3) (.int (if x < y then y else x) :: rest)) : jW l b D Γ ex cs ss nL σ L pc (.int y :: .int x :: rest) :=
  fun ls H locs hl hP hS hZ => va_mmax B.1 B.2.1 (B.2.2.2.1.trans hl.1.symm) B.2.2.2.2.1 (B.2.2.2.2.2.1 _ hlink) (B.2.2.2.2.2.1 _ hst) (B.2.2.2.2.2.1 _ hini) (B.2.2.2.2.2.1 _ hcode) (by rw [B.2.2.2.2.2.2.2.2.1]; exact hframes) (by rw [B.2.2.2.2.2.2.2.2.1]; exact hlocals) (by rw [B.2.2.2.2.2.2.2.2.1]; exact hc) (by rw [B.2.2.2.2.2.2.2.2.1]; exact hs) hdg (kk ls H locs hl hP hS hZ)
theorem j_topi {x : Int32} (k : ∀ y : Int32, y = x → jW l b D Γ ex cs ss nL σ L pc (.int y :: rest)) : jW l b D Γ ex cs ss nL σ L pc (.int x :: rest) := k x rfl
theorem j_topl {x : Int64} (k : ∀ y : Int64, y = x → jW l b D Γ ex cs ss nL σ L pc (.long y :: rest)) : jW l b D Γ ex cs ss nL σ L pc (.long x :: rest) := k x rfl
end JB
section JR
variable {l : Launch} {b : Nat} {D : va_G} {ta : Nat → ClassId} {Γ : jG} {ex : Prop} {own : String} {cc : ByteArray} {ret : Option FieldType} {nL cs ss pc : Nat} {rm : Room} {σ : List va_E} {L : List (Nat × Value)} {rest : List Value}
theorem j_iconst (B : jB l b D ta Γ own cc ret nL rm) {n : Int} {v : Int32} (hdg : decode cc pc = .ok (.iconst n, 1)) (hv : Int32.ofInt n = v) (kk : jW l b D Γ ex cs ss nL σ L (pc + 1) (.int v :: rest)) : jW l b D Γ ex cs ss nL σ L pc (rest) := fun ls H locs hl hP hS hZ => lv_iconst B.1 B.2.1 hdg hv (kk ls H locs hl hP hS hZ)
theorem j_bipush (B : jB l b D ta Γ own cc ret nL rm) {n : Int} {v : Int32} (hdg : decode cc pc = .ok (.bipush n, 2)) (hv : (Int8.ofInt n).toInt32 = v) (kk : jW l b D Γ ex cs ss nL σ L (pc + 2) (.int v :: rest)) : jW l b D Γ ex cs ss nL σ L pc (rest) := fun ls H locs hl hP hS hZ => lv_bipush B.1 B.2.1 hdg hv (kk ls H locs hl hP hS hZ)
theorem j_sipush (B : jB l b D ta Γ own cc ret nL rm) {n : Int} {v : Int32} (hdg : decode cc pc = .ok (.sipush n, 3)) (hv : (Int16.ofInt n).toInt32 = v) (kk : jW l b D Γ ex cs ss nL σ L (pc + 3) (.int v :: rest)) : jW l b D Γ ex cs ss nL σ L pc (rest) := fun ls H locs hl hP hS hZ => lv_sipush B.1 B.2.1 hdg hv (kk ls H locs hl hP hS hZ)
theorem j_lconst (B : jB l b D ta Γ own cc ret nL rm) {n : Fin 2} {v : Int64} (hdg : decode cc pc = .ok (.lconst n, 1)) (hv : Int64.ofNat (n : Nat) = v) (kk : jW l b D Γ ex cs ss nL σ L (pc + 1) (.long v :: rest)) : jW l b D Γ ex cs ss nL σ L pc (rest) := fun ls H locs hl hP hS hZ => lv_lconst B.1 B.2.1 hdg hv (kk ls H locs hl hP hS hZ)
theorem j_iload_n (B : jB l b D ta Γ own cc ret nL rm) {k : Fin 4} {i : Nat} {x : Int32} (hdg : decode cc pc = .ok (.iload_n k, 1)) (hi : (k : Nat) = i) (q : Nat) (hq : L[q]? = some (i, (.int x))) (kk : jW l b D Γ ex cs ss nL σ L (pc + 1) (.int x :: rest)) : jW l b D Γ ex cs ss nL σ L pc (rest) := fun ls H locs hl hP hS hZ => lv_iload_n B.1 B.2.1 hdg hi (lv_at hl q hq) (kk ls H locs hl hP hS hZ)
theorem j_iload (B : jB l b D ta Γ own cc ret nL rm) {i : Nat} {x : Int32} (hdg : decode cc pc = .ok (.iload i, 2)) (q : Nat) (hq : L[q]? = some (i, (.int x))) (kk : jW l b D Γ ex cs ss nL σ L (pc + 2) (.int x :: rest)) : jW l b D Γ ex cs ss nL σ L pc (rest) := fun ls H locs hl hP hS hZ => lv_iload B.1 B.2.1 hdg (lv_at hl q hq) (kk ls H locs hl hP hS hZ)
theorem j_lload_n (B : jB l b D ta Γ own cc ret nL rm) {k : Fin 4} {i : Nat} {x : Int64} (hdg : decode cc pc = .ok (.lload_n k, 1)) (hi : (k : Nat) = i) (q : Nat) (hq : L[q]? = some (i, (.long x))) (kk : jW l b D Γ ex cs ss nL σ L (pc + 1) (.long x :: rest)) : jW l b D Γ ex cs ss nL σ L pc (rest) := fun ls H locs hl hP hS hZ => lv_lload_n B.1 B.2.1 hdg hi (lv_at hl q hq) (kk ls H locs hl hP hS hZ)
theorem j_lload (B : jB l b D ta Γ own cc ret nL rm) {i : Nat} {x : Int64} (hdg : decode cc pc = .ok (.lload i, 2)) (q : Nat) (hq : L[q]? = some (i, (.long x))) (kk : jW l b D Γ ex cs ss nL σ L (pc + 2) (.long x :: rest)) : jW l b D Γ ex cs ss nL σ L pc (rest) := fun ls H locs hl hP hS hZ => lv_lload B.1 B.2.1 hdg (lv_at hl q hq) (kk ls H locs hl hP hS hZ)
theorem j_aload_n (B : jB l b D ta Γ own cc ret nL rm) {k : Fin 4} {i : Nat} {x : Nat} (hdg : decode cc pc = .ok (.aload_n k, 1)) (hi : (k : Nat) = i) (q : Nat) (hq : L[q]? = some (i, (.ref x))) (kk : jW l b D Γ ex cs ss nL σ L (pc + 1) (.ref x :: rest)) : jW l b D Γ ex cs ss nL σ L pc (rest) := fun ls H locs hl hP hS hZ => lv_aload_n B.1 B.2.1 hdg hi (lv_at hl q hq) (kk ls H locs hl hP hS hZ)
theorem j_aload (B : jB l b D ta Γ own cc ret nL rm) {i : Nat} {x : Nat} (hdg : decode cc pc = .ok (.aload i, 2)) (q : Nat) (hq : L[q]? = some (i, (.ref x))) (kk : jW l b D Γ ex cs ss nL σ L (pc + 2) (.ref x :: rest)) : jW l b D Γ ex cs ss nL σ L pc (rest) := fun ls H locs hl hP hS hZ => lv_aload B.1 B.2.1 hdg (lv_at hl q hq) (kk ls H locs hl hP hS hZ)
theorem j_istore_n (B : jB l b D ta Γ own cc ret nL rm) {L' : List (Nat × Value)} {k : Fin 4} {i : Nat} {x : Int32} (hdg : decode cc pc = .ok (.istore_n k, 1)) (hi : (k : Nat) = i) (hn : i < nL) (ks : List Nat) (hks : lv_pick ((i, Value.int x) :: L.filter (fun q => !(q.1 == i) && !(q.1 + 1 == i && q.2.category == 2))) ks = L') (kk : jW l b D Γ ex cs ss nL σ L' (pc + 1) rest) : jW l b D Γ ex cs ss nL σ L pc (.int x :: rest) := fun ls H locs hl hP hS hZ => lv_istore_n B.1 B.2.1 hdg hi hl hn rfl (fun ls' hl' => kk ls' H locs (lv_sub hl' ks hks) hP hS hZ)
theorem j_istore (B : jB l b D ta Γ own cc ret nL rm) {L' : List (Nat × Value)} {i : Nat} {x : Int32} (hdg : decode cc pc = .ok (.istore i, 2)) (hn : i < nL) (ks : List Nat) (hks : lv_pick ((i, Value.int x) :: L.filter (fun q => !(q.1 == i) && !(q.1 + 1 == i && q.2.category == 2))) ks = L') (kk : jW l b D Γ ex cs ss nL σ L' (pc + 2) rest) : jW l b D Γ ex cs ss nL σ L pc (.int x :: rest) := fun ls H locs hl hP hS hZ => lv_istore B.1 B.2.1 hdg hl hn rfl (fun ls' hl' => kk ls' H locs (lv_sub hl' ks hks) hP hS hZ)
theorem j_lstore_n (B : jB l b D ta Γ own cc ret nL rm) {L' : List (Nat × Value)} {k : Fin 4} {i : Nat} {x : Int64} (hdg : decode cc pc = .ok (.lstore_n k, 1)) (hi : (k : Nat) = i) (hn : i + 1 < nL) (ks : List Nat) (hks : lv_pick ((i, Value.long x) :: L.filter (fun q => !(q.1 == i) && (!(q.1 == i + 1) && !(q.1 + 1 == i && q.2.category == 2)))) ks = L') (kk : jW l b D Γ ex cs ss nL σ L' (pc + 1) rest) : jW l b D Γ ex cs ss nL σ L pc (.long x :: rest) := fun ls H locs hl hP hS hZ => lv_lstore_n B.1 B.2.1 hdg hi hl hn rfl (fun ls' hl' => kk ls' H locs (lv_sub hl' ks hks) hP hS hZ)
theorem j_lstore (B : jB l b D ta Γ own cc ret nL rm) {L' : List (Nat × Value)} {i : Nat} {x : Int64} (hdg : decode cc pc = .ok (.lstore i, 2)) (hn : i + 1 < nL) (ks : List Nat) (hks : lv_pick ((i, Value.long x) :: L.filter (fun q => !(q.1 == i) && (!(q.1 == i + 1) && !(q.1 + 1 == i && q.2.category == 2)))) ks = L') (kk : jW l b D Γ ex cs ss nL σ L' (pc + 2) rest) : jW l b D Γ ex cs ss nL σ L pc (.long x :: rest) := fun ls H locs hl hP hS hZ => lv_lstore B.1 B.2.1 hdg hl hn rfl (fun ls' hl' => kk ls' H locs (lv_sub hl' ks hks) hP hS hZ)
theorem j_astore_n (B : jB l b D ta Γ own cc ret nL rm) {L' : List (Nat × Value)} {k : Fin 4} {i : Nat} {x : Nat} (hdg : decode cc pc = .ok (.astore_n k, 1)) (hi : (k : Nat) = i) (hn : i < nL) (ks : List Nat) (hks : lv_pick ((i, Value.ref x) :: L.filter (fun q => !(q.1 == i) && !(q.1 + 1 == i && q.2.category == 2))) ks = L') (kk : jW l b D Γ ex cs ss nL σ L' (pc + 1) rest) : jW l b D Γ ex cs ss nL σ L pc (.ref x :: rest) := fun ls H locs hl hP hS hZ => lv_astore_n B.1 B.2.1 hdg hi hl hn rfl (fun ls' hl' => kk ls' H locs (lv_sub hl' ks hks) hP hS hZ)
theorem j_astore (B : jB l b D ta Γ own cc ret nL rm) {L' : List (Nat × Value)} {i : Nat} {x : Nat} (hdg : decode cc pc = .ok (.astore i, 2)) (hn : i < nL) (ks : List Nat) (hks : lv_pick ((i, Value.ref x) :: L.filter (fun q => !(q.1 == i) && !(q.1 + 1 == i && q.2.category == 2))) ks = L') (kk : jW l b D Γ ex cs ss nL σ L' (pc + 2) rest) : jW l b D Γ ex cs ss nL σ L pc (.ref x :: rest) := fun ls H locs hl hP hS hZ => lv_astore B.1 B.2.1 hdg hl hn rfl (fun ls' hl' => kk ls' H locs (lv_sub hl' ks hks) hP hS hZ)
theorem j_iinc (B : jB l b D ta Γ own cc ret nL rm) {L' : List (Nat × Value)} {i k : Nat} {n : Int} {x v : Int32} (hdg : decode cc pc = .ok (.iinc i n, 3)) (hk : L[k]? = some (i, .int x)) (hv : x + Int32.ofInt n = v) (hn : i < nL) (ks : List Nat) (hks : lv_pick ((i, Value.int v) :: L.filter (fun q => !(q.1 == i) && !(q.1 + 1 == i && q.2.category == 2))) ks = L') (kk : jW l b D Γ ex cs ss nL σ L' (pc + 3) rest) : jW l b D Γ ex cs ss nL σ L pc rest := fun ls H locs hl hP hS hZ => lv_iinc B.1 B.2.1 hdg hl hk hv hn rfl (fun ls' hl' => kk ls' H locs (lv_sub hl' ks hks) hP hS hZ)
theorem j_iadd (B : jB l b D ta Γ own cc ret nL rm) {x y : Int32} (hdg : decode cc pc = .ok (.iadd, 1)) (kk : jW l b D Γ ex cs ss nL σ L (pc + 1) (.int (x + y) :: rest)) : jW l b D Γ ex cs ss nL σ L pc (.int y :: .int x :: rest) := fun ls H locs hl hP hS hZ => lv_iadd B.1 B.2.1 hdg (kk ls H locs hl hP hS hZ)
theorem j_isub (B : jB l b D ta Γ own cc ret nL rm) {x y : Int32} (hdg : decode cc pc = .ok (.isub, 1)) (kk : jW l b D Γ ex cs ss nL σ L (pc + 1) (.int (x - y) :: rest)) : jW l b D Γ ex cs ss nL σ L pc (.int y :: .int x :: rest) := fun ls H locs hl hP hS hZ => lv_isub B.1 B.2.1 hdg (kk ls H locs hl hP hS hZ)
theorem j_imul (B : jB l b D ta Γ own cc ret nL rm) {x y : Int32} (hdg : decode cc pc = .ok (.imul, 1)) (kk : jW l b D Γ ex cs ss nL σ L (pc + 1) (.int (x * y) :: rest)) : jW l b D Γ ex cs ss nL σ L pc (.int y :: .int x :: rest) := fun ls H locs hl hP hS hZ => lv_imul B.1 B.2.1 hdg (kk ls H locs hl hP hS hZ)
theorem j_iand (B : jB l b D ta Γ own cc ret nL rm) {x y : Int32} (hdg : decode cc pc = .ok (.iand, 1)) (kk : jW l b D Γ ex cs ss nL σ L (pc + 1) (.int (x &&& y) :: rest)) : jW l b D Γ ex cs ss nL σ L pc (.int y :: .int x :: rest) := fun ls H locs hl hP hS hZ => lv_iand B.1 B.2.1 hdg (kk ls H locs hl hP hS hZ)
theorem j_ior (B : jB l b D ta Γ own cc ret nL rm) {x y : Int32} (hdg : decode cc pc = .ok (.ior, 1)) (kk : jW l b D Γ ex cs ss nL σ L (pc + 1) (.int (x ||| y) :: rest)) : jW l b D Γ ex cs ss nL σ L pc (.int y :: .int x :: rest) := fun ls H locs hl hP hS hZ => lv_ior B.1 B.2.1 hdg (kk ls H locs hl hP hS hZ)
theorem j_ixor (B : jB l b D ta Γ own cc ret nL rm) {x y : Int32} (hdg : decode cc pc = .ok (.ixor, 1)) (kk : jW l b D Γ ex cs ss nL σ L (pc + 1) (.int (x ^^^ y) :: rest)) : jW l b D Γ ex cs ss nL σ L pc (.int y :: .int x :: rest) := fun ls H locs hl hP hS hZ => lv_ixor B.1 B.2.1 hdg (kk ls H locs hl hP hS hZ)
theorem j_idiv (B : jB l b D ta Γ own cc ret nL rm) {x y : Int32} (hdg : decode cc pc = .ok (.idiv, 1)) (hne : ¬ y = 0) (kk : jW l b D Γ ex cs ss nL σ L (pc + 1) (.int (x / y) :: rest)) : jW l b D Γ ex cs ss nL σ L pc (.int y :: .int x :: rest) := fun ls H locs hl hP hS hZ => lv_idiv B.1 B.2.1 hdg hne (kk ls H locs hl hP hS hZ)
theorem j_irem (B : jB l b D ta Γ own cc ret nL rm) {x y : Int32} (hdg : decode cc pc = .ok (.irem, 1)) (hne : ¬ y = 0) (kk : jW l b D Γ ex cs ss nL σ L (pc + 1) (.int (x - x / y * y) :: rest)) : jW l b D Γ ex cs ss nL σ L pc (.int y :: .int x :: rest) := fun ls H locs hl hP hS hZ => lv_irem B.1 B.2.1 hdg hne (kk ls H locs hl hP hS hZ)
theorem j_ineg (B : jB l b D ta Γ own cc ret nL rm) {x : Int32} (hdg : decode cc pc = .ok (.ineg, 1)) (kk : jW l b D Γ ex cs ss nL σ L (pc + 1) (.int (-x) :: rest)) : jW l b D Γ ex cs ss nL σ L pc (.int x :: rest) := fun ls H locs hl hP hS hZ => lv_ineg B.1 B.2.1 hdg (kk ls H locs hl hP hS hZ)
theorem j_ladd (B : jB l b D ta Γ own cc ret nL rm) {x y : Int64} (hdg : decode cc pc = .ok (.ladd, 1)) (kk : jW l b D Γ ex cs ss nL σ L (pc + 1) (.long (x + y) :: rest)) : jW l b D Γ ex cs ss nL σ L pc (.long y :: .long x :: rest) := fun ls H locs hl hP hS hZ => lv_ladd B.1 B.2.1 hdg (kk ls H locs hl hP hS hZ)
theorem j_lsub (B : jB l b D ta Γ own cc ret nL rm) {x y : Int64} (hdg : decode cc pc = .ok (.lsub, 1)) (kk : jW l b D Γ ex cs ss nL σ L (pc + 1) (.long (x - y) :: rest)) : jW l b D Γ ex cs ss nL σ L pc (.long y :: .long x :: rest) := fun ls H locs hl hP hS hZ => lv_lsub B.1 B.2.1 hdg (kk ls H locs hl hP hS hZ)
theorem j_lmul (B : jB l b D ta Γ own cc ret nL rm) {x y : Int64} (hdg : decode cc pc = .ok (.lmul, 1)) (kk : jW l b D Γ ex cs ss nL σ L (pc + 1) (.long (x * y) :: rest)) : jW l b D Γ ex cs ss nL σ L pc (.long y :: .long x :: rest) := fun ls H locs hl hP hS hZ => lv_lmul B.1 B.2.1 hdg (kk ls H locs hl hP hS hZ)
theorem j_land (B : jB l b D ta Γ own cc ret nL rm) {x y : Int64} (hdg : decode cc pc = .ok (.land, 1)) (kk : jW l b D Γ ex cs ss nL σ L (pc + 1) (.long (x &&& y) :: rest)) : jW l b D Γ ex cs ss nL σ L pc (.long y :: .long x :: rest) := fun ls H locs hl hP hS hZ => lv_land B.1 B.2.1 hdg (kk ls H locs hl hP hS hZ)
theorem j_lor (B : jB l b D ta Γ own cc ret nL rm) {x y : Int64} (hdg : decode cc pc = .ok (.lor, 1)) (kk : jW l b D Γ ex cs ss nL σ L (pc + 1) (.long (x ||| y) :: rest)) : jW l b D Γ ex cs ss nL σ L pc (.long y :: .long x :: rest) := fun ls H locs hl hP hS hZ => lv_lor B.1 B.2.1 hdg (kk ls H locs hl hP hS hZ)
theorem j_lxor (B : jB l b D ta Γ own cc ret nL rm) {x y : Int64} (hdg : decode cc pc = .ok (.lxor, 1)) (kk : jW l b D Γ ex cs ss nL σ L (pc + 1) (.long (x ^^^ y) :: rest)) : jW l b D Γ ex cs ss nL σ L pc (.long y :: .long x :: rest) := fun ls H locs hl hP hS hZ => lv_lxor B.1 B.2.1 hdg (kk ls H locs hl hP hS hZ)
theorem j_ishl (B : jB l b D ta Γ own cc ret nL rm) {x y : Int32} (hdg : decode cc pc = .ok (.ishl, 1)) (kk : jW l b D Γ ex cs ss nL σ L (pc + 1) (.int (x <<< (y &&& 31)) :: rest)) : jW l b D Γ ex cs ss nL σ L pc (.int y :: .int x :: rest) := fun ls H locs hl hP hS hZ => lv_ishl B.1 B.2.1 hdg (kk ls H locs hl hP hS hZ)
theorem j_ishr (B : jB l b D ta Γ own cc ret nL rm) {x y : Int32} (hdg : decode cc pc = .ok (.ishr, 1)) (kk : jW l b D Γ ex cs ss nL σ L (pc + 1) (.int (x >>> (y &&& 31)) :: rest)) : jW l b D Γ ex cs ss nL σ L pc (.int y :: .int x :: rest) := fun ls H locs hl hP hS hZ => lv_ishr B.1 B.2.1 hdg (kk ls H locs hl hP hS hZ)
theorem j_iushr (B : jB l b D ta Γ own cc ret nL rm) {x y v : Int32} (hdg : decode cc pc = .ok (.iushr, 1)) (hv : (x.toUInt32 >>> (y.toUInt32 &&& Int32.toUInt32 31)).toInt32 = v) (kk : jW l b D Γ ex cs ss nL σ L (pc + 1) (.int v :: rest)) : jW l b D Γ ex cs ss nL σ L pc (.int y :: .int x :: rest) := fun ls H locs hl hP hS hZ => lv_iushr B.1 B.2.1 hdg hv (kk ls H locs hl hP hS hZ)
theorem j_lushr (B : jB l b D ta Γ own cc ret nL rm) {x v : Int64} {y : Int32} (hdg : decode cc pc = .ok (.lushr, 1)) (hv : (x.toUInt64 >>> (y.toInt64.toUInt64 &&& Int64.toUInt64 63)).toInt64 = v) (kk : jW l b D Γ ex cs ss nL σ L (pc + 1) (.long v :: rest)) : jW l b D Γ ex cs ss nL σ L pc (.int y :: .long x :: rest) := fun ls H locs hl hP hS hZ => lv_lushr B.1 B.2.1 hdg hv (kk ls H locs hl hP hS hZ)
theorem j_lshl (B : jB l b D ta Γ own cc ret nL rm) {x v : Int64} {y : Int32} (hdg : decode cc pc = .ok (.lshl, 1)) (hv : x <<< (y.toInt64 &&& 63) = v) (kk : jW l b D Γ ex cs ss nL σ L (pc + 1) (.long v :: rest)) : jW l b D Γ ex cs ss nL σ L pc (.int y :: .long x :: rest) := fun ls H locs hl hP hS hZ => lv_lshl B.1 B.2.1 hdg hv (kk ls H locs hl hP hS hZ)
theorem j_lshr (B : jB l b D ta Γ own cc ret nL rm) {x v : Int64} {y : Int32} (hdg : decode cc pc = .ok (.lshr, 1)) (hv : x >>> (y.toInt64 &&& 63) = v) (kk : jW l b D Γ ex cs ss nL σ L (pc + 1) (.long v :: rest)) : jW l b D Γ ex cs ss nL σ L pc (.int y :: .long x :: rest) := fun ls H locs hl hP hS hZ => lv_lshr B.1 B.2.1 hdg hv (kk ls H locs hl hP hS hZ)
theorem j_i2l (B : jB l b D ta Γ own cc ret nL rm) {x : Int32} {v : Int64} (hdg : decode cc pc = .ok (.i2l, 1)) (hv : x.toInt64 = v) (kk : jW l b D Γ ex cs ss nL σ L (pc + 1) (.long v :: rest)) : jW l b D Γ ex cs ss nL σ L pc (.int x :: rest) := fun ls H locs hl hP hS hZ => lv_i2l B.1 B.2.1 hdg hv (kk ls H locs hl hP hS hZ)
theorem j_l2i (B : jB l b D ta Γ own cc ret nL rm) {x : Int64} {v : Int32} (hdg : decode cc pc = .ok (.l2i, 1)) (hv : x.toInt32 = v) (kk : jW l b D Γ ex cs ss nL σ L (pc + 1) (.int v :: rest)) : jW l b D Γ ex cs ss nL σ L pc (.long x :: rest) := fun ls H locs hl hP hS hZ => lv_l2i B.1 B.2.1 hdg hv (kk ls H locs hl hP hS hZ)
theorem j_i2b (B : jB l b D ta Γ own cc ret nL rm) {x : Int32} {v : Int32} (hdg : decode cc pc = .ok (.i2b, 1)) (hv : x.toInt8.toInt32 = v) (kk : jW l b D Γ ex cs ss nL σ L (pc + 1) (.int v :: rest)) : jW l b D Γ ex cs ss nL σ L pc (.int x :: rest) := fun ls H locs hl hP hS hZ => lv_i2b B.1 B.2.1 hdg hv (kk ls H locs hl hP hS hZ)
theorem j_i2c (B : jB l b D ta Γ own cc ret nL rm) {x : Int32} {v : Int32} (hdg : decode cc pc = .ok (.i2c, 1)) (hv : (x.toUInt32 % 65536).toInt32 = v) (kk : jW l b D Γ ex cs ss nL σ L (pc + 1) (.int v :: rest)) : jW l b D Γ ex cs ss nL σ L pc (.int x :: rest) := fun ls H locs hl hP hS hZ => lv_i2c B.1 B.2.1 hdg hv (kk ls H locs hl hP hS hZ)
theorem j_dup (B : jB l b D ta Γ own cc ret nL rm) {va : Value} (hdg : decode cc pc = .ok (.dup, 1)) (hva : va.category = 1) (kk : jW l b D Γ ex cs ss nL σ L (pc + 1) (va :: va :: rest)) : jW l b D Γ ex cs ss nL σ L pc (va :: rest) := fun ls H locs hl hP hS hZ => lv_dup B.1 B.2.1 hdg hva (kk ls H locs hl hP hS hZ)
theorem j_pop (B : jB l b D ta Γ own cc ret nL rm) {va : Value} (hdg : decode cc pc = .ok (.pop, 1)) (hva : va.category = 1) (kk : jW l b D Γ ex cs ss nL σ L (pc + 1) (rest)) : jW l b D Γ ex cs ss nL σ L pc (va :: rest) := fun ls H locs hl hP hS hZ => lv_pop B.1 B.2.1 hdg hva (kk ls H locs hl hP hS hZ)
theorem j_dup_x1 (B : jB l b D ta Γ own cc ret nL rm) {va vb : Value} (hdg : decode cc pc = .ok (.dup_x1, 1)) (hva : va.category = 1) (hvb : vb.category = 1) (kk : jW l b D Γ ex cs ss nL σ L (pc + 1) (va :: vb :: va :: rest)) : jW l b D Γ ex cs ss nL σ L pc (va :: vb :: rest) := fun ls H locs hl hP hS hZ => lv_dup_x1 B.1 B.2.1 hdg hva hvb (kk ls H locs hl hP hS hZ)
theorem j_dup_x2 (B : jB l b D ta Γ own cc ret nL rm) {va vb vd : Value} (hdg : decode cc pc = .ok (.dup_x2, 1)) (hva : va.category = 1) (hvb : vb.category = 1) (hvd : vd.category = 1) (kk : jW l b D Γ ex cs ss nL σ L (pc + 1) (va :: vb :: vd :: va :: rest)) : jW l b D Γ ex cs ss nL σ L pc (va :: vb :: vd :: rest) := fun ls H locs hl hP hS hZ => lv_dup_x2 B.1 B.2.1 hdg hva hvb hvd (kk ls H locs hl hP hS hZ)
theorem j_if_eq (B : jB l b D ta Γ own cc ret nL rm) {x : Int32} {off : Int} {tgt : Nat} (hdg : decode cc pc = .ok (.ifCond .eq off, 3)) (ht : (pc : Int) + off = (tgt : Int)) (kt : x = 0 → jW l b D Γ ex cs ss nL σ L tgt rest) (kf : ¬ x = 0 → jW l b D Γ ex cs ss nL σ L (pc + 3) rest) : jW l b D Γ ex cs ss nL σ L pc (.int x :: rest) := fun ls H locs hl hP hS hZ => lv_if_eq B.1 B.2.1 hdg ht (fun h => kt h ls H locs hl hP hS hZ) (fun h => kf h ls H locs hl hP hS hZ)
theorem j_if_ne (B : jB l b D ta Γ own cc ret nL rm) {x : Int32} {off : Int} {tgt : Nat} (hdg : decode cc pc = .ok (.ifCond .ne off, 3)) (ht : (pc : Int) + off = (tgt : Int)) (kt : ¬ x = 0 → jW l b D Γ ex cs ss nL σ L tgt rest) (kf : x = 0 → jW l b D Γ ex cs ss nL σ L (pc + 3) rest) : jW l b D Γ ex cs ss nL σ L pc (.int x :: rest) := fun ls H locs hl hP hS hZ => lv_if_ne B.1 B.2.1 hdg ht (fun h => kt h ls H locs hl hP hS hZ) (fun h => kf h ls H locs hl hP hS hZ)
theorem j_if_lt (B : jB l b D ta Γ own cc ret nL rm) {x : Int32} {off : Int} {tgt : Nat} (hdg : decode cc pc = .ok (.ifCond .lt off, 3)) (ht : (pc : Int) + off = (tgt : Int)) (kt : x < 0 → jW l b D Γ ex cs ss nL σ L tgt rest) (kf : ¬ x < 0 → jW l b D Γ ex cs ss nL σ L (pc + 3) rest) : jW l b D Γ ex cs ss nL σ L pc (.int x :: rest) := fun ls H locs hl hP hS hZ => lv_if_lt B.1 B.2.1 hdg ht (fun h => kt h ls H locs hl hP hS hZ) (fun h => kf h ls H locs hl hP hS hZ)
theorem j_if_ge (B : jB l b D ta Γ own cc ret nL rm) {x : Int32} {off : Int} {tgt : Nat} (hdg : decode cc pc = .ok (.ifCond .ge off, 3)) (ht : (pc : Int) + off = (tgt : Int)) (kt : 0 ≤ x → jW l b D Γ ex cs ss nL σ L tgt rest) (kf : ¬ 0 ≤ x → jW l b D Γ ex cs ss nL σ L (pc + 3) rest) : jW l b D Γ ex cs ss nL σ L pc (.int x :: rest) := fun ls H locs hl hP hS hZ => lv_if_ge B.1 B.2.1 hdg ht (fun h => kt h ls H locs hl hP hS hZ) (fun h => kf h ls H locs hl hP hS hZ)
theorem j_if_gt (B : jB l b D ta Γ own cc ret nL rm) {x : Int32} {off : Int} {tgt : Nat} (hdg : decode cc pc = .ok (.ifCond .gt off, 3)) (ht : (pc : Int) + off = (tgt : Int)) (kt : 0 < x → jW l b D Γ ex cs ss nL σ L tgt rest) (kf : ¬ 0 < x → jW l b D Γ ex cs ss nL σ L (pc + 3) rest) : jW l b D Γ ex cs ss nL σ L pc (.int x :: rest) := fun ls H locs hl hP hS hZ => lv_if_gt B.1 B.2.1 hdg ht (fun h => kt h ls H locs hl hP hS hZ) (fun h => kf h ls H locs hl hP hS hZ)
theorem j_if_le (B : jB l b D ta Γ own cc ret nL rm) {x : Int32} {off : Int} {tgt : Nat} (hdg : decode cc pc = .ok (.ifCond .le off, 3)) (ht : (pc : Int) + off = (tgt : Int)) (kt : x ≤ 0 → jW l b D Γ ex cs ss nL σ L tgt rest) (kf : ¬ x ≤ 0 → jW l b D Γ ex cs ss nL σ L (pc + 3) rest) : jW l b D Γ ex cs ss nL σ L pc (.int x :: rest) := fun ls H locs hl hP hS hZ => lv_if_le B.1 B.2.1 hdg ht (fun h => kt h ls H locs hl hP hS hZ) (fun h => kf h ls H locs hl hP hS hZ)
theorem j_icmp_eq (B : jB l b D ta Γ own cc ret nL rm) {x y : Int32} {off : Int} {tgt : Nat} (hdg : decode cc pc = .ok (.if_icmp .eq off, 3)) (ht : (pc : Int) + off = (tgt : Int)) (kt : x = y → jW l b D Γ ex cs ss nL σ L tgt rest) (kf : ¬ x = y → jW l b D Γ ex cs ss nL σ L (pc + 3) rest) : jW l b D Γ ex cs ss nL σ L pc (.int y :: .int x :: rest) := fun ls H locs hl hP hS hZ => lv_icmp_eq B.1 B.2.1 hdg ht (fun h => kt h ls H locs hl hP hS hZ) (fun h => kf h ls H locs hl hP hS hZ)
theorem j_icmp_ne (B : jB l b D ta Γ own cc ret nL rm) {x y : Int32} {off : Int} {tgt : Nat} (hdg : decode cc pc = .ok (.if_icmp .ne off, 3)) (ht : (pc : Int) + off = (tgt : Int)) (kt : ¬ x = y → jW l b D Γ ex cs ss nL σ L tgt rest) (kf : x = y → jW l b D Γ ex cs ss nL σ L (pc + 3) rest) : jW l b D Γ ex cs ss nL σ L pc (.int y :: .int x :: rest) := fun ls H locs hl hP hS hZ => lv_icmp_ne B.1 B.2.1 hdg ht (fun h => kt h ls H locs hl hP hS hZ) (fun h => kf h ls H locs hl hP hS hZ)
theorem j_icmp_lt (B : jB l b D ta Γ own cc ret nL rm) {x y : Int32} {off : Int} {tgt : Nat} (hdg : decode cc pc = .ok (.if_icmp .lt off, 3)) (ht : (pc : Int) + off = (tgt : Int)) (kt : x < y → jW l b D Γ ex cs ss nL σ L tgt rest) (kf : ¬ x < y → jW l b D Γ ex cs ss nL σ L (pc + 3) rest) : jW l b D Γ ex cs ss nL σ L pc (.int y :: .int x :: rest) := fun ls H locs hl hP hS hZ => lv_icmp_lt B.1 B.2.1 hdg ht (fun h => kt h ls H locs hl hP hS hZ) (fun h => kf h ls H locs hl hP hS hZ)
theorem j_icmp_ge (B : jB l b D ta Γ own cc ret nL rm) {x y : Int32} {off : Int} {tgt : Nat} (hdg : decode cc pc = .ok (.if_icmp .ge off, 3)) (ht : (pc : Int) + off = (tgt : Int)) (kt : y ≤ x → jW l b D Γ ex cs ss nL σ L tgt rest) (kf : ¬ y ≤ x → jW l b D Γ ex cs ss nL σ L (pc + 3) rest) : jW l b D Γ ex cs ss nL σ L pc (.int y :: .int x :: rest) := fun ls H locs hl hP hS hZ => lv_icmp_ge B.1 B.2.1 hdg ht (fun h => kt h ls H locs hl hP hS hZ) (fun h => kf h ls H locs hl hP hS hZ)
theorem j_icmp_gt (B : jB l b D ta Γ own cc ret nL rm) {x y : Int32} {off : Int} {tgt : Nat} (hdg : decode cc pc = .ok (.if_icmp .gt off, 3)) (ht : (pc : Int) + off = (tgt : Int)) (kt : y < x → jW l b D Γ ex cs ss nL σ L tgt rest) (kf : ¬ y < x → jW l b D Γ ex cs ss nL σ L (pc + 3) rest) : jW l b D Γ ex cs ss nL σ L pc (.int y :: .int x :: rest) := fun ls H locs hl hP hS hZ => lv_icmp_gt B.1 B.2.1 hdg ht (fun h => kt h ls H locs hl hP hS hZ) (fun h => kf h ls H locs hl hP hS hZ)
theorem j_icmp_le (B : jB l b D ta Γ own cc ret nL rm) {x y : Int32} {off : Int} {tgt : Nat} (hdg : decode cc pc = .ok (.if_icmp .le off, 3)) (ht : (pc : Int) + off = (tgt : Int)) (kt : x ≤ y → jW l b D Γ ex cs ss nL σ L tgt rest) (kf : ¬ x ≤ y → jW l b D Γ ex cs ss nL σ L (pc + 3) rest) : jW l b D Γ ex cs ss nL σ L pc (.int y :: .int x :: rest) := fun ls H locs hl hP hS hZ => lv_icmp_le B.1 B.2.1 hdg ht (fun h => kt h ls H locs hl hP hS hZ) (fun h => kf h ls H locs hl hP hS hZ)
theorem j_goto (B : jB l b D ta Γ own cc ret nL rm) {off : Int} {tgt : Nat} (hdg : decode cc pc = .ok (.goto off, 3)) (ht : (pc : Int) + off = (tgt : Int)) (kk : jW l b D Γ ex cs ss nL σ L tgt rest) : jW l b D Γ ex cs ss nL σ L pc rest := fun ls H locs hl hP hS hZ => lv_goto B.1 B.2.1 hdg ht (kk ls H locs hl hP hS hZ)
theorem j_ifnonnull (B : jB l b D ta Γ own cc ret nL rm) {x : Nat} {off : Int} {tgt : Nat} (hdg : decode cc pc = .ok (.ifnonnull off, 3)) (ht : (pc : Int) + off = (tgt : Int)) (kk : jW l b D Γ ex cs ss nL σ L tgt rest) : jW l b D Γ ex cs ss nL σ L pc (.ref x :: rest) := fun ls H locs hl hP hS hZ => lv_ifnonnull B.1 B.2.1 hdg ht (kk ls H locs hl hP hS hZ)
theorem j_ifnull (B : jB l b D ta Γ own cc ret nL rm) {x : Nat} {off : Int} (hdg : decode cc pc = .ok (.ifnull off, 3)) (kk : jW l b D Γ ex cs ss nL σ L (pc + 3) rest) : jW l b D Γ ex cs ss nL σ L pc (.ref x :: rest) := fun ls H locs hl hP hS hZ => lv_ifnull B.1 B.2.1 hdg (kk ls H locs hl hP hS hZ)
theorem j_null (B : jB l b D ta Γ own cc ret nL rm) (hdg : decode cc pc = .ok (.aconst_null, 1)) (kk : jW l b D Γ ex cs ss nL σ L (pc + 1) (.null :: rest)) : jW l b D Γ ex cs ss nL σ L pc rest := fun ls H locs hl hP hS hZ => lv_null B.1 B.2.1 hdg (kk ls H locs hl hP hS hZ)
theorem j_lookup (B : jB l b D ta Γ own cc ret nL rm) {dflt : Int} {ps : Array (Int × Int)} {len : Nat} {x : Int32} {off : Int} {tgt : Nat} (hdg : decode cc pc = .ok (.lookupswitch dflt ps, len)) (hp : (ps.toList.zip (ps.toList.drop 1)).all (fun (a, next) => a.1 < next.1) = true) (ho : Op.lookupswitch.offset ps.toList dflt x.toInt = off) (ht : (pc : Int) + off = (tgt : Int)) (kk : jW l b D Γ ex cs ss nL σ L tgt rest) : jW l b D Γ ex cs ss nL σ L pc (.int x :: rest) := fun ls H locs hl hP hS hZ => lv_lookup B.1 B.2.1 hdg hp ho ht (kk ls H locs hl hP hS hZ)
theorem j_tableOut (B : jB l b D ta Γ own cc ret nL rm) {dflt lo hi : Int} {offs : Array Int} {len : Nat} {x : Int32} {tgt : Nat} (hdg : decode cc pc = .ok (.tableswitch dflt lo hi offs, len)) (h : x.toInt < lo ∨ hi < x.toInt) (ht : (pc : Int) + dflt = (tgt : Int)) (kk : jW l b D Γ ex cs ss nL σ L tgt rest) : jW l b D Γ ex cs ss nL σ L pc (.int x :: rest) := fun ls H locs hl hP hS hZ => lv_tableOut B.1 B.2.1 hdg h ht (kk ls H locs hl hP hS hZ)
theorem j_tableIn (B : jB l b D ta Γ own cc ret nL rm) {dflt lo hi : Int} {offs : Array Int} {len : Nat} {x : Int32} {off : Int} {tgt : Nat} (hdg : decode cc pc = .ok (.tableswitch dflt lo hi offs, len)) (h1 : ¬ x.toInt < lo) (h2 : ¬ hi < x.toInt) (ho : offs[(x.toInt - lo).toNat]? = some off) (ht : (pc : Int) + off = (tgt : Int)) (kk : jW l b D Γ ex cs ss nL σ L tgt rest) : jW l b D Γ ex cs ss nL σ L pc (.int x :: rest) := fun ls H locs hl hP hS hZ => lv_tableIn B.1 B.2.1 hdg h1 h2 ho ht (kk ls H locs hl hP hS hZ)
theorem j_lneg (B : jB l b D ta Γ own cc ret nL rm) {x : Int64} (hdg : decode cc pc = .ok (.lneg, 1)) (kk : jW l b D Γ ex cs ss nL σ L (pc + 1) (.long (-x) :: rest)) : jW l b D Γ ex cs ss nL σ L pc (.long x :: rest) := fun ls H locs hl hP hS hZ => lv_lneg B.1 B.2.1 hdg (kk ls H locs hl hP hS hZ)
end JR
