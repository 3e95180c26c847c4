
/-! constructors -/
abbrev rK (d c s : Nat) : Room := { frames := d, cells := c, slots := s, locals := 40 * d }
theorem jC_ofI {l : Launch} {b : Nat} {D : va_G} {ta : Nat → ClassId} {ex : Prop} {y : MethodName} {cb : ByteArray} {mL : Nat} {ret : Option FieldType} {rm : Room} {as : List Value} {σ : List va_E} {r : Option Value} {σ' : List va_E}
    (hy : plainName y.cls = true) (hi : y.name = "<init>") (hlen : (lg_sl as).length ≤ mL) {own : String} (ho : y.cls = own)
    (body : ∀ Γ : jG, jB l b D ta Γ own cb ret mL rm → Γ.2.2.2.2.2.2.2.1.name = "<init>" → jR b D ex Γ r σ' rm.cells rm.slots → jW l b D Γ ex 0 0 mL σ (lv_args 0 as) 0 []) : jC l b D ta ex y cb mL ret rm as σ r σ' := by
  subst ho
  refine Met.ofW (cc := cb) (maxL := mL) (ret := ret) hy rfl ?_
  intro p e s m args below meth c s₁ B hml hv
  obtain ⟨rfl, hE, hP, hZ⟩ := hv
  have hts := atoms_spec (ws := Cond.code y cb mL ret :: jWS) B.pre
  have hl := lv_entry as (n := mL) hlen
  rw [lg_entry_eq]
  generalize (lg_sl as ++ List.replicate (mL - (lg_sl as).length) Slot.unset).toArray = ls at hl ⊢
  exact body (p, e, rm, s, m, as.toArray, below, meth, c, MQ below (jQ b D ex r σ') as.toArray s rm.cells rm.slots (fun q => b ≤ q))
    ⟨B.exec, B.bytes, B.returns, hml, findClass_of_methodNamed B.named, fun w h => hts w (List.mem_cons_of_mem _ h), hE, B.notSynchronized, rfl, rfl⟩ ((name_of_methodNamed B.named B.method).1.trans hi) rfl ls s.heap [] hl hP va_S.rf hZ
theorem jAO {l : Launch} {b : Nat} {D : va_G} {ta : Nat → ClassId} {Γ : jG} {own : String} {cc : ByteArray} {ret : Option FieldType} {nL : Nat} {rm : Room} (B : jB l b D ta Γ own cc ret nL rm) {C : String} (h : C ∈ jao) : va_AO C Γ.2.2.2.1 := B.2.2.2.2.2.2.1.2.2.2.2.2.2.2.1 C h
/-- a heap in which one cell was written, and to which cells were added -/
def cf (σ : List va_E) (q : Nat) (o : va_E) (as : List va_E) : List va_E := σ.set q o ++ as
section CF
variable {σ as bs : List va_E} {q n i : Nat} {o o2 e : va_E}
theorem cf_0 (h : σ[q]? = some o) : σ = cf σ q o [] := by unfold cf; rw [jset h, List.append_nil]
theorem cf_len (hn : σ.length = n) : (cf σ q o as).length = n + as.length := by unfold cf; rw [List.length_append, List.length_set, hn]
theorem cf_app : cf σ q o as ++ [e] = cf σ q o (as ++ [e]) := by unfold cf; rw [List.append_assoc]
theorem cf_q (hn : σ.length = n) (hq : q < n) : (cf σ q o as)[q]? = some o := by
  unfold cf
  rw [List.getElem?_append_left (by rw [List.length_set]; omega), List.getElem?_set_self (by omega)]
theorem cf_sq (hn : σ.length = n) (hq : q < n) : (cf σ q o as).set q o2 = cf σ q o2 as := by
  unfold cf
  rw [List.set_append_left _ _ (by rw [List.length_set]; omega), List.set_set]
theorem cf_a (hn : σ.length = n) (h : as[i]? = some e) : (cf σ q o as)[n + i]? = some e := by
  unfold cf
  rw [List.getElem?_append_right (by rw [List.length_set]; omega), List.length_set, hn, Nat.add_sub_cancel_left]; exact h
theorem cf_cf (hn : σ.length = n) : cf (cf σ q o as) (n + i) o2 bs = cf σ q o (as.set i o2 ++ bs) := by
  unfold cf
  rw [List.set_append_right _ _ (by rw [List.length_set]; omega), List.length_set, hn, Nat.add_sub_cancel_left, List.append_assoc]
end CF
theorem nf_s {b c s : Nat} : (fun _ : Nat => (none : Option Nat)) = fun j => if j < 0 then some (b + (c + s * j)) else none := by
  funext j; rw [if_neg (Nat.not_lt_zero j)]
theorem nf_1 {b c : Nat} : (fun _ : Nat => (none : Option Nat)) = fun j => if j < 0 then some (b + (c + j)) else none := by
  funext j; rw [if_neg (Nat.not_lt_zero j)]
theorem vaup_s {b c s k : Nat} : va_up (fun j => if j < k then some (b + (c + s * j)) else none) k (some (b + (c + s * k))) = fun j => if j < k + 1 then some (b + (c + s * j)) else none := by
  funext j
  unfold va_up
  by_cases h : j = k
  · subst h; rw [if_pos rfl, if_pos (by omega)]
  · rw [if_neg h]
    dsimp only
    by_cases h2 : j < k
    · rw [if_pos h2, if_pos (by omega)]
    · rw [if_neg h2, if_neg (by omega)]
theorem vaup_1 {b c k : Nat} : va_up (fun j => if j < k then some (b + (c + j)) else none) k (some (b + (c + k))) = fun j => if j < k + 1 then some (b + (c + j)) else none := by
  funext j
  unfold va_up
  by_cases h : j = k
  · subst h; rw [if_pos rfl, if_pos (by omega)]
  · rw [if_neg h]
    dsimp only
    by_cases h2 : j < k
    · rw [if_pos h2, if_pos (by omega)]
    · rw [if_neg h2, if_neg (by omega)]
theorem j_iastX {l : Launch} {b : Nat} {D : va_G} {ta : Nat → ClassId} {Γ : jG} {ex : Prop} {own : String} {cc : ByteArray} {ret : Option FieldType} {nL cs ss pc : Nat} {rm : Room} {σ : List va_E} {L : List (Nat × Value)} {rest : List Value} (B : jB l b D ta Γ own cc ret nL rm) {q n t : Nat} {f : Nat → Int32} {i x : Int32} (ht : (jT ta)[t]? = some (ta t, .int)) (hq : σ[q]? = some (.inl (ta t, n, .inl f))) (hin : vp_in i n) (hdg : decode cc pc = .ok (.iastore, 1)) (kk : jW l b D Γ ex cs ss nL (σ.set q (.inl (ta t, n, .inl (upd f i.toNatClampNeg x)))) L (pc + 1) rest) : jW l b D Γ ex cs ss nL σ L pc (.int x :: .int i :: .ref (b + q) :: rest) := by
  intro ls H locs hll hP hS hZ
  have ha := jw_at (b := b) hq
  have hD : va_D (fun q => b ≤ q) (jw b σ) := jw_D
  refine W.iast B.1 B.2.1 (hP q _ ha) ((B.2.2.2.2.2.2.1.1.2 t _ ht).1 n (fun j => .int (f j))) (fun q => by cases q) (by show ¬ (i < 0 ∨ (arrV _ _ _).slots.size ≤ _); rw [arrV_size]; exact hin) rfl rfl hdg fun H1 e z oq => ?_
  refine kk ls H1 _ hll ?_ (hS.put z oq (hD.2 q _ ha)) (fun h => by rw [z, List.length_set]; exact hZ h)
  rw [← jw_set]
  refine hP.set hD ha ?_ oq
  show H1[b + q]? = some (vp_cell _ _)
  rw [e, vp_cell_i, vp_cell_i, arrV_store]
  congr 2
  funext z9
  by_cases h : z9 = i.toNatClampNeg
  · subst h; simp [updV, upd]
  · simp [updV, upd, h]
theorem na_int {N : Nat} (cA : ClassId) : vp_cell cA (N, .inl (fun _ => 0)) = arrV cA N (fun _ => defaultValue (newarray.typeOf .int)) := rfl
theorem na_char {N : Nat} (cA : ClassId) : vp_cell cA (N, .inl (fun _ => 0)) = arrV cA N (fun _ => defaultValue (newarray.typeOf .char)) := rfl
theorem na_boolean {N : Nat} (cA : ClassId) : vp_cell cA (N, .inl (fun _ => 0)) = arrV cA N (fun _ => defaultValue (newarray.typeOf .boolean)) := rfl
theorem na_long {N : Nat} (cA : ClassId) : vp_cell cA (N, .inr (.inl (fun _ => 0))) = arrV cA N (fun _ => defaultValue (newarray.typeOf .long)) := rfl
abbrev zI (ta : Nat → ClassId) : va_E := .inl (ta 0, 24, .inl (fun _ => 0))
abbrev zC (ta : Nat → ClassId) : va_E := .inl (ta 1, 60, .inl (fun _ => 0))
abbrev zG (b x y z : Nat) : va_E := .inr (0, [.ref (b + x), .ref (b + y), .ref (b + z)])
abbrev zT (b x : Nat) : va_E := .inr (5, [.ref (b + x), .int 0])
abbrev zN (b x : Nat) : va_E := .inr (2, [.ref (b + x), .int 0, .int 0, .int 0, .int 1, .int 0])
abbrev zS : va_E := .inr (4, [.int 0, .int 0, .long 0, .int 1, .int 0])
abbrev zP : va_E := .inr (3, [.int 0, .int 0, .int 0, .int (-1), .long 0])
theorem lst_q {σ : List va_E} {q n : Nat} {t : ClassId} {f g : Nat → Option Nat} (h : f = g) : σ.set q (.inl (t, n, .inr (.inr (.inr (.inr f))))) = σ.set q (.inl (t, n, .inr (.inr (.inr (.inr g))))) := by rw [h]
