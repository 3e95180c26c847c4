
/-! a piece copied: class and reference -/
def fs (k : Nat) (s : F3) : Nat → Int32 := if k = 1 then s.1 else if k = 2 then s.2.1 else s.2.2
def put3 (s : F3) (C R : Nat) (v : Int32) : F3 := (pB s.1 (nI C) (nI R) v 1, pB s.2.1 (nI C) (nI R) v 2, pB s.2.2 (nI C) (nI R) v 3)
theorem put3_bit {s : F3} {C R k r i : Nat} {v : Int32} (hC : C < 32) (hR : R < 24) (hk : k = 1 ∨ k = 2 ∨ k = 3) (hi : i < 32) : tbn (fs k (put3 s C R v) r) i = if r = R ∧ i = C then decide (v = nI k) else tbn (fs k s r) i := by
  rcases hk with q | q | q
  · subst q; exact pB_bit hC hR hi
  · subst q; exact pB_bit hC hR hi
  · subst q; exact pB_bit hC hR hi
def tgX (T w h X Y : Nat) : Nat := if T = 0 then X else if T = 1 then h - 1 - Y else if T = 2 then w - 1 - X else Y
def tgY (T w h X Y : Nat) : Nat := if T = 0 then Y else if T = 1 then X else if T = 2 then h - 1 - Y else w - 1 - X
def rcW (T w h : Nat) : Nat := if T % 2 = 0 then w else h
def rcH (T w h : Nat) : Nat := if T % 2 = 0 then h else w
theorem tg_cp {T w h X Y tx ty : Nat} (hT : T < 4) (hX : X < w) (hY : Y < h) (hx : tx < rcW T w h) (hy : ty < rcH T w h) : (ty = tgY T w h X Y ∧ tx = tgX T w h X Y) ↔ (cpX T w tx ty = X ∧ cpY T h tx ty = Y) := by
  have h4 : T = 0 ∨ T = 1 ∨ T = 2 ∨ T = 3 := by omega
  rcases h4 with q | q | q | q <;> (subst q; simp [tgX, tgY, cpX, cpY, rcW, rcH] at *; omega)
theorem tg_in {T w h X Y : Nat} (hT : T < 4) (hX : X < w) (hY : Y < h) : tgX T w h X Y < rcW T w h ∧ tgY T w h X Y < rcH T w h := by
  have h4 : T = 0 ∨ T = 1 ∨ T = 2 ∨ T = 3 := by omega
  rcases h4 with q | q | q | q <;> (subst q; simp [tgX, tgY, rcW, rcH]; omega)
theorem cp_in {T w h tx ty : Nat} (hT : T < 4) (hx : tx < rcW T w h) (hy : ty < rcH T w h) : cpX T w tx ty < w ∧ cpY T h tx ty < h := by
  have h4 : T = 0 ∨ T = 1 ∨ T = 2 ∨ T = 3 := by omega
  rcases h4 with q | q | q | q <;> (subst q; simp [cpX, cpY, rcW, rcH] at *; omega)
theorem tu_tg {T w h X Y : Nat} (hT : T < 4) (hX : X < w) (hY : Y < h) : tuX (nI X) (nI Y) (nI w) (nI h) (nI T) = nI (tgX T w h X Y) ∧ tuY (nI X) (nI Y) (nI w) (nI h) (nI T) = nI (tgY T w h X Y) := by
  have e1 : nI h - 1 - nI Y = nI (h - 1 - Y) := by rw [show nI h - 1 = nI (h - 1) from pk_sub (a := h) (b := 1) (by omega), pk_sub (by omega)]
  have e2 : nI w - 1 - nI X = nI (w - 1 - X) := by rw [show nI w - 1 = nI (w - 1) from pk_sub (a := w) (b := 1) (by omega), pk_sub (by omega)]
  have h4 : T = 0 ∨ T = 1 ∨ T = 2 ∨ T = 3 := by omega
  rcases h4 with q | q | q | q
  · subst q; exact ⟨rfl, rfl⟩
  · subst q; exact ⟨e1, rfl⟩
  · subst q; exact ⟨e2, e1⟩
  · subst q; exact ⟨rfl, e2⟩
/-- the value that comes to lie at a cell -/
def cvT (D : F3) (T X Y w h U V r i : Nat) : Int32 := cvN D (nI (X + cpX T w (i - U) (r - V))) (Y + cpY T h (i - U) (r - V))
theorem cqS_p {D s : F3} {T X Y w h U V ty tx : Nat} : cqS D T X Y w h U V ty tx s = if cvT D T X Y w h U V (V + ty) (U + tx) ≤ 0 then s else put3 s (U + tx) (V + ty) (cvT D T X Y w h U V (V + ty) (U + tx)) := by
  obtain ⟨G0, G1, G2⟩ := s
  unfold cvT
  rw [Nat.add_sub_cancel_left, Nat.add_sub_cancel_left]
  rfl
theorem cqL_bit {D s : F3} {T X Y w h U V ty W k r i : Nat} (hU : U + W ≤ 32) (hV : V + ty < 24) (hk : k = 1 ∨ k = 2 ∨ k = 3) (hi : i < 32) : ∀ m, m ≤ W → tbn (fs k (cqL D T X Y w h U V ty s m) r) i = if (r = V + ty ∧ U ≤ i ∧ i < U + m) ∧ ¬ cvT D T X Y w h U V r i ≤ 0 then decide (cvT D T X Y w h U V r i = nI k) else tbn (fs k s r) i := by
  intro m
  induction m with
  | zero => intro _; rw [if_neg (fun q => by have := q.1.2; omega)]; rfl
  | succ m ih =>
    intro hm
    have i1 := ih (by omega)
    rw [cqL, cqS_p]
    by_cases hv : cvT D T X Y w h U V (V + ty) (U + m) ≤ 0
    · rw [if_pos hv, i1]
      by_cases hc : (r = V + ty ∧ U ≤ i ∧ i < U + m) ∧ ¬ cvT D T X Y w h U V r i ≤ 0
      · rw [if_pos hc, if_pos ⟨⟨hc.1.1, hc.1.2.1, by have := hc.1.2.2; omega⟩, hc.2⟩]
      · rw [if_neg hc, if_neg (fun q => ?_)]
        rcases Nat.lt_or_ge i (U + m) with g | g
        · exact hc ⟨⟨q.1.1, q.1.2.1, g⟩, q.2⟩
        · have e1 : i = U + m := by have := q.1.2.2; omega
          have e2 := q.1.1
          rw [e1, e2] at q
          exact q.2 hv
    · rw [if_neg hv, put3_bit (by omega) hV hk hi, i1]
      by_cases he : r = V + ty ∧ i = U + m
      · obtain ⟨e1, e2⟩ := he
        subst e1 e2
        rw [if_pos ⟨rfl, rfl⟩, if_pos ⟨⟨rfl, by omega, by omega⟩, hv⟩]
      · rw [if_neg he]
        by_cases hc : (r = V + ty ∧ U ≤ i ∧ i < U + m) ∧ ¬ cvT D T X Y w h U V r i ≤ 0
        · rw [if_pos hc, if_pos ⟨⟨hc.1.1, hc.1.2.1, by have := hc.1.2.2; omega⟩, hc.2⟩]
        · rw [if_neg hc, if_neg (fun q => hc ⟨⟨q.1.1, q.1.2.1, by have := q.1; omega⟩, q.2⟩)]
theorem cqA_bit {D s : F3} {T X Y w h U V W H k r i : Nat} (hU : U + W ≤ 32) (hV : V + H ≤ 24) (hk : k = 1 ∨ k = 2 ∨ k = 3) (hi : i < 32) : ∀ n, n ≤ H → tbn (fs k (cqA D T X Y w h U V W s n) r) i = if (V ≤ r ∧ r < V + n ∧ U ≤ i ∧ i < U + W) ∧ ¬ cvT D T X Y w h U V r i ≤ 0 then decide (cvT D T X Y w h U V r i = nI k) else tbn (fs k s r) i := by
  intro n
  induction n with
  | zero => intro _; rw [if_neg (fun q => by have := q.1; omega)]; rfl
  | succ n ih =>
    intro hn
    rw [cqA, cqL_bit hU (by omega) hk hi W (Nat.le_refl _), ih (by omega)]
    by_cases hv : cvT D T X Y w h U V r i ≤ 0
    · rw [if_neg (fun q => q.2 hv), if_neg (fun q => q.2 hv), if_neg (fun q => q.2 hv)]
    · by_cases h1 : r = V + n ∧ U ≤ i ∧ i < U + W
      · rw [if_pos ⟨h1, hv⟩, if_pos ⟨⟨by omega, by omega, h1.2.1, h1.2.2⟩, hv⟩]
      · rw [if_neg (fun q => h1 q.1)]
        by_cases h2 : V ≤ r ∧ r < V + n ∧ U ≤ i ∧ i < U + W
        · rw [if_pos ⟨h2, hv⟩, if_pos ⟨⟨h2.1, by omega, h2.2.2.1, h2.2.2.2⟩, hv⟩]
        · rw [if_neg (fun q => h2 q.1), if_neg (fun q => ?_)]
          have := q.1
          by_cases e : r = V + n
          · exact h1 ⟨e, this.2.2.1, this.2.2.2⟩
          · exact h2 ⟨this.1, by omega, this.2.2.1, this.2.2.2⟩
/-- the class's reading of a cell -/
theorem fV_cN {D : F3} (hQ : QX D.1 D.2.1 D.2.2) {C R : Nat} (hC : C < 32) (hR : R < 24) : fVal D.1 D.2.1 D.2.2 (nI C) (nI R) = cvN D (nI C) R := by
  rw [fV_cv hQ, if_pos (inF_n hC hR)]
  unfold cvR cvN
  rw [nI_clamp (by omega)]
theorem cvN_0 {D : F3} {C R : Nat} (hC : C < 32) : cvN D (nI C) R = 0 ↔ cvN D (nI C) R ≤ 0 := by
  unfold cvN
  rw [btR_b hC, btR_b hC, btR_b hC]
  cases tbn (D.1 R) C <;> cases tbn (D.2.1 R) C <;> cases tbn (D.2.2 R) C <;> decide
theorem ptS_p {D s : F3} {T X Y w h U V x y : Nat} (hQ : QX D.1 D.2.1 D.2.2) (hT : T < 4) (hw : X + w ≤ 32) (hh : Y + h ≤ 24) (hx : x < w) (hy : y < h) : ptS D.1 D.2.1 D.2.2 (nI X) (nI Y) (nI w) (nI h) (nI U) (nI V) (nI T) y x s = if cvN D (nI (X + x)) (Y + y) ≤ 0 then s else put3 s (U + tgX T w h x y) (V + tgY T w h x y) (cvN D (nI (X + x)) (Y + y)) := by
  have e := tu_tg (w := w) (h := h) hT hx hy
  unfold ptS
  rw [nI_add, nI_add, fV_cN hQ (by omega) (by omega), e.1, e.2, nI_add, nI_add]
  by_cases hv : cvN D (nI (X + x)) (Y + y) ≤ 0
  · rw [if_pos hv, if_pos ((cvN_0 (by omega)).mpr hv)]
  · rw [if_neg hv, if_neg (fun q => hv ((cvN_0 (by omega)).mp q))]
    rfl
/-- is a cell among those that are copied to, from a row and the first columns -/
abbrev tgt (T w h U V r i : Nat) : Prop := V ≤ r ∧ r < V + rcH T w h ∧ U ≤ i ∧ i < U + rcW T w h
theorem tgt_at {T w h U V r i x y : Nat} (hT : T < 4) (hx : x < w) (hy : y < h) : (r = V + tgY T w h x y ∧ i = U + tgX T w h x y) ↔ (tgt T w h U V r i ∧ cpX T w (i - U) (r - V) = x ∧ cpY T h (i - U) (r - V) = y) := by
  have g := tg_in (w := w) (h := h) hT hx hy
  unfold tgt
  constructor
  · intro ⟨e1, e2⟩
    have k := (tg_cp (tx := i - U) (ty := r - V) hT hx hy (by omega) (by omega)).mp ⟨by omega, by omega⟩
    exact ⟨⟨by omega, by omega, by omega, by omega⟩, k⟩
  · intro ⟨q, k⟩
    have k2 := (tg_cp (tx := i - U) (ty := r - V) hT hx hy (by omega) (by omega)).mpr k
    omega
theorem ptR_bit {D s : F3} {T X Y w h U V y k r i : Nat} (hQ : QX D.1 D.2.1 D.2.2) (hT : T < 4) (hw : X + w ≤ 32) (hh : Y + h ≤ 24) (hy : y < h) (hU : U + rcW T w h ≤ 32) (hV : V + rcH T w h ≤ 24) (hk : k = 1 ∨ k = 2 ∨ k = 3) (hi : i < 32) : ∀ m, m ≤ w → tbn (fs k (ptR D.1 D.2.1 D.2.2 (nI X) (nI Y) (nI w) (nI h) (nI U) (nI V) (nI T) y m s) r) i = if (tgt T w h U V r i ∧ cpX T w (i - U) (r - V) < m ∧ cpY T h (i - U) (r - V) = y) ∧ ¬ cvT D T X Y w h U V r i ≤ 0 then decide (cvT D T X Y w h U V r i = nI k) else tbn (fs k s r) i := by
  intro m
  induction m with
  | zero => intro _; rw [if_neg (fun q => by have := q.1.2.1; omega)]; rfl
  | succ m ih =>
    intro hm
    have i1 := ih (by omega)
    have g := tg_in (w := w) (h := h) (X := m) (Y := y) hT (by omega) hy
    have ta := tgt_at (U := U) (V := V) (r := r) (i := i) (x := m) (y := y) (w := w) (h := h) hT (by omega) hy
    rw [ptR, ptS_p hQ hT hw hh (by omega) hy]
    by_cases he : tgt T w h U V r i ∧ cpX T w (i - U) (r - V) = m ∧ cpY T h (i - U) (r - V) = y
    · have ev : cvT D T X Y w h U V r i = cvN D (nI (X + m)) (Y + y) := by unfold cvT; rw [he.2.1, he.2.2]
      by_cases hv : cvN D (nI (X + m)) (Y + y) ≤ 0
      · rw [if_pos hv, i1, ev, if_neg (fun q => q.2 hv), if_neg (fun q => q.2 hv)]
      · rw [if_neg hv, put3_bit (by omega) (by omega) hk hi, if_pos (ta.mpr he), ev, if_pos ⟨⟨he.1, by omega, he.2.2⟩, hv⟩]
    · have e2 : tbn (fs k (if cvN D (nI (X + m)) (Y + y) ≤ 0 then ptR D.1 D.2.1 D.2.2 (nI X) (nI Y) (nI w) (nI h) (nI U) (nI V) (nI T) y m s else put3 (ptR D.1 D.2.1 D.2.2 (nI X) (nI Y) (nI w) (nI h) (nI U) (nI V) (nI T) y m s) (U + tgX T w h m y) (V + tgY T w h m y) (cvN D (nI (X + m)) (Y + y))) r) i = tbn (fs k (ptR D.1 D.2.1 D.2.2 (nI X) (nI Y) (nI w) (nI h) (nI U) (nI V) (nI T) y m s) r) i := by
        split
        · rfl
        · rw [put3_bit (by omega) (by omega) hk hi, if_neg (fun q => he (ta.mp q))]
      rw [e2, i1]
      by_cases hc : (tgt T w h U V r i ∧ cpX T w (i - U) (r - V) < m ∧ cpY T h (i - U) (r - V) = y) ∧ ¬ cvT D T X Y w h U V r i ≤ 0
      · rw [if_pos hc, if_pos ⟨⟨hc.1.1, by have := hc.1.2.1; omega, hc.1.2.2⟩, hc.2⟩]
      · rw [if_neg hc, if_neg (fun q => ?_)]
        rcases Nat.lt_or_ge (cpX T w (i - U) (r - V)) m with a | a
        · exact hc ⟨⟨q.1.1, a, q.1.2.2⟩, q.2⟩
        · exact he ⟨q.1.1, by have := q.1.2.1; omega, q.1.2.2⟩
theorem ptA_bit {D s : F3} {T X Y w h U V k r i : Nat} (hQ : QX D.1 D.2.1 D.2.2) (hT : T < 4) (hw : X + w ≤ 32) (hh : Y + h ≤ 24) (hU : U + rcW T w h ≤ 32) (hV : V + rcH T w h ≤ 24) (hk : k = 1 ∨ k = 2 ∨ k = 3) (hi : i < 32) : ∀ n, n ≤ h → tbn (fs k (ptA D.1 D.2.1 D.2.2 (nI X) (nI Y) (nI w) (nI h) (nI U) (nI V) (nI T) w n s) r) i = if (tgt T w h U V r i ∧ cpY T h (i - U) (r - V) < n) ∧ ¬ cvT D T X Y w h U V r i ≤ 0 then decide (cvT D T X Y w h U V r i = nI k) else tbn (fs k s r) i := by
  intro n
  induction n with
  | zero => intro _; rw [if_neg (fun q => by have := q.1.2; omega)]; rfl
  | succ n ih =>
    intro hn
    rw [ptA, ptR_bit hQ hT hw hh (by omega) hU hV hk hi w (Nat.le_refl _), ih (by omega)]
    by_cases hv : cvT D T X Y w h U V r i ≤ 0
    · rw [if_neg (fun q => q.2 hv), if_neg (fun q => q.2 hv), if_neg (fun q => q.2 hv)]
    · by_cases ht : tgt T w h U V r i
      · have hc := cp_in (w := w) (h := h) (tx := i - U) (ty := r - V) hT (by unfold tgt at ht; omega) (by unfold tgt at ht; omega)
        by_cases e : cpY T h (i - U) (r - V) = n
        · rw [if_pos ⟨⟨ht, hc.1, e⟩, hv⟩, if_pos ⟨⟨ht, by omega⟩, hv⟩]
        · rw [if_neg (fun q => e q.1.2.2)]
          by_cases g : cpY T h (i - U) (r - V) < n
          · rw [if_pos ⟨⟨ht, g⟩, hv⟩, if_pos ⟨⟨ht, by omega⟩, hv⟩]
          · rw [if_neg (fun q => g q.1.2), if_neg (fun q => by have := q.1.2; omega)]
      · rw [if_neg (fun q => ht q.1.1), if_neg (fun q => ht q.1.1), if_neg (fun q => ht q.1.1)]
theorem F3_ext {s t : F3} (h : ∀ k, (k = 1 ∨ k = 2 ∨ k = 3) → ∀ r i, i < 32 → tbn (fs k s r) i = tbn (fs k t r) i) : s = t := by
  obtain ⟨a, c, d⟩ := s
  obtain ⟨a2, c2, d2⟩ := t
  have h1 : a = a2 := funext (fun r => tbn_ext (h 1 (Or.inl rfl) r))
  have h2 : c = c2 := funext (fun r => tbn_ext (h 2 (Or.inr (Or.inl rfl)) r))
  have h3 : d = d2 := funext (fun r => tbn_ext (h 3 (Or.inr (Or.inr rfl)) r))
  subst h1 h2 h3
  rfl
/-- copied by the one and by the other -/
theorem cp_tie {D s : F3} {T X Y w h U V : Nat} (hQ : QX D.1 D.2.1 D.2.2) (hT : T < 4) (hw : X + w ≤ 32) (hh : Y + h ≤ 24) (hU : U + rcW T w h ≤ 32) (hV : V + rcH T w h ≤ 24) : ptA D.1 D.2.1 D.2.2 (nI X) (nI Y) (nI w) (nI h) (nI U) (nI V) (nI T) w h s = cqA D T X Y w h U V (rcW T w h) s (rcH T w h) := by
  apply F3_ext
  intro k hk r i hi
  rw [ptA_bit hQ hT hw hh hU hV hk hi h (Nat.le_refl _), cqA_bit hU hV hk hi (rcH T w h) (Nat.le_refl _)]
  by_cases ht : tgt T w h U V r i
  · have hc := cp_in (w := w) (h := h) (tx := i - U) (ty := r - V) hT (by unfold tgt at ht; omega) (by unfold tgt at ht; omega)
    by_cases hv : cvT D T X Y w h U V r i ≤ 0
    · rw [if_neg (fun q => q.2 hv), if_neg (fun q => q.2 hv)]
    · rw [if_pos ⟨⟨ht, hc.2⟩, hv⟩, if_pos ⟨ht, hv⟩]
  · rw [if_neg (fun q => ht q.1.1), if_neg (fun q => ht q.1)]
/-- a copy keeps whatever a put keeps -/
theorem ptS_Q {Q : (Nat → Int32) → (Nat → Int32) → (Nat → Int32) → Prop} (hQ : PQk Q) {A0 A1 A2 : Nat → Int32} {x y ww hh tx ty t : Int32} {Y X : Nat} {s : F3} (hv : ¬ fVal A0 A1 A2 (x + nI X) (y + nI Y) < 0 ∧ fVal A0 A1 A2 (x + nI X) (y + nI Y) ≤ 3) (h : Q s.1 s.2.1 s.2.2) : Q (ptS A0 A1 A2 x y ww hh tx ty t Y X s).1 (ptS A0 A1 A2 x y ww hh tx ty t Y X s).2.1 (ptS A0 A1 A2 x y ww hh tx ty t Y X s).2.2 := by
  unfold ptS
  split
  · exact h
  · exact hQ _ _ _ _ _ _ hv.1 hv.2 h
theorem fV_03 {A0 A1 A2 : Nat → Int32} {x y : Int32} (hin : inF x y = true) : ¬ fVal A0 A1 A2 x y < 0 ∧ fVal A0 A1 A2 x y ≤ 3 := by
  unfold fVal
  rw [if_pos hin]
  split
  · decide
  · split
    · decide
    · split <;> decide
theorem ptR_Q {Q : (Nat → Int32) → (Nat → Int32) → (Nat → Int32) → Prop} (hQ : PQk Q) {A0 A1 A2 : Nat → Int32} {X Y w h y : Nat} {ww hh tx ty t : Int32} {s : F3} (hw : X + w ≤ 32) (hh2 : Y + y < 24) (hs : Q s.1 s.2.1 s.2.2) : ∀ m, m ≤ w → Q (ptR A0 A1 A2 (nI X) (nI Y) ww hh tx ty t y m s).1 (ptR A0 A1 A2 (nI X) (nI Y) ww hh tx ty t y m s).2.1 (ptR A0 A1 A2 (nI X) (nI Y) ww hh tx ty t y m s).2.2 := by
  intro m
  induction m with
  | zero => intro _; exact hs
  | succ m ih =>
    intro hm
    exact ptS_Q hQ (by rw [nI_add, nI_add]; exact fV_03 (inF_n (by omega) hh2)) (ih (by omega))
theorem ptA_Q {Q : (Nat → Int32) → (Nat → Int32) → (Nat → Int32) → Prop} (hQ : PQk Q) {A0 A1 A2 : Nat → Int32} {X Y w h : Nat} {ww hh tx ty t : Int32} {s : F3} (hw : X + w ≤ 32) (hh2 : Y + h ≤ 24) (hs : Q s.1 s.2.1 s.2.2) : ∀ n, n ≤ h → Q (ptA A0 A1 A2 (nI X) (nI Y) ww hh tx ty t w n s).1 (ptA A0 A1 A2 (nI X) (nI Y) ww hh tx ty t w n s).2.1 (ptA A0 A1 A2 (nI X) (nI Y) ww hh tx ty t w n s).2.2 := by
  intro n
  induction n with
  | zero => intro _; exact hs
  | succ n ih => intro hn; exact ptR_Q (h := h) hQ hw (by omega) (ih (by omega)) w (Nat.le_refl _)
