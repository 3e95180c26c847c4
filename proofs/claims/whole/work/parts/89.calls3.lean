
theorem le_0 {w : Int32} : w ≤ 0 ↔ w < 1 := by
  rw [i_le, i_lt, show (0 : Int32).toInt = 0 from by decide, show (1 : Int32).toInt = 1 from by decide]
  omega
theorem isP_nn {x y w h : Int32} (hp : isP x y w h = true) : ∃ X Y W H : Nat, X < 32 ∧ Y < 24 ∧ 1 ≤ W ∧ 1 ≤ H ∧ X + W ≤ 32 ∧ Y + H ≤ 24 ∧ x = nI X ∧ y = nI Y ∧ w = nI W ∧ h = nI H := by
  have q := of_decide_eq_true hp
  obtain ⟨X, Y, hX, hY, rfl, rfl⟩ := inF_nn q.1
  obtain ⟨W, hW, rfl⟩ := nI_of (x := w) (fun k => q.2.1 (Int32.lt_trans k (by decide)))
  obtain ⟨H, hH, rfl⟩ := nI_of (x := h) (fun k => q.2.2.2.1 (Int32.lt_trans k (by decide)))
  have w1 : 1 ≤ W := (Nat.lt_or_ge W 1).elim (fun k => absurd (nI_lt (a := W) (b := 1) k (by decide)) q.2.1) id
  have h1 : 1 ≤ H := (Nat.lt_or_ge H 1).elim (fun k => absurd (nI_lt (a := H) (b := 1) k (by decide)) q.2.2.2.1) id
  have e1 : (32 : Int32) - nI X = nI (32 - X) := pk_sub (a := 32) (b := X) (by omega)
  have e2 : (24 : Int32) - nI Y = nI (24 - Y) := pk_sub (a := 24) (b := Y) (by omega)
  have k1 := q.2.2.1
  have k2 := q.2.2.2.2
  rw [e1] at k1
  rw [e2] at k2
  have w2 : W ≤ 32 - X := (Nat.lt_or_ge (32 - X) W).elim (fun k => absurd (nI_lt k hW) k1) id
  have h2 : H ≤ 24 - Y := (Nat.lt_or_ge (24 - Y) H).elim (fun k => absurd (nI_lt k hH) k2) id
  exact ⟨X, Y, W, H, hX, hY, w1, h1, by omega, by omega, rfl, rfl, rfl, rfl⟩
theorem isP_mk {X Y W H : Nat} (hX : X < 32) (hY : Y < 24) (w1 : 1 ≤ W) (h1 : 1 ≤ H) (w2 : X + W ≤ 32) (h2 : Y + H ≤ 24) : isP (nI X) (nI Y) (nI W) (nI H) = true := by
  have e1 : (32 : Int32) - nI X = nI (32 - X) := pk_sub (a := 32) (b := X) (by omega)
  have e2 : (24 : Int32) - nI Y = nI (24 - Y) := pk_sub (a := 24) (b := Y) (by omega)
  refine decide_eq_true ⟨inF_n hX hY, nI_nlt (a := W) (b := 1) w1 (by omega), ?_, nI_nlt (a := H) (b := 1) h1 (by omega), ?_⟩
  · rw [e1]; exact nI_nlt (by omega) (by omega)
  · rw [e2]; exact nI_nlt (by omega) (by omega)
theorem cpZ_P {x y w h U V t : Int32} (q : cpZ x y w h U V t = true) : isP x y w h = true ∧ ¬ t < 0 ∧ ¬ 4 ≤ t ∧ inF U V = true := by
  obtain ⟨a1, a2, a3, a4, a5, a6, a7, a8⟩ := of_decide_eq_true q
  rw [le_0] at a2 a3
  exact ⟨decide_eq_true ⟨a1, a2, a4, a3, a5⟩, a6, a7, a8⟩
theorem rem2 {T : Nat} (hT : T < 4) {α : Type} {p q : α} : (if nI T - nI T / 2 * 2 = 0 then p else q) = if T % 2 = 0 then p else q := by
  rw [show nI T - nI T / 2 * 2 = nI (T % 2) from pk_rem (a := T) (d := 2) (by omega) (by decide) (by decide)]
  by_cases h : T % 2 = 0
  · rw [if_pos h, h]; exact if_pos rfl
  · rw [if_neg h, if_neg (nI_ne0 (by omega) (by omega))]
theorem nI_inj {a c : Nat} (h : nI a = nI c) (ha : a < 2 ^ 31) (hc : c < 2 ^ 31) : a = c := (nI_eq ha hc).mp h
set_option maxRecDepth 100000 in
theorem cpM_0 {l : Launch} {b : Nat} {D : va_G} {ta : Nat → ClassId} {σ : List va_E} (hl : σ.length = 133) {wt : Int32} {F0 : Nat → Int32} {F1 : Nat → Int32} {F2 : Nat → Int32} {HH : Nat → Int32} {kt : Nat → Int32} {kp : Nat → Int32} {a : Nat} {hi : Nat} {tm : Nat} {sN : Nat} {sx : Nat → Int32} {sy : Nat → Int32} {pt : Nat → Int64} {mn : Nat → Int32} {pl : Nat → Int32} {pN : Nat} {px : Nat → Int32} {py : Nat → Int32} {sn : Nat → Int32} {lt : Nat → Int32} {rc : Nat → Int64} {tx : Nat → Int32} {sz : Nat → Int32} {us : Nat → Int32} {D0 : Nat → Int32} {D1 : Nat → Int32} {D2 : Nat → Int32} {qx : Int32} {qy : Int32} {di : Nat} {up : Bool} {dn : Nat} {be : Bool} {op : Nat} {gs : Nat → Int32} {t0 : Nat → Int32} {fr : Nat → Int32} {lf : Nat → Int32} {pX : Nat → Int32} {pY : Nat → Int32} {pD : Nat → Int32} {pU : Nat → Int32} {Xs : List va_E} {X Y W H u v : Nat} (hX : X < 32) (hY : Y < 24) (hW : 0 < W) (hH : 0 < H) (hXW : X + W ≤ 32) (hYH : Y + H ≤ 24) (hu : u < 32) (hv : v < 24) (huw : u + W ≤ 32) (hvh : v + H ≤ 24) (r2 : QX F0 F1 F2) (zD : Z24 D0 ∧ Z24 D1 ∧ Z24 D2) (r3 : Z24 F0 ∧ Z24 F1 ∧ Z24 F2) : jC l b D ta False y_M_copy b_M_copy 18 (some .boolean) (rL 1) [.ref (b + 133), .int (nI X), .int (nI Y), .int (nI W), .int (nI H), .int (nI u), .int (nI v), .int 0] (σ ++ rC b ta wt F0 F1 F2 HH kt kp a hi tm sN sx sy pt mn pl pN px py sn lt rc tx sz us D0 D1 D2 qx qy di up dn be op gs t0 fr lf pX pY pD pU Xs) (some (.int 1)) (σ ++ rC b ta 0 ((ptA F0 F1 F2 (nI X) (nI Y) (nI W) (nI H) (nI u) (nI v) (nI 0) W H (F0, F1, F2)).1) ((ptA F0 F1 F2 (nI X) (nI Y) (nI W) (nI H) (nI u) (nI v) (nI 0) W H (F0, F1, F2)).2.1) ((ptA F0 F1 F2 (nI X) (nI Y) (nI W) (nI H) (nI u) (nI v) (nI 0) W H (F0, F1, F2)).2.2) HH kt kp a 0 tm sN sx sy pt mn pl pN px py sn lt rc tx sz us F0 F1 F2 qx qy di up dn be op gs t0 fr lf pX pY pD pU Xs) := by
  have ct : cqA (F0, F1, F2) 0 X Y W H u v W (F0, F1, F2) H = ptA F0 F1 F2 (nI X) (nI Y) (nI W) (nI H) (nI u) (nI v) (nI 0) W H (F0, F1, F2) := (cp_tie (T := 0) (D := (F0, F1, F2)) (s := (F0, F1, F2)) r2 (by decide) hXW hYH (show u + rcW 0 W H ≤ 32 from huw) (show v + rcH 0 W H ≤ 24 from hvh)).symm
  have k0 := c_M_copy_0 (l := l) (b := b) (D := D) (ta := ta) hl (wt := wt) (F0 := F0) (F1 := F1) (F2 := F2) (HH := HH) (kt := kt) (kp := kp) (a := a) (hi := hi) (tm := tm) (sN := sN) (sx := sx) (sy := sy) (pt := pt) (mn := mn) (pl := pl) (pN := pN) (px := px) (py := py) (sn := sn) (lt := lt) (rc := rc) (tx := tx) (sz := sz) (us := us) (D0 := D0) (D1 := D1) (D2 := D2) (qx := qx) (qy := qy) (di := di) (up := up) (dn := dn) (be := be) (op := op) (gs := gs) (t0 := t0) (fr := fr) (lf := lf) (pX := pX) (pY := pY) (pD := pD) (pU := pU) (X := Xs) hX hY hW hH hXW hYH hu hv huw hvh
  rw [rwF_e zD.1 r3.1, rwF_e zD.2.1 r3.2.1, rwF_e zD.2.2 r3.2.2, ct] at k0
  exact k0
set_option maxRecDepth 100000 in
theorem cpM_1 {l : Launch} {b : Nat} {D : va_G} {ta : Nat → ClassId} {σ : List va_E} (hl : σ.length = 133) {wt : Int32} {F0 : Nat → Int32} {F1 : Nat → Int32} {F2 : Nat → Int32} {HH : Nat → Int32} {kt : Nat → Int32} {kp : Nat → Int32} {a : Nat} {hi : Nat} {tm : Nat} {sN : Nat} {sx : Nat → Int32} {sy : Nat → Int32} {pt : Nat → Int64} {mn : Nat → Int32} {pl : Nat → Int32} {pN : Nat} {px : Nat → Int32} {py : Nat → Int32} {sn : Nat → Int32} {lt : Nat → Int32} {rc : Nat → Int64} {tx : Nat → Int32} {sz : Nat → Int32} {us : Nat → Int32} {D0 : Nat → Int32} {D1 : Nat → Int32} {D2 : Nat → Int32} {qx : Int32} {qy : Int32} {di : Nat} {up : Bool} {dn : Nat} {be : Bool} {op : Nat} {gs : Nat → Int32} {t0 : Nat → Int32} {fr : Nat → Int32} {lf : Nat → Int32} {pX : Nat → Int32} {pY : Nat → Int32} {pD : Nat → Int32} {pU : Nat → Int32} {Xs : List va_E} {X Y W H u v : Nat} (hX : X < 32) (hY : Y < 24) (hW : 0 < W) (hH : 0 < H) (hXW : X + W ≤ 32) (hYH : Y + H ≤ 24) (hu : u < 32) (hv : v < 24) (huw : u + H ≤ 32) (hvh : v + W ≤ 24) (r2 : QX F0 F1 F2) (zD : Z24 D0 ∧ Z24 D1 ∧ Z24 D2) (r3 : Z24 F0 ∧ Z24 F1 ∧ Z24 F2) : jC l b D ta False y_M_copy b_M_copy 18 (some .boolean) (rL 1) [.ref (b + 133), .int (nI X), .int (nI Y), .int (nI W), .int (nI H), .int (nI u), .int (nI v), .int 1] (σ ++ rC b ta wt F0 F1 F2 HH kt kp a hi tm sN sx sy pt mn pl pN px py sn lt rc tx sz us D0 D1 D2 qx qy di up dn be op gs t0 fr lf pX pY pD pU Xs) (some (.int 1)) (σ ++ rC b ta 0 ((ptA F0 F1 F2 (nI X) (nI Y) (nI W) (nI H) (nI u) (nI v) (nI 1) W H (F0, F1, F2)).1) ((ptA F0 F1 F2 (nI X) (nI Y) (nI W) (nI H) (nI u) (nI v) (nI 1) W H (F0, F1, F2)).2.1) ((ptA F0 F1 F2 (nI X) (nI Y) (nI W) (nI H) (nI u) (nI v) (nI 1) W H (F0, F1, F2)).2.2) HH kt kp a 0 tm sN sx sy pt mn pl pN px py sn lt rc tx sz us F0 F1 F2 qx qy di up dn be op gs t0 fr lf pX pY pD pU Xs) := by
  have ct : cqA (F0, F1, F2) 1 X Y W H u v H (F0, F1, F2) W = ptA F0 F1 F2 (nI X) (nI Y) (nI W) (nI H) (nI u) (nI v) (nI 1) W H (F0, F1, F2) := (cp_tie (T := 1) (D := (F0, F1, F2)) (s := (F0, F1, F2)) r2 (by decide) hXW hYH (show u + rcW 1 W H ≤ 32 from huw) (show v + rcH 1 W H ≤ 24 from hvh)).symm
  have k0 := c_M_copy_1 (l := l) (b := b) (D := D) (ta := ta) hl (wt := wt) (F0 := F0) (F1 := F1) (F2 := F2) (HH := HH) (kt := kt) (kp := kp) (a := a) (hi := hi) (tm := tm) (sN := sN) (sx := sx) (sy := sy) (pt := pt) (mn := mn) (pl := pl) (pN := pN) (px := px) (py := py) (sn := sn) (lt := lt) (rc := rc) (tx := tx) (sz := sz) (us := us) (D0 := D0) (D1 := D1) (D2 := D2) (qx := qx) (qy := qy) (di := di) (up := up) (dn := dn) (be := be) (op := op) (gs := gs) (t0 := t0) (fr := fr) (lf := lf) (pX := pX) (pY := pY) (pD := pD) (pU := pU) (X := Xs) hX hY hW hH hXW hYH hu hv huw hvh
  rw [rwF_e zD.1 r3.1, rwF_e zD.2.1 r3.2.1, rwF_e zD.2.2 r3.2.2, ct] at k0
  exact k0
set_option maxRecDepth 100000 in
theorem cpM_2 {l : Launch} {b : Nat} {D : va_G} {ta : Nat → ClassId} {σ : List va_E} (hl : σ.length = 133) {wt : Int32} {F0 : Nat → Int32} {F1 : Nat → Int32} {F2 : Nat → Int32} {HH : Nat → Int32} {kt : Nat → Int32} {kp : Nat → Int32} {a : Nat} {hi : Nat} {tm : Nat} {sN : Nat} {sx : Nat → Int32} {sy : Nat → Int32} {pt : Nat → Int64} {mn : Nat → Int32} {pl : Nat → Int32} {pN : Nat} {px : Nat → Int32} {py : Nat → Int32} {sn : Nat → Int32} {lt : Nat → Int32} {rc : Nat → Int64} {tx : Nat → Int32} {sz : Nat → Int32} {us : Nat → Int32} {D0 : Nat → Int32} {D1 : Nat → Int32} {D2 : Nat → Int32} {qx : Int32} {qy : Int32} {di : Nat} {up : Bool} {dn : Nat} {be : Bool} {op : Nat} {gs : Nat → Int32} {t0 : Nat → Int32} {fr : Nat → Int32} {lf : Nat → Int32} {pX : Nat → Int32} {pY : Nat → Int32} {pD : Nat → Int32} {pU : Nat → Int32} {Xs : List va_E} {X Y W H u v : Nat} (hX : X < 32) (hY : Y < 24) (hW : 0 < W) (hH : 0 < H) (hXW : X + W ≤ 32) (hYH : Y + H ≤ 24) (hu : u < 32) (hv : v < 24) (huw : u + W ≤ 32) (hvh : v + H ≤ 24) (r2 : QX F0 F1 F2) (zD : Z24 D0 ∧ Z24 D1 ∧ Z24 D2) (r3 : Z24 F0 ∧ Z24 F1 ∧ Z24 F2) : jC l b D ta False y_M_copy b_M_copy 18 (some .boolean) (rL 1) [.ref (b + 133), .int (nI X), .int (nI Y), .int (nI W), .int (nI H), .int (nI u), .int (nI v), .int 2] (σ ++ rC b ta wt F0 F1 F2 HH kt kp a hi tm sN sx sy pt mn pl pN px py sn lt rc tx sz us D0 D1 D2 qx qy di up dn be op gs t0 fr lf pX pY pD pU Xs) (some (.int 1)) (σ ++ rC b ta 0 ((ptA F0 F1 F2 (nI X) (nI Y) (nI W) (nI H) (nI u) (nI v) (nI 2) W H (F0, F1, F2)).1) ((ptA F0 F1 F2 (nI X) (nI Y) (nI W) (nI H) (nI u) (nI v) (nI 2) W H (F0, F1, F2)).2.1) ((ptA F0 F1 F2 (nI X) (nI Y) (nI W) (nI H) (nI u) (nI v) (nI 2) W H (F0, F1, F2)).2.2) HH kt kp a 0 tm sN sx sy pt mn pl pN px py sn lt rc tx sz us F0 F1 F2 qx qy di up dn be op gs t0 fr lf pX pY pD pU Xs) := by
  have ct : cqA (F0, F1, F2) 2 X Y W H u v W (F0, F1, F2) H = ptA F0 F1 F2 (nI X) (nI Y) (nI W) (nI H) (nI u) (nI v) (nI 2) W H (F0, F1, F2) := (cp_tie (T := 2) (D := (F0, F1, F2)) (s := (F0, F1, F2)) r2 (by decide) hXW hYH (show u + rcW 2 W H ≤ 32 from huw) (show v + rcH 2 W H ≤ 24 from hvh)).symm
  have k0 := c_M_copy_2 (l := l) (b := b) (D := D) (ta := ta) hl (wt := wt) (F0 := F0) (F1 := F1) (F2 := F2) (HH := HH) (kt := kt) (kp := kp) (a := a) (hi := hi) (tm := tm) (sN := sN) (sx := sx) (sy := sy) (pt := pt) (mn := mn) (pl := pl) (pN := pN) (px := px) (py := py) (sn := sn) (lt := lt) (rc := rc) (tx := tx) (sz := sz) (us := us) (D0 := D0) (D1 := D1) (D2 := D2) (qx := qx) (qy := qy) (di := di) (up := up) (dn := dn) (be := be) (op := op) (gs := gs) (t0 := t0) (fr := fr) (lf := lf) (pX := pX) (pY := pY) (pD := pD) (pU := pU) (X := Xs) hX hY hW hH hXW hYH hu hv huw hvh
  rw [rwF_e zD.1 r3.1, rwF_e zD.2.1 r3.2.1, rwF_e zD.2.2 r3.2.2, ct] at k0
  exact k0
set_option maxRecDepth 100000 in
theorem cpM_3 {l : Launch} {b : Nat} {D : va_G} {ta : Nat → ClassId} {σ : List va_E} (hl : σ.length = 133) {wt : Int32} {F0 : Nat → Int32} {F1 : Nat → Int32} {F2 : Nat → Int32} {HH : Nat → Int32} {kt : Nat → Int32} {kp : Nat → Int32} {a : Nat} {hi : Nat} {tm : Nat} {sN : Nat} {sx : Nat → Int32} {sy : Nat → Int32} {pt : Nat → Int64} {mn : Nat → Int32} {pl : Nat → Int32} {pN : Nat} {px : Nat → Int32} {py : Nat → Int32} {sn : Nat → Int32} {lt : Nat → Int32} {rc : Nat → Int64} {tx : Nat → Int32} {sz : Nat → Int32} {us : Nat → Int32} {D0 : Nat → Int32} {D1 : Nat → Int32} {D2 : Nat → Int32} {qx : Int32} {qy : Int32} {di : Nat} {up : Bool} {dn : Nat} {be : Bool} {op : Nat} {gs : Nat → Int32} {t0 : Nat → Int32} {fr : Nat → Int32} {lf : Nat → Int32} {pX : Nat → Int32} {pY : Nat → Int32} {pD : Nat → Int32} {pU : Nat → Int32} {Xs : List va_E} {X Y W H u v : Nat} (hX : X < 32) (hY : Y < 24) (hW : 0 < W) (hH : 0 < H) (hXW : X + W ≤ 32) (hYH : Y + H ≤ 24) (hu : u < 32) (hv : v < 24) (huw : u + H ≤ 32) (hvh : v + W ≤ 24) (r2 : QX F0 F1 F2) (zD : Z24 D0 ∧ Z24 D1 ∧ Z24 D2) (r3 : Z24 F0 ∧ Z24 F1 ∧ Z24 F2) : jC l b D ta False y_M_copy b_M_copy 18 (some .boolean) (rL 1) [.ref (b + 133), .int (nI X), .int (nI Y), .int (nI W), .int (nI H), .int (nI u), .int (nI v), .int 3] (σ ++ rC b ta wt F0 F1 F2 HH kt kp a hi tm sN sx sy pt mn pl pN px py sn lt rc tx sz us D0 D1 D2 qx qy di up dn be op gs t0 fr lf pX pY pD pU Xs) (some (.int 1)) (σ ++ rC b ta 0 ((ptA F0 F1 F2 (nI X) (nI Y) (nI W) (nI H) (nI u) (nI v) (nI 3) W H (F0, F1, F2)).1) ((ptA F0 F1 F2 (nI X) (nI Y) (nI W) (nI H) (nI u) (nI v) (nI 3) W H (F0, F1, F2)).2.1) ((ptA F0 F1 F2 (nI X) (nI Y) (nI W) (nI H) (nI u) (nI v) (nI 3) W H (F0, F1, F2)).2.2) HH kt kp a 0 tm sN sx sy pt mn pl pN px py sn lt rc tx sz us F0 F1 F2 qx qy di up dn be op gs t0 fr lf pX pY pD pU Xs) := by
  have ct : cqA (F0, F1, F2) 3 X Y W H u v H (F0, F1, F2) W = ptA F0 F1 F2 (nI X) (nI Y) (nI W) (nI H) (nI u) (nI v) (nI 3) W H (F0, F1, F2) := (cp_tie (T := 3) (D := (F0, F1, F2)) (s := (F0, F1, F2)) r2 (by decide) hXW hYH (show u + rcW 3 W H ≤ 32 from huw) (show v + rcH 3 W H ≤ 24 from hvh)).symm
  have k0 := c_M_copy_3 (l := l) (b := b) (D := D) (ta := ta) hl (wt := wt) (F0 := F0) (F1 := F1) (F2 := F2) (HH := HH) (kt := kt) (kp := kp) (a := a) (hi := hi) (tm := tm) (sN := sN) (sx := sx) (sy := sy) (pt := pt) (mn := mn) (pl := pl) (pN := pN) (px := px) (py := py) (sn := sn) (lt := lt) (rc := rc) (tx := tx) (sz := sz) (us := us) (D0 := D0) (D1 := D1) (D2 := D2) (qx := qx) (qy := qy) (di := di) (up := up) (dn := dn) (be := be) (op := op) (gs := gs) (t0 := t0) (fr := fr) (lf := lf) (pX := pX) (pY := pY) (pD := pD) (pU := pU) (X := Xs) hX hY hW hH hXW hYH hu hv huw hvh
  rw [rwF_e zD.1 r3.1, rwF_e zD.2.1 r3.2.1, rwF_e zD.2.2 r3.2.2, ct] at k0
  exact k0
set_option maxRecDepth 100000 in
theorem cpC {l : Launch} {b : Nat} {D : va_G} {ta : Nat → ClassId} {F0 : Nat → Int32} {F1 : Nat → Int32} {F2 : Nat → Int32} {A0 : Nat → Int32} {A1 : Nat → Int32} {A2 : Nat → Int32} {ec : Int32} {er : Int32} {ed : Nat} {eu : Bool} {eo : Nat} {P0 : Nat → Int32} {P1 : Nat → Int32} {P2 : Nat → Int32} {S : Nat → Int32} {N : Nat} {th : Nat → Int32} {MS : Nat → Nat → Int32} {MN : Nat → Nat} {so : Nat → Int32 × Int32 × Int64 × Nat × Nat} {qo : Nat → Int32 × Int32 × Int32 × Int32 × Int64} {sN : Nat} {qN : Nat} {kN : Nat} {tN : Nat} {M0 : Nat → Nat → Int32} {M1 : Nat → Nat → Int32} {M2 : Nat → Nat → Int32} {mp : Nat → Nat → Int32} {Xs : List va_E} {X Y W H u v T4 : Nat} (hT : T4 < 4) (hW : W < 2 ^ 30) (hH : H < 2 ^ 30) (h1 : isP (nI X) (nI Y) (nI W) (nI H) = true) (g : isP (nI u) (nI v) (nI (rcW T4 W H)) (nI (rcH T4 W H)) = true) (r3 : Z24 F0 ∧ Z24 F1 ∧ Z24 F2) (r4 : Z24 A0 ∧ Z24 A1 ∧ Z24 A2) : jC l b D ta False y_WF_copy b_WF_copy 11 (some .boolean) (rL 3) [.ref (b + 0), .int (nI X), .int (nI Y), .int (nI W), .int (nI H), .int (nI u), .int (nI v), .int (nI T4)] (hC b ta F0 F1 F2 A0 A1 A2 ec er ed eu eo P0 P1 P2 S N th MS MN so qo sN qN kN tN M0 M1 M2 mp Xs) (some (.int 1)) (hC b ta ((ptA F0 F1 F2 (nI X) (nI Y) (nI W) (nI H) (nI u) (nI v) (nI T4) W H (F0, F1, F2)).1) ((ptA F0 F1 F2 (nI X) (nI Y) (nI W) (nI H) (nI u) (nI v) (nI T4) W H (F0, F1, F2)).2.1) ((ptA F0 F1 F2 (nI X) (nI Y) (nI W) (nI H) (nI u) (nI v) (nI T4) W H (F0, F1, F2)).2.2) F0 F1 F2 ec er ed eu eo P0 P1 P2 S N th MS MN so qo sN qN 0 tN M0 M1 M2 mp Xs) :=
  c_WF_copy_t hT hW hH h1 (fun q => by have k := g; unfold rcW rcH at k; rw [if_neg (by omega), if_neg (by omega)] at k; exact k) (fun q => by have k := g; unfold rcW rcH at k; rw [if_pos (by omega), if_pos (by omega)] at k; exact k) r3.1 r3.2.1 r3.2.2 r4.1 r4.2.1 r4.2.2
set_option maxRecDepth 100000 in
set_option maxHeartbeats 200000 in
theorem call_copy {l : Launch} {b : Nat} {D : va_G} {ta : Nat → ClassId} {B : Nat} {c : CSt} {r : RSt} (I : Inv B c r) (x y w h U V t : Int32) : Pr l b D ta B c r y_WF_copy b_WF_copy 11 (some .boolean) 3 [.int x, .int y, .int w, .int h, .int U, .int V, .int t] y_M_copy b_M_copy 18 1 [.int x, .int y, .int w, .int h, .int U, .int V, .int t] Int32 fI := by
  obtain ⟨F0, F1, F2, A0, A1, A2, ec, er, ed, eu, eo, P0, P1, P2, S, N, th, MS, MN, so, qo, sN, qN, kN, tN, M0, M1, M2, mp⟩ := c
  obtain ⟨wt, E0, E1, E2, HH, kt, kp, a, hi, tm, rN, sx, sy, pt, mn, pl, pN, px, py, sn, ltt, rc, tx, sz, us, D0, D1, D2, qx, qy, di, up, dn, be, op, gs, t0, fr, lf, pX, pY, pD, pU⟩ := r
  obtain ⟨R, ⟨n1, n2, n3, n4, n5⟩, zP, zD, T, UU⟩ := I
  replace R : RG sN qN sx sy pt mn px py ((F0, F1, F2), (A0, A1, A2), so, qo, kN, tN, (M0, M1, M2), mp) ((E0, E1, E2), HH, kt, kp, a, hi, tm, pl, (rc, sn, ltt)) := R
  replace n1 : rN = sN := n1
  replace n2 : pN = qN := n2
  replace n3 : sN ≤ 4 := n3
  replace n4 : qN ≤ 4 := n4
  replace n5 : tN ≤ B := n5
  replace zP : Z24 P0 ∧ Z24 P1 ∧ Z24 P2 := zP
  replace zD : Z24 D0 ∧ Z24 D1 ∧ Z24 D2 := zD
  replace T : TI S N th MS MN tx sz us := T
  replace UU : ∀ k, qN ≤ k → k < 4 → sn k = (qo k).2.2.1 ∧ (qo k).2.2.2.1 = -1 ∧ rc k = (qo k).2.2.2.2 := UU
  subst n1 n2
  have R9 := R
  obtain ⟨r1, r2, r3, r4, r5, r6, r7, r8, r9, r10, r11, r12⟩ := R9
  replace r1 : (E0, E1, E2) = (F0, F1, F2) := r1
  cases r1
  replace r10 : hi = kN := r10
  replace r11 : tm = tN := r11
  subst r10 r11
  replace r2 : QX F0 F1 F2 := r2
  replace r3 : Z24 F0 ∧ Z24 F1 ∧ Z24 F2 := r3
  by_cases hf : ¬ t < 0 ∧ ¬ 4 ≤ t ∧ isP x y w h = true
  · obtain ⟨X, Y, W, H, hX, hY, hW, hH, hXW, hYH, rfl, rfl, rfl, rfl⟩ := isP_nn hf.2.2
    obtain ⟨T4, hT4, rfl⟩ := nI_of (x := t) hf.1
    have hT : T4 < 4 := (Nat.lt_or_ge T4 4).elim id (fun q => absurd (nI_le (a := 4) q hT4) hf.2.1)
    by_cases g : isP U V (nI (rcW T4 W H)) (nI (rcH T4 W H)) = true
    · obtain ⟨u, v, w2, h2, hu, hv, _, _, huw, hvh, rfl, rfl, e1, e2⟩ := isP_nn g
      have hW2 : rcW T4 W H ≤ 32 := by unfold rcW; split <;> omega
      have hH2 : rcH T4 W H ≤ 32 := by unfold rcH; split <;> omega
      have e1 := nI_inj e1 (by omega) (by omega)
      have e2 := nI_inj e2 (by omega) (by omega)
      subst e1 e2
      have zq := ptA_Q (A0 := F0) (A1 := F1) (A2 := F2) (ww := nI W) (hh := nI H) (tx := nI u) (ty := nI v) (t := nI T4) QX_k hXW hYH (s := (F0, F1, F2)) r2 H (Nat.le_refl _)
      have zz := ptA_Q (A0 := F0) (A1 := F1) (A2 := F2) (ww := nI W) (hh := nI H) (tx := nI u) (ty := nI v) (t := nI T4) QZ_k hXW hYH (s := (F0, F1, F2)) r3 H (Nat.le_refl _)
      refine ⟨((ptA F0 F1 F2 (nI X) (nI Y) (nI W) (nI H) (nI u) (nI v) (nI T4) W H (F0, F1, F2)).1, (ptA F0 F1 F2 (nI X) (nI Y) (nI W) (nI H) (nI u) (nI v) (nI T4) W H (F0, F1, F2)).2.1, (ptA F0 F1 F2 (nI X) (nI Y) (nI W) (nI H) (nI u) (nI v) (nI T4) W H (F0, F1, F2)).2.2, F0, F1, F2, ec, er, ed, eu, eo, P0, P1, P2, S, N, th, MS, MN, so, qo, rN, pN, 0, tm, M0, M1, M2, mp), (0, (ptA F0 F1 F2 (nI X) (nI Y) (nI W) (nI H) (nI u) (nI v) (nI T4) W H (F0, F1, F2)).1, (ptA F0 F1 F2 (nI X) (nI Y) (nI W) (nI H) (nI u) (nI v) (nI T4) W H (F0, F1, F2)).2.1, (ptA F0 F1 F2 (nI X) (nI Y) (nI W) (nI H) (nI u) (nI v) (nI T4) W H (F0, F1, F2)).2.2, HH, kt, kp, a, 0, tm, rN, sx, sy, pt, mn, pl, pN, px, py, sn, ltt, rc, tx, sz, us, F0, F1, F2, qx, qy, di, up, dn, be, op, gs, t0, fr, lf, pX, pY, pD, pU), 1, ⟨RG_new R zq zz r3, ⟨rfl, rfl, n3, n4, n5⟩, zP, r3, T, UU⟩, fun Xs => cpC hT (by omega) (by omega) hf.2.2 g r3 r4, fun σ Xs hl => ?_⟩
      have h4 : T4 = 0 ∨ T4 = 1 ∨ T4 = 2 ∨ T4 = 3 := by omega
      rcases h4 with q | q | q | q
      · subst q
        exact cpM_0 hl hX hY hW hH hXW hYH hu hv huw hvh r2 zD r3
      · subst q
        exact cpM_1 hl hX hY hW hH hXW hYH hu hv huw hvh r2 zD r3
      · subst q
        exact cpM_2 hl hX hY hW hH hXW hYH hu hv huw hvh r2 zD r3
      · subst q
        exact cpM_3 hl hX hY hW hH hXW hYH hu hv huw hvh r2 zD r3
    · have g2 : isP U V (nI (rcW T4 W H)) (nI (rcH T4 W H)) = false := eq_false_of_ne_true g
      refine ⟨(F0, F1, F2, A0, A1, A2, ec, er, ed, eu, eo, P0, P1, P2, S, N, th, MS, MN, so, qo, rN, pN, hi, tm, M0, M1, M2, mp), (0, F0, F1, F2, HH, kt, kp, a, hi, tm, rN, sx, sy, pt, mn, pl, pN, px, py, sn, ltt, rc, tx, sz, us, D0, D1, D2, qx, qy, di, up, dn, be, op, gs, t0, fr, lf, pX, pY, pD, pU), 0, ⟨R, ⟨rfl, rfl, n3, n4, n5⟩, zP, zD, T, UU⟩, fun Xs => c_WF_copy_g hT (by omega) (by omega) hf.2.2 (fun q => by have k := g2; unfold rcW rcH at k; rw [if_neg (by omega), if_neg (by omega)] at k; exact k) (fun q => by have k := g2; unfold rcW rcH at k; rw [if_pos (by omega), if_pos (by omega)] at k; exact k), fun σ Xs hl => c_M_copy_f hl (fun q => ?_)⟩
      obtain ⟨q1, q2, q3⟩ := q
      have hz := cpZ_P q1
      obtain ⟨u, v, hu, hv, rfl, rfl⟩ := inF_nn hz.2.2.2
      rw [rem2 hT] at q2 q3
      have e1 : (32 : Int32) - nI u = nI (32 - u) := pk_sub (a := 32) (b := u) (by omega)
      have e2 : (24 : Int32) - nI v = nI (24 - v) := pk_sub (a := 24) (b := v) (by omega)
      rw [e1] at q2
      rw [e2] at q3
      have a1 : rcW T4 W H ≤ 32 - u := by
        unfold rcW
        by_cases h : T4 % 2 = 0
        · rw [if_pos h] at q2 ⊢; exact (Nat.lt_or_ge (32 - u) W).elim (fun k => absurd (nI_lt k (by omega)) q2) id
        · rw [if_neg h] at q2 ⊢; exact (Nat.lt_or_ge (32 - u) H).elim (fun k => absurd (nI_lt k (by omega)) q2) id
      have a2 : rcH T4 W H ≤ 24 - v := by
        unfold rcH
        by_cases h : T4 % 2 = 0
        · rw [if_pos h] at q3 ⊢; exact (Nat.lt_or_ge (24 - v) H).elim (fun k => absurd q3 (nI_ge k (by omega))) id
        · rw [if_neg h] at q3 ⊢; exact (Nat.lt_or_ge (24 - v) W).elim (fun k => absurd q3 (nI_ge k (by omega))) id
      exact g (isP_mk hu hv (by unfold rcW; split <;> omega) (by unfold rcH; split <;> omega) (by omega) (by omega))
  · exact ⟨(F0, F1, F2, A0, A1, A2, ec, er, ed, eu, eo, P0, P1, P2, S, N, th, MS, MN, so, qo, rN, pN, hi, tm, M0, M1, M2, mp), (0, F0, F1, F2, HH, kt, kp, a, hi, tm, rN, sx, sy, pt, mn, pl, pN, px, py, sn, ltt, rc, tx, sz, us, D0, D1, D2, qx, qy, di, up, dn, be, op, gs, t0, fr, lf, pX, pY, pD, pU), 0, ⟨R, ⟨rfl, rfl, n3, n4, n5⟩, zP, zD, T, UU⟩, fun Xs => c_WF_copy_f hf, fun σ Xs hl => c_M_copy_f hl (fun q => hf ⟨(cpZ_P q.1).2.1, (cpZ_P q.1).2.2.1, (cpZ_P q.1).1⟩)⟩
