
/-! a generation of the field: class and reference -/
theorem hcF_at {HH F : Nat → Int32} : ∀ n r, hcF HH F n r = if r < n then F r else HH r := by
  intro n
  induction n with
  | zero => intro r; rw [if_neg (by omega)]; rfl
  | succ n ih =>
    intro r
    rw [hcF]
    by_cases h : r = n
    · subst h; rw [pk_us, if_pos (by omega)]
    · rw [pk_un h, ih]
      by_cases q : r < n
      · rw [if_pos q, if_pos (by omega)]
      · rw [if_neg q, if_neg (by omega)]
theorem hcF_e {HH F : Nat → Int32} (h1 : Z24 HH) (h2 : Z24 F) : hcF HH F 24 = F := by
  funext r
  rw [hcF_at]
  by_cases q : r < 24
  · rw [if_pos q]
  · rw [if_neg q, h1 r (by omega), h2 r (by omega)]
theorem rwF_e {HH F : Nat → Int32} (h1 : Z24 HH) (h2 : Z24 F) : rwF HH F 24 = F := by
  have key : ∀ n, rwF HH F n = hcF HH F n := by
    intro n
    induction n with
    | zero => rfl
    | succ n ih => rw [rwF, hcF, ih]
  rw [key, hcF_e h1 h2]
theorem nsS_at {HH : Nat → Int32} {E0 E1 E2 : Nat → Int32} : ∀ n r, (nsS HH (E0, E1, E2) n).1 r = (if r < n then E2 r &&& litF HH r else E0 r) ∧ (nsS HH (E0, E1, E2) n).2.1 r = (if r < n then E0 r else E1 r) ∧ (nsS HH (E0, E1, E2) n).2.2 r = (if r < n then (E2 r &&& ((E2 r &&& litF HH r) ^^^ (-1))) ||| E1 r else E2 r) := by
  intro n
  induction n with
  | zero => intro r; rw [if_neg (by omega), if_neg (by omega), if_neg (by omega)]; exact ⟨rfl, rfl, rfl⟩
  | succ n ih =>
    intro r
    have hn := ih n
    rw [if_neg (by omega), if_neg (by omega), if_neg (by omega)] at hn
    rw [nsS]
    dsimp only
    by_cases h : r = n
    · subst h
      rw [pk_us, pk_us, pk_us, if_pos (by omega), if_pos (by omega), if_pos (by omega), hn.1, hn.2.1, hn.2.2]
      exact ⟨rfl, rfl, rfl⟩
    · rw [pk_un h, pk_un h, pk_un h]
      have hr := ih r
      by_cases q : r < n
      · rw [if_pos q, if_pos q, if_pos q] at hr
        rw [if_pos (by omega), if_pos (by omega), if_pos (by omega)]
        exact hr
      · rw [if_neg q, if_neg q, if_neg q] at hr
        rw [if_neg (by omega), if_neg (by omega), if_neg (by omega)]
        exact hr
theorem fld_tie {E0 E1 E2 : Nat → Int32} (hQ : QX E0 E1 E2) (z0 : Z24 E0) (z1 : Z24 E1) (z2 : Z24 E2) : nsS E0 (E0, E1, E2) 24 = (nxH E0 E2, E0, nxW E0 E1 E2) := by
  have hb : ∀ r, r < 24 → E2 r &&& bsd E0 r = E2 r &&& litF E0 r := fun r hr => bs_lit hr (fun i hi w => (hQ r i hi).2.1 ⟨w.2, w.1⟩)
  have e1 : (nsS E0 (E0, E1, E2) 24).1 = nxH E0 E2 := by
    funext r
    rw [(nsS_at 24 r).1]
    unfold nxH
    by_cases q : r < 24
    · rw [if_pos q, if_pos q, hb r q]
    · rw [if_neg q, if_neg q, z0 r (by omega)]
  have e2 : (nsS E0 (E0, E1, E2) 24).2.1 = E0 := by
    funext r
    rw [(nsS_at 24 r).2.1]
    by_cases q : r < 24
    · rw [if_pos q]
    · rw [if_neg q, z0 r (by omega), z1 r (by omega)]
  have e3 : (nsS E0 (E0, E1, E2) 24).2.2 = nxW E0 E1 E2 := by
    funext r
    rw [(nsS_at 24 r).2.2]
    unfold nxW
    by_cases q : r < 24
    · rw [if_pos q, nxH_at q, hb r q]
    · rw [if_neg q, z2 r (by omega), z1 r (by omega)]; simp
  rw [← e1, ← e3]
  exact Prod.ext rfl (Prod.ext e2 rfl)
theorem nx_QX {E0 E1 E2 : Nat → Int32} (hQ : QX E0 E1 E2) : QX (nxH E0 E2) E0 (nxW E0 E1 E2) := by
  intro r i hi
  have h := hQ r i hi
  have hw : tbn (nxW E0 E1 E2 r) i = ((tbn (E2 r) i && !tbn (nxH E0 E2 r) i) || tbn (E1 r) i) := by unfold nxW; rw [tbn_or, tbn_and, tbn_not hi]
  have hn : tbn (nxH E0 E2 r) i = true → tbn (E2 r) i = true := by
    unfold nxH
    by_cases q : r < 24
    · rw [if_pos q, tbn_and]; intro w; exact (Bool.and_eq_true _ _ ▸ w : tbn (E2 r) i = true ∧ _).1
    · rw [if_neg q, tbn_0 i hi]; intro w; cases w
  rw [hw]
  revert h hn
  cases tbn (nxH E0 E2 r) i <;> cases tbn (E0 r) i <;> cases tbn (E1 r) i <;> cases tbn (E2 r) i <;> intro h hn <;> first | decide | (exfalso; revert h; decide) | (exfalso; exact absurd (hn rfl) (by decide))
