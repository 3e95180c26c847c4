
/-! a drawing goes through its texts: what the reference's walk must do -/
abbrev GK : Type := (Nat → Int32) × (Nat → Int32) × (Nat → Int32) × (Nat → Int32) × (Nat → Int32) × (Nat → Int32) × (Nat → Int32) × (Nat → Int32)
abbrev GS : Type := Nat × Nat × PT × Bool × Nat × GK
/-- the entry k of what is opened -/
def gE (G : GK) (k t f L : Nat) (P : PT) : Prop := G.2.1 k = nI t ∧ G.2.2.1 k = nI f ∧ G.2.2.2.1 k = nI L ∧ G.2.2.2.2.1 k = P.1 ∧ G.2.2.2.2.2.1 k = P.2.1 ∧ G.2.2.2.2.2.2.1 k = nI P.2.2.1 ∧ G.2.2.2.2.2.2.2 k = bI (!P.2.2.2.1)
def gA (k : Nat) (G G' : GK) : Prop := ∀ i, i < k → G'.1 i = G.1 i ∧ G'.2.1 i = G.2.1 i ∧ G'.2.2.1 i = G.2.2.1 i ∧ G'.2.2.2.1 i = G.2.2.2.1 i ∧ G'.2.2.2.2.1 i = G.2.2.2.2.1 i ∧ G'.2.2.2.2.2.1 i = G.2.2.2.2.2.1 i ∧ G'.2.2.2.2.2.2.1 i = G.2.2.2.2.2.2.1 i ∧ G'.2.2.2.2.2.2.2 i = G.2.2.2.2.2.2.2 i
theorem gA_r (k : Nat) (G : GK) : gA k G G := fun _ _ => ⟨rfl, rfl, rfl, rfl, rfl, rfl, rfl, rfl⟩
theorem gA_t {k : Nat} {G G1 G2 : GK} (h : gA k G G1) (h2 : gA k G1 G2) : gA k G G2 := fun i hi => by
  have a := h i hi
  have c := h2 i hi
  exact ⟨c.1.trans a.1, c.2.1.trans a.2.1, c.2.2.1.trans a.2.2.1, c.2.2.2.1.trans a.2.2.2.1, c.2.2.2.2.1.trans a.2.2.2.2.1, c.2.2.2.2.2.1.trans a.2.2.2.2.2.1, c.2.2.2.2.2.2.1.trans a.2.2.2.2.2.2.1, c.2.2.2.2.2.2.2.trans a.2.2.2.2.2.2.2⟩
theorem gA_le {k : Nat} {G G1 : GK} (h : gA (k + 1) G G1) : gA k G G1 := fun i hi => h i (by omega)
theorem gE_A {k t f L : Nat} {P : PT} {G G1 : GK} (h : gA (k + 1) G G1) (e : gE G k t f L P) : gE G1 k t f L P := by
  have a := h k (by omega)
  exact ⟨a.2.1.trans e.1, a.2.2.1.trans e.2.1, a.2.2.2.1.trans e.2.2.1, a.2.2.2.2.1.trans e.2.2.2.1, a.2.2.2.2.2.1.trans e.2.2.2.2.1, a.2.2.2.2.2.2.1.trans e.2.2.2.2.2.1, a.2.2.2.2.2.2.2.trans e.2.2.2.2.2.2⟩
/-- counted one more -/
def bmp (P : PT) : PT := (P.1, P.2.1, P.2.2.1, P.2.2.2.1, P.2.2.2.2.1 + 1, P.2.2.2.2.2)
/-- come back to where the pen was -/
def rs (P Q : PT) : PT := (P.1, P.2.1, P.2.2.1, P.2.2.2.1, Q.2.2.2.2)
def QZs (P : PT) : Prop := QZ P.2.2.2.2.2.1 P.2.2.2.2.2.2.1 P.2.2.2.2.2.2.2
def PIn (P : PT) : Prop := P.2.2.1 < 4 ∧ P.2.2.2.2.1 ≤ 400 ∧ inF P.1 P.2.1 = true ∧ QX P.2.2.2.2.2.1 P.2.2.2.2.2.2.1 P.2.2.2.2.2.2.2 ∧ QZs P
theorem PI_b {P : PT} (h : PIn P) (ho : P.2.2.2.2.1 < 400) : PIn (bmp P) := ⟨h.1, ho, h.2.2⟩
theorem PI_r {P Q : PT} (h : PIn P) (q : PIn Q) : PIn (rs P Q) := ⟨h.1, q.2.1, h.2.2.1, q.2.2.2⟩
/-- an order of one sign, counted and done -/
def sgO (ch : Int32) (P : PT) : Bool × PT := if P.2.2.2.2.1 < 400 then obX ch (bmp P) else (false, P)
/-- an order begins here -/
def oB (TS : Nat → Nat → Int32) (TN : Nat → Nat) (t f : Nat) : Prop := f < TN t ∧ ¬ sg (TS t) (TN t) f = 0 ∧ ¬ sg (TS t) (TN t) f = 41 ∧ ¬ sg (TS t) (TN t) f = 93 ∧ dg (sg (TS t) (TN t) (f + dgA (TS t) (TN t) f)) = false
def gX (M : GS → GS → Prop) (s : GS) : Prop := ∃ s' : GS, (s'.2.2.2.1 = true ∧ QZs s'.2.2.1) ∧ M s s'
def sC (M : GS → GS → Prop) (s : GS) (t p op : Nat) (G : GK) (R : Bool × PT) : Prop := (R.1 = true → PIn R.2 ∧ ∃ G', gA op G G' ∧ M s (t, p, R.2, false, op, G')) ∧ (¬ R.1 = true → gX M s)
theorem sC_pre {M : GS → GS → Prop} (tr : ∀ a b c, M a b → M b c → M a c) {s s1 : GS} {t p op : Nat} {G G1 : GK} {R : Bool × PT} (m1 : M s s1) (a : gA op G G1) (h : sC M s1 t p op G1 R) : sC M s t p op G R :=
  ⟨fun q => by obtain ⟨hI, G2, a2, m2⟩ := h.1 q; exact ⟨hI, G2, gA_t a a2, tr _ _ _ m1 m2⟩, fun q => by obtain ⟨s', x, y⟩ := h.2 q; exact ⟨s', x, tr _ _ _ m1 y⟩⟩
theorem sC_one {M : GS → GS → Prop} {s : GS} {t p op : Nat} {G : GK} {P : PT} (hP : PIn P) (m1 : M s (t, p, P, false, op, G)) : sC M s t p op G (true, P) := ⟨fun _ => ⟨hP, G, gA_r _ _, m1⟩, fun q => absurd rfl q⟩
theorem sC_no {M : GS → GS → Prop} {s : GS} {t p op : Nat} {G : GK} {R : Bool × PT} (hR : R.1 = false) (h : gX M s) : sC M s t p op G R := ⟨fun q => absurd (hR.symm.trans q) Bool.false_ne_true, fun _ => h⟩
theorem pfT_s {one : PT → Bool × PT} {n : Nat} {P : PT} : pfT one (n + 1) P = if (one P).1 = true then pfT one n (one P).2 else (false, (one P).2) := rfl
/-- so often again what was opened -/
theorem rep_gen {M : GS → GS → Prop} (tr : ∀ a b c, M a b → M b c → M a c) {inn one : PT → Bool × PT} {rst : PT → PT → PT} {tI fI tZ zZ tE eE a f op : Nat}
    (h1 : ∀ P, P.2.2.2.2.1 < 400 → one P = ((inn (bmp P)).1, rst (bmp P) (inn (bmp P)).2))
    (h2 : ∀ P, ¬ P.2.2.2.2.1 < 400 → (one P).1 = false)
    (hin : ∀ P G, PIn P → sC M (tI, fI, P, false, op + 1, G) tZ zZ (op + 1) G (inn P))
    (hr : ∀ P Q, PIn P → PIn Q → PIn (rst P Q))
    (hpop : ∀ P Q G, PIn P → PIn Q → gE G op a f 0 P → M (tZ, zZ, Q, false, op + 1, G) (tE, eE, rst P Q, false, op, G))
    (hag : ∀ P Q G L, PIn P → PIn Q → L < 100 → gE G op a f (L + 1) P → (rst P Q).2.2.2.2.1 < 400 → ∃ G', gA op G G' ∧ gE G' op a f L (rst P Q) ∧ M (tZ, zZ, Q, false, op + 1, G) (tI, fI, bmp (rst P Q), false, op + 1, G'))
    (hagF : ∀ P Q G L, PIn P → PIn Q → L < 100 → gE G op a f (L + 1) P → ¬ (rst P Q).2.2.2.2.1 < 400 → gX M (tZ, zZ, Q, false, op + 1, G)) :
    ∀ L P G, L < 100 → PIn P → gE G op a f L P → sC M (tI, fI, P, false, op + 1, G) tE eE op G (if (inn P).1 = true then pfT one L (rst P (inn P).2) else (false, rst P (inn P).2)) := by
  intro L
  induction L with
  | zero =>
    intro P G hL hP hE
    have h := hin P G hP
    by_cases hq : (inn P).1 = true
    · rw [if_pos hq]
      obtain ⟨hI, G1, a1, m1⟩ := h.1 hq
      exact sC_pre tr m1 (gA_le a1) (sC_one (hr _ _ hP hI) (hpop P _ G1 hP hI (gE_A a1 hE)))
    · rw [if_neg hq]; exact sC_no rfl (h.2 hq)
  | succ L ih =>
    intro P G hL hP hE
    have h := hin P G hP
    by_cases hq : (inn P).1 = true
    · rw [if_pos hq]
      obtain ⟨hI, G1, a1, m1⟩ := h.1 hq
      have hE1 := gE_A a1 hE
      by_cases ho : (rst P (inn P).2).2.2.2.2.1 < 400
      · obtain ⟨G2, a2, e2, m2⟩ := hag P _ G1 L hP hI (by omega) hE1 ho
        have h3 := ih (bmp (rst P (inn P).2)) G2 (by omega) (PI_b (hr _ _ hP hI) ho) e2
        rw [pfT_s, h1 _ ho]
        exact sC_pre tr (tr _ _ _ m1 m2) (gA_t (gA_le a1) a2) h3
      · refine sC_no ?_ ?_
        · rw [pfT_s, if_neg (by rw [h2 _ ho]; exact Bool.false_ne_true)]
        · obtain ⟨s', x1, x2⟩ := hagF P _ G1 L hP hI (by omega) hE1 ho
          exact ⟨s', x1, tr _ _ _ m1 x2⟩
    · rw [if_neg hq]; exact sC_no rfl (h.2 hq)
theorem rep_all {M : GS → GS → Prop} (tr : ∀ a b c, M a b → M b c → M a c) {inn one : PT → Bool × PT} {rst : PT → PT → PT} {tI fI tZ zZ tE eE a f op : Nat}
    (h1 : ∀ P, P.2.2.2.2.1 < 400 → one P = ((inn (bmp P)).1, rst (bmp P) (inn (bmp P)).2))
    (h2 : ∀ P, ¬ P.2.2.2.2.1 < 400 → (one P).1 = false)
    (hin : ∀ P G, PIn P → sC M (tI, fI, P, false, op + 1, G) tZ zZ (op + 1) G (inn P))
    (hr : ∀ P Q, PIn P → PIn Q → PIn (rst P Q))
    (hpop : ∀ P Q G, PIn P → PIn Q → gE G op a f 0 P → M (tZ, zZ, Q, false, op + 1, G) (tE, eE, rst P Q, false, op, G))
    (hag : ∀ P Q G L, PIn P → PIn Q → L < 100 → gE G op a f (L + 1) P → (rst P Q).2.2.2.2.1 < 400 → ∃ G', gA op G G' ∧ gE G' op a f L (rst P Q) ∧ M (tZ, zZ, Q, false, op + 1, G) (tI, fI, bmp (rst P Q), false, op + 1, G'))
    (hagF : ∀ P Q G L, PIn P → PIn Q → L < 100 → gE G op a f (L + 1) P → ¬ (rst P Q).2.2.2.2.1 < 400 → gX M (tZ, zZ, Q, false, op + 1, G))
    {s : GS} {P : PT} {G : GK} {L : Nat} (hL : L < 100) (hP : PIn P) (hopn : P.2.2.2.2.1 < 400 → ∃ G', gA op G G' ∧ gE G' op a f L P ∧ M s (tI, fI, bmp P, false, op + 1, G')) (hopF : ¬ P.2.2.2.2.1 < 400 → gX M s) : sC M s tE eE op G (pfT one (L + 1) P) := by
  by_cases ho : P.2.2.2.2.1 < 400
  · obtain ⟨G1, a1, e1, m1⟩ := hopn ho
    have h3 := rep_gen tr h1 h2 hin hr hpop hag hagF L (bmp P) G1 hL (PI_b hP ho) e1
    rw [pfT_s, h1 _ ho]
    exact sC_pre tr m1 a1 h3
  · refine sC_no ?_ (hopF ho)
    rw [pfT_s, if_neg (by rw [h2 _ ho]; exact Bool.false_ne_true)]
/-! the moves -/
section MV
variable (M : GS → GS → Prop) (TS : Nat → Nat → Int32) (TN : Nat → Nat) (Th : Nat → Prop)
def MV1 : Prop := ∀ (t f L : Nat) (P : PT) (op : Nat) (G : GK), Th t → oB TS TN t f → tmN (TS t) (TN t) f = L + 1 → (sg (TS t) (TN t) (f + dgA (TS t) (TN t) f) = 40 ∨ sg (TS t) (TN t) (f + dgA (TS t) (TN t) f) = 91) → op < 32 → PIn P → P.2.2.2.2.1 < 400 → ∃ G', gA op G G' ∧ gE G' op t ((f + dgA (TS t) (TN t) f) + 1) L P ∧ M (t, f, P, false, op, G) (t, (f + dgA (TS t) (TN t) f) + 1, bmp P, false, op + 1, G')
def MV2 : Prop := ∀ (t f L : Nat) (P : PT) (op : Nat) (G : GK), Th t → oB TS TN t f → tmN (TS t) (TN t) f = L + 1 → (sg (TS t) (TN t) (f + dgA (TS t) (TN t) f) = 40 ∨ sg (TS t) (TN t) (f + dgA (TS t) (TN t) f) = 91) → op < 32 → PIn P → ¬ P.2.2.2.2.1 < 400 → gX M (t, f, P, false, op, G)
def MV3 : Prop := ∀ (t f e : Nat) (P : PT) (op : Nat) (G : GK), Th t → oB TS TN t f → tmN (TS t) (TN t) f = 0 → (sg (TS t) (TN t) (f + dgA (TS t) (TN t) f) = 40 ∨ sg (TS t) (TN t) (f + dgA (TS t) (TN t) f) = 91) → e ≤ 60 → bhR (TS t) (TN t) (e - (f + dgA (TS t) (TN t) f)) (f + dgA (TS t) (TN t) f) 0 = some e → M (t, f, P, false, op, G) (t, e, P, false, op, G)
def MV4 : Prop := ∀ (t f L j : Nat) (P : PT) (op : Nat) (G : GK), Th t → oB TS TN t f → tmN (TS t) (TN t) f = L + 1 → sg (TS t) (TN t) (f + dgA (TS t) (TN t) f) = 64 → sg (TS t) (TN t) ((f + dgA (TS t) (TN t) f) + 1) - 97 = nI j → op < 32 → PIn P → P.2.2.2.2.1 < 400 → ∃ G', gA op G G' ∧ gE G' op t ((f + dgA (TS t) (TN t) f) + 2) L P ∧ M (t, f, P, false, op, G) (j, 0, bmp P, false, op + 1, G')
def MV5 : Prop := ∀ (t f L j : Nat) (P : PT) (op : Nat) (G : GK), Th t → oB TS TN t f → tmN (TS t) (TN t) f = L + 1 → sg (TS t) (TN t) (f + dgA (TS t) (TN t) f) = 64 → sg (TS t) (TN t) ((f + dgA (TS t) (TN t) f) + 1) - 97 = nI j → op < 32 → PIn P → ¬ P.2.2.2.2.1 < 400 → gX M (t, f, P, false, op, G)
def MV6 : Prop := ∀ (t f j : Nat) (P : PT) (op : Nat) (G : GK), Th t → oB TS TN t f → tmN (TS t) (TN t) f = 0 → sg (TS t) (TN t) (f + dgA (TS t) (TN t) f) = 64 → sg (TS t) (TN t) ((f + dgA (TS t) (TN t) f) + 1) - 97 = nI j → M (t, f, P, false, op, G) (t, (f + dgA (TS t) (TN t) f) + 2, P, false, op, G)
def MV7 : Prop := ∀ (t f : Nat) (P : PT) (op : Nat) (G : GK), Th t → oB TS TN t f → sing (sg (TS t) (TN t) (f + dgA (TS t) (TN t) f)) = true → PIn P → sC M (t, f, P, false, op, G) t ((f + dgA (TS t) (TN t) f) + 1) op G (pfT (sgO (sg (TS t) (TN t) (f + dgA (TS t) (TN t) f))) (tmN (TS t) (TN t) f) P)
def MVa (cc : Int32) (rst : PT → PT → PT) : Prop := ∀ (t p a f L : Nat) (P Q : PT) (op : Nat) (G : GK), Th t → sg (TS t) (TN t) p = cc → op < 32 → L < 100 → PIn P → PIn Q → gE G op a f (L + 1) P → Q.2.2.2.2.1 < 400 → ∃ G', gA op G G' ∧ gE G' op a f L (rst P Q) ∧ M (t, p, Q, false, op + 1, G) (t, f, bmp (rst P Q), false, op + 1, G')
def MVf (cc : Int32) : Prop := ∀ (t p a f L : Nat) (P Q : PT) (op : Nat) (G : GK), Th t → sg (TS t) (TN t) p = cc → op < 32 → L < 100 → PIn P → PIn Q → gE G op a f (L + 1) P → ¬ Q.2.2.2.2.1 < 400 → gX M (t, p, Q, false, op + 1, G)
def MVp (cc : Int32) (rst : PT → PT → PT) : Prop := ∀ (t p a f : Nat) (P Q : PT) (op : Nat) (G : GK), Th t → sg (TS t) (TN t) p = cc → op < 32 → PIn P → PIn Q → gE G op a f 0 P → M (t, p, Q, false, op + 1, G) (a, p + 1, rst P Q, false, op, G)
def MVz : Prop := ∀ (t a f L : Nat) (P Q : PT) (op : Nat) (G : GK), Th t → t < 4 → op < 32 → L < 100 → PIn P → PIn Q → gE G op a f (L + 1) P → Q.2.2.2.2.1 < 400 → ∃ G', gA op G G' ∧ gE G' op a f L Q ∧ M (t, TN t, Q, false, op + 1, G) (t, 0, bmp Q, false, op + 1, G')
def MVy : Prop := ∀ (t a f L : Nat) (P Q : PT) (op : Nat) (G : GK), Th t → t < 4 → op < 32 → L < 100 → PIn P → PIn Q → gE G op a f (L + 1) P → ¬ Q.2.2.2.2.1 < 400 → gX M (t, TN t, Q, false, op + 1, G)
def MVx : Prop := ∀ (t a f : Nat) (P Q : PT) (op : Nat) (G : GK), Th t → t < 4 → op < 32 → PIn P → PIn Q → gE G op a f 0 P → M (t, TN t, Q, false, op + 1, G) (a, f, Q, false, op, G)
def MVs : Prop := MV1 M TS TN Th ∧ MV2 M TS TN Th ∧ MV3 M TS TN Th ∧ MV4 M TS TN Th ∧ MV5 M TS TN Th ∧ MV6 M TS TN Th ∧ MV7 M TS TN Th ∧ MVa M TS TN Th 41 rs ∧ MVf M TS TN Th 41 ∧ MVp M TS TN Th 41 rs ∧ MVa M TS TN Th 93 (fun _ Q => Q) ∧ MVf M TS TN Th 93 ∧ MVp M TS TN Th 93 (fun _ Q => Q) ∧ MVz M TN Th ∧ MVy M TN Th ∧ MVx M TN Th
/-- what is asked of the texts -/
def TXs : Prop := (∀ t, Th t → t ≤ 4 ∧ TN t ≤ 60 ∧ eoD (TS t) (TN t) t 4 0 = some (TN t)) ∧ (∀ t, Th t → ∀ k j, sg (TS t) (TN t) k = 64 → sg (TS t) (TN t) (k + 1) - 97 = nI j → j < t → Th j)
def SIM (m : Nat) : Prop := ∀ (t kk f to : Nat) (P : PT) (op : Nat) (G : GK), Th t → kk ≤ 3 → 4 * t + kk + 1 ≤ m → op + m ≤ 20 → PIn P → f ≤ TN t → eoS (eoD (TS t) (TN t) t kk) (TS t) (TN t) t 60 f = some to → sC M (t, f, P, false, op, G) t to op G (pfD TS TN m (TS t) (TN t) f to P)
end MV
/-! what it says that a stretch of a text is a row of orders -/
section EO
variable {S : Nat → Int32} {N : Nat}
theorem eo_ch {rec : Nat → Option Nat} {Lt k e : Nat} (h : eoO rec S N Lt k = some e) : sg S N k = 40 ∨ sg S N k = 91 ∨ sg S N k = 64 ∨ sing (sg S N k) = true := by
  by_cases c1 : sg S N k = 40
  · exact Or.inl c1
  · by_cases c2 : sg S N k = 91
    · exact Or.inr (Or.inl c2)
    · by_cases c3 : sg S N k = 64
      · exact Or.inr (Or.inr (Or.inl c3))
      · exact Or.inr (Or.inr (Or.inr (eo_sing h c1 c3 c2)))
theorem sing_no {c : Int32} (h : sing c = true) : dg c = false ∧ opn c = false ∧ cls c = false ∧ ¬ c = 0 ∧ ¬ c = 40 ∧ ¬ c = 91 ∧ ¬ c = 64 := by
  have h2 := of_decide_eq_true h
  rcases h2 with h | h | h | h | h | h | h | h | h <;> (subst h; decide)
theorem ch_no {c : Int32} (h : c = 40 ∨ c = 91 ∨ c = 64 ∨ sing c = true) : dg c = false ∧ ¬ c = 0 ∧ cls c = false := by
  rcases h with h | h | h | h
  · subst h; decide
  · subst h; decide
  · subst h; decide
  · exact ⟨(sing_no h).1, (sing_no h).2.2.2.1, (sing_no h).2.2.1⟩
theorem dg_no {c : Int32} (h : dg c = true) : opn c = false ∧ cls c = false := by
  constructor
  · refine decide_eq_false (fun q => ?_)
    rcases q with q | q <;> (subst q; exact absurd h (by decide))
  · refine decide_eq_false (fun q => ?_)
    rcases q with q | q <;> (subst q; exact absurd h (by decide))
theorem eoO_mono {rec rec2 : Nat → Option Nat} {Lt Lt2 : Nat} (hr : ∀ k e, rec k = some e → rec2 k = some e) (hL : Lt ≤ Lt2) (h4 : Lt2 ≤ 4) {k e : Nat} (h : eoO rec S N Lt k = some e) : eoO rec2 S N Lt2 k = some e := by
  have key : ∀ p c, eoB rec S N p c = some e → eoB rec2 S N p c = some e := by
    intro p c hb
    unfold eoB at hb ⊢
    cases hp : rec p with
    | none => rw [hp] at hb; cases hb
    | some z => rw [hp] at hb; rw [hr p z hp]; exact hb
  unfold eoO at h ⊢
  split
  · rename_i c1; rw [if_pos c1] at h; exact key _ _ h
  · rename_i c1; rw [if_neg c1] at h
    split
    · rename_i c2; rw [if_pos c2] at h; exact key _ _ h
    · rename_i c2; rw [if_neg c2] at h
      split
      · rename_i c3; rw [if_pos c3] at h
        by_cases hq : ¬ sg S N (k + 1) - 97 < 0 ∧ ¬ nI Lt ≤ sg S N (k + 1) - 97
        · rw [if_pos hq] at h
          rw [if_pos ⟨hq.1, fun q => hq.2 (Int32.le_trans (nI_le hL (by omega)) q)⟩]; exact h
        · rw [if_neg hq] at h; cases h
      · rename_i c3; rw [if_neg c3] at h; exact h
theorem eoS_mono {rec rec2 : Nat → Option Nat} {Lt Lt2 : Nat} (hr : ∀ k e, rec k = some e → rec2 k = some e) (hL : Lt ≤ Lt2) (h4 : Lt2 ≤ 4) : ∀ n k e, eoS rec S N Lt n k = some e → eoS rec2 S N Lt2 n k = some e := by
  intro n
  induction n with
  | zero => intro k e h; exact h
  | succ n ih =>
    intro k e h
    rw [eoS_s] at h ⊢
    by_cases hc : k < N ∧ cl (sg S N k) = false
    · rw [if_pos hc] at h ⊢
      cases ho : eoO rec S N Lt (k + dgA S N k) with
      | none => rw [ho] at h; cases h
      | some z => rw [ho] at h; rw [eoO_mono hr hL h4 ho]; exact ih _ _ h
    · rw [if_neg hc] at h ⊢; exact h
theorem eoD_mono {Lt : Nat} (hL : Lt ≤ 4) : ∀ m m2, m ≤ m2 → ∀ k e, eoD S N Lt m k = some e → eoD S N 4 m2 k = some e := by
  intro m
  induction m with
  | zero => intro m2 _ k e h; cases h
  | succ m ih =>
    intro m2 hm k e h
    obtain ⟨m3, rfl⟩ : ∃ m3, m2 = m3 + 1 := ⟨m2 - 1, by omega⟩
    exact eoS_mono (ih m3 (by omega)) hL (Nat.le_refl 4) 60 k e h
theorem eoO_gt {rec : Nat → Option Nat} {Lt k e : Nat} (hr : ∀ k e, rec k = some e → k ≤ e) (h : eoO rec S N Lt k = some e) : k < e := by
  have key : ∀ c, eoB rec S N (k + 1) c = some e → k < e := by
    intro c hb
    unfold eoB at hb
    cases hp : rec (k + 1) with
    | none => rw [hp] at hb; cases hb
    | some z =>
      rw [hp] at hb
      have := hr _ _ hp
      by_cases hz : sg S N z = c
      · simp only [hz, if_true] at hb; cases hb; omega
      · simp only [hz, if_false] at hb; cases hb
  unfold eoO at h
  split at h
  · exact key _ h
  · split at h
    · exact key _ h
    · split at h
      · split at h
        · cases h; omega
        · cases h
      · split at h
        · cases h; omega
        · cases h
theorem eoS_ge {rec : Nat → Option Nat} {Lt : Nat} (hr : ∀ k e, rec k = some e → k ≤ e) : ∀ n k e, eoS rec S N Lt n k = some e → k ≤ e := by
  intro n
  induction n with
  | zero => intro k e h; cases h; exact Nat.le_refl _
  | succ n ih =>
    intro k e h
    rw [eoS_s] at h
    by_cases hc : k < N ∧ cl (sg S N k) = false
    · rw [if_pos hc] at h
      cases ho : eoO rec S N Lt (k + dgA S N k) with
      | none => rw [ho] at h; cases h
      | some z => rw [ho] at h; have := eoO_gt hr ho; have := ih _ _ h; omega
    · rw [if_neg hc] at h; cases h; exact Nat.le_refl _
theorem eoD_ge {Lt : Nat} : ∀ m k e, eoD S N Lt m k = some e → k ≤ e := by
  intro m
  induction m with
  | zero => intro k e h; cases h
  | succ m ih => intro k e h; exact eoS_ge ih 60 k e h
theorem eoS_go {rec : Nat → Option Nat} {Lt n k to : Nat} (h : eoS rec S N Lt n k = some to) (hlt : k < to) : ∃ n2 e, k < N ∧ cl (sg S N k) = false ∧ eoO rec S N Lt (k + dgA S N k) = some e ∧ eoS rec S N Lt n2 e = some to := by
  cases n with
  | zero => cases h; omega
  | succ n =>
    rw [eoS_s] at h
    by_cases hc : k < N ∧ cl (sg S N k) = false
    · rw [if_pos hc] at h
      cases ho : eoO rec S N Lt (k + dgA S N k) with
      | none => rw [ho] at h; cases h
      | some z => rw [ho] at h; exact ⟨n, z, hc.1, hc.2, rfl, h⟩
    · rw [if_neg hc] at h; cases h; omega
theorem eo_bz {Lt kk k e : Nat} {c : Int32} (h : eoB (eoD S N Lt kk) S N (k + 1) c = some e) : ∃ q z, kk = q + 1 ∧ e = z + 1 ∧ eoS (eoD S N Lt q) S N Lt 60 (k + 1) = some z ∧ sg S N z = c := by
  unfold eoB at h
  cases kk with
  | zero => cases h
  | succ q =>
    cases hp : eoD S N Lt (q + 1) (k + 1) with
    | none => rw [hp] at h; cases h
    | some z =>
      rw [hp] at h
      by_cases hz : sg S N z = c
      · simp only [hz, if_true] at h; cases h; exact ⟨q, z, rfl, rfl, hp, hz⟩
      · simp only [hz, if_false] at h; cases h
theorem eo_b40 {Lt kk k e : Nat} (h : eoO (eoD S N Lt kk) S N Lt k = some e) (c : sg S N k = 40) : ∃ q z, kk = q + 1 ∧ e = z + 1 ∧ eoS (eoD S N Lt q) S N Lt 60 (k + 1) = some z ∧ sg S N z = 41 := by
  rw [eoO, if_pos c] at h; exact eo_bz h
theorem eo_b91 {Lt kk k e : Nat} (h : eoO (eoD S N Lt kk) S N Lt k = some e) (c : sg S N k = 91) : ∃ q z, kk = q + 1 ∧ e = z + 1 ∧ eoS (eoD S N Lt q) S N Lt 60 (k + 1) = some z ∧ sg S N z = 93 := by
  rw [eoO, if_neg (by rw [c]; decide), if_pos c] at h; exact eo_bz h
theorem eo_m64 {rec : Nat → Option Nat} {Lt k e : Nat} (hL : Lt ≤ 4) (h : eoO rec S N Lt k = some e) (c : sg S N k = 64) : e = k + 2 ∧ ∃ j, j < Lt ∧ sg S N (k + 1) - 97 = nI j := by
  rw [eoO, if_neg (by rw [c]; decide), if_neg (by rw [c]; decide), if_pos c] at h
  split at h
  · rename_i hq
    obtain ⟨j, hj, e1⟩ := nI_of hq.1
    refine ⟨by cases h; rfl, j, ?_, e1⟩
    rcases Nat.lt_or_ge j Lt with q | q
    · exact q
    · exact absurd (by rw [e1]; exact nI_le q hj) hq.2
  · cases h
theorem eo_s1 {rec : Nat → Option Nat} {Lt k e : Nat} (h : eoO rec S N Lt k = some e) (c : sing (sg S N k) = true) : e = k + 1 := by
  have n := (sing_no c).2.2.2.2
  rw [eoO, if_neg n.1, if_neg n.2.1, if_neg n.2.2, if_pos c] at h
  cases h; rfl
/-! behind a bracket -/
theorem bh_1 {fu k d : Nat} (h1 : opn (sg S N k) = false) (h2 : cls (sg S N k) = false) : bhR S N (fu + 1) k (d + 1) = bhR S N fu (k + 1) (d + 1) := by
  rw [bhR, if_neg (bF h1), if_neg (bF h2), if_pos (by omega)]
theorem bh_d {fu k d : Nat} : bhR S N (fu + dgA S N k) k (d + 1) = bhR S N fu (k + dgA S N k) (d + 1) := by
  unfold dgA
  cases h0 : dg (sg S N k) with
  | false => rw [if_neg Bool.false_ne_true] <;> rfl
  | true =>
    rw [if_pos rfl]
    cases h1 : dg (sg S N (k + 1)) with
    | false => rw [if_neg Bool.false_ne_true]; exact bh_1 (dg_no h0).1 (dg_no h0).2
    | true => rw [if_pos rfl]; exact (bh_1 (fu := fu + 1) (dg_no h0).1 (dg_no h0).2).trans (bh_1 (dg_no h1).1 (dg_no h1).2)
theorem ltr_no {c : Int32} (h : ¬ c - 97 < 0) : opn c = false ∧ cls c = false := by
  constructor
  · refine decide_eq_false (fun q => ?_)
    rcases q with q | q <;> (subst q; exact absurd (by decide) h)
  · refine decide_eq_false (fun q => ?_)
    rcases q with q | q <;> (subst q; exact absurd (by decide) h)
theorem bh_B {rec : Nat → Option Nat} (hr : ∀ k z d fu, rec k = some z → bhR S N (fu + (z - k)) k (d + 1) = bhR S N fu z (d + 1)) (hg : ∀ k e, rec k = some e → k ≤ e) {k e d fu : Nat} {c : Int32} (hc : cls c = true ∧ opn c = false) (ho : opn (sg S N k) = true) (h : eoB rec S N (k + 1) c = some e) : bhR S N (fu + (e - k)) k (d + 1) = bhR S N fu e (d + 1) := by
  unfold eoB at h
  cases hp : rec (k + 1) with
  | none => rw [hp] at h; cases h
  | some z =>
    rw [hp] at h
    have hz1 := hg _ _ hp
    by_cases hz : sg S N z = c
    · simp only [hz, if_true] at h
      cases h
      have e1 : fu + (z + 1 - k) = (fu + 1 + (z - (k + 1))) + 1 := by omega
      rw [e1, bhR, if_pos ho, hr (k + 1) z (d + 1) (fu + 1) hp, bhR, hz, if_neg (bF hc.2), if_pos hc.1, if_pos (by omega)]
      rfl
    · simp only [hz, if_false] at h; cases h
theorem bh_O {rec : Nat → Option Nat} {Lt : Nat} (hr : ∀ k z d fu, rec k = some z → bhR S N (fu + (z - k)) k (d + 1) = bhR S N fu z (d + 1)) (hg : ∀ k e, rec k = some e → k ≤ e) {k e d fu : Nat} (h : eoO rec S N Lt k = some e) : bhR S N (fu + (e - k)) k (d + 1) = bhR S N fu e (d + 1) := by
  unfold eoO at h
  split at h
  · rename_i c1; exact bh_B hr hg (c := 41) (by decide) (by rw [c1]; decide) h
  · split at h
    · rename_i c2; exact bh_B hr hg (c := 93) (by decide) (by rw [c2]; decide) h
    · split at h
      · rename_i c3
        split at h
        · rename_i hq
          cases h
          have e1 : fu + (k + 2 - k) = fu + 1 + 1 := by omega
          rw [e1, bh_1 (by rw [c3]; decide) (by rw [c3]; decide), bh_1 (ltr_no hq.1).1 (ltr_no hq.1).2]
        · cases h
      · split at h
        · rename_i hs
          cases h
          have e1 : fu + (k + 1 - k) = fu + 1 := by omega
          rw [e1, bh_1 (sing_no hs).2.1 (sing_no hs).2.2.1]
        · cases h
theorem bh_S {rec : Nat → Option Nat} {Lt : Nat} (hr : ∀ k z d fu, rec k = some z → bhR S N (fu + (z - k)) k (d + 1) = bhR S N fu z (d + 1)) (hg : ∀ k e, rec k = some e → k ≤ e) : ∀ n k z d fu, eoS rec S N Lt n k = some z → bhR S N (fu + (z - k)) k (d + 1) = bhR S N fu z (d + 1) := by
  intro n
  induction n with
  | zero => intro k z d fu h; cases h; rw [Nat.sub_self] <;> rfl
  | succ n ih =>
    intro k z d fu h
    have hkz := eoS_ge hg _ _ _ h
    rw [eoS_s] at h
    by_cases hc : k < N ∧ cl (sg S N k) = false
    · rw [if_pos hc] at h
      cases ho : eoO rec S N Lt (k + dgA S N k) with
      | none => rw [ho] at h; cases h
      | some e =>
        rw [ho] at h
        have h1 := eoO_gt hg ho
        have h2 := eoS_ge hg _ _ _ h
        have e1 : fu + (z - k) = fu + (z - e) + (e - (k + dgA S N k)) + dgA S N k := by omega
        rw [e1, bh_d, bh_O hr hg ho, ih e z d fu h]
    · rw [if_neg hc] at h; cases h; rw [Nat.sub_self] <;> rfl
theorem bh_D {Lt : Nat} : ∀ m k z d fu, eoD S N Lt m k = some z → bhR S N (fu + (z - k)) k (d + 1) = bhR S N fu z (d + 1) := by
  intro m
  induction m with
  | zero => intro k z d fu h; cases h
  | succ m ih => intro k z d fu h; exact bh_S ih (eoD_ge m) 60 k z d fu h
theorem bh_top {Lt kk k z : Nat} {c : Int32} (hc : cls c = true ∧ opn c = false) (ho : opn (sg S N k) = true) (h : eoS (eoD S N Lt kk) S N Lt 60 (k + 1) = some z) (hz : sg S N z = c) : bhR S N (z + 1 - k) k 0 = some (z + 1) := by
  have h1 := eoS_ge (eoD_ge kk) _ _ _ h
  have e1 : z + 1 - k = (0 + 1 + (z - (k + 1))) + 1 := by omega
  rw [e1, bhR, if_pos ho, bh_S (bh_D kk) (eoD_ge kk) 60 (k + 1) z 0 (0 + 1) h, bhR, hz, if_neg (bF hc.2), if_pos hc.1, if_neg (by omega)]
end EO
theorem gO_of {TS : Nat → Nat → Int32} {TN : Nat → Nat} {t f : Nat} (hf : f < TN t) (hcl : cl (sg (TS t) (TN t) f) = false) (hch : sg (TS t) (TN t) (f + dgA (TS t) (TN t) f) = 40 ∨ sg (TS t) (TN t) (f + dgA (TS t) (TN t) f) = 91 ∨ sg (TS t) (TN t) (f + dgA (TS t) (TN t) f) = 64 ∨ sing (sg (TS t) (TN t) (f + dgA (TS t) (TN t) f)) = true) : oB TS TN t f := by
  have h1 := of_decide_eq_false hcl
  refine ⟨hf, fun q => ?_, fun q => h1 (Or.inl q), fun q => h1 (Or.inr q), (ch_no hch).1⟩
  have hd : dgA (TS t) (TN t) f = 0 := by unfold dgA; rw [q]; rfl
  rw [hd] at hch
  exact (ch_no hch).2.1 q
theorem pfO_lt {rec : (Nat → Int32) → Nat → Nat → Nat → PT → Bool × PT} {MS : Nat → Nat → Int32} {MN : Nat → Nat} {S : Nat → Int32} {N k e : Nat} {P : PT} (h : P.2.2.2.2.1 < 400) : pfO rec MS MN S N k e P = (if sg S N k = 40 then ((rec S N (k + 1) (e - 1) (bmp P)).1, rs (bmp P) (rec S N (k + 1) (e - 1) (bmp P)).2)
       else if sg S N k = 64 then (if ¬ sg S N (k + 1) - 97 < 0 ∧ sg S N (k + 1) - 97 < 4 then rec (MS (sg S N (k + 1) - 97).toNatClampNeg) (MN (sg S N (k + 1) - 97).toNatClampNeg) 0 (MN (sg S N (k + 1) - 97).toNatClampNeg) (bmp P) else (false, bmp P))
       else if sg S N k = 91 then rec S N (k + 1) (e - 1) (bmp P)
       else obX (sg S N k) (bmp P)) := by
  obtain ⟨c, r, d, u, o, F0, F1, F2⟩ := P
  exact if_pos h
theorem pfO_ge {rec : (Nat → Int32) → Nat → Nat → Nat → PT → Bool × PT} {MS : Nat → Nat → Int32} {MN : Nat → Nat} {S : Nat → Int32} {N k e : Nat} {P : PT} (h : ¬ P.2.2.2.2.1 < 400) : pfO rec MS MN S N k e P = (false, P) := by
  obtain ⟨c, r, d, u, o, F0, F1, F2⟩ := P
  exact if_neg h
