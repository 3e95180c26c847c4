
/-! the reference's generation -/
def gsT (sx sy : Nat → Int32) (pt : Nat → Int64) (mn : Nat → Int32) (k : Nat) : (Nat → Int32) × (Nat → Int32) × (Nat → Int32) → (Nat → Int32) × (Nat → Int32) × (Nat → Int32)
  | (G0, G2, q) => if lg_cmp ((pt k >>> ((q k).toInt64 &&& 63)) &&& 1) 1 = 0 ∧ ¬ G2 (sy k).toNatClampNeg &&& (1 <<< (sx k &&& 31)) = 0 then
      (upd G0 (sy k).toNatClampNeg (G0 (sy k).toNatClampNeg ||| (1 <<< (sx k &&& 31))), upd G2 (sy k).toNatClampNeg (G2 (sy k).toNatClampNeg &&& ((1 <<< (sx k &&& 31)) ^^^ (-1))), upd q k (q k + 1 - (q k + 1) / mn k * mn k))
    else (G0, G2, upd q k (q k + 1 - (q k + 1) / mn k * mn k))
def gsS (sx sy : Nat → Int32) (pt : Nat → Int64) (mn : Nat → Int32) (s : (Nat → Int32) × (Nat → Int32) × (Nat → Int32)) : Nat → (Nat → Int32) × (Nat → Int32) × (Nat → Int32)
  | 0 => s
  | k + 1 => gsT sx sy pt mn k (gsS sx sy pt mn s k)
def hcF (HH F : Nat → Int32) : Nat → Nat → Int32
  | 0 => HH
  | r + 1 => upd (hcF HH F r) r (F r)
def nsS (HH : Nat → Int32) (s : (Nat → Int32) × (Nat → Int32) × (Nat → Int32)) : Nat → (Nat → Int32) × (Nat → Int32) × (Nat → Int32)
  | 0 => s
  | r + 1 => (upd (nsS HH s r).1 r ((nsS HH s r).2.2 r &&& litF HH r), upd (nsS HH s r).2.1 r ((nsS HH s r).1 r), upd (nsS HH s r).2.2 r (((nsS HH s r).2.2 r &&& (((nsS HH s r).2.2 r &&& litF HH r) ^^^ (-1))) ||| (nsS HH s r).2.1 r))
def pbT (px py F : Nat → Int32) (t : Int32) (k : Nat) : (Nat → Int64) × (Nat → Int32) × (Nat → Int32) → (Nat → Int64) × (Nat → Int32) × (Nat → Int32)
  | (rc, sn, lt) => if btR (F (py k).toNatClampNeg) (px k) = 1 then (vp_updL rc k (rc k * 2 + (btR (F (py k).toNatClampNeg) (px k)).toInt64), upd sn k (sn k + btR (F (py k).toNatClampNeg) (px k)), upd lt k t)
    else (vp_updL rc k (rc k * 2 + (btR (F (py k).toNatClampNeg) (px k)).toInt64), upd sn k (sn k + btR (F (py k).toNatClampNeg) (px k)), upd lt k (lt k))
def pbS (px py F : Nat → Int32) (t : Int32) (s : (Nat → Int64) × (Nat → Int32) × (Nat → Int32)) : Nat → (Nat → Int64) × (Nat → Int32) × (Nat → Int32)
  | 0 => s
  | k + 1 => pbT px py F t k (pbS px py F t s k)
/-- what a generation changes: field, heads, kept, kept places, at, history, time, places, records, counts, latest -/
abbrev RT : Type := ((Nat → Int32) × (Nat → Int32) × (Nat → Int32)) × (Nat → Int32) × (Nat → Int32) × (Nat → Int32) × Nat × Nat × Nat × (Nat → Int32) × ((Nat → Int64) × (Nat → Int32) × (Nat → Int32))
def gRs (sN : Nat) (sx sy : Nat → Int32) (pt : Nat → Int64) (mn : Nat → Int32) (g : RT) := gsS sx sy pt mn (g.1.1, g.1.2.2, g.2.2.2.2.2.2.2.1) sN
def gRh (sN : Nat) (sx sy : Nat → Int32) (pt : Nat → Int64) (mn : Nat → Int32) (g : RT) := hcF g.2.1 (gRs sN sx sy pt mn g).1 24
def gRn (sN : Nat) (sx sy : Nat → Int32) (pt : Nat → Int64) (mn : Nat → Int32) (g : RT) := nsS (gRh sN sx sy pt mn g) ((gRs sN sx sy pt mn g).1, g.1.2.1, (gRs sN sx sy pt mn g).2.1) 24
def genR (sN pN : Nat) (sx sy : Nat → Int32) (pt : Nat → Int64) (mn px py : Nat → Int32) (g : RT) : RT :=
  (gRn sN sx sy pt mn g, gRh sN sx sy pt mn g, ktF g.2.2.1 g.2.2.2.2.1 g.1.1 g.1.2.1 g.1.2.2 24, kpF g.2.2.2.1 g.2.2.2.2.1 g.2.2.2.2.2.2.2.1 4, (g.2.2.2.2.1 + 1) % 16, khi g.2.2.2.2.2.1, g.2.2.2.2.2.2.1 + 1, (gRs sN sx sy pt mn g).2.2, pbS px py (gRn sN sx sy pt mn g).1 (nI (g.2.2.2.2.2.2.1 + 1)) g.2.2.2.2.2.2.2.2 pN)
def genRN (sN pN : Nat) (sx sy : Nat → Int32) (pt : Nat → Int64) (mn px py : Nat → Int32) (g : RT) : Nat → RT
  | 0 => g
  | n + 1 => genR sN pN sx sy pt mn px py (genRN sN pN sx sy pt mn px py g n)
theorem genRN_i {sN pN : Nat} {sx sy : Nat → Int32} {pt : Nat → Int64} {mn px py : Nat → Int32} {g : RT} (h : g.2.2.2.2.1 < 16 ∧ g.2.2.2.2.2.1 ≤ 16) : ∀ n, (genRN sN pN sx sy pt mn px py g n).2.2.2.2.1 < 16 ∧ (genRN sN pN sx sy pt mn px py g n).2.2.2.2.2.1 ≤ 16 := by
  intro n
  cases n with
  | zero => exact h
  | succ n =>
    refine ⟨Nat.mod_lt _ (by decide), ?_⟩
    show khi _ ≤ 16
    unfold khi
    split <;> omega
theorem inF_y {c r : Int32} (h : inF c r = true) : vp_in r 24 := inF_in h
/-! taken back -/
def bk1 (kt : Nat → Int32) (A : Nat) (F : Nat → Int32) : Nat → Nat → Int32
  | 0 => F
  | r + 1 => upd (bk1 kt A F r) r (kt (72 * A + r))
def bk2 (kt : Nat → Int32) (A : Nat) (F : Nat → Int32) : Nat → Nat → Int32
  | 0 => F
  | r + 1 => upd (bk2 kt A F r) r (kt (72 * A + 24 + r))
def bk3 (kt : Nat → Int32) (A : Nat) (F : Nat → Int32) : Nat → Nat → Int32
  | 0 => F
  | r + 1 => upd (bk3 kt A F r) r (kt (72 * A + 48 + r))
def bkp (kp : Nat → Int32) (A : Nat) (pl : Nat → Int32) : Nat → Nat → Int32
  | 0 => pl
  | k + 1 => upd (bkp kp A pl k) k (kp (4 * A + k))
def smR (kt : Nat → Int32) (A : Nat) (F0 F1 F2 : Nat → Int32) : Nat → Bool
  | 0 => true
  | r + 1 => smR kt A F0 F1 F2 r && (decide (kt (72 * A + r) = F0 r) && (decide (kt (72 * A + 24 + r) = F1 r) && decide (kt (72 * A + 48 + r) = F2 r)))
def pdR (kt : Nat → Int32) (a : Nat) (F0 F1 F2 : Nat → Int32) : Nat → Nat → Nat
  | 0, _ => 0
  | n + 1, p => if smR kt ((a + 16 - p) % 16) F0 F1 F2 24 = true then p else pdR kt a F0 F1 F2 n (p + 1)
def lkR (F0 F1 F2 : Nat → Int32) (tm hi sN pN : Nat) (z v : Int32) : Int32 := if 4 ≤ v then (if v = 4 then nI hi else if v = 5 then nI sN else if v = 6 then nI pN else if v = 7 then z else -1) else (if v = 0 then nI tm else if v ≤ 0 then -1 else cntR (selF F0 F1 F2 v) 768)
