set_option maxRecDepth 100000 in
set_option maxHeartbeats 4000000 in
theorem c_Pe_obeyX {l : Launch} {b : Nat} {D : va_G} {ta : Nat → ClassId} {σ : List va_E} {p g h t w : Nat} (H : pW b σ p g h t w) {c r : Int32} {d : Nat} {u : Bool} {o : Nat} {F0 F1 F2 : Nat → Int32} (hd : d < 4) {ch : Int32} (hs : sing ch = true) : jC l b D ta False y_Pe_obey b_Pe_obey 2 (some .boolean) (rL 5) [.ref (b + p), .int ch] (pS b ta σ p g h t w c r d u o F0 F1 F2) (some (.int (bI (obX ch (c, r, d, u, o, F0, F1, F2)).1))) (pS b ta σ p g h t w (obX ch (c, r, d, u, o, F0, F1, F2)).2.1 (obX ch (c, r, d, u, o, F0, F1, F2)).2.2.1 (obX ch (c, r, d, u, o, F0, F1, F2)).2.2.2.1 (obX ch (c, r, d, u, o, F0, F1, F2)).2.2.2.2.1 (obX ch (c, r, d, u, o, F0, F1, F2)).2.2.2.2.2.1 (obX ch (c, r, d, u, o, F0, F1, F2)).2.2.2.2.2.2.1 (obX ch (c, r, d, u, o, F0, F1, F2)).2.2.2.2.2.2.2.1 (obX ch (c, r, d, u, o, F0, F1, F2)).2.2.2.2.2.2.2.2) := by
  have hq := of_decide_eq_true hs
  rcases hq with hq | hq | hq | hq | hq | hq | hq | hq | hq
  · subst hq
    cases hin : inF (cA c d 1 0) (rA r d 1 0) with
    | false => rw [show obX 70 (c, r, d, u, o, F0, F1, F2) = (false, (c, r, d, u, o, F0, F1, F2)) from if_neg (bF hin)]; exact c_Pe_obey_F_f H hd hin
    | true => rw [show obX 70 (c, r, d, u, o, F0, F1, F2) = (true, (cA c d 1 0, rA r d 1 0, d, u, o, mkB u F0 (cA (cA c d 1 0) d 0 0) (rA (rA r d 1 0) d 0 0) 1, mkB u F1 (cA (cA c d 1 0) d 0 0) (rA (rA r d 1 0) d 0 0) 2, mkB u F2 (cA (cA c d 1 0) d 0 0) (rA (rA r d 1 0) d 0 0) 3)) from if_pos hin]; exact c_Pe_obey_F_t H hd hin
  · subst hq
    cases hin : inF (cA c d (-1) 0) (rA r d (-1) 0) with
    | false => rw [show obX 66 (c, r, d, u, o, F0, F1, F2) = (false, (c, r, d, u, o, F0, F1, F2)) from if_neg (bF hin)]; exact c_Pe_obey_B_f H hd hin
    | true => rw [show obX 66 (c, r, d, u, o, F0, F1, F2) = (true, (cA c d (-1) 0, rA r d (-1) 0, d, u, o, F0, F1, F2)) from if_pos hin]; exact c_Pe_obey_B_t H hd hin
  · subst hq
    rw [show obX 82 (c, r, d, u, o, F0, F1, F2) = (true, (c, r, (d + 1) % 4, u, o, F0, F1, F2)) from rfl]; exact c_Pe_obey_R H hd
  · subst hq
    rw [show obX 76 (c, r, d, u, o, F0, F1, F2) = (true, (c, r, (d + 3) % 4, u, o, F0, F1, F2)) from rfl]; exact c_Pe_obey_L H hd
  · subst hq
    rw [show obX 85 (c, r, d, u, o, F0, F1, F2) = (true, (c, r, d, false, o, F0, F1, F2)) from rfl]; exact c_Pe_obey_U H hd
  · subst hq
    rw [show obX 68 (c, r, d, u, o, F0, F1, F2) = (true, (c, r, d, true, o, F0, F1, F2)) from rfl]; exact c_Pe_obey_D H hd
  · subst hq
    rw [show obX 69 (c, r, d, u, o, F0, F1, F2) = (true, (c, r, d, u, o, if fVal (pB F0 c r 1 1) (pB F1 c r 1 2) (pB F2 c r 1 3) (cA c d (-1) 0) (rA r d (-1) 0) = 3 then pB (pB F0 c r 1 1) (cA c d (-1) 0) (rA r d (-1) 0) 2 1 else pB F0 c r 1 1, if fVal (pB F0 c r 1 1) (pB F1 c r 1 2) (pB F2 c r 1 3) (cA c d (-1) 0) (rA r d (-1) 0) = 3 then pB (pB F1 c r 1 2) (cA c d (-1) 0) (rA r d (-1) 0) 2 2 else pB F1 c r 1 2, if fVal (pB F0 c r 1 1) (pB F1 c r 1 2) (pB F2 c r 1 3) (cA c d (-1) 0) (rA r d (-1) 0) = 3 then pB (pB F2 c r 1 3) (cA c d (-1) 0) (rA r d (-1) 0) 2 3 else pB F2 c r 1 3)) from rfl]; exact c_Pe_obey_E H hd
  · subst hq
    rw [show obX 87 (c, r, d, u, o, F0, F1, F2) = (true, (c, r, d, u, o, pB F0 c r 0 1, pB F1 c r 0 2, pB F2 c r 0 3)) from rfl]; exact c_Pe_obey_W H hd
  · subst hq
    cases hin : (inF (cA c d 4 0) (rA r d 4 0) && (inF (cA c d 2 (-1)) (rA r d 2 (-1)) && inF (cA c d 2 1) (rA r d 2 1))) with
    | false => rw [show obX 60 (c, r, d, u, o, F0, F1, F2) = (false, (c, r, d, u, o, F0, F1, F2)) from if_neg (bF hin)]; exact c_Pe_obey_S_f H hd hin
    | true => rw [show obX 60 (c, r, d, u, o, F0, F1, F2) = (true, (cA c d 4 0, rA r d 4 0, d, u, o, mkB u (mkB u (mkB u (mkB u (mkB u (mkB u (mkB u F0 (cA c d 1 0) (rA r d 1 0) 1) (cA c d 2 (-1)) (rA r d 2 (-1)) 1) (cA c d 2 1) (rA r d 2 1) 1) (cA c d 3 (-1)) (rA r d 3 (-1)) 1) (cA c d 3 0) (rA r d 3 0) 1) (cA c d 3 1) (rA r d 3 1) 1) (cA c d 4 0) (rA r d 4 0) 1, mkB u (mkB u (mkB u (mkB u (mkB u (mkB u (mkB u F1 (cA c d 1 0) (rA r d 1 0) 2) (cA c d 2 (-1)) (rA r d 2 (-1)) 2) (cA c d 2 1) (rA r d 2 1) 2) (cA c d 3 (-1)) (rA r d 3 (-1)) 2) (cA c d 3 0) (rA r d 3 0) 2) (cA c d 3 1) (rA r d 3 1) 2) (cA c d 4 0) (rA r d 4 0) 2, mkB u (mkB u (mkB u (mkB u (mkB u (mkB u (mkB u F2 (cA c d 1 0) (rA r d 1 0) 3) (cA c d 2 (-1)) (rA r d 2 (-1)) 3) (cA c d 2 1) (rA r d 2 1) 3) (cA c d 3 (-1)) (rA r d 3 (-1)) 3) (cA c d 3 0) (rA r d 3 0) 3) (cA c d 3 1) (rA r d 3 1) 3) (cA c d 4 0) (rA r d 4 0) 3)) from if_pos hin]; simp only [Bool.and_eq_true] at hin; exact c_Pe_obey_S_t H hd hin.1 hin.2.1 hin.2.2
