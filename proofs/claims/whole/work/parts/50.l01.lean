set_option maxRecDepth 100000 in
set_option maxHeartbeats 4000000 in
theorem u9back {p : Program} {l : Launch} {e : Env} {s : State} {m : MethodId} {args : Array Value} {below : List Frame} {meth : Method} {c : Code} {Q : State → Prop} {D : va_G} {tc : Nat → ClassId} {A : Nat → Prop} {b L : Nat} {xs : Nat → Int32} (C : Cx p s m args meth c D tc A 8 b_L_law "SuggestDeskLaw") (Z : Zl l s A) (hX : Sx b L xs s A) (hL : L ≤ 2560) {ws : va_W} {kc ks q qx qy q_out : Nat} (k : Go p l e { frames := 10, cells := 601024, slots := 7293034, locals := 354 } s m args below meth c Q D A 8 kc ks ws [(0, .ref b), (1, .ref qx), (2, .ref qy), (3, .ref q_out), (4, .int (u9qi (5 * (q + 1))))] 23 []) : Go p l e { frames := 10, cells := 601024, slots := 7293034, locals := 354 } s m args below meth c Q D A 8 kc ks ws [(0, .ref b), (1, .ref qx), (2, .ref qy), (3, .ref q_out), (4, .int (u9qi (5 * q)))] 1330 [] := by
  refine go_iinc C d_L_law_1330 4 rfl (v := u9qi (5 * (q + 1))) (u9i5 q) (lv' := [(4, .int (u9qi (5 * (q + 1)))), (0, .ref b), (1, .ref qx), (2, .ref qy), (3, .ref q_out)]) (by decide) rfl (n := 1333) rfl ?_
  refine go_goto C d_L_law_1333 (tgt := 23) (by decide) ?_
  exact go_lv (lv' := [(0, .ref b), (1, .ref qx), (2, .ref qy), (3, .ref q_out), (4, .int (u9qi (5 * (q + 1))))]) [1, 2, 3, 4, 0] rfl k

