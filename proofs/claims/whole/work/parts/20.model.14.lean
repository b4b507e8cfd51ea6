def f_M_lesser (a0 : Int32) (a1 : Int32) : Option (Int32) :=
  if a1 ≤ a0 then some a1 else some a0
set_option maxRecDepth 100000 in
set_option maxHeartbeats 4000000 in
theorem c_M_lesser (l : Launch) (D : va_G) (tc : Nat → ClassId) (a0 : Int32) (a1 : Int32) {o : (Int32)} (hf : f_M_lesser a0 a1 = some o) (POST : Option Value → va_W → Prop) (hPOST : POST (some (.int o)) []) : Std l y_M_lesser (.code y_M_lesser b_M_lesser 2 (some .int)) { frames := 0, cells := 0, slots := 0, locals := 0 } D tc [.int a0, .int a1] [] 0 0 POST := by
  refine std_of (lv := [(0, .int a0), (1, .int a1)]) (by decide) (Nat.le_of_ble_eq_true rfl) rfl (fun p e s m args below meth c A C hr hnm => ?_)
  unfold f_M_lesser at hf
  refine go_iload_n C d_M_lesser_0 rfl 0 rfl (n := 1) rfl ?_
  refine go_iload_n C d_M_lesser_1 rfl 1 rfl (n := 2) rfl ?_
  have hi2 := iteS hf
  refine go_icmp_ge C d_M_lesser_2 (tgt := 9) (by decide) (n := 5) rfl (fun h2 => ?_) (fun h2 => ?_)
  · have hf := hi2.1 h2
    refine go_iload_n C d_M_lesser_9 rfl 1 rfl (n := 10) rfl ?_
    cases hf
    exact go_iret C d_M_lesser_10 hr hPOST
  · have hf := hi2.2 h2
    refine go_iload_n C d_M_lesser_5 rfl 0 rfl (n := 6) rfl ?_
    refine go_goto C d_M_lesser_6 (tgt := 10) (by decide) ?_
    cases hf
    exact go_iret C d_M_lesser_10 hr hPOST
