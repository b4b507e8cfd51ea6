set_option maxRecDepth 100000 in
set_option maxHeartbeats 4000000 in
theorem c_Automaton_init (l : Launch) (D : va_G) (tc : Nat → ClassId) (qt : Nat) (POST : Option Value → va_W → Prop) (hPOST : ∀ (n8_1 : Nat) (n17_2 : Nat) (n26_3 : Nat) (n35_4 : Nat), POST none [(qt, .inr (0, [.ref n8_1, .ref n17_2, .ref n26_3, .ref n35_4, .int (0 : Int32), .int (0 : Int32)])), (n8_1, .inl (tc 0, 193, .inl (fun _ => 0))), (n17_2, .inl (tc 0, 193, .inl (fun _ => 0))), (n26_3, .inl (tc 0, 193, .inl (fun _ => 0))), (n35_4, .inl (tc 0, 193, .inl (fun _ => 0)))]) : Std l y_Automaton_init (.code y_Automaton_init b_Automaton_init 1 none) { frames := 1, cells := 4, slots := 772, locals := 16 } D tc [.ref qt] [(qt, .inr (0, [.null, .null, .null, .null, .int (0 : Int32), .int (0 : Int32)]))] 4 772 POST := by
  refine std_of (lv := [(0, .ref qt)]) (by decide) (Nat.le_of_ble_eq_true rfl) rfl (fun p e s m args below meth c A C hr hnm => ?_)
  refine go_aload_n C d_Automaton_init_0 rfl 0 rfl (n := 1) rfl ?_
  refine go_objInit C d_Automaton_init_1 oi_Automaton_3 (Nat.le_of_ble_eq_true rfl) (Nat.le_of_ble_eq_true rfl) (n := 4) rfl ?_
  refine go_aload_n C d_Automaton_init_4 rfl 0 rfl (n := 5) rfl ?_
  refine go_sipush C (v := 193) d_Automaton_init_5 rfl (n := 8) rfl ?_
  refine go_newaI C d_Automaton_init_8 wa_int (by decide) (N := 193) rfl (by decide) (by decide) (by decide) (n := 10) rfl (fun n8_1 => ?_)
  refine go_eq (ws' := [(qt, .inr (0, [.null, .null, .null, .null, .int (0 : Int32), .int (0 : Int32)])), (n8_1, .inl (tc 0, 193, .inl (fun _ => 0)))]) rfl rfl rfl ?_
  refine go_putF C (hnm.trans rfl) d_Automaton_init_10 ff_Automaton_11 (fs_Automaton 0) rfl rfl rfl rfl 0 rfl (Nat.le_of_ble_eq_true rfl) (n := 13) rfl ?_
  refine go_aload_n C d_Automaton_init_13 rfl 0 rfl (n := 14) rfl ?_
  refine go_sipush C (v := 193) d_Automaton_init_14 rfl (n := 17) rfl ?_
  refine go_newaI C d_Automaton_init_17 wa_int (by decide) (N := 193) rfl (by decide) (by decide) (by decide) (n := 19) rfl (fun n17_2 => ?_)
  refine go_eq (ws' := [(qt, .inr (0, [.ref n8_1, .null, .null, .null, .int (0 : Int32), .int (0 : Int32)])), (n8_1, .inl (tc 0, 193, .inl (fun _ => 0))), (n17_2, .inl (tc 0, 193, .inl (fun _ => 0)))]) rfl rfl rfl ?_
  refine go_putF C (hnm.trans rfl) d_Automaton_init_19 ff_Automaton_15 (fs_Automaton 1) rfl rfl rfl rfl 0 rfl (Nat.le_of_ble_eq_true rfl) (n := 22) rfl ?_
  refine go_aload_n C d_Automaton_init_22 rfl 0 rfl (n := 23) rfl ?_
  refine go_sipush C (v := 193) d_Automaton_init_23 rfl (n := 26) rfl ?_
  refine go_newaI C d_Automaton_init_26 wa_int (by decide) (N := 193) rfl (by decide) (by decide) (by decide) (n := 28) rfl (fun n26_3 => ?_)
  refine go_eq (ws' := [(qt, .inr (0, [.ref n8_1, .ref n17_2, .null, .null, .int (0 : Int32), .int (0 : Int32)])), (n8_1, .inl (tc 0, 193, .inl (fun _ => 0))), (n17_2, .inl (tc 0, 193, .inl (fun _ => 0))), (n26_3, .inl (tc 0, 193, .inl (fun _ => 0)))]) rfl rfl rfl ?_
  refine go_putF C (hnm.trans rfl) d_Automaton_init_28 ff_Automaton_18 (fs_Automaton 2) rfl rfl rfl rfl 0 rfl (Nat.le_of_ble_eq_true rfl) (n := 31) rfl ?_
  refine go_aload_n C d_Automaton_init_31 rfl 0 rfl (n := 32) rfl ?_
  refine go_sipush C (v := 193) d_Automaton_init_32 rfl (n := 35) rfl ?_
  refine go_newaI C d_Automaton_init_35 wa_int (by decide) (N := 193) rfl (by decide) (by decide) (by decide) (n := 37) rfl (fun n35_4 => ?_)
  refine go_eq (ws' := [(qt, .inr (0, [.ref n8_1, .ref n17_2, .ref n26_3, .null, .int (0 : Int32), .int (0 : Int32)])), (n8_1, .inl (tc 0, 193, .inl (fun _ => 0))), (n17_2, .inl (tc 0, 193, .inl (fun _ => 0))), (n26_3, .inl (tc 0, 193, .inl (fun _ => 0))), (n35_4, .inl (tc 0, 193, .inl (fun _ => 0)))]) rfl rfl rfl ?_
  refine go_putF C (hnm.trans rfl) d_Automaton_init_37 ff_Automaton_21 (fs_Automaton 3) rfl rfl rfl rfl 0 rfl (Nat.le_of_ble_eq_true rfl) (n := 40) rfl ?_
  refine go_aload_n C d_Automaton_init_40 rfl 0 rfl (n := 41) rfl ?_
  refine go_iconst C (v := 0) d_Automaton_init_41 rfl (n := 42) rfl ?_
  refine go_put C d_Automaton_init_42 fl_Automaton_24 (fs_Automaton 4) rfl rfl rfl 0 rfl (Nat.le_of_ble_eq_true rfl) (n := 45) rfl ?_
  refine go_eq (ws' := [(qt, .inr (0, [.ref n8_1, .ref n17_2, .ref n26_3, .ref n35_4, .int (0 : Int32), .int (0 : Int32)])), (n8_1, .inl (tc 0, 193, .inl (fun _ => 0))), (n17_2, .inl (tc 0, 193, .inl (fun _ => 0))), (n26_3, .inl (tc 0, 193, .inl (fun _ => 0))), (n35_4, .inl (tc 0, 193, .inl (fun _ => 0)))]) rfl rfl rfl ?_
  refine go_aload_n C d_Automaton_init_45 rfl 0 rfl (n := 46) rfl ?_
  refine go_iconst C (v := 0) d_Automaton_init_46 rfl (n := 47) rfl ?_
  refine go_put C d_Automaton_init_47 fl_Automaton_28 (fs_Automaton 5) rfl rfl rfl 0 rfl (Nat.le_of_ble_eq_true rfl) (n := 50) rfl ?_
  refine go_eq (ws' := [(qt, .inr (0, [.ref n8_1, .ref n17_2, .ref n26_3, .ref n35_4, .int (0 : Int32), .int (0 : Int32)])), (n8_1, .inl (tc 0, 193, .inl (fun _ => 0))), (n17_2, .inl (tc 0, 193, .inl (fun _ => 0))), (n26_3, .inl (tc 0, 193, .inl (fun _ => 0))), (n35_4, .inl (tc 0, 193, .inl (fun _ => 0)))]) rfl rfl rfl ?_
  exact go_vret C d_Automaton_init_50 hr (hPOST n8_1 n17_2 n26_3 n35_4)

set_option maxRecDepth 100000 in
set_option maxHeartbeats 4000000 in
theorem c_Pairs_init (l : Launch) (D : va_G) (tc : Nat → ClassId) (qt : Nat) (POST : Option Value → va_W → Prop) (hPOST : ∀ (n7_1 : Nat) (n15_2 : Nat) (n23_3 : Nat), POST none [(qt, .inr (2, [.ref n7_1, .ref n15_2, .ref n23_3, .int (0 : Int32)])), (n7_1, .inl (tc 1, 40, .inr (.inl (fun _ => 0)))), (n15_2, .inl (tc 1, 40, .inr (.inl (fun _ => 0)))), (n23_3, .inl (tc 0, 40, .inl (fun _ => 0)))]) : Std l y_Pairs_init (.code y_Pairs_init b_Pairs_init 1 none) { frames := 1, cells := 3, slots := 120, locals := 16 } D tc [.ref qt] [(qt, .inr (2, [.null, .null, .null, .int (0 : Int32)]))] 3 120 POST := by
  refine std_of (lv := [(0, .ref qt)]) (by decide) (Nat.le_of_ble_eq_true rfl) rfl (fun p e s m args below meth c A C hr hnm => ?_)
  refine go_aload_n C d_Pairs_init_0 rfl 0 rfl (n := 1) rfl ?_
  refine go_objInit C d_Pairs_init_1 oi_Pairs_3 (Nat.le_of_ble_eq_true rfl) (Nat.le_of_ble_eq_true rfl) (n := 4) rfl ?_
  refine go_aload_n C d_Pairs_init_4 rfl 0 rfl (n := 5) rfl ?_
  refine go_bipush C (v := 40) d_Pairs_init_5 rfl (n := 7) rfl ?_
  refine go_newaJ C d_Pairs_init_7 wa_long (by decide) (N := 40) rfl (by decide) (by decide) (by decide) (n := 9) rfl (fun n7_1 => ?_)
  refine go_eq (ws' := [(qt, .inr (2, [.null, .null, .null, .int (0 : Int32)])), (n7_1, .inl (tc 1, 40, .inr (.inl (fun _ => 0))))]) rfl rfl rfl ?_
  refine go_putF C (hnm.trans rfl) d_Pairs_init_9 ff_Pairs_9 (fs_Pairs 0) rfl rfl rfl rfl 0 rfl (Nat.le_of_ble_eq_true rfl) (n := 12) rfl ?_
  refine go_aload_n C d_Pairs_init_12 rfl 0 rfl (n := 13) rfl ?_
  refine go_bipush C (v := 40) d_Pairs_init_13 rfl (n := 15) rfl ?_
  refine go_newaJ C d_Pairs_init_15 wa_long (by decide) (N := 40) rfl (by decide) (by decide) (by decide) (n := 17) rfl (fun n15_2 => ?_)
  refine go_eq (ws' := [(qt, .inr (2, [.ref n7_1, .null, .null, .int (0 : Int32)])), (n7_1, .inl (tc 1, 40, .inr (.inl (fun _ => 0)))), (n15_2, .inl (tc 1, 40, .inr (.inl (fun _ => 0))))]) rfl rfl rfl ?_
  refine go_putF C (hnm.trans rfl) d_Pairs_init_17 ff_Pairs_15 (fs_Pairs 1) rfl rfl rfl rfl 0 rfl (Nat.le_of_ble_eq_true rfl) (n := 20) rfl ?_
  refine go_aload_n C d_Pairs_init_20 rfl 0 rfl (n := 21) rfl ?_
  refine go_bipush C (v := 40) d_Pairs_init_21 rfl (n := 23) rfl ?_
  refine go_newaI C d_Pairs_init_23 wa_int (by decide) (N := 40) rfl (by decide) (by decide) (by decide) (n := 25) rfl (fun n23_3 => ?_)
  refine go_eq (ws' := [(qt, .inr (2, [.ref n7_1, .ref n15_2, .null, .int (0 : Int32)])), (n7_1, .inl (tc 1, 40, .inr (.inl (fun _ => 0)))), (n15_2, .inl (tc 1, 40, .inr (.inl (fun _ => 0)))), (n23_3, .inl (tc 0, 40, .inl (fun _ => 0)))]) rfl rfl rfl ?_
  refine go_putF C (hnm.trans rfl) d_Pairs_init_25 ff_Pairs_18 (fs_Pairs 2) rfl rfl rfl rfl 0 rfl (Nat.le_of_ble_eq_true rfl) (n := 28) rfl ?_
  refine go_aload_n C d_Pairs_init_28 rfl 0 rfl (n := 29) rfl ?_
  refine go_iconst C (v := 0) d_Pairs_init_29 rfl (n := 30) rfl ?_
  refine go_put C d_Pairs_init_30 fl_Pairs_22 (fs_Pairs 3) rfl rfl rfl 0 rfl (Nat.le_of_ble_eq_true rfl) (n := 33) rfl ?_
  refine go_eq (ws' := [(qt, .inr (2, [.ref n7_1, .ref n15_2, .ref n23_3, .int (0 : Int32)])), (n7_1, .inl (tc 1, 40, .inr (.inl (fun _ => 0)))), (n15_2, .inl (tc 1, 40, .inr (.inl (fun _ => 0)))), (n23_3, .inl (tc 0, 40, .inl (fun _ => 0)))]) rfl rfl rfl ?_
  exact go_vret C d_Pairs_init_33 hr (hPOST n7_1 n15_2 n23_3)

set_option maxRecDepth 100000 in
set_option maxHeartbeats 4000000 in
theorem c_Phrase_init (l : Launch) (D : va_G) (tc : Nat → ClassId) (qt : Nat) (POST : Option Value → va_W → Prop) (hPOST : ∀ (n6_1 : Nat) (n13_2 : Nat) (n22_3 : Nat) (rn22_3 : Nat → Nat) (n33_4 : Nat) (rn33_4 : Nat → Nat) (n44_5 : Nat) (rn44_5 : Nat → Nat) (n53_6 : Nat), POST none [(qt, .inr (3, [.ref n6_1, .ref n13_2, .ref n22_3, .ref n33_4, .ref n44_5, .ref n53_6, .int (0 : Int32), .int (0 : Int32)])), (n6_1, .inl (tc 1, 4, .inr (.inl (fun _ => 0)))), (n13_2, .inl (tc 1, 4, .inr (.inl (fun _ => 0)))), (n22_3, .inl (tc 4, 4, .inr (.inr (.inr (.inr (fun i => some (rn22_3 i))))))), (rn22_3 0, .inl (tc 1, 24, .inr (.inl ((fun _ _ => 0) 0)))), (rn22_3 1, .inl (tc 1, 24, .inr (.inl ((fun _ _ => 0) 1)))), (rn22_3 2, .inl (tc 1, 24, .inr (.inl ((fun _ _ => 0) 2)))), (rn22_3 3, .inl (tc 1, 24, .inr (.inl ((fun _ _ => 0) 3)))), (n33_4, .inl (tc 3, 4, .inr (.inr (.inr (.inr (fun i => some (rn33_4 i))))))), (rn33_4 0, .inl (tc 0, 24, .inl ((fun _ _ => 0) 0))), (rn33_4 1, .inl (tc 0, 24, .inl ((fun _ _ => 0) 1))), (rn33_4 2, .inl (tc 0, 24, .inl ((fun _ _ => 0) 2))), (rn33_4 3, .inl (tc 0, 24, .inl ((fun _ _ => 0) 3))), (n44_5, .inl (tc 3, 4, .inr (.inr (.inr (.inr (fun i => some (rn44_5 i))))))), (rn44_5 0, .inl (tc 0, 24, .inl ((fun _ _ => 0) 0))), (rn44_5 1, .inl (tc 0, 24, .inl ((fun _ _ => 0) 1))), (rn44_5 2, .inl (tc 0, 24, .inl ((fun _ _ => 0) 2))), (rn44_5 3, .inl (tc 0, 24, .inl ((fun _ _ => 0) 3))), (n53_6, .inl (tc 0, 4, .inl (fun _ => 0)))]) : Std l y_Phrase_init (.code y_Phrase_init b_Phrase_init 1 none) { frames := 1, cells := 18, slots := 312, locals := 16 } D tc [.ref qt] [(qt, .inr (3, [.null, .null, .null, .null, .null, .null, .int (0 : Int32), .int (0 : Int32)]))] 18 312 POST := by
  refine std_of (lv := [(0, .ref qt)]) (by decide) (Nat.le_of_ble_eq_true rfl) rfl (fun p e s m args below meth c A C hr hnm => ?_)
  refine go_aload_n C d_Phrase_init_0 rfl 0 rfl (n := 1) rfl ?_
  refine go_objInit C d_Phrase_init_1 oi_Phrase_3 (Nat.le_of_ble_eq_true rfl) (Nat.le_of_ble_eq_true rfl) (n := 4) rfl ?_
  refine go_aload_n C d_Phrase_init_4 rfl 0 rfl (n := 5) rfl ?_
  refine go_iconst C (v := 4) d_Phrase_init_5 rfl (n := 6) rfl ?_
  refine go_newaJ C d_Phrase_init_6 wa_long (by decide) (N := 4) rfl (by decide) (by decide) (by decide) (n := 8) rfl (fun n6_1 => ?_)
  refine go_eq (ws' := [(qt, .inr (3, [.null, .null, .null, .null, .null, .null, .int (0 : Int32), .int (0 : Int32)])), (n6_1, .inl (tc 1, 4, .inr (.inl (fun _ => 0))))]) rfl rfl rfl ?_
  refine go_putF C (hnm.trans rfl) d_Phrase_init_8 ff_Phrase_9 (fs_Phrase 0) rfl rfl rfl rfl 0 rfl (Nat.le_of_ble_eq_true rfl) (n := 11) rfl ?_
  refine go_aload_n C d_Phrase_init_11 rfl 0 rfl (n := 12) rfl ?_
  refine go_iconst C (v := 4) d_Phrase_init_12 rfl (n := 13) rfl ?_
  refine go_newaJ C d_Phrase_init_13 wa_long (by decide) (N := 4) rfl (by decide) (by decide) (by decide) (n := 15) rfl (fun n13_2 => ?_)
  refine go_eq (ws' := [(qt, .inr (3, [.ref n6_1, .null, .null, .null, .null, .null, .int (0 : Int32), .int (0 : Int32)])), (n6_1, .inl (tc 1, 4, .inr (.inl (fun _ => 0)))), (n13_2, .inl (tc 1, 4, .inr (.inl (fun _ => 0))))]) rfl rfl rfl ?_
  refine go_putF C (hnm.trans rfl) d_Phrase_init_15 ff_Phrase_15 (fs_Phrase 1) rfl rfl rfl rfl 0 rfl (Nat.le_of_ble_eq_true rfl) (n := 18) rfl ?_
  refine go_aload_n C d_Phrase_init_18 rfl 0 rfl (n := 19) rfl ?_
  refine go_iconst C (v := 4) d_Phrase_init_19 rfl (n := 20) rfl ?_
  refine go_bipush C (v := 24) d_Phrase_init_20 rfl (n := 22) rfl ?_
  refine go_multi C (t0 := 1) (t3 := 4) (z := (24, .inr (.inl (fun _ => 0)))) d_Phrase_init_22 mu_Phrase_18 rfl rfl (fun _ h => h) (fun _ h => h) (N := 4) (K := 24) rfl rfl (by decide) (by decide) (by decide) ⟨rfl, rfl⟩ (fun _ => rfl) (by decide) (by decide) (n := 26) rfl (fun n22_3 rn22_3 => ?_)
  refine go_eq (ws' := [(qt, .inr (3, [.ref n6_1, .ref n13_2, .null, .null, .null, .null, .int (0 : Int32), .int (0 : Int32)])), (n6_1, .inl (tc 1, 4, .inr (.inl (fun _ => 0)))), (n13_2, .inl (tc 1, 4, .inr (.inl (fun _ => 0)))), (n22_3, .inl (tc 4, 4, .inr (.inr (.inr (.inr (fun i => some (rn22_3 i))))))), (rn22_3 0, .inl (tc 1, 24, .inr (.inl ((fun _ _ => 0) 0)))), (rn22_3 1, .inl (tc 1, 24, .inr (.inl ((fun _ _ => 0) 1)))), (rn22_3 2, .inl (tc 1, 24, .inr (.inl ((fun _ _ => 0) 2)))), (rn22_3 3, .inl (tc 1, 24, .inr (.inl ((fun _ _ => 0) 3))))]) rfl rfl rfl ?_
  refine go_putF C (hnm.trans rfl) d_Phrase_init_26 ff_Phrase_20 (fs_Phrase 2) rfl rfl rfl rfl 0 rfl (Nat.le_of_ble_eq_true rfl) (n := 29) rfl ?_
  refine go_aload_n C d_Phrase_init_29 rfl 0 rfl (n := 30) rfl ?_
  refine go_iconst C (v := 4) d_Phrase_init_30 rfl (n := 31) rfl ?_
  refine go_bipush C (v := 24) d_Phrase_init_31 rfl (n := 33) rfl ?_
  refine go_multi C (t0 := 0) (t3 := 3) (z := (24, .inl (fun _ => 0))) d_Phrase_init_33 mu_Phrase_23 rfl rfl (fun _ h => h) (fun _ h => h) (N := 4) (K := 24) rfl rfl (by decide) (by decide) (by decide) ⟨rfl, rfl⟩ (fun _ => rfl) (by decide) (by decide) (n := 37) rfl (fun n33_4 rn33_4 => ?_)
  refine go_eq (ws' := [(qt, .inr (3, [.ref n6_1, .ref n13_2, .ref n22_3, .null, .null, .null, .int (0 : Int32), .int (0 : Int32)])), (n6_1, .inl (tc 1, 4, .inr (.inl (fun _ => 0)))), (n13_2, .inl (tc 1, 4, .inr (.inl (fun _ => 0)))), (n22_3, .inl (tc 4, 4, .inr (.inr (.inr (.inr (fun i => some (rn22_3 i))))))), (rn22_3 0, .inl (tc 1, 24, .inr (.inl ((fun _ _ => 0) 0)))), (rn22_3 1, .inl (tc 1, 24, .inr (.inl ((fun _ _ => 0) 1)))), (rn22_3 2, .inl (tc 1, 24, .inr (.inl ((fun _ _ => 0) 2)))), (rn22_3 3, .inl (tc 1, 24, .inr (.inl ((fun _ _ => 0) 3)))), (n33_4, .inl (tc 3, 4, .inr (.inr (.inr (.inr (fun i => some (rn33_4 i))))))), (rn33_4 0, .inl (tc 0, 24, .inl ((fun _ _ => 0) 0))), (rn33_4 1, .inl (tc 0, 24, .inl ((fun _ _ => 0) 1))), (rn33_4 2, .inl (tc 0, 24, .inl ((fun _ _ => 0) 2))), (rn33_4 3, .inl (tc 0, 24, .inl ((fun _ _ => 0) 3)))]) rfl rfl rfl ?_
  refine go_putF C (hnm.trans rfl) d_Phrase_init_37 ff_Phrase_25 (fs_Phrase 3) rfl rfl rfl rfl 0 rfl (Nat.le_of_ble_eq_true rfl) (n := 40) rfl ?_
  refine go_aload_n C d_Phrase_init_40 rfl 0 rfl (n := 41) rfl ?_
  refine go_iconst C (v := 4) d_Phrase_init_41 rfl (n := 42) rfl ?_
  refine go_bipush C (v := 24) d_Phrase_init_42 rfl (n := 44) rfl ?_
  refine go_multi C (t0 := 0) (t3 := 3) (z := (24, .inl (fun _ => 0))) d_Phrase_init_44 mu_Phrase_23 rfl rfl (fun _ h => h) (fun _ h => h) (N := 4) (K := 24) rfl rfl (by decide) (by decide) (by decide) ⟨rfl, rfl⟩ (fun _ => rfl) (by decide) (by decide) (n := 48) rfl (fun n44_5 rn44_5 => ?_)
  refine go_eq (ws' := [(qt, .inr (3, [.ref n6_1, .ref n13_2, .ref n22_3, .ref n33_4, .null, .null, .int (0 : Int32), .int (0 : Int32)])), (n6_1, .inl (tc 1, 4, .inr (.inl (fun _ => 0)))), (n13_2, .inl (tc 1, 4, .inr (.inl (fun _ => 0)))), (n22_3, .inl (tc 4, 4, .inr (.inr (.inr (.inr (fun i => some (rn22_3 i))))))), (rn22_3 0, .inl (tc 1, 24, .inr (.inl ((fun _ _ => 0) 0)))), (rn22_3 1, .inl (tc 1, 24, .inr (.inl ((fun _ _ => 0) 1)))), (rn22_3 2, .inl (tc 1, 24, .inr (.inl ((fun _ _ => 0) 2)))), (rn22_3 3, .inl (tc 1, 24, .inr (.inl ((fun _ _ => 0) 3)))), (n33_4, .inl (tc 3, 4, .inr (.inr (.inr (.inr (fun i => some (rn33_4 i))))))), (rn33_4 0, .inl (tc 0, 24, .inl ((fun _ _ => 0) 0))), (rn33_4 1, .inl (tc 0, 24, .inl ((fun _ _ => 0) 1))), (rn33_4 2, .inl (tc 0, 24, .inl ((fun _ _ => 0) 2))), (rn33_4 3, .inl (tc 0, 24, .inl ((fun _ _ => 0) 3))), (n44_5, .inl (tc 3, 4, .inr (.inr (.inr (.inr (fun i => some (rn44_5 i))))))), (rn44_5 0, .inl (tc 0, 24, .inl ((fun _ _ => 0) 0))), (rn44_5 1, .inl (tc 0, 24, .inl ((fun _ _ => 0) 1))), (rn44_5 2, .inl (tc 0, 24, .inl ((fun _ _ => 0) 2))), (rn44_5 3, .inl (tc 0, 24, .inl ((fun _ _ => 0) 3)))]) rfl rfl rfl ?_
  refine go_putF C (hnm.trans rfl) d_Phrase_init_48 ff_Phrase_28 (fs_Phrase 4) rfl rfl rfl rfl 0 rfl (Nat.le_of_ble_eq_true rfl) (n := 51) rfl ?_
  refine go_aload_n C d_Phrase_init_51 rfl 0 rfl (n := 52) rfl ?_
  refine go_iconst C (v := 4) d_Phrase_init_52 rfl (n := 53) rfl ?_
  refine go_newaI C d_Phrase_init_53 wa_int (by decide) (N := 4) rfl (by decide) (by decide) (by decide) (n := 55) rfl (fun n53_6 => ?_)
  refine go_eq (ws' := [(qt, .inr (3, [.ref n6_1, .ref n13_2, .ref n22_3, .ref n33_4, .ref n44_5, .null, .int (0 : Int32), .int (0 : Int32)])), (n6_1, .inl (tc 1, 4, .inr (.inl (fun _ => 0)))), (n13_2, .inl (tc 1, 4, .inr (.inl (fun _ => 0)))), (n22_3, .inl (tc 4, 4, .inr (.inr (.inr (.inr (fun i => some (rn22_3 i))))))), (rn22_3 0, .inl (tc 1, 24, .inr (.inl ((fun _ _ => 0) 0)))), (rn22_3 1, .inl (tc 1, 24, .inr (.inl ((fun _ _ => 0) 1)))), (rn22_3 2, .inl (tc 1, 24, .inr (.inl ((fun _ _ => 0) 2)))), (rn22_3 3, .inl (tc 1, 24, .inr (.inl ((fun _ _ => 0) 3)))), (n33_4, .inl (tc 3, 4, .inr (.inr (.inr (.inr (fun i => some (rn33_4 i))))))), (rn33_4 0, .inl (tc 0, 24, .inl ((fun _ _ => 0) 0))), (rn33_4 1, .inl (tc 0, 24, .inl ((fun _ _ => 0) 1))), (rn33_4 2, .inl (tc 0, 24, .inl ((fun _ _ => 0) 2))), (rn33_4 3, .inl (tc 0, 24, .inl ((fun _ _ => 0) 3))), (n44_5, .inl (tc 3, 4, .inr (.inr (.inr (.inr (fun i => some (rn44_5 i))))))), (rn44_5 0, .inl (tc 0, 24, .inl ((fun _ _ => 0) 0))), (rn44_5 1, .inl (tc 0, 24, .inl ((fun _ _ => 0) 1))), (rn44_5 2, .inl (tc 0, 24, .inl ((fun _ _ => 0) 2))), (rn44_5 3, .inl (tc 0, 24, .inl ((fun _ _ => 0) 3))), (n53_6, .inl (tc 0, 4, .inl (fun _ => 0)))]) rfl rfl rfl ?_
  refine go_putF C (hnm.trans rfl) d_Phrase_init_55 ff_Phrase_31 (fs_Phrase 5) rfl rfl rfl rfl 0 rfl (Nat.le_of_ble_eq_true rfl) (n := 58) rfl ?_
  refine go_aload_n C d_Phrase_init_58 rfl 0 rfl (n := 59) rfl ?_
  refine go_iconst C (v := 0) d_Phrase_init_59 rfl (n := 60) rfl ?_
  refine go_put C d_Phrase_init_60 fl_Phrase_35 (fs_Phrase 6) rfl rfl rfl 0 rfl (Nat.le_of_ble_eq_true rfl) (n := 63) rfl ?_
  refine go_eq (ws' := [(qt, .inr (3, [.ref n6_1, .ref n13_2, .ref n22_3, .ref n33_4, .ref n44_5, .ref n53_6, .int (0 : Int32), .int (0 : Int32)])), (n6_1, .inl (tc 1, 4, .inr (.inl (fun _ => 0)))), (n13_2, .inl (tc 1, 4, .inr (.inl (fun _ => 0)))), (n22_3, .inl (tc 4, 4, .inr (.inr (.inr (.inr (fun i => some (rn22_3 i))))))), (rn22_3 0, .inl (tc 1, 24, .inr (.inl ((fun _ _ => 0) 0)))), (rn22_3 1, .inl (tc 1, 24, .inr (.inl ((fun _ _ => 0) 1)))), (rn22_3 2, .inl (tc 1, 24, .inr (.inl ((fun _ _ => 0) 2)))), (rn22_3 3, .inl (tc 1, 24, .inr (.inl ((fun _ _ => 0) 3)))), (n33_4, .inl (tc 3, 4, .inr (.inr (.inr (.inr (fun i => some (rn33_4 i))))))), (rn33_4 0, .inl (tc 0, 24, .inl ((fun _ _ => 0) 0))), (rn33_4 1, .inl (tc 0, 24, .inl ((fun _ _ => 0) 1))), (rn33_4 2, .inl (tc 0, 24, .inl ((fun _ _ => 0) 2))), (rn33_4 3, .inl (tc 0, 24, .inl ((fun _ _ => 0) 3))), (n44_5, .inl (tc 3, 4, .inr (.inr (.inr (.inr (fun i => some (rn44_5 i))))))), (rn44_5 0, .inl (tc 0, 24, .inl ((fun _ _ => 0) 0))), (rn44_5 1, .inl (tc 0, 24, .inl ((fun _ _ => 0) 1))), (rn44_5 2, .inl (tc 0, 24, .inl ((fun _ _ => 0) 2))), (rn44_5 3, .inl (tc 0, 24, .inl ((fun _ _ => 0) 3))), (n53_6, .inl (tc 0, 4, .inl (fun _ => 0)))]) rfl rfl rfl ?_
  refine go_aload_n C d_Phrase_init_63 rfl 0 rfl (n := 64) rfl ?_
  refine go_iconst C (v := 0) d_Phrase_init_64 rfl (n := 65) rfl ?_
  refine go_put C d_Phrase_init_65 fl_Phrase_39 (fs_Phrase 7) rfl rfl rfl 0 rfl (Nat.le_of_ble_eq_true rfl) (n := 68) rfl ?_
  refine go_eq (ws' := [(qt, .inr (3, [.ref n6_1, .ref n13_2, .ref n22_3, .ref n33_4, .ref n44_5, .ref n53_6, .int (0 : Int32), .int (0 : Int32)])), (n6_1, .inl (tc 1, 4, .inr (.inl (fun _ => 0)))), (n13_2, .inl (tc 1, 4, .inr (.inl (fun _ => 0)))), (n22_3, .inl (tc 4, 4, .inr (.inr (.inr (.inr (fun i => some (rn22_3 i))))))), (rn22_3 0, .inl (tc 1, 24, .inr (.inl ((fun _ _ => 0) 0)))), (rn22_3 1, .inl (tc 1, 24, .inr (.inl ((fun _ _ => 0) 1)))), (rn22_3 2, .inl (tc 1, 24, .inr (.inl ((fun _ _ => 0) 2)))), (rn22_3 3, .inl (tc 1, 24, .inr (.inl ((fun _ _ => 0) 3)))), (n33_4, .inl (tc 3, 4, .inr (.inr (.inr (.inr (fun i => some (rn33_4 i))))))), (rn33_4 0, .inl (tc 0, 24, .inl ((fun _ _ => 0) 0))), (rn33_4 1, .inl (tc 0, 24, .inl ((fun _ _ => 0) 1))), (rn33_4 2, .inl (tc 0, 24, .inl ((fun _ _ => 0) 2))), (rn33_4 3, .inl (tc 0, 24, .inl ((fun _ _ => 0) 3))), (n44_5, .inl (tc 3, 4, .inr (.inr (.inr (.inr (fun i => some (rn44_5 i))))))), (rn44_5 0, .inl (tc 0, 24, .inl ((fun _ _ => 0) 0))), (rn44_5 1, .inl (tc 0, 24, .inl ((fun _ _ => 0) 1))), (rn44_5 2, .inl (tc 0, 24, .inl ((fun _ _ => 0) 2))), (rn44_5 3, .inl (tc 0, 24, .inl ((fun _ _ => 0) 3))), (n53_6, .inl (tc 0, 4, .inl (fun _ => 0)))]) rfl rfl rfl ?_
  exact go_vret C d_Phrase_init_68 hr (hPOST n6_1 n13_2 n22_3 rn22_3 n33_4 rn33_4 n44_5 rn44_5 n53_6)
