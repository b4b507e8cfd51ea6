set_option maxRecDepth 100000 in
set_option maxHeartbeats 4000000 in
theorem c_Suggestions_init (l : Launch) (D : va_G) (tc : Nat → ClassId) (qt : Nat) (POST : Option Value → va_W → Prop) (hPOST : ∀ (n7_1 : Nat) (n15_2 : Nat), POST none [(qt, .inr (5, [.ref n7_1, .ref n15_2, .int (0 : Int32), .int (0 : Int32)])), (n7_1, .inl (tc 1, 24, .inr (.inl (fun _ => 0)))), (n15_2, .inl (tc 0, 24, .inl (fun _ => 0)))]) : Std l y_Suggestions_init (.code y_Suggestions_init b_Suggestions_init 1 none) { frames := 1, cells := 2, slots := 48, locals := 16 } D tc [.ref qt] [(qt, .inr (5, [.null, .null, .int (0 : Int32), .int (0 : Int32)]))] 2 48 POST := by
  refine std_of (lv := [(0, .ref qt)]) (by decide) (Nat.le_of_ble_eq_true rfl) rfl (fun p e s m args below meth c A C hr hnm => ?_)
  refine go_aload_n C d_Suggestions_init_0 rfl 0 rfl (n := 1) rfl ?_
  refine go_objInit C d_Suggestions_init_1 oi_Suggestions_3 (Nat.le_of_ble_eq_true rfl) (Nat.le_of_ble_eq_true rfl) (n := 4) rfl ?_
  refine go_aload_n C d_Suggestions_init_4 rfl 0 rfl (n := 5) rfl ?_
  refine go_bipush C (v := 24) d_Suggestions_init_5 rfl (n := 7) rfl ?_
  refine go_newaJ C d_Suggestions_init_7 wa_long (by decide) (N := 24) rfl (by decide) (by decide) (by decide) (n := 9) rfl (fun n7_1 => ?_)
  refine go_eq (ws' := [(qt, .inr (5, [.null, .null, .int (0 : Int32), .int (0 : Int32)])), (n7_1, .inl (tc 1, 24, .inr (.inl (fun _ => 0))))]) rfl rfl rfl ?_
  refine go_putF C (hnm.trans rfl) d_Suggestions_init_9 ff_Suggestions_9 (fs_Suggestions 0) rfl rfl rfl rfl 0 rfl (Nat.le_of_ble_eq_true rfl) (n := 12) rfl ?_
  refine go_aload_n C d_Suggestions_init_12 rfl 0 rfl (n := 13) rfl ?_
  refine go_bipush C (v := 24) d_Suggestions_init_13 rfl (n := 15) rfl ?_
  refine go_newaI C d_Suggestions_init_15 wa_int (by decide) (N := 24) rfl (by decide) (by decide) (by decide) (n := 17) rfl (fun n15_2 => ?_)
  refine go_eq (ws' := [(qt, .inr (5, [.ref n7_1, .null, .int (0 : Int32), .int (0 : Int32)])), (n7_1, .inl (tc 1, 24, .inr (.inl (fun _ => 0)))), (n15_2, .inl (tc 0, 24, .inl (fun _ => 0)))]) rfl rfl rfl ?_
  refine go_putF C (hnm.trans rfl) d_Suggestions_init_17 ff_Suggestions_15 (fs_Suggestions 1) rfl rfl rfl rfl 0 rfl (Nat.le_of_ble_eq_true rfl) (n := 20) rfl ?_
  refine go_aload_n C d_Suggestions_init_20 rfl 0 rfl (n := 21) rfl ?_
  refine go_iconst C (v := 0) d_Suggestions_init_21 rfl (n := 22) rfl ?_
  refine go_put C d_Suggestions_init_22 fl_Suggestions_19 (fs_Suggestions 2) rfl rfl rfl 0 rfl (Nat.le_of_ble_eq_true rfl) (n := 25) rfl ?_
  refine go_eq (ws' := [(qt, .inr (5, [.ref n7_1, .ref n15_2, .int (0 : Int32), .int (0 : Int32)])), (n7_1, .inl (tc 1, 24, .inr (.inl (fun _ => 0)))), (n15_2, .inl (tc 0, 24, .inl (fun _ => 0)))]) rfl rfl rfl ?_
  refine go_aload_n C d_Suggestions_init_25 rfl 0 rfl (n := 26) rfl ?_
  refine go_iconst C (v := 0) d_Suggestions_init_26 rfl (n := 27) rfl ?_
  refine go_put C d_Suggestions_init_27 fl_Suggestions_23 (fs_Suggestions 3) rfl rfl rfl 0 rfl (Nat.le_of_ble_eq_true rfl) (n := 30) rfl ?_
  refine go_eq (ws' := [(qt, .inr (5, [.ref n7_1, .ref n15_2, .int (0 : Int32), .int (0 : Int32)])), (n7_1, .inl (tc 1, 24, .inr (.inl (fun _ => 0)))), (n15_2, .inl (tc 0, 24, .inl (fun _ => 0)))]) rfl rfl rfl ?_
  exact go_vret C d_Suggestions_init_30 hr (hPOST n7_1 n15_2)

set_option maxRecDepth 100000 in
set_option maxHeartbeats 4000000 in
theorem c_WordList_init (l : Launch) (D : va_G) (tc : Nat → ClassId) (qt : Nat) (POST : Option Value → va_W → Prop) (hPOST : ∀ (n7_1 : Nat) (n15_2 : Nat), POST none [(qt, .inr (6, [.ref n7_1, .ref n15_2, .int (0 : Int32)])), (n7_1, .inl (tc 1, 24, .inr (.inl (fun _ => 0)))), (n15_2, .inl (tc 0, 24, .inl (fun _ => 0)))]) : Std l y_WordList_init (.code y_WordList_init b_WordList_init 1 none) { frames := 1, cells := 2, slots := 48, locals := 16 } D tc [.ref qt] [(qt, .inr (6, [.null, .null, .int (0 : Int32)]))] 2 48 POST := by
  refine std_of (lv := [(0, .ref qt)]) (by decide) (Nat.le_of_ble_eq_true rfl) rfl (fun p e s m args below meth c A C hr hnm => ?_)
  refine go_aload_n C d_WordList_init_0 rfl 0 rfl (n := 1) rfl ?_
  refine go_objInit C d_WordList_init_1 oi_WordList_3 (Nat.le_of_ble_eq_true rfl) (Nat.le_of_ble_eq_true rfl) (n := 4) rfl ?_
  refine go_aload_n C d_WordList_init_4 rfl 0 rfl (n := 5) rfl ?_
  refine go_bipush C (v := 24) d_WordList_init_5 rfl (n := 7) rfl ?_
  refine go_newaJ C d_WordList_init_7 wa_long (by decide) (N := 24) rfl (by decide) (by decide) (by decide) (n := 9) rfl (fun n7_1 => ?_)
  refine go_eq (ws' := [(qt, .inr (6, [.null, .null, .int (0 : Int32)])), (n7_1, .inl (tc 1, 24, .inr (.inl (fun _ => 0))))]) rfl rfl rfl ?_
  refine go_putF C (hnm.trans rfl) d_WordList_init_9 ff_WordList_9 (fs_WordList 0) rfl rfl rfl rfl 0 rfl (Nat.le_of_ble_eq_true rfl) (n := 12) rfl ?_
  refine go_aload_n C d_WordList_init_12 rfl 0 rfl (n := 13) rfl ?_
  refine go_bipush C (v := 24) d_WordList_init_13 rfl (n := 15) rfl ?_
  refine go_newaI C d_WordList_init_15 wa_int (by decide) (N := 24) rfl (by decide) (by decide) (by decide) (n := 17) rfl (fun n15_2 => ?_)
  refine go_eq (ws' := [(qt, .inr (6, [.ref n7_1, .null, .int (0 : Int32)])), (n7_1, .inl (tc 1, 24, .inr (.inl (fun _ => 0)))), (n15_2, .inl (tc 0, 24, .inl (fun _ => 0)))]) rfl rfl rfl ?_
  refine go_putF C (hnm.trans rfl) d_WordList_init_17 ff_WordList_15 (fs_WordList 1) rfl rfl rfl rfl 0 rfl (Nat.le_of_ble_eq_true rfl) (n := 20) rfl ?_
  refine go_aload_n C d_WordList_init_20 rfl 0 rfl (n := 21) rfl ?_
  refine go_iconst C (v := 0) d_WordList_init_21 rfl (n := 22) rfl ?_
  refine go_put C d_WordList_init_22 fl_WordList_19 (fs_WordList 2) rfl rfl rfl 0 rfl (Nat.le_of_ble_eq_true rfl) (n := 25) rfl ?_
  refine go_eq (ws' := [(qt, .inr (6, [.ref n7_1, .ref n15_2, .int (0 : Int32)])), (n7_1, .inl (tc 1, 24, .inr (.inl (fun _ => 0)))), (n15_2, .inl (tc 0, 24, .inl (fun _ => 0)))]) rfl rfl rfl ?_
  exact go_vret C d_WordList_init_25 hr (hPOST n7_1 n15_2)
