set_option maxRecDepth 100000 in
set_option maxHeartbeats 4000000 in
theorem c_Dictionary_init (l : Launch) (D : va_G) (tc : Nat → ClassId) (qt : Nat) (POST : Option Value → va_W → Prop) (hPOST : ∀ (n5_1 : Nat) (m2n7_1 : Nat) (m2n15_2 : Nat), POST none [(qt, .inr (1, [.ref n5_1, .int (0 : Int32), .int (0 : Int32), .int (0 : Int32), .int (0 : Int32)])), (n5_1, .inr (6, [.ref m2n7_1, .ref m2n15_2, .int (0 : Int32)])), (m2n7_1, .inl (tc 1, 24, .inr (.inl (fun _ => 0)))), (m2n15_2, .inl (tc 0, 24, .inl (fun _ => 0)))]) : Std l y_Dictionary_init (.code y_Dictionary_init b_Dictionary_init 1 none) { frames := 2, cells := 3, slots := 51, locals := 36 } D tc [.ref qt] [(qt, .inr (1, [.null, .int (0 : Int32), .int (0 : Int32), .int (0 : Int32), .int (0 : Int32)]))] 3 51 POST := by
  refine std_of (lv := [(0, .ref qt)]) (by decide) (Nat.le_of_ble_eq_true rfl) rfl (fun p e s m args below meth c A C hr hnm => ?_)
  refine go_aload_n C d_Dictionary_init_0 rfl 0 rfl (n := 1) rfl ?_
  refine go_objInit C d_Dictionary_init_1 oi_Dictionary_1 (Nat.le_of_ble_eq_true rfl) (Nat.le_of_ble_eq_true rfl) (n := 4) rfl ?_
  refine go_aload_n C d_Dictionary_init_4 rfl 0 rfl (n := 5) rfl ?_
  refine go_new C d_Dictionary_init_5 nw_Dictionary_7 (fs_WordList 0).1 (fs := [.null, .null, .int 0]) (fun j hj => by rcases (show j = 0 ∨ j = 1 ∨ j = 2 by omega) with rfl | rfl | rfl <;> rfl) (by decide) (by decide) (n := 8) rfl (fun n5_1 => ?_)
  refine go_eq (ws' := [(qt, .inr (1, [.null, .int (0 : Int32), .int (0 : Int32), .int (0 : Int32), .int (0 : Int32)])), (n5_1, .inr (6, [.null, .null, .int (0 : Int32)]))]) rfl rfl rfl ?_
  refine go_dup C d_Dictionary_init_8 rfl (n := 9) rfl ?_
  refine go_callI C (As := []) (rest := [.ref n5_1, .ref qt]) (wc := [(n5_1, .inr (6, [.null, .null, .int (0 : Int32)]))]) (wr := [(qt, .inr (1, [.null, .int (0 : Int32), .int (0 : Int32), .int (0 : Int32), .int (0 : Int32)]))]) d_Dictionary_init_9 (c_WordList_init l D tc n5_1  (fun r w => r = none ∧ ∃ (m2n7_1 : Nat) (m2n15_2 : Nat), w = [(n5_1, .inr (6, [.ref m2n7_1, .ref m2n15_2, .int (0 : Int32)])), (m2n7_1, .inl (tc 1, 24, .inr (.inl (fun _ => 0)))), (m2n15_2, .inl (tc 0, 24, .inl (fun _ => 0)))]) (fun m2n7_1 m2n15_2 => ⟨rfl, m2n7_1, m2n15_2, rfl⟩)) lk_Dictionary_9 mw_WordList_init rfl wn_WordList_init rfl rfl ⟨(Nat.le_of_ble_eq_true rfl), (Nat.le_of_ble_eq_true rfl)⟩ rfl rfl (Nat.le_of_ble_eq_true rfl) ⟨(Nat.le_of_ble_eq_true rfl), (Nat.le_of_ble_eq_true rfl)⟩ [1] [0] rfl rfl (by decide) (by decide) (by decide) (n := 12) rfl ?_
  rintro _ _ ⟨rfl, m2n7_1, m2n15_2, rfl⟩
  refine go_putF C (hnm.trans rfl) d_Dictionary_init_12 ff_Dictionary_10 (fs_Dictionary 0) rfl rfl rfl rfl 0 rfl (Nat.le_of_ble_eq_true rfl) (n := 15) rfl ?_
  refine go_aload_n C d_Dictionary_init_15 rfl 0 rfl (n := 16) rfl ?_
  refine go_iconst C (v := 0) d_Dictionary_init_16 rfl (n := 17) rfl ?_
  refine go_put C d_Dictionary_init_17 fl_Dictionary_16 (fs_Dictionary 1) rfl rfl rfl 0 rfl (Nat.le_of_ble_eq_true rfl) (n := 20) rfl ?_
  refine go_eq (ws' := [(qt, .inr (1, [.ref n5_1, .int (0 : Int32), .int (0 : Int32), .int (0 : Int32), .int (0 : Int32)])), (n5_1, .inr (6, [.ref m2n7_1, .ref m2n15_2, .int (0 : Int32)])), (m2n7_1, .inl (tc 1, 24, .inr (.inl (fun _ => 0)))), (m2n15_2, .inl (tc 0, 24, .inl (fun _ => 0)))]) rfl rfl rfl ?_
  refine go_aload_n C d_Dictionary_init_20 rfl 0 rfl (n := 21) rfl ?_
  refine go_iconst C (v := 0) d_Dictionary_init_21 rfl (n := 22) rfl ?_
  refine go_put C d_Dictionary_init_22 fl_Dictionary_20 (fs_Dictionary 2) rfl rfl rfl 0 rfl (Nat.le_of_ble_eq_true rfl) (n := 25) rfl ?_
  refine go_eq (ws' := [(qt, .inr (1, [.ref n5_1, .int (0 : Int32), .int (0 : Int32), .int (0 : Int32), .int (0 : Int32)])), (n5_1, .inr (6, [.ref m2n7_1, .ref m2n15_2, .int (0 : Int32)])), (m2n7_1, .inl (tc 1, 24, .inr (.inl (fun _ => 0)))), (m2n15_2, .inl (tc 0, 24, .inl (fun _ => 0)))]) rfl rfl rfl ?_
  refine go_aload_n C d_Dictionary_init_25 rfl 0 rfl (n := 26) rfl ?_
  refine go_iconst C (v := 0) d_Dictionary_init_26 rfl (n := 27) rfl ?_
  refine go_put C d_Dictionary_init_27 fl_Dictionary_23 (fs_Dictionary 3) rfl rfl rfl 0 rfl (Nat.le_of_ble_eq_true rfl) (n := 30) rfl ?_
  refine go_eq (ws' := [(qt, .inr (1, [.ref n5_1, .int (0 : Int32), .int (0 : Int32), .int (0 : Int32), .int (0 : Int32)])), (n5_1, .inr (6, [.ref m2n7_1, .ref m2n15_2, .int (0 : Int32)])), (m2n7_1, .inl (tc 1, 24, .inr (.inl (fun _ => 0)))), (m2n15_2, .inl (tc 0, 24, .inl (fun _ => 0)))]) rfl rfl rfl ?_
  refine go_aload_n C d_Dictionary_init_30 rfl 0 rfl (n := 31) rfl ?_
  refine go_iconst C (v := 0) d_Dictionary_init_31 rfl (n := 32) rfl ?_
  refine go_put C d_Dictionary_init_32 fl_Dictionary_26 (fs_Dictionary 4) rfl rfl rfl 0 rfl (Nat.le_of_ble_eq_true rfl) (n := 35) rfl ?_
  refine go_eq (ws' := [(qt, .inr (1, [.ref n5_1, .int (0 : Int32), .int (0 : Int32), .int (0 : Int32), .int (0 : Int32)])), (n5_1, .inr (6, [.ref m2n7_1, .ref m2n15_2, .int (0 : Int32)])), (m2n7_1, .inl (tc 1, 24, .inr (.inl (fun _ => 0)))), (m2n15_2, .inl (tc 0, 24, .inl (fun _ => 0)))]) rfl rfl rfl ?_
  exact go_vret C d_Dictionary_init_35 hr (hPOST n5_1 m2n7_1 m2n15_2)
