set_option maxRecDepth 100000 in
set_option maxHeartbeats 4000000 in
theorem c_Suggestions_init (l : Launch) (D : va_G) (tc : Nat → ClassId) (qt : Nat) (POST : Option Value → va_W → Prop) (hPOST : ∀ (n7_1 : Nat) (n15_2 : Nat), POST none [(qt, .inr (5, [.ref n7_1, .ref n15_2, .int (0 : Int32), .int (0 : Int32)])), (n7_1, .inl (tc 1, 24, .inr (.inl (fun _ => 0)))), (n15_2, .inl (tc 0, 24, .inl (fun _ => 0)))]) : Std l y_Suggestions_init (.code y_Suggestions_init b_Suggestions_init 1 none) { frames := 1, cells := 2, slots := 48, locals := 16 } D tc [.ref qt] [(qt, .inr (5, [.null, .null, .int (0 : Int32), .int (0 : Int32)]))] 2 48 POST := by
  refine std_of (lv := [(0, .ref qt)]) (by decide) (Nat.le_of_ble_eq_true rfl) rfl (fun p e s m args below meth c A C hr hnm => ?_)
  refine go_aload_n C d_Suggestions_init_0 rfl 0 rfl (n := 1) rfl ?_
  refine go_objInit C d_Suggestions_init_1 oi_Suggestions_3 (Nat.le_of_ble_eq_true rfl) (Nat.le_of_ble_eq_true rfl) (n := 4) rfl ?_
  refine go_aload_n C d_Suggestions_init_4 rfl 0 rfl (n := 5) rfl ?_
  refine go_bipush C (v := 24) d_Suggestions_init_5 rfl (n := 7) rfl ?_
  refine go_newaJ C d_Suggestions_init_7 wa_long (by decide) (N := 24) rfl (by decide) (by decide) (by decide) (n := 9) rfl (fun n7_1 => ?_)
  refine go_putF C (hnm.trans rfl) d_Suggestions_init_9 ff_Suggestions_9 (fs_Suggestions 0) rfl rfl rfl rfl 0 rfl (Nat.le_of_ble_eq_true rfl) (n := 12) rfl ?_
  refine go_aload_n C d_Suggestions_init_12 rfl 0 rfl (n := 13) rfl ?_
  refine go_bipush C (v := 24) d_Suggestions_init_13 rfl (n := 15) rfl ?_
  refine go_newaI C d_Suggestions_init_15 wa_int (by decide) (N := 24) rfl (by decide) (by decide) (by decide) (n := 17) rfl (fun n15_2 => ?_)
  refine go_putF C (hnm.trans rfl) d_Suggestions_init_17 ff_Suggestions_15 (fs_Suggestions 1) rfl rfl rfl rfl 0 rfl (Nat.le_of_ble_eq_true rfl) (n := 20) rfl ?_
  refine go_aload_n C d_Suggestions_init_20 rfl 0 rfl (n := 21) rfl ?_
  refine go_iconst C (v := 0) d_Suggestions_init_21 rfl (n := 22) rfl ?_
  refine go_put C d_Suggestions_init_22 fl_Suggestions_19 (fs_Suggestions 2) rfl rfl rfl 0 rfl (Nat.le_of_ble_eq_true rfl) (n := 25) rfl ?_
  refine go_aload_n C d_Suggestions_init_25 rfl 0 rfl (n := 26) rfl ?_
  refine go_iconst C (v := 0) d_Suggestions_init_26 rfl (n := 27) rfl ?_
  refine go_put C d_Suggestions_init_27 fl_Suggestions_23 (fs_Suggestions 3) rfl rfl rfl 0 rfl (Nat.le_of_ble_eq_true rfl) (n := 30) rfl ?_
  exact go_vret C d_Suggestions_init_30 hr (hPOST n7_1 n15_2)

set_option maxRecDepth 100000 in
set_option maxHeartbeats 4000000 in
theorem c_WordList_init (l : Launch) (D : va_G) (tc : Nat → ClassId) (qt : Nat) (POST : Option Value → va_W → Prop) (hPOST : ∀ (n7_1 : Nat) (n15_2 : Nat), POST none [(qt, .inr (6, [.ref n7_1, .ref n15_2, .int (0 : Int32)])), (n7_1, .inl (tc 1, 24, .inr (.inl (fun _ => 0)))), (n15_2, .inl (tc 0, 24, .inl (fun _ => 0)))]) : Std l y_WordList_init (.code y_WordList_init b_WordList_init 1 none) { frames := 1, cells := 2, slots := 48, locals := 16 } D tc [.ref qt] [(qt, .inr (6, [.null, .null, .int (0 : Int32)]))] 2 48 POST := by
  refine std_of (lv := [(0, .ref qt)]) (by decide) (Nat.le_of_ble_eq_true rfl) rfl (fun p e s m args below meth c A C hr hnm => ?_)
  refine go_aload_n C d_WordList_init_0 rfl 0 rfl (n := 1) rfl ?_
  refine go_objInit C d_WordList_init_1 oi_WordList_3 (Nat.le_of_ble_eq_true rfl) (Nat.le_of_ble_eq_true rfl) (n := 4) rfl ?_
  refine go_aload_n C d_WordList_init_4 rfl 0 rfl (n := 5) rfl ?_
  refine go_bipush C (v := 24) d_WordList_init_5 rfl (n := 7) rfl ?_
  refine go_newaJ C d_WordList_init_7 wa_long (by decide) (N := 24) rfl (by decide) (by decide) (by decide) (n := 9) rfl (fun n7_1 => ?_)
  refine go_putF C (hnm.trans rfl) d_WordList_init_9 ff_WordList_9 (fs_WordList 0) rfl rfl rfl rfl 0 rfl (Nat.le_of_ble_eq_true rfl) (n := 12) rfl ?_
  refine go_aload_n C d_WordList_init_12 rfl 0 rfl (n := 13) rfl ?_
  refine go_bipush C (v := 24) d_WordList_init_13 rfl (n := 15) rfl ?_
  refine go_newaI C d_WordList_init_15 wa_int (by decide) (N := 24) rfl (by decide) (by decide) (by decide) (n := 17) rfl (fun n15_2 => ?_)
  refine go_putF C (hnm.trans rfl) d_WordList_init_17 ff_WordList_15 (fs_WordList 1) rfl rfl rfl rfl 0 rfl (Nat.le_of_ble_eq_true rfl) (n := 20) rfl ?_
  refine go_aload_n C d_WordList_init_20 rfl 0 rfl (n := 21) rfl ?_
  refine go_iconst C (v := 0) d_WordList_init_21 rfl (n := 22) rfl ?_
  refine go_put C d_WordList_init_22 fl_WordList_19 (fs_WordList 2) rfl rfl rfl 0 rfl (Nat.le_of_ble_eq_true rfl) (n := 25) rfl ?_
  exact go_vret C d_WordList_init_25 hr (hPOST n7_1 n15_2)

set_option maxRecDepth 100000 in
set_option maxHeartbeats 4000000 in
theorem c_M_init (l : Launch) (D : va_G) (tc : Nat → ClassId) (qt : Nat) (POST : Option Value → va_W → Prop) (hPOST : ∀ (n7_1 : Nat) (n15_2 : Nat) (n22_3 : Nat) (n29_4 : Nat) (n36_5 : Nat) (n44_6 : Nat) (n52_7 : Nat) (n59_8 : Nat) (n66_9 : Nat) (n75_10 : Nat) (n84_11 : Nat) (n93_12 : Nat) (n102_13 : Nat) (n111_14 : Nat) (n119_15 : Nat) (n127_16 : Nat) (n135_17 : Nat) (n143_18 : Nat) (n151_19 : Nat) (n159_20 : Nat) (n166_21 : Nat) (n173_22 : Nat) (n180_23 : Nat) (n188_24 : Nat) (n196_25 : Nat) (n203_26 : Nat), POST none [(qt, .inr (8, [.int (0 : Int32), .int (0 : Int32), .ref n7_1, .ref n15_2, .int (0 : Int32), .int (0 : Int32), .ref n22_3, .ref n29_4, .ref n36_5, .ref n44_6, .ref n52_7, .ref n59_8, .ref n66_9, .int (0 : Int32), .ref n75_10, .ref n84_11, .ref n93_12, .ref n102_13, .ref n111_14, .int (0 : Int32), .ref n119_15, .ref n127_16, .ref n135_17, .int (0 : Int32), .ref n143_18, .ref n151_19, .ref n159_20, .int (0 : Int32), .ref n166_21, .int (0 : Int32), .ref n173_22, .ref n180_23, .ref n188_24, .ref n196_25, .ref n203_26])), (n7_1, .inl (tc 1, 24, .inr (.inl (fun _ => 0)))), (n15_2, .inl (tc 0, 24, .inl (fun _ => 0))), (n22_3, .inl (tc 0, 3, .inl (fun _ => 0))), (n29_4, .inl (tc 0, 3, .inl (fun _ => 0))), (n36_5, .inl (tc 0, 3, .inl (fun _ => 0))), (n44_6, .inl (tc 1, 72, .inr (.inl (fun _ => 0)))), (n52_7, .inl (tc 0, 72, .inl (fun _ => 0))), (n59_8, .inl (tc 0, 3, .inl (fun _ => 0))), (n66_9, .inl (tc 0, 3, .inl (fun _ => 0))), (n75_10, .inl (tc 0, 216, .inl (fun _ => 0))), (n84_11, .inl (tc 0, 216, .inl (fun _ => 0))), (n93_12, .inl (tc 0, 216, .inl (fun _ => 0))), (n102_13, .inl (tc 0, 216, .inl (fun _ => 0))), (n111_14, .inl (tc 1, 216, .inr (.inl (fun _ => 0)))), (n119_15, .inl (tc 1, 24, .inr (.inl (fun _ => 0)))), (n127_16, .inl (tc 0, 24, .inl (fun _ => 0))), (n135_17, .inl (tc 0, 81, .inl (fun _ => 0))), (n143_18, .inl (tc 1, 40, .inr (.inl (fun _ => 0)))), (n151_19, .inl (tc 1, 40, .inr (.inl (fun _ => 0)))), (n159_20, .inl (tc 0, 40, .inl (fun _ => 0))), (n166_21, .inl (tc 1, 4, .inr (.inl (fun _ => 0)))), (n173_22, .inl (tc 1, 4, .inr (.inl (fun _ => 0)))), (n180_23, .inl (tc 0, 4, .inl (fun _ => 0))), (n188_24, .inl (tc 1, 96, .inr (.inl (fun _ => 0)))), (n196_25, .inl (tc 0, 96, .inl (fun _ => 0))), (n203_26, .inl (tc 0, 4, .inl (fun _ => 0)))]) : Std l y_M_init (.code y_M_init b_M_init 1 none) { frames := 1, cells := 26, slots := 1744, locals := 16 } D tc [.ref qt] [(qt, .inr (8, [.int (0 : Int32), .int (0 : Int32), .null, .null, .int (0 : Int32), .int (0 : Int32), .null, .null, .null, .null, .null, .null, .null, .int (0 : Int32), .null, .null, .null, .null, .null, .int (0 : Int32), .null, .null, .null, .int (0 : Int32), .null, .null, .null, .int (0 : Int32), .null, .int (0 : Int32), .null, .null, .null, .null, .null]))] 26 1744 POST := by
  refine std_of (lv := [(0, .ref qt)]) (by decide) (Nat.le_of_ble_eq_true rfl) rfl (fun p e s m args below meth c A C hr hnm => ?_)
  refine go_aload_n C d_M_init_0 rfl 0 rfl (n := 1) rfl ?_
  refine go_objInit C d_M_init_1 oi_M_1 (Nat.le_of_ble_eq_true rfl) (Nat.le_of_ble_eq_true rfl) (n := 4) rfl ?_
  refine go_aload_n C d_M_init_4 rfl 0 rfl (n := 5) rfl ?_
  refine go_bipush C (v := 24) d_M_init_5 rfl (n := 7) rfl ?_
  refine go_newaJ C d_M_init_7 wa_long (by decide) (N := 24) rfl (by decide) (by decide) (by decide) (n := 9) rfl (fun n7_1 => ?_)
  refine go_putF C (hnm.trans rfl) d_M_init_9 ff_M_7 (fs_M 2) rfl rfl rfl rfl 0 rfl (Nat.le_of_ble_eq_true rfl) (n := 12) rfl ?_
  refine go_aload_n C d_M_init_12 rfl 0 rfl (n := 13) rfl ?_
  refine go_bipush C (v := 24) d_M_init_13 rfl (n := 15) rfl ?_
  refine go_newaI C d_M_init_15 wa_int (by decide) (N := 24) rfl (by decide) (by decide) (by decide) (n := 17) rfl (fun n15_2 => ?_)
  refine go_putF C (hnm.trans rfl) d_M_init_17 ff_M_13 (fs_M 3) rfl rfl rfl rfl 0 rfl (Nat.le_of_ble_eq_true rfl) (n := 20) rfl ?_
  refine go_aload_n C d_M_init_20 rfl 0 rfl (n := 21) rfl ?_
  refine go_iconst C (v := 3) d_M_init_21 rfl (n := 22) rfl ?_
  refine go_newaI C d_M_init_22 wa_int (by decide) (N := 3) rfl (by decide) (by decide) (by decide) (n := 24) rfl (fun n22_3 => ?_)
  refine go_putF C (hnm.trans rfl) d_M_init_24 ff_M_17 (fs_M 6) rfl rfl rfl rfl 0 rfl (Nat.le_of_ble_eq_true rfl) (n := 27) rfl ?_
  refine go_aload_n C d_M_init_27 rfl 0 rfl (n := 28) rfl ?_
  refine go_iconst C (v := 3) d_M_init_28 rfl (n := 29) rfl ?_
  refine go_newaI C d_M_init_29 wa_int (by decide) (N := 3) rfl (by decide) (by decide) (by decide) (n := 31) rfl (fun n29_4 => ?_)
  refine go_putF C (hnm.trans rfl) d_M_init_31 ff_M_20 (fs_M 7) rfl rfl rfl rfl 0 rfl (Nat.le_of_ble_eq_true rfl) (n := 34) rfl ?_
  refine go_aload_n C d_M_init_34 rfl 0 rfl (n := 35) rfl ?_
  refine go_iconst C (v := 3) d_M_init_35 rfl (n := 36) rfl ?_
  refine go_newaI C d_M_init_36 wa_int (by decide) (N := 3) rfl (by decide) (by decide) (by decide) (n := 38) rfl (fun n36_5 => ?_)
  refine go_putF C (hnm.trans rfl) d_M_init_38 ff_M_23 (fs_M 8) rfl rfl rfl rfl 0 rfl (Nat.le_of_ble_eq_true rfl) (n := 41) rfl ?_
  refine go_aload_n C d_M_init_41 rfl 0 rfl (n := 42) rfl ?_
  refine go_bipush C (v := 72) d_M_init_42 rfl (n := 44) rfl ?_
  refine go_newaJ C d_M_init_44 wa_long (by decide) (N := 72) rfl (by decide) (by decide) (by decide) (n := 46) rfl (fun n44_6 => ?_)
  refine go_putF C (hnm.trans rfl) d_M_init_46 ff_M_26 (fs_M 9) rfl rfl rfl rfl 0 rfl (Nat.le_of_ble_eq_true rfl) (n := 49) rfl ?_
  refine go_aload_n C d_M_init_49 rfl 0 rfl (n := 50) rfl ?_
  refine go_bipush C (v := 72) d_M_init_50 rfl (n := 52) rfl ?_
  refine go_newaI C d_M_init_52 wa_int (by decide) (N := 72) rfl (by decide) (by decide) (by decide) (n := 54) rfl (fun n52_7 => ?_)
  refine go_putF C (hnm.trans rfl) d_M_init_54 ff_M_29 (fs_M 10) rfl rfl rfl rfl 0 rfl (Nat.le_of_ble_eq_true rfl) (n := 57) rfl ?_
  refine go_aload_n C d_M_init_57 rfl 0 rfl (n := 58) rfl ?_
  refine go_iconst C (v := 3) d_M_init_58 rfl (n := 59) rfl ?_
  refine go_newaI C d_M_init_59 wa_int (by decide) (N := 3) rfl (by decide) (by decide) (by decide) (n := 61) rfl (fun n59_8 => ?_)
  refine go_putF C (hnm.trans rfl) d_M_init_61 ff_M_32 (fs_M 11) rfl rfl rfl rfl 0 rfl (Nat.le_of_ble_eq_true rfl) (n := 64) rfl ?_
  refine go_aload_n C d_M_init_64 rfl 0 rfl (n := 65) rfl ?_
  refine go_iconst C (v := 3) d_M_init_65 rfl (n := 66) rfl ?_
  refine go_newaI C d_M_init_66 wa_int (by decide) (N := 3) rfl (by decide) (by decide) (by decide) (n := 68) rfl (fun n66_9 => ?_)
  refine go_putF C (hnm.trans rfl) d_M_init_68 ff_M_35 (fs_M 12) rfl rfl rfl rfl 0 rfl (Nat.le_of_ble_eq_true rfl) (n := 71) rfl ?_
  refine go_aload_n C d_M_init_71 rfl 0 rfl (n := 72) rfl ?_
  refine go_sipush C (v := 216) d_M_init_72 rfl (n := 75) rfl ?_
  refine go_newaI C d_M_init_75 wa_int (by decide) (N := 216) rfl (by decide) (by decide) (by decide) (n := 77) rfl (fun n75_10 => ?_)
  refine go_putF C (hnm.trans rfl) d_M_init_77 ff_M_38 (fs_M 14) rfl rfl rfl rfl 0 rfl (Nat.le_of_ble_eq_true rfl) (n := 80) rfl ?_
  refine go_aload_n C d_M_init_80 rfl 0 rfl (n := 81) rfl ?_
  refine go_sipush C (v := 216) d_M_init_81 rfl (n := 84) rfl ?_
  refine go_newaI C d_M_init_84 wa_int (by decide) (N := 216) rfl (by decide) (by decide) (by decide) (n := 86) rfl (fun n84_11 => ?_)
  refine go_putF C (hnm.trans rfl) d_M_init_86 ff_M_41 (fs_M 15) rfl rfl rfl rfl 0 rfl (Nat.le_of_ble_eq_true rfl) (n := 89) rfl ?_
  refine go_aload_n C d_M_init_89 rfl 0 rfl (n := 90) rfl ?_
  refine go_sipush C (v := 216) d_M_init_90 rfl (n := 93) rfl ?_
  refine go_newaI C d_M_init_93 wa_int (by decide) (N := 216) rfl (by decide) (by decide) (by decide) (n := 95) rfl (fun n93_12 => ?_)
  refine go_putF C (hnm.trans rfl) d_M_init_95 ff_M_44 (fs_M 16) rfl rfl rfl rfl 0 rfl (Nat.le_of_ble_eq_true rfl) (n := 98) rfl ?_
  refine go_aload_n C d_M_init_98 rfl 0 rfl (n := 99) rfl ?_
  refine go_sipush C (v := 216) d_M_init_99 rfl (n := 102) rfl ?_
  refine go_newaI C d_M_init_102 wa_int (by decide) (N := 216) rfl (by decide) (by decide) (by decide) (n := 104) rfl (fun n102_13 => ?_)
  refine go_putF C (hnm.trans rfl) d_M_init_104 ff_M_47 (fs_M 17) rfl rfl rfl rfl 0 rfl (Nat.le_of_ble_eq_true rfl) (n := 107) rfl ?_
  refine go_aload_n C d_M_init_107 rfl 0 rfl (n := 108) rfl ?_
  refine go_sipush C (v := 216) d_M_init_108 rfl (n := 111) rfl ?_
  refine go_newaJ C d_M_init_111 wa_long (by decide) (N := 216) rfl (by decide) (by decide) (by decide) (n := 113) rfl (fun n111_14 => ?_)
  refine go_putF C (hnm.trans rfl) d_M_init_113 ff_M_50 (fs_M 18) rfl rfl rfl rfl 0 rfl (Nat.le_of_ble_eq_true rfl) (n := 116) rfl ?_
  refine go_aload_n C d_M_init_116 rfl 0 rfl (n := 117) rfl ?_
  refine go_bipush C (v := 24) d_M_init_117 rfl (n := 119) rfl ?_
  refine go_newaJ C d_M_init_119 wa_long (by decide) (N := 24) rfl (by decide) (by decide) (by decide) (n := 121) rfl (fun n119_15 => ?_)
  refine go_putF C (hnm.trans rfl) d_M_init_121 ff_M_53 (fs_M 20) rfl rfl rfl rfl 0 rfl (Nat.le_of_ble_eq_true rfl) (n := 124) rfl ?_
  refine go_aload_n C d_M_init_124 rfl 0 rfl (n := 125) rfl ?_
  refine go_bipush C (v := 24) d_M_init_125 rfl (n := 127) rfl ?_
  refine go_newaI C d_M_init_127 wa_int (by decide) (N := 24) rfl (by decide) (by decide) (by decide) (n := 129) rfl (fun n127_16 => ?_)
  refine go_putF C (hnm.trans rfl) d_M_init_129 ff_M_56 (fs_M 21) rfl rfl rfl rfl 0 rfl (Nat.le_of_ble_eq_true rfl) (n := 132) rfl ?_
  refine go_aload_n C d_M_init_132 rfl 0 rfl (n := 133) rfl ?_
  refine go_bipush C (v := 81) d_M_init_133 rfl (n := 135) rfl ?_
  refine go_newaI C d_M_init_135 wa_int (by decide) (N := 81) rfl (by decide) (by decide) (by decide) (n := 137) rfl (fun n135_17 => ?_)
  refine go_putF C (hnm.trans rfl) d_M_init_137 ff_M_59 (fs_M 22) rfl rfl rfl rfl 0 rfl (Nat.le_of_ble_eq_true rfl) (n := 140) rfl ?_
  refine go_aload_n C d_M_init_140 rfl 0 rfl (n := 141) rfl ?_
  refine go_bipush C (v := 40) d_M_init_141 rfl (n := 143) rfl ?_
  refine go_newaJ C d_M_init_143 wa_long (by decide) (N := 40) rfl (by decide) (by decide) (by decide) (n := 145) rfl (fun n143_18 => ?_)
  refine go_putF C (hnm.trans rfl) d_M_init_145 ff_M_62 (fs_M 24) rfl rfl rfl rfl 0 rfl (Nat.le_of_ble_eq_true rfl) (n := 148) rfl ?_
  refine go_aload_n C d_M_init_148 rfl 0 rfl (n := 149) rfl ?_
  refine go_bipush C (v := 40) d_M_init_149 rfl (n := 151) rfl ?_
  refine go_newaJ C d_M_init_151 wa_long (by decide) (N := 40) rfl (by decide) (by decide) (by decide) (n := 153) rfl (fun n151_19 => ?_)
  refine go_putF C (hnm.trans rfl) d_M_init_153 ff_M_65 (fs_M 25) rfl rfl rfl rfl 0 rfl (Nat.le_of_ble_eq_true rfl) (n := 156) rfl ?_
  refine go_aload_n C d_M_init_156 rfl 0 rfl (n := 157) rfl ?_
  refine go_bipush C (v := 40) d_M_init_157 rfl (n := 159) rfl ?_
  refine go_newaI C d_M_init_159 wa_int (by decide) (N := 40) rfl (by decide) (by decide) (by decide) (n := 161) rfl (fun n159_20 => ?_)
  refine go_putF C (hnm.trans rfl) d_M_init_161 ff_M_68 (fs_M 26) rfl rfl rfl rfl 0 rfl (Nat.le_of_ble_eq_true rfl) (n := 164) rfl ?_
  refine go_aload_n C d_M_init_164 rfl 0 rfl (n := 165) rfl ?_
  refine go_iconst C (v := 4) d_M_init_165 rfl (n := 166) rfl ?_
  refine go_newaJ C d_M_init_166 wa_long (by decide) (N := 4) rfl (by decide) (by decide) (by decide) (n := 168) rfl (fun n166_21 => ?_)
  refine go_putF C (hnm.trans rfl) d_M_init_168 ff_M_71 (fs_M 28) rfl rfl rfl rfl 0 rfl (Nat.le_of_ble_eq_true rfl) (n := 171) rfl ?_
  refine go_aload_n C d_M_init_171 rfl 0 rfl (n := 172) rfl ?_
  refine go_iconst C (v := 4) d_M_init_172 rfl (n := 173) rfl ?_
  refine go_newaJ C d_M_init_173 wa_long (by decide) (N := 4) rfl (by decide) (by decide) (by decide) (n := 175) rfl (fun n173_22 => ?_)
  refine go_putF C (hnm.trans rfl) d_M_init_175 ff_M_74 (fs_M 30) rfl rfl rfl rfl 0 rfl (Nat.le_of_ble_eq_true rfl) (n := 178) rfl ?_
  refine go_aload_n C d_M_init_178 rfl 0 rfl (n := 179) rfl ?_
  refine go_iconst C (v := 4) d_M_init_179 rfl (n := 180) rfl ?_
  refine go_newaI C d_M_init_180 wa_int (by decide) (N := 4) rfl (by decide) (by decide) (by decide) (n := 182) rfl (fun n180_23 => ?_)
  refine go_putF C (hnm.trans rfl) d_M_init_182 ff_M_77 (fs_M 31) rfl rfl rfl rfl 0 rfl (Nat.le_of_ble_eq_true rfl) (n := 185) rfl ?_
  refine go_aload_n C d_M_init_185 rfl 0 rfl (n := 186) rfl ?_
  refine go_bipush C (v := 96) d_M_init_186 rfl (n := 188) rfl ?_
  refine go_newaJ C d_M_init_188 wa_long (by decide) (N := 96) rfl (by decide) (by decide) (by decide) (n := 190) rfl (fun n188_24 => ?_)
  refine go_putF C (hnm.trans rfl) d_M_init_190 ff_M_80 (fs_M 32) rfl rfl rfl rfl 0 rfl (Nat.le_of_ble_eq_true rfl) (n := 193) rfl ?_
  refine go_aload_n C d_M_init_193 rfl 0 rfl (n := 194) rfl ?_
  refine go_bipush C (v := 96) d_M_init_194 rfl (n := 196) rfl ?_
  refine go_newaI C d_M_init_196 wa_int (by decide) (N := 96) rfl (by decide) (by decide) (by decide) (n := 198) rfl (fun n196_25 => ?_)
  refine go_putF C (hnm.trans rfl) d_M_init_198 ff_M_83 (fs_M 33) rfl rfl rfl rfl 0 rfl (Nat.le_of_ble_eq_true rfl) (n := 201) rfl ?_
  refine go_aload_n C d_M_init_201 rfl 0 rfl (n := 202) rfl ?_
  refine go_iconst C (v := 4) d_M_init_202 rfl (n := 203) rfl ?_
  refine go_newaI C d_M_init_203 wa_int (by decide) (N := 4) rfl (by decide) (by decide) (by decide) (n := 205) rfl (fun n203_26 => ?_)
  refine go_putF C (hnm.trans rfl) d_M_init_205 ff_M_86 (fs_M 34) rfl rfl rfl rfl 0 rfl (Nat.le_of_ble_eq_true rfl) (n := 208) rfl ?_
  exact go_vret C d_M_init_208 hr (hPOST n7_1 n15_2 n22_3 n29_4 n36_5 n44_6 n52_7 n59_8 n66_9 n75_10 n84_11 n93_12 n102_13 n111_14 n119_15 n127_16 n135_17 n143_18 n151_19 n159_20 n166_21 n173_22 n180_23 n188_24 n196_25 n203_26)

set_option maxRecDepth 100000 in
set_option maxHeartbeats 4000000 in
theorem c_Dictionary_init (l : Launch) (D : va_G) (tc : Nat → ClassId) (qt : Nat) (POST : Option Value → va_W → Prop) (hPOST : ∀ (n5_1 : Nat) (m2n7_1 : Nat) (m2n15_2 : Nat), POST none [(qt, .inr (1, [.ref n5_1, .int (0 : Int32), .int (0 : Int32), .int (0 : Int32), .int (0 : Int32)])), (n5_1, .inr (6, [.ref m2n7_1, .ref m2n15_2, .int (0 : Int32)])), (m2n7_1, .inl (tc 1, 24, .inr (.inl (fun _ => 0)))), (m2n15_2, .inl (tc 0, 24, .inl (fun _ => 0)))]) : Std l y_Dictionary_init (.code y_Dictionary_init b_Dictionary_init 1 none) { frames := 2, cells := 3, slots := 51, locals := 36 } D tc [.ref qt] [(qt, .inr (1, [.null, .int (0 : Int32), .int (0 : Int32), .int (0 : Int32), .int (0 : Int32)]))] 3 51 POST := by
  refine std_of (lv := [(0, .ref qt)]) (by decide) (Nat.le_of_ble_eq_true rfl) rfl (fun p e s m args below meth c A C hr hnm => ?_)
  refine go_aload_n C d_Dictionary_init_0 rfl 0 rfl (n := 1) rfl ?_
  refine go_objInit C d_Dictionary_init_1 oi_Dictionary_1 (Nat.le_of_ble_eq_true rfl) (Nat.le_of_ble_eq_true rfl) (n := 4) rfl ?_
  refine go_aload_n C d_Dictionary_init_4 rfl 0 rfl (n := 5) rfl ?_
  refine go_new C d_Dictionary_init_5 nw_Dictionary_7 (fs_WordList 0).1 (fs := [.null, .null, .int 0]) (fun j hj => by rcases (show j = 0 ∨ j = 1 ∨ j = 2 by omega) with rfl | rfl | rfl <;> rfl) (by decide) (by decide) (n := 8) rfl (fun n5_1 => ?_)
  refine go_dup C d_Dictionary_init_8 rfl (n := 9) rfl ?_
  refine go_callI C (As := []) (rest := [.ref n5_1, .ref qt]) (wc := [(n5_1, .inr (6, [.null, .null, .int (0 : Int32)]))]) (wr := [(qt, .inr (1, [.null, .int (0 : Int32), .int (0 : Int32), .int (0 : Int32), .int (0 : Int32)]))]) d_Dictionary_init_9 (c_WordList_init l D tc n5_1  (fun r w => r = none ∧ ∃ (m2n7_1 : Nat) (m2n15_2 : Nat), w = [(n5_1, .inr (6, [.ref m2n7_1, .ref m2n15_2, .int (0 : Int32)])), (m2n7_1, .inl (tc 1, 24, .inr (.inl (fun _ => 0)))), (m2n15_2, .inl (tc 0, 24, .inl (fun _ => 0)))]) (fun m2n7_1 m2n15_2 => ⟨rfl, m2n7_1, m2n15_2, rfl⟩)) lk_Dictionary_9 mw_WordList_init rfl wn_WordList_init rfl rfl ⟨(Nat.le_of_ble_eq_true rfl), (Nat.le_of_ble_eq_true rfl)⟩ rfl rfl (Nat.le_of_ble_eq_true rfl) ⟨(Nat.le_of_ble_eq_true rfl), (Nat.le_of_ble_eq_true rfl)⟩ [1] [0] rfl rfl (by decide) (by decide) (by decide) (n := 12) rfl ?_
  rintro _ _ ⟨rfl, m2n7_1, m2n15_2, rfl⟩
  refine go_putF C (hnm.trans rfl) d_Dictionary_init_12 ff_Dictionary_10 (fs_Dictionary 0) rfl rfl rfl rfl 0 rfl (Nat.le_of_ble_eq_true rfl) (n := 15) rfl ?_
  refine go_aload_n C d_Dictionary_init_15 rfl 0 rfl (n := 16) rfl ?_
  refine go_iconst C (v := 0) d_Dictionary_init_16 rfl (n := 17) rfl ?_
  refine go_put C d_Dictionary_init_17 fl_Dictionary_16 (fs_Dictionary 1) rfl rfl rfl 0 rfl (Nat.le_of_ble_eq_true rfl) (n := 20) rfl ?_
  refine go_aload_n C d_Dictionary_init_20 rfl 0 rfl (n := 21) rfl ?_
  refine go_iconst C (v := 0) d_Dictionary_init_21 rfl (n := 22) rfl ?_
  refine go_put C d_Dictionary_init_22 fl_Dictionary_20 (fs_Dictionary 2) rfl rfl rfl 0 rfl (Nat.le_of_ble_eq_true rfl) (n := 25) rfl ?_
  refine go_aload_n C d_Dictionary_init_25 rfl 0 rfl (n := 26) rfl ?_
  refine go_iconst C (v := 0) d_Dictionary_init_26 rfl (n := 27) rfl ?_
  refine go_put C d_Dictionary_init_27 fl_Dictionary_23 (fs_Dictionary 3) rfl rfl rfl 0 rfl (Nat.le_of_ble_eq_true rfl) (n := 30) rfl ?_
  refine go_aload_n C d_Dictionary_init_30 rfl 0 rfl (n := 31) rfl ?_
  refine go_iconst C (v := 0) d_Dictionary_init_31 rfl (n := 32) rfl ?_
  refine go_put C d_Dictionary_init_32 fl_Dictionary_26 (fs_Dictionary 4) rfl rfl rfl 0 rfl (Nat.le_of_ble_eq_true rfl) (n := 35) rfl ?_
  exact go_vret C d_Dictionary_init_35 hr (hPOST n5_1 m2n7_1 m2n15_2)
