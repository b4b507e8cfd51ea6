def g_Ruler_init_1 : Nat → Nat → Int32 := va_up (fun _ _ => 0) (0 : Int32).toNatClampNeg (upd ((fun _ _ => 0) (0 : Int32).toNatClampNeg) (0 : Int32).toNatClampNeg (0 : Int32))
def g_Ruler_init_2 : Nat → Nat → Int32 := va_up g_Ruler_init_1 (0 : Int32).toNatClampNeg (upd (g_Ruler_init_1 (0 : Int32).toNatClampNeg) (0 : Int32).toNatClampNeg (0 : Int32))
def g_Ruler_init_3 : Nat → Nat → Int32 := va_up g_Ruler_init_2 (1 : Int32).toNatClampNeg (upd (g_Ruler_init_2 (1 : Int32).toNatClampNeg) (0 : Int32).toNatClampNeg (1 : Int32))
def g_Ruler_init_4 : Nat → Nat → Int32 := va_up g_Ruler_init_3 (0 : Int32).toNatClampNeg (upd (g_Ruler_init_3 (0 : Int32).toNatClampNeg) (1 : Int32).toNatClampNeg (1 : Int32))
def g_Ruler_init_5 : Nat → Nat → Int32 := va_up g_Ruler_init_4 (2 : Int32).toNatClampNeg (upd (g_Ruler_init_4 (2 : Int32).toNatClampNeg) (0 : Int32).toNatClampNeg (2 : Int32))
def g_Ruler_init_6 : Nat → Nat → Int32 := va_up g_Ruler_init_5 (0 : Int32).toNatClampNeg (upd (g_Ruler_init_5 (0 : Int32).toNatClampNeg) (2 : Int32).toNatClampNeg (2 : Int32))
def g_Ruler_init_7 : Nat → Nat → Int32 := va_up g_Ruler_init_6 (3 : Int32).toNatClampNeg (upd (g_Ruler_init_6 (3 : Int32).toNatClampNeg) (0 : Int32).toNatClampNeg (3 : Int32))
def g_Ruler_init_8 : Nat → Nat → Int32 := va_up g_Ruler_init_7 (0 : Int32).toNatClampNeg (upd (g_Ruler_init_7 (0 : Int32).toNatClampNeg) (3 : Int32).toNatClampNeg (3 : Int32))
def g_Ruler_init_9 : Nat → Nat → Int32 := va_up g_Ruler_init_8 (4 : Int32).toNatClampNeg (upd (g_Ruler_init_8 (4 : Int32).toNatClampNeg) (0 : Int32).toNatClampNeg (4 : Int32))
def g_Ruler_init_10 : Nat → Nat → Int32 := va_up g_Ruler_init_9 (0 : Int32).toNatClampNeg (upd (g_Ruler_init_9 (0 : Int32).toNatClampNeg) (4 : Int32).toNatClampNeg (4 : Int32))
def g_Ruler_init_11 : Nat → Nat → Int32 := va_up g_Ruler_init_10 (5 : Int32).toNatClampNeg (upd (g_Ruler_init_10 (5 : Int32).toNatClampNeg) (0 : Int32).toNatClampNeg (5 : Int32))
def g_Ruler_init_12 : Nat → Nat → Int32 := va_up g_Ruler_init_11 (0 : Int32).toNatClampNeg (upd (g_Ruler_init_11 (0 : Int32).toNatClampNeg) (5 : Int32).toNatClampNeg (5 : Int32))
def g_Ruler_init_13 : Nat → Nat → Int32 := va_up g_Ruler_init_12 (6 : Int32).toNatClampNeg (upd (g_Ruler_init_12 (6 : Int32).toNatClampNeg) (0 : Int32).toNatClampNeg (6 : Int32))
def g_Ruler_init_14 : Nat → Nat → Int32 := va_up g_Ruler_init_13 (0 : Int32).toNatClampNeg (upd (g_Ruler_init_13 (0 : Int32).toNatClampNeg) (6 : Int32).toNatClampNeg (6 : Int32))
def g_Ruler_init_15 : Nat → Nat → Int32 := va_up g_Ruler_init_14 (7 : Int32).toNatClampNeg (upd (g_Ruler_init_14 (7 : Int32).toNatClampNeg) (0 : Int32).toNatClampNeg (7 : Int32))
def g_Ruler_init_16 : Nat → Nat → Int32 := va_up g_Ruler_init_15 (0 : Int32).toNatClampNeg (upd (g_Ruler_init_15 (0 : Int32).toNatClampNeg) (7 : Int32).toNatClampNeg (7 : Int32))
def g_Ruler_init_17 : Nat → Nat → Int32 := va_up g_Ruler_init_16 (8 : Int32).toNatClampNeg (upd (g_Ruler_init_16 (8 : Int32).toNatClampNeg) (0 : Int32).toNatClampNeg (8 : Int32))
def g_Ruler_init_18 : Nat → Nat → Int32 := va_up g_Ruler_init_17 (0 : Int32).toNatClampNeg (upd (g_Ruler_init_17 (0 : Int32).toNatClampNeg) (8 : Int32).toNatClampNeg (8 : Int32))
set_option maxRecDepth 100000 in
set_option maxHeartbeats 4000000 in
theorem c_Ruler_init (l : Launch) (D : va_G) (tc : Nat → ClassId) (qt : Nat) (POST : Option Value → va_W → Prop) (hPOST : ∀ (n9_1 : Nat) (rn9_1 : Nat → Nat), POST none [(qt, .inr (4, [.ref n9_1])), (n9_1, .inl (tc 3, 9, .inr (.inr (.inr (.inr (fun i => some (rn9_1 i))))))), (rn9_1 0, .inl (tc 0, 9, .inl (g_Ruler_init_18 0))), (rn9_1 1, .inl (tc 0, 9, .inl (g_Ruler_init_18 1))), (rn9_1 2, .inl (tc 0, 9, .inl (g_Ruler_init_18 2))), (rn9_1 3, .inl (tc 0, 9, .inl (g_Ruler_init_18 3))), (rn9_1 4, .inl (tc 0, 9, .inl (g_Ruler_init_18 4))), (rn9_1 5, .inl (tc 0, 9, .inl (g_Ruler_init_18 5))), (rn9_1 6, .inl (tc 0, 9, .inl (g_Ruler_init_18 6))), (rn9_1 7, .inl (tc 0, 9, .inl (g_Ruler_init_18 7))), (rn9_1 8, .inl (tc 0, 9, .inl (g_Ruler_init_18 8)))]) : Std l y_Ruler_init (.code y_Ruler_init b_Ruler_init 2 none) { frames := 1, cells := 10, slots := 90, locals := 16 } D tc [.ref qt] [(qt, .inr (4, [.null]))] 10 90 POST := by
  refine std_of (lv := [(0, .ref qt)]) (by decide) (Nat.le_of_ble_eq_true rfl) rfl (fun p e s m args below meth c A C hr hnm => ?_)
  refine go_aload_n C d_Ruler_init_0 rfl 0 rfl (n := 1) rfl ?_
  refine go_objInit C d_Ruler_init_1 oi_Ruler_3 (Nat.le_of_ble_eq_true rfl) (Nat.le_of_ble_eq_true rfl) (n := 4) rfl ?_
  refine go_aload_n C d_Ruler_init_4 rfl 0 rfl (n := 5) rfl ?_
  refine go_bipush C (v := 9) d_Ruler_init_5 rfl (n := 7) rfl ?_
  refine go_bipush C (v := 9) d_Ruler_init_7 rfl (n := 9) rfl ?_
  refine go_multi C (t0 := 0) (t3 := 3) (z := (9, .inl (fun _ => 0))) d_Ruler_init_9 mu_Ruler_9 rfl rfl (fun _ h => h) (fun _ h => h) (N := 9) (K := 9) rfl rfl (by decide) (by decide) (by decide) ⟨rfl, rfl⟩ (fun _ => rfl) (by decide) (by decide) (n := 13) rfl (fun n9_1 rn9_1 => ?_)
  refine go_eq (ws' := [(qt, .inr (4, [.null])), (n9_1, .inl (tc 3, 9, .inr (.inr (.inr (.inr (fun i => some (rn9_1 i))))))), (rn9_1 0, .inl (tc 0, 9, .inl ((fun _ _ => 0) 0))), (rn9_1 1, .inl (tc 0, 9, .inl ((fun _ _ => 0) 1))), (rn9_1 2, .inl (tc 0, 9, .inl ((fun _ _ => 0) 2))), (rn9_1 3, .inl (tc 0, 9, .inl ((fun _ _ => 0) 3))), (rn9_1 4, .inl (tc 0, 9, .inl ((fun _ _ => 0) 4))), (rn9_1 5, .inl (tc 0, 9, .inl ((fun _ _ => 0) 5))), (rn9_1 6, .inl (tc 0, 9, .inl ((fun _ _ => 0) 6))), (rn9_1 7, .inl (tc 0, 9, .inl ((fun _ _ => 0) 7))), (rn9_1 8, .inl (tc 0, 9, .inl ((fun _ _ => 0) 8)))]) rfl rfl rfl ?_
  refine go_putF C (hnm.trans rfl) d_Ruler_init_13 ff_Ruler_11 (fs_Ruler 0) rfl rfl rfl rfl 0 rfl (Nat.le_of_ble_eq_true rfl) (n := 16) rfl ?_
  refine go_iconst C (v := 0) d_Ruler_init_16 rfl (n := 17) rfl ?_
  refine go_istore_n C d_Ruler_init_17 rfl (lv' := [(1, .int (0 : Int32)), (0, .ref qt)]) (by decide) rfl (n := 18) rfl ?_
  refine go_iload_n C d_Ruler_init_18 rfl 0 rfl (n := 19) rfl ?_
  refine go_bipush C (v := 8) d_Ruler_init_19 rfl (n := 21) rfl ?_
  refine go_icmp_gt C d_Ruler_init_21 (tgt := 48) (by decide) (n := 24) rfl (fun h21 => absurd h21 (by decide)) (fun h21 => ?_)
  refine go_aload_n C d_Ruler_init_24 rfl 1 rfl (n := 25) rfl ?_
  refine go_get C d_Ruler_init_25 fl_Ruler_11 0 rfl rfl (n := 28) rfl ?_
  refine go_iload_n C d_Ruler_init_28 rfl 0 rfl (n := 29) rfl ?_
  refine go_aaldR C d_Ruler_init_29 1 3 rfl rfl rfl (by decide) (n := 30) rfl ?_
  refine go_iconst C (v := 0) d_Ruler_init_30 rfl (n := 31) rfl ?_
  refine go_iload_n C d_Ruler_init_31 rfl 0 rfl (n := 32) rfl ?_
  refine go_iastR C (K := 9) (N := 9) (M := (fun _ _ => 0)) d_Ruler_init_32 2 (rows9 rfl rfl rfl rfl rfl rfl rfl rfl rfl) (WS := fun M2 => [(qt, .inr (4, [.ref n9_1])), (n9_1, .inl (tc 3, 9, .inr (.inr (.inr (.inr (fun i => some (rn9_1 i))))))), (rn9_1 0, .inl (tc 0, 9, .inl (M2 0))), (rn9_1 1, .inl (tc 0, 9, .inl (M2 1))), (rn9_1 2, .inl (tc 0, 9, .inl (M2 2))), (rn9_1 3, .inl (tc 0, 9, .inl (M2 3))), (rn9_1 4, .inl (tc 0, 9, .inl (M2 4))), (rn9_1 5, .inl (tc 0, 9, .inl (M2 5))), (rn9_1 6, .inl (tc 0, 9, .inl (M2 6))), (rn9_1 7, .inl (tc 0, 9, .inl (M2 7))), (rn9_1 8, .inl (tc 0, 9, .inl (M2 8)))]) (rows9 (fun _ => rfl) (fun _ => rfl) (fun _ => rfl) (fun _ => rfl) (fun _ => rfl) (fun _ => rfl) (fun _ => rfl) (fun _ => rfl) (fun _ => rfl)) (by decide) (by decide) (n := 33) rfl ?_
  obtain ⟨w_1, hw_1⟩ : ∃ w, w = g_Ruler_init_1 := ⟨_, rfl⟩
  refine go_eq (ws' := [(qt, .inr (4, [.ref n9_1])), (n9_1, .inl (tc 3, 9, .inr (.inr (.inr (.inr (fun i => some (rn9_1 i))))))), (rn9_1 0, .inl (tc 0, 9, .inl (w_1 0))), (rn9_1 1, .inl (tc 0, 9, .inl (w_1 1))), (rn9_1 2, .inl (tc 0, 9, .inl (w_1 2))), (rn9_1 3, .inl (tc 0, 9, .inl (w_1 3))), (rn9_1 4, .inl (tc 0, 9, .inl (w_1 4))), (rn9_1 5, .inl (tc 0, 9, .inl (w_1 5))), (rn9_1 6, .inl (tc 0, 9, .inl (w_1 6))), (rn9_1 7, .inl (tc 0, 9, .inl (w_1 7))), (rn9_1 8, .inl (tc 0, 9, .inl (w_1 8)))]) (by rw [hw_1, g_Ruler_init_1]) rfl rfl ?_
  refine go_aload_n C d_Ruler_init_33 rfl 1 rfl (n := 34) rfl ?_
  refine go_get C d_Ruler_init_34 fl_Ruler_11 0 rfl rfl (n := 37) rfl ?_
  refine go_iconst C (v := 0) d_Ruler_init_37 rfl (n := 38) rfl ?_
  refine go_aaldR C d_Ruler_init_38 1 3 rfl rfl rfl (by decide) (n := 39) rfl ?_
  refine go_iload_n C d_Ruler_init_39 rfl 0 rfl (n := 40) rfl ?_
  refine go_iload_n C d_Ruler_init_40 rfl 0 rfl (n := 41) rfl ?_
  refine go_iastR C (K := 9) (N := 9) (M := w_1) d_Ruler_init_41 2 (rows9 rfl rfl rfl rfl rfl rfl rfl rfl rfl) (WS := fun M2 => [(qt, .inr (4, [.ref n9_1])), (n9_1, .inl (tc 3, 9, .inr (.inr (.inr (.inr (fun i => some (rn9_1 i))))))), (rn9_1 0, .inl (tc 0, 9, .inl (M2 0))), (rn9_1 1, .inl (tc 0, 9, .inl (M2 1))), (rn9_1 2, .inl (tc 0, 9, .inl (M2 2))), (rn9_1 3, .inl (tc 0, 9, .inl (M2 3))), (rn9_1 4, .inl (tc 0, 9, .inl (M2 4))), (rn9_1 5, .inl (tc 0, 9, .inl (M2 5))), (rn9_1 6, .inl (tc 0, 9, .inl (M2 6))), (rn9_1 7, .inl (tc 0, 9, .inl (M2 7))), (rn9_1 8, .inl (tc 0, 9, .inl (M2 8)))]) (rows9 (fun _ => rfl) (fun _ => rfl) (fun _ => rfl) (fun _ => rfl) (fun _ => rfl) (fun _ => rfl) (fun _ => rfl) (fun _ => rfl) (fun _ => rfl)) (by decide) (by decide) (n := 42) rfl ?_
  obtain ⟨w_2, hw_2⟩ : ∃ w, w = g_Ruler_init_2 := ⟨_, rfl⟩
  refine go_eq (ws' := [(qt, .inr (4, [.ref n9_1])), (n9_1, .inl (tc 3, 9, .inr (.inr (.inr (.inr (fun i => some (rn9_1 i))))))), (rn9_1 0, .inl (tc 0, 9, .inl (w_2 0))), (rn9_1 1, .inl (tc 0, 9, .inl (w_2 1))), (rn9_1 2, .inl (tc 0, 9, .inl (w_2 2))), (rn9_1 3, .inl (tc 0, 9, .inl (w_2 3))), (rn9_1 4, .inl (tc 0, 9, .inl (w_2 4))), (rn9_1 5, .inl (tc 0, 9, .inl (w_2 5))), (rn9_1 6, .inl (tc 0, 9, .inl (w_2 6))), (rn9_1 7, .inl (tc 0, 9, .inl (w_2 7))), (rn9_1 8, .inl (tc 0, 9, .inl (w_2 8)))]) (by rw [hw_2, g_Ruler_init_2, ← hw_1]) rfl rfl ?_
  refine go_iinc C d_Ruler_init_42 0 rfl (v := (1 : Int32)) rfl (lv' := [(1, .int (1 : Int32)), (0, .ref qt)]) (by decide) rfl (n := 45) rfl ?_
  refine go_goto C d_Ruler_init_45 (tgt := 18) (by decide) ?_
  refine go_iload_n C d_Ruler_init_18 rfl 0 rfl (n := 19) rfl ?_
  refine go_bipush C (v := 8) d_Ruler_init_19 rfl (n := 21) rfl ?_
  refine go_icmp_gt C d_Ruler_init_21 (tgt := 48) (by decide) (n := 24) rfl (fun h21 => absurd h21 (by decide)) (fun h21 => ?_)
  refine go_aload_n C d_Ruler_init_24 rfl 1 rfl (n := 25) rfl ?_
  refine go_get C d_Ruler_init_25 fl_Ruler_11 0 rfl rfl (n := 28) rfl ?_
  refine go_iload_n C d_Ruler_init_28 rfl 0 rfl (n := 29) rfl ?_
  refine go_aaldR C d_Ruler_init_29 1 3 rfl rfl rfl (by decide) (n := 30) rfl ?_
  refine go_iconst C (v := 0) d_Ruler_init_30 rfl (n := 31) rfl ?_
  refine go_iload_n C d_Ruler_init_31 rfl 0 rfl (n := 32) rfl ?_
  refine go_iastR C (K := 9) (N := 9) (M := w_2) d_Ruler_init_32 2 (rows9 rfl rfl rfl rfl rfl rfl rfl rfl rfl) (WS := fun M2 => [(qt, .inr (4, [.ref n9_1])), (n9_1, .inl (tc 3, 9, .inr (.inr (.inr (.inr (fun i => some (rn9_1 i))))))), (rn9_1 0, .inl (tc 0, 9, .inl (M2 0))), (rn9_1 1, .inl (tc 0, 9, .inl (M2 1))), (rn9_1 2, .inl (tc 0, 9, .inl (M2 2))), (rn9_1 3, .inl (tc 0, 9, .inl (M2 3))), (rn9_1 4, .inl (tc 0, 9, .inl (M2 4))), (rn9_1 5, .inl (tc 0, 9, .inl (M2 5))), (rn9_1 6, .inl (tc 0, 9, .inl (M2 6))), (rn9_1 7, .inl (tc 0, 9, .inl (M2 7))), (rn9_1 8, .inl (tc 0, 9, .inl (M2 8)))]) (rows9 (fun _ => rfl) (fun _ => rfl) (fun _ => rfl) (fun _ => rfl) (fun _ => rfl) (fun _ => rfl) (fun _ => rfl) (fun _ => rfl) (fun _ => rfl)) (by decide) (by decide) (n := 33) rfl ?_
  obtain ⟨w_3, hw_3⟩ : ∃ w, w = g_Ruler_init_3 := ⟨_, rfl⟩
  refine go_eq (ws' := [(qt, .inr (4, [.ref n9_1])), (n9_1, .inl (tc 3, 9, .inr (.inr (.inr (.inr (fun i => some (rn9_1 i))))))), (rn9_1 0, .inl (tc 0, 9, .inl (w_3 0))), (rn9_1 1, .inl (tc 0, 9, .inl (w_3 1))), (rn9_1 2, .inl (tc 0, 9, .inl (w_3 2))), (rn9_1 3, .inl (tc 0, 9, .inl (w_3 3))), (rn9_1 4, .inl (tc 0, 9, .inl (w_3 4))), (rn9_1 5, .inl (tc 0, 9, .inl (w_3 5))), (rn9_1 6, .inl (tc 0, 9, .inl (w_3 6))), (rn9_1 7, .inl (tc 0, 9, .inl (w_3 7))), (rn9_1 8, .inl (tc 0, 9, .inl (w_3 8)))]) (by rw [hw_3, g_Ruler_init_3, ← hw_2]) rfl rfl ?_
  refine go_aload_n C d_Ruler_init_33 rfl 1 rfl (n := 34) rfl ?_
  refine go_get C d_Ruler_init_34 fl_Ruler_11 0 rfl rfl (n := 37) rfl ?_
  refine go_iconst C (v := 0) d_Ruler_init_37 rfl (n := 38) rfl ?_
  refine go_aaldR C d_Ruler_init_38 1 3 rfl rfl rfl (by decide) (n := 39) rfl ?_
  refine go_iload_n C d_Ruler_init_39 rfl 0 rfl (n := 40) rfl ?_
  refine go_iload_n C d_Ruler_init_40 rfl 0 rfl (n := 41) rfl ?_
  refine go_iastR C (K := 9) (N := 9) (M := w_3) d_Ruler_init_41 2 (rows9 rfl rfl rfl rfl rfl rfl rfl rfl rfl) (WS := fun M2 => [(qt, .inr (4, [.ref n9_1])), (n9_1, .inl (tc 3, 9, .inr (.inr (.inr (.inr (fun i => some (rn9_1 i))))))), (rn9_1 0, .inl (tc 0, 9, .inl (M2 0))), (rn9_1 1, .inl (tc 0, 9, .inl (M2 1))), (rn9_1 2, .inl (tc 0, 9, .inl (M2 2))), (rn9_1 3, .inl (tc 0, 9, .inl (M2 3))), (rn9_1 4, .inl (tc 0, 9, .inl (M2 4))), (rn9_1 5, .inl (tc 0, 9, .inl (M2 5))), (rn9_1 6, .inl (tc 0, 9, .inl (M2 6))), (rn9_1 7, .inl (tc 0, 9, .inl (M2 7))), (rn9_1 8, .inl (tc 0, 9, .inl (M2 8)))]) (rows9 (fun _ => rfl) (fun _ => rfl) (fun _ => rfl) (fun _ => rfl) (fun _ => rfl) (fun _ => rfl) (fun _ => rfl) (fun _ => rfl) (fun _ => rfl)) (by decide) (by decide) (n := 42) rfl ?_
  obtain ⟨w_4, hw_4⟩ : ∃ w, w = g_Ruler_init_4 := ⟨_, rfl⟩
  refine go_eq (ws' := [(qt, .inr (4, [.ref n9_1])), (n9_1, .inl (tc 3, 9, .inr (.inr (.inr (.inr (fun i => some (rn9_1 i))))))), (rn9_1 0, .inl (tc 0, 9, .inl (w_4 0))), (rn9_1 1, .inl (tc 0, 9, .inl (w_4 1))), (rn9_1 2, .inl (tc 0, 9, .inl (w_4 2))), (rn9_1 3, .inl (tc 0, 9, .inl (w_4 3))), (rn9_1 4, .inl (tc 0, 9, .inl (w_4 4))), (rn9_1 5, .inl (tc 0, 9, .inl (w_4 5))), (rn9_1 6, .inl (tc 0, 9, .inl (w_4 6))), (rn9_1 7, .inl (tc 0, 9, .inl (w_4 7))), (rn9_1 8, .inl (tc 0, 9, .inl (w_4 8)))]) (by rw [hw_4, g_Ruler_init_4, ← hw_3]) rfl rfl ?_
  refine go_iinc C d_Ruler_init_42 0 rfl (v := (2 : Int32)) rfl (lv' := [(1, .int (2 : Int32)), (0, .ref qt)]) (by decide) rfl (n := 45) rfl ?_
  refine go_goto C d_Ruler_init_45 (tgt := 18) (by decide) ?_
  refine go_iload_n C d_Ruler_init_18 rfl 0 rfl (n := 19) rfl ?_
  refine go_bipush C (v := 8) d_Ruler_init_19 rfl (n := 21) rfl ?_
  refine go_icmp_gt C d_Ruler_init_21 (tgt := 48) (by decide) (n := 24) rfl (fun h21 => absurd h21 (by decide)) (fun h21 => ?_)
  refine go_aload_n C d_Ruler_init_24 rfl 1 rfl (n := 25) rfl ?_
  refine go_get C d_Ruler_init_25 fl_Ruler_11 0 rfl rfl (n := 28) rfl ?_
  refine go_iload_n C d_Ruler_init_28 rfl 0 rfl (n := 29) rfl ?_
  refine go_aaldR C d_Ruler_init_29 1 3 rfl rfl rfl (by decide) (n := 30) rfl ?_
  refine go_iconst C (v := 0) d_Ruler_init_30 rfl (n := 31) rfl ?_
  refine go_iload_n C d_Ruler_init_31 rfl 0 rfl (n := 32) rfl ?_
  refine go_iastR C (K := 9) (N := 9) (M := w_4) d_Ruler_init_32 2 (rows9 rfl rfl rfl rfl rfl rfl rfl rfl rfl) (WS := fun M2 => [(qt, .inr (4, [.ref n9_1])), (n9_1, .inl (tc 3, 9, .inr (.inr (.inr (.inr (fun i => some (rn9_1 i))))))), (rn9_1 0, .inl (tc 0, 9, .inl (M2 0))), (rn9_1 1, .inl (tc 0, 9, .inl (M2 1))), (rn9_1 2, .inl (tc 0, 9, .inl (M2 2))), (rn9_1 3, .inl (tc 0, 9, .inl (M2 3))), (rn9_1 4, .inl (tc 0, 9, .inl (M2 4))), (rn9_1 5, .inl (tc 0, 9, .inl (M2 5))), (rn9_1 6, .inl (tc 0, 9, .inl (M2 6))), (rn9_1 7, .inl (tc 0, 9, .inl (M2 7))), (rn9_1 8, .inl (tc 0, 9, .inl (M2 8)))]) (rows9 (fun _ => rfl) (fun _ => rfl) (fun _ => rfl) (fun _ => rfl) (fun _ => rfl) (fun _ => rfl) (fun _ => rfl) (fun _ => rfl) (fun _ => rfl)) (by decide) (by decide) (n := 33) rfl ?_
  obtain ⟨w_5, hw_5⟩ : ∃ w, w = g_Ruler_init_5 := ⟨_, rfl⟩
  refine go_eq (ws' := [(qt, .inr (4, [.ref n9_1])), (n9_1, .inl (tc 3, 9, .inr (.inr (.inr (.inr (fun i => some (rn9_1 i))))))), (rn9_1 0, .inl (tc 0, 9, .inl (w_5 0))), (rn9_1 1, .inl (tc 0, 9, .inl (w_5 1))), (rn9_1 2, .inl (tc 0, 9, .inl (w_5 2))), (rn9_1 3, .inl (tc 0, 9, .inl (w_5 3))), (rn9_1 4, .inl (tc 0, 9, .inl (w_5 4))), (rn9_1 5, .inl (tc 0, 9, .inl (w_5 5))), (rn9_1 6, .inl (tc 0, 9, .inl (w_5 6))), (rn9_1 7, .inl (tc 0, 9, .inl (w_5 7))), (rn9_1 8, .inl (tc 0, 9, .inl (w_5 8)))]) (by rw [hw_5, g_Ruler_init_5, ← hw_4]) rfl rfl ?_
  refine go_aload_n C d_Ruler_init_33 rfl 1 rfl (n := 34) rfl ?_
  refine go_get C d_Ruler_init_34 fl_Ruler_11 0 rfl rfl (n := 37) rfl ?_
  refine go_iconst C (v := 0) d_Ruler_init_37 rfl (n := 38) rfl ?_
  refine go_aaldR C d_Ruler_init_38 1 3 rfl rfl rfl (by decide) (n := 39) rfl ?_
  refine go_iload_n C d_Ruler_init_39 rfl 0 rfl (n := 40) rfl ?_
  refine go_iload_n C d_Ruler_init_40 rfl 0 rfl (n := 41) rfl ?_
  refine go_iastR C (K := 9) (N := 9) (M := w_5) d_Ruler_init_41 2 (rows9 rfl rfl rfl rfl rfl rfl rfl rfl rfl) (WS := fun M2 => [(qt, .inr (4, [.ref n9_1])), (n9_1, .inl (tc 3, 9, .inr (.inr (.inr (.inr (fun i => some (rn9_1 i))))))), (rn9_1 0, .inl (tc 0, 9, .inl (M2 0))), (rn9_1 1, .inl (tc 0, 9, .inl (M2 1))), (rn9_1 2, .inl (tc 0, 9, .inl (M2 2))), (rn9_1 3, .inl (tc 0, 9, .inl (M2 3))), (rn9_1 4, .inl (tc 0, 9, .inl (M2 4))), (rn9_1 5, .inl (tc 0, 9, .inl (M2 5))), (rn9_1 6, .inl (tc 0, 9, .inl (M2 6))), (rn9_1 7, .inl (tc 0, 9, .inl (M2 7))), (rn9_1 8, .inl (tc 0, 9, .inl (M2 8)))]) (rows9 (fun _ => rfl) (fun _ => rfl) (fun _ => rfl) (fun _ => rfl) (fun _ => rfl) (fun _ => rfl) (fun _ => rfl) (fun _ => rfl) (fun _ => rfl)) (by decide) (by decide) (n := 42) rfl ?_
  obtain ⟨w_6, hw_6⟩ : ∃ w, w = g_Ruler_init_6 := ⟨_, rfl⟩
  refine go_eq (ws' := [(qt, .inr (4, [.ref n9_1])), (n9_1, .inl (tc 3, 9, .inr (.inr (.inr (.inr (fun i => some (rn9_1 i))))))), (rn9_1 0, .inl (tc 0, 9, .inl (w_6 0))), (rn9_1 1, .inl (tc 0, 9, .inl (w_6 1))), (rn9_1 2, .inl (tc 0, 9, .inl (w_6 2))), (rn9_1 3, .inl (tc 0, 9, .inl (w_6 3))), (rn9_1 4, .inl (tc 0, 9, .inl (w_6 4))), (rn9_1 5, .inl (tc 0, 9, .inl (w_6 5))), (rn9_1 6, .inl (tc 0, 9, .inl (w_6 6))), (rn9_1 7, .inl (tc 0, 9, .inl (w_6 7))), (rn9_1 8, .inl (tc 0, 9, .inl (w_6 8)))]) (by rw [hw_6, g_Ruler_init_6, ← hw_5]) rfl rfl ?_
  refine go_iinc C d_Ruler_init_42 0 rfl (v := (3 : Int32)) rfl (lv' := [(1, .int (3 : Int32)), (0, .ref qt)]) (by decide) rfl (n := 45) rfl ?_
  refine go_goto C d_Ruler_init_45 (tgt := 18) (by decide) ?_
  refine go_iload_n C d_Ruler_init_18 rfl 0 rfl (n := 19) rfl ?_
  refine go_bipush C (v := 8) d_Ruler_init_19 rfl (n := 21) rfl ?_
  refine go_icmp_gt C d_Ruler_init_21 (tgt := 48) (by decide) (n := 24) rfl (fun h21 => absurd h21 (by decide)) (fun h21 => ?_)
  refine go_aload_n C d_Ruler_init_24 rfl 1 rfl (n := 25) rfl ?_
  refine go_get C d_Ruler_init_25 fl_Ruler_11 0 rfl rfl (n := 28) rfl ?_
  refine go_iload_n C d_Ruler_init_28 rfl 0 rfl (n := 29) rfl ?_
  refine go_aaldR C d_Ruler_init_29 1 3 rfl rfl rfl (by decide) (n := 30) rfl ?_
  refine go_iconst C (v := 0) d_Ruler_init_30 rfl (n := 31) rfl ?_
  refine go_iload_n C d_Ruler_init_31 rfl 0 rfl (n := 32) rfl ?_
  refine go_iastR C (K := 9) (N := 9) (M := w_6) d_Ruler_init_32 2 (rows9 rfl rfl rfl rfl rfl rfl rfl rfl rfl) (WS := fun M2 => [(qt, .inr (4, [.ref n9_1])), (n9_1, .inl (tc 3, 9, .inr (.inr (.inr (.inr (fun i => some (rn9_1 i))))))), (rn9_1 0, .inl (tc 0, 9, .inl (M2 0))), (rn9_1 1, .inl (tc 0, 9, .inl (M2 1))), (rn9_1 2, .inl (tc 0, 9, .inl (M2 2))), (rn9_1 3, .inl (tc 0, 9, .inl (M2 3))), (rn9_1 4, .inl (tc 0, 9, .inl (M2 4))), (rn9_1 5, .inl (tc 0, 9, .inl (M2 5))), (rn9_1 6, .inl (tc 0, 9, .inl (M2 6))), (rn9_1 7, .inl (tc 0, 9, .inl (M2 7))), (rn9_1 8, .inl (tc 0, 9, .inl (M2 8)))]) (rows9 (fun _ => rfl) (fun _ => rfl) (fun _ => rfl) (fun _ => rfl) (fun _ => rfl) (fun _ => rfl) (fun _ => rfl) (fun _ => rfl) (fun _ => rfl)) (by decide) (by decide) (n := 33) rfl ?_
  obtain ⟨w_7, hw_7⟩ : ∃ w, w = g_Ruler_init_7 := ⟨_, rfl⟩
  refine go_eq (ws' := [(qt, .inr (4, [.ref n9_1])), (n9_1, .inl (tc 3, 9, .inr (.inr (.inr (.inr (fun i => some (rn9_1 i))))))), (rn9_1 0, .inl (tc 0, 9, .inl (w_7 0))), (rn9_1 1, .inl (tc 0, 9, .inl (w_7 1))), (rn9_1 2, .inl (tc 0, 9, .inl (w_7 2))), (rn9_1 3, .inl (tc 0, 9, .inl (w_7 3))), (rn9_1 4, .inl (tc 0, 9, .inl (w_7 4))), (rn9_1 5, .inl (tc 0, 9, .inl (w_7 5))), (rn9_1 6, .inl (tc 0, 9, .inl (w_7 6))), (rn9_1 7, .inl (tc 0, 9, .inl (w_7 7))), (rn9_1 8, .inl (tc 0, 9, .inl (w_7 8)))]) (by rw [hw_7, g_Ruler_init_7, ← hw_6]) rfl rfl ?_
  refine go_aload_n C d_Ruler_init_33 rfl 1 rfl (n := 34) rfl ?_
  refine go_get C d_Ruler_init_34 fl_Ruler_11 0 rfl rfl (n := 37) rfl ?_
  refine go_iconst C (v := 0) d_Ruler_init_37 rfl (n := 38) rfl ?_
  refine go_aaldR C d_Ruler_init_38 1 3 rfl rfl rfl (by decide) (n := 39) rfl ?_
  refine go_iload_n C d_Ruler_init_39 rfl 0 rfl (n := 40) rfl ?_
  refine go_iload_n C d_Ruler_init_40 rfl 0 rfl (n := 41) rfl ?_
  refine go_iastR C (K := 9) (N := 9) (M := w_7) d_Ruler_init_41 2 (rows9 rfl rfl rfl rfl rfl rfl rfl rfl rfl) (WS := fun M2 => [(qt, .inr (4, [.ref n9_1])), (n9_1, .inl (tc 3, 9, .inr (.inr (.inr (.inr (fun i => some (rn9_1 i))))))), (rn9_1 0, .inl (tc 0, 9, .inl (M2 0))), (rn9_1 1, .inl (tc 0, 9, .inl (M2 1))), (rn9_1 2, .inl (tc 0, 9, .inl (M2 2))), (rn9_1 3, .inl (tc 0, 9, .inl (M2 3))), (rn9_1 4, .inl (tc 0, 9, .inl (M2 4))), (rn9_1 5, .inl (tc 0, 9, .inl (M2 5))), (rn9_1 6, .inl (tc 0, 9, .inl (M2 6))), (rn9_1 7, .inl (tc 0, 9, .inl (M2 7))), (rn9_1 8, .inl (tc 0, 9, .inl (M2 8)))]) (rows9 (fun _ => rfl) (fun _ => rfl) (fun _ => rfl) (fun _ => rfl) (fun _ => rfl) (fun _ => rfl) (fun _ => rfl) (fun _ => rfl) (fun _ => rfl)) (by decide) (by decide) (n := 42) rfl ?_
  obtain ⟨w_8, hw_8⟩ : ∃ w, w = g_Ruler_init_8 := ⟨_, rfl⟩
  refine go_eq (ws' := [(qt, .inr (4, [.ref n9_1])), (n9_1, .inl (tc 3, 9, .inr (.inr (.inr (.inr (fun i => some (rn9_1 i))))))), (rn9_1 0, .inl (tc 0, 9, .inl (w_8 0))), (rn9_1 1, .inl (tc 0, 9, .inl (w_8 1))), (rn9_1 2, .inl (tc 0, 9, .inl (w_8 2))), (rn9_1 3, .inl (tc 0, 9, .inl (w_8 3))), (rn9_1 4, .inl (tc 0, 9, .inl (w_8 4))), (rn9_1 5, .inl (tc 0, 9, .inl (w_8 5))), (rn9_1 6, .inl (tc 0, 9, .inl (w_8 6))), (rn9_1 7, .inl (tc 0, 9, .inl (w_8 7))), (rn9_1 8, .inl (tc 0, 9, .inl (w_8 8)))]) (by rw [hw_8, g_Ruler_init_8, ← hw_7]) rfl rfl ?_
  refine go_iinc C d_Ruler_init_42 0 rfl (v := (4 : Int32)) rfl (lv' := [(1, .int (4 : Int32)), (0, .ref qt)]) (by decide) rfl (n := 45) rfl ?_
  refine go_goto C d_Ruler_init_45 (tgt := 18) (by decide) ?_
  refine go_iload_n C d_Ruler_init_18 rfl 0 rfl (n := 19) rfl ?_
  refine go_bipush C (v := 8) d_Ruler_init_19 rfl (n := 21) rfl ?_
  refine go_icmp_gt C d_Ruler_init_21 (tgt := 48) (by decide) (n := 24) rfl (fun h21 => absurd h21 (by decide)) (fun h21 => ?_)
  refine go_aload_n C d_Ruler_init_24 rfl 1 rfl (n := 25) rfl ?_
  refine go_get C d_Ruler_init_25 fl_Ruler_11 0 rfl rfl (n := 28) rfl ?_
  refine go_iload_n C d_Ruler_init_28 rfl 0 rfl (n := 29) rfl ?_
  refine go_aaldR C d_Ruler_init_29 1 3 rfl rfl rfl (by decide) (n := 30) rfl ?_
  refine go_iconst C (v := 0) d_Ruler_init_30 rfl (n := 31) rfl ?_
  refine go_iload_n C d_Ruler_init_31 rfl 0 rfl (n := 32) rfl ?_
  refine go_iastR C (K := 9) (N := 9) (M := w_8) d_Ruler_init_32 2 (rows9 rfl rfl rfl rfl rfl rfl rfl rfl rfl) (WS := fun M2 => [(qt, .inr (4, [.ref n9_1])), (n9_1, .inl (tc 3, 9, .inr (.inr (.inr (.inr (fun i => some (rn9_1 i))))))), (rn9_1 0, .inl (tc 0, 9, .inl (M2 0))), (rn9_1 1, .inl (tc 0, 9, .inl (M2 1))), (rn9_1 2, .inl (tc 0, 9, .inl (M2 2))), (rn9_1 3, .inl (tc 0, 9, .inl (M2 3))), (rn9_1 4, .inl (tc 0, 9, .inl (M2 4))), (rn9_1 5, .inl (tc 0, 9, .inl (M2 5))), (rn9_1 6, .inl (tc 0, 9, .inl (M2 6))), (rn9_1 7, .inl (tc 0, 9, .inl (M2 7))), (rn9_1 8, .inl (tc 0, 9, .inl (M2 8)))]) (rows9 (fun _ => rfl) (fun _ => rfl) (fun _ => rfl) (fun _ => rfl) (fun _ => rfl) (fun _ => rfl) (fun _ => rfl) (fun _ => rfl) (fun _ => rfl)) (by decide) (by decide) (n := 33) rfl ?_
  obtain ⟨w_9, hw_9⟩ : ∃ w, w = g_Ruler_init_9 := ⟨_, rfl⟩
  refine go_eq (ws' := [(qt, .inr (4, [.ref n9_1])), (n9_1, .inl (tc 3, 9, .inr (.inr (.inr (.inr (fun i => some (rn9_1 i))))))), (rn9_1 0, .inl (tc 0, 9, .inl (w_9 0))), (rn9_1 1, .inl (tc 0, 9, .inl (w_9 1))), (rn9_1 2, .inl (tc 0, 9, .inl (w_9 2))), (rn9_1 3, .inl (tc 0, 9, .inl (w_9 3))), (rn9_1 4, .inl (tc 0, 9, .inl (w_9 4))), (rn9_1 5, .inl (tc 0, 9, .inl (w_9 5))), (rn9_1 6, .inl (tc 0, 9, .inl (w_9 6))), (rn9_1 7, .inl (tc 0, 9, .inl (w_9 7))), (rn9_1 8, .inl (tc 0, 9, .inl (w_9 8)))]) (by rw [hw_9, g_Ruler_init_9, ← hw_8]) rfl rfl ?_
  refine go_aload_n C d_Ruler_init_33 rfl 1 rfl (n := 34) rfl ?_
  refine go_get C d_Ruler_init_34 fl_Ruler_11 0 rfl rfl (n := 37) rfl ?_
  refine go_iconst C (v := 0) d_Ruler_init_37 rfl (n := 38) rfl ?_
  refine go_aaldR C d_Ruler_init_38 1 3 rfl rfl rfl (by decide) (n := 39) rfl ?_
  refine go_iload_n C d_Ruler_init_39 rfl 0 rfl (n := 40) rfl ?_
  refine go_iload_n C d_Ruler_init_40 rfl 0 rfl (n := 41) rfl ?_
  refine go_iastR C (K := 9) (N := 9) (M := w_9) d_Ruler_init_41 2 (rows9 rfl rfl rfl rfl rfl rfl rfl rfl rfl) (WS := fun M2 => [(qt, .inr (4, [.ref n9_1])), (n9_1, .inl (tc 3, 9, .inr (.inr (.inr (.inr (fun i => some (rn9_1 i))))))), (rn9_1 0, .inl (tc 0, 9, .inl (M2 0))), (rn9_1 1, .inl (tc 0, 9, .inl (M2 1))), (rn9_1 2, .inl (tc 0, 9, .inl (M2 2))), (rn9_1 3, .inl (tc 0, 9, .inl (M2 3))), (rn9_1 4, .inl (tc 0, 9, .inl (M2 4))), (rn9_1 5, .inl (tc 0, 9, .inl (M2 5))), (rn9_1 6, .inl (tc 0, 9, .inl (M2 6))), (rn9_1 7, .inl (tc 0, 9, .inl (M2 7))), (rn9_1 8, .inl (tc 0, 9, .inl (M2 8)))]) (rows9 (fun _ => rfl) (fun _ => rfl) (fun _ => rfl) (fun _ => rfl) (fun _ => rfl) (fun _ => rfl) (fun _ => rfl) (fun _ => rfl) (fun _ => rfl)) (by decide) (by decide) (n := 42) rfl ?_
  obtain ⟨w_10, hw_10⟩ : ∃ w, w = g_Ruler_init_10 := ⟨_, rfl⟩
  refine go_eq (ws' := [(qt, .inr (4, [.ref n9_1])), (n9_1, .inl (tc 3, 9, .inr (.inr (.inr (.inr (fun i => some (rn9_1 i))))))), (rn9_1 0, .inl (tc 0, 9, .inl (w_10 0))), (rn9_1 1, .inl (tc 0, 9, .inl (w_10 1))), (rn9_1 2, .inl (tc 0, 9, .inl (w_10 2))), (rn9_1 3, .inl (tc 0, 9, .inl (w_10 3))), (rn9_1 4, .inl (tc 0, 9, .inl (w_10 4))), (rn9_1 5, .inl (tc 0, 9, .inl (w_10 5))), (rn9_1 6, .inl (tc 0, 9, .inl (w_10 6))), (rn9_1 7, .inl (tc 0, 9, .inl (w_10 7))), (rn9_1 8, .inl (tc 0, 9, .inl (w_10 8)))]) (by rw [hw_10, g_Ruler_init_10, ← hw_9]) rfl rfl ?_
  refine go_iinc C d_Ruler_init_42 0 rfl (v := (5 : Int32)) rfl (lv' := [(1, .int (5 : Int32)), (0, .ref qt)]) (by decide) rfl (n := 45) rfl ?_
  refine go_goto C d_Ruler_init_45 (tgt := 18) (by decide) ?_
  refine go_iload_n C d_Ruler_init_18 rfl 0 rfl (n := 19) rfl ?_
  refine go_bipush C (v := 8) d_Ruler_init_19 rfl (n := 21) rfl ?_
  refine go_icmp_gt C d_Ruler_init_21 (tgt := 48) (by decide) (n := 24) rfl (fun h21 => absurd h21 (by decide)) (fun h21 => ?_)
  refine go_aload_n C d_Ruler_init_24 rfl 1 rfl (n := 25) rfl ?_
  refine go_get C d_Ruler_init_25 fl_Ruler_11 0 rfl rfl (n := 28) rfl ?_
  refine go_iload_n C d_Ruler_init_28 rfl 0 rfl (n := 29) rfl ?_
  refine go_aaldR C d_Ruler_init_29 1 3 rfl rfl rfl (by decide) (n := 30) rfl ?_
  refine go_iconst C (v := 0) d_Ruler_init_30 rfl (n := 31) rfl ?_
  refine go_iload_n C d_Ruler_init_31 rfl 0 rfl (n := 32) rfl ?_
  refine go_iastR C (K := 9) (N := 9) (M := w_10) d_Ruler_init_32 2 (rows9 rfl rfl rfl rfl rfl rfl rfl rfl rfl) (WS := fun M2 => [(qt, .inr (4, [.ref n9_1])), (n9_1, .inl (tc 3, 9, .inr (.inr (.inr (.inr (fun i => some (rn9_1 i))))))), (rn9_1 0, .inl (tc 0, 9, .inl (M2 0))), (rn9_1 1, .inl (tc 0, 9, .inl (M2 1))), (rn9_1 2, .inl (tc 0, 9, .inl (M2 2))), (rn9_1 3, .inl (tc 0, 9, .inl (M2 3))), (rn9_1 4, .inl (tc 0, 9, .inl (M2 4))), (rn9_1 5, .inl (tc 0, 9, .inl (M2 5))), (rn9_1 6, .inl (tc 0, 9, .inl (M2 6))), (rn9_1 7, .inl (tc 0, 9, .inl (M2 7))), (rn9_1 8, .inl (tc 0, 9, .inl (M2 8)))]) (rows9 (fun _ => rfl) (fun _ => rfl) (fun _ => rfl) (fun _ => rfl) (fun _ => rfl) (fun _ => rfl) (fun _ => rfl) (fun _ => rfl) (fun _ => rfl)) (by decide) (by decide) (n := 33) rfl ?_
  obtain ⟨w_11, hw_11⟩ : ∃ w, w = g_Ruler_init_11 := ⟨_, rfl⟩
  refine go_eq (ws' := [(qt, .inr (4, [.ref n9_1])), (n9_1, .inl (tc 3, 9, .inr (.inr (.inr (.inr (fun i => some (rn9_1 i))))))), (rn9_1 0, .inl (tc 0, 9, .inl (w_11 0))), (rn9_1 1, .inl (tc 0, 9, .inl (w_11 1))), (rn9_1 2, .inl (tc 0, 9, .inl (w_11 2))), (rn9_1 3, .inl (tc 0, 9, .inl (w_11 3))), (rn9_1 4, .inl (tc 0, 9, .inl (w_11 4))), (rn9_1 5, .inl (tc 0, 9, .inl (w_11 5))), (rn9_1 6, .inl (tc 0, 9, .inl (w_11 6))), (rn9_1 7, .inl (tc 0, 9, .inl (w_11 7))), (rn9_1 8, .inl (tc 0, 9, .inl (w_11 8)))]) (by rw [hw_11, g_Ruler_init_11, ← hw_10]) rfl rfl ?_
  refine go_aload_n C d_Ruler_init_33 rfl 1 rfl (n := 34) rfl ?_
  refine go_get C d_Ruler_init_34 fl_Ruler_11 0 rfl rfl (n := 37) rfl ?_
  refine go_iconst C (v := 0) d_Ruler_init_37 rfl (n := 38) rfl ?_
  refine go_aaldR C d_Ruler_init_38 1 3 rfl rfl rfl (by decide) (n := 39) rfl ?_
  refine go_iload_n C d_Ruler_init_39 rfl 0 rfl (n := 40) rfl ?_
  refine go_iload_n C d_Ruler_init_40 rfl 0 rfl (n := 41) rfl ?_
  refine go_iastR C (K := 9) (N := 9) (M := w_11) d_Ruler_init_41 2 (rows9 rfl rfl rfl rfl rfl rfl rfl rfl rfl) (WS := fun M2 => [(qt, .inr (4, [.ref n9_1])), (n9_1, .inl (tc 3, 9, .inr (.inr (.inr (.inr (fun i => some (rn9_1 i))))))), (rn9_1 0, .inl (tc 0, 9, .inl (M2 0))), (rn9_1 1, .inl (tc 0, 9, .inl (M2 1))), (rn9_1 2, .inl (tc 0, 9, .inl (M2 2))), (rn9_1 3, .inl (tc 0, 9, .inl (M2 3))), (rn9_1 4, .inl (tc 0, 9, .inl (M2 4))), (rn9_1 5, .inl (tc 0, 9, .inl (M2 5))), (rn9_1 6, .inl (tc 0, 9, .inl (M2 6))), (rn9_1 7, .inl (tc 0, 9, .inl (M2 7))), (rn9_1 8, .inl (tc 0, 9, .inl (M2 8)))]) (rows9 (fun _ => rfl) (fun _ => rfl) (fun _ => rfl) (fun _ => rfl) (fun _ => rfl) (fun _ => rfl) (fun _ => rfl) (fun _ => rfl) (fun _ => rfl)) (by decide) (by decide) (n := 42) rfl ?_
  obtain ⟨w_12, hw_12⟩ : ∃ w, w = g_Ruler_init_12 := ⟨_, rfl⟩
  refine go_eq (ws' := [(qt, .inr (4, [.ref n9_1])), (n9_1, .inl (tc 3, 9, .inr (.inr (.inr (.inr (fun i => some (rn9_1 i))))))), (rn9_1 0, .inl (tc 0, 9, .inl (w_12 0))), (rn9_1 1, .inl (tc 0, 9, .inl (w_12 1))), (rn9_1 2, .inl (tc 0, 9, .inl (w_12 2))), (rn9_1 3, .inl (tc 0, 9, .inl (w_12 3))), (rn9_1 4, .inl (tc 0, 9, .inl (w_12 4))), (rn9_1 5, .inl (tc 0, 9, .inl (w_12 5))), (rn9_1 6, .inl (tc 0, 9, .inl (w_12 6))), (rn9_1 7, .inl (tc 0, 9, .inl (w_12 7))), (rn9_1 8, .inl (tc 0, 9, .inl (w_12 8)))]) (by rw [hw_12, g_Ruler_init_12, ← hw_11]) rfl rfl ?_
  refine go_iinc C d_Ruler_init_42 0 rfl (v := (6 : Int32)) rfl (lv' := [(1, .int (6 : Int32)), (0, .ref qt)]) (by decide) rfl (n := 45) rfl ?_
  refine go_goto C d_Ruler_init_45 (tgt := 18) (by decide) ?_
  refine go_iload_n C d_Ruler_init_18 rfl 0 rfl (n := 19) rfl ?_
  refine go_bipush C (v := 8) d_Ruler_init_19 rfl (n := 21) rfl ?_
  refine go_icmp_gt C d_Ruler_init_21 (tgt := 48) (by decide) (n := 24) rfl (fun h21 => absurd h21 (by decide)) (fun h21 => ?_)
  refine go_aload_n C d_Ruler_init_24 rfl 1 rfl (n := 25) rfl ?_
  refine go_get C d_Ruler_init_25 fl_Ruler_11 0 rfl rfl (n := 28) rfl ?_
  refine go_iload_n C d_Ruler_init_28 rfl 0 rfl (n := 29) rfl ?_
  refine go_aaldR C d_Ruler_init_29 1 3 rfl rfl rfl (by decide) (n := 30) rfl ?_
  refine go_iconst C (v := 0) d_Ruler_init_30 rfl (n := 31) rfl ?_
  refine go_iload_n C d_Ruler_init_31 rfl 0 rfl (n := 32) rfl ?_
  refine go_iastR C (K := 9) (N := 9) (M := w_12) d_Ruler_init_32 2 (rows9 rfl rfl rfl rfl rfl rfl rfl rfl rfl) (WS := fun M2 => [(qt, .inr (4, [.ref n9_1])), (n9_1, .inl (tc 3, 9, .inr (.inr (.inr (.inr (fun i => some (rn9_1 i))))))), (rn9_1 0, .inl (tc 0, 9, .inl (M2 0))), (rn9_1 1, .inl (tc 0, 9, .inl (M2 1))), (rn9_1 2, .inl (tc 0, 9, .inl (M2 2))), (rn9_1 3, .inl (tc 0, 9, .inl (M2 3))), (rn9_1 4, .inl (tc 0, 9, .inl (M2 4))), (rn9_1 5, .inl (tc 0, 9, .inl (M2 5))), (rn9_1 6, .inl (tc 0, 9, .inl (M2 6))), (rn9_1 7, .inl (tc 0, 9, .inl (M2 7))), (rn9_1 8, .inl (tc 0, 9, .inl (M2 8)))]) (rows9 (fun _ => rfl) (fun _ => rfl) (fun _ => rfl) (fun _ => rfl) (fun _ => rfl) (fun _ => rfl) (fun _ => rfl) (fun _ => rfl) (fun _ => rfl)) (by decide) (by decide) (n := 33) rfl ?_
  obtain ⟨w_13, hw_13⟩ : ∃ w, w = g_Ruler_init_13 := ⟨_, rfl⟩
  refine go_eq (ws' := [(qt, .inr (4, [.ref n9_1])), (n9_1, .inl (tc 3, 9, .inr (.inr (.inr (.inr (fun i => some (rn9_1 i))))))), (rn9_1 0, .inl (tc 0, 9, .inl (w_13 0))), (rn9_1 1, .inl (tc 0, 9, .inl (w_13 1))), (rn9_1 2, .inl (tc 0, 9, .inl (w_13 2))), (rn9_1 3, .inl (tc 0, 9, .inl (w_13 3))), (rn9_1 4, .inl (tc 0, 9, .inl (w_13 4))), (rn9_1 5, .inl (tc 0, 9, .inl (w_13 5))), (rn9_1 6, .inl (tc 0, 9, .inl (w_13 6))), (rn9_1 7, .inl (tc 0, 9, .inl (w_13 7))), (rn9_1 8, .inl (tc 0, 9, .inl (w_13 8)))]) (by rw [hw_13, g_Ruler_init_13, ← hw_12]) rfl rfl ?_
  refine go_aload_n C d_Ruler_init_33 rfl 1 rfl (n := 34) rfl ?_
  refine go_get C d_Ruler_init_34 fl_Ruler_11 0 rfl rfl (n := 37) rfl ?_
  refine go_iconst C (v := 0) d_Ruler_init_37 rfl (n := 38) rfl ?_
  refine go_aaldR C d_Ruler_init_38 1 3 rfl rfl rfl (by decide) (n := 39) rfl ?_
  refine go_iload_n C d_Ruler_init_39 rfl 0 rfl (n := 40) rfl ?_
  refine go_iload_n C d_Ruler_init_40 rfl 0 rfl (n := 41) rfl ?_
  refine go_iastR C (K := 9) (N := 9) (M := w_13) d_Ruler_init_41 2 (rows9 rfl rfl rfl rfl rfl rfl rfl rfl rfl) (WS := fun M2 => [(qt, .inr (4, [.ref n9_1])), (n9_1, .inl (tc 3, 9, .inr (.inr (.inr (.inr (fun i => some (rn9_1 i))))))), (rn9_1 0, .inl (tc 0, 9, .inl (M2 0))), (rn9_1 1, .inl (tc 0, 9, .inl (M2 1))), (rn9_1 2, .inl (tc 0, 9, .inl (M2 2))), (rn9_1 3, .inl (tc 0, 9, .inl (M2 3))), (rn9_1 4, .inl (tc 0, 9, .inl (M2 4))), (rn9_1 5, .inl (tc 0, 9, .inl (M2 5))), (rn9_1 6, .inl (tc 0, 9, .inl (M2 6))), (rn9_1 7, .inl (tc 0, 9, .inl (M2 7))), (rn9_1 8, .inl (tc 0, 9, .inl (M2 8)))]) (rows9 (fun _ => rfl) (fun _ => rfl) (fun _ => rfl) (fun _ => rfl) (fun _ => rfl) (fun _ => rfl) (fun _ => rfl) (fun _ => rfl) (fun _ => rfl)) (by decide) (by decide) (n := 42) rfl ?_
  obtain ⟨w_14, hw_14⟩ : ∃ w, w = g_Ruler_init_14 := ⟨_, rfl⟩
  refine go_eq (ws' := [(qt, .inr (4, [.ref n9_1])), (n9_1, .inl (tc 3, 9, .inr (.inr (.inr (.inr (fun i => some (rn9_1 i))))))), (rn9_1 0, .inl (tc 0, 9, .inl (w_14 0))), (rn9_1 1, .inl (tc 0, 9, .inl (w_14 1))), (rn9_1 2, .inl (tc 0, 9, .inl (w_14 2))), (rn9_1 3, .inl (tc 0, 9, .inl (w_14 3))), (rn9_1 4, .inl (tc 0, 9, .inl (w_14 4))), (rn9_1 5, .inl (tc 0, 9, .inl (w_14 5))), (rn9_1 6, .inl (tc 0, 9, .inl (w_14 6))), (rn9_1 7, .inl (tc 0, 9, .inl (w_14 7))), (rn9_1 8, .inl (tc 0, 9, .inl (w_14 8)))]) (by rw [hw_14, g_Ruler_init_14, ← hw_13]) rfl rfl ?_
  refine go_iinc C d_Ruler_init_42 0 rfl (v := (7 : Int32)) rfl (lv' := [(1, .int (7 : Int32)), (0, .ref qt)]) (by decide) rfl (n := 45) rfl ?_
  refine go_goto C d_Ruler_init_45 (tgt := 18) (by decide) ?_
  refine go_iload_n C d_Ruler_init_18 rfl 0 rfl (n := 19) rfl ?_
  refine go_bipush C (v := 8) d_Ruler_init_19 rfl (n := 21) rfl ?_
  refine go_icmp_gt C d_Ruler_init_21 (tgt := 48) (by decide) (n := 24) rfl (fun h21 => absurd h21 (by decide)) (fun h21 => ?_)
  refine go_aload_n C d_Ruler_init_24 rfl 1 rfl (n := 25) rfl ?_
  refine go_get C d_Ruler_init_25 fl_Ruler_11 0 rfl rfl (n := 28) rfl ?_
  refine go_iload_n C d_Ruler_init_28 rfl 0 rfl (n := 29) rfl ?_
  refine go_aaldR C d_Ruler_init_29 1 3 rfl rfl rfl (by decide) (n := 30) rfl ?_
  refine go_iconst C (v := 0) d_Ruler_init_30 rfl (n := 31) rfl ?_
  refine go_iload_n C d_Ruler_init_31 rfl 0 rfl (n := 32) rfl ?_
  refine go_iastR C (K := 9) (N := 9) (M := w_14) d_Ruler_init_32 2 (rows9 rfl rfl rfl rfl rfl rfl rfl rfl rfl) (WS := fun M2 => [(qt, .inr (4, [.ref n9_1])), (n9_1, .inl (tc 3, 9, .inr (.inr (.inr (.inr (fun i => some (rn9_1 i))))))), (rn9_1 0, .inl (tc 0, 9, .inl (M2 0))), (rn9_1 1, .inl (tc 0, 9, .inl (M2 1))), (rn9_1 2, .inl (tc 0, 9, .inl (M2 2))), (rn9_1 3, .inl (tc 0, 9, .inl (M2 3))), (rn9_1 4, .inl (tc 0, 9, .inl (M2 4))), (rn9_1 5, .inl (tc 0, 9, .inl (M2 5))), (rn9_1 6, .inl (tc 0, 9, .inl (M2 6))), (rn9_1 7, .inl (tc 0, 9, .inl (M2 7))), (rn9_1 8, .inl (tc 0, 9, .inl (M2 8)))]) (rows9 (fun _ => rfl) (fun _ => rfl) (fun _ => rfl) (fun _ => rfl) (fun _ => rfl) (fun _ => rfl) (fun _ => rfl) (fun _ => rfl) (fun _ => rfl)) (by decide) (by decide) (n := 33) rfl ?_
  obtain ⟨w_15, hw_15⟩ : ∃ w, w = g_Ruler_init_15 := ⟨_, rfl⟩
  refine go_eq (ws' := [(qt, .inr (4, [.ref n9_1])), (n9_1, .inl (tc 3, 9, .inr (.inr (.inr (.inr (fun i => some (rn9_1 i))))))), (rn9_1 0, .inl (tc 0, 9, .inl (w_15 0))), (rn9_1 1, .inl (tc 0, 9, .inl (w_15 1))), (rn9_1 2, .inl (tc 0, 9, .inl (w_15 2))), (rn9_1 3, .inl (tc 0, 9, .inl (w_15 3))), (rn9_1 4, .inl (tc 0, 9, .inl (w_15 4))), (rn9_1 5, .inl (tc 0, 9, .inl (w_15 5))), (rn9_1 6, .inl (tc 0, 9, .inl (w_15 6))), (rn9_1 7, .inl (tc 0, 9, .inl (w_15 7))), (rn9_1 8, .inl (tc 0, 9, .inl (w_15 8)))]) (by rw [hw_15, g_Ruler_init_15, ← hw_14]) rfl rfl ?_
  refine go_aload_n C d_Ruler_init_33 rfl 1 rfl (n := 34) rfl ?_
  refine go_get C d_Ruler_init_34 fl_Ruler_11 0 rfl rfl (n := 37) rfl ?_
  refine go_iconst C (v := 0) d_Ruler_init_37 rfl (n := 38) rfl ?_
  refine go_aaldR C d_Ruler_init_38 1 3 rfl rfl rfl (by decide) (n := 39) rfl ?_
  refine go_iload_n C d_Ruler_init_39 rfl 0 rfl (n := 40) rfl ?_
  refine go_iload_n C d_Ruler_init_40 rfl 0 rfl (n := 41) rfl ?_
  refine go_iastR C (K := 9) (N := 9) (M := w_15) d_Ruler_init_41 2 (rows9 rfl rfl rfl rfl rfl rfl rfl rfl rfl) (WS := fun M2 => [(qt, .inr (4, [.ref n9_1])), (n9_1, .inl (tc 3, 9, .inr (.inr (.inr (.inr (fun i => some (rn9_1 i))))))), (rn9_1 0, .inl (tc 0, 9, .inl (M2 0))), (rn9_1 1, .inl (tc 0, 9, .inl (M2 1))), (rn9_1 2, .inl (tc 0, 9, .inl (M2 2))), (rn9_1 3, .inl (tc 0, 9, .inl (M2 3))), (rn9_1 4, .inl (tc 0, 9, .inl (M2 4))), (rn9_1 5, .inl (tc 0, 9, .inl (M2 5))), (rn9_1 6, .inl (tc 0, 9, .inl (M2 6))), (rn9_1 7, .inl (tc 0, 9, .inl (M2 7))), (rn9_1 8, .inl (tc 0, 9, .inl (M2 8)))]) (rows9 (fun _ => rfl) (fun _ => rfl) (fun _ => rfl) (fun _ => rfl) (fun _ => rfl) (fun _ => rfl) (fun _ => rfl) (fun _ => rfl) (fun _ => rfl)) (by decide) (by decide) (n := 42) rfl ?_
  obtain ⟨w_16, hw_16⟩ : ∃ w, w = g_Ruler_init_16 := ⟨_, rfl⟩
  refine go_eq (ws' := [(qt, .inr (4, [.ref n9_1])), (n9_1, .inl (tc 3, 9, .inr (.inr (.inr (.inr (fun i => some (rn9_1 i))))))), (rn9_1 0, .inl (tc 0, 9, .inl (w_16 0))), (rn9_1 1, .inl (tc 0, 9, .inl (w_16 1))), (rn9_1 2, .inl (tc 0, 9, .inl (w_16 2))), (rn9_1 3, .inl (tc 0, 9, .inl (w_16 3))), (rn9_1 4, .inl (tc 0, 9, .inl (w_16 4))), (rn9_1 5, .inl (tc 0, 9, .inl (w_16 5))), (rn9_1 6, .inl (tc 0, 9, .inl (w_16 6))), (rn9_1 7, .inl (tc 0, 9, .inl (w_16 7))), (rn9_1 8, .inl (tc 0, 9, .inl (w_16 8)))]) (by rw [hw_16, g_Ruler_init_16, ← hw_15]) rfl rfl ?_
  refine go_iinc C d_Ruler_init_42 0 rfl (v := (8 : Int32)) rfl (lv' := [(1, .int (8 : Int32)), (0, .ref qt)]) (by decide) rfl (n := 45) rfl ?_
  refine go_goto C d_Ruler_init_45 (tgt := 18) (by decide) ?_
  refine go_iload_n C d_Ruler_init_18 rfl 0 rfl (n := 19) rfl ?_
  refine go_bipush C (v := 8) d_Ruler_init_19 rfl (n := 21) rfl ?_
  refine go_icmp_gt C d_Ruler_init_21 (tgt := 48) (by decide) (n := 24) rfl (fun h21 => absurd h21 (by decide)) (fun h21 => ?_)
  refine go_aload_n C d_Ruler_init_24 rfl 1 rfl (n := 25) rfl ?_
  refine go_get C d_Ruler_init_25 fl_Ruler_11 0 rfl rfl (n := 28) rfl ?_
  refine go_iload_n C d_Ruler_init_28 rfl 0 rfl (n := 29) rfl ?_
  refine go_aaldR C d_Ruler_init_29 1 3 rfl rfl rfl (by decide) (n := 30) rfl ?_
  refine go_iconst C (v := 0) d_Ruler_init_30 rfl (n := 31) rfl ?_
  refine go_iload_n C d_Ruler_init_31 rfl 0 rfl (n := 32) rfl ?_
  refine go_iastR C (K := 9) (N := 9) (M := w_16) d_Ruler_init_32 2 (rows9 rfl rfl rfl rfl rfl rfl rfl rfl rfl) (WS := fun M2 => [(qt, .inr (4, [.ref n9_1])), (n9_1, .inl (tc 3, 9, .inr (.inr (.inr (.inr (fun i => some (rn9_1 i))))))), (rn9_1 0, .inl (tc 0, 9, .inl (M2 0))), (rn9_1 1, .inl (tc 0, 9, .inl (M2 1))), (rn9_1 2, .inl (tc 0, 9, .inl (M2 2))), (rn9_1 3, .inl (tc 0, 9, .inl (M2 3))), (rn9_1 4, .inl (tc 0, 9, .inl (M2 4))), (rn9_1 5, .inl (tc 0, 9, .inl (M2 5))), (rn9_1 6, .inl (tc 0, 9, .inl (M2 6))), (rn9_1 7, .inl (tc 0, 9, .inl (M2 7))), (rn9_1 8, .inl (tc 0, 9, .inl (M2 8)))]) (rows9 (fun _ => rfl) (fun _ => rfl) (fun _ => rfl) (fun _ => rfl) (fun _ => rfl) (fun _ => rfl) (fun _ => rfl) (fun _ => rfl) (fun _ => rfl)) (by decide) (by decide) (n := 33) rfl ?_
  obtain ⟨w_17, hw_17⟩ : ∃ w, w = g_Ruler_init_17 := ⟨_, rfl⟩
  refine go_eq (ws' := [(qt, .inr (4, [.ref n9_1])), (n9_1, .inl (tc 3, 9, .inr (.inr (.inr (.inr (fun i => some (rn9_1 i))))))), (rn9_1 0, .inl (tc 0, 9, .inl (w_17 0))), (rn9_1 1, .inl (tc 0, 9, .inl (w_17 1))), (rn9_1 2, .inl (tc 0, 9, .inl (w_17 2))), (rn9_1 3, .inl (tc 0, 9, .inl (w_17 3))), (rn9_1 4, .inl (tc 0, 9, .inl (w_17 4))), (rn9_1 5, .inl (tc 0, 9, .inl (w_17 5))), (rn9_1 6, .inl (tc 0, 9, .inl (w_17 6))), (rn9_1 7, .inl (tc 0, 9, .inl (w_17 7))), (rn9_1 8, .inl (tc 0, 9, .inl (w_17 8)))]) (by rw [hw_17, g_Ruler_init_17, ← hw_16]) rfl rfl ?_
  refine go_aload_n C d_Ruler_init_33 rfl 1 rfl (n := 34) rfl ?_
  refine go_get C d_Ruler_init_34 fl_Ruler_11 0 rfl rfl (n := 37) rfl ?_
  refine go_iconst C (v := 0) d_Ruler_init_37 rfl (n := 38) rfl ?_
  refine go_aaldR C d_Ruler_init_38 1 3 rfl rfl rfl (by decide) (n := 39) rfl ?_
  refine go_iload_n C d_Ruler_init_39 rfl 0 rfl (n := 40) rfl ?_
  refine go_iload_n C d_Ruler_init_40 rfl 0 rfl (n := 41) rfl ?_
  refine go_iastR C (K := 9) (N := 9) (M := w_17) d_Ruler_init_41 2 (rows9 rfl rfl rfl rfl rfl rfl rfl rfl rfl) (WS := fun M2 => [(qt, .inr (4, [.ref n9_1])), (n9_1, .inl (tc 3, 9, .inr (.inr (.inr (.inr (fun i => some (rn9_1 i))))))), (rn9_1 0, .inl (tc 0, 9, .inl (M2 0))), (rn9_1 1, .inl (tc 0, 9, .inl (M2 1))), (rn9_1 2, .inl (tc 0, 9, .inl (M2 2))), (rn9_1 3, .inl (tc 0, 9, .inl (M2 3))), (rn9_1 4, .inl (tc 0, 9, .inl (M2 4))), (rn9_1 5, .inl (tc 0, 9, .inl (M2 5))), (rn9_1 6, .inl (tc 0, 9, .inl (M2 6))), (rn9_1 7, .inl (tc 0, 9, .inl (M2 7))), (rn9_1 8, .inl (tc 0, 9, .inl (M2 8)))]) (rows9 (fun _ => rfl) (fun _ => rfl) (fun _ => rfl) (fun _ => rfl) (fun _ => rfl) (fun _ => rfl) (fun _ => rfl) (fun _ => rfl) (fun _ => rfl)) (by decide) (by decide) (n := 42) rfl ?_
  obtain ⟨w_18, hw_18⟩ : ∃ w, w = g_Ruler_init_18 := ⟨_, rfl⟩
  refine go_eq (ws' := [(qt, .inr (4, [.ref n9_1])), (n9_1, .inl (tc 3, 9, .inr (.inr (.inr (.inr (fun i => some (rn9_1 i))))))), (rn9_1 0, .inl (tc 0, 9, .inl (w_18 0))), (rn9_1 1, .inl (tc 0, 9, .inl (w_18 1))), (rn9_1 2, .inl (tc 0, 9, .inl (w_18 2))), (rn9_1 3, .inl (tc 0, 9, .inl (w_18 3))), (rn9_1 4, .inl (tc 0, 9, .inl (w_18 4))), (rn9_1 5, .inl (tc 0, 9, .inl (w_18 5))), (rn9_1 6, .inl (tc 0, 9, .inl (w_18 6))), (rn9_1 7, .inl (tc 0, 9, .inl (w_18 7))), (rn9_1 8, .inl (tc 0, 9, .inl (w_18 8)))]) (by rw [hw_18, g_Ruler_init_18, ← hw_17]) rfl rfl ?_
  refine go_iinc C d_Ruler_init_42 0 rfl (v := (9 : Int32)) rfl (lv' := [(1, .int (9 : Int32)), (0, .ref qt)]) (by decide) rfl (n := 45) rfl ?_
  refine go_goto C d_Ruler_init_45 (tgt := 18) (by decide) ?_
  refine go_iload_n C d_Ruler_init_18 rfl 0 rfl (n := 19) rfl ?_
  refine go_bipush C (v := 8) d_Ruler_init_19 rfl (n := 21) rfl ?_
  refine go_icmp_gt C d_Ruler_init_21 (tgt := 48) (by decide) (n := 24) rfl (fun h21 => ?_) (fun h21 => absurd h21 (by decide))
  subst hw_1 hw_2 hw_3 hw_4 hw_5 hw_6 hw_7 hw_8 hw_9 hw_10 hw_11 hw_12 hw_13 hw_14 hw_15 hw_16 hw_17 hw_18
  exact go_vret C d_Ruler_init_48 hr (hPOST n9_1 rn9_1)
