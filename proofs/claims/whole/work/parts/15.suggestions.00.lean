def f_Suggestions_startAnew (t_size : Int32) (t_most : Int32) (a0 : Int32) : Option (Int32 × Int32) :=
  some ((0 : Int32), if (24 : Int32) < a0 then (24 : Int32) else a0)
set_option maxRecDepth 100000 in
set_option maxHeartbeats 4000000 in
theorem c_Suggestions_startAnew (l : Launch) (D : va_G) (tc : Nat → ClassId) (qt : Nat) (qt_texts : Nat) (qt_ranks : Nat) (t_size : Int32) (t_most : Int32) (t_texts : Nat → Int64) (t_ranks : Nat → Int32) (a0 : Int32) {o : (Int32 × Int32)} (hf : f_Suggestions_startAnew t_size t_most a0 = some o) (POST : Option Value → va_W → Prop) (hPOST : POST none [(qt, .inr (5, [.ref qt_texts, .ref qt_ranks, .int o.1, .int o.2])), (qt_texts, .inl (tc 1, 24, .inr (.inl t_texts))), (qt_ranks, .inl (tc 0, 24, .inl t_ranks))]) : Std l y_Suggestions_startAnew (.code y_Suggestions_startAnew b_Suggestions_startAnew 2 none) { frames := 1, cells := 0, slots := 0, locals := 17 } D tc [.ref qt, .int a0] [(qt, .inr (5, [.ref qt_texts, .ref qt_ranks, .int t_size, .int t_most])), (qt_texts, .inl (tc 1, 24, .inr (.inl t_texts))), (qt_ranks, .inl (tc 0, 24, .inl t_ranks))] 0 0 POST := by
  refine std_of (lv := [(0, .ref qt), (1, .int a0)]) (by decide) (Nat.le_of_ble_eq_true rfl) rfl (fun p e s m args below meth c A C hr hnm => ?_)
  unfold f_Suggestions_startAnew at hf
  refine go_aload_n C d_Suggestions_startAnew_0 rfl 0 rfl (n := 1) rfl ?_
  refine go_iconst C (v := 0) d_Suggestions_startAnew_1 rfl (n := 2) rfl ?_
  refine go_put C d_Suggestions_startAnew_2 fl_Suggestions_19 (fs_Suggestions 2) rfl rfl rfl 0 rfl (Nat.le_of_ble_eq_true rfl) (n := 5) rfl ?_
  refine go_aload_n C d_Suggestions_startAnew_5 rfl 0 rfl (n := 6) rfl ?_
  refine go_iload_n C d_Suggestions_startAnew_6 rfl 1 rfl (n := 7) rfl ?_
  refine go_bipush C (v := 24) d_Suggestions_startAnew_7 rfl (n := 9) rfl ?_
  refine go_mmin C d_Suggestions_startAnew_9 wl_Suggestions_26 wmin (Nat.le_of_ble_eq_true rfl) (Nat.le_of_ble_eq_true rfl) (Nat.le_of_ble_eq_true rfl) (Nat.le_of_ble_eq_true rfl) (n := 12) rfl ?_
  refine go_put C d_Suggestions_startAnew_12 fl_Suggestions_23 (fs_Suggestions 3) rfl rfl rfl 0 rfl (Nat.le_of_ble_eq_true rfl) (n := 15) rfl ?_
  cases hf
  exact go_vret C d_Suggestions_startAnew_15 hr hPOST

def f_Suggestions_size (t_size : Int32) : Option (Int32) :=
  some t_size
set_option maxRecDepth 100000 in
set_option maxHeartbeats 4000000 in
theorem c_Suggestions_size (l : Launch) (D : va_G) (tc : Nat → ClassId) (qt : Nat) (qt_texts : Nat) (qt_ranks : Nat) (t_size : Int32) (t_most : Int32) (t_texts : Nat → Int64) (t_ranks : Nat → Int32) {o : (Int32)} (hf : f_Suggestions_size t_size = some o) (POST : Option Value → va_W → Prop) (hPOST : POST (some (.int o)) [(qt, .inr (5, [.ref qt_texts, .ref qt_ranks, .int t_size, .int t_most])), (qt_texts, .inl (tc 1, 24, .inr (.inl t_texts))), (qt_ranks, .inl (tc 0, 24, .inl t_ranks))]) : Std l y_Suggestions_size (.code y_Suggestions_size b_Suggestions_size 1 (some .int)) { frames := 0, cells := 0, slots := 0, locals := 0 } D tc [.ref qt] [(qt, .inr (5, [.ref qt_texts, .ref qt_ranks, .int t_size, .int t_most])), (qt_texts, .inl (tc 1, 24, .inr (.inl t_texts))), (qt_ranks, .inl (tc 0, 24, .inl t_ranks))] 0 0 POST := by
  refine std_of (lv := [(0, .ref qt)]) (by decide) (Nat.le_of_ble_eq_true rfl) rfl (fun p e s m args below meth c A C hr hnm => ?_)
  unfold f_Suggestions_size at hf
  refine go_aload_n C d_Suggestions_size_0 rfl 0 rfl (n := 1) rfl ?_
  refine go_get C d_Suggestions_size_1 fl_Suggestions_19 0 rfl rfl (n := 4) rfl ?_
  cases hf
  exact go_iret C d_Suggestions_size_4 hr hPOST

def f_Suggestions_textAt (t_texts : Nat → Int64) (a0 : Int32) : Option (Int64) :=
  if okI a0 24 = true then some (t_texts a0.toNatClampNeg) else none
set_option maxRecDepth 100000 in
set_option maxHeartbeats 4000000 in
theorem c_Suggestions_textAt (l : Launch) (D : va_G) (tc : Nat → ClassId) (qt : Nat) (qt_texts : Nat) (qt_ranks : Nat) (t_size : Int32) (t_most : Int32) (t_texts : Nat → Int64) (t_ranks : Nat → Int32) (a0 : Int32) {o : (Int64)} (hf : f_Suggestions_textAt t_texts a0 = some o) (POST : Option Value → va_W → Prop) (hPOST : POST (some (.long o)) [(qt, .inr (5, [.ref qt_texts, .ref qt_ranks, .int t_size, .int t_most])), (qt_texts, .inl (tc 1, 24, .inr (.inl t_texts))), (qt_ranks, .inl (tc 0, 24, .inl t_ranks))]) : Std l y_Suggestions_textAt (.code y_Suggestions_textAt b_Suggestions_textAt 2 (some .long)) { frames := 0, cells := 0, slots := 0, locals := 0 } D tc [.ref qt, .int a0] [(qt, .inr (5, [.ref qt_texts, .ref qt_ranks, .int t_size, .int t_most])), (qt_texts, .inl (tc 1, 24, .inr (.inl t_texts))), (qt_ranks, .inl (tc 0, 24, .inl t_ranks))] 0 0 POST := by
  refine std_of (lv := [(0, .ref qt), (1, .int a0)]) (by decide) (Nat.le_of_ble_eq_true rfl) rfl (fun p e s m args below meth c A C hr hnm => ?_)
  unfold f_Suggestions_textAt at hf
  refine go_aload_n C d_Suggestions_textAt_0 rfl 0 rfl (n := 1) rfl ?_
  refine go_get C d_Suggestions_textAt_1 fl_Suggestions_9 0 rfl rfl (n := 4) rfl ?_
  refine go_iload_n C d_Suggestions_textAt_4 rfl 1 rfl (n := 5) rfl ?_
  obtain ⟨hg5, hf⟩ := guardS hf
  refine go_lald C d_Suggestions_textAt_5 1 rfl hg5 (n := 6) rfl ?_
  cases hf
  exact go_lret C d_Suggestions_textAt_6 hr hPOST

def f_Suggestions_offer_6b (t_most : Int32) (a0 : Int64) (a1 : Int32) (v_t_size : Int32) (v_t_texts : Nat → Int64) (v_t_ranks : Nat → Int32) (rec : Int32 → Option (Int32)) (l4 : Int32) : Option (Int32) :=
  if l4 ≤ 0 then some ( l4) else if okI (l4 - (1 : Int32)) 24 = true then if (v_t_ranks (l4 - (1 : Int32)).toNatClampNeg) ≤ a1 then some ( l4) else rec (l4 + (-1 : Int32)) else none
def f_Suggestions_offer_6 (t_most : Int32) (a0 : Int64) (a1 : Int32) (v_t_size : Int32) (v_t_texts : Nat → Int64) (v_t_ranks : Nat → Int32) : Nat → Int32 → Option (Int32)
  | 0 => fun _ => none
  | n + 1 => f_Suggestions_offer_6b t_most a0 a1 v_t_size v_t_texts v_t_ranks (f_Suggestions_offer_6 t_most a0 a1 v_t_size v_t_texts v_t_ranks n)
def f_Suggestions_offer_59b (t_most : Int32) (a0 : Int64) (a1 : Int32) (v_t_size : Int32) (l4 : Int32) (l5 : Int32) (rec : (Nat → Int64) → (Nat → Int32) → Int32 → Option ((Nat → Int64) × (Nat → Int32))) (v_t_texts : Nat → Int64) (v_t_ranks : Nat → Int32) (l6 : Int32) : Option ((Nat → Int64) × (Nat → Int32)) :=
  if l6 ≤ l4 then some ( (v_t_texts, v_t_ranks)) else if okI (l6 - (1 : Int32)) 24 = true then if okI l6 24 = true then if okI (l6 - (1 : Int32)) 24 = true then if okI l6 24 = true then rec (vp_updL v_t_texts l6.toNatClampNeg (v_t_texts (l6 - (1 : Int32)).toNatClampNeg)) (upd v_t_ranks l6.toNatClampNeg (v_t_ranks (l6 - (1 : Int32)).toNatClampNeg)) (l6 + (-1 : Int32)) else none else none else none else none
def f_Suggestions_offer_59 (t_most : Int32) (a0 : Int64) (a1 : Int32) (v_t_size : Int32) (l4 : Int32) (l5 : Int32) : Nat → (Nat → Int64) → (Nat → Int32) → Int32 → Option ((Nat → Int64) × (Nat → Int32))
  | 0 => fun _ _ _ => none
  | n + 1 => f_Suggestions_offer_59b t_most a0 a1 v_t_size l4 l5 (f_Suggestions_offer_59 t_most a0 a1 v_t_size l4 l5 n)
def f_Suggestions_offer_30 (t_most : Int32) (a0 : Int64) (a1 : Int32) (v_t_size : Int32) (v_t_texts : Nat → Int64) (v_t_ranks : Nat → Int32) (l4 : Int32) : Option (Int32 × (Nat → Int64) × (Nat → Int32)) :=
  if l4 < t_most then (f_Suggestions_offer_59 t_most a0 a1 v_t_size l4 (if (t_most - (1 : Int32)) < v_t_size then t_most - (1 : Int32) else v_t_size) FU v_t_texts v_t_ranks (if (t_most - (1 : Int32)) < v_t_size then t_most - (1 : Int32) else v_t_size)).bind (fun x59 => if okI l4 24 = true then if okI l4 24 = true then some ((if (t_most - (1 : Int32)) < v_t_size then t_most - (1 : Int32) else v_t_size) + (1 : Int32), vp_updL x59.1 l4.toNatClampNeg a0, upd x59.2 l4.toNatClampNeg a1) else none else none) else some (v_t_size, v_t_texts, v_t_ranks)
def f_Suggestions_offer (t_size : Int32) (t_most : Int32) (t_texts : Nat → Int64) (t_ranks : Nat → Int32) (a0 : Int64) (a1 : Int32) : Option (Int32 × (Nat → Int64) × (Nat → Int32)) :=
  (f_Suggestions_offer_6 t_most a0 a1 t_size t_texts t_ranks FU t_size).bind (fun x6 => f_Suggestions_offer_30 t_most a0 a1 t_size t_texts t_ranks x6)
set_option maxRecDepth 100000 in
set_option maxHeartbeats 4000000 in
theorem c_Suggestions_offer (l : Launch) (D : va_G) (tc : Nat → ClassId) (qt : Nat) (qt_texts : Nat) (qt_ranks : Nat) (t_size : Int32) (t_most : Int32) (t_texts : Nat → Int64) (t_ranks : Nat → Int32) (a0 : Int64) (a1 : Int32) {o : (Int32 × (Nat → Int64) × (Nat → Int32))} (hf : f_Suggestions_offer t_size t_most t_texts t_ranks a0 a1 = some o) (POST : Option Value → va_W → Prop) (hPOST : POST none [(qt, .inr (5, [.ref qt_texts, .ref qt_ranks, .int o.1, .int t_most])), (qt_texts, .inl (tc 1, 24, .inr (.inl o.2.1))), (qt_ranks, .inl (tc 0, 24, .inl o.2.2))]) : Std l y_Suggestions_offer (.code y_Suggestions_offer b_Suggestions_offer 7 none) { frames := 1, cells := 0, slots := 0, locals := 17 } D tc [.ref qt, .long a0, .int a1] [(qt, .inr (5, [.ref qt_texts, .ref qt_ranks, .int t_size, .int t_most])), (qt_texts, .inl (tc 1, 24, .inr (.inl t_texts))), (qt_ranks, .inl (tc 0, 24, .inl t_ranks))] 0 0 POST := by
  refine std_of (lv := [(0, .ref qt), (1, .long a0), (3, .int a1)]) (by decide) (Nat.le_of_ble_eq_true rfl) rfl (fun p e s m args below meth c A C hr hnm => ?_)
  have K6 : ∀ (v_t_size : Int32) (v_t_texts : Nat → Int64) (v_t_ranks : Nat → Int32) (n : Nat) (l4 : Int32) (x : (Int32)), f_Suggestions_offer_6 t_most a0 a1 v_t_size v_t_texts v_t_ranks n l4 = some x → (Go p l e { frames := 1, cells := 0, slots := 0, locals := 17 } s m args below meth c (MQ below (Qs D A POST) args s 0 0 A) D A 7 0 0 [(qt, .inr (5, [.ref qt_texts, .ref qt_ranks, .int v_t_size, .int t_most])), (qt_texts, .inl (tc 1, 24, .inr (.inl v_t_texts))), (qt_ranks, .inl (tc 0, 24, .inl v_t_ranks))] [(0, .ref qt), (1, .long a0), (3, .int a1), (4, .int x)] 30 []) → Go p l e { frames := 1, cells := 0, slots := 0, locals := 17 } s m args below meth c (MQ below (Qs D A POST) args s 0 0 A) D A 7 0 0 [(qt, .inr (5, [.ref qt_texts, .ref qt_ranks, .int v_t_size, .int t_most])), (qt_texts, .inl (tc 1, 24, .inr (.inl v_t_texts))), (qt_ranks, .inl (tc 0, 24, .inl v_t_ranks))] [(0, .ref qt), (1, .long a0), (3, .int a1), (4, .int l4)] 6 [] := by
    intro v_t_size v_t_texts v_t_ranks n
    induction n with
    | zero =>
      intro l4 x hf hE
      simp [f_Suggestions_offer_6] at hf
    | succ n ih =>
      intro l4 x hf hE
      have hf : f_Suggestions_offer_6b t_most a0 a1 v_t_size v_t_texts v_t_ranks (f_Suggestions_offer_6 t_most a0 a1 v_t_size v_t_texts v_t_ranks n) l4 = some x := hf
      unfold f_Suggestions_offer_6b at hf
      refine go_iload C d_Suggestions_offer_6 3 rfl (n := 8) rfl ?_
      have hi8 := iteS hf
      refine go_if_le C d_Suggestions_offer_8 (tgt := 30) (by decide) (n := 11) rfl (fun h8 => ?_) (fun h8 => ?_)
      · have hf := hi8.1 h8
        cases hf
        exact hE
      · have hf := hi8.2 h8
        refine go_aload_n C d_Suggestions_offer_11 rfl 0 rfl (n := 12) rfl ?_
        refine go_get C d_Suggestions_offer_12 fl_Suggestions_15 0 rfl rfl (n := 15) rfl ?_
        refine go_iload C d_Suggestions_offer_15 3 rfl (n := 17) rfl ?_
        refine go_iconst C (v := 1) d_Suggestions_offer_17 rfl (n := 18) rfl ?_
        refine go_isub C d_Suggestions_offer_18 (n := 19) rfl ?_
        obtain ⟨hg19, hf⟩ := guardS hf
        refine go_iald C d_Suggestions_offer_19 2 rfl hg19 (n := 20) rfl ?_
        refine go_iload_n C d_Suggestions_offer_20 rfl 2 rfl (n := 21) rfl ?_
        have hi21 := iteS hf
        refine go_icmp_le C d_Suggestions_offer_21 (tgt := 30) (by decide) (n := 24) rfl (fun h21 => ?_) (fun h21 => ?_)
        · have hf := hi21.1 h21
          cases hf
          exact hE
        · have hf := hi21.2 h21
          refine go_iinc C d_Suggestions_offer_24 3 rfl (v := l4 + (-1 : Int32)) rfl (lv' := [(4, .int (l4 + (-1 : Int32))), (0, .ref qt), (1, .long a0), (3, .int a1)]) (by decide) rfl (n := 27) rfl ?_
          refine go_goto C d_Suggestions_offer_27 (tgt := 6) (by decide) ?_
          refine go_lv (lv' := [(0, .ref qt), (1, .long a0), (3, .int a1), (4, .int (l4 + (-1 : Int32)))]) [1, 2, 3, 0] rfl ?_
          exact ih (l4 + (-1 : Int32)) x hf hE
  have K59 : ∀ (v_t_size : Int32) (l4 : Int32) (l5 : Int32) (n : Nat) (v_t_texts : Nat → Int64) (v_t_ranks : Nat → Int32) (l6 : Int32) (x : ((Nat → Int64) × (Nat → Int32))), f_Suggestions_offer_59 t_most a0 a1 v_t_size l4 l5 n v_t_texts v_t_ranks l6 = some x → (Go p l e { frames := 1, cells := 0, slots := 0, locals := 17 } s m args below meth c (MQ below (Qs D A POST) args s 0 0 A) D A 7 0 0 [(qt, .inr (5, [.ref qt_texts, .ref qt_ranks, .int v_t_size, .int t_most])), (qt_texts, .inl (tc 1, 24, .inr (.inl x.1))), (qt_ranks, .inl (tc 0, 24, .inl x.2))] [(0, .ref qt), (1, .long a0), (3, .int a1), (4, .int l4), (5, .int l5)] 104 []) → Go p l e { frames := 1, cells := 0, slots := 0, locals := 17 } s m args below meth c (MQ below (Qs D A POST) args s 0 0 A) D A 7 0 0 [(qt, .inr (5, [.ref qt_texts, .ref qt_ranks, .int v_t_size, .int t_most])), (qt_texts, .inl (tc 1, 24, .inr (.inl v_t_texts))), (qt_ranks, .inl (tc 0, 24, .inl v_t_ranks))] [(0, .ref qt), (1, .long a0), (3, .int a1), (4, .int l4), (5, .int l5), (6, .int l6)] 59 [] := by
    intro v_t_size l4 l5 n
    induction n with
    | zero =>
      intro v_t_texts v_t_ranks l6 x hf hE
      simp [f_Suggestions_offer_59] at hf
    | succ n ih =>
      intro v_t_texts v_t_ranks l6 x hf hE
      have hf : f_Suggestions_offer_59b t_most a0 a1 v_t_size l4 l5 (f_Suggestions_offer_59 t_most a0 a1 v_t_size l4 l5 n) v_t_texts v_t_ranks l6 = some x := hf
      unfold f_Suggestions_offer_59b at hf
      refine go_iload C d_Suggestions_offer_59 5 rfl (n := 61) rfl ?_
      refine go_iload C d_Suggestions_offer_61 3 rfl (n := 63) rfl ?_
      have hi63 := iteS hf
      refine go_icmp_le C d_Suggestions_offer_63 (tgt := 104) (by decide) (n := 66) rfl (fun h63 => ?_) (fun h63 => ?_)
      · have hf := hi63.1 h63
        refine go_lv (lv' := [(0, .ref qt), (1, .long a0), (3, .int a1), (4, .int l4), (5, .int l5)]) [0, 1, 2, 3, 4] rfl ?_
        cases hf
        exact hE
      · have hf := hi63.2 h63
        refine go_aload_n C d_Suggestions_offer_66 rfl 0 rfl (n := 67) rfl ?_
        refine go_get C d_Suggestions_offer_67 fl_Suggestions_9 0 rfl rfl (n := 70) rfl ?_
        refine go_iload C d_Suggestions_offer_70 5 rfl (n := 72) rfl ?_
        refine go_aload_n C d_Suggestions_offer_72 rfl 0 rfl (n := 73) rfl ?_
        refine go_get C d_Suggestions_offer_73 fl_Suggestions_9 0 rfl rfl (n := 76) rfl ?_
        refine go_iload C d_Suggestions_offer_76 5 rfl (n := 78) rfl ?_
        refine go_iconst C (v := 1) d_Suggestions_offer_78 rfl (n := 79) rfl ?_
        refine go_isub C d_Suggestions_offer_79 (n := 80) rfl ?_
        obtain ⟨hg80, hf⟩ := guardS hf
        refine go_lald C d_Suggestions_offer_80 1 rfl hg80 (n := 81) rfl ?_
        obtain ⟨hg81, hf⟩ := guardS hf
        refine go_last C d_Suggestions_offer_81 1 rfl hg81 (n := 82) rfl ?_
        refine go_aload_n C d_Suggestions_offer_82 rfl 0 rfl (n := 83) rfl ?_
        refine go_get C d_Suggestions_offer_83 fl_Suggestions_15 0 rfl rfl (n := 86) rfl ?_
        refine go_iload C d_Suggestions_offer_86 5 rfl (n := 88) rfl ?_
        refine go_aload_n C d_Suggestions_offer_88 rfl 0 rfl (n := 89) rfl ?_
        refine go_get C d_Suggestions_offer_89 fl_Suggestions_15 0 rfl rfl (n := 92) rfl ?_
        refine go_iload C d_Suggestions_offer_92 5 rfl (n := 94) rfl ?_
        refine go_iconst C (v := 1) d_Suggestions_offer_94 rfl (n := 95) rfl ?_
        refine go_isub C d_Suggestions_offer_95 (n := 96) rfl ?_
        obtain ⟨hg96, hf⟩ := guardS hf
        refine go_iald C d_Suggestions_offer_96 2 rfl hg96 (n := 97) rfl ?_
        obtain ⟨hg97, hf⟩ := guardS hf
        refine go_iast C d_Suggestions_offer_97 2 rfl hg97 (n := 98) rfl ?_
        refine go_iinc C d_Suggestions_offer_98 5 rfl (v := l6 + (-1 : Int32)) rfl (lv' := [(6, .int (l6 + (-1 : Int32))), (0, .ref qt), (1, .long a0), (3, .int a1), (4, .int l4), (5, .int l5)]) (by decide) rfl (n := 101) rfl ?_
        refine go_goto C d_Suggestions_offer_101 (tgt := 59) (by decide) ?_
        refine go_lv (lv' := [(0, .ref qt), (1, .long a0), (3, .int a1), (4, .int l4), (5, .int l5), (6, .int (l6 + (-1 : Int32)))]) [1, 2, 3, 4, 5, 0] rfl ?_
        exact ih (vp_updL v_t_texts l6.toNatClampNeg (v_t_texts (l6 - (1 : Int32)).toNatClampNeg)) (upd v_t_ranks l6.toNatClampNeg (v_t_ranks (l6 - (1 : Int32)).toNatClampNeg)) (l6 + (-1 : Int32)) x hf hE
  have K30 : ∀ (v_t_size : Int32) (v_t_texts : Nat → Int64) (v_t_ranks : Nat → Int32) (l4 : Int32), f_Suggestions_offer_30 t_most a0 a1 v_t_size v_t_texts v_t_ranks l4 = some o → Go p l e { frames := 1, cells := 0, slots := 0, locals := 17 } s m args below meth c (MQ below (Qs D A POST) args s 0 0 A) D A 7 0 0 [(qt, .inr (5, [.ref qt_texts, .ref qt_ranks, .int v_t_size, .int t_most])), (qt_texts, .inl (tc 1, 24, .inr (.inl v_t_texts))), (qt_ranks, .inl (tc 0, 24, .inl v_t_ranks))] [(0, .ref qt), (1, .long a0), (3, .int a1), (4, .int l4)] 30 [] := by
    intro v_t_size v_t_texts v_t_ranks l4 hf
    unfold f_Suggestions_offer_30 at hf
    refine go_iload C d_Suggestions_offer_30 3 rfl (n := 32) rfl ?_
    refine go_aload_n C d_Suggestions_offer_32 rfl 0 rfl (n := 33) rfl ?_
    refine go_get C d_Suggestions_offer_33 fl_Suggestions_23 0 rfl rfl (n := 36) rfl ?_
    have hi36 := iteS hf
    refine go_icmp_lt C d_Suggestions_offer_36 (tgt := 40) (by decide) (n := 39) rfl (fun h36 => ?_) (fun h36 => ?_)
    · have hf := hi36.1 h36
      refine go_aload_n C d_Suggestions_offer_40 rfl 0 rfl (n := 41) rfl ?_
      refine go_get C d_Suggestions_offer_41 fl_Suggestions_19 0 rfl rfl (n := 44) rfl ?_
      refine go_aload_n C d_Suggestions_offer_44 rfl 0 rfl (n := 45) rfl ?_
      refine go_get C d_Suggestions_offer_45 fl_Suggestions_23 0 rfl rfl (n := 48) rfl ?_
      refine go_iconst C (v := 1) d_Suggestions_offer_48 rfl (n := 49) rfl ?_
      refine go_isub C d_Suggestions_offer_49 (n := 50) rfl ?_
      refine go_mmin C d_Suggestions_offer_50 wl_Suggestions_26 wmin (Nat.le_of_ble_eq_true rfl) (Nat.le_of_ble_eq_true rfl) (Nat.le_of_ble_eq_true rfl) (Nat.le_of_ble_eq_true rfl) (n := 53) rfl ?_
      refine go_istore C d_Suggestions_offer_53 (lv' := [(5, .int (if (t_most - (1 : Int32)) < v_t_size then t_most - (1 : Int32) else v_t_size)), (0, .ref qt), (1, .long a0), (3, .int a1), (4, .int l4)]) (by decide) rfl (n := 55) rfl ?_
      refine go_iload C d_Suggestions_offer_55 0 rfl (n := 57) rfl ?_
      refine go_istore C d_Suggestions_offer_57 (lv' := [(6, .int (if (t_most - (1 : Int32)) < v_t_size then t_most - (1 : Int32) else v_t_size)), (5, .int (if (t_most - (1 : Int32)) < v_t_size then t_most - (1 : Int32) else v_t_size)), (0, .ref qt), (1, .long a0), (3, .int a1), (4, .int l4)]) (by decide) rfl (n := 59) rfl ?_
      refine go_lv (lv' := [(0, .ref qt), (1, .long a0), (3, .int a1), (4, .int l4), (5, .int (if (t_most - (1 : Int32)) < v_t_size then t_most - (1 : Int32) else v_t_size)), (6, .int (if (t_most - (1 : Int32)) < v_t_size then t_most - (1 : Int32) else v_t_size))]) [2, 3, 4, 5, 1, 0] rfl ?_
      obtain ⟨x59, hx59, hf⟩ := bindS hf
      refine K59 v_t_size l4 (if (t_most - (1 : Int32)) < v_t_size then t_most - (1 : Int32) else v_t_size) FU v_t_texts v_t_ranks (if (t_most - (1 : Int32)) < v_t_size then t_most - (1 : Int32) else v_t_size) x59 hx59 ?_
      refine go_aload_n C d_Suggestions_offer_104 rfl 0 rfl (n := 105) rfl ?_
      refine go_get C d_Suggestions_offer_105 fl_Suggestions_9 0 rfl rfl (n := 108) rfl ?_
      refine go_iload C d_Suggestions_offer_108 3 rfl (n := 110) rfl ?_
      refine go_lload_n C d_Suggestions_offer_110 rfl 1 rfl (n := 111) rfl ?_
      obtain ⟨hg111, hf⟩ := guardS hf
      refine go_last C d_Suggestions_offer_111 1 rfl hg111 (n := 112) rfl ?_
      refine go_aload_n C d_Suggestions_offer_112 rfl 0 rfl (n := 113) rfl ?_
      refine go_get C d_Suggestions_offer_113 fl_Suggestions_15 0 rfl rfl (n := 116) rfl ?_
      refine go_iload C d_Suggestions_offer_116 3 rfl (n := 118) rfl ?_
      refine go_iload_n C d_Suggestions_offer_118 rfl 2 rfl (n := 119) rfl ?_
      obtain ⟨hg119, hf⟩ := guardS hf
      refine go_iast C d_Suggestions_offer_119 2 rfl hg119 (n := 120) rfl ?_
      refine go_aload_n C d_Suggestions_offer_120 rfl 0 rfl (n := 121) rfl ?_
      refine go_iload C d_Suggestions_offer_121 4 rfl (n := 123) rfl ?_
      refine go_iconst C (v := 1) d_Suggestions_offer_123 rfl (n := 124) rfl ?_
      refine go_iadd C d_Suggestions_offer_124 (n := 125) rfl ?_
      refine go_put C d_Suggestions_offer_125 fl_Suggestions_19 (fs_Suggestions 2) rfl rfl rfl 0 rfl (Nat.le_of_ble_eq_true rfl) (n := 128) rfl ?_
      cases hf
      exact go_vret C d_Suggestions_offer_128 hr hPOST
    · have hf := hi36.2 h36
      cases hf
      exact go_vret C d_Suggestions_offer_39 hr hPOST
  unfold f_Suggestions_offer at hf
  refine go_aload_n C d_Suggestions_offer_0 rfl 0 rfl (n := 1) rfl ?_
  refine go_get C d_Suggestions_offer_1 fl_Suggestions_19 0 rfl rfl (n := 4) rfl ?_
  refine go_istore C d_Suggestions_offer_4 (lv' := [(4, .int t_size), (0, .ref qt), (1, .long a0), (3, .int a1)]) (by decide) rfl (n := 6) rfl ?_
  refine go_lv (lv' := [(0, .ref qt), (1, .long a0), (3, .int a1), (4, .int t_size)]) [1, 2, 3, 0] rfl ?_
  obtain ⟨x6, hx6, hf⟩ := bindS hf
  refine K6 t_size t_texts t_ranks FU t_size x6 hx6 ?_
  exact K30 t_size t_texts t_ranks x6 hf

def f_Suggestions_takeBeginning_50 (rec : Int32 → (Nat → Int64) → (Nat → Int32) → Int32 → Option (Int32 × (Nat → Int64) × (Nat → Int32))) (t_most : Int32) (p0_size : Int32) (p0_texts : Nat → Int64) (p0_costs : Nat → Int32) (a1 : Int64) (l4 : Int32) (v_t_size : Int32) (v_t_texts : Nat → Int64) (v_t_ranks : Nat → Int32) (l5 : Int32) : Option (Int32 × (Nat → Int64) × (Nat → Int32)) :=
  rec v_t_size v_t_texts v_t_ranks (l5 + (1 : Int32))
def f_Suggestions_takeBeginning_9b (t_most : Int32) (p0_size : Int32) (p0_texts : Nat → Int64) (p0_costs : Nat → Int32) (a1 : Int64) (l4 : Int32) (rec : Int32 → (Nat → Int64) → (Nat → Int32) → Int32 → Option (Int32 × (Nat → Int64) × (Nat → Int32))) (v_t_size : Int32) (v_t_texts : Nat → Int64) (v_t_ranks : Nat → Int32) (l5 : Int32) : Option (Int32 × (Nat → Int64) × (Nat → Int32)) :=
  (f_WordList_size p0_size).bind (fun o12 => if o12 ≤ l5 then some ( (v_t_size, v_t_texts, v_t_ranks)) else (f_WordList_textAt p0_texts l5).bind (fun o21 => (f_Texts_head o21 l4).bind (fun o26 => if o26 = a1 then (f_WordList_textAt p0_texts l5).bind (fun o38 => (f_WordList_costAt p0_costs l5).bind (fun o44 => (f_Suggestions_offer v_t_size t_most v_t_texts v_t_ranks o38 o44).bind (fun o47 => f_Suggestions_takeBeginning_50 rec t_most p0_size p0_texts p0_costs a1 l4 o47.1 o47.2.1 o47.2.2 l5))) else f_Suggestions_takeBeginning_50 rec t_most p0_size p0_texts p0_costs a1 l4 v_t_size v_t_texts v_t_ranks l5)))
def f_Suggestions_takeBeginning_9 (t_most : Int32) (p0_size : Int32) (p0_texts : Nat → Int64) (p0_costs : Nat → Int32) (a1 : Int64) (l4 : Int32) : Nat → Int32 → (Nat → Int64) → (Nat → Int32) → Int32 → Option (Int32 × (Nat → Int64) × (Nat → Int32))
  | 0 => fun _ _ _ _ => none
  | n + 1 => f_Suggestions_takeBeginning_9b t_most p0_size p0_texts p0_costs a1 l4 (f_Suggestions_takeBeginning_9 t_most p0_size p0_texts p0_costs a1 l4 n)
def f_Suggestions_takeBeginning (t_size : Int32) (t_most : Int32) (t_texts : Nat → Int64) (t_ranks : Nat → Int32) (p0_size : Int32) (p0_texts : Nat → Int64) (p0_costs : Nat → Int32) (a1 : Int64) : Option (Int32 × (Nat → Int64) × (Nat → Int32)) :=
  (f_Texts_lengthOf a1).bind (fun o1 => (f_Suggestions_takeBeginning_9 t_most p0_size p0_texts p0_costs a1 o1 FU t_size t_texts t_ranks (0 : Int32)).bind (fun x9 => some (x9.1, x9.2.1, x9.2.2)))
set_option maxRecDepth 100000 in
set_option maxHeartbeats 4000000 in
theorem c_Suggestions_takeBeginning (l : Launch) (D : va_G) (tc : Nat → ClassId) (qt : Nat) (qt_texts : Nat) (qt_ranks : Nat) (qp0 : Nat) (qp0_texts : Nat) (qp0_costs : Nat) (t_size : Int32) (t_most : Int32) (t_texts : Nat → Int64) (t_ranks : Nat → Int32) (p0_size : Int32) (p0_texts : Nat → Int64) (p0_costs : Nat → Int32) (a1 : Int64) {o : (Int32 × (Nat → Int64) × (Nat → Int32))} (hf : f_Suggestions_takeBeginning t_size t_most t_texts t_ranks p0_size p0_texts p0_costs a1 = some o) (POST : Option Value → va_W → Prop) (hPOST : POST none [(qt, .inr (5, [.ref qt_texts, .ref qt_ranks, .int o.1, .int t_most])), (qt_texts, .inl (tc 1, 24, .inr (.inl o.2.1))), (qt_ranks, .inl (tc 0, 24, .inl o.2.2)), (qp0, .inr (6, [.ref qp0_texts, .ref qp0_costs, .int p0_size])), (qp0_texts, .inl (tc 1, 24, .inr (.inl p0_texts))), (qp0_costs, .inl (tc 0, 24, .inl p0_costs))]) : Std l y_Suggestions_takeBeginning (.code y_Suggestions_takeBeginning b_Suggestions_takeBeginning 6 none) { frames := 2, cells := 0, slots := 0, locals := 44 } D tc [.ref qt, .ref qp0, .long a1] [(qt, .inr (5, [.ref qt_texts, .ref qt_ranks, .int t_size, .int t_most])), (qt_texts, .inl (tc 1, 24, .inr (.inl t_texts))), (qt_ranks, .inl (tc 0, 24, .inl t_ranks)), (qp0, .inr (6, [.ref qp0_texts, .ref qp0_costs, .int p0_size])), (qp0_texts, .inl (tc 1, 24, .inr (.inl p0_texts))), (qp0_costs, .inl (tc 0, 24, .inl p0_costs))] 0 0 POST := by
  refine std_of (lv := [(0, .ref qt), (1, .ref qp0), (2, .long a1)]) (by decide) (Nat.le_of_ble_eq_true rfl) rfl (fun p e s m args below meth c A C hr hnm => ?_)
  have K9 : ∀ (l4 : Int32) (n : Nat) (v_t_size : Int32) (v_t_texts : Nat → Int64) (v_t_ranks : Nat → Int32) (l5 : Int32) (x : (Int32 × (Nat → Int64) × (Nat → Int32))), f_Suggestions_takeBeginning_9 t_most p0_size p0_texts p0_costs a1 l4 n v_t_size v_t_texts v_t_ranks l5 = some x → (Go p l e { frames := 2, cells := 0, slots := 0, locals := 44 } s m args below meth c (MQ below (Qs D A POST) args s 0 0 A) D A 6 0 0 [(qt, .inr (5, [.ref qt_texts, .ref qt_ranks, .int x.1, .int t_most])), (qt_texts, .inl (tc 1, 24, .inr (.inl x.2.1))), (qt_ranks, .inl (tc 0, 24, .inl x.2.2)), (qp0, .inr (6, [.ref qp0_texts, .ref qp0_costs, .int p0_size])), (qp0_texts, .inl (tc 1, 24, .inr (.inl p0_texts))), (qp0_costs, .inl (tc 0, 24, .inl p0_costs))] [] 56 []) → Go p l e { frames := 2, cells := 0, slots := 0, locals := 44 } s m args below meth c (MQ below (Qs D A POST) args s 0 0 A) D A 6 0 0 [(qt, .inr (5, [.ref qt_texts, .ref qt_ranks, .int v_t_size, .int t_most])), (qt_texts, .inl (tc 1, 24, .inr (.inl v_t_texts))), (qt_ranks, .inl (tc 0, 24, .inl v_t_ranks)), (qp0, .inr (6, [.ref qp0_texts, .ref qp0_costs, .int p0_size])), (qp0_texts, .inl (tc 1, 24, .inr (.inl p0_texts))), (qp0_costs, .inl (tc 0, 24, .inl p0_costs))] [(0, .ref qt), (1, .ref qp0), (2, .long a1), (4, .int l4), (5, .int l5)] 9 [] := by
    intro l4 n
    induction n with
    | zero =>
      intro v_t_size v_t_texts v_t_ranks l5 x hf hE
      simp [f_Suggestions_takeBeginning_9] at hf
    | succ n ih =>
      intro v_t_size v_t_texts v_t_ranks l5 x hf hE
      have hf : f_Suggestions_takeBeginning_9b t_most p0_size p0_texts p0_costs a1 l4 (f_Suggestions_takeBeginning_9 t_most p0_size p0_texts p0_costs a1 l4 n) v_t_size v_t_texts v_t_ranks l5 = some x := hf
      have K50 : ∀ (v_t_size : Int32) (v_t_texts : Nat → Int64) (v_t_ranks : Nat → Int32) (l5 : Int32), f_Suggestions_takeBeginning_50 (f_Suggestions_takeBeginning_9 t_most p0_size p0_texts p0_costs a1 l4 n) t_most p0_size p0_texts p0_costs a1 l4 v_t_size v_t_texts v_t_ranks l5 = some x → Go p l e { frames := 2, cells := 0, slots := 0, locals := 44 } s m args below meth c (MQ below (Qs D A POST) args s 0 0 A) D A 6 0 0 [(qt, .inr (5, [.ref qt_texts, .ref qt_ranks, .int v_t_size, .int t_most])), (qt_texts, .inl (tc 1, 24, .inr (.inl v_t_texts))), (qt_ranks, .inl (tc 0, 24, .inl v_t_ranks)), (qp0, .inr (6, [.ref qp0_texts, .ref qp0_costs, .int p0_size])), (qp0_texts, .inl (tc 1, 24, .inr (.inl p0_texts))), (qp0_costs, .inl (tc 0, 24, .inl p0_costs))] [(0, .ref qt), (1, .ref qp0), (2, .long a1), (4, .int l4), (5, .int l5)] 50 [] := by
        intro v_t_size v_t_texts v_t_ranks l5 hf
        unfold f_Suggestions_takeBeginning_50 at hf
        refine go_iinc C d_Suggestions_takeBeginning_50 4 rfl (v := l5 + (1 : Int32)) rfl (lv' := [(5, .int (l5 + (1 : Int32))), (0, .ref qt), (1, .ref qp0), (2, .long a1), (4, .int l4)]) (by decide) rfl (n := 53) rfl ?_
        refine go_goto C d_Suggestions_takeBeginning_53 (tgt := 9) (by decide) ?_
        refine go_lv (lv' := [(0, .ref qt), (1, .ref qp0), (2, .long a1), (4, .int l4), (5, .int (l5 + (1 : Int32)))]) [1, 2, 3, 4, 0] rfl ?_
        exact ih v_t_size v_t_texts v_t_ranks (l5 + (1 : Int32)) x hf hE
      unfold f_Suggestions_takeBeginning_9b at hf
      refine go_iload C d_Suggestions_takeBeginning_9 4 rfl (n := 11) rfl ?_
      refine go_aload_n C d_Suggestions_takeBeginning_11 rfl 1 rfl (n := 12) rfl ?_
      obtain ⟨o12, ho12, hf⟩ := bindS hf
      refine go_callVr C (As := []) (rest := [.int l5]) d_Suggestions_takeBeginning_12 (c_WordList_size l D tc qp0 qp0_texts qp0_costs p0_size p0_texts p0_costs ho12 (fun r w => r = some (.int o12) ∧ w = [(qp0, .inr (6, [.ref qp0_texts, .ref qp0_costs, .int p0_size])), (qp0_texts, .inl (tc 1, 24, .inr (.inl p0_texts))), (qp0_costs, .inl (tc 0, 24, .inl p0_costs))]) ⟨rfl, rfl⟩) lk_Suggestions_38 mw_WordList_size sv_WordList_size 3 rfl rfl rfl rfl ⟨(Nat.le_of_ble_eq_true rfl), (Nat.le_of_ble_eq_true rfl)⟩ rfl rfl (Nat.le_of_ble_eq_true rfl) ⟨(Nat.le_of_ble_eq_true rfl), (Nat.le_of_ble_eq_true rfl)⟩ [3, 4, 5] rfl (by decide) (n := 15) rfl ?_
      have hi15 := iteS hf
      refine go_icmp_ge C d_Suggestions_takeBeginning_15 (tgt := 56) (by decide) (n := 18) rfl (fun h15 => ?_) (fun h15 => ?_)
      · have hf := hi15.1 h15
        refine go_lv (lv' := []) [] rfl ?_
        cases hf
        exact hE
      · have hf := hi15.2 h15
        refine go_aload_n C d_Suggestions_takeBeginning_18 rfl 1 rfl (n := 19) rfl ?_
        refine go_iload C d_Suggestions_takeBeginning_19 4 rfl (n := 21) rfl ?_
        obtain ⟨o21, ho21, hf⟩ := bindS hf
        refine go_callVr C (As := [.int l5]) (rest := []) d_Suggestions_takeBeginning_21 (c_WordList_textAt l D tc qp0 qp0_texts qp0_costs p0_size p0_texts p0_costs l5 ho21 (fun r w => r = some (.long o21) ∧ w = [(qp0, .inr (6, [.ref qp0_texts, .ref qp0_costs, .int p0_size])), (qp0_texts, .inl (tc 1, 24, .inr (.inl p0_texts))), (qp0_costs, .inl (tc 0, 24, .inl p0_costs))]) ⟨rfl, rfl⟩) lk_Suggestions_43 mw_WordList_textAt sv_WordList_textAt 3 rfl rfl rfl rfl ⟨(Nat.le_of_ble_eq_true rfl), (Nat.le_of_ble_eq_true rfl)⟩ rfl rfl (Nat.le_of_ble_eq_true rfl) ⟨(Nat.le_of_ble_eq_true rfl), (Nat.le_of_ble_eq_true rfl)⟩ [3, 4, 5] rfl (by decide) (n := 24) rfl ?_
        refine go_iload C d_Suggestions_takeBeginning_24 3 rfl (n := 26) rfl ?_
        obtain ⟨o26, ho26, hf⟩ := bindS hf
        refine go_callP C (As := [.long o21, .int l4]) (rest := []) d_Suggestions_takeBeginning_26 (c_Texts_head l D tc o21 l4 ho26 (fun r w => r = some (.long o26) ∧ w = []) ⟨rfl, rfl⟩) lk_Suggestions_47 mw_Texts_head ws_Texts_head rfl rfl ⟨(Nat.le_of_ble_eq_true rfl), (Nat.le_of_ble_eq_true rfl)⟩ rfl rfl (Nat.le_of_ble_eq_true rfl) ⟨(Nat.le_of_ble_eq_true rfl), (Nat.le_of_ble_eq_true rfl)⟩ (n := 29) rfl ?_
        rintro _ _ ⟨rfl, rfl⟩
        refine go_lload_n C d_Suggestions_takeBeginning_29 rfl 2 rfl (n := 30) rfl ?_
        have hi30 := iteS hf
        refine go_lcmp_ne C d_Suggestions_takeBeginning_30 (n1 := 31) rfl d_Suggestions_takeBeginning_31 (tgt := 50) (by decide) (n := 34) rfl (fun h30 => ?_) (fun h30 => ?_)
        · have hf := hi30.2 h30
          exact K50 v_t_size v_t_texts v_t_ranks l5 hf
        · have hf := hi30.1 h30
          refine go_aload_n C d_Suggestions_takeBeginning_34 rfl 0 rfl (n := 35) rfl ?_
          refine go_aload_n C d_Suggestions_takeBeginning_35 rfl 1 rfl (n := 36) rfl ?_
          refine go_iload C d_Suggestions_takeBeginning_36 4 rfl (n := 38) rfl ?_
          obtain ⟨o38, ho38, hf⟩ := bindS hf
          refine go_callVr C (As := [.int l5]) (rest := [.ref qt]) d_Suggestions_takeBeginning_38 (c_WordList_textAt l D tc qp0 qp0_texts qp0_costs p0_size p0_texts p0_costs l5 ho38 (fun r w => r = some (.long o38) ∧ w = [(qp0, .inr (6, [.ref qp0_texts, .ref qp0_costs, .int p0_size])), (qp0_texts, .inl (tc 1, 24, .inr (.inl p0_texts))), (qp0_costs, .inl (tc 0, 24, .inl p0_costs))]) ⟨rfl, rfl⟩) lk_Suggestions_43 mw_WordList_textAt sv_WordList_textAt 3 rfl rfl rfl rfl ⟨(Nat.le_of_ble_eq_true rfl), (Nat.le_of_ble_eq_true rfl)⟩ rfl rfl (Nat.le_of_ble_eq_true rfl) ⟨(Nat.le_of_ble_eq_true rfl), (Nat.le_of_ble_eq_true rfl)⟩ [3, 4, 5] rfl (by decide) (n := 41) rfl ?_
          refine go_aload_n C d_Suggestions_takeBeginning_41 rfl 1 rfl (n := 42) rfl ?_
          refine go_iload C d_Suggestions_takeBeginning_42 4 rfl (n := 44) rfl ?_
          obtain ⟨o44, ho44, hf⟩ := bindS hf
          refine go_callVr C (As := [.int l5]) (rest := [.long o38, .ref qt]) d_Suggestions_takeBeginning_44 (c_WordList_costAt l D tc qp0 qp0_texts qp0_costs p0_size p0_texts p0_costs l5 ho44 (fun r w => r = some (.int o44) ∧ w = [(qp0, .inr (6, [.ref qp0_texts, .ref qp0_costs, .int p0_size])), (qp0_texts, .inl (tc 1, 24, .inr (.inl p0_texts))), (qp0_costs, .inl (tc 0, 24, .inl p0_costs))]) ⟨rfl, rfl⟩) lk_Suggestions_51 mw_WordList_costAt sv_WordList_costAt 3 rfl rfl rfl rfl ⟨(Nat.le_of_ble_eq_true rfl), (Nat.le_of_ble_eq_true rfl)⟩ rfl rfl (Nat.le_of_ble_eq_true rfl) ⟨(Nat.le_of_ble_eq_true rfl), (Nat.le_of_ble_eq_true rfl)⟩ [3, 4, 5] rfl (by decide) (n := 47) rfl ?_
          obtain ⟨o47, ho47, hf⟩ := bindS hf
          refine go_callV C (As := [.long o38, .int o44]) (rest := []) d_Suggestions_takeBeginning_47 (c_Suggestions_offer l D tc qt qt_texts qt_ranks v_t_size t_most v_t_texts v_t_ranks o38 o44 ho47 (fun r w => r = none ∧ w = [(qt, .inr (5, [.ref qt_texts, .ref qt_ranks, .int o47.1, .int t_most])), (qt_texts, .inl (tc 1, 24, .inr (.inl o47.2.1))), (qt_ranks, .inl (tc 0, 24, .inl o47.2.2))]) ⟨rfl, rfl⟩) lk_Suggestions_55 mw_Suggestions_offer sv_Suggestions_offer 0 rfl rfl rfl rfl ⟨(Nat.le_of_ble_eq_true rfl), (Nat.le_of_ble_eq_true rfl)⟩ rfl rfl (Nat.le_of_ble_eq_true rfl) ⟨(Nat.le_of_ble_eq_true rfl), (Nat.le_of_ble_eq_true rfl)⟩ [0, 1, 2] rfl (by decide) (by rintro _ _ ⟨rfl, rfl⟩; simp only [List.map_cons, List.map_nil]) (n := 50) rfl ?_
          rintro _ _ ⟨rfl, rfl⟩
          refine go_eq (ws' := [(qt, .inr (5, [.ref qt_texts, .ref qt_ranks, .int o47.1, .int t_most])), (qt_texts, .inl (tc 1, 24, .inr (.inl o47.2.1))), (qt_ranks, .inl (tc 0, 24, .inl o47.2.2)), (qp0, .inr (6, [.ref qp0_texts, .ref qp0_costs, .int p0_size])), (qp0_texts, .inl (tc 1, 24, .inr (.inl p0_texts))), (qp0_costs, .inl (tc 0, 24, .inl p0_costs))]) (by simp only [repl, List.set_cons_zero, List.set_cons_succ]) rfl rfl ?_
          exact K50 o47.1 o47.2.1 o47.2.2 l5 hf
  unfold f_Suggestions_takeBeginning at hf
  refine go_lload_n C d_Suggestions_takeBeginning_0 rfl 2 rfl (n := 1) rfl ?_
  obtain ⟨o1, ho1, hf⟩ := bindS hf
  refine go_callP C (As := [.long a1]) (rest := []) d_Suggestions_takeBeginning_1 (c_Texts_lengthOf l D tc a1 ho1 (fun r w => r = some (.int o1) ∧ w = []) ⟨rfl, rfl⟩) lk_Suggestions_32 mw_Texts_lengthOf ws_Texts_lengthOf rfl rfl ⟨(Nat.le_of_ble_eq_true rfl), (Nat.le_of_ble_eq_true rfl)⟩ rfl rfl (Nat.le_of_ble_eq_true rfl) ⟨(Nat.le_of_ble_eq_true rfl), (Nat.le_of_ble_eq_true rfl)⟩ (n := 4) rfl ?_
  rintro _ _ ⟨rfl, rfl⟩
  refine go_istore C d_Suggestions_takeBeginning_4 (lv' := [(4, .int o1), (0, .ref qt), (1, .ref qp0), (2, .long a1)]) (by decide) rfl (n := 6) rfl ?_
  refine go_iconst C (v := 0) d_Suggestions_takeBeginning_6 rfl (n := 7) rfl ?_
  refine go_istore C d_Suggestions_takeBeginning_7 (lv' := [(5, .int (0 : Int32)), (4, .int o1), (0, .ref qt), (1, .ref qp0), (2, .long a1)]) (by decide) rfl (n := 9) rfl ?_
  refine go_lv (lv' := [(0, .ref qt), (1, .ref qp0), (2, .long a1), (4, .int o1), (5, .int (0 : Int32))]) [2, 3, 4, 1, 0] rfl ?_
  obtain ⟨x9, hx9, hf⟩ := bindS hf
  refine K9 o1 FU t_size t_texts t_ranks (0 : Int32) x9 hx9 ?_
  cases hf
  exact go_vret C d_Suggestions_takeBeginning_56 hr hPOST
