def f_WordList_size (t_size : Int32) : Option (Int32) :=
  some t_size
set_option maxRecDepth 100000 in
set_option maxHeartbeats 4000000 in
theorem c_WordList_size (l : Launch) (D : va_G) (tc : Nat → ClassId) (qt : Nat) (qt_texts : Nat) (qt_costs : Nat) (t_size : Int32) (t_texts : Nat → Int64) (t_costs : Nat → Int32) {o : (Int32)} (hf : f_WordList_size t_size = some o) (POST : Option Value → va_W → Prop) (hPOST : POST (some (.int o)) [(qt, .inr (6, [.ref qt_texts, .ref qt_costs, .int t_size])), (qt_texts, .inl (tc 1, 24, .inr (.inl t_texts))), (qt_costs, .inl (tc 0, 24, .inl t_costs))]) : Std l y_WordList_size (.code y_WordList_size b_WordList_size 1 (some .int)) { frames := 0, cells := 0, slots := 0, locals := 0 } D tc [.ref qt] [(qt, .inr (6, [.ref qt_texts, .ref qt_costs, .int t_size])), (qt_texts, .inl (tc 1, 24, .inr (.inl t_texts))), (qt_costs, .inl (tc 0, 24, .inl t_costs))] 0 0 POST := by
  refine std_of (lv := [(0, .ref qt)]) (by decide) (Nat.le_of_ble_eq_true rfl) rfl (fun p e s m args below meth c A C hr hnm => ?_)
  unfold f_WordList_size at hf
  refine go_aload_n C d_WordList_size_0 rfl 0 rfl (n := 1) rfl ?_
  refine go_get C d_WordList_size_1 fl_WordList_19 0 rfl rfl (n := 4) rfl ?_
  cases hf
  exact go_iret C d_WordList_size_4 hr hPOST

def f_WordList_textAt (t_texts : Nat → Int64) (a0 : Int32) : Option (Int64) :=
  if okI a0 24 = true then some (t_texts a0.toNatClampNeg) else none
set_option maxRecDepth 100000 in
set_option maxHeartbeats 4000000 in
theorem c_WordList_textAt (l : Launch) (D : va_G) (tc : Nat → ClassId) (qt : Nat) (qt_texts : Nat) (qt_costs : Nat) (t_size : Int32) (t_texts : Nat → Int64) (t_costs : Nat → Int32) (a0 : Int32) {o : (Int64)} (hf : f_WordList_textAt t_texts a0 = some o) (POST : Option Value → va_W → Prop) (hPOST : POST (some (.long o)) [(qt, .inr (6, [.ref qt_texts, .ref qt_costs, .int t_size])), (qt_texts, .inl (tc 1, 24, .inr (.inl t_texts))), (qt_costs, .inl (tc 0, 24, .inl t_costs))]) : Std l y_WordList_textAt (.code y_WordList_textAt b_WordList_textAt 2 (some .long)) { frames := 0, cells := 0, slots := 0, locals := 0 } D tc [.ref qt, .int a0] [(qt, .inr (6, [.ref qt_texts, .ref qt_costs, .int t_size])), (qt_texts, .inl (tc 1, 24, .inr (.inl t_texts))), (qt_costs, .inl (tc 0, 24, .inl t_costs))] 0 0 POST := by
  refine std_of (lv := [(0, .ref qt), (1, .int a0)]) (by decide) (Nat.le_of_ble_eq_true rfl) rfl (fun p e s m args below meth c A C hr hnm => ?_)
  unfold f_WordList_textAt at hf
  refine go_aload_n C d_WordList_textAt_0 rfl 0 rfl (n := 1) rfl ?_
  refine go_get C d_WordList_textAt_1 fl_WordList_9 0 rfl rfl (n := 4) rfl ?_
  refine go_iload_n C d_WordList_textAt_4 rfl 1 rfl (n := 5) rfl ?_
  obtain ⟨hg5, hf⟩ := guardS hf
  refine go_lald C d_WordList_textAt_5 1 rfl hg5 (n := 6) rfl ?_
  cases hf
  exact go_lret C d_WordList_textAt_6 hr hPOST

def f_WordList_costAt (t_costs : Nat → Int32) (a0 : Int32) : Option (Int32) :=
  if okI a0 24 = true then some (t_costs a0.toNatClampNeg) else none
set_option maxRecDepth 100000 in
set_option maxHeartbeats 4000000 in
theorem c_WordList_costAt (l : Launch) (D : va_G) (tc : Nat → ClassId) (qt : Nat) (qt_texts : Nat) (qt_costs : Nat) (t_size : Int32) (t_texts : Nat → Int64) (t_costs : Nat → Int32) (a0 : Int32) {o : (Int32)} (hf : f_WordList_costAt t_costs a0 = some o) (POST : Option Value → va_W → Prop) (hPOST : POST (some (.int o)) [(qt, .inr (6, [.ref qt_texts, .ref qt_costs, .int t_size])), (qt_texts, .inl (tc 1, 24, .inr (.inl t_texts))), (qt_costs, .inl (tc 0, 24, .inl t_costs))]) : Std l y_WordList_costAt (.code y_WordList_costAt b_WordList_costAt 2 (some .int)) { frames := 0, cells := 0, slots := 0, locals := 0 } D tc [.ref qt, .int a0] [(qt, .inr (6, [.ref qt_texts, .ref qt_costs, .int t_size])), (qt_texts, .inl (tc 1, 24, .inr (.inl t_texts))), (qt_costs, .inl (tc 0, 24, .inl t_costs))] 0 0 POST := by
  refine std_of (lv := [(0, .ref qt), (1, .int a0)]) (by decide) (Nat.le_of_ble_eq_true rfl) rfl (fun p e s m args below meth c A C hr hnm => ?_)
  unfold f_WordList_costAt at hf
  refine go_aload_n C d_WordList_costAt_0 rfl 0 rfl (n := 1) rfl ?_
  refine go_get C d_WordList_costAt_1 fl_WordList_15 0 rfl rfl (n := 4) rfl ?_
  refine go_iload_n C d_WordList_costAt_4 rfl 1 rfl (n := 5) rfl ?_
  obtain ⟨hg5, hf⟩ := guardS hf
  refine go_iald C d_WordList_costAt_5 2 rfl hg5 (n := 6) rfl ?_
  cases hf
  exact go_iret C d_WordList_costAt_6 hr hPOST

def f_WordList_copyFrom_10b (p0_size : Int32) (p0_texts : Nat → Int64) (p0_costs : Nat → Int32) (v_t_size : Int32) (rec : (Nat → Int64) → (Nat → Int32) → Int32 → Option ((Nat → Int64) × (Nat → Int32))) (v_t_texts : Nat → Int64) (v_t_costs : Nat → Int32) (l2 : Int32) : Option ((Nat → Int64) × (Nat → Int32)) :=
  if v_t_size ≤ l2 then some ( (v_t_texts, v_t_costs)) else if okI l2 24 = true then if okI l2 24 = true then if okI l2 24 = true then if okI l2 24 = true then rec (vp_updL v_t_texts l2.toNatClampNeg (p0_texts l2.toNatClampNeg)) (upd v_t_costs l2.toNatClampNeg (p0_costs l2.toNatClampNeg)) (l2 + (1 : Int32)) else none else none else none else none
def f_WordList_copyFrom_10 (p0_size : Int32) (p0_texts : Nat → Int64) (p0_costs : Nat → Int32) (v_t_size : Int32) : Nat → (Nat → Int64) → (Nat → Int32) → Int32 → Option ((Nat → Int64) × (Nat → Int32))
  | 0 => fun _ _ _ => none
  | n + 1 => f_WordList_copyFrom_10b p0_size p0_texts p0_costs v_t_size (f_WordList_copyFrom_10 p0_size p0_texts p0_costs v_t_size n)
def f_WordList_copyFrom (t_size : Int32) (t_texts : Nat → Int64) (t_costs : Nat → Int32) (p0_size : Int32) (p0_texts : Nat → Int64) (p0_costs : Nat → Int32) : Option (Int32 × (Nat → Int64) × (Nat → Int32)) :=
  (f_WordList_copyFrom_10 p0_size p0_texts p0_costs p0_size FU t_texts t_costs (0 : Int32)).bind (fun x10 => some (p0_size, x10.1, x10.2))
set_option maxRecDepth 100000 in
set_option maxHeartbeats 4000000 in
theorem c_WordList_copyFrom (l : Launch) (D : va_G) (tc : Nat → ClassId) (qt : Nat) (qt_texts : Nat) (qt_costs : Nat) (qp0 : Nat) (qp0_texts : Nat) (qp0_costs : Nat) (t_size : Int32) (t_texts : Nat → Int64) (t_costs : Nat → Int32) (p0_size : Int32) (p0_texts : Nat → Int64) (p0_costs : Nat → Int32) {o : (Int32 × (Nat → Int64) × (Nat → Int32))} (hf : f_WordList_copyFrom t_size t_texts t_costs p0_size p0_texts p0_costs = some o) (POST : Option Value → va_W → Prop) (hPOST : POST none [(qt, .inr (6, [.ref qt_texts, .ref qt_costs, .int o.1])), (qt_texts, .inl (tc 1, 24, .inr (.inl o.2.1))), (qt_costs, .inl (tc 0, 24, .inl o.2.2)), (qp0, .inr (6, [.ref qp0_texts, .ref qp0_costs, .int p0_size])), (qp0_texts, .inl (tc 1, 24, .inr (.inl p0_texts))), (qp0_costs, .inl (tc 0, 24, .inl p0_costs))]) : Std l y_WordList_copyFrom (.code y_WordList_copyFrom b_WordList_copyFrom 3 none) { frames := 0, cells := 0, slots := 0, locals := 0 } D tc [.ref qt, .ref qp0] [(qt, .inr (6, [.ref qt_texts, .ref qt_costs, .int t_size])), (qt_texts, .inl (tc 1, 24, .inr (.inl t_texts))), (qt_costs, .inl (tc 0, 24, .inl t_costs)), (qp0, .inr (6, [.ref qp0_texts, .ref qp0_costs, .int p0_size])), (qp0_texts, .inl (tc 1, 24, .inr (.inl p0_texts))), (qp0_costs, .inl (tc 0, 24, .inl p0_costs))] 0 0 POST := by
  refine std_of (lv := [(0, .ref qt), (1, .ref qp0)]) (by decide) (Nat.le_of_ble_eq_true rfl) rfl (fun p e s m args below meth c A C hr hnm => ?_)
  have K10 : ∀ (v_t_size : Int32) (n : Nat) (v_t_texts : Nat → Int64) (v_t_costs : Nat → Int32) (l2 : Int32) (x : ((Nat → Int64) × (Nat → Int32))), f_WordList_copyFrom_10 p0_size p0_texts p0_costs v_t_size n v_t_texts v_t_costs l2 = some x → (Go p l e { frames := 0, cells := 0, slots := 0, locals := 0 } s m args below meth c (MQ below (Qs D A POST) args s 0 0 A) D A 3 0 0 [(qt, .inr (6, [.ref qt_texts, .ref qt_costs, .int v_t_size])), (qt_texts, .inl (tc 1, 24, .inr (.inl x.1))), (qt_costs, .inl (tc 0, 24, .inl x.2)), (qp0, .inr (6, [.ref qp0_texts, .ref qp0_costs, .int p0_size])), (qp0_texts, .inl (tc 1, 24, .inr (.inl p0_texts))), (qp0_costs, .inl (tc 0, 24, .inl p0_costs))] [] 48 []) → Go p l e { frames := 0, cells := 0, slots := 0, locals := 0 } s m args below meth c (MQ below (Qs D A POST) args s 0 0 A) D A 3 0 0 [(qt, .inr (6, [.ref qt_texts, .ref qt_costs, .int v_t_size])), (qt_texts, .inl (tc 1, 24, .inr (.inl v_t_texts))), (qt_costs, .inl (tc 0, 24, .inl v_t_costs)), (qp0, .inr (6, [.ref qp0_texts, .ref qp0_costs, .int p0_size])), (qp0_texts, .inl (tc 1, 24, .inr (.inl p0_texts))), (qp0_costs, .inl (tc 0, 24, .inl p0_costs))] [(0, .ref qt), (1, .ref qp0), (2, .int l2)] 10 [] := by
    intro v_t_size n
    induction n with
    | zero =>
      intro v_t_texts v_t_costs l2 x hf hE
      simp [f_WordList_copyFrom_10] at hf
    | succ n ih =>
      intro v_t_texts v_t_costs l2 x hf hE
      have hf : f_WordList_copyFrom_10b p0_size p0_texts p0_costs v_t_size (f_WordList_copyFrom_10 p0_size p0_texts p0_costs v_t_size n) v_t_texts v_t_costs l2 = some x := hf
      unfold f_WordList_copyFrom_10b at hf
      refine go_iload_n C d_WordList_copyFrom_10 rfl 2 rfl (n := 11) rfl ?_
      refine go_aload_n C d_WordList_copyFrom_11 rfl 0 rfl (n := 12) rfl ?_
      refine go_get C d_WordList_copyFrom_12 fl_WordList_19 0 rfl rfl (n := 15) rfl ?_
      have hi15 := iteS hf
      refine go_icmp_ge C d_WordList_copyFrom_15 (tgt := 48) (by decide) (n := 18) rfl (fun h15 => ?_) (fun h15 => ?_)
      · have hf := hi15.1 h15
        refine go_lv (lv' := []) [] rfl ?_
        cases hf
        exact hE
      · have hf := hi15.2 h15
        refine go_aload_n C d_WordList_copyFrom_18 rfl 0 rfl (n := 19) rfl ?_
        refine go_get C d_WordList_copyFrom_19 fl_WordList_9 0 rfl rfl (n := 22) rfl ?_
        refine go_iload_n C d_WordList_copyFrom_22 rfl 2 rfl (n := 23) rfl ?_
        refine go_aload_n C d_WordList_copyFrom_23 rfl 1 rfl (n := 24) rfl ?_
        refine go_get C d_WordList_copyFrom_24 fl_WordList_9 3 rfl rfl (n := 27) rfl ?_
        refine go_iload_n C d_WordList_copyFrom_27 rfl 2 rfl (n := 28) rfl ?_
        obtain ⟨hg28, hf⟩ := guardS hf
        refine go_lald C d_WordList_copyFrom_28 4 rfl hg28 (n := 29) rfl ?_
        obtain ⟨hg29, hf⟩ := guardS hf
        refine go_last C d_WordList_copyFrom_29 1 rfl hg29 (n := 30) rfl ?_
        refine go_aload_n C d_WordList_copyFrom_30 rfl 0 rfl (n := 31) rfl ?_
        refine go_get C d_WordList_copyFrom_31 fl_WordList_15 0 rfl rfl (n := 34) rfl ?_
        refine go_iload_n C d_WordList_copyFrom_34 rfl 2 rfl (n := 35) rfl ?_
        refine go_aload_n C d_WordList_copyFrom_35 rfl 1 rfl (n := 36) rfl ?_
        refine go_get C d_WordList_copyFrom_36 fl_WordList_15 3 rfl rfl (n := 39) rfl ?_
        refine go_iload_n C d_WordList_copyFrom_39 rfl 2 rfl (n := 40) rfl ?_
        obtain ⟨hg40, hf⟩ := guardS hf
        refine go_iald C d_WordList_copyFrom_40 5 rfl hg40 (n := 41) rfl ?_
        obtain ⟨hg41, hf⟩ := guardS hf
        refine go_iast C d_WordList_copyFrom_41 2 rfl hg41 (n := 42) rfl ?_
        refine go_iinc C d_WordList_copyFrom_42 2 rfl (v := l2 + (1 : Int32)) rfl (lv' := [(2, .int (l2 + (1 : Int32))), (0, .ref qt), (1, .ref qp0)]) (by decide) rfl (n := 45) rfl ?_
        refine go_goto C d_WordList_copyFrom_45 (tgt := 10) (by decide) ?_
        refine go_lv (lv' := [(0, .ref qt), (1, .ref qp0), (2, .int (l2 + (1 : Int32)))]) [1, 2, 0] rfl ?_
        exact ih (vp_updL v_t_texts l2.toNatClampNeg (p0_texts l2.toNatClampNeg)) (upd v_t_costs l2.toNatClampNeg (p0_costs l2.toNatClampNeg)) (l2 + (1 : Int32)) x hf hE
  unfold f_WordList_copyFrom at hf
  refine go_aload_n C d_WordList_copyFrom_0 rfl 0 rfl (n := 1) rfl ?_
  refine go_aload_n C d_WordList_copyFrom_1 rfl 1 rfl (n := 2) rfl ?_
  refine go_get C d_WordList_copyFrom_2 fl_WordList_19 3 rfl rfl (n := 5) rfl ?_
  refine go_put C d_WordList_copyFrom_5 fl_WordList_19 (fs_WordList 2) rfl rfl rfl 0 rfl (Nat.le_of_ble_eq_true rfl) (n := 8) rfl ?_
  refine go_iconst C (v := 0) d_WordList_copyFrom_8 rfl (n := 9) rfl ?_
  refine go_istore_n C d_WordList_copyFrom_9 rfl (lv' := [(2, .int (0 : Int32)), (0, .ref qt), (1, .ref qp0)]) (by decide) rfl (n := 10) rfl ?_
  refine go_lv (lv' := [(0, .ref qt), (1, .ref qp0), (2, .int (0 : Int32))]) [1, 2, 0] rfl ?_
  obtain ⟨x10, hx10, hf⟩ := bindS hf
  refine K10 p0_size FU t_texts t_costs (0 : Int32) x10 hx10 ?_
  cases hf
  exact go_vret C d_WordList_copyFrom_48 hr hPOST

def f_WordList_firstNotBefore_2b (t_size : Int32) (t_texts : Nat → Int64) (a0 : Int64) (rec : Int32 → Option (Int32)) (l3 : Int32) : Option (Int32) :=
  if t_size ≤ l3 then some ( l3) else if okI l3 24 = true then if a0 ≤ (t_texts l3.toNatClampNeg) then some ( l3) else rec (l3 + (1 : Int32)) else none
def f_WordList_firstNotBefore_2 (t_size : Int32) (t_texts : Nat → Int64) (a0 : Int64) : Nat → Int32 → Option (Int32)
  | 0 => fun _ => none
  | n + 1 => f_WordList_firstNotBefore_2b t_size t_texts a0 (f_WordList_firstNotBefore_2 t_size t_texts a0 n)
def f_WordList_firstNotBefore (t_size : Int32) (t_texts : Nat → Int64) (a0 : Int64) : Option (Int32) :=
  (f_WordList_firstNotBefore_2 t_size t_texts a0 FU (0 : Int32)).bind (fun x2 => some x2)
set_option maxRecDepth 100000 in
set_option maxHeartbeats 4000000 in
theorem c_WordList_firstNotBefore (l : Launch) (D : va_G) (tc : Nat → ClassId) (qt : Nat) (qt_texts : Nat) (qt_costs : Nat) (t_size : Int32) (t_texts : Nat → Int64) (t_costs : Nat → Int32) (a0 : Int64) {o : (Int32)} (hf : f_WordList_firstNotBefore t_size t_texts a0 = some o) (POST : Option Value → va_W → Prop) (hPOST : POST (some (.int o)) [(qt, .inr (6, [.ref qt_texts, .ref qt_costs, .int t_size])), (qt_texts, .inl (tc 1, 24, .inr (.inl t_texts))), (qt_costs, .inl (tc 0, 24, .inl t_costs))]) : Std l y_WordList_firstNotBefore (.code y_WordList_firstNotBefore b_WordList_firstNotBefore 4 (some .int)) { frames := 0, cells := 0, slots := 0, locals := 0 } D tc [.ref qt, .long a0] [(qt, .inr (6, [.ref qt_texts, .ref qt_costs, .int t_size])), (qt_texts, .inl (tc 1, 24, .inr (.inl t_texts))), (qt_costs, .inl (tc 0, 24, .inl t_costs))] 0 0 POST := by
  refine std_of (lv := [(0, .ref qt), (1, .long a0)]) (by decide) (Nat.le_of_ble_eq_true rfl) rfl (fun p e s m args below meth c A C hr hnm => ?_)
  have K2 : ∀ (n : Nat) (l3 : Int32) (x : (Int32)), f_WordList_firstNotBefore_2 t_size t_texts a0 n l3 = some x → (Go p l e { frames := 0, cells := 0, slots := 0, locals := 0 } s m args below meth c (MQ below (Qs D A POST) args s 0 0 A) D A 4 0 0 [(qt, .inr (6, [.ref qt_texts, .ref qt_costs, .int t_size])), (qt_texts, .inl (tc 1, 24, .inr (.inl t_texts))), (qt_costs, .inl (tc 0, 24, .inl t_costs))] [(3, .int x)] 27 []) → Go p l e { frames := 0, cells := 0, slots := 0, locals := 0 } s m args below meth c (MQ below (Qs D A POST) args s 0 0 A) D A 4 0 0 [(qt, .inr (6, [.ref qt_texts, .ref qt_costs, .int t_size])), (qt_texts, .inl (tc 1, 24, .inr (.inl t_texts))), (qt_costs, .inl (tc 0, 24, .inl t_costs))] [(0, .ref qt), (1, .long a0), (3, .int l3)] 2 [] := by
    intro n
    induction n with
    | zero =>
      intro l3 x hf hE
      simp [f_WordList_firstNotBefore_2] at hf
    | succ n ih =>
      intro l3 x hf hE
      have hf : f_WordList_firstNotBefore_2b t_size t_texts a0 (f_WordList_firstNotBefore_2 t_size t_texts a0 n) l3 = some x := hf
      unfold f_WordList_firstNotBefore_2b at hf
      refine go_iload_n C d_WordList_firstNotBefore_2 rfl 2 rfl (n := 3) rfl ?_
      refine go_aload_n C d_WordList_firstNotBefore_3 rfl 0 rfl (n := 4) rfl ?_
      refine go_get C d_WordList_firstNotBefore_4 fl_WordList_19 0 rfl rfl (n := 7) rfl ?_
      have hi7 := iteS hf
      refine go_icmp_ge C d_WordList_firstNotBefore_7 (tgt := 27) (by decide) (n := 10) rfl (fun h7 => ?_) (fun h7 => ?_)
      · have hf := hi7.1 h7
        refine go_lv (lv' := [(3, .int l3)]) [2] rfl ?_
        cases hf
        exact hE
      · have hf := hi7.2 h7
        refine go_aload_n C d_WordList_firstNotBefore_10 rfl 0 rfl (n := 11) rfl ?_
        refine go_get C d_WordList_firstNotBefore_11 fl_WordList_9 0 rfl rfl (n := 14) rfl ?_
        refine go_iload_n C d_WordList_firstNotBefore_14 rfl 2 rfl (n := 15) rfl ?_
        obtain ⟨hg15, hf⟩ := guardS hf
        refine go_lald C d_WordList_firstNotBefore_15 1 rfl hg15 (n := 16) rfl ?_
        refine go_lload_n C d_WordList_firstNotBefore_16 rfl 1 rfl (n := 17) rfl ?_
        have hi17 := iteS hf
        refine go_lcmp_ge C d_WordList_firstNotBefore_17 (n1 := 18) rfl d_WordList_firstNotBefore_18 (tgt := 27) (by decide) (n := 21) rfl (fun h17 => ?_) (fun h17 => ?_)
        · have hf := hi17.1 h17
          refine go_lv (lv' := [(3, .int l3)]) [2] rfl ?_
          cases hf
          exact hE
        · have hf := hi17.2 h17
          refine go_iinc C d_WordList_firstNotBefore_21 2 rfl (v := l3 + (1 : Int32)) rfl (lv' := [(3, .int (l3 + (1 : Int32))), (0, .ref qt), (1, .long a0)]) (by decide) rfl (n := 24) rfl ?_
          refine go_goto C d_WordList_firstNotBefore_24 (tgt := 2) (by decide) ?_
          refine go_lv (lv' := [(0, .ref qt), (1, .long a0), (3, .int (l3 + (1 : Int32)))]) [1, 2, 0] rfl ?_
          exact ih (l3 + (1 : Int32)) x hf hE
  unfold f_WordList_firstNotBefore at hf
  refine go_iconst C (v := 0) d_WordList_firstNotBefore_0 rfl (n := 1) rfl ?_
  refine go_istore_n C d_WordList_firstNotBefore_1 rfl (lv' := [(3, .int (0 : Int32)), (0, .ref qt), (1, .long a0)]) (by decide) rfl (n := 2) rfl ?_
  refine go_lv (lv' := [(0, .ref qt), (1, .long a0), (3, .int (0 : Int32))]) [1, 2, 0] rfl ?_
  obtain ⟨x2, hx2, hf⟩ := bindS hf
  refine K2 FU (0 : Int32) x2 hx2 ?_
  refine go_iload_n C d_WordList_firstNotBefore_27 rfl 0 rfl (n := 28) rfl ?_
  cases hf
  exact go_iret C d_WordList_firstNotBefore_28 hr hPOST

def f_WordList_indexOf (t_size : Int32) (t_texts : Nat → Int64) (a0 : Int64) : Option (Int32) :=
  (f_WordList_firstNotBefore t_size t_texts a0).bind (fun o2 => if t_size ≤ o2 then some (-1 : Int32) else if okI o2 24 = true then if (t_texts o2.toNatClampNeg) = a0 then some o2 else some (-1 : Int32) else none)
set_option maxRecDepth 100000 in
set_option maxHeartbeats 4000000 in
theorem c_WordList_indexOf (l : Launch) (D : va_G) (tc : Nat → ClassId) (qt : Nat) (qt_texts : Nat) (qt_costs : Nat) (t_size : Int32) (t_texts : Nat → Int64) (t_costs : Nat → Int32) (a0 : Int64) {o : (Int32)} (hf : f_WordList_indexOf t_size t_texts a0 = some o) (POST : Option Value → va_W → Prop) (hPOST : POST (some (.int o)) [(qt, .inr (6, [.ref qt_texts, .ref qt_costs, .int t_size])), (qt_texts, .inl (tc 1, 24, .inr (.inl t_texts))), (qt_costs, .inl (tc 0, 24, .inl t_costs))]) : Std l y_WordList_indexOf (.code y_WordList_indexOf b_WordList_indexOf 4 (some .int)) { frames := 1, cells := 0, slots := 0, locals := 23 } D tc [.ref qt, .long a0] [(qt, .inr (6, [.ref qt_texts, .ref qt_costs, .int t_size])), (qt_texts, .inl (tc 1, 24, .inr (.inl t_texts))), (qt_costs, .inl (tc 0, 24, .inl t_costs))] 0 0 POST := by
  refine std_of (lv := [(0, .ref qt), (1, .long a0)]) (by decide) (Nat.le_of_ble_eq_true rfl) rfl (fun p e s m args below meth c A C hr hnm => ?_)
  unfold f_WordList_indexOf at hf
  refine go_aload_n C d_WordList_indexOf_0 rfl 0 rfl (n := 1) rfl ?_
  refine go_lload_n C d_WordList_indexOf_1 rfl 1 rfl (n := 2) rfl ?_
  obtain ⟨o2, ho2, hf⟩ := bindS hf
  refine go_callVr C (As := [.long a0]) (rest := []) d_WordList_indexOf_2 (c_WordList_firstNotBefore l D tc qt qt_texts qt_costs t_size t_texts t_costs a0 ho2 (fun r w => r = some (.int o2) ∧ w = [(qt, .inr (6, [.ref qt_texts, .ref qt_costs, .int t_size])), (qt_texts, .inl (tc 1, 24, .inr (.inl t_texts))), (qt_costs, .inl (tc 0, 24, .inl t_costs))]) ⟨rfl, rfl⟩) lk_WordList_23 mw_WordList_firstNotBefore sv_WordList_firstNotBefore 0 rfl rfl rfl rfl ⟨(Nat.le_of_ble_eq_true rfl), (Nat.le_of_ble_eq_true rfl)⟩ rfl rfl (Nat.le_of_ble_eq_true rfl) ⟨(Nat.le_of_ble_eq_true rfl), (Nat.le_of_ble_eq_true rfl)⟩ [0, 1, 2] rfl (by decide) (n := 5) rfl ?_
  refine go_istore_n C d_WordList_indexOf_5 rfl (lv' := [(3, .int o2), (0, .ref qt), (1, .long a0)]) (by decide) rfl (n := 6) rfl ?_
  refine go_iload_n C d_WordList_indexOf_6 rfl 0 rfl (n := 7) rfl ?_
  refine go_aload_n C d_WordList_indexOf_7 rfl 1 rfl (n := 8) rfl ?_
  refine go_get C d_WordList_indexOf_8 fl_WordList_19 0 rfl rfl (n := 11) rfl ?_
  have hi11 := iteS hf
  refine go_icmp_ge C d_WordList_indexOf_11 (tgt := 29) (by decide) (n := 14) rfl (fun h11 => ?_) (fun h11 => ?_)
  · have hf := hi11.1 h11
    refine go_iconst C (v := -1) d_WordList_indexOf_29 rfl (n := 30) rfl ?_
    cases hf
    exact go_iret C d_WordList_indexOf_30 hr hPOST
  · have hf := hi11.2 h11
    refine go_aload_n C d_WordList_indexOf_14 rfl 1 rfl (n := 15) rfl ?_
    refine go_get C d_WordList_indexOf_15 fl_WordList_9 0 rfl rfl (n := 18) rfl ?_
    refine go_iload_n C d_WordList_indexOf_18 rfl 0 rfl (n := 19) rfl ?_
    obtain ⟨hg19, hf⟩ := guardS hf
    refine go_lald C d_WordList_indexOf_19 1 rfl hg19 (n := 20) rfl ?_
    refine go_lload_n C d_WordList_indexOf_20 rfl 2 rfl (n := 21) rfl ?_
    have hi21 := iteS hf
    refine go_lcmp_ne C d_WordList_indexOf_21 (n1 := 22) rfl d_WordList_indexOf_22 (tgt := 29) (by decide) (n := 25) rfl (fun h21 => ?_) (fun h21 => ?_)
    · have hf := hi21.2 h21
      refine go_iconst C (v := -1) d_WordList_indexOf_29 rfl (n := 30) rfl ?_
      cases hf
      exact go_iret C d_WordList_indexOf_30 hr hPOST
    · have hf := hi21.1 h21
      refine go_iload_n C d_WordList_indexOf_25 rfl 0 rfl (n := 26) rfl ?_
      refine go_goto C d_WordList_indexOf_26 (tgt := 30) (by decide) ?_
      cases hf
      exact go_iret C d_WordList_indexOf_30 hr hPOST

def f_WordList_put_55b (a0 : Int64) (a1 : Int32) (v_t_size : Int32) (l4 : Int32) (rec : (Nat → Int64) → (Nat → Int32) → Int32 → Option ((Nat → Int64) × (Nat → Int32))) (v_t_texts : Nat → Int64) (v_t_costs : Nat → Int32) (l5 : Int32) : Option ((Nat → Int64) × (Nat → Int32)) :=
  if l5 ≤ l4 then some ( (v_t_texts, v_t_costs)) else if okI (l5 - (1 : Int32)) 24 = true then if okI l5 24 = true then if okI (l5 - (1 : Int32)) 24 = true then if okI l5 24 = true then rec (vp_updL v_t_texts l5.toNatClampNeg (v_t_texts (l5 - (1 : Int32)).toNatClampNeg)) (upd v_t_costs l5.toNatClampNeg (v_t_costs (l5 - (1 : Int32)).toNatClampNeg)) (l5 + (-1 : Int32)) else none else none else none else none
def f_WordList_put_55 (a0 : Int64) (a1 : Int32) (v_t_size : Int32) (l4 : Int32) : Nat → (Nat → Int64) → (Nat → Int32) → Int32 → Option ((Nat → Int64) × (Nat → Int32))
  | 0 => fun _ _ _ => none
  | n + 1 => f_WordList_put_55b a0 a1 v_t_size l4 (f_WordList_put_55 a0 a1 v_t_size l4 n)
def f_WordList_put_38 (a0 : Int64) (a1 : Int32) (v_t_size : Int32) (v_t_texts : Nat → Int64) (v_t_costs : Nat → Int32) (l4 : Int32) : Option (Int32 × Int32 × (Nat → Int64) × (Nat → Int32)) :=
  if v_t_size < (24 : Int32) then (f_WordList_put_55 a0 a1 v_t_size l4 FU v_t_texts v_t_costs v_t_size).bind (fun x55 => if okI l4 24 = true then if okI l4 24 = true then some ((1 : Int32), v_t_size + (1 : Int32), vp_updL x55.1 l4.toNatClampNeg a0, upd x55.2 l4.toNatClampNeg a1) else none else none) else some ((0 : Int32), v_t_size, v_t_texts, v_t_costs)
def f_WordList_put (t_size : Int32) (t_texts : Nat → Int64) (t_costs : Nat → Int32) (a0 : Int64) (a1 : Int32) : Option (Int32 × Int32 × (Nat → Int64) × (Nat → Int32)) :=
  (f_WordList_firstNotBefore t_size t_texts a0).bind (fun o2 => if t_size ≤ o2 then f_WordList_put_38 a0 a1 t_size t_texts t_costs o2 else if okI o2 24 = true then if (t_texts o2.toNatClampNeg) = a0 then if okI o2 24 = true then some ((1 : Int32), t_size, t_texts, upd t_costs o2.toNatClampNeg a1) else none else f_WordList_put_38 a0 a1 t_size t_texts t_costs o2 else none)
set_option maxRecDepth 100000 in
set_option maxHeartbeats 4000000 in
theorem c_WordList_put (l : Launch) (D : va_G) (tc : Nat → ClassId) (qt : Nat) (qt_texts : Nat) (qt_costs : Nat) (t_size : Int32) (t_texts : Nat → Int64) (t_costs : Nat → Int32) (a0 : Int64) (a1 : Int32) {o : (Int32 × Int32 × (Nat → Int64) × (Nat → Int32))} (hf : f_WordList_put t_size t_texts t_costs a0 a1 = some o) (POST : Option Value → va_W → Prop) (hPOST : POST (some (.int o.1)) [(qt, .inr (6, [.ref qt_texts, .ref qt_costs, .int o.2.1])), (qt_texts, .inl (tc 1, 24, .inr (.inl o.2.2.1))), (qt_costs, .inl (tc 0, 24, .inl o.2.2.2))]) : Std l y_WordList_put (.code y_WordList_put b_WordList_put 6 (some .boolean)) { frames := 1, cells := 0, slots := 0, locals := 23 } D tc [.ref qt, .long a0, .int a1] [(qt, .inr (6, [.ref qt_texts, .ref qt_costs, .int t_size])), (qt_texts, .inl (tc 1, 24, .inr (.inl t_texts))), (qt_costs, .inl (tc 0, 24, .inl t_costs))] 0 0 POST := by
  refine std_of (lv := [(0, .ref qt), (1, .long a0), (3, .int a1)]) (by decide) (Nat.le_of_ble_eq_true rfl) rfl (fun p e s m args below meth c A C hr hnm => ?_)
  have K55 : ∀ (v_t_size : Int32) (l4 : Int32) (n : Nat) (v_t_texts : Nat → Int64) (v_t_costs : Nat → Int32) (l5 : Int32) (x : ((Nat → Int64) × (Nat → Int32))), f_WordList_put_55 a0 a1 v_t_size l4 n v_t_texts v_t_costs l5 = some x → (Go p l e { frames := 1, cells := 0, slots := 0, locals := 23 } s m args below meth c (MQ below (Qs D A POST) args s 0 0 A) D A 6 0 0 [(qt, .inr (6, [.ref qt_texts, .ref qt_costs, .int v_t_size])), (qt_texts, .inl (tc 1, 24, .inr (.inl x.1))), (qt_costs, .inl (tc 0, 24, .inl x.2))] [(0, .ref qt), (1, .long a0), (3, .int a1), (4, .int l4)] 100 []) → Go p l e { frames := 1, cells := 0, slots := 0, locals := 23 } s m args below meth c (MQ below (Qs D A POST) args s 0 0 A) D A 6 0 0 [(qt, .inr (6, [.ref qt_texts, .ref qt_costs, .int v_t_size])), (qt_texts, .inl (tc 1, 24, .inr (.inl v_t_texts))), (qt_costs, .inl (tc 0, 24, .inl v_t_costs))] [(0, .ref qt), (1, .long a0), (3, .int a1), (4, .int l4), (5, .int l5)] 55 [] := by
    intro v_t_size l4 n
    induction n with
    | zero =>
      intro v_t_texts v_t_costs l5 x hf hE
      simp [f_WordList_put_55] at hf
    | succ n ih =>
      intro v_t_texts v_t_costs l5 x hf hE
      have hf : f_WordList_put_55b a0 a1 v_t_size l4 (f_WordList_put_55 a0 a1 v_t_size l4 n) v_t_texts v_t_costs l5 = some x := hf
      unfold f_WordList_put_55b at hf
      refine go_iload C d_WordList_put_55 4 rfl (n := 57) rfl ?_
      refine go_iload C d_WordList_put_57 3 rfl (n := 59) rfl ?_
      have hi59 := iteS hf
      refine go_icmp_le C d_WordList_put_59 (tgt := 100) (by decide) (n := 62) rfl (fun h59 => ?_) (fun h59 => ?_)
      · have hf := hi59.1 h59
        refine go_lv (lv' := [(0, .ref qt), (1, .long a0), (3, .int a1), (4, .int l4)]) [0, 1, 2, 3] rfl ?_
        cases hf
        exact hE
      · have hf := hi59.2 h59
        refine go_aload_n C d_WordList_put_62 rfl 0 rfl (n := 63) rfl ?_
        refine go_get C d_WordList_put_63 fl_WordList_9 0 rfl rfl (n := 66) rfl ?_
        refine go_iload C d_WordList_put_66 4 rfl (n := 68) rfl ?_
        refine go_aload_n C d_WordList_put_68 rfl 0 rfl (n := 69) rfl ?_
        refine go_get C d_WordList_put_69 fl_WordList_9 0 rfl rfl (n := 72) rfl ?_
        refine go_iload C d_WordList_put_72 4 rfl (n := 74) rfl ?_
        refine go_iconst C (v := 1) d_WordList_put_74 rfl (n := 75) rfl ?_
        refine go_isub C d_WordList_put_75 (n := 76) rfl ?_
        obtain ⟨hg76, hf⟩ := guardS hf
        refine go_lald C d_WordList_put_76 1 rfl hg76 (n := 77) rfl ?_
        obtain ⟨hg77, hf⟩ := guardS hf
        refine go_last C d_WordList_put_77 1 rfl hg77 (n := 78) rfl ?_
        refine go_aload_n C d_WordList_put_78 rfl 0 rfl (n := 79) rfl ?_
        refine go_get C d_WordList_put_79 fl_WordList_15 0 rfl rfl (n := 82) rfl ?_
        refine go_iload C d_WordList_put_82 4 rfl (n := 84) rfl ?_
        refine go_aload_n C d_WordList_put_84 rfl 0 rfl (n := 85) rfl ?_
        refine go_get C d_WordList_put_85 fl_WordList_15 0 rfl rfl (n := 88) rfl ?_
        refine go_iload C d_WordList_put_88 4 rfl (n := 90) rfl ?_
        refine go_iconst C (v := 1) d_WordList_put_90 rfl (n := 91) rfl ?_
        refine go_isub C d_WordList_put_91 (n := 92) rfl ?_
        obtain ⟨hg92, hf⟩ := guardS hf
        refine go_iald C d_WordList_put_92 2 rfl hg92 (n := 93) rfl ?_
        obtain ⟨hg93, hf⟩ := guardS hf
        refine go_iast C d_WordList_put_93 2 rfl hg93 (n := 94) rfl ?_
        refine go_iinc C d_WordList_put_94 4 rfl (v := l5 + (-1 : Int32)) rfl (lv' := [(5, .int (l5 + (-1 : Int32))), (0, .ref qt), (1, .long a0), (3, .int a1), (4, .int l4)]) (by decide) rfl (n := 97) rfl ?_
        refine go_goto C d_WordList_put_97 (tgt := 55) (by decide) ?_
        refine go_lv (lv' := [(0, .ref qt), (1, .long a0), (3, .int a1), (4, .int l4), (5, .int (l5 + (-1 : Int32)))]) [1, 2, 3, 4, 0] rfl ?_
        exact ih (vp_updL v_t_texts l5.toNatClampNeg (v_t_texts (l5 - (1 : Int32)).toNatClampNeg)) (upd v_t_costs l5.toNatClampNeg (v_t_costs (l5 - (1 : Int32)).toNatClampNeg)) (l5 + (-1 : Int32)) x hf hE
  have K38 : ∀ (v_t_size : Int32) (v_t_texts : Nat → Int64) (v_t_costs : Nat → Int32) (l4 : Int32), f_WordList_put_38 a0 a1 v_t_size v_t_texts v_t_costs l4 = some o → Go p l e { frames := 1, cells := 0, slots := 0, locals := 23 } s m args below meth c (MQ below (Qs D A POST) args s 0 0 A) D A 6 0 0 [(qt, .inr (6, [.ref qt_texts, .ref qt_costs, .int v_t_size])), (qt_texts, .inl (tc 1, 24, .inr (.inl v_t_texts))), (qt_costs, .inl (tc 0, 24, .inl v_t_costs))] [(0, .ref qt), (1, .long a0), (3, .int a1), (4, .int l4)] 38 [] := by
    intro v_t_size v_t_texts v_t_costs l4 hf
    unfold f_WordList_put_38 at hf
    refine go_aload_n C d_WordList_put_38 rfl 0 rfl (n := 39) rfl ?_
    refine go_get C d_WordList_put_39 fl_WordList_19 0 rfl rfl (n := 42) rfl ?_
    refine go_bipush C (v := 24) d_WordList_put_42 rfl (n := 44) rfl ?_
    have hi44 := iteS hf
    refine go_icmp_lt C d_WordList_put_44 (tgt := 49) (by decide) (n := 47) rfl (fun h44 => ?_) (fun h44 => ?_)
    · have hf := hi44.1 h44
      refine go_aload_n C d_WordList_put_49 rfl 0 rfl (n := 50) rfl ?_
      refine go_get C d_WordList_put_50 fl_WordList_19 0 rfl rfl (n := 53) rfl ?_
      refine go_istore C d_WordList_put_53 (lv' := [(5, .int v_t_size), (0, .ref qt), (1, .long a0), (3, .int a1), (4, .int l4)]) (by decide) rfl (n := 55) rfl ?_
      refine go_lv (lv' := [(0, .ref qt), (1, .long a0), (3, .int a1), (4, .int l4), (5, .int v_t_size)]) [1, 2, 3, 4, 0] rfl ?_
      obtain ⟨x55, hx55, hf⟩ := bindS hf
      refine K55 v_t_size l4 FU v_t_texts v_t_costs v_t_size x55 hx55 ?_
      refine go_aload_n C d_WordList_put_100 rfl 0 rfl (n := 101) rfl ?_
      refine go_get C d_WordList_put_101 fl_WordList_9 0 rfl rfl (n := 104) rfl ?_
      refine go_iload C d_WordList_put_104 3 rfl (n := 106) rfl ?_
      refine go_lload_n C d_WordList_put_106 rfl 1 rfl (n := 107) rfl ?_
      obtain ⟨hg107, hf⟩ := guardS hf
      refine go_last C d_WordList_put_107 1 rfl hg107 (n := 108) rfl ?_
      refine go_aload_n C d_WordList_put_108 rfl 0 rfl (n := 109) rfl ?_
      refine go_get C d_WordList_put_109 fl_WordList_15 0 rfl rfl (n := 112) rfl ?_
      refine go_iload C d_WordList_put_112 3 rfl (n := 114) rfl ?_
      refine go_iload_n C d_WordList_put_114 rfl 2 rfl (n := 115) rfl ?_
      obtain ⟨hg115, hf⟩ := guardS hf
      refine go_iast C d_WordList_put_115 2 rfl hg115 (n := 116) rfl ?_
      refine go_aload_n C d_WordList_put_116 rfl 0 rfl (n := 117) rfl ?_
      refine go_dup C d_WordList_put_117 rfl (n := 118) rfl ?_
      refine go_get C d_WordList_put_118 fl_WordList_19 0 rfl rfl (n := 121) rfl ?_
      refine go_iconst C (v := 1) d_WordList_put_121 rfl (n := 122) rfl ?_
      refine go_iadd C d_WordList_put_122 (n := 123) rfl ?_
      refine go_put C d_WordList_put_123 fl_WordList_19 (fs_WordList 2) rfl rfl rfl 0 rfl (Nat.le_of_ble_eq_true rfl) (n := 126) rfl ?_
      refine go_iconst C (v := 1) d_WordList_put_126 rfl (n := 127) rfl ?_
      cases hf
      exact go_zret C d_WordList_put_127 hr rfl hPOST
    · have hf := hi44.2 h44
      refine go_iconst C (v := 0) d_WordList_put_47 rfl (n := 48) rfl ?_
      cases hf
      exact go_zret C d_WordList_put_48 hr rfl hPOST
  unfold f_WordList_put at hf
  refine go_aload_n C d_WordList_put_0 rfl 0 rfl (n := 1) rfl ?_
  refine go_lload_n C d_WordList_put_1 rfl 1 rfl (n := 2) rfl ?_
  obtain ⟨o2, ho2, hf⟩ := bindS hf
  refine go_callVr C (As := [.long a0]) (rest := []) d_WordList_put_2 (c_WordList_firstNotBefore l D tc qt qt_texts qt_costs t_size t_texts t_costs a0 ho2 (fun r w => r = some (.int o2) ∧ w = [(qt, .inr (6, [.ref qt_texts, .ref qt_costs, .int t_size])), (qt_texts, .inl (tc 1, 24, .inr (.inl t_texts))), (qt_costs, .inl (tc 0, 24, .inl t_costs))]) ⟨rfl, rfl⟩) lk_WordList_23 mw_WordList_firstNotBefore sv_WordList_firstNotBefore 0 rfl rfl rfl rfl ⟨(Nat.le_of_ble_eq_true rfl), (Nat.le_of_ble_eq_true rfl)⟩ rfl rfl (Nat.le_of_ble_eq_true rfl) ⟨(Nat.le_of_ble_eq_true rfl), (Nat.le_of_ble_eq_true rfl)⟩ [0, 1, 2] rfl (by decide) (n := 5) rfl ?_
  refine go_istore C d_WordList_put_5 (lv' := [(4, .int o2), (0, .ref qt), (1, .long a0), (3, .int a1)]) (by decide) rfl (n := 7) rfl ?_
  refine go_iload C d_WordList_put_7 0 rfl (n := 9) rfl ?_
  refine go_aload_n C d_WordList_put_9 rfl 1 rfl (n := 10) rfl ?_
  refine go_get C d_WordList_put_10 fl_WordList_19 0 rfl rfl (n := 13) rfl ?_
  have hi13 := iteS hf
  refine go_icmp_ge C d_WordList_put_13 (tgt := 38) (by decide) (n := 16) rfl (fun h13 => ?_) (fun h13 => ?_)
  · have hf := hi13.1 h13
    refine go_lv (lv' := [(0, .ref qt), (1, .long a0), (3, .int a1), (4, .int o2)]) [1, 2, 3, 0] rfl ?_
    exact K38 t_size t_texts t_costs o2 hf
  · have hf := hi13.2 h13
    refine go_aload_n C d_WordList_put_16 rfl 1 rfl (n := 17) rfl ?_
    refine go_get C d_WordList_put_17 fl_WordList_9 0 rfl rfl (n := 20) rfl ?_
    refine go_iload C d_WordList_put_20 0 rfl (n := 22) rfl ?_
    obtain ⟨hg22, hf⟩ := guardS hf
    refine go_lald C d_WordList_put_22 1 rfl hg22 (n := 23) rfl ?_
    refine go_lload_n C d_WordList_put_23 rfl 2 rfl (n := 24) rfl ?_
    have hi24 := iteS hf
    refine go_lcmp_ne C d_WordList_put_24 (n1 := 25) rfl d_WordList_put_25 (tgt := 38) (by decide) (n := 28) rfl (fun h24 => ?_) (fun h24 => ?_)
    · have hf := hi24.2 h24
      refine go_lv (lv' := [(0, .ref qt), (1, .long a0), (3, .int a1), (4, .int o2)]) [1, 2, 3, 0] rfl ?_
      exact K38 t_size t_texts t_costs o2 hf
    · have hf := hi24.1 h24
      refine go_aload_n C d_WordList_put_28 rfl 1 rfl (n := 29) rfl ?_
      refine go_get C d_WordList_put_29 fl_WordList_15 0 rfl rfl (n := 32) rfl ?_
      refine go_iload C d_WordList_put_32 0 rfl (n := 34) rfl ?_
      refine go_iload_n C d_WordList_put_34 rfl 3 rfl (n := 35) rfl ?_
      obtain ⟨hg35, hf⟩ := guardS hf
      refine go_iast C d_WordList_put_35 2 rfl hg35 (n := 36) rfl ?_
      refine go_iconst C (v := 1) d_WordList_put_36 rfl (n := 37) rfl ?_
      cases hf
      exact go_zret C d_WordList_put_37 hr rfl hPOST

def f_WordList_remove_25b (a0 : Int64) (v_t_size : Int32) (rec : (Nat → Int64) → (Nat → Int32) → Int32 → Option ((Nat → Int64) × (Nat → Int32))) (v_t_texts : Nat → Int64) (v_t_costs : Nat → Int32) (l4 : Int32) : Option ((Nat → Int64) × (Nat → Int32)) :=
  if v_t_size ≤ l4 then some ( (v_t_texts, v_t_costs)) else if okI (l4 + (1 : Int32)) 24 = true then if okI l4 24 = true then if okI (l4 + (1 : Int32)) 24 = true then if okI l4 24 = true then rec (vp_updL v_t_texts l4.toNatClampNeg (v_t_texts (l4 + (1 : Int32)).toNatClampNeg)) (upd v_t_costs l4.toNatClampNeg (v_t_costs (l4 + (1 : Int32)).toNatClampNeg)) (l4 + (1 : Int32)) else none else none else none else none
def f_WordList_remove_25 (a0 : Int64) (v_t_size : Int32) : Nat → (Nat → Int64) → (Nat → Int32) → Int32 → Option ((Nat → Int64) × (Nat → Int32))
  | 0 => fun _ _ _ => none
  | n + 1 => f_WordList_remove_25b a0 v_t_size (f_WordList_remove_25 a0 v_t_size n)
def f_WordList_remove (t_size : Int32) (t_texts : Nat → Int64) (t_costs : Nat → Int32) (a0 : Int64) : Option (Int32 × Int32 × (Nat → Int64) × (Nat → Int32)) :=
  (f_WordList_indexOf t_size t_texts a0).bind (fun o2 => if 0 ≤ o2 then (f_WordList_remove_25 a0 (t_size - (1 : Int32)) FU t_texts t_costs o2).bind (fun x25 => some ((1 : Int32), t_size - (1 : Int32), x25.1, x25.2)) else some ((0 : Int32), t_size, t_texts, t_costs))
set_option maxRecDepth 100000 in
set_option maxHeartbeats 4000000 in
theorem c_WordList_remove (l : Launch) (D : va_G) (tc : Nat → ClassId) (qt : Nat) (qt_texts : Nat) (qt_costs : Nat) (t_size : Int32) (t_texts : Nat → Int64) (t_costs : Nat → Int32) (a0 : Int64) {o : (Int32 × Int32 × (Nat → Int64) × (Nat → Int32))} (hf : f_WordList_remove t_size t_texts t_costs a0 = some o) (POST : Option Value → va_W → Prop) (hPOST : POST (some (.int o.1)) [(qt, .inr (6, [.ref qt_texts, .ref qt_costs, .int o.2.1])), (qt_texts, .inl (tc 1, 24, .inr (.inl o.2.2.1))), (qt_costs, .inl (tc 0, 24, .inl o.2.2.2))]) : Std l y_WordList_remove (.code y_WordList_remove b_WordList_remove 5 (some .boolean)) { frames := 2, cells := 0, slots := 0, locals := 46 } D tc [.ref qt, .long a0] [(qt, .inr (6, [.ref qt_texts, .ref qt_costs, .int t_size])), (qt_texts, .inl (tc 1, 24, .inr (.inl t_texts))), (qt_costs, .inl (tc 0, 24, .inl t_costs))] 0 0 POST := by
  refine std_of (lv := [(0, .ref qt), (1, .long a0)]) (by decide) (Nat.le_of_ble_eq_true rfl) rfl (fun p e s m args below meth c A C hr hnm => ?_)
  have K25 : ∀ (v_t_size : Int32) (n : Nat) (v_t_texts : Nat → Int64) (v_t_costs : Nat → Int32) (l4 : Int32) (x : ((Nat → Int64) × (Nat → Int32))), f_WordList_remove_25 a0 v_t_size n v_t_texts v_t_costs l4 = some x → (Go p l e { frames := 2, cells := 0, slots := 0, locals := 46 } s m args below meth c (MQ below (Qs D A POST) args s 0 0 A) D A 5 0 0 [(qt, .inr (6, [.ref qt_texts, .ref qt_costs, .int v_t_size])), (qt_texts, .inl (tc 1, 24, .inr (.inl x.1))), (qt_costs, .inl (tc 0, 24, .inl x.2))] [] 72 []) → Go p l e { frames := 2, cells := 0, slots := 0, locals := 46 } s m args below meth c (MQ below (Qs D A POST) args s 0 0 A) D A 5 0 0 [(qt, .inr (6, [.ref qt_texts, .ref qt_costs, .int v_t_size])), (qt_texts, .inl (tc 1, 24, .inr (.inl v_t_texts))), (qt_costs, .inl (tc 0, 24, .inl v_t_costs))] [(0, .ref qt), (4, .int l4)] 25 [] := by
    intro v_t_size n
    induction n with
    | zero =>
      intro v_t_texts v_t_costs l4 x hf hE
      simp [f_WordList_remove_25] at hf
    | succ n ih =>
      intro v_t_texts v_t_costs l4 x hf hE
      have hf : f_WordList_remove_25b a0 v_t_size (f_WordList_remove_25 a0 v_t_size n) v_t_texts v_t_costs l4 = some x := hf
      unfold f_WordList_remove_25b at hf
      refine go_iload C d_WordList_remove_25 1 rfl (n := 27) rfl ?_
      refine go_aload_n C d_WordList_remove_27 rfl 0 rfl (n := 28) rfl ?_
      refine go_get C d_WordList_remove_28 fl_WordList_19 0 rfl rfl (n := 31) rfl ?_
      have hi31 := iteS hf
      refine go_icmp_ge C d_WordList_remove_31 (tgt := 72) (by decide) (n := 34) rfl (fun h31 => ?_) (fun h31 => ?_)
      · have hf := hi31.1 h31
        refine go_lv (lv' := []) [] rfl ?_
        cases hf
        exact hE
      · have hf := hi31.2 h31
        refine go_aload_n C d_WordList_remove_34 rfl 0 rfl (n := 35) rfl ?_
        refine go_get C d_WordList_remove_35 fl_WordList_9 0 rfl rfl (n := 38) rfl ?_
        refine go_iload C d_WordList_remove_38 1 rfl (n := 40) rfl ?_
        refine go_aload_n C d_WordList_remove_40 rfl 0 rfl (n := 41) rfl ?_
        refine go_get C d_WordList_remove_41 fl_WordList_9 0 rfl rfl (n := 44) rfl ?_
        refine go_iload C d_WordList_remove_44 1 rfl (n := 46) rfl ?_
        refine go_iconst C (v := 1) d_WordList_remove_46 rfl (n := 47) rfl ?_
        refine go_iadd C d_WordList_remove_47 (n := 48) rfl ?_
        obtain ⟨hg48, hf⟩ := guardS hf
        refine go_lald C d_WordList_remove_48 1 rfl hg48 (n := 49) rfl ?_
        obtain ⟨hg49, hf⟩ := guardS hf
        refine go_last C d_WordList_remove_49 1 rfl hg49 (n := 50) rfl ?_
        refine go_aload_n C d_WordList_remove_50 rfl 0 rfl (n := 51) rfl ?_
        refine go_get C d_WordList_remove_51 fl_WordList_15 0 rfl rfl (n := 54) rfl ?_
        refine go_iload C d_WordList_remove_54 1 rfl (n := 56) rfl ?_
        refine go_aload_n C d_WordList_remove_56 rfl 0 rfl (n := 57) rfl ?_
        refine go_get C d_WordList_remove_57 fl_WordList_15 0 rfl rfl (n := 60) rfl ?_
        refine go_iload C d_WordList_remove_60 1 rfl (n := 62) rfl ?_
        refine go_iconst C (v := 1) d_WordList_remove_62 rfl (n := 63) rfl ?_
        refine go_iadd C d_WordList_remove_63 (n := 64) rfl ?_
        obtain ⟨hg64, hf⟩ := guardS hf
        refine go_iald C d_WordList_remove_64 2 rfl hg64 (n := 65) rfl ?_
        obtain ⟨hg65, hf⟩ := guardS hf
        refine go_iast C d_WordList_remove_65 2 rfl hg65 (n := 66) rfl ?_
        refine go_iinc C d_WordList_remove_66 1 rfl (v := l4 + (1 : Int32)) rfl (lv' := [(4, .int (l4 + (1 : Int32))), (0, .ref qt)]) (by decide) rfl (n := 69) rfl ?_
        refine go_goto C d_WordList_remove_69 (tgt := 25) (by decide) ?_
        refine go_lv (lv' := [(0, .ref qt), (4, .int (l4 + (1 : Int32)))]) [1, 0] rfl ?_
        exact ih (vp_updL v_t_texts l4.toNatClampNeg (v_t_texts (l4 + (1 : Int32)).toNatClampNeg)) (upd v_t_costs l4.toNatClampNeg (v_t_costs (l4 + (1 : Int32)).toNatClampNeg)) (l4 + (1 : Int32)) x hf hE
  unfold f_WordList_remove at hf
  refine go_aload_n C d_WordList_remove_0 rfl 0 rfl (n := 1) rfl ?_
  refine go_lload_n C d_WordList_remove_1 rfl 1 rfl (n := 2) rfl ?_
  obtain ⟨o2, ho2, hf⟩ := bindS hf
  refine go_callVr C (As := [.long a0]) (rest := []) d_WordList_remove_2 (c_WordList_indexOf l D tc qt qt_texts qt_costs t_size t_texts t_costs a0 ho2 (fun r w => r = some (.int o2) ∧ w = [(qt, .inr (6, [.ref qt_texts, .ref qt_costs, .int t_size])), (qt_texts, .inl (tc 1, 24, .inr (.inl t_texts))), (qt_costs, .inl (tc 0, 24, .inl t_costs))]) ⟨rfl, rfl⟩) lk_WordList_27 mw_WordList_indexOf sv_WordList_indexOf 0 rfl rfl rfl rfl ⟨(Nat.le_of_ble_eq_true rfl), (Nat.le_of_ble_eq_true rfl)⟩ rfl rfl (Nat.le_of_ble_eq_true rfl) ⟨(Nat.le_of_ble_eq_true rfl), (Nat.le_of_ble_eq_true rfl)⟩ [0, 1, 2] rfl (by decide) (n := 5) rfl ?_
  refine go_istore_n C d_WordList_remove_5 rfl (lv' := [(3, .int o2), (0, .ref qt), (1, .long a0)]) (by decide) rfl (n := 6) rfl ?_
  refine go_iload_n C d_WordList_remove_6 rfl 0 rfl (n := 7) rfl ?_
  have hi7 := iteS hf
  refine go_if_ge C d_WordList_remove_7 (tgt := 12) (by decide) (n := 10) rfl (fun h7 => ?_) (fun h7 => ?_)
  · have hf := hi7.1 h7
    refine go_aload_n C d_WordList_remove_12 rfl 1 rfl (n := 13) rfl ?_
    refine go_dup C d_WordList_remove_13 rfl (n := 14) rfl ?_
    refine go_get C d_WordList_remove_14 fl_WordList_19 0 rfl rfl (n := 17) rfl ?_
    refine go_iconst C (v := 1) d_WordList_remove_17 rfl (n := 18) rfl ?_
    refine go_isub C d_WordList_remove_18 (n := 19) rfl ?_
    refine go_put C d_WordList_remove_19 fl_WordList_19 (fs_WordList 2) rfl rfl rfl 0 rfl (Nat.le_of_ble_eq_true rfl) (n := 22) rfl ?_
    refine go_iload_n C d_WordList_remove_22 rfl 0 rfl (n := 23) rfl ?_
    refine go_istore C d_WordList_remove_23 (lv' := [(4, .int o2), (3, .int o2), (0, .ref qt), (1, .long a0)]) (by decide) rfl (n := 25) rfl ?_
    refine go_lv (lv' := [(0, .ref qt), (4, .int o2)]) [2, 0] rfl ?_
    obtain ⟨x25, hx25, hf⟩ := bindS hf
    refine K25 (t_size - (1 : Int32)) FU t_texts t_costs o2 x25 hx25 ?_
    refine go_iconst C (v := 1) d_WordList_remove_72 rfl (n := 73) rfl ?_
    cases hf
    exact go_zret C d_WordList_remove_73 hr rfl hPOST
  · have hf := hi7.2 h7
    refine go_iconst C (v := 0) d_WordList_remove_10 rfl (n := 11) rfl ?_
    cases hf
    exact go_zret C d_WordList_remove_11 hr rfl hPOST

