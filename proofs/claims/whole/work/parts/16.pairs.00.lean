def f_Pairs_indexOf_39 (rec : Int32 → Option ((Unit) ⊕ (Int32))) (t_size : Int32) (t_firsts : Nat → Int64) (t_seconds : Nat → Int64) (a0 : Int64) (a1 : Int64) (l5 : Int32) : Option ((Unit) ⊕ (Int32)) :=
  rec (l5 + (1 : Int32))
def f_Pairs_indexOf_3b (t_size : Int32) (t_firsts : Nat → Int64) (t_seconds : Nat → Int64) (a0 : Int64) (a1 : Int64) (rec : Int32 → Option ((Unit) ⊕ (Int32))) (l5 : Int32) : Option ((Unit) ⊕ (Int32)) :=
  if t_size ≤ l5 then some (.inl  ()) else if okI l5 40 = true then if (t_firsts l5.toNatClampNeg) = a0 then if okI l5 40 = true then if (t_seconds l5.toNatClampNeg) = a1 then some (.inr <|  l5) else f_Pairs_indexOf_39 rec t_size t_firsts t_seconds a0 a1 l5 else none else f_Pairs_indexOf_39 rec t_size t_firsts t_seconds a0 a1 l5 else none
def f_Pairs_indexOf_3 (t_size : Int32) (t_firsts : Nat → Int64) (t_seconds : Nat → Int64) (a0 : Int64) (a1 : Int64) : Nat → Int32 → Option ((Unit) ⊕ (Int32))
  | 0 => fun _ => none
  | n + 1 => f_Pairs_indexOf_3b t_size t_firsts t_seconds a0 a1 (f_Pairs_indexOf_3 t_size t_firsts t_seconds a0 a1 n)
def f_Pairs_indexOf (t_size : Int32) (t_firsts : Nat → Int64) (t_seconds : Nat → Int64) (a0 : Int64) (a1 : Int64) : Option (Int32) :=
  (f_Pairs_indexOf_3 t_size t_firsts t_seconds a0 a1 FU (0 : Int32)).bind (Sum.elim (fun x3 => some (-1 : Int32)) (fun x3 => some x3))
set_option maxRecDepth 100000 in
set_option maxHeartbeats 4000000 in
theorem c_Pairs_indexOf (l : Launch) (D : va_G) (tc : Nat → ClassId) (qt : Nat) (qt_firsts : Nat) (qt_seconds : Nat) (qt_times : Nat) (t_size : Int32) (t_firsts : Nat → Int64) (t_seconds : Nat → Int64) (t_times : Nat → Int32) (a0 : Int64) (a1 : Int64) {o : (Int32)} (hf : f_Pairs_indexOf t_size t_firsts t_seconds a0 a1 = some o) (POST : Option Value → va_W → Prop) (hPOST : POST (some (.int o)) [(qt, .inr (2, [.ref qt_firsts, .ref qt_seconds, .ref qt_times, .int t_size])), (qt_firsts, .inl (tc 1, 40, .inr (.inl t_firsts))), (qt_seconds, .inl (tc 1, 40, .inr (.inl t_seconds))), (qt_times, .inl (tc 0, 40, .inl t_times))]) : Std l y_Pairs_indexOf (.code y_Pairs_indexOf b_Pairs_indexOf 6 (some .int)) { frames := 0, cells := 0, slots := 0, locals := 0 } D tc [.ref qt, .long a0, .long a1] [(qt, .inr (2, [.ref qt_firsts, .ref qt_seconds, .ref qt_times, .int t_size])), (qt_firsts, .inl (tc 1, 40, .inr (.inl t_firsts))), (qt_seconds, .inl (tc 1, 40, .inr (.inl t_seconds))), (qt_times, .inl (tc 0, 40, .inl t_times))] 0 0 POST := by
  refine std_of (lv := [(0, .ref qt), (1, .long a0), (3, .long a1)]) (by decide) (Nat.le_of_ble_eq_true rfl) rfl (fun p e s m args below meth c A C hr hnm => ?_)
  have K3 : ∀ (n : Nat) (l5 : Int32) (x : ((Unit) ⊕ (Int32))), f_Pairs_indexOf_3 t_size t_firsts t_seconds a0 a1 n l5 = some x → ((∀ d, x = .inl d → Go p l e { frames := 0, cells := 0, slots := 0, locals := 0 } s m args below meth c (MQ below (Qs D A POST) args s 0 0 A) D A 6 0 0 [(qt, .inr (2, [.ref qt_firsts, .ref qt_seconds, .ref qt_times, .int t_size])), (qt_firsts, .inl (tc 1, 40, .inr (.inl t_firsts))), (qt_seconds, .inl (tc 1, 40, .inr (.inl t_seconds))), (qt_times, .inl (tc 0, 40, .inl t_times))] [] 45 []) ∧ (∀ d, x = .inr d → Go p l e { frames := 0, cells := 0, slots := 0, locals := 0 } s m args below meth c (MQ below (Qs D A POST) args s 0 0 A) D A 6 0 0 [(qt, .inr (2, [.ref qt_firsts, .ref qt_seconds, .ref qt_times, .int t_size])), (qt_firsts, .inl (tc 1, 40, .inr (.inl t_firsts))), (qt_seconds, .inl (tc 1, 40, .inr (.inl t_seconds))), (qt_times, .inl (tc 0, 40, .inl t_times))] [(5, .int d)] 36 [])) → Go p l e { frames := 0, cells := 0, slots := 0, locals := 0 } s m args below meth c (MQ below (Qs D A POST) args s 0 0 A) D A 6 0 0 [(qt, .inr (2, [.ref qt_firsts, .ref qt_seconds, .ref qt_times, .int t_size])), (qt_firsts, .inl (tc 1, 40, .inr (.inl t_firsts))), (qt_seconds, .inl (tc 1, 40, .inr (.inl t_seconds))), (qt_times, .inl (tc 0, 40, .inl t_times))] [(0, .ref qt), (1, .long a0), (3, .long a1), (5, .int l5)] 3 [] := by
    intro n
    induction n with
    | zero =>
      intro l5 x hf hE
      simp [f_Pairs_indexOf_3] at hf
    | succ n ih =>
      intro l5 x hf hE
      have hf : f_Pairs_indexOf_3b t_size t_firsts t_seconds a0 a1 (f_Pairs_indexOf_3 t_size t_firsts t_seconds a0 a1 n) l5 = some x := hf
      have K39 : ∀ (l5 : Int32), f_Pairs_indexOf_39 (f_Pairs_indexOf_3 t_size t_firsts t_seconds a0 a1 n) t_size t_firsts t_seconds a0 a1 l5 = some x → Go p l e { frames := 0, cells := 0, slots := 0, locals := 0 } s m args below meth c (MQ below (Qs D A POST) args s 0 0 A) D A 6 0 0 [(qt, .inr (2, [.ref qt_firsts, .ref qt_seconds, .ref qt_times, .int t_size])), (qt_firsts, .inl (tc 1, 40, .inr (.inl t_firsts))), (qt_seconds, .inl (tc 1, 40, .inr (.inl t_seconds))), (qt_times, .inl (tc 0, 40, .inl t_times))] [(0, .ref qt), (1, .long a0), (3, .long a1), (5, .int l5)] 39 [] := by
        intro l5 hf
        unfold f_Pairs_indexOf_39 at hf
        refine go_iinc C d_Pairs_indexOf_39 3 rfl (v := l5 + (1 : Int32)) rfl (lv' := [(5, .int (l5 + (1 : Int32))), (0, .ref qt), (1, .long a0), (3, .long a1)]) (by decide) rfl (n := 42) rfl ?_
        refine go_goto C d_Pairs_indexOf_42 (tgt := 3) (by decide) ?_
        refine go_lv (lv' := [(0, .ref qt), (1, .long a0), (3, .long a1), (5, .int (l5 + (1 : Int32)))]) [1, 2, 3, 0] rfl ?_
        exact ih (l5 + (1 : Int32)) x hf hE
      unfold f_Pairs_indexOf_3b at hf
      refine go_iload C d_Pairs_indexOf_3 3 rfl (n := 5) rfl ?_
      refine go_aload_n C d_Pairs_indexOf_5 rfl 0 rfl (n := 6) rfl ?_
      refine go_get C d_Pairs_indexOf_6 fl_Pairs_22 0 rfl rfl (n := 9) rfl ?_
      have hi9 := iteS hf
      refine go_icmp_ge C d_Pairs_indexOf_9 (tgt := 45) (by decide) (n := 12) rfl (fun h9 => ?_) (fun h9 => ?_)
      · have hf := hi9.1 h9
        refine go_lv (lv' := []) [] rfl ?_
        cases hf
        exact hE.1 _ rfl
      · have hf := hi9.2 h9
        refine go_aload_n C d_Pairs_indexOf_12 rfl 0 rfl (n := 13) rfl ?_
        refine go_get C d_Pairs_indexOf_13 fl_Pairs_9 0 rfl rfl (n := 16) rfl ?_
        refine go_iload C d_Pairs_indexOf_16 3 rfl (n := 18) rfl ?_
        obtain ⟨hg18, hf⟩ := guardS hf
        refine go_lald C d_Pairs_indexOf_18 1 rfl hg18 (n := 19) rfl ?_
        refine go_lload_n C d_Pairs_indexOf_19 rfl 1 rfl (n := 20) rfl ?_
        have hi20 := iteS hf
        refine go_lcmp_ne C d_Pairs_indexOf_20 (n1 := 21) rfl d_Pairs_indexOf_21 (tgt := 39) (by decide) (n := 24) rfl (fun h20 => ?_) (fun h20 => ?_)
        · have hf := hi20.2 h20
          exact K39 l5 hf
        · have hf := hi20.1 h20
          refine go_aload_n C d_Pairs_indexOf_24 rfl 0 rfl (n := 25) rfl ?_
          refine go_get C d_Pairs_indexOf_25 fl_Pairs_15 0 rfl rfl (n := 28) rfl ?_
          refine go_iload C d_Pairs_indexOf_28 3 rfl (n := 30) rfl ?_
          obtain ⟨hg30, hf⟩ := guardS hf
          refine go_lald C d_Pairs_indexOf_30 2 rfl hg30 (n := 31) rfl ?_
          refine go_lload_n C d_Pairs_indexOf_31 rfl 2 rfl (n := 32) rfl ?_
          have hi32 := iteS hf
          refine go_lcmp_ne C d_Pairs_indexOf_32 (n1 := 33) rfl d_Pairs_indexOf_33 (tgt := 39) (by decide) (n := 36) rfl (fun h32 => ?_) (fun h32 => ?_)
          · have hf := hi32.2 h32
            exact K39 l5 hf
          · have hf := hi32.1 h32
            refine go_lv (lv' := [(5, .int l5)]) [3] rfl ?_
            cases hf
            exact hE.2 _ rfl
  unfold f_Pairs_indexOf at hf
  refine go_iconst C (v := 0) d_Pairs_indexOf_0 rfl (n := 1) rfl ?_
  refine go_istore C d_Pairs_indexOf_1 (lv' := [(5, .int (0 : Int32)), (0, .ref qt), (1, .long a0), (3, .long a1)]) (by decide) rfl (n := 3) rfl ?_
  refine go_lv (lv' := [(0, .ref qt), (1, .long a0), (3, .long a1), (5, .int (0 : Int32))]) [1, 2, 3, 0] rfl ?_
  obtain ⟨y3, hx3, hf⟩ := bindS hf
  refine K3 FU (0 : Int32) y3 hx3 ⟨fun x3 hd => ?_, fun x3 hd => ?_⟩
  · subst hd
    dsimp only [Sum.elim_inl, Sum.elim_inr] at hf
    refine go_iconst C (v := -1) d_Pairs_indexOf_45 rfl (n := 46) rfl ?_
    cases hf
    exact go_iret C d_Pairs_indexOf_46 hr hPOST
  · subst hd
    dsimp only [Sum.elim_inl, Sum.elim_inr] at hf
    refine go_iload C d_Pairs_indexOf_36 0 rfl (n := 38) rfl ?_
    cases hf
    exact go_iret C d_Pairs_indexOf_38 hr hPOST

def f_Pairs_add_64 (a0 : Int64) (a1 : Int64) (v_t_size : Int32) (v_t_firsts : Nat → Int64) (v_t_seconds : Nat → Int64) (v_t_times : Nat → Int32) (l5 : Int32) : Option (Int32 × Int32 × (Nat → Int64) × (Nat → Int64) × (Nat → Int32)) :=
  if okI l5 40 = true then if okI l5 40 = true then if okI l5 40 = true then some ((upd v_t_times l5.toNatClampNeg ((v_t_times l5.toNatClampNeg) + (1 : Int32))) l5.toNatClampNeg, v_t_size, v_t_firsts, v_t_seconds, upd v_t_times l5.toNatClampNeg ((v_t_times l5.toNatClampNeg) + (1 : Int32))) else none else none else none
def f_Pairs_add (t_size : Int32) (t_firsts : Nat → Int64) (t_seconds : Nat → Int64) (t_times : Nat → Int32) (a0 : Int64) (a1 : Int64) : Option (Int32 × Int32 × (Nat → Int64) × (Nat → Int64) × (Nat → Int32)) :=
  (f_Pairs_indexOf t_size t_firsts t_seconds a0 a1).bind (fun o3 => if 0 ≤ o3 then f_Pairs_add_64 a0 a1 t_size t_firsts t_seconds t_times o3 else if t_size < (40 : Int32) then if okI t_size 40 = true then if okI t_size 40 = true then if okI t_size 40 = true then f_Pairs_add_64 a0 a1 (t_size + (1 : Int32)) (vp_updL t_firsts t_size.toNatClampNeg a0) (vp_updL t_seconds t_size.toNatClampNeg a1) (upd t_times t_size.toNatClampNeg (0 : Int32)) t_size else none else none else none else some ((0 : Int32), t_size, t_firsts, t_seconds, t_times))
set_option maxRecDepth 100000 in
set_option maxHeartbeats 4000000 in
theorem c_Pairs_add (l : Launch) (D : va_G) (tc : Nat → ClassId) (qt : Nat) (qt_firsts : Nat) (qt_seconds : Nat) (qt_times : Nat) (t_size : Int32) (t_firsts : Nat → Int64) (t_seconds : Nat → Int64) (t_times : Nat → Int32) (a0 : Int64) (a1 : Int64) {o : (Int32 × Int32 × (Nat → Int64) × (Nat → Int64) × (Nat → Int32))} (hf : f_Pairs_add t_size t_firsts t_seconds t_times a0 a1 = some o) (POST : Option Value → va_W → Prop) (hPOST : POST (some (.int o.1)) [(qt, .inr (2, [.ref qt_firsts, .ref qt_seconds, .ref qt_times, .int o.2.1])), (qt_firsts, .inl (tc 1, 40, .inr (.inl o.2.2.1))), (qt_seconds, .inl (tc 1, 40, .inr (.inl o.2.2.2.1))), (qt_times, .inl (tc 0, 40, .inl o.2.2.2.2))]) : Std l y_Pairs_add (.code y_Pairs_add b_Pairs_add 6 (some .int)) { frames := 1, cells := 0, slots := 0, locals := 25 } D tc [.ref qt, .long a0, .long a1] [(qt, .inr (2, [.ref qt_firsts, .ref qt_seconds, .ref qt_times, .int t_size])), (qt_firsts, .inl (tc 1, 40, .inr (.inl t_firsts))), (qt_seconds, .inl (tc 1, 40, .inr (.inl t_seconds))), (qt_times, .inl (tc 0, 40, .inl t_times))] 0 0 POST := by
  refine std_of (lv := [(0, .ref qt), (1, .long a0), (3, .long a1)]) (by decide) (Nat.le_of_ble_eq_true rfl) rfl (fun p e s m args below meth c A C hr hnm => ?_)
  have K64 : ∀ (v_t_size : Int32) (v_t_firsts : Nat → Int64) (v_t_seconds : Nat → Int64) (v_t_times : Nat → Int32) (l5 : Int32), f_Pairs_add_64 a0 a1 v_t_size v_t_firsts v_t_seconds v_t_times l5 = some o → Go p l e { frames := 1, cells := 0, slots := 0, locals := 25 } s m args below meth c (MQ below (Qs D A POST) args s 0 0 A) D A 6 0 0 [(qt, .inr (2, [.ref qt_firsts, .ref qt_seconds, .ref qt_times, .int v_t_size])), (qt_firsts, .inl (tc 1, 40, .inr (.inl v_t_firsts))), (qt_seconds, .inl (tc 1, 40, .inr (.inl v_t_seconds))), (qt_times, .inl (tc 0, 40, .inl v_t_times))] [(0, .ref qt), (5, .int l5)] 64 [] := by
    intro v_t_size v_t_firsts v_t_seconds v_t_times l5 hf
    unfold f_Pairs_add_64 at hf
    refine go_aload_n C d_Pairs_add_64 rfl 0 rfl (n := 65) rfl ?_
    refine go_get C d_Pairs_add_65 fl_Pairs_18 0 rfl rfl (n := 68) rfl ?_
    refine go_iload C d_Pairs_add_68 1 rfl (n := 70) rfl ?_
    refine go_dup2_11 C d_Pairs_add_70 rfl rfl (n := 71) rfl ?_
    obtain ⟨hg71, hf⟩ := guardS hf
    refine go_iald C d_Pairs_add_71 3 rfl hg71 (n := 72) rfl ?_
    refine go_iconst C (v := 1) d_Pairs_add_72 rfl (n := 73) rfl ?_
    refine go_iadd C d_Pairs_add_73 (n := 74) rfl ?_
    obtain ⟨hg74, hf⟩ := guardS hf
    refine go_iast C d_Pairs_add_74 3 rfl hg74 (n := 75) rfl ?_
    refine go_aload_n C d_Pairs_add_75 rfl 0 rfl (n := 76) rfl ?_
    refine go_get C d_Pairs_add_76 fl_Pairs_18 0 rfl rfl (n := 79) rfl ?_
    refine go_iload C d_Pairs_add_79 1 rfl (n := 81) rfl ?_
    obtain ⟨hg81, hf⟩ := guardS hf
    refine go_iald C d_Pairs_add_81 3 rfl hg81 (n := 82) rfl ?_
    cases hf
    exact go_iret C d_Pairs_add_82 hr hPOST
  unfold f_Pairs_add at hf
  refine go_aload_n C d_Pairs_add_0 rfl 0 rfl (n := 1) rfl ?_
  refine go_lload_n C d_Pairs_add_1 rfl 1 rfl (n := 2) rfl ?_
  refine go_lload_n C d_Pairs_add_2 rfl 2 rfl (n := 3) rfl ?_
  obtain ⟨o3, ho3, hf⟩ := bindS hf
  refine go_callVr C (As := [.long a0, .long a1]) (rest := []) d_Pairs_add_3 (c_Pairs_indexOf l D tc qt qt_firsts qt_seconds qt_times t_size t_firsts t_seconds t_times a0 a1 ho3 (fun r w => r = some (.int o3) ∧ w = [(qt, .inr (2, [.ref qt_firsts, .ref qt_seconds, .ref qt_times, .int t_size])), (qt_firsts, .inl (tc 1, 40, .inr (.inl t_firsts))), (qt_seconds, .inl (tc 1, 40, .inr (.inl t_seconds))), (qt_times, .inl (tc 0, 40, .inl t_times))]) ⟨rfl, rfl⟩) lk_Pairs_26 mw_Pairs_indexOf sv_Pairs_indexOf 0 rfl rfl rfl rfl ⟨(Nat.le_of_ble_eq_true rfl), (Nat.le_of_ble_eq_true rfl)⟩ rfl rfl (Nat.le_of_ble_eq_true rfl) ⟨(Nat.le_of_ble_eq_true rfl), (Nat.le_of_ble_eq_true rfl)⟩ [0, 1, 2, 3] rfl (by decide) (n := 6) rfl ?_
  refine go_istore C d_Pairs_add_6 (lv' := [(5, .int o3), (0, .ref qt), (1, .long a0), (3, .long a1)]) (by decide) rfl (n := 8) rfl ?_
  refine go_iload C d_Pairs_add_8 0 rfl (n := 10) rfl ?_
  have hi10 := iteS hf
  refine go_if_ge C d_Pairs_add_10 (tgt := 64) (by decide) (n := 13) rfl (fun h10 => ?_) (fun h10 => ?_)
  · have hf := hi10.1 h10
    refine go_lv (lv' := [(0, .ref qt), (5, .int o3)]) [1, 0] rfl ?_
    exact K64 t_size t_firsts t_seconds t_times o3 hf
  · have hf := hi10.2 h10
    refine go_aload_n C d_Pairs_add_13 rfl 1 rfl (n := 14) rfl ?_
    refine go_get C d_Pairs_add_14 fl_Pairs_22 0 rfl rfl (n := 17) rfl ?_
    refine go_bipush C (v := 40) d_Pairs_add_17 rfl (n := 19) rfl ?_
    have hi19 := iteS hf
    refine go_icmp_lt C d_Pairs_add_19 (tgt := 24) (by decide) (n := 22) rfl (fun h19 => ?_) (fun h19 => ?_)
    · have hf := hi19.1 h19
      refine go_aload_n C d_Pairs_add_24 rfl 1 rfl (n := 25) rfl ?_
      refine go_get C d_Pairs_add_25 fl_Pairs_22 0 rfl rfl (n := 28) rfl ?_
      refine go_istore C d_Pairs_add_28 (lv' := [(5, .int t_size), (0, .ref qt), (1, .long a0), (3, .long a1)]) (by decide) rfl (n := 30) rfl ?_
      refine go_aload_n C d_Pairs_add_30 rfl 1 rfl (n := 31) rfl ?_
      refine go_get C d_Pairs_add_31 fl_Pairs_9 0 rfl rfl (n := 34) rfl ?_
      refine go_iload C d_Pairs_add_34 0 rfl (n := 36) rfl ?_
      refine go_lload_n C d_Pairs_add_36 rfl 2 rfl (n := 37) rfl ?_
      obtain ⟨hg37, hf⟩ := guardS hf
      refine go_last C d_Pairs_add_37 1 rfl hg37 (n := 38) rfl ?_
      refine go_aload_n C d_Pairs_add_38 rfl 1 rfl (n := 39) rfl ?_
      refine go_get C d_Pairs_add_39 fl_Pairs_15 0 rfl rfl (n := 42) rfl ?_
      refine go_iload C d_Pairs_add_42 0 rfl (n := 44) rfl ?_
      refine go_lload_n C d_Pairs_add_44 rfl 3 rfl (n := 45) rfl ?_
      obtain ⟨hg45, hf⟩ := guardS hf
      refine go_last C d_Pairs_add_45 2 rfl hg45 (n := 46) rfl ?_
      refine go_aload_n C d_Pairs_add_46 rfl 1 rfl (n := 47) rfl ?_
      refine go_get C d_Pairs_add_47 fl_Pairs_18 0 rfl rfl (n := 50) rfl ?_
      refine go_iload C d_Pairs_add_50 0 rfl (n := 52) rfl ?_
      refine go_iconst C (v := 0) d_Pairs_add_52 rfl (n := 53) rfl ?_
      obtain ⟨hg53, hf⟩ := guardS hf
      refine go_iast C d_Pairs_add_53 3 rfl hg53 (n := 54) rfl ?_
      refine go_aload_n C d_Pairs_add_54 rfl 1 rfl (n := 55) rfl ?_
      refine go_dup C d_Pairs_add_55 rfl (n := 56) rfl ?_
      refine go_get C d_Pairs_add_56 fl_Pairs_22 0 rfl rfl (n := 59) rfl ?_
      refine go_iconst C (v := 1) d_Pairs_add_59 rfl (n := 60) rfl ?_
      refine go_iadd C d_Pairs_add_60 (n := 61) rfl ?_
      refine go_put C d_Pairs_add_61 fl_Pairs_22 (fs_Pairs 3) rfl rfl rfl 0 rfl (Nat.le_of_ble_eq_true rfl) (n := 64) rfl ?_
      refine go_lv (lv' := [(0, .ref qt), (5, .int t_size)]) [1, 0] rfl ?_
      exact K64 (t_size + (1 : Int32)) (vp_updL t_firsts t_size.toNatClampNeg a0) (vp_updL t_seconds t_size.toNatClampNeg a1) (upd t_times t_size.toNatClampNeg (0 : Int32)) t_size hf
    · have hf := hi19.2 h19
      refine go_iconst C (v := 0) d_Pairs_add_22 rfl (n := 23) rfl ?_
      cases hf
      exact go_iret C d_Pairs_add_23 hr hPOST

def f_Pairs_saving (t_size : Int32) (t_firsts : Nat → Int64) (t_seconds : Nat → Int64) (t_times : Nat → Int32) (a0 : Int64) (a1 : Int64) : Option (Int32) :=
  (f_Pairs_indexOf t_size t_firsts t_seconds a0 a1).bind (fun o3 => if 0 ≤ o3 then if okI o3 40 = true then some ((400 : Int32) * (if (5 : Int32) < (t_times o3.toNatClampNeg) then (5 : Int32) else t_times o3.toNatClampNeg)) else none else some (0 : Int32))
set_option maxRecDepth 100000 in
set_option maxHeartbeats 4000000 in
theorem c_Pairs_saving (l : Launch) (D : va_G) (tc : Nat → ClassId) (qt : Nat) (qt_firsts : Nat) (qt_seconds : Nat) (qt_times : Nat) (t_size : Int32) (t_firsts : Nat → Int64) (t_seconds : Nat → Int64) (t_times : Nat → Int32) (a0 : Int64) (a1 : Int64) {o : (Int32)} (hf : f_Pairs_saving t_size t_firsts t_seconds t_times a0 a1 = some o) (POST : Option Value → va_W → Prop) (hPOST : POST (some (.int o)) [(qt, .inr (2, [.ref qt_firsts, .ref qt_seconds, .ref qt_times, .int t_size])), (qt_firsts, .inl (tc 1, 40, .inr (.inl t_firsts))), (qt_seconds, .inl (tc 1, 40, .inr (.inl t_seconds))), (qt_times, .inl (tc 0, 40, .inl t_times))]) : Std l y_Pairs_saving (.code y_Pairs_saving b_Pairs_saving 6 (some .int)) { frames := 1, cells := 0, slots := 0, locals := 25 } D tc [.ref qt, .long a0, .long a1] [(qt, .inr (2, [.ref qt_firsts, .ref qt_seconds, .ref qt_times, .int t_size])), (qt_firsts, .inl (tc 1, 40, .inr (.inl t_firsts))), (qt_seconds, .inl (tc 1, 40, .inr (.inl t_seconds))), (qt_times, .inl (tc 0, 40, .inl t_times))] 0 0 POST := by
  refine std_of (lv := [(0, .ref qt), (1, .long a0), (3, .long a1)]) (by decide) (Nat.le_of_ble_eq_true rfl) rfl (fun p e s m args below meth c A C hr hnm => ?_)
  unfold f_Pairs_saving at hf
  refine go_aload_n C d_Pairs_saving_0 rfl 0 rfl (n := 1) rfl ?_
  refine go_lload_n C d_Pairs_saving_1 rfl 1 rfl (n := 2) rfl ?_
  refine go_lload_n C d_Pairs_saving_2 rfl 2 rfl (n := 3) rfl ?_
  obtain ⟨o3, ho3, hf⟩ := bindS hf
  refine go_callVr C (As := [.long a0, .long a1]) (rest := []) d_Pairs_saving_3 (c_Pairs_indexOf l D tc qt qt_firsts qt_seconds qt_times t_size t_firsts t_seconds t_times a0 a1 ho3 (fun r w => r = some (.int o3) ∧ w = [(qt, .inr (2, [.ref qt_firsts, .ref qt_seconds, .ref qt_times, .int t_size])), (qt_firsts, .inl (tc 1, 40, .inr (.inl t_firsts))), (qt_seconds, .inl (tc 1, 40, .inr (.inl t_seconds))), (qt_times, .inl (tc 0, 40, .inl t_times))]) ⟨rfl, rfl⟩) lk_Pairs_26 mw_Pairs_indexOf sv_Pairs_indexOf 0 rfl rfl rfl rfl ⟨(Nat.le_of_ble_eq_true rfl), (Nat.le_of_ble_eq_true rfl)⟩ rfl rfl (Nat.le_of_ble_eq_true rfl) ⟨(Nat.le_of_ble_eq_true rfl), (Nat.le_of_ble_eq_true rfl)⟩ [0, 1, 2, 3] rfl (by decide) (n := 6) rfl ?_
  refine go_istore C d_Pairs_saving_6 (lv' := [(5, .int o3), (0, .ref qt), (1, .long a0), (3, .long a1)]) (by decide) rfl (n := 8) rfl ?_
  refine go_iload C d_Pairs_saving_8 0 rfl (n := 10) rfl ?_
  have hi10 := iteS hf
  refine go_if_ge C d_Pairs_saving_10 (tgt := 17) (by decide) (n := 13) rfl (fun h10 => ?_) (fun h10 => ?_)
  · have hf := hi10.1 h10
    refine go_sipush C (v := 400) d_Pairs_saving_17 rfl (n := 20) rfl ?_
    refine go_aload_n C d_Pairs_saving_20 rfl 1 rfl (n := 21) rfl ?_
    refine go_get C d_Pairs_saving_21 fl_Pairs_18 0 rfl rfl (n := 24) rfl ?_
    refine go_iload C d_Pairs_saving_24 0 rfl (n := 26) rfl ?_
    obtain ⟨hg26, hf⟩ := guardS hf
    refine go_iald C d_Pairs_saving_26 3 rfl hg26 (n := 27) rfl ?_
    refine go_iconst C (v := 5) d_Pairs_saving_27 rfl (n := 28) rfl ?_
    refine go_mmin C d_Pairs_saving_28 wl_Pairs_30 wmin (Nat.le_of_ble_eq_true rfl) (Nat.le_of_ble_eq_true rfl) (Nat.le_of_ble_eq_true rfl) (Nat.le_of_ble_eq_true rfl) (n := 31) rfl ?_
    refine go_imul C d_Pairs_saving_31 (n := 32) rfl ?_
    cases hf
    exact go_iret C d_Pairs_saving_32 hr hPOST
  · have hf := hi10.2 h10
    refine go_iconst C (v := 0) d_Pairs_saving_13 rfl (n := 14) rfl ?_
    refine go_goto C d_Pairs_saving_14 (tgt := 32) (by decide) ?_
    cases hf
    exact go_iret C d_Pairs_saving_32 hr hPOST

