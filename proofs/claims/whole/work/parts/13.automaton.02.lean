def f_Automaton_addBeginning_72b (p0_size : Int32) (p0_texts : Nat → Int64) (p0_costs : Nat → Int32) (a1 : Int32) (a2 : Int32) (v_t_states : Int32) (v_t_arcs : Int32) (v_t_starts : Nat → Int32) (v_t_counts : Nat → Int32) (v_t_lengths : Nat → Int32) (v_t_lowests : Nat → Int32) (rec : Int32 → Option ((Unit) ⊕ (Unit))) (l4 : Int32) : Option ((Unit) ⊕ (Unit)) :=
  if v_t_states ≤ l4 then some (.inl  ()) else (f_Automaton_behaveTheSame v_t_starts v_t_counts v_t_lengths v_t_lowests p0_texts p0_costs l4 v_t_states).bind (fun o89 => if o89 = 0 then rec (l4 + (1 : Int32)) else some (.inr <|  ()))
def f_Automaton_addBeginning_72 (p0_size : Int32) (p0_texts : Nat → Int64) (p0_costs : Nat → Int32) (a1 : Int32) (a2 : Int32) (v_t_states : Int32) (v_t_arcs : Int32) (v_t_starts : Nat → Int32) (v_t_counts : Nat → Int32) (v_t_lengths : Nat → Int32) (v_t_lowests : Nat → Int32) : Nat → Int32 → Option ((Unit) ⊕ (Unit))
  | 0 => fun _ => none
  | n + 1 => f_Automaton_addBeginning_72b p0_size p0_texts p0_costs a1 a2 v_t_states v_t_arcs v_t_starts v_t_counts v_t_lengths v_t_lowests (f_Automaton_addBeginning_72 p0_size p0_texts p0_costs a1 a2 v_t_states v_t_arcs v_t_starts v_t_counts v_t_lengths v_t_lowests n)
def f_Automaton_addBeginning (t_states : Int32) (t_arcs : Int32) (t_starts : Nat → Int32) (t_counts : Nat → Int32) (t_lengths : Nat → Int32) (t_lowests : Nat → Int32) (p0_size : Int32) (p0_texts : Nat → Int64) (p0_costs : Nat → Int32) (a1 : Int32) (a2 : Int32) : Option (Int32 × Int32 × (Nat → Int32) × (Nat → Int32) × (Nat → Int32) × (Nat → Int32)) :=
  if t_states < (193 : Int32) then if okI t_states 193 = true then (f_Automaton_countWords p0_size p0_texts a1 a2).bind (fun o32 => if okI t_states 193 = true then if okI t_states 193 = true then if okI t_states 193 = true then (f_Automaton_lowestCost p0_costs a1 ((upd t_counts t_states.toNatClampNeg o32) t_states.toNatClampNeg)).bind (fun o65 => if okI t_states 193 = true then (f_Automaton_addBeginning_72 p0_size p0_texts p0_costs a1 a2 t_states t_arcs (upd t_starts t_states.toNatClampNeg a1) (upd t_counts t_states.toNatClampNeg o32) (upd t_lengths t_states.toNatClampNeg a2) (upd t_lowests t_states.toNatClampNeg o65) FU (0 : Int32)).bind (Sum.elim (fun x72 => (f_Automaton_countArcs (upd t_starts t_states.toNatClampNeg a1) (upd t_counts t_states.toNatClampNeg o32) (upd t_lengths t_states.toNatClampNeg a2) p0_texts t_states).bind (fun o113 => some (t_states + (1 : Int32), t_arcs + o113, upd t_starts t_states.toNatClampNeg a1, upd t_counts t_states.toNatClampNeg o32, upd t_lengths t_states.toNatClampNeg a2, upd t_lowests t_states.toNatClampNeg o65))) (fun x72 => some (t_states, t_arcs, upd t_starts t_states.toNatClampNeg a1, upd t_counts t_states.toNatClampNeg o32, upd t_lengths t_states.toNatClampNeg a2, upd t_lowests t_states.toNatClampNeg o65))) else none) else none else none else none) else none else some (t_states, t_arcs, t_starts, t_counts, t_lengths, t_lowests)
set_option maxRecDepth 100000 in
set_option maxHeartbeats 4000000 in
theorem c_Automaton_addBeginning (l : Launch) (D : va_G) (tc : Nat → ClassId) (qt : Nat) (qt_starts : Nat) (qt_counts : Nat) (qt_lengths : Nat) (qt_lowests : Nat) (qp0 : Nat) (qp0_texts : Nat) (qp0_costs : Nat) (t_states : Int32) (t_arcs : Int32) (t_starts : Nat → Int32) (t_counts : Nat → Int32) (t_lengths : Nat → Int32) (t_lowests : Nat → Int32) (p0_size : Int32) (p0_texts : Nat → Int64) (p0_costs : Nat → Int32) (a1 : Int32) (a2 : Int32) {o : (Int32 × Int32 × (Nat → Int32) × (Nat → Int32) × (Nat → Int32) × (Nat → Int32))} (hf : f_Automaton_addBeginning t_states t_arcs t_starts t_counts t_lengths t_lowests p0_size p0_texts p0_costs a1 a2 = some o) (POST : Option Value → va_W → Prop) (hPOST : POST none [(qt, .inr (0, [.ref qt_starts, .ref qt_counts, .ref qt_lengths, .ref qt_lowests, .int o.1, .int o.2.1])), (qt_starts, .inl (tc 0, 193, .inl o.2.2.1)), (qt_counts, .inl (tc 0, 193, .inl o.2.2.2.1)), (qt_lengths, .inl (tc 0, 193, .inl o.2.2.2.2.1)), (qt_lowests, .inl (tc 0, 193, .inl o.2.2.2.2.2)), (qp0, .inr (6, [.ref qp0_texts, .ref qp0_costs, .int p0_size])), (qp0_texts, .inl (tc 1, 24, .inr (.inl p0_texts))), (qp0_costs, .inl (tc 0, 24, .inl p0_costs))]) : Std l y_Automaton_addBeginning (.code y_Automaton_addBeginning b_Automaton_addBeginning 5 none) { frames := 3, cells := 0, slots := 0, locals := 71 } D tc [.ref qt, .ref qp0, .int a1, .int a2] [(qt, .inr (0, [.ref qt_starts, .ref qt_counts, .ref qt_lengths, .ref qt_lowests, .int t_states, .int t_arcs])), (qt_starts, .inl (tc 0, 193, .inl t_starts)), (qt_counts, .inl (tc 0, 193, .inl t_counts)), (qt_lengths, .inl (tc 0, 193, .inl t_lengths)), (qt_lowests, .inl (tc 0, 193, .inl t_lowests)), (qp0, .inr (6, [.ref qp0_texts, .ref qp0_costs, .int p0_size])), (qp0_texts, .inl (tc 1, 24, .inr (.inl p0_texts))), (qp0_costs, .inl (tc 0, 24, .inl p0_costs))] 0 0 POST := by
  refine std_of (lv := [(0, .ref qt), (1, .ref qp0), (2, .int a1), (3, .int a2)]) (by decide) (Nat.le_of_ble_eq_true rfl) rfl (fun p e s m args below meth c A C hr hnm => ?_)
  have K72 : ∀ (v_t_states : Int32) (v_t_arcs : Int32) (v_t_starts : Nat → Int32) (v_t_counts : Nat → Int32) (v_t_lengths : Nat → Int32) (v_t_lowests : Nat → Int32) (n : Nat) (l4 : Int32) (x : ((Unit) ⊕ (Unit))), f_Automaton_addBeginning_72 p0_size p0_texts p0_costs a1 a2 v_t_states v_t_arcs v_t_starts v_t_counts v_t_lengths v_t_lowests n l4 = some x → ((∀ d, x = .inl d → Go p l e { frames := 3, cells := 0, slots := 0, locals := 71 } s m args below meth c (MQ below (Qs D A POST) args s 0 0 A) D A 5 0 0 [(qt, .inr (0, [.ref qt_starts, .ref qt_counts, .ref qt_lengths, .ref qt_lowests, .int v_t_states, .int v_t_arcs])), (qt_starts, .inl (tc 0, 193, .inl v_t_starts)), (qt_counts, .inl (tc 0, 193, .inl v_t_counts)), (qt_lengths, .inl (tc 0, 193, .inl v_t_lengths)), (qt_lowests, .inl (tc 0, 193, .inl v_t_lowests)), (qp0, .inr (6, [.ref qp0_texts, .ref qp0_costs, .int p0_size])), (qp0_texts, .inl (tc 1, 24, .inr (.inl p0_texts))), (qp0_costs, .inl (tc 0, 24, .inl p0_costs))] [(0, .ref qt), (1, .ref qp0)] 102 []) ∧ (∀ d, x = .inr d → Go p l e { frames := 3, cells := 0, slots := 0, locals := 71 } s m args below meth c (MQ below (Qs D A POST) args s 0 0 A) D A 5 0 0 [(qt, .inr (0, [.ref qt_starts, .ref qt_counts, .ref qt_lengths, .ref qt_lowests, .int v_t_states, .int v_t_arcs])), (qt_starts, .inl (tc 0, 193, .inl v_t_starts)), (qt_counts, .inl (tc 0, 193, .inl v_t_counts)), (qt_lengths, .inl (tc 0, 193, .inl v_t_lengths)), (qt_lowests, .inl (tc 0, 193, .inl v_t_lowests)), (qp0, .inr (6, [.ref qp0_texts, .ref qp0_costs, .int p0_size])), (qp0_texts, .inl (tc 1, 24, .inr (.inl p0_texts))), (qp0_costs, .inl (tc 0, 24, .inl p0_costs))] [] 95 [])) → Go p l e { frames := 3, cells := 0, slots := 0, locals := 71 } s m args below meth c (MQ below (Qs D A POST) args s 0 0 A) D A 5 0 0 [(qt, .inr (0, [.ref qt_starts, .ref qt_counts, .ref qt_lengths, .ref qt_lowests, .int v_t_states, .int v_t_arcs])), (qt_starts, .inl (tc 0, 193, .inl v_t_starts)), (qt_counts, .inl (tc 0, 193, .inl v_t_counts)), (qt_lengths, .inl (tc 0, 193, .inl v_t_lengths)), (qt_lowests, .inl (tc 0, 193, .inl v_t_lowests)), (qp0, .inr (6, [.ref qp0_texts, .ref qp0_costs, .int p0_size])), (qp0_texts, .inl (tc 1, 24, .inr (.inl p0_texts))), (qp0_costs, .inl (tc 0, 24, .inl p0_costs))] [(0, .ref qt), (1, .ref qp0), (4, .int l4)] 72 [] := by
    intro v_t_states v_t_arcs v_t_starts v_t_counts v_t_lengths v_t_lowests n
    induction n with
    | zero =>
      intro l4 x hf hE
      simp [f_Automaton_addBeginning_72] at hf
    | succ n ih =>
      intro l4 x hf hE
      have hf : f_Automaton_addBeginning_72b p0_size p0_texts p0_costs a1 a2 v_t_states v_t_arcs v_t_starts v_t_counts v_t_lengths v_t_lowests (f_Automaton_addBeginning_72 p0_size p0_texts p0_costs a1 a2 v_t_states v_t_arcs v_t_starts v_t_counts v_t_lengths v_t_lowests n) l4 = some x := hf
      unfold f_Automaton_addBeginning_72b at hf
      refine go_iload C d_Automaton_addBeginning_72 2 rfl (n := 74) rfl ?_
      refine go_aload_n C d_Automaton_addBeginning_74 rfl 0 rfl (n := 75) rfl ?_
      refine go_get C d_Automaton_addBeginning_75 fl_Automaton_24 0 rfl rfl (n := 78) rfl ?_
      have hi78 := iteS hf
      refine go_icmp_ge C d_Automaton_addBeginning_78 (tgt := 102) (by decide) (n := 81) rfl (fun h78 => ?_) (fun h78 => ?_)
      · have hf := hi78.1 h78
        refine go_lv (lv' := [(0, .ref qt), (1, .ref qp0)]) [0, 1] rfl ?_
        cases hf
        exact hE.1 _ rfl
      · have hf := hi78.2 h78
        refine go_aload_n C d_Automaton_addBeginning_81 rfl 0 rfl (n := 82) rfl ?_
        refine go_aload_n C d_Automaton_addBeginning_82 rfl 1 rfl (n := 83) rfl ?_
        refine go_iload C d_Automaton_addBeginning_83 2 rfl (n := 85) rfl ?_
        refine go_aload_n C d_Automaton_addBeginning_85 rfl 0 rfl (n := 86) rfl ?_
        refine go_get C d_Automaton_addBeginning_86 fl_Automaton_24 0 rfl rfl (n := 89) rfl ?_
        obtain ⟨o89, ho89, hf⟩ := bindS hf
        refine go_callVr C (As := [.ref qp0, .int l4, .int v_t_states]) (rest := []) d_Automaton_addBeginning_89 (c_Automaton_behaveTheSame l D tc qt qt_starts qt_counts qt_lengths qt_lowests qp0 qp0_texts qp0_costs v_t_states v_t_arcs v_t_starts v_t_counts v_t_lengths v_t_lowests p0_size p0_texts p0_costs l4 v_t_states ho89 (fun r w => r = some (.int o89) ∧ w = [(qt, .inr (0, [.ref qt_starts, .ref qt_counts, .ref qt_lengths, .ref qt_lowests, .int v_t_states, .int v_t_arcs])), (qt_starts, .inl (tc 0, 193, .inl v_t_starts)), (qt_counts, .inl (tc 0, 193, .inl v_t_counts)), (qt_lengths, .inl (tc 0, 193, .inl v_t_lengths)), (qt_lowests, .inl (tc 0, 193, .inl v_t_lowests)), (qp0, .inr (6, [.ref qp0_texts, .ref qp0_costs, .int p0_size])), (qp0_texts, .inl (tc 1, 24, .inr (.inl p0_texts))), (qp0_costs, .inl (tc 0, 24, .inl p0_costs))]) ⟨rfl, rfl⟩) lk_Automaton_62 mw_Automaton_behaveTheSame sv_Automaton_behaveTheSame 0 rfl rfl rfl rfl ⟨(Nat.le_of_ble_eq_true rfl), (Nat.le_of_ble_eq_true rfl)⟩ rfl rfl (Nat.le_of_ble_eq_true rfl) ⟨(Nat.le_of_ble_eq_true rfl), (Nat.le_of_ble_eq_true rfl)⟩ [0, 1, 2, 3, 4, 5, 6, 7] rfl (by decide) (n := 92) rfl ?_
        have hi92 := iteS hf
        refine go_if_eq C d_Automaton_addBeginning_92 (tgt := 96) (by decide) (n := 95) rfl (fun h92 => ?_) (fun h92 => ?_)
        · have hf := hi92.1 h92
          refine go_iinc C d_Automaton_addBeginning_96 2 rfl (v := l4 + (1 : Int32)) rfl (lv' := [(4, .int (l4 + (1 : Int32))), (0, .ref qt), (1, .ref qp0)]) (by decide) rfl (n := 99) rfl ?_
          refine go_goto C d_Automaton_addBeginning_99 (tgt := 72) (by decide) ?_
          refine go_lv (lv' := [(0, .ref qt), (1, .ref qp0), (4, .int (l4 + (1 : Int32)))]) [1, 2, 0] rfl ?_
          exact ih (l4 + (1 : Int32)) x hf hE
        · have hf := hi92.2 h92
          refine go_lv (lv' := []) [] rfl ?_
          cases hf
          exact hE.2 _ rfl
  unfold f_Automaton_addBeginning at hf
  refine go_aload_n C d_Automaton_addBeginning_0 rfl 0 rfl (n := 1) rfl ?_
  refine go_get C d_Automaton_addBeginning_1 fl_Automaton_24 0 rfl rfl (n := 4) rfl ?_
  refine go_sipush C (v := 193) d_Automaton_addBeginning_4 rfl (n := 7) rfl ?_
  have hi7 := iteS hf
  refine go_icmp_lt C d_Automaton_addBeginning_7 (tgt := 11) (by decide) (n := 10) rfl (fun h7 => ?_) (fun h7 => ?_)
  · have hf := hi7.1 h7
    refine go_aload_n C d_Automaton_addBeginning_11 rfl 0 rfl (n := 12) rfl ?_
    refine go_get C d_Automaton_addBeginning_12 fl_Automaton_11 0 rfl rfl (n := 15) rfl ?_
    refine go_aload_n C d_Automaton_addBeginning_15 rfl 0 rfl (n := 16) rfl ?_
    refine go_get C d_Automaton_addBeginning_16 fl_Automaton_24 0 rfl rfl (n := 19) rfl ?_
    refine go_iload_n C d_Automaton_addBeginning_19 rfl 2 rfl (n := 20) rfl ?_
    obtain ⟨hg20, hf⟩ := guardS hf
    refine go_iast C d_Automaton_addBeginning_20 1 rfl hg20 (n := 21) rfl ?_
    refine go_aload_n C d_Automaton_addBeginning_21 rfl 0 rfl (n := 22) rfl ?_
    refine go_get C d_Automaton_addBeginning_22 fl_Automaton_15 0 rfl rfl (n := 25) rfl ?_
    refine go_aload_n C d_Automaton_addBeginning_25 rfl 0 rfl (n := 26) rfl ?_
    refine go_get C d_Automaton_addBeginning_26 fl_Automaton_24 0 rfl rfl (n := 29) rfl ?_
    refine go_aload_n C d_Automaton_addBeginning_29 rfl 1 rfl (n := 30) rfl ?_
    refine go_iload_n C d_Automaton_addBeginning_30 rfl 2 rfl (n := 31) rfl ?_
    refine go_iload_n C d_Automaton_addBeginning_31 rfl 3 rfl (n := 32) rfl ?_
    obtain ⟨o32, ho32, hf⟩ := bindS hf
    refine go_callSr C (As := [.ref qp0, .int a1, .int a2]) (rest := [.int t_states, .ref qt_counts]) d_Automaton_addBeginning_32 (c_Automaton_countWords l D tc qp0 qp0_texts qp0_costs p0_size p0_texts p0_costs a1 a2 ho32 (fun r w => r = some (.int o32) ∧ w = [(qp0, .inr (6, [.ref qp0_texts, .ref qp0_costs, .int p0_size])), (qp0_texts, .inl (tc 1, 24, .inr (.inl p0_texts))), (qp0_costs, .inl (tc 0, 24, .inl p0_costs))]) ⟨rfl, rfl⟩) lk_Automaton_55 mw_Automaton_countWords ws_Automaton_countWords rfl rfl ⟨(Nat.le_of_ble_eq_true rfl), (Nat.le_of_ble_eq_true rfl)⟩ rfl rfl (Nat.le_of_ble_eq_true rfl) ⟨(Nat.le_of_ble_eq_true rfl), (Nat.le_of_ble_eq_true rfl)⟩ [5, 6, 7] rfl (by decide) (n := 35) rfl ?_
    obtain ⟨hg35, hf⟩ := guardS hf
    refine go_iast C d_Automaton_addBeginning_35 2 rfl hg35 (n := 36) rfl ?_
    refine go_aload_n C d_Automaton_addBeginning_36 rfl 0 rfl (n := 37) rfl ?_
    refine go_get C d_Automaton_addBeginning_37 fl_Automaton_18 0 rfl rfl (n := 40) rfl ?_
    refine go_aload_n C d_Automaton_addBeginning_40 rfl 0 rfl (n := 41) rfl ?_
    refine go_get C d_Automaton_addBeginning_41 fl_Automaton_24 0 rfl rfl (n := 44) rfl ?_
    refine go_iload_n C d_Automaton_addBeginning_44 rfl 3 rfl (n := 45) rfl ?_
    obtain ⟨hg45, hf⟩ := guardS hf
    refine go_iast C d_Automaton_addBeginning_45 3 rfl hg45 (n := 46) rfl ?_
    refine go_aload_n C d_Automaton_addBeginning_46 rfl 0 rfl (n := 47) rfl ?_
    refine go_get C d_Automaton_addBeginning_47 fl_Automaton_21 0 rfl rfl (n := 50) rfl ?_
    refine go_aload_n C d_Automaton_addBeginning_50 rfl 0 rfl (n := 51) rfl ?_
    refine go_get C d_Automaton_addBeginning_51 fl_Automaton_24 0 rfl rfl (n := 54) rfl ?_
    refine go_aload_n C d_Automaton_addBeginning_54 rfl 1 rfl (n := 55) rfl ?_
    refine go_iload_n C d_Automaton_addBeginning_55 rfl 2 rfl (n := 56) rfl ?_
    refine go_aload_n C d_Automaton_addBeginning_56 rfl 0 rfl (n := 57) rfl ?_
    refine go_get C d_Automaton_addBeginning_57 fl_Automaton_15 0 rfl rfl (n := 60) rfl ?_
    refine go_aload_n C d_Automaton_addBeginning_60 rfl 0 rfl (n := 61) rfl ?_
    refine go_get C d_Automaton_addBeginning_61 fl_Automaton_24 0 rfl rfl (n := 64) rfl ?_
    obtain ⟨hg64, hf⟩ := guardS hf
    refine go_iald C d_Automaton_addBeginning_64 2 rfl hg64 (n := 65) rfl ?_
    obtain ⟨o65, ho65, hf⟩ := bindS hf
    refine go_callSr C (As := [.ref qp0, .int a1, .int ((upd t_counts t_states.toNatClampNeg o32) t_states.toNatClampNeg)]) (rest := [.int t_states, .ref qt_lowests]) d_Automaton_addBeginning_65 (c_Automaton_lowestCost l D tc qp0 qp0_texts qp0_costs p0_size p0_texts p0_costs a1 ((upd t_counts t_states.toNatClampNeg o32) t_states.toNatClampNeg) ho65 (fun r w => r = some (.int o65) ∧ w = [(qp0, .inr (6, [.ref qp0_texts, .ref qp0_costs, .int p0_size])), (qp0_texts, .inl (tc 1, 24, .inr (.inl p0_texts))), (qp0_costs, .inl (tc 0, 24, .inl p0_costs))]) ⟨rfl, rfl⟩) lk_Automaton_59 mw_Automaton_lowestCost ws_Automaton_lowestCost rfl rfl ⟨(Nat.le_of_ble_eq_true rfl), (Nat.le_of_ble_eq_true rfl)⟩ rfl rfl (Nat.le_of_ble_eq_true rfl) ⟨(Nat.le_of_ble_eq_true rfl), (Nat.le_of_ble_eq_true rfl)⟩ [5, 6, 7] rfl (by decide) (n := 68) rfl ?_
    obtain ⟨hg68, hf⟩ := guardS hf
    refine go_iast C d_Automaton_addBeginning_68 4 rfl hg68 (n := 69) rfl ?_
    refine go_iconst C (v := 0) d_Automaton_addBeginning_69 rfl (n := 70) rfl ?_
    refine go_istore C d_Automaton_addBeginning_70 (lv' := [(4, .int (0 : Int32)), (0, .ref qt), (1, .ref qp0), (2, .int a1), (3, .int a2)]) (by decide) rfl (n := 72) rfl ?_
    refine go_lv (lv' := [(0, .ref qt), (1, .ref qp0), (4, .int (0 : Int32))]) [1, 2, 0] rfl ?_
    obtain ⟨y72, hx72, hf⟩ := bindS hf
    refine K72 t_states t_arcs (upd t_starts t_states.toNatClampNeg a1) (upd t_counts t_states.toNatClampNeg o32) (upd t_lengths t_states.toNatClampNeg a2) (upd t_lowests t_states.toNatClampNeg o65) FU (0 : Int32) y72 hx72 ⟨fun x72 hd => ?_, fun x72 hd => ?_⟩
    · subst hd
      dsimp only [Sum.elim_inl, Sum.elim_inr] at hf
      refine go_aload_n C d_Automaton_addBeginning_102 rfl 0 rfl (n := 103) rfl ?_
      refine go_dup C d_Automaton_addBeginning_103 rfl (n := 104) rfl ?_
      refine go_get C d_Automaton_addBeginning_104 fl_Automaton_28 0 rfl rfl (n := 107) rfl ?_
      refine go_aload_n C d_Automaton_addBeginning_107 rfl 0 rfl (n := 108) rfl ?_
      refine go_aload_n C d_Automaton_addBeginning_108 rfl 1 rfl (n := 109) rfl ?_
      refine go_aload_n C d_Automaton_addBeginning_109 rfl 0 rfl (n := 110) rfl ?_
      refine go_get C d_Automaton_addBeginning_110 fl_Automaton_24 0 rfl rfl (n := 113) rfl ?_
      obtain ⟨o113, ho113, hf⟩ := bindS hf
      refine go_callVr C (As := [.ref qp0, .int t_states]) (rest := [.int t_arcs, .ref qt]) d_Automaton_addBeginning_113 (c_Automaton_countArcs l D tc qt qt_starts qt_counts qt_lengths qt_lowests qp0 qp0_texts qp0_costs t_states t_arcs (upd t_starts t_states.toNatClampNeg a1) (upd t_counts t_states.toNatClampNeg o32) (upd t_lengths t_states.toNatClampNeg a2) (upd t_lowests t_states.toNatClampNeg o65) p0_size p0_texts p0_costs t_states ho113 (fun r w => r = some (.int o113) ∧ w = [(qt, .inr (0, [.ref qt_starts, .ref qt_counts, .ref qt_lengths, .ref qt_lowests, .int t_states, .int t_arcs])), (qt_starts, .inl (tc 0, 193, .inl (upd t_starts t_states.toNatClampNeg a1))), (qt_counts, .inl (tc 0, 193, .inl (upd t_counts t_states.toNatClampNeg o32))), (qt_lengths, .inl (tc 0, 193, .inl (upd t_lengths t_states.toNatClampNeg a2))), (qt_lowests, .inl (tc 0, 193, .inl (upd t_lowests t_states.toNatClampNeg o65))), (qp0, .inr (6, [.ref qp0_texts, .ref qp0_costs, .int p0_size])), (qp0_texts, .inl (tc 1, 24, .inr (.inl p0_texts))), (qp0_costs, .inl (tc 0, 24, .inl p0_costs))]) ⟨rfl, rfl⟩) lk_Automaton_66 mw_Automaton_countArcs sv_Automaton_countArcs 0 rfl rfl rfl rfl ⟨(Nat.le_of_ble_eq_true rfl), (Nat.le_of_ble_eq_true rfl)⟩ rfl rfl (Nat.le_of_ble_eq_true rfl) ⟨(Nat.le_of_ble_eq_true rfl), (Nat.le_of_ble_eq_true rfl)⟩ [0, 1, 2, 3, 4, 5, 6, 7] rfl (by decide) (n := 116) rfl ?_
      refine go_iadd C d_Automaton_addBeginning_116 (n := 117) rfl ?_
      refine go_put C d_Automaton_addBeginning_117 fl_Automaton_28 (fs_Automaton 5) rfl rfl rfl 0 rfl (Nat.le_of_ble_eq_true rfl) (n := 120) rfl ?_
      refine go_aload_n C d_Automaton_addBeginning_120 rfl 0 rfl (n := 121) rfl ?_
      refine go_dup C d_Automaton_addBeginning_121 rfl (n := 122) rfl ?_
      refine go_get C d_Automaton_addBeginning_122 fl_Automaton_24 0 rfl rfl (n := 125) rfl ?_
      refine go_iconst C (v := 1) d_Automaton_addBeginning_125 rfl (n := 126) rfl ?_
      refine go_iadd C d_Automaton_addBeginning_126 (n := 127) rfl ?_
      refine go_put C d_Automaton_addBeginning_127 fl_Automaton_24 (fs_Automaton 4) rfl rfl rfl 0 rfl (Nat.le_of_ble_eq_true rfl) (n := 130) rfl ?_
      cases hf
      exact go_vret C d_Automaton_addBeginning_130 hr hPOST
    · subst hd
      dsimp only [Sum.elim_inl, Sum.elim_inr] at hf
      cases hf
      exact go_vret C d_Automaton_addBeginning_95 hr hPOST
  · have hf := hi7.2 h7
    cases hf
    exact go_vret C d_Automaton_addBeginning_10 hr hPOST

def f_Automaton_measure_59b (p0_size : Int32) (p0_texts : Nat → Int64) (p0_costs : Nat → Int32) (l2 : Int32) (l6 : Int32) (rec : Int32 → Int32 → (Nat → Int32) → (Nat → Int32) → (Nat → Int32) → (Nat → Int32) → Int32 → Option (Int32 × Int32 × (Nat → Int32) × (Nat → Int32) × (Nat → Int32) × (Nat → Int32))) (v_t_states : Int32) (v_t_arcs : Int32) (v_t_starts : Nat → Int32) (v_t_counts : Nat → Int32) (v_t_lengths : Nat → Int32) (v_t_lowests : Nat → Int32) (l7 : Int32) : Option (Int32 × Int32 × (Nat → Int32) × (Nat → Int32) × (Nat → Int32) × (Nat → Int32)) :=
  if l6 < l7 then some ( (v_t_states, v_t_arcs, v_t_starts, v_t_counts, v_t_lengths, v_t_lowests)) else (f_Automaton_addBeginning v_t_states v_t_arcs v_t_starts v_t_counts v_t_lengths v_t_lowests p0_size p0_texts p0_costs l2 l7).bind (fun o71 => rec o71.1 o71.2.1 o71.2.2.1 o71.2.2.2.1 o71.2.2.2.2.1 o71.2.2.2.2.2 (l7 + (1 : Int32)))
def f_Automaton_measure_59 (p0_size : Int32) (p0_texts : Nat → Int64) (p0_costs : Nat → Int32) (l2 : Int32) (l6 : Int32) : Nat → Int32 → Int32 → (Nat → Int32) → (Nat → Int32) → (Nat → Int32) → (Nat → Int32) → Int32 → Option (Int32 × Int32 × (Nat → Int32) × (Nat → Int32) × (Nat → Int32) × (Nat → Int32))
  | 0 => fun _ _ _ _ _ _ _ => none
  | n + 1 => f_Automaton_measure_59b p0_size p0_texts p0_costs l2 l6 (f_Automaton_measure_59 p0_size p0_texts p0_costs l2 l6 n)
def f_Automaton_measure_47 (rec : Int32 → Int32 → (Nat → Int32) → (Nat → Int32) → (Nat → Int32) → (Nat → Int32) → Int32 → Option (Int32 × Int32 × (Nat → Int32) × (Nat → Int32) × (Nat → Int32) × (Nat → Int32))) (p0_size : Int32) (p0_texts : Nat → Int64) (p0_costs : Nat → Int32) (v_t_states : Int32) (v_t_arcs : Int32) (v_t_starts : Nat → Int32) (v_t_counts : Nat → Int32) (v_t_lengths : Nat → Int32) (v_t_lowests : Nat → Int32) (l2 : Int32) (l3 : Int64) (s0 : Int32) : Option (Int32 × Int32 × (Nat → Int32) × (Nat → Int32) × (Nat → Int32) × (Nat → Int32)) :=
  (f_Texts_lengthOf l3).bind (fun o50 => (f_Automaton_measure_59 p0_size p0_texts p0_costs l2 o50 FU v_t_states v_t_arcs v_t_starts v_t_counts v_t_lengths v_t_lowests s0).bind (fun x59 => rec x59.1 x59.2.1 x59.2.2.1 x59.2.2.2.1 x59.2.2.2.2.1 x59.2.2.2.2.2 (l2 + (1 : Int32))))
def f_Automaton_measure_12b (p0_size : Int32) (p0_texts : Nat → Int64) (p0_costs : Nat → Int32) (rec : Int32 → Int32 → (Nat → Int32) → (Nat → Int32) → (Nat → Int32) → (Nat → Int32) → Int32 → Option (Int32 × Int32 × (Nat → Int32) × (Nat → Int32) × (Nat → Int32) × (Nat → Int32))) (v_t_states : Int32) (v_t_arcs : Int32) (v_t_starts : Nat → Int32) (v_t_counts : Nat → Int32) (v_t_lengths : Nat → Int32) (v_t_lowests : Nat → Int32) (l2 : Int32) : Option (Int32 × Int32 × (Nat → Int32) × (Nat → Int32) × (Nat → Int32) × (Nat → Int32)) :=
  (f_WordList_size p0_size).bind (fun o14 => if o14 ≤ l2 then some ( (v_t_states, v_t_arcs, v_t_starts, v_t_counts, v_t_lengths, v_t_lowests)) else (f_WordList_textAt p0_texts l2).bind (fun o22 => if l2 = 0 then f_Automaton_measure_47 rec p0_size p0_texts p0_costs v_t_states v_t_arcs v_t_starts v_t_counts v_t_lengths v_t_lowests l2 o22 (0 : Int32) else (f_WordList_textAt p0_texts (l2 - (1 : Int32))).bind (fun o38 => (f_Texts_sharedLetters o38 o22).bind (fun o42 => f_Automaton_measure_47 rec p0_size p0_texts p0_costs v_t_states v_t_arcs v_t_starts v_t_counts v_t_lengths v_t_lowests l2 o22 (o42 + (1 : Int32))))))
def f_Automaton_measure_12 (p0_size : Int32) (p0_texts : Nat → Int64) (p0_costs : Nat → Int32) : Nat → Int32 → Int32 → (Nat → Int32) → (Nat → Int32) → (Nat → Int32) → (Nat → Int32) → Int32 → Option (Int32 × Int32 × (Nat → Int32) × (Nat → Int32) × (Nat → Int32) × (Nat → Int32))
  | 0 => fun _ _ _ _ _ _ _ => none
  | n + 1 => f_Automaton_measure_12b p0_size p0_texts p0_costs (f_Automaton_measure_12 p0_size p0_texts p0_costs n)
def f_Automaton_measure (t_states : Int32) (t_arcs : Int32) (t_starts : Nat → Int32) (t_counts : Nat → Int32) (t_lengths : Nat → Int32) (t_lowests : Nat → Int32) (p0_size : Int32) (p0_texts : Nat → Int64) (p0_costs : Nat → Int32) : Option (Int32 × Int32 × (Nat → Int32) × (Nat → Int32) × (Nat → Int32) × (Nat → Int32)) :=
  (f_Automaton_measure_12 p0_size p0_texts p0_costs FU (0 : Int32) (0 : Int32) t_starts t_counts t_lengths t_lowests (0 : Int32)).bind (fun x12 => some (x12.1, x12.2.1, x12.2.2.1, x12.2.2.2.1, x12.2.2.2.2.1, x12.2.2.2.2.2))
set_option maxRecDepth 100000 in
set_option maxHeartbeats 4000000 in
theorem c_Automaton_measure (l : Launch) (D : va_G) (tc : Nat → ClassId) (qt : Nat) (qt_starts : Nat) (qt_counts : Nat) (qt_lengths : Nat) (qt_lowests : Nat) (qp0 : Nat) (qp0_texts : Nat) (qp0_costs : Nat) (t_states : Int32) (t_arcs : Int32) (t_starts : Nat → Int32) (t_counts : Nat → Int32) (t_lengths : Nat → Int32) (t_lowests : Nat → Int32) (p0_size : Int32) (p0_texts : Nat → Int64) (p0_costs : Nat → Int32) {o : (Int32 × Int32 × (Nat → Int32) × (Nat → Int32) × (Nat → Int32) × (Nat → Int32))} (hf : f_Automaton_measure t_states t_arcs t_starts t_counts t_lengths t_lowests p0_size p0_texts p0_costs = some o) (POST : Option Value → va_W → Prop) (hPOST : POST none [(qt, .inr (0, [.ref qt_starts, .ref qt_counts, .ref qt_lengths, .ref qt_lowests, .int o.1, .int o.2.1])), (qt_starts, .inl (tc 0, 193, .inl o.2.2.1)), (qt_counts, .inl (tc 0, 193, .inl o.2.2.2.1)), (qt_lengths, .inl (tc 0, 193, .inl o.2.2.2.2.1)), (qt_lowests, .inl (tc 0, 193, .inl o.2.2.2.2.2)), (qp0, .inr (6, [.ref qp0_texts, .ref qp0_costs, .int p0_size])), (qp0_texts, .inl (tc 1, 24, .inr (.inl p0_texts))), (qp0_costs, .inl (tc 0, 24, .inl p0_costs))]) : Std l y_Automaton_measure (.code y_Automaton_measure b_Automaton_measure 8 none) { frames := 4, cells := 0, slots := 0, locals := 95 } D tc [.ref qt, .ref qp0] [(qt, .inr (0, [.ref qt_starts, .ref qt_counts, .ref qt_lengths, .ref qt_lowests, .int t_states, .int t_arcs])), (qt_starts, .inl (tc 0, 193, .inl t_starts)), (qt_counts, .inl (tc 0, 193, .inl t_counts)), (qt_lengths, .inl (tc 0, 193, .inl t_lengths)), (qt_lowests, .inl (tc 0, 193, .inl t_lowests)), (qp0, .inr (6, [.ref qp0_texts, .ref qp0_costs, .int p0_size])), (qp0_texts, .inl (tc 1, 24, .inr (.inl p0_texts))), (qp0_costs, .inl (tc 0, 24, .inl p0_costs))] 0 0 POST := by
  refine std_of (lv := [(0, .ref qt), (1, .ref qp0)]) (by decide) (Nat.le_of_ble_eq_true rfl) rfl (fun p e s m args below meth c A C hr hnm => ?_)
  have K12 : ∀ (n : Nat) (v_t_states : Int32) (v_t_arcs : Int32) (v_t_starts : Nat → Int32) (v_t_counts : Nat → Int32) (v_t_lengths : Nat → Int32) (v_t_lowests : Nat → Int32) (l2 : Int32) (x : (Int32 × Int32 × (Nat → Int32) × (Nat → Int32) × (Nat → Int32) × (Nat → Int32))), f_Automaton_measure_12 p0_size p0_texts p0_costs n v_t_states v_t_arcs v_t_starts v_t_counts v_t_lengths v_t_lowests l2 = some x → (Go p l e { frames := 4, cells := 0, slots := 0, locals := 95 } s m args below meth c (MQ below (Qs D A POST) args s 0 0 A) D A 8 0 0 [(qt, .inr (0, [.ref qt_starts, .ref qt_counts, .ref qt_lengths, .ref qt_lowests, .int x.1, .int x.2.1])), (qt_starts, .inl (tc 0, 193, .inl x.2.2.1)), (qt_counts, .inl (tc 0, 193, .inl x.2.2.2.1)), (qt_lengths, .inl (tc 0, 193, .inl x.2.2.2.2.1)), (qt_lowests, .inl (tc 0, 193, .inl x.2.2.2.2.2)), (qp0, .inr (6, [.ref qp0_texts, .ref qp0_costs, .int p0_size])), (qp0_texts, .inl (tc 1, 24, .inr (.inl p0_texts))), (qp0_costs, .inl (tc 0, 24, .inl p0_costs))] [] 86 []) → Go p l e { frames := 4, cells := 0, slots := 0, locals := 95 } s m args below meth c (MQ below (Qs D A POST) args s 0 0 A) D A 8 0 0 [(qt, .inr (0, [.ref qt_starts, .ref qt_counts, .ref qt_lengths, .ref qt_lowests, .int v_t_states, .int v_t_arcs])), (qt_starts, .inl (tc 0, 193, .inl v_t_starts)), (qt_counts, .inl (tc 0, 193, .inl v_t_counts)), (qt_lengths, .inl (tc 0, 193, .inl v_t_lengths)), (qt_lowests, .inl (tc 0, 193, .inl v_t_lowests)), (qp0, .inr (6, [.ref qp0_texts, .ref qp0_costs, .int p0_size])), (qp0_texts, .inl (tc 1, 24, .inr (.inl p0_texts))), (qp0_costs, .inl (tc 0, 24, .inl p0_costs))] [(0, .ref qt), (1, .ref qp0), (2, .int l2)] 12 [] := by
    intro n
    induction n with
    | zero =>
      intro v_t_states v_t_arcs v_t_starts v_t_counts v_t_lengths v_t_lowests l2 x hf hE
      simp [f_Automaton_measure_12] at hf
    | succ n ih =>
      intro v_t_states v_t_arcs v_t_starts v_t_counts v_t_lengths v_t_lowests l2 x hf hE
      have hf : f_Automaton_measure_12b p0_size p0_texts p0_costs (f_Automaton_measure_12 p0_size p0_texts p0_costs n) v_t_states v_t_arcs v_t_starts v_t_counts v_t_lengths v_t_lowests l2 = some x := hf
      have K59 : ∀ (l2 : Int32) (l6 : Int32) (n : Nat) (v_t_states : Int32) (v_t_arcs : Int32) (v_t_starts : Nat → Int32) (v_t_counts : Nat → Int32) (v_t_lengths : Nat → Int32) (v_t_lowests : Nat → Int32) (l7 : Int32) (x : (Int32 × Int32 × (Nat → Int32) × (Nat → Int32) × (Nat → Int32) × (Nat → Int32))), f_Automaton_measure_59 p0_size p0_texts p0_costs l2 l6 n v_t_states v_t_arcs v_t_starts v_t_counts v_t_lengths v_t_lowests l7 = some x → (Go p l e { frames := 4, cells := 0, slots := 0, locals := 95 } s m args below meth c (MQ below (Qs D A POST) args s 0 0 A) D A 8 0 0 [(qt, .inr (0, [.ref qt_starts, .ref qt_counts, .ref qt_lengths, .ref qt_lowests, .int x.1, .int x.2.1])), (qt_starts, .inl (tc 0, 193, .inl x.2.2.1)), (qt_counts, .inl (tc 0, 193, .inl x.2.2.2.1)), (qt_lengths, .inl (tc 0, 193, .inl x.2.2.2.2.1)), (qt_lowests, .inl (tc 0, 193, .inl x.2.2.2.2.2)), (qp0, .inr (6, [.ref qp0_texts, .ref qp0_costs, .int p0_size])), (qp0_texts, .inl (tc 1, 24, .inr (.inl p0_texts))), (qp0_costs, .inl (tc 0, 24, .inl p0_costs))] [(0, .ref qt), (1, .ref qp0), (2, .int l2)] 80 []) → Go p l e { frames := 4, cells := 0, slots := 0, locals := 95 } s m args below meth c (MQ below (Qs D A POST) args s 0 0 A) D A 8 0 0 [(qt, .inr (0, [.ref qt_starts, .ref qt_counts, .ref qt_lengths, .ref qt_lowests, .int v_t_states, .int v_t_arcs])), (qt_starts, .inl (tc 0, 193, .inl v_t_starts)), (qt_counts, .inl (tc 0, 193, .inl v_t_counts)), (qt_lengths, .inl (tc 0, 193, .inl v_t_lengths)), (qt_lowests, .inl (tc 0, 193, .inl v_t_lowests)), (qp0, .inr (6, [.ref qp0_texts, .ref qp0_costs, .int p0_size])), (qp0_texts, .inl (tc 1, 24, .inr (.inl p0_texts))), (qp0_costs, .inl (tc 0, 24, .inl p0_costs))] [(0, .ref qt), (1, .ref qp0), (2, .int l2), (6, .int l6), (7, .int l7)] 59 [] := by
        intro l2 l6 n
        induction n with
        | zero =>
          intro v_t_states v_t_arcs v_t_starts v_t_counts v_t_lengths v_t_lowests l7 x hf hE
          simp [f_Automaton_measure_59] at hf
        | succ n ih =>
          intro v_t_states v_t_arcs v_t_starts v_t_counts v_t_lengths v_t_lowests l7 x hf hE
          have hf : f_Automaton_measure_59b p0_size p0_texts p0_costs l2 l6 (f_Automaton_measure_59 p0_size p0_texts p0_costs l2 l6 n) v_t_states v_t_arcs v_t_starts v_t_counts v_t_lengths v_t_lowests l7 = some x := hf
          unfold f_Automaton_measure_59b at hf
          refine go_iload C d_Automaton_measure_59 4 rfl (n := 61) rfl ?_
          refine go_iload C d_Automaton_measure_61 3 rfl (n := 63) rfl ?_
          have hi63 := iteS hf
          refine go_icmp_gt C d_Automaton_measure_63 (tgt := 80) (by decide) (n := 66) rfl (fun h63 => ?_) (fun h63 => ?_)
          · have hf := hi63.1 h63
            refine go_lv (lv' := [(0, .ref qt), (1, .ref qp0), (2, .int l2)]) [0, 1, 2] rfl ?_
            cases hf
            exact hE
          · have hf := hi63.2 h63
            refine go_aload_n C d_Automaton_measure_66 rfl 0 rfl (n := 67) rfl ?_
            refine go_aload_n C d_Automaton_measure_67 rfl 1 rfl (n := 68) rfl ?_
            refine go_iload_n C d_Automaton_measure_68 rfl 2 rfl (n := 69) rfl ?_
            refine go_iload C d_Automaton_measure_69 4 rfl (n := 71) rfl ?_
            obtain ⟨o71, ho71, hf⟩ := bindS hf
            refine go_callV C (As := [.ref qp0, .int l2, .int l7]) (rest := []) d_Automaton_measure_71 (c_Automaton_addBeginning l D tc qt qt_starts qt_counts qt_lengths qt_lowests qp0 qp0_texts qp0_costs v_t_states v_t_arcs v_t_starts v_t_counts v_t_lengths v_t_lowests p0_size p0_texts p0_costs l2 l7 ho71 (fun r w => r = none ∧ w = [(qt, .inr (0, [.ref qt_starts, .ref qt_counts, .ref qt_lengths, .ref qt_lowests, .int o71.1, .int o71.2.1])), (qt_starts, .inl (tc 0, 193, .inl o71.2.2.1)), (qt_counts, .inl (tc 0, 193, .inl o71.2.2.2.1)), (qt_lengths, .inl (tc 0, 193, .inl o71.2.2.2.2.1)), (qt_lowests, .inl (tc 0, 193, .inl o71.2.2.2.2.2)), (qp0, .inr (6, [.ref qp0_texts, .ref qp0_costs, .int p0_size])), (qp0_texts, .inl (tc 1, 24, .inr (.inl p0_texts))), (qp0_costs, .inl (tc 0, 24, .inl p0_costs))]) ⟨rfl, rfl⟩) lk_Automaton_51 mw_Automaton_addBeginning sv_Automaton_addBeginning 0 rfl rfl rfl rfl ⟨(Nat.le_of_ble_eq_true rfl), (Nat.le_of_ble_eq_true rfl)⟩ rfl rfl (Nat.le_of_ble_eq_true rfl) ⟨(Nat.le_of_ble_eq_true rfl), (Nat.le_of_ble_eq_true rfl)⟩ [0, 1, 2, 3, 4, 5, 6, 7] rfl (by decide) (by rintro _ _ ⟨rfl, rfl⟩; simp only [List.map_cons, List.map_nil]) (n := 74) rfl ?_
            rintro _ _ ⟨rfl, rfl⟩
            refine go_eq (ws' := [(qt, .inr (0, [.ref qt_starts, .ref qt_counts, .ref qt_lengths, .ref qt_lowests, .int o71.1, .int o71.2.1])), (qt_starts, .inl (tc 0, 193, .inl o71.2.2.1)), (qt_counts, .inl (tc 0, 193, .inl o71.2.2.2.1)), (qt_lengths, .inl (tc 0, 193, .inl o71.2.2.2.2.1)), (qt_lowests, .inl (tc 0, 193, .inl o71.2.2.2.2.2)), (qp0, .inr (6, [.ref qp0_texts, .ref qp0_costs, .int p0_size])), (qp0_texts, .inl (tc 1, 24, .inr (.inl p0_texts))), (qp0_costs, .inl (tc 0, 24, .inl p0_costs))]) (by simp only [repl, List.set_cons_zero, List.set_cons_succ]) rfl rfl ?_
            refine go_iinc C d_Automaton_measure_74 4 rfl (v := l7 + (1 : Int32)) rfl (lv' := [(7, .int (l7 + (1 : Int32))), (0, .ref qt), (1, .ref qp0), (2, .int l2), (6, .int l6)]) (by decide) rfl (n := 77) rfl ?_
            refine go_goto C d_Automaton_measure_77 (tgt := 59) (by decide) ?_
            refine go_lv (lv' := [(0, .ref qt), (1, .ref qp0), (2, .int l2), (6, .int l6), (7, .int (l7 + (1 : Int32)))]) [1, 2, 3, 4, 0] rfl ?_
            exact ih o71.1 o71.2.1 o71.2.2.1 o71.2.2.2.1 o71.2.2.2.2.1 o71.2.2.2.2.2 (l7 + (1 : Int32)) x hf hE
      have K47 : ∀ (v_t_states : Int32) (v_t_arcs : Int32) (v_t_starts : Nat → Int32) (v_t_counts : Nat → Int32) (v_t_lengths : Nat → Int32) (v_t_lowests : Nat → Int32) (l2 : Int32) (l3 : Int64) (s0 : Int32), f_Automaton_measure_47 (f_Automaton_measure_12 p0_size p0_texts p0_costs n) p0_size p0_texts p0_costs v_t_states v_t_arcs v_t_starts v_t_counts v_t_lengths v_t_lowests l2 l3 s0 = some x → Go p l e { frames := 4, cells := 0, slots := 0, locals := 95 } s m args below meth c (MQ below (Qs D A POST) args s 0 0 A) D A 8 0 0 [(qt, .inr (0, [.ref qt_starts, .ref qt_counts, .ref qt_lengths, .ref qt_lowests, .int v_t_states, .int v_t_arcs])), (qt_starts, .inl (tc 0, 193, .inl v_t_starts)), (qt_counts, .inl (tc 0, 193, .inl v_t_counts)), (qt_lengths, .inl (tc 0, 193, .inl v_t_lengths)), (qt_lowests, .inl (tc 0, 193, .inl v_t_lowests)), (qp0, .inr (6, [.ref qp0_texts, .ref qp0_costs, .int p0_size])), (qp0_texts, .inl (tc 1, 24, .inr (.inl p0_texts))), (qp0_costs, .inl (tc 0, 24, .inl p0_costs))] [(0, .ref qt), (1, .ref qp0), (2, .int l2), (3, .long l3)] 47 [.int s0] := by
        intro v_t_states v_t_arcs v_t_starts v_t_counts v_t_lengths v_t_lowests l2 l3 s0 hf
        unfold f_Automaton_measure_47 at hf
        refine go_istore C d_Automaton_measure_47 (lv' := [(5, .int s0), (0, .ref qt), (1, .ref qp0), (2, .int l2), (3, .long l3)]) (by decide) rfl (n := 49) rfl ?_
        refine go_lload_n C d_Automaton_measure_49 rfl 4 rfl (n := 50) rfl ?_
        obtain ⟨o50, ho50, hf⟩ := bindS hf
        refine go_callP C (As := [.long l3]) (rest := []) d_Automaton_measure_50 (c_Texts_lengthOf l D tc l3 ho50 (fun r w => r = some (.int o50) ∧ w = []) ⟨rfl, rfl⟩) lk_Automaton_47 mw_Texts_lengthOf ws_Texts_lengthOf rfl rfl ⟨(Nat.le_of_ble_eq_true rfl), (Nat.le_of_ble_eq_true rfl)⟩ rfl rfl (Nat.le_of_ble_eq_true rfl) ⟨(Nat.le_of_ble_eq_true rfl), (Nat.le_of_ble_eq_true rfl)⟩ (n := 53) rfl ?_
        rintro _ _ ⟨rfl, rfl⟩
        refine go_istore C d_Automaton_measure_53 (lv' := [(6, .int o50), (5, .int s0), (0, .ref qt), (1, .ref qp0), (2, .int l2), (3, .long l3)]) (by decide) rfl (n := 55) rfl ?_
        refine go_iload C d_Automaton_measure_55 1 rfl (n := 57) rfl ?_
        refine go_istore C d_Automaton_measure_57 (lv' := [(7, .int s0), (6, .int o50), (5, .int s0), (0, .ref qt), (1, .ref qp0), (2, .int l2), (3, .long l3)]) (by decide) rfl (n := 59) rfl ?_
        refine go_lv (lv' := [(0, .ref qt), (1, .ref qp0), (2, .int l2), (6, .int o50), (7, .int s0)]) [3, 4, 5, 1, 0] rfl ?_
        obtain ⟨x59, hx59, hf⟩ := bindS hf
        refine K59 l2 o50 FU v_t_states v_t_arcs v_t_starts v_t_counts v_t_lengths v_t_lowests s0 x59 hx59 ?_
        refine go_iinc C d_Automaton_measure_80 2 rfl (v := l2 + (1 : Int32)) rfl (lv' := [(2, .int (l2 + (1 : Int32))), (0, .ref qt), (1, .ref qp0)]) (by decide) rfl (n := 83) rfl ?_
        refine go_goto C d_Automaton_measure_83 (tgt := 12) (by decide) ?_
        refine go_lv (lv' := [(0, .ref qt), (1, .ref qp0), (2, .int (l2 + (1 : Int32)))]) [1, 2, 0] rfl ?_
        exact ih x59.1 x59.2.1 x59.2.2.1 x59.2.2.2.1 x59.2.2.2.2.1 x59.2.2.2.2.2 (l2 + (1 : Int32)) x hf hE
      unfold f_Automaton_measure_12b at hf
      refine go_iload_n C d_Automaton_measure_12 rfl 2 rfl (n := 13) rfl ?_
      refine go_aload_n C d_Automaton_measure_13 rfl 1 rfl (n := 14) rfl ?_
      obtain ⟨o14, ho14, hf⟩ := bindS hf
      refine go_callVr C (As := []) (rest := [.int l2]) d_Automaton_measure_14 (c_WordList_size l D tc qp0 qp0_texts qp0_costs p0_size p0_texts p0_costs ho14 (fun r w => r = some (.int o14) ∧ w = [(qp0, .inr (6, [.ref qp0_texts, .ref qp0_costs, .int p0_size])), (qp0_texts, .inl (tc 1, 24, .inr (.inl p0_texts))), (qp0_costs, .inl (tc 0, 24, .inl p0_costs))]) ⟨rfl, rfl⟩) lk_Automaton_31 mw_WordList_size sv_WordList_size 5 rfl rfl rfl rfl ⟨(Nat.le_of_ble_eq_true rfl), (Nat.le_of_ble_eq_true rfl)⟩ rfl rfl (Nat.le_of_ble_eq_true rfl) ⟨(Nat.le_of_ble_eq_true rfl), (Nat.le_of_ble_eq_true rfl)⟩ [5, 6, 7] rfl (by decide) (n := 17) rfl ?_
      have hi17 := iteS hf
      refine go_icmp_ge C d_Automaton_measure_17 (tgt := 86) (by decide) (n := 20) rfl (fun h17 => ?_) (fun h17 => ?_)
      · have hf := hi17.1 h17
        refine go_lv (lv' := []) [] rfl ?_
        cases hf
        exact hE
      · have hf := hi17.2 h17
        refine go_aload_n C d_Automaton_measure_20 rfl 1 rfl (n := 21) rfl ?_
        refine go_iload_n C d_Automaton_measure_21 rfl 2 rfl (n := 22) rfl ?_
        obtain ⟨o22, ho22, hf⟩ := bindS hf
        refine go_callVr C (As := [.int l2]) (rest := []) d_Automaton_measure_22 (c_WordList_textAt l D tc qp0 qp0_texts qp0_costs p0_size p0_texts p0_costs l2 ho22 (fun r w => r = some (.long o22) ∧ w = [(qp0, .inr (6, [.ref qp0_texts, .ref qp0_costs, .int p0_size])), (qp0_texts, .inl (tc 1, 24, .inr (.inl p0_texts))), (qp0_costs, .inl (tc 0, 24, .inl p0_costs))]) ⟨rfl, rfl⟩) lk_Automaton_37 mw_WordList_textAt sv_WordList_textAt 5 rfl rfl rfl rfl ⟨(Nat.le_of_ble_eq_true rfl), (Nat.le_of_ble_eq_true rfl)⟩ rfl rfl (Nat.le_of_ble_eq_true rfl) ⟨(Nat.le_of_ble_eq_true rfl), (Nat.le_of_ble_eq_true rfl)⟩ [5, 6, 7] rfl (by decide) (n := 25) rfl ?_
        refine go_lstore_n C d_Automaton_measure_25 rfl (lv' := [(3, .long o22), (0, .ref qt), (1, .ref qp0), (2, .int l2)]) (by decide) rfl (n := 26) rfl ?_
        refine go_iload_n C d_Automaton_measure_26 rfl 3 rfl (n := 27) rfl ?_
        have hi27 := iteS hf
        refine go_if_ne C d_Automaton_measure_27 (tgt := 34) (by decide) (n := 30) rfl (fun h27 => ?_) (fun h27 => ?_)
        · have hf := hi27.2 h27
          refine go_aload_n C d_Automaton_measure_34 rfl 2 rfl (n := 35) rfl ?_
          refine go_iload_n C d_Automaton_measure_35 rfl 3 rfl (n := 36) rfl ?_
          refine go_iconst C (v := 1) d_Automaton_measure_36 rfl (n := 37) rfl ?_
          refine go_isub C d_Automaton_measure_37 (n := 38) rfl ?_
          obtain ⟨o38, ho38, hf⟩ := bindS hf
          refine go_callVr C (As := [.int (l2 - (1 : Int32))]) (rest := []) d_Automaton_measure_38 (c_WordList_textAt l D tc qp0 qp0_texts qp0_costs p0_size p0_texts p0_costs (l2 - (1 : Int32)) ho38 (fun r w => r = some (.long o38) ∧ w = [(qp0, .inr (6, [.ref qp0_texts, .ref qp0_costs, .int p0_size])), (qp0_texts, .inl (tc 1, 24, .inr (.inl p0_texts))), (qp0_costs, .inl (tc 0, 24, .inl p0_costs))]) ⟨rfl, rfl⟩) lk_Automaton_37 mw_WordList_textAt sv_WordList_textAt 5 rfl rfl rfl rfl ⟨(Nat.le_of_ble_eq_true rfl), (Nat.le_of_ble_eq_true rfl)⟩ rfl rfl (Nat.le_of_ble_eq_true rfl) ⟨(Nat.le_of_ble_eq_true rfl), (Nat.le_of_ble_eq_true rfl)⟩ [5, 6, 7] rfl (by decide) (n := 41) rfl ?_
          refine go_lload_n C d_Automaton_measure_41 rfl 0 rfl (n := 42) rfl ?_
          obtain ⟨o42, ho42, hf⟩ := bindS hf
          refine go_callP C (As := [.long o38, .long o22]) (rest := []) d_Automaton_measure_42 (c_Texts_sharedLetters l D tc o38 o22 ho42 (fun r w => r = some (.int o42) ∧ w = []) ⟨rfl, rfl⟩) lk_Automaton_41 mw_Texts_sharedLetters ws_Texts_sharedLetters rfl rfl ⟨(Nat.le_of_ble_eq_true rfl), (Nat.le_of_ble_eq_true rfl)⟩ rfl rfl (Nat.le_of_ble_eq_true rfl) ⟨(Nat.le_of_ble_eq_true rfl), (Nat.le_of_ble_eq_true rfl)⟩ (n := 45) rfl ?_
          rintro _ _ ⟨rfl, rfl⟩
          refine go_iconst C (v := 1) d_Automaton_measure_45 rfl (n := 46) rfl ?_
          refine go_iadd C d_Automaton_measure_46 (n := 47) rfl ?_
          refine go_lv (lv' := [(0, .ref qt), (1, .ref qp0), (2, .int l2), (3, .long o22)]) [1, 2, 3, 0] rfl ?_
          exact K47 v_t_states v_t_arcs v_t_starts v_t_counts v_t_lengths v_t_lowests l2 o22 (o42 + (1 : Int32)) hf
        · have hf := hi27.1 h27
          refine go_iconst C (v := 0) d_Automaton_measure_30 rfl (n := 31) rfl ?_
          refine go_goto C d_Automaton_measure_31 (tgt := 47) (by decide) ?_
          refine go_lv (lv' := [(0, .ref qt), (1, .ref qp0), (2, .int l2), (3, .long o22)]) [1, 2, 3, 0] rfl ?_
          exact K47 v_t_states v_t_arcs v_t_starts v_t_counts v_t_lengths v_t_lowests l2 o22 (0 : Int32) hf
  unfold f_Automaton_measure at hf
  refine go_aload_n C d_Automaton_measure_0 rfl 0 rfl (n := 1) rfl ?_
  refine go_iconst C (v := 0) d_Automaton_measure_1 rfl (n := 2) rfl ?_
  refine go_put C d_Automaton_measure_2 fl_Automaton_24 (fs_Automaton 4) rfl rfl rfl 0 rfl (Nat.le_of_ble_eq_true rfl) (n := 5) rfl ?_
  refine go_aload_n C d_Automaton_measure_5 rfl 0 rfl (n := 6) rfl ?_
  refine go_iconst C (v := 0) d_Automaton_measure_6 rfl (n := 7) rfl ?_
  refine go_put C d_Automaton_measure_7 fl_Automaton_28 (fs_Automaton 5) rfl rfl rfl 0 rfl (Nat.le_of_ble_eq_true rfl) (n := 10) rfl ?_
  refine go_iconst C (v := 0) d_Automaton_measure_10 rfl (n := 11) rfl ?_
  refine go_istore_n C d_Automaton_measure_11 rfl (lv' := [(2, .int (0 : Int32)), (0, .ref qt), (1, .ref qp0)]) (by decide) rfl (n := 12) rfl ?_
  refine go_lv (lv' := [(0, .ref qt), (1, .ref qp0), (2, .int (0 : Int32))]) [1, 2, 0] rfl ?_
  obtain ⟨x12, hx12, hf⟩ := bindS hf
  refine K12 FU (0 : Int32) (0 : Int32) t_starts t_counts t_lengths t_lowests (0 : Int32) x12 hx12 ?_
  cases hf
  exact go_vret C d_Automaton_measure_86 hr hPOST

