def f_Automaton_behaveTheSame_20b (t_starts : Nat → Int32) (t_counts : Nat → Int32) (t_lengths : Nat → Int32) (t_lowests : Nat → Int32) (p0_texts : Nat → Int64) (p0_costs : Nat → Int32) (a1 : Int32) (a2 : Int32) (rec : Int32 → Option ((Unit) ⊕ (Unit))) (l4 : Int32) : Option ((Unit) ⊕ (Unit)) :=
  if okI a1 193 = true then if (t_counts a1.toNatClampNeg) ≤ l4 then some (.inl  ()) else (f_Automaton_endingAt t_starts t_lengths p0_texts a1 l4).bind (fun o36 => (f_Automaton_endingAt t_starts t_lengths p0_texts a2 l4).bind (fun o44 => if o36 = o44 then (f_Automaton_costAbove t_starts t_lowests p0_costs a1 l4).bind (fun o56 => (f_Automaton_costAbove t_starts t_lowests p0_costs a2 l4).bind (fun o64 => if o56 = o64 then rec (l4 + (1 : Int32)) else some (.inr <|  ()))) else some (.inr <|  ()))) else none
def f_Automaton_behaveTheSame_20 (t_starts : Nat → Int32) (t_counts : Nat → Int32) (t_lengths : Nat → Int32) (t_lowests : Nat → Int32) (p0_texts : Nat → Int64) (p0_costs : Nat → Int32) (a1 : Int32) (a2 : Int32) : Nat → Int32 → Option ((Unit) ⊕ (Unit))
  | 0 => fun _ => none
  | n + 1 => f_Automaton_behaveTheSame_20b t_starts t_counts t_lengths t_lowests p0_texts p0_costs a1 a2 (f_Automaton_behaveTheSame_20 t_starts t_counts t_lengths t_lowests p0_texts p0_costs a1 a2 n)
def f_Automaton_behaveTheSame (t_starts : Nat → Int32) (t_counts : Nat → Int32) (t_lengths : Nat → Int32) (t_lowests : Nat → Int32) (p0_texts : Nat → Int64) (p0_costs : Nat → Int32) (a1 : Int32) (a2 : Int32) : Option (Int32) :=
  if okI a1 193 = true then if okI a2 193 = true then if (t_counts a1.toNatClampNeg) = (t_counts a2.toNatClampNeg) then (f_Automaton_behaveTheSame_20 t_starts t_counts t_lengths t_lowests p0_texts p0_costs a1 a2 FU (0 : Int32)).bind (Sum.elim (fun x20 => some (1 : Int32)) (fun x20 => some (0 : Int32))) else some (0 : Int32) else none else none
set_option maxRecDepth 100000 in
set_option maxHeartbeats 4000000 in
theorem c_Automaton_behaveTheSame (l : Launch) (D : va_G) (tc : Nat → ClassId) (qt : Nat) (qt_starts : Nat) (qt_counts : Nat) (qt_lengths : Nat) (qt_lowests : Nat) (qp0 : Nat) (qp0_texts : Nat) (qp0_costs : Nat) (t_states : Int32) (t_arcs : Int32) (t_starts : Nat → Int32) (t_counts : Nat → Int32) (t_lengths : Nat → Int32) (t_lowests : Nat → Int32) (p0_size : Int32) (p0_texts : Nat → Int64) (p0_costs : Nat → Int32) (a1 : Int32) (a2 : Int32) {o : (Int32)} (hf : f_Automaton_behaveTheSame t_starts t_counts t_lengths t_lowests p0_texts p0_costs a1 a2 = some o) (POST : Option Value → va_W → Prop) (hPOST : POST (some (.int o)) [(qt, .inr (0, [.ref qt_starts, .ref qt_counts, .ref qt_lengths, .ref qt_lowests, .int t_states, .int t_arcs])), (qt_starts, .inl (tc 0, 193, .inl t_starts)), (qt_counts, .inl (tc 0, 193, .inl t_counts)), (qt_lengths, .inl (tc 0, 193, .inl t_lengths)), (qt_lowests, .inl (tc 0, 193, .inl t_lowests)), (qp0, .inr (6, [.ref qp0_texts, .ref qp0_costs, .int p0_size])), (qp0_texts, .inl (tc 1, 24, .inr (.inl p0_texts))), (qp0_costs, .inl (tc 0, 24, .inl p0_costs))]) : Std l y_Automaton_behaveTheSame (.code y_Automaton_behaveTheSame b_Automaton_behaveTheSame 5 (some .boolean)) { frames := 2, cells := 0, slots := 0, locals := 45 } D tc [.ref qt, .ref qp0, .int a1, .int a2] [(qt, .inr (0, [.ref qt_starts, .ref qt_counts, .ref qt_lengths, .ref qt_lowests, .int t_states, .int t_arcs])), (qt_starts, .inl (tc 0, 193, .inl t_starts)), (qt_counts, .inl (tc 0, 193, .inl t_counts)), (qt_lengths, .inl (tc 0, 193, .inl t_lengths)), (qt_lowests, .inl (tc 0, 193, .inl t_lowests)), (qp0, .inr (6, [.ref qp0_texts, .ref qp0_costs, .int p0_size])), (qp0_texts, .inl (tc 1, 24, .inr (.inl p0_texts))), (qp0_costs, .inl (tc 0, 24, .inl p0_costs))] 0 0 POST := by
  refine std_of (lv := [(0, .ref qt), (1, .ref qp0), (2, .int a1), (3, .int a2)]) (by decide) (Nat.le_of_ble_eq_true rfl) rfl (fun p e s m args below meth c A C hr hnm => ?_)
  have K20 : ∀ (n : Nat) (l4 : Int32) (x : ((Unit) ⊕ (Unit))), f_Automaton_behaveTheSame_20 t_starts t_counts t_lengths t_lowests p0_texts p0_costs a1 a2 n l4 = some x → ((∀ d, x = .inl d → Go p l e { frames := 2, cells := 0, slots := 0, locals := 45 } s m args below meth c (MQ below (Qs D A POST) args s 0 0 A) D A 5 0 0 [(qt, .inr (0, [.ref qt_starts, .ref qt_counts, .ref qt_lengths, .ref qt_lowests, .int t_states, .int t_arcs])), (qt_starts, .inl (tc 0, 193, .inl t_starts)), (qt_counts, .inl (tc 0, 193, .inl t_counts)), (qt_lengths, .inl (tc 0, 193, .inl t_lengths)), (qt_lowests, .inl (tc 0, 193, .inl t_lowests)), (qp0, .inr (6, [.ref qp0_texts, .ref qp0_costs, .int p0_size])), (qp0_texts, .inl (tc 1, 24, .inr (.inl p0_texts))), (qp0_costs, .inl (tc 0, 24, .inl p0_costs))] [] 78 []) ∧ (∀ d, x = .inr d → Go p l e { frames := 2, cells := 0, slots := 0, locals := 45 } s m args below meth c (MQ below (Qs D A POST) args s 0 0 A) D A 5 0 0 [(qt, .inr (0, [.ref qt_starts, .ref qt_counts, .ref qt_lengths, .ref qt_lowests, .int t_states, .int t_arcs])), (qt_starts, .inl (tc 0, 193, .inl t_starts)), (qt_counts, .inl (tc 0, 193, .inl t_counts)), (qt_lengths, .inl (tc 0, 193, .inl t_lengths)), (qt_lowests, .inl (tc 0, 193, .inl t_lowests)), (qp0, .inr (6, [.ref qp0_texts, .ref qp0_costs, .int p0_size])), (qp0_texts, .inl (tc 1, 24, .inr (.inl p0_texts))), (qp0_costs, .inl (tc 0, 24, .inl p0_costs))] [] 70 [])) → Go p l e { frames := 2, cells := 0, slots := 0, locals := 45 } s m args below meth c (MQ below (Qs D A POST) args s 0 0 A) D A 5 0 0 [(qt, .inr (0, [.ref qt_starts, .ref qt_counts, .ref qt_lengths, .ref qt_lowests, .int t_states, .int t_arcs])), (qt_starts, .inl (tc 0, 193, .inl t_starts)), (qt_counts, .inl (tc 0, 193, .inl t_counts)), (qt_lengths, .inl (tc 0, 193, .inl t_lengths)), (qt_lowests, .inl (tc 0, 193, .inl t_lowests)), (qp0, .inr (6, [.ref qp0_texts, .ref qp0_costs, .int p0_size])), (qp0_texts, .inl (tc 1, 24, .inr (.inl p0_texts))), (qp0_costs, .inl (tc 0, 24, .inl p0_costs))] [(0, .ref qt), (1, .ref qp0), (2, .int a1), (3, .int a2), (4, .int l4)] 20 [] := by
    intro n
    induction n with
    | zero =>
      intro l4 x hf hE
      simp [f_Automaton_behaveTheSame_20] at hf
    | succ n ih =>
      intro l4 x hf hE
      have hf : f_Automaton_behaveTheSame_20b t_starts t_counts t_lengths t_lowests p0_texts p0_costs a1 a2 (f_Automaton_behaveTheSame_20 t_starts t_counts t_lengths t_lowests p0_texts p0_costs a1 a2 n) l4 = some x := hf
      unfold f_Automaton_behaveTheSame_20b at hf
      refine go_iload C d_Automaton_behaveTheSame_20 4 rfl (n := 22) rfl ?_
      refine go_aload_n C d_Automaton_behaveTheSame_22 rfl 0 rfl (n := 23) rfl ?_
      refine go_get C d_Automaton_behaveTheSame_23 fl_Automaton_15 0 rfl rfl (n := 26) rfl ?_
      refine go_iload_n C d_Automaton_behaveTheSame_26 rfl 2 rfl (n := 27) rfl ?_
      obtain ⟨hg27, hf⟩ := guardS hf
      refine go_iald C d_Automaton_behaveTheSame_27 2 rfl hg27 (n := 28) rfl ?_
      have hi28 := iteS hf
      refine go_icmp_ge C d_Automaton_behaveTheSame_28 (tgt := 78) (by decide) (n := 31) rfl (fun h28 => ?_) (fun h28 => ?_)
      · have hf := hi28.1 h28
        refine go_lv (lv' := []) [] rfl ?_
        cases hf
        exact hE.1 _ rfl
      · have hf := hi28.2 h28
        refine go_aload_n C d_Automaton_behaveTheSame_31 rfl 0 rfl (n := 32) rfl ?_
        refine go_aload_n C d_Automaton_behaveTheSame_32 rfl 1 rfl (n := 33) rfl ?_
        refine go_iload_n C d_Automaton_behaveTheSame_33 rfl 2 rfl (n := 34) rfl ?_
        refine go_iload C d_Automaton_behaveTheSame_34 4 rfl (n := 36) rfl ?_
        obtain ⟨o36, ho36, hf⟩ := bindS hf
        refine go_callVr C (As := [.ref qp0, .int a1, .int l4]) (rest := []) d_Automaton_behaveTheSame_36 (c_Automaton_endingAt l D tc qt qt_starts qt_counts qt_lengths qt_lowests qp0 qp0_texts qp0_costs t_states t_arcs t_starts t_counts t_lengths t_lowests p0_size p0_texts p0_costs a1 l4 ho36 (fun r w => r = some (.long o36) ∧ w = [(qt, .inr (0, [.ref qt_starts, .ref qt_counts, .ref qt_lengths, .ref qt_lowests, .int t_states, .int t_arcs])), (qt_starts, .inl (tc 0, 193, .inl t_starts)), (qt_counts, .inl (tc 0, 193, .inl t_counts)), (qt_lengths, .inl (tc 0, 193, .inl t_lengths)), (qt_lowests, .inl (tc 0, 193, .inl t_lowests)), (qp0, .inr (6, [.ref qp0_texts, .ref qp0_costs, .int p0_size])), (qp0_texts, .inl (tc 1, 24, .inr (.inl p0_texts))), (qp0_costs, .inl (tc 0, 24, .inl p0_costs))]) ⟨rfl, rfl⟩) lk_Automaton_84 mw_Automaton_endingAt sv_Automaton_endingAt 0 rfl rfl rfl rfl ⟨(Nat.le_of_ble_eq_true rfl), (Nat.le_of_ble_eq_true rfl)⟩ rfl rfl (Nat.le_of_ble_eq_true rfl) ⟨(Nat.le_of_ble_eq_true rfl), (Nat.le_of_ble_eq_true rfl)⟩ [0, 1, 2, 3, 4, 5, 6, 7] rfl (by decide) (n := 39) rfl ?_
        refine go_aload_n C d_Automaton_behaveTheSame_39 rfl 0 rfl (n := 40) rfl ?_
        refine go_aload_n C d_Automaton_behaveTheSame_40 rfl 1 rfl (n := 41) rfl ?_
        refine go_iload_n C d_Automaton_behaveTheSame_41 rfl 3 rfl (n := 42) rfl ?_
        refine go_iload C d_Automaton_behaveTheSame_42 4 rfl (n := 44) rfl ?_
        obtain ⟨o44, ho44, hf⟩ := bindS hf
        refine go_callVr C (As := [.ref qp0, .int a2, .int l4]) (rest := [.long o36]) d_Automaton_behaveTheSame_44 (c_Automaton_endingAt l D tc qt qt_starts qt_counts qt_lengths qt_lowests qp0 qp0_texts qp0_costs t_states t_arcs t_starts t_counts t_lengths t_lowests p0_size p0_texts p0_costs a2 l4 ho44 (fun r w => r = some (.long o44) ∧ w = [(qt, .inr (0, [.ref qt_starts, .ref qt_counts, .ref qt_lengths, .ref qt_lowests, .int t_states, .int t_arcs])), (qt_starts, .inl (tc 0, 193, .inl t_starts)), (qt_counts, .inl (tc 0, 193, .inl t_counts)), (qt_lengths, .inl (tc 0, 193, .inl t_lengths)), (qt_lowests, .inl (tc 0, 193, .inl t_lowests)), (qp0, .inr (6, [.ref qp0_texts, .ref qp0_costs, .int p0_size])), (qp0_texts, .inl (tc 1, 24, .inr (.inl p0_texts))), (qp0_costs, .inl (tc 0, 24, .inl p0_costs))]) ⟨rfl, rfl⟩) lk_Automaton_84 mw_Automaton_endingAt sv_Automaton_endingAt 0 rfl rfl rfl rfl ⟨(Nat.le_of_ble_eq_true rfl), (Nat.le_of_ble_eq_true rfl)⟩ rfl rfl (Nat.le_of_ble_eq_true rfl) ⟨(Nat.le_of_ble_eq_true rfl), (Nat.le_of_ble_eq_true rfl)⟩ [0, 1, 2, 3, 4, 5, 6, 7] rfl (by decide) (n := 47) rfl ?_
        have hi47 := iteS hf
        refine go_lcmp_ne C d_Automaton_behaveTheSame_47 (n1 := 48) rfl d_Automaton_behaveTheSame_48 (tgt := 70) (by decide) (n := 51) rfl (fun h47 => ?_) (fun h47 => ?_)
        · have hf := hi47.2 h47
          refine go_lv (lv' := []) [] rfl ?_
          cases hf
          exact hE.2 _ rfl
        · have hf := hi47.1 h47
          refine go_aload_n C d_Automaton_behaveTheSame_51 rfl 0 rfl (n := 52) rfl ?_
          refine go_aload_n C d_Automaton_behaveTheSame_52 rfl 1 rfl (n := 53) rfl ?_
          refine go_iload_n C d_Automaton_behaveTheSame_53 rfl 2 rfl (n := 54) rfl ?_
          refine go_iload C d_Automaton_behaveTheSame_54 4 rfl (n := 56) rfl ?_
          obtain ⟨o56, ho56, hf⟩ := bindS hf
          refine go_callVr C (As := [.ref qp0, .int a1, .int l4]) (rest := []) d_Automaton_behaveTheSame_56 (c_Automaton_costAbove l D tc qt qt_starts qt_counts qt_lengths qt_lowests qp0 qp0_texts qp0_costs t_states t_arcs t_starts t_counts t_lengths t_lowests p0_size p0_texts p0_costs a1 l4 ho56 (fun r w => r = some (.int o56) ∧ w = [(qt, .inr (0, [.ref qt_starts, .ref qt_counts, .ref qt_lengths, .ref qt_lowests, .int t_states, .int t_arcs])), (qt_starts, .inl (tc 0, 193, .inl t_starts)), (qt_counts, .inl (tc 0, 193, .inl t_counts)), (qt_lengths, .inl (tc 0, 193, .inl t_lengths)), (qt_lowests, .inl (tc 0, 193, .inl t_lowests)), (qp0, .inr (6, [.ref qp0_texts, .ref qp0_costs, .int p0_size])), (qp0_texts, .inl (tc 1, 24, .inr (.inl p0_texts))), (qp0_costs, .inl (tc 0, 24, .inl p0_costs))]) ⟨rfl, rfl⟩) lk_Automaton_88 mw_Automaton_costAbove sv_Automaton_costAbove 0 rfl rfl rfl rfl ⟨(Nat.le_of_ble_eq_true rfl), (Nat.le_of_ble_eq_true rfl)⟩ rfl rfl (Nat.le_of_ble_eq_true rfl) ⟨(Nat.le_of_ble_eq_true rfl), (Nat.le_of_ble_eq_true rfl)⟩ [0, 1, 2, 3, 4, 5, 6, 7] rfl (by decide) (n := 59) rfl ?_
          refine go_aload_n C d_Automaton_behaveTheSame_59 rfl 0 rfl (n := 60) rfl ?_
          refine go_aload_n C d_Automaton_behaveTheSame_60 rfl 1 rfl (n := 61) rfl ?_
          refine go_iload_n C d_Automaton_behaveTheSame_61 rfl 3 rfl (n := 62) rfl ?_
          refine go_iload C d_Automaton_behaveTheSame_62 4 rfl (n := 64) rfl ?_
          obtain ⟨o64, ho64, hf⟩ := bindS hf
          refine go_callVr C (As := [.ref qp0, .int a2, .int l4]) (rest := [.int o56]) d_Automaton_behaveTheSame_64 (c_Automaton_costAbove l D tc qt qt_starts qt_counts qt_lengths qt_lowests qp0 qp0_texts qp0_costs t_states t_arcs t_starts t_counts t_lengths t_lowests p0_size p0_texts p0_costs a2 l4 ho64 (fun r w => r = some (.int o64) ∧ w = [(qt, .inr (0, [.ref qt_starts, .ref qt_counts, .ref qt_lengths, .ref qt_lowests, .int t_states, .int t_arcs])), (qt_starts, .inl (tc 0, 193, .inl t_starts)), (qt_counts, .inl (tc 0, 193, .inl t_counts)), (qt_lengths, .inl (tc 0, 193, .inl t_lengths)), (qt_lowests, .inl (tc 0, 193, .inl t_lowests)), (qp0, .inr (6, [.ref qp0_texts, .ref qp0_costs, .int p0_size])), (qp0_texts, .inl (tc 1, 24, .inr (.inl p0_texts))), (qp0_costs, .inl (tc 0, 24, .inl p0_costs))]) ⟨rfl, rfl⟩) lk_Automaton_88 mw_Automaton_costAbove sv_Automaton_costAbove 0 rfl rfl rfl rfl ⟨(Nat.le_of_ble_eq_true rfl), (Nat.le_of_ble_eq_true rfl)⟩ rfl rfl (Nat.le_of_ble_eq_true rfl) ⟨(Nat.le_of_ble_eq_true rfl), (Nat.le_of_ble_eq_true rfl)⟩ [0, 1, 2, 3, 4, 5, 6, 7] rfl (by decide) (n := 67) rfl ?_
          have hi67 := iteS hf
          refine go_icmp_eq C d_Automaton_behaveTheSame_67 (tgt := 72) (by decide) (n := 70) rfl (fun h67 => ?_) (fun h67 => ?_)
          · have hf := hi67.1 h67
            refine go_iinc C d_Automaton_behaveTheSame_72 4 rfl (v := l4 + (1 : Int32)) rfl (lv' := [(4, .int (l4 + (1 : Int32))), (0, .ref qt), (1, .ref qp0), (2, .int a1), (3, .int a2)]) (by decide) rfl (n := 75) rfl ?_
            refine go_goto C d_Automaton_behaveTheSame_75 (tgt := 20) (by decide) ?_
            refine go_lv (lv' := [(0, .ref qt), (1, .ref qp0), (2, .int a1), (3, .int a2), (4, .int (l4 + (1 : Int32)))]) [1, 2, 3, 4, 0] rfl ?_
            exact ih (l4 + (1 : Int32)) x hf hE
          · have hf := hi67.2 h67
            refine go_lv (lv' := []) [] rfl ?_
            cases hf
            exact hE.2 _ rfl
  unfold f_Automaton_behaveTheSame at hf
  refine go_aload_n C d_Automaton_behaveTheSame_0 rfl 0 rfl (n := 1) rfl ?_
  refine go_get C d_Automaton_behaveTheSame_1 fl_Automaton_15 0 rfl rfl (n := 4) rfl ?_
  refine go_iload_n C d_Automaton_behaveTheSame_4 rfl 2 rfl (n := 5) rfl ?_
  obtain ⟨hg5, hf⟩ := guardS hf
  refine go_iald C d_Automaton_behaveTheSame_5 2 rfl hg5 (n := 6) rfl ?_
  refine go_aload_n C d_Automaton_behaveTheSame_6 rfl 0 rfl (n := 7) rfl ?_
  refine go_get C d_Automaton_behaveTheSame_7 fl_Automaton_15 0 rfl rfl (n := 10) rfl ?_
  refine go_iload_n C d_Automaton_behaveTheSame_10 rfl 3 rfl (n := 11) rfl ?_
  obtain ⟨hg11, hf⟩ := guardS hf
  refine go_iald C d_Automaton_behaveTheSame_11 2 rfl hg11 (n := 12) rfl ?_
  have hi12 := iteS hf
  refine go_icmp_eq C d_Automaton_behaveTheSame_12 (tgt := 17) (by decide) (n := 15) rfl (fun h12 => ?_) (fun h12 => ?_)
  · have hf := hi12.1 h12
    refine go_iconst C (v := 0) d_Automaton_behaveTheSame_17 rfl (n := 18) rfl ?_
    refine go_istore C d_Automaton_behaveTheSame_18 (lv' := [(4, .int (0 : Int32)), (0, .ref qt), (1, .ref qp0), (2, .int a1), (3, .int a2)]) (by decide) rfl (n := 20) rfl ?_
    refine go_lv (lv' := [(0, .ref qt), (1, .ref qp0), (2, .int a1), (3, .int a2), (4, .int (0 : Int32))]) [1, 2, 3, 4, 0] rfl ?_
    obtain ⟨y20, hx20, hf⟩ := bindS hf
    refine K20 FU (0 : Int32) y20 hx20 ⟨fun x20 hd => ?_, fun x20 hd => ?_⟩
    · subst hd
      dsimp only [Sum.elim_inl, Sum.elim_inr] at hf
      refine go_iconst C (v := 1) d_Automaton_behaveTheSame_78 rfl (n := 79) rfl ?_
      cases hf
      exact go_zret C d_Automaton_behaveTheSame_79 hr rfl hPOST
    · subst hd
      dsimp only [Sum.elim_inl, Sum.elim_inr] at hf
      refine go_iconst C (v := 0) d_Automaton_behaveTheSame_70 rfl (n := 71) rfl ?_
      cases hf
      exact go_zret C d_Automaton_behaveTheSame_71 hr rfl hPOST
  · have hf := hi12.2 h12
    refine go_iconst C (v := 0) d_Automaton_behaveTheSame_15 rfl (n := 16) rfl ?_
    cases hf
    exact go_zret C d_Automaton_behaveTheSame_16 hr rfl hPOST

def f_Automaton_countArcs_47 (rec : Int32 → Int32 → Int32 → Option (Int32)) (t_starts : Nat → Int32) (t_counts : Nat → Int32) (t_lengths : Nat → Int32) (p0_texts : Nat → Int64) (a1 : Int32) (l3 : Int32) (l4 : Int32) (l5 : Int32) : Option (Int32) :=
  rec l3 l4 (l5 + (1 : Int32))
def f_Automaton_countArcs_8b (t_starts : Nat → Int32) (t_counts : Nat → Int32) (t_lengths : Nat → Int32) (p0_texts : Nat → Int64) (a1 : Int32) (rec : Int32 → Int32 → Int32 → Option (Int32)) (l3 : Int32) (l4 : Int32) (l5 : Int32) : Option (Int32) :=
  if okI a1 193 = true then if (t_counts a1.toNatClampNeg) ≤ l5 then some ( l3) else (f_Automaton_endingAt t_starts t_lengths p0_texts a1 l5).bind (fun o24 => (f_Texts_letterAt o24 (0 : Int32)).bind (fun o28 => if o28 = l4 then f_Automaton_countArcs_47 rec t_starts t_counts t_lengths p0_texts a1 l3 l4 l5 else f_Automaton_countArcs_47 rec t_starts t_counts t_lengths p0_texts a1 (l3 + (1 : Int32)) o28 l5)) else none
def f_Automaton_countArcs_8 (t_starts : Nat → Int32) (t_counts : Nat → Int32) (t_lengths : Nat → Int32) (p0_texts : Nat → Int64) (a1 : Int32) : Nat → Int32 → Int32 → Int32 → Option (Int32)
  | 0 => fun _ _ _ => none
  | n + 1 => f_Automaton_countArcs_8b t_starts t_counts t_lengths p0_texts a1 (f_Automaton_countArcs_8 t_starts t_counts t_lengths p0_texts a1 n)
def f_Automaton_countArcs (t_starts : Nat → Int32) (t_counts : Nat → Int32) (t_lengths : Nat → Int32) (p0_texts : Nat → Int64) (a1 : Int32) : Option (Int32) :=
  (f_Automaton_countArcs_8 t_starts t_counts t_lengths p0_texts a1 FU (0 : Int32) (0 : Int32) (0 : Int32)).bind (fun x8 => some x8)
set_option maxRecDepth 100000 in
set_option maxHeartbeats 4000000 in
theorem c_Automaton_countArcs (l : Launch) (D : va_G) (tc : Nat → ClassId) (qt : Nat) (qt_starts : Nat) (qt_counts : Nat) (qt_lengths : Nat) (qt_lowests : Nat) (qp0 : Nat) (qp0_texts : Nat) (qp0_costs : Nat) (t_states : Int32) (t_arcs : Int32) (t_starts : Nat → Int32) (t_counts : Nat → Int32) (t_lengths : Nat → Int32) (t_lowests : Nat → Int32) (p0_size : Int32) (p0_texts : Nat → Int64) (p0_costs : Nat → Int32) (a1 : Int32) {o : (Int32)} (hf : f_Automaton_countArcs t_starts t_counts t_lengths p0_texts a1 = some o) (POST : Option Value → va_W → Prop) (hPOST : POST (some (.int o)) [(qt, .inr (0, [.ref qt_starts, .ref qt_counts, .ref qt_lengths, .ref qt_lowests, .int t_states, .int t_arcs])), (qt_starts, .inl (tc 0, 193, .inl t_starts)), (qt_counts, .inl (tc 0, 193, .inl t_counts)), (qt_lengths, .inl (tc 0, 193, .inl t_lengths)), (qt_lowests, .inl (tc 0, 193, .inl t_lowests)), (qp0, .inr (6, [.ref qp0_texts, .ref qp0_costs, .int p0_size])), (qp0_texts, .inl (tc 1, 24, .inr (.inl p0_texts))), (qp0_costs, .inl (tc 0, 24, .inl p0_costs))]) : Std l y_Automaton_countArcs (.code y_Automaton_countArcs b_Automaton_countArcs 7 (some .int)) { frames := 2, cells := 0, slots := 0, locals := 45 } D tc [.ref qt, .ref qp0, .int a1] [(qt, .inr (0, [.ref qt_starts, .ref qt_counts, .ref qt_lengths, .ref qt_lowests, .int t_states, .int t_arcs])), (qt_starts, .inl (tc 0, 193, .inl t_starts)), (qt_counts, .inl (tc 0, 193, .inl t_counts)), (qt_lengths, .inl (tc 0, 193, .inl t_lengths)), (qt_lowests, .inl (tc 0, 193, .inl t_lowests)), (qp0, .inr (6, [.ref qp0_texts, .ref qp0_costs, .int p0_size])), (qp0_texts, .inl (tc 1, 24, .inr (.inl p0_texts))), (qp0_costs, .inl (tc 0, 24, .inl p0_costs))] 0 0 POST := by
  refine std_of (lv := [(0, .ref qt), (1, .ref qp0), (2, .int a1)]) (by decide) (Nat.le_of_ble_eq_true rfl) rfl (fun p e s m args below meth c A C hr hnm => ?_)
  have K8 : ∀ (n : Nat) (l3 : Int32) (l4 : Int32) (l5 : Int32) (x : (Int32)), f_Automaton_countArcs_8 t_starts t_counts t_lengths p0_texts a1 n l3 l4 l5 = some x → (Go p l e { frames := 2, cells := 0, slots := 0, locals := 45 } s m args below meth c (MQ below (Qs D A POST) args s 0 0 A) D A 7 0 0 [(qt, .inr (0, [.ref qt_starts, .ref qt_counts, .ref qt_lengths, .ref qt_lowests, .int t_states, .int t_arcs])), (qt_starts, .inl (tc 0, 193, .inl t_starts)), (qt_counts, .inl (tc 0, 193, .inl t_counts)), (qt_lengths, .inl (tc 0, 193, .inl t_lengths)), (qt_lowests, .inl (tc 0, 193, .inl t_lowests)), (qp0, .inr (6, [.ref qp0_texts, .ref qp0_costs, .int p0_size])), (qp0_texts, .inl (tc 1, 24, .inr (.inl p0_texts))), (qp0_costs, .inl (tc 0, 24, .inl p0_costs))] [(3, .int x)] 53 []) → Go p l e { frames := 2, cells := 0, slots := 0, locals := 45 } s m args below meth c (MQ below (Qs D A POST) args s 0 0 A) D A 7 0 0 [(qt, .inr (0, [.ref qt_starts, .ref qt_counts, .ref qt_lengths, .ref qt_lowests, .int t_states, .int t_arcs])), (qt_starts, .inl (tc 0, 193, .inl t_starts)), (qt_counts, .inl (tc 0, 193, .inl t_counts)), (qt_lengths, .inl (tc 0, 193, .inl t_lengths)), (qt_lowests, .inl (tc 0, 193, .inl t_lowests)), (qp0, .inr (6, [.ref qp0_texts, .ref qp0_costs, .int p0_size])), (qp0_texts, .inl (tc 1, 24, .inr (.inl p0_texts))), (qp0_costs, .inl (tc 0, 24, .inl p0_costs))] [(0, .ref qt), (1, .ref qp0), (2, .int a1), (3, .int l3), (4, .int l4), (5, .int l5)] 8 [] := by
    intro n
    induction n with
    | zero =>
      intro l3 l4 l5 x hf hE
      simp [f_Automaton_countArcs_8] at hf
    | succ n ih =>
      intro l3 l4 l5 x hf hE
      have hf : f_Automaton_countArcs_8b t_starts t_counts t_lengths p0_texts a1 (f_Automaton_countArcs_8 t_starts t_counts t_lengths p0_texts a1 n) l3 l4 l5 = some x := hf
      have K47 : ∀ (l3 : Int32) (l4 : Int32) (l5 : Int32), f_Automaton_countArcs_47 (f_Automaton_countArcs_8 t_starts t_counts t_lengths p0_texts a1 n) t_starts t_counts t_lengths p0_texts a1 l3 l4 l5 = some x → Go p l e { frames := 2, cells := 0, slots := 0, locals := 45 } s m args below meth c (MQ below (Qs D A POST) args s 0 0 A) D A 7 0 0 [(qt, .inr (0, [.ref qt_starts, .ref qt_counts, .ref qt_lengths, .ref qt_lowests, .int t_states, .int t_arcs])), (qt_starts, .inl (tc 0, 193, .inl t_starts)), (qt_counts, .inl (tc 0, 193, .inl t_counts)), (qt_lengths, .inl (tc 0, 193, .inl t_lengths)), (qt_lowests, .inl (tc 0, 193, .inl t_lowests)), (qp0, .inr (6, [.ref qp0_texts, .ref qp0_costs, .int p0_size])), (qp0_texts, .inl (tc 1, 24, .inr (.inl p0_texts))), (qp0_costs, .inl (tc 0, 24, .inl p0_costs))] [(0, .ref qt), (1, .ref qp0), (2, .int a1), (3, .int l3), (4, .int l4), (5, .int l5)] 47 [] := by
        intro l3 l4 l5 hf
        unfold f_Automaton_countArcs_47 at hf
        refine go_iinc C d_Automaton_countArcs_47 5 rfl (v := l5 + (1 : Int32)) rfl (lv' := [(5, .int (l5 + (1 : Int32))), (0, .ref qt), (1, .ref qp0), (2, .int a1), (3, .int l3), (4, .int l4)]) (by decide) rfl (n := 50) rfl ?_
        refine go_goto C d_Automaton_countArcs_50 (tgt := 8) (by decide) ?_
        refine go_lv (lv' := [(0, .ref qt), (1, .ref qp0), (2, .int a1), (3, .int l3), (4, .int l4), (5, .int (l5 + (1 : Int32)))]) [1, 2, 3, 4, 5, 0] rfl ?_
        exact ih l3 l4 (l5 + (1 : Int32)) x hf hE
      unfold f_Automaton_countArcs_8b at hf
      refine go_iload C d_Automaton_countArcs_8 5 rfl (n := 10) rfl ?_
      refine go_aload_n C d_Automaton_countArcs_10 rfl 0 rfl (n := 11) rfl ?_
      refine go_get C d_Automaton_countArcs_11 fl_Automaton_15 0 rfl rfl (n := 14) rfl ?_
      refine go_iload_n C d_Automaton_countArcs_14 rfl 2 rfl (n := 15) rfl ?_
      obtain ⟨hg15, hf⟩ := guardS hf
      refine go_iald C d_Automaton_countArcs_15 2 rfl hg15 (n := 16) rfl ?_
      have hi16 := iteS hf
      refine go_icmp_ge C d_Automaton_countArcs_16 (tgt := 53) (by decide) (n := 19) rfl (fun h16 => ?_) (fun h16 => ?_)
      · have hf := hi16.1 h16
        refine go_lv (lv' := [(3, .int l3)]) [3] rfl ?_
        cases hf
        exact hE
      · have hf := hi16.2 h16
        refine go_aload_n C d_Automaton_countArcs_19 rfl 0 rfl (n := 20) rfl ?_
        refine go_aload_n C d_Automaton_countArcs_20 rfl 1 rfl (n := 21) rfl ?_
        refine go_iload_n C d_Automaton_countArcs_21 rfl 2 rfl (n := 22) rfl ?_
        refine go_iload C d_Automaton_countArcs_22 5 rfl (n := 24) rfl ?_
        obtain ⟨o24, ho24, hf⟩ := bindS hf
        refine go_callVr C (As := [.ref qp0, .int a1, .int l5]) (rest := []) d_Automaton_countArcs_24 (c_Automaton_endingAt l D tc qt qt_starts qt_counts qt_lengths qt_lowests qp0 qp0_texts qp0_costs t_states t_arcs t_starts t_counts t_lengths t_lowests p0_size p0_texts p0_costs a1 l5 ho24 (fun r w => r = some (.long o24) ∧ w = [(qt, .inr (0, [.ref qt_starts, .ref qt_counts, .ref qt_lengths, .ref qt_lowests, .int t_states, .int t_arcs])), (qt_starts, .inl (tc 0, 193, .inl t_starts)), (qt_counts, .inl (tc 0, 193, .inl t_counts)), (qt_lengths, .inl (tc 0, 193, .inl t_lengths)), (qt_lowests, .inl (tc 0, 193, .inl t_lowests)), (qp0, .inr (6, [.ref qp0_texts, .ref qp0_costs, .int p0_size])), (qp0_texts, .inl (tc 1, 24, .inr (.inl p0_texts))), (qp0_costs, .inl (tc 0, 24, .inl p0_costs))]) ⟨rfl, rfl⟩) lk_Automaton_84 mw_Automaton_endingAt sv_Automaton_endingAt 0 rfl rfl rfl rfl ⟨(Nat.le_of_ble_eq_true rfl), (Nat.le_of_ble_eq_true rfl)⟩ rfl rfl (Nat.le_of_ble_eq_true rfl) ⟨(Nat.le_of_ble_eq_true rfl), (Nat.le_of_ble_eq_true rfl)⟩ [0, 1, 2, 3, 4, 5, 6, 7] rfl (by decide) (n := 27) rfl ?_
        refine go_iconst C (v := 0) d_Automaton_countArcs_27 rfl (n := 28) rfl ?_
        obtain ⟨o28, ho28, hf⟩ := bindS hf
        refine go_callP C (As := [.long o24, .int (0 : Int32)]) (rest := []) d_Automaton_countArcs_28 (c_Texts_letterAt l D tc o24 (0 : Int32) ho28 (fun r w => r = some (.int o28) ∧ w = []) ⟨rfl, rfl⟩) lk_Automaton_91 mw_Texts_letterAt ws_Texts_letterAt rfl rfl ⟨(Nat.le_of_ble_eq_true rfl), (Nat.le_of_ble_eq_true rfl)⟩ rfl rfl (Nat.le_of_ble_eq_true rfl) ⟨(Nat.le_of_ble_eq_true rfl), (Nat.le_of_ble_eq_true rfl)⟩ (n := 31) rfl ?_
        rintro _ _ ⟨rfl, rfl⟩
        refine go_istore C d_Automaton_countArcs_31 (lv' := [(6, .int o28), (0, .ref qt), (1, .ref qp0), (2, .int a1), (3, .int l3), (4, .int l4), (5, .int l5)]) (by decide) rfl (n := 33) rfl ?_
        refine go_iload C d_Automaton_countArcs_33 0 rfl (n := 35) rfl ?_
        refine go_iload C d_Automaton_countArcs_35 5 rfl (n := 37) rfl ?_
        have hi37 := iteS hf
        refine go_icmp_eq C d_Automaton_countArcs_37 (tgt := 47) (by decide) (n := 40) rfl (fun h37 => ?_) (fun h37 => ?_)
        · have hf := hi37.1 h37
          refine go_lv (lv' := [(0, .ref qt), (1, .ref qp0), (2, .int a1), (3, .int l3), (4, .int l4), (5, .int l5)]) [1, 2, 3, 4, 5, 6] rfl ?_
          exact K47 l3 l4 l5 hf
        · have hf := hi37.2 h37
          refine go_iinc C d_Automaton_countArcs_40 4 rfl (v := l3 + (1 : Int32)) rfl (lv' := [(3, .int (l3 + (1 : Int32))), (6, .int o28), (0, .ref qt), (1, .ref qp0), (2, .int a1), (4, .int l4), (5, .int l5)]) (by decide) rfl (n := 43) rfl ?_
          refine go_iload C d_Automaton_countArcs_43 1 rfl (n := 45) rfl ?_
          refine go_istore C d_Automaton_countArcs_45 (lv' := [(4, .int o28), (3, .int (l3 + (1 : Int32))), (6, .int o28), (0, .ref qt), (1, .ref qp0), (2, .int a1), (5, .int l5)]) (by decide) rfl (n := 47) rfl ?_
          refine go_lv (lv' := [(0, .ref qt), (1, .ref qp0), (2, .int a1), (3, .int (l3 + (1 : Int32))), (4, .int o28), (5, .int l5)]) [3, 4, 5, 1, 0, 6] rfl ?_
          exact K47 (l3 + (1 : Int32)) o28 l5 hf
  unfold f_Automaton_countArcs at hf
  refine go_iconst C (v := 0) d_Automaton_countArcs_0 rfl (n := 1) rfl ?_
  refine go_istore_n C d_Automaton_countArcs_1 rfl (lv' := [(3, .int (0 : Int32)), (0, .ref qt), (1, .ref qp0), (2, .int a1)]) (by decide) rfl (n := 2) rfl ?_
  refine go_iconst C (v := 0) d_Automaton_countArcs_2 rfl (n := 3) rfl ?_
  refine go_istore C d_Automaton_countArcs_3 (lv' := [(4, .int (0 : Int32)), (3, .int (0 : Int32)), (0, .ref qt), (1, .ref qp0), (2, .int a1)]) (by decide) rfl (n := 5) rfl ?_
  refine go_iconst C (v := 0) d_Automaton_countArcs_5 rfl (n := 6) rfl ?_
  refine go_istore C d_Automaton_countArcs_6 (lv' := [(5, .int (0 : Int32)), (4, .int (0 : Int32)), (3, .int (0 : Int32)), (0, .ref qt), (1, .ref qp0), (2, .int a1)]) (by decide) rfl (n := 8) rfl ?_
  refine go_lv (lv' := [(0, .ref qt), (1, .ref qp0), (2, .int a1), (3, .int (0 : Int32)), (4, .int (0 : Int32)), (5, .int (0 : Int32))]) [3, 4, 5, 2, 1, 0] rfl ?_
  obtain ⟨x8, hx8, hf⟩ := bindS hf
  refine K8 FU (0 : Int32) (0 : Int32) (0 : Int32) x8 hx8 ?_
  refine go_iload_n C d_Automaton_countArcs_53 rfl 0 rfl (n := 54) rfl ?_
  cases hf
  exact go_iret C d_Automaton_countArcs_54 hr hPOST
