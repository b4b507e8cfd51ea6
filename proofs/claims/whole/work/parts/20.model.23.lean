def f_M_next_4b (t_many : Nat → Int32) (a0 : Int32) (rec : (Nat → Int32) → Int32 → Option (((Nat → Int32)) ⊕ ((Nat → Int32)))) (v_t_choice : Nat → Int32) (l2 : Int32) : Option (((Nat → Int32)) ⊕ ((Nat → Int32))) :=
  if l2 < 0 then some (.inl  v_t_choice) else if okI l2 4 = true then if okI l2 4 = true then if okI l2 4 = true then if okI l2 4 = true then if (t_many l2.toNatClampNeg) ≤ ((upd v_t_choice l2.toNatClampNeg ((v_t_choice l2.toNatClampNeg) + (1 : Int32))) l2.toNatClampNeg) then if okI l2 4 = true then rec (upd (upd v_t_choice l2.toNatClampNeg ((v_t_choice l2.toNatClampNeg) + (1 : Int32))) l2.toNatClampNeg (0 : Int32)) (l2 + (-1 : Int32)) else none else some (.inr <|  (upd v_t_choice l2.toNatClampNeg ((v_t_choice l2.toNatClampNeg) + (1 : Int32)))) else none else none else none else none
def f_M_next_4 (t_many : Nat → Int32) (a0 : Int32) : Nat → (Nat → Int32) → Int32 → Option (((Nat → Int32)) ⊕ ((Nat → Int32)))
  | 0 => fun _ _ => none
  | n + 1 => f_M_next_4b t_many a0 (f_M_next_4 t_many a0 n)
def f_M_next (t_many : Nat → Int32) (t_choice : Nat → Int32) (a0 : Int32) : Option (Int32 × (Nat → Int32)) :=
  (f_M_next_4 t_many a0 FU t_choice (a0 - (1 : Int32))).bind (Sum.elim (fun x4 => some ((0 : Int32), x4)) (fun x4 => some ((1 : Int32), x4)))
set_option maxRecDepth 100000 in
set_option maxHeartbeats 4000000 in
theorem c_M_next (l : Launch) (D : va_G) (tc : Nat → ClassId) (qt : Nat) (qt_draft : Nat) (qt_weight : Nat) (qt_number : Nat) (qt_size : Nat) (qt_readers : Nat) (qt_words : Nat) (qt_costs : Nat) (qt_states : Nat) (qt_arcs : Nat) (qt_from : Nat) (qt_letters : Nat) (qt_end : Nat) (qt_lowest : Nat) (qt_key : Nat) (qt_given : Nat) (qt_keys : Nat) (qt_table : Nat) (qt_first : Nat) (qt_second : Nat) (qt_learnt : Nat) (qt_phrase : Nat) (qt_corrected : Nat) (qt_many : Nat) (qt_candidates : Nat) (qt_alone : Nat) (qt_choice : Nat) (t_thrown : Int32) (t_drafted : Int32) (t_there : Int32) (t_made : Int32) (t_beginnings : Int32) (t_givenSize : Int32) (t_pairs : Int32) (t_said : Int32) (t_answered : Int32) (t_draft : Nat → Int64) (t_weight : Nat → Int32) (t_number : Nat → Int32) (t_size : Nat → Int32) (t_readers : Nat → Int32) (t_words : Nat → Int64) (t_costs : Nat → Int32) (t_states : Nat → Int32) (t_arcs : Nat → Int32) (t_from : Nat → Int32) (t_letters : Nat → Int32) (t_end : Nat → Int32) (t_lowest : Nat → Int32) (t_key : Nat → Int64) (t_given : Nat → Int64) (t_keys : Nat → Int32) (t_table : Nat → Int32) (t_first : Nat → Int64) (t_second : Nat → Int64) (t_learnt : Nat → Int32) (t_phrase : Nat → Int64) (t_corrected : Nat → Int64) (t_many : Nat → Int32) (t_candidates : Nat → Int64) (t_alone : Nat → Int32) (t_choice : Nat → Int32) (a0 : Int32) {o : (Int32 × (Nat → Int32))} (hf : f_M_next t_many t_choice a0 = some o) (POST : Option Value → va_W → Prop) (hPOST : POST (some (.int o.1)) [(qt, .inr (8, [.int t_thrown, .int t_drafted, .ref qt_draft, .ref qt_weight, .int t_there, .int t_made, .ref qt_number, .ref qt_size, .ref qt_readers, .ref qt_words, .ref qt_costs, .ref qt_states, .ref qt_arcs, .int t_beginnings, .ref qt_from, .ref qt_letters, .ref qt_end, .ref qt_lowest, .ref qt_key, .int t_givenSize, .ref qt_given, .ref qt_keys, .ref qt_table, .int t_pairs, .ref qt_first, .ref qt_second, .ref qt_learnt, .int t_said, .ref qt_phrase, .int t_answered, .ref qt_corrected, .ref qt_many, .ref qt_candidates, .ref qt_alone, .ref qt_choice])), (qt_draft, .inl (tc 1, 24, .inr (.inl t_draft))), (qt_weight, .inl (tc 0, 24, .inl t_weight)), (qt_number, .inl (tc 0, 3, .inl t_number)), (qt_size, .inl (tc 0, 3, .inl t_size)), (qt_readers, .inl (tc 0, 3, .inl t_readers)), (qt_words, .inl (tc 1, 72, .inr (.inl t_words))), (qt_costs, .inl (tc 0, 72, .inl t_costs)), (qt_states, .inl (tc 0, 3, .inl t_states)), (qt_arcs, .inl (tc 0, 3, .inl t_arcs)), (qt_from, .inl (tc 0, 216, .inl t_from)), (qt_letters, .inl (tc 0, 216, .inl t_letters)), (qt_end, .inl (tc 0, 216, .inl t_end)), (qt_lowest, .inl (tc 0, 216, .inl t_lowest)), (qt_key, .inl (tc 1, 216, .inr (.inl t_key))), (qt_given, .inl (tc 1, 24, .inr (.inl t_given))), (qt_keys, .inl (tc 0, 24, .inl t_keys)), (qt_table, .inl (tc 0, 81, .inl t_table)), (qt_first, .inl (tc 1, 40, .inr (.inl t_first))), (qt_second, .inl (tc 1, 40, .inr (.inl t_second))), (qt_learnt, .inl (tc 0, 40, .inl t_learnt)), (qt_phrase, .inl (tc 1, 4, .inr (.inl t_phrase))), (qt_corrected, .inl (tc 1, 4, .inr (.inl t_corrected))), (qt_many, .inl (tc 0, 4, .inl t_many)), (qt_candidates, .inl (tc 1, 96, .inr (.inl t_candidates))), (qt_alone, .inl (tc 0, 96, .inl t_alone)), (qt_choice, .inl (tc 0, 4, .inl o.2))]) : Std l y_M_next (.code y_M_next b_M_next 3 (some .boolean)) { frames := 0, cells := 0, slots := 0, locals := 0 } D tc [.ref qt, .int a0] [(qt, .inr (8, [.int t_thrown, .int t_drafted, .ref qt_draft, .ref qt_weight, .int t_there, .int t_made, .ref qt_number, .ref qt_size, .ref qt_readers, .ref qt_words, .ref qt_costs, .ref qt_states, .ref qt_arcs, .int t_beginnings, .ref qt_from, .ref qt_letters, .ref qt_end, .ref qt_lowest, .ref qt_key, .int t_givenSize, .ref qt_given, .ref qt_keys, .ref qt_table, .int t_pairs, .ref qt_first, .ref qt_second, .ref qt_learnt, .int t_said, .ref qt_phrase, .int t_answered, .ref qt_corrected, .ref qt_many, .ref qt_candidates, .ref qt_alone, .ref qt_choice])), (qt_draft, .inl (tc 1, 24, .inr (.inl t_draft))), (qt_weight, .inl (tc 0, 24, .inl t_weight)), (qt_number, .inl (tc 0, 3, .inl t_number)), (qt_size, .inl (tc 0, 3, .inl t_size)), (qt_readers, .inl (tc 0, 3, .inl t_readers)), (qt_words, .inl (tc 1, 72, .inr (.inl t_words))), (qt_costs, .inl (tc 0, 72, .inl t_costs)), (qt_states, .inl (tc 0, 3, .inl t_states)), (qt_arcs, .inl (tc 0, 3, .inl t_arcs)), (qt_from, .inl (tc 0, 216, .inl t_from)), (qt_letters, .inl (tc 0, 216, .inl t_letters)), (qt_end, .inl (tc 0, 216, .inl t_end)), (qt_lowest, .inl (tc 0, 216, .inl t_lowest)), (qt_key, .inl (tc 1, 216, .inr (.inl t_key))), (qt_given, .inl (tc 1, 24, .inr (.inl t_given))), (qt_keys, .inl (tc 0, 24, .inl t_keys)), (qt_table, .inl (tc 0, 81, .inl t_table)), (qt_first, .inl (tc 1, 40, .inr (.inl t_first))), (qt_second, .inl (tc 1, 40, .inr (.inl t_second))), (qt_learnt, .inl (tc 0, 40, .inl t_learnt)), (qt_phrase, .inl (tc 1, 4, .inr (.inl t_phrase))), (qt_corrected, .inl (tc 1, 4, .inr (.inl t_corrected))), (qt_many, .inl (tc 0, 4, .inl t_many)), (qt_candidates, .inl (tc 1, 96, .inr (.inl t_candidates))), (qt_alone, .inl (tc 0, 96, .inl t_alone)), (qt_choice, .inl (tc 0, 4, .inl t_choice))] 0 0 POST := by
  refine std_of (lv := [(0, .ref qt), (1, .int a0)]) (by decide) (Nat.le_of_ble_eq_true rfl) rfl (fun p e s m args below meth c A C hr hnm => ?_)
  have K4 : ∀ (n : Nat) (v_t_choice : Nat → Int32) (l2 : Int32) (x : (((Nat → Int32)) ⊕ ((Nat → Int32)))), f_M_next_4 t_many a0 n v_t_choice l2 = some x → ((∀ d, x = .inl d → Go p l e { frames := 0, cells := 0, slots := 0, locals := 0 } s m args below meth c (MQ below (Qs D A POST) args s 0 0 A) D A 3 0 0 [(qt, .inr (8, [.int t_thrown, .int t_drafted, .ref qt_draft, .ref qt_weight, .int t_there, .int t_made, .ref qt_number, .ref qt_size, .ref qt_readers, .ref qt_words, .ref qt_costs, .ref qt_states, .ref qt_arcs, .int t_beginnings, .ref qt_from, .ref qt_letters, .ref qt_end, .ref qt_lowest, .ref qt_key, .int t_givenSize, .ref qt_given, .ref qt_keys, .ref qt_table, .int t_pairs, .ref qt_first, .ref qt_second, .ref qt_learnt, .int t_said, .ref qt_phrase, .int t_answered, .ref qt_corrected, .ref qt_many, .ref qt_candidates, .ref qt_alone, .ref qt_choice])), (qt_draft, .inl (tc 1, 24, .inr (.inl t_draft))), (qt_weight, .inl (tc 0, 24, .inl t_weight)), (qt_number, .inl (tc 0, 3, .inl t_number)), (qt_size, .inl (tc 0, 3, .inl t_size)), (qt_readers, .inl (tc 0, 3, .inl t_readers)), (qt_words, .inl (tc 1, 72, .inr (.inl t_words))), (qt_costs, .inl (tc 0, 72, .inl t_costs)), (qt_states, .inl (tc 0, 3, .inl t_states)), (qt_arcs, .inl (tc 0, 3, .inl t_arcs)), (qt_from, .inl (tc 0, 216, .inl t_from)), (qt_letters, .inl (tc 0, 216, .inl t_letters)), (qt_end, .inl (tc 0, 216, .inl t_end)), (qt_lowest, .inl (tc 0, 216, .inl t_lowest)), (qt_key, .inl (tc 1, 216, .inr (.inl t_key))), (qt_given, .inl (tc 1, 24, .inr (.inl t_given))), (qt_keys, .inl (tc 0, 24, .inl t_keys)), (qt_table, .inl (tc 0, 81, .inl t_table)), (qt_first, .inl (tc 1, 40, .inr (.inl t_first))), (qt_second, .inl (tc 1, 40, .inr (.inl t_second))), (qt_learnt, .inl (tc 0, 40, .inl t_learnt)), (qt_phrase, .inl (tc 1, 4, .inr (.inl t_phrase))), (qt_corrected, .inl (tc 1, 4, .inr (.inl t_corrected))), (qt_many, .inl (tc 0, 4, .inl t_many)), (qt_candidates, .inl (tc 1, 96, .inr (.inl t_candidates))), (qt_alone, .inl (tc 0, 96, .inl t_alone)), (qt_choice, .inl (tc 0, 4, .inl d))] [] 48 []) ∧ (∀ d, x = .inr d → Go p l e { frames := 0, cells := 0, slots := 0, locals := 0 } s m args below meth c (MQ below (Qs D A POST) args s 0 0 A) D A 3 0 0 [(qt, .inr (8, [.int t_thrown, .int t_drafted, .ref qt_draft, .ref qt_weight, .int t_there, .int t_made, .ref qt_number, .ref qt_size, .ref qt_readers, .ref qt_words, .ref qt_costs, .ref qt_states, .ref qt_arcs, .int t_beginnings, .ref qt_from, .ref qt_letters, .ref qt_end, .ref qt_lowest, .ref qt_key, .int t_givenSize, .ref qt_given, .ref qt_keys, .ref qt_table, .int t_pairs, .ref qt_first, .ref qt_second, .ref qt_learnt, .int t_said, .ref qt_phrase, .int t_answered, .ref qt_corrected, .ref qt_many, .ref qt_candidates, .ref qt_alone, .ref qt_choice])), (qt_draft, .inl (tc 1, 24, .inr (.inl t_draft))), (qt_weight, .inl (tc 0, 24, .inl t_weight)), (qt_number, .inl (tc 0, 3, .inl t_number)), (qt_size, .inl (tc 0, 3, .inl t_size)), (qt_readers, .inl (tc 0, 3, .inl t_readers)), (qt_words, .inl (tc 1, 72, .inr (.inl t_words))), (qt_costs, .inl (tc 0, 72, .inl t_costs)), (qt_states, .inl (tc 0, 3, .inl t_states)), (qt_arcs, .inl (tc 0, 3, .inl t_arcs)), (qt_from, .inl (tc 0, 216, .inl t_from)), (qt_letters, .inl (tc 0, 216, .inl t_letters)), (qt_end, .inl (tc 0, 216, .inl t_end)), (qt_lowest, .inl (tc 0, 216, .inl t_lowest)), (qt_key, .inl (tc 1, 216, .inr (.inl t_key))), (qt_given, .inl (tc 1, 24, .inr (.inl t_given))), (qt_keys, .inl (tc 0, 24, .inl t_keys)), (qt_table, .inl (tc 0, 81, .inl t_table)), (qt_first, .inl (tc 1, 40, .inr (.inl t_first))), (qt_second, .inl (tc 1, 40, .inr (.inl t_second))), (qt_learnt, .inl (tc 0, 40, .inl t_learnt)), (qt_phrase, .inl (tc 1, 4, .inr (.inl t_phrase))), (qt_corrected, .inl (tc 1, 4, .inr (.inl t_corrected))), (qt_many, .inl (tc 0, 4, .inl t_many)), (qt_candidates, .inl (tc 1, 96, .inr (.inl t_candidates))), (qt_alone, .inl (tc 0, 96, .inl t_alone)), (qt_choice, .inl (tc 0, 4, .inl d))] [] 33 [])) → Go p l e { frames := 0, cells := 0, slots := 0, locals := 0 } s m args below meth c (MQ below (Qs D A POST) args s 0 0 A) D A 3 0 0 [(qt, .inr (8, [.int t_thrown, .int t_drafted, .ref qt_draft, .ref qt_weight, .int t_there, .int t_made, .ref qt_number, .ref qt_size, .ref qt_readers, .ref qt_words, .ref qt_costs, .ref qt_states, .ref qt_arcs, .int t_beginnings, .ref qt_from, .ref qt_letters, .ref qt_end, .ref qt_lowest, .ref qt_key, .int t_givenSize, .ref qt_given, .ref qt_keys, .ref qt_table, .int t_pairs, .ref qt_first, .ref qt_second, .ref qt_learnt, .int t_said, .ref qt_phrase, .int t_answered, .ref qt_corrected, .ref qt_many, .ref qt_candidates, .ref qt_alone, .ref qt_choice])), (qt_draft, .inl (tc 1, 24, .inr (.inl t_draft))), (qt_weight, .inl (tc 0, 24, .inl t_weight)), (qt_number, .inl (tc 0, 3, .inl t_number)), (qt_size, .inl (tc 0, 3, .inl t_size)), (qt_readers, .inl (tc 0, 3, .inl t_readers)), (qt_words, .inl (tc 1, 72, .inr (.inl t_words))), (qt_costs, .inl (tc 0, 72, .inl t_costs)), (qt_states, .inl (tc 0, 3, .inl t_states)), (qt_arcs, .inl (tc 0, 3, .inl t_arcs)), (qt_from, .inl (tc 0, 216, .inl t_from)), (qt_letters, .inl (tc 0, 216, .inl t_letters)), (qt_end, .inl (tc 0, 216, .inl t_end)), (qt_lowest, .inl (tc 0, 216, .inl t_lowest)), (qt_key, .inl (tc 1, 216, .inr (.inl t_key))), (qt_given, .inl (tc 1, 24, .inr (.inl t_given))), (qt_keys, .inl (tc 0, 24, .inl t_keys)), (qt_table, .inl (tc 0, 81, .inl t_table)), (qt_first, .inl (tc 1, 40, .inr (.inl t_first))), (qt_second, .inl (tc 1, 40, .inr (.inl t_second))), (qt_learnt, .inl (tc 0, 40, .inl t_learnt)), (qt_phrase, .inl (tc 1, 4, .inr (.inl t_phrase))), (qt_corrected, .inl (tc 1, 4, .inr (.inl t_corrected))), (qt_many, .inl (tc 0, 4, .inl t_many)), (qt_candidates, .inl (tc 1, 96, .inr (.inl t_candidates))), (qt_alone, .inl (tc 0, 96, .inl t_alone)), (qt_choice, .inl (tc 0, 4, .inl v_t_choice))] [(0, .ref qt), (2, .int l2)] 4 [] := by
    intro n
    induction n with
    | zero =>
      intro v_t_choice l2 x hf hE
      simp [f_M_next_4] at hf
    | succ n ih =>
      intro v_t_choice l2 x hf hE
      have hf : f_M_next_4b t_many a0 (f_M_next_4 t_many a0 n) v_t_choice l2 = some x := hf
      unfold f_M_next_4b at hf
      refine go_iload_n C d_M_next_4 rfl 1 rfl (n := 5) rfl ?_
      have hi5 := iteS hf
      refine go_if_lt C d_M_next_5 (tgt := 48) (by decide) (n := 8) rfl (fun h5 => ?_) (fun h5 => ?_)
      · have hf := hi5.1 h5
        refine go_lv (lv' := []) [] rfl ?_
        cases hf
        exact hE.1 _ rfl
      · have hf := hi5.2 h5
        refine go_aload_n C d_M_next_8 rfl 0 rfl (n := 9) rfl ?_
        refine go_get C d_M_next_9 fl_M_86 0 rfl rfl (n := 12) rfl ?_
        refine go_iload_n C d_M_next_12 rfl 1 rfl (n := 13) rfl ?_
        refine go_dup2_11 C d_M_next_13 rfl rfl (n := 14) rfl ?_
        obtain ⟨hg14, hf⟩ := guardS hf
        refine go_iald C d_M_next_14 26 rfl hg14 (n := 15) rfl ?_
        refine go_iconst C (v := 1) d_M_next_15 rfl (n := 16) rfl ?_
        refine go_iadd C d_M_next_16 (n := 17) rfl ?_
        obtain ⟨hg17, hf⟩ := guardS hf
        refine go_iast C d_M_next_17 26 rfl hg17 (n := 18) rfl ?_
        refine go_aload_n C d_M_next_18 rfl 0 rfl (n := 19) rfl ?_
        refine go_get C d_M_next_19 fl_M_86 0 rfl rfl (n := 22) rfl ?_
        refine go_iload_n C d_M_next_22 rfl 1 rfl (n := 23) rfl ?_
        obtain ⟨hg23, hf⟩ := guardS hf
        refine go_iald C d_M_next_23 26 rfl hg23 (n := 24) rfl ?_
        refine go_aload_n C d_M_next_24 rfl 0 rfl (n := 25) rfl ?_
        refine go_get C d_M_next_25 fl_M_77 0 rfl rfl (n := 28) rfl ?_
        refine go_iload_n C d_M_next_28 rfl 1 rfl (n := 29) rfl ?_
        obtain ⟨hg29, hf⟩ := guardS hf
        refine go_iald C d_M_next_29 23 rfl hg29 (n := 30) rfl ?_
        have hi30 := iteS hf
        refine go_icmp_ge C d_M_next_30 (tgt := 35) (by decide) (n := 33) rfl (fun h30 => ?_) (fun h30 => ?_)
        · have hf := hi30.1 h30
          refine go_aload_n C d_M_next_35 rfl 0 rfl (n := 36) rfl ?_
          refine go_get C d_M_next_36 fl_M_86 0 rfl rfl (n := 39) rfl ?_
          refine go_iload_n C d_M_next_39 rfl 1 rfl (n := 40) rfl ?_
          refine go_iconst C (v := 0) d_M_next_40 rfl (n := 41) rfl ?_
          obtain ⟨hg41, hf⟩ := guardS hf
          refine go_iast C d_M_next_41 26 rfl hg41 (n := 42) rfl ?_
          refine go_iinc C d_M_next_42 1 rfl (v := l2 + (-1 : Int32)) rfl (lv' := [(2, .int (l2 + (-1 : Int32))), (0, .ref qt)]) (by decide) rfl (n := 45) rfl ?_
          refine go_goto C d_M_next_45 (tgt := 4) (by decide) ?_
          refine go_lv (lv' := [(0, .ref qt), (2, .int (l2 + (-1 : Int32)))]) [1, 0] rfl ?_
          exact ih (upd (upd v_t_choice l2.toNatClampNeg ((v_t_choice l2.toNatClampNeg) + (1 : Int32))) l2.toNatClampNeg (0 : Int32)) (l2 + (-1 : Int32)) x hf hE
        · have hf := hi30.2 h30
          refine go_lv (lv' := []) [] rfl ?_
          cases hf
          exact hE.2 _ rfl
  unfold f_M_next at hf
  refine go_iload_n C d_M_next_0 rfl 1 rfl (n := 1) rfl ?_
  refine go_iconst C (v := 1) d_M_next_1 rfl (n := 2) rfl ?_
  refine go_isub C d_M_next_2 (n := 3) rfl ?_
  refine go_istore_n C d_M_next_3 rfl (lv' := [(2, .int (a0 - (1 : Int32))), (0, .ref qt), (1, .int a0)]) (by decide) rfl (n := 4) rfl ?_
  refine go_lv (lv' := [(0, .ref qt), (2, .int (a0 - (1 : Int32)))]) [1, 0] rfl ?_
  obtain ⟨y4, hx4, hf⟩ := bindS hf
  refine K4 FU t_choice (a0 - (1 : Int32)) y4 hx4 ⟨fun x4 hd => ?_, fun x4 hd => ?_⟩
  · subst hd
    dsimp only [Sum.elim_inl, Sum.elim_inr] at hf
    refine go_iconst C (v := 0) d_M_next_48 rfl (n := 49) rfl ?_
    cases hf
    exact go_zret C d_M_next_49 hr rfl hPOST
  · subst hd
    dsimp only [Sum.elim_inl, Sum.elim_inr] at hf
    refine go_iconst C (v := 1) d_M_next_33 rfl (n := 34) rfl ?_
    cases hf
    exact go_zret C d_M_next_34 hr rfl hPOST
