def f_S_find (td0_number : Int32) (td1_number : Int32) (td2_number : Int32) (a0 : Int32) : Option (Nat) :=
  (f_Dictionary_isThere td0_number).bind (fun o13 => if o13 = 0 then (f_Dictionary_isThere td1_number).bind (fun o13 => if o13 = 0 then (f_Dictionary_isThere td2_number).bind (fun o13 => if o13 = 0 then some (3 : Nat) else (f_Dictionary_number td2_number).bind (fun o25 => if o25 = a0 then some (2 : Nat) else some (3 : Nat))) else (f_Dictionary_number td1_number).bind (fun o25 => if o25 = a0 then some (1 : Nat) else (f_Dictionary_isThere td2_number).bind (fun o13 => if o13 = 0 then some (3 : Nat) else (f_Dictionary_number td2_number).bind (fun o25 => if o25 = a0 then some (2 : Nat) else some (3 : Nat))))) else (f_Dictionary_number td0_number).bind (fun o25 => if o25 = a0 then some (0 : Nat) else (f_Dictionary_isThere td1_number).bind (fun o13 => if o13 = 0 then (f_Dictionary_isThere td2_number).bind (fun o13 => if o13 = 0 then some (3 : Nat) else (f_Dictionary_number td2_number).bind (fun o25 => if o25 = a0 then some (2 : Nat) else some (3 : Nat))) else (f_Dictionary_number td1_number).bind (fun o25 => if o25 = a0 then some (1 : Nat) else (f_Dictionary_isThere td2_number).bind (fun o13 => if o13 = 0 then some (3 : Nat) else (f_Dictionary_number td2_number).bind (fun o25 => if o25 = a0 then some (2 : Nat) else some (3 : Nat)))))))
set_option maxRecDepth 100000 in
set_option maxHeartbeats 4000000 in
theorem c_S_find (l : Launch) (D : va_G) (tc : Nat → ClassId) (qt : Nat) (qt_draft : Nat) (qt_draft_texts : Nat) (qt_draft_costs : Nat) (qt_shelf : Nat) (qtd0 : Nat) (qtd0_words : Nat) (qtd0_words_texts : Nat) (qtd0_words_costs : Nat) (qtd1 : Nat) (qtd1_words : Nat) (qtd1_words_texts : Nat) (qtd1_words_costs : Nat) (qtd2 : Nat) (qtd2_words : Nat) (qtd2_words_texts : Nat) (qtd2_words_costs : Nat) (qt_automaton : Nat) (qt_automaton_starts : Nat) (qt_automaton_counts : Nat) (qt_automaton_lengths : Nat) (qt_automaton_lowests : Nat) (qt_ruler : Nat) (qt_ruler_least : Nat) (rt_ruler_least : Nat → Nat) (qt_suggestions : Nat) (qt_suggestions_texts : Nat) (qt_suggestions_ranks : Nat) (qt_pairs : Nat) (qt_pairs_firsts : Nat) (qt_pairs_seconds : Nat) (qt_pairs_times : Nat) (qt_phrase : Nat) (qt_phrase_said : Nat) (qt_phrase_chosen : Nat) (qt_phrase_candidates : Nat) (rt_phrase_candidates : Nat → Nat) (qt_phrase_costs : Nat) (rt_phrase_costs : Nat → Nat) (qt_phrase_followers : Nat) (rt_phrase_followers : Nat → Nat) (qt_phrase_counts : Nat) (t_made : Int32) (t_draft_size : Int32) (t_draft_texts : Nat → Int64) (t_draft_costs : Nat → Int32) (td0_number : Int32) (td0_readers : Int32) (td0_states : Int32) (td0_arcs : Int32) (td0_words_size : Int32) (td0_words_texts : Nat → Int64) (td0_words_costs : Nat → Int32) (td1_number : Int32) (td1_readers : Int32) (td1_states : Int32) (td1_arcs : Int32) (td1_words_size : Int32) (td1_words_texts : Nat → Int64) (td1_words_costs : Nat → Int32) (td2_number : Int32) (td2_readers : Int32) (td2_states : Int32) (td2_arcs : Int32) (td2_words_size : Int32) (td2_words_texts : Nat → Int64) (td2_words_costs : Nat → Int32) (t_automaton_states : Int32) (t_automaton_arcs : Int32) (t_automaton_starts : Nat → Int32) (t_automaton_counts : Nat → Int32) (t_automaton_lengths : Nat → Int32) (t_automaton_lowests : Nat → Int32) (t_ruler_least : Nat → Nat → Int32) (t_suggestions_size : Int32) (t_suggestions_most : Int32) (t_suggestions_texts : Nat → Int64) (t_suggestions_ranks : Nat → Int32) (t_pairs_size : Int32) (t_pairs_firsts : Nat → Int64) (t_pairs_seconds : Nat → Int64) (t_pairs_times : Nat → Int32) (t_phrase_size : Int32) (t_phrase_chosenSize : Int32) (t_phrase_said : Nat → Int64) (t_phrase_chosen : Nat → Int64) (t_phrase_candidates : Nat → Nat → Int64) (t_phrase_costs : Nat → Nat → Int32) (t_phrase_followers : Nat → Nat → Int32) (t_phrase_counts : Nat → Int32) (a0 : Int32) {o : (Nat)} (hf : f_S_find td0_number td1_number td2_number a0 = some o) (POST : Option Value → va_W → Prop) (hPOST : POST (some (dref o qtd0 qtd1 qtd2)) [(qt, .inr (7, [.ref qt_draft, .ref qt_shelf, .ref qt_automaton, .ref qt_ruler, .ref qt_suggestions, .ref qt_pairs, .ref qt_phrase, .int t_made])), (qt_draft, .inr (6, [.ref qt_draft_texts, .ref qt_draft_costs, .int t_draft_size])), (qt_draft_texts, .inl (tc 1, 24, .inr (.inl t_draft_texts))), (qt_draft_costs, .inl (tc 0, 24, .inl t_draft_costs)), (qt_shelf, .inl (tc 2, 3, .inr (.inr (.inr (.inr (va_up (va_up (va_up (fun _ => none) 0 (some qtd0)) 1 (some qtd1)) 2 (some qtd2))))))), (qtd0, .inr (1, [.ref qtd0_words, .int td0_number, .int td0_readers, .int td0_states, .int td0_arcs])), (qtd0_words, .inr (6, [.ref qtd0_words_texts, .ref qtd0_words_costs, .int td0_words_size])), (qtd0_words_texts, .inl (tc 1, 24, .inr (.inl td0_words_texts))), (qtd0_words_costs, .inl (tc 0, 24, .inl td0_words_costs)), (qtd1, .inr (1, [.ref qtd1_words, .int td1_number, .int td1_readers, .int td1_states, .int td1_arcs])), (qtd1_words, .inr (6, [.ref qtd1_words_texts, .ref qtd1_words_costs, .int td1_words_size])), (qtd1_words_texts, .inl (tc 1, 24, .inr (.inl td1_words_texts))), (qtd1_words_costs, .inl (tc 0, 24, .inl td1_words_costs)), (qtd2, .inr (1, [.ref qtd2_words, .int td2_number, .int td2_readers, .int td2_states, .int td2_arcs])), (qtd2_words, .inr (6, [.ref qtd2_words_texts, .ref qtd2_words_costs, .int td2_words_size])), (qtd2_words_texts, .inl (tc 1, 24, .inr (.inl td2_words_texts))), (qtd2_words_costs, .inl (tc 0, 24, .inl td2_words_costs)), (qt_automaton, .inr (0, [.ref qt_automaton_starts, .ref qt_automaton_counts, .ref qt_automaton_lengths, .ref qt_automaton_lowests, .int t_automaton_states, .int t_automaton_arcs])), (qt_automaton_starts, .inl (tc 0, 193, .inl t_automaton_starts)), (qt_automaton_counts, .inl (tc 0, 193, .inl t_automaton_counts)), (qt_automaton_lengths, .inl (tc 0, 193, .inl t_automaton_lengths)), (qt_automaton_lowests, .inl (tc 0, 193, .inl t_automaton_lowests)), (qt_ruler, .inr (4, [.ref qt_ruler_least])), (qt_ruler_least, .inl (tc 3, 9, .inr (.inr (.inr (.inr (fun i => some (rt_ruler_least i))))))), (rt_ruler_least 0, .inl (tc 0, 9, .inl (t_ruler_least 0))), (rt_ruler_least 1, .inl (tc 0, 9, .inl (t_ruler_least 1))), (rt_ruler_least 2, .inl (tc 0, 9, .inl (t_ruler_least 2))), (rt_ruler_least 3, .inl (tc 0, 9, .inl (t_ruler_least 3))), (rt_ruler_least 4, .inl (tc 0, 9, .inl (t_ruler_least 4))), (rt_ruler_least 5, .inl (tc 0, 9, .inl (t_ruler_least 5))), (rt_ruler_least 6, .inl (tc 0, 9, .inl (t_ruler_least 6))), (rt_ruler_least 7, .inl (tc 0, 9, .inl (t_ruler_least 7))), (rt_ruler_least 8, .inl (tc 0, 9, .inl (t_ruler_least 8))), (qt_suggestions, .inr (5, [.ref qt_suggestions_texts, .ref qt_suggestions_ranks, .int t_suggestions_size, .int t_suggestions_most])), (qt_suggestions_texts, .inl (tc 1, 24, .inr (.inl t_suggestions_texts))), (qt_suggestions_ranks, .inl (tc 0, 24, .inl t_suggestions_ranks)), (qt_pairs, .inr (2, [.ref qt_pairs_firsts, .ref qt_pairs_seconds, .ref qt_pairs_times, .int t_pairs_size])), (qt_pairs_firsts, .inl (tc 1, 40, .inr (.inl t_pairs_firsts))), (qt_pairs_seconds, .inl (tc 1, 40, .inr (.inl t_pairs_seconds))), (qt_pairs_times, .inl (tc 0, 40, .inl t_pairs_times)), (qt_phrase, .inr (3, [.ref qt_phrase_said, .ref qt_phrase_chosen, .ref qt_phrase_candidates, .ref qt_phrase_costs, .ref qt_phrase_followers, .ref qt_phrase_counts, .int t_phrase_size, .int t_phrase_chosenSize])), (qt_phrase_said, .inl (tc 1, 4, .inr (.inl t_phrase_said))), (qt_phrase_chosen, .inl (tc 1, 4, .inr (.inl t_phrase_chosen))), (qt_phrase_candidates, .inl (tc 4, 4, .inr (.inr (.inr (.inr (fun i => some (rt_phrase_candidates i))))))), (rt_phrase_candidates 0, .inl (tc 1, 24, .inr (.inl (t_phrase_candidates 0)))), (rt_phrase_candidates 1, .inl (tc 1, 24, .inr (.inl (t_phrase_candidates 1)))), (rt_phrase_candidates 2, .inl (tc 1, 24, .inr (.inl (t_phrase_candidates 2)))), (rt_phrase_candidates 3, .inl (tc 1, 24, .inr (.inl (t_phrase_candidates 3)))), (qt_phrase_costs, .inl (tc 3, 4, .inr (.inr (.inr (.inr (fun i => some (rt_phrase_costs i))))))), (rt_phrase_costs 0, .inl (tc 0, 24, .inl (t_phrase_costs 0))), (rt_phrase_costs 1, .inl (tc 0, 24, .inl (t_phrase_costs 1))), (rt_phrase_costs 2, .inl (tc 0, 24, .inl (t_phrase_costs 2))), (rt_phrase_costs 3, .inl (tc 0, 24, .inl (t_phrase_costs 3))), (qt_phrase_followers, .inl (tc 3, 4, .inr (.inr (.inr (.inr (fun i => some (rt_phrase_followers i))))))), (rt_phrase_followers 0, .inl (tc 0, 24, .inl (t_phrase_followers 0))), (rt_phrase_followers 1, .inl (tc 0, 24, .inl (t_phrase_followers 1))), (rt_phrase_followers 2, .inl (tc 0, 24, .inl (t_phrase_followers 2))), (rt_phrase_followers 3, .inl (tc 0, 24, .inl (t_phrase_followers 3))), (qt_phrase_counts, .inl (tc 0, 4, .inl t_phrase_counts))]) : Std l y_S_find (.code y_S_find b_S_find 3 (some (.object "SuggestDesk$Dictionary"))) { frames := 1, cells := 0, slots := 0, locals := 20 } D tc [.ref qt, .int a0] [(qt, .inr (7, [.ref qt_draft, .ref qt_shelf, .ref qt_automaton, .ref qt_ruler, .ref qt_suggestions, .ref qt_pairs, .ref qt_phrase, .int t_made])), (qt_draft, .inr (6, [.ref qt_draft_texts, .ref qt_draft_costs, .int t_draft_size])), (qt_draft_texts, .inl (tc 1, 24, .inr (.inl t_draft_texts))), (qt_draft_costs, .inl (tc 0, 24, .inl t_draft_costs)), (qt_shelf, .inl (tc 2, 3, .inr (.inr (.inr (.inr (va_up (va_up (va_up (fun _ => none) 0 (some qtd0)) 1 (some qtd1)) 2 (some qtd2))))))), (qtd0, .inr (1, [.ref qtd0_words, .int td0_number, .int td0_readers, .int td0_states, .int td0_arcs])), (qtd0_words, .inr (6, [.ref qtd0_words_texts, .ref qtd0_words_costs, .int td0_words_size])), (qtd0_words_texts, .inl (tc 1, 24, .inr (.inl td0_words_texts))), (qtd0_words_costs, .inl (tc 0, 24, .inl td0_words_costs)), (qtd1, .inr (1, [.ref qtd1_words, .int td1_number, .int td1_readers, .int td1_states, .int td1_arcs])), (qtd1_words, .inr (6, [.ref qtd1_words_texts, .ref qtd1_words_costs, .int td1_words_size])), (qtd1_words_texts, .inl (tc 1, 24, .inr (.inl td1_words_texts))), (qtd1_words_costs, .inl (tc 0, 24, .inl td1_words_costs)), (qtd2, .inr (1, [.ref qtd2_words, .int td2_number, .int td2_readers, .int td2_states, .int td2_arcs])), (qtd2_words, .inr (6, [.ref qtd2_words_texts, .ref qtd2_words_costs, .int td2_words_size])), (qtd2_words_texts, .inl (tc 1, 24, .inr (.inl td2_words_texts))), (qtd2_words_costs, .inl (tc 0, 24, .inl td2_words_costs)), (qt_automaton, .inr (0, [.ref qt_automaton_starts, .ref qt_automaton_counts, .ref qt_automaton_lengths, .ref qt_automaton_lowests, .int t_automaton_states, .int t_automaton_arcs])), (qt_automaton_starts, .inl (tc 0, 193, .inl t_automaton_starts)), (qt_automaton_counts, .inl (tc 0, 193, .inl t_automaton_counts)), (qt_automaton_lengths, .inl (tc 0, 193, .inl t_automaton_lengths)), (qt_automaton_lowests, .inl (tc 0, 193, .inl t_automaton_lowests)), (qt_ruler, .inr (4, [.ref qt_ruler_least])), (qt_ruler_least, .inl (tc 3, 9, .inr (.inr (.inr (.inr (fun i => some (rt_ruler_least i))))))), (rt_ruler_least 0, .inl (tc 0, 9, .inl (t_ruler_least 0))), (rt_ruler_least 1, .inl (tc 0, 9, .inl (t_ruler_least 1))), (rt_ruler_least 2, .inl (tc 0, 9, .inl (t_ruler_least 2))), (rt_ruler_least 3, .inl (tc 0, 9, .inl (t_ruler_least 3))), (rt_ruler_least 4, .inl (tc 0, 9, .inl (t_ruler_least 4))), (rt_ruler_least 5, .inl (tc 0, 9, .inl (t_ruler_least 5))), (rt_ruler_least 6, .inl (tc 0, 9, .inl (t_ruler_least 6))), (rt_ruler_least 7, .inl (tc 0, 9, .inl (t_ruler_least 7))), (rt_ruler_least 8, .inl (tc 0, 9, .inl (t_ruler_least 8))), (qt_suggestions, .inr (5, [.ref qt_suggestions_texts, .ref qt_suggestions_ranks, .int t_suggestions_size, .int t_suggestions_most])), (qt_suggestions_texts, .inl (tc 1, 24, .inr (.inl t_suggestions_texts))), (qt_suggestions_ranks, .inl (tc 0, 24, .inl t_suggestions_ranks)), (qt_pairs, .inr (2, [.ref qt_pairs_firsts, .ref qt_pairs_seconds, .ref qt_pairs_times, .int t_pairs_size])), (qt_pairs_firsts, .inl (tc 1, 40, .inr (.inl t_pairs_firsts))), (qt_pairs_seconds, .inl (tc 1, 40, .inr (.inl t_pairs_seconds))), (qt_pairs_times, .inl (tc 0, 40, .inl t_pairs_times)), (qt_phrase, .inr (3, [.ref qt_phrase_said, .ref qt_phrase_chosen, .ref qt_phrase_candidates, .ref qt_phrase_costs, .ref qt_phrase_followers, .ref qt_phrase_counts, .int t_phrase_size, .int t_phrase_chosenSize])), (qt_phrase_said, .inl (tc 1, 4, .inr (.inl t_phrase_said))), (qt_phrase_chosen, .inl (tc 1, 4, .inr (.inl t_phrase_chosen))), (qt_phrase_candidates, .inl (tc 4, 4, .inr (.inr (.inr (.inr (fun i => some (rt_phrase_candidates i))))))), (rt_phrase_candidates 0, .inl (tc 1, 24, .inr (.inl (t_phrase_candidates 0)))), (rt_phrase_candidates 1, .inl (tc 1, 24, .inr (.inl (t_phrase_candidates 1)))), (rt_phrase_candidates 2, .inl (tc 1, 24, .inr (.inl (t_phrase_candidates 2)))), (rt_phrase_candidates 3, .inl (tc 1, 24, .inr (.inl (t_phrase_candidates 3)))), (qt_phrase_costs, .inl (tc 3, 4, .inr (.inr (.inr (.inr (fun i => some (rt_phrase_costs i))))))), (rt_phrase_costs 0, .inl (tc 0, 24, .inl (t_phrase_costs 0))), (rt_phrase_costs 1, .inl (tc 0, 24, .inl (t_phrase_costs 1))), (rt_phrase_costs 2, .inl (tc 0, 24, .inl (t_phrase_costs 2))), (rt_phrase_costs 3, .inl (tc 0, 24, .inl (t_phrase_costs 3))), (qt_phrase_followers, .inl (tc 3, 4, .inr (.inr (.inr (.inr (fun i => some (rt_phrase_followers i))))))), (rt_phrase_followers 0, .inl (tc 0, 24, .inl (t_phrase_followers 0))), (rt_phrase_followers 1, .inl (tc 0, 24, .inl (t_phrase_followers 1))), (rt_phrase_followers 2, .inl (tc 0, 24, .inl (t_phrase_followers 2))), (rt_phrase_followers 3, .inl (tc 0, 24, .inl (t_phrase_followers 3))), (qt_phrase_counts, .inl (tc 0, 4, .inl t_phrase_counts))] 0 0 POST := by
  refine std_of (lv := [(0, .ref qt), (1, .int a0)]) (by decide) (Nat.le_of_ble_eq_true rfl) rfl (fun p e s m args below meth c A C hr hnm => ?_)
  unfold f_S_find at hf
  refine go_iconst C (v := 0) d_S_find_0 rfl (n := 1) rfl ?_
  refine go_istore_n C d_S_find_1 rfl (lv' := [(2, .int (0 : Int32)), (0, .ref qt), (1, .int a0)]) (by decide) rfl (n := 2) rfl ?_
  refine go_iload_n C d_S_find_2 rfl 0 rfl (n := 3) rfl ?_
  refine go_iconst C (v := 3) d_S_find_3 rfl (n := 4) rfl ?_
  refine go_icmp_ge C d_S_find_4 (tgt := 45) (by decide) (n := 7) rfl (fun h4 => absurd h4 (by decide)) (fun h4 => ?_)
  refine go_aload_n C d_S_find_7 rfl 1 rfl (n := 8) rfl ?_
  refine go_get C d_S_find_8 fl_S_18 0 rfl rfl (n := 11) rfl ?_
  refine go_iload_n C d_S_find_11 rfl 0 rfl (n := 12) rfl ?_
  refine go_aald C d_S_find_12 4 2 rfl rfl rfl (by decide) (n := 13) rfl ?_
  obtain ⟨o13, ho13, hf⟩ := bindS hf
  refine go_callVr C (As := []) (rest := []) d_S_find_13 (c_Dictionary_isThere l D tc qtd0 qtd0_words qtd0_words_texts qtd0_words_costs td0_number td0_readers td0_states td0_arcs td0_words_size td0_words_texts td0_words_costs ho13 (fun r w => r = some (.int o13) ∧ w = [(qtd0, .inr (1, [.ref qtd0_words, .int td0_number, .int td0_readers, .int td0_states, .int td0_arcs])), (qtd0_words, .inr (6, [.ref qtd0_words_texts, .ref qtd0_words_costs, .int td0_words_size])), (qtd0_words_texts, .inl (tc 1, 24, .inr (.inl td0_words_texts))), (qtd0_words_costs, .inl (tc 0, 24, .inl td0_words_costs))]) ⟨rfl, rfl⟩) lk_S_141 mw_Dictionary_isThere sv_Dictionary_isThere 5 rfl rfl rfl rfl ⟨(Nat.le_of_ble_eq_true rfl), (Nat.le_of_ble_eq_true rfl)⟩ rfl rfl (Nat.le_of_ble_eq_true rfl) ⟨(Nat.le_of_ble_eq_true rfl), (Nat.le_of_ble_eq_true rfl)⟩ [5, 6, 7, 8] rfl (by decide) (n := 16) rfl ?_
  have hi16 := iteS hf
  refine go_if_eq C d_S_find_16 (tgt := 39) (by decide) (n := 19) rfl (fun h16 => ?_) (fun h16 => ?_)
  · have hf := hi16.1 h16
    refine go_iinc C d_S_find_39 0 rfl (v := (1 : Int32)) rfl (lv' := [(2, .int (1 : Int32)), (0, .ref qt), (1, .int a0)]) (by decide) rfl (n := 42) rfl ?_
    refine go_goto C d_S_find_42 (tgt := 2) (by decide) ?_
    refine go_iload_n C d_S_find_2 rfl 0 rfl (n := 3) rfl ?_
    refine go_iconst C (v := 3) d_S_find_3 rfl (n := 4) rfl ?_
    refine go_icmp_ge C d_S_find_4 (tgt := 45) (by decide) (n := 7) rfl (fun h4 => absurd h4 (by decide)) (fun h4 => ?_)
    refine go_aload_n C d_S_find_7 rfl 1 rfl (n := 8) rfl ?_
    refine go_get C d_S_find_8 fl_S_18 0 rfl rfl (n := 11) rfl ?_
    refine go_iload_n C d_S_find_11 rfl 0 rfl (n := 12) rfl ?_
    refine go_aald C d_S_find_12 4 2 rfl rfl rfl (by decide) (n := 13) rfl ?_
    obtain ⟨o13, ho13, hf⟩ := bindS hf
    refine go_callVr C (As := []) (rest := []) d_S_find_13 (c_Dictionary_isThere l D tc qtd1 qtd1_words qtd1_words_texts qtd1_words_costs td1_number td1_readers td1_states td1_arcs td1_words_size td1_words_texts td1_words_costs ho13 (fun r w => r = some (.int o13) ∧ w = [(qtd1, .inr (1, [.ref qtd1_words, .int td1_number, .int td1_readers, .int td1_states, .int td1_arcs])), (qtd1_words, .inr (6, [.ref qtd1_words_texts, .ref qtd1_words_costs, .int td1_words_size])), (qtd1_words_texts, .inl (tc 1, 24, .inr (.inl td1_words_texts))), (qtd1_words_costs, .inl (tc 0, 24, .inl td1_words_costs))]) ⟨rfl, rfl⟩) lk_S_141 mw_Dictionary_isThere sv_Dictionary_isThere 9 rfl rfl rfl rfl ⟨(Nat.le_of_ble_eq_true rfl), (Nat.le_of_ble_eq_true rfl)⟩ rfl rfl (Nat.le_of_ble_eq_true rfl) ⟨(Nat.le_of_ble_eq_true rfl), (Nat.le_of_ble_eq_true rfl)⟩ [9, 10, 11, 12] rfl (by decide) (n := 16) rfl ?_
    have hi16 := iteS hf
    refine go_if_eq C d_S_find_16 (tgt := 39) (by decide) (n := 19) rfl (fun h16 => ?_) (fun h16 => ?_)
    · have hf := hi16.1 h16
      refine go_iinc C d_S_find_39 0 rfl (v := (2 : Int32)) rfl (lv' := [(2, .int (2 : Int32)), (0, .ref qt), (1, .int a0)]) (by decide) rfl (n := 42) rfl ?_
      refine go_goto C d_S_find_42 (tgt := 2) (by decide) ?_
      refine go_iload_n C d_S_find_2 rfl 0 rfl (n := 3) rfl ?_
      refine go_iconst C (v := 3) d_S_find_3 rfl (n := 4) rfl ?_
      refine go_icmp_ge C d_S_find_4 (tgt := 45) (by decide) (n := 7) rfl (fun h4 => absurd h4 (by decide)) (fun h4 => ?_)
      refine go_aload_n C d_S_find_7 rfl 1 rfl (n := 8) rfl ?_
      refine go_get C d_S_find_8 fl_S_18 0 rfl rfl (n := 11) rfl ?_
      refine go_iload_n C d_S_find_11 rfl 0 rfl (n := 12) rfl ?_
      refine go_aald C d_S_find_12 4 2 rfl rfl rfl (by decide) (n := 13) rfl ?_
      obtain ⟨o13, ho13, hf⟩ := bindS hf
      refine go_callVr C (As := []) (rest := []) d_S_find_13 (c_Dictionary_isThere l D tc qtd2 qtd2_words qtd2_words_texts qtd2_words_costs td2_number td2_readers td2_states td2_arcs td2_words_size td2_words_texts td2_words_costs ho13 (fun r w => r = some (.int o13) ∧ w = [(qtd2, .inr (1, [.ref qtd2_words, .int td2_number, .int td2_readers, .int td2_states, .int td2_arcs])), (qtd2_words, .inr (6, [.ref qtd2_words_texts, .ref qtd2_words_costs, .int td2_words_size])), (qtd2_words_texts, .inl (tc 1, 24, .inr (.inl td2_words_texts))), (qtd2_words_costs, .inl (tc 0, 24, .inl td2_words_costs))]) ⟨rfl, rfl⟩) lk_S_141 mw_Dictionary_isThere sv_Dictionary_isThere 13 rfl rfl rfl rfl ⟨(Nat.le_of_ble_eq_true rfl), (Nat.le_of_ble_eq_true rfl)⟩ rfl rfl (Nat.le_of_ble_eq_true rfl) ⟨(Nat.le_of_ble_eq_true rfl), (Nat.le_of_ble_eq_true rfl)⟩ [13, 14, 15, 16] rfl (by decide) (n := 16) rfl ?_
      have hi16 := iteS hf
      refine go_if_eq C d_S_find_16 (tgt := 39) (by decide) (n := 19) rfl (fun h16 => ?_) (fun h16 => ?_)
      · have hf := hi16.1 h16
        refine go_iinc C d_S_find_39 0 rfl (v := (3 : Int32)) rfl (lv' := [(2, .int (3 : Int32)), (0, .ref qt), (1, .int a0)]) (by decide) rfl (n := 42) rfl ?_
        refine go_goto C d_S_find_42 (tgt := 2) (by decide) ?_
        refine go_iload_n C d_S_find_2 rfl 0 rfl (n := 3) rfl ?_
        refine go_iconst C (v := 3) d_S_find_3 rfl (n := 4) rfl ?_
        refine go_icmp_ge C d_S_find_4 (tgt := 45) (by decide) (n := 7) rfl (fun h4 => ?_) (fun h4 => absurd h4 (by decide))
        refine go_null C d_S_find_45 (n := 46) rfl ?_
        cases hf
        exact go_aret C d_S_find_46 hr (Or.inl ⟨_, rfl⟩) (Or.inl rfl) hPOST
      · have hf := hi16.2 h16
        refine go_aload_n C d_S_find_19 rfl 1 rfl (n := 20) rfl ?_
        refine go_get C d_S_find_20 fl_S_18 0 rfl rfl (n := 23) rfl ?_
        refine go_iload_n C d_S_find_23 rfl 0 rfl (n := 24) rfl ?_
        refine go_aald C d_S_find_24 4 2 rfl rfl rfl (by decide) (n := 25) rfl ?_
        obtain ⟨o25, ho25, hf⟩ := bindS hf
        refine go_callVr C (As := []) (rest := []) d_S_find_25 (c_Dictionary_number l D tc qtd2 qtd2_words qtd2_words_texts qtd2_words_costs td2_number td2_readers td2_states td2_arcs td2_words_size td2_words_texts td2_words_costs ho25 (fun r w => r = some (.int o25) ∧ w = [(qtd2, .inr (1, [.ref qtd2_words, .int td2_number, .int td2_readers, .int td2_states, .int td2_arcs])), (qtd2_words, .inr (6, [.ref qtd2_words_texts, .ref qtd2_words_costs, .int td2_words_size])), (qtd2_words_texts, .inl (tc 1, 24, .inr (.inl td2_words_texts))), (qtd2_words_costs, .inl (tc 0, 24, .inl td2_words_costs))]) ⟨rfl, rfl⟩) lk_S_231 mw_Dictionary_number sv_Dictionary_number 13 rfl rfl rfl rfl ⟨(Nat.le_of_ble_eq_true rfl), (Nat.le_of_ble_eq_true rfl)⟩ rfl rfl (Nat.le_of_ble_eq_true rfl) ⟨(Nat.le_of_ble_eq_true rfl), (Nat.le_of_ble_eq_true rfl)⟩ [13, 14, 15, 16] rfl (by decide) (n := 28) rfl ?_
        refine go_iload_n C d_S_find_28 rfl 2 rfl (n := 29) rfl ?_
        have hi29 := iteS hf
        refine go_icmp_ne C d_S_find_29 (tgt := 39) (by decide) (n := 32) rfl (fun h29 => ?_) (fun h29 => ?_)
        · have hf := hi29.2 h29
          refine go_iinc C d_S_find_39 0 rfl (v := (3 : Int32)) rfl (lv' := [(2, .int (3 : Int32)), (0, .ref qt), (1, .int a0)]) (by decide) rfl (n := 42) rfl ?_
          refine go_goto C d_S_find_42 (tgt := 2) (by decide) ?_
          refine go_iload_n C d_S_find_2 rfl 0 rfl (n := 3) rfl ?_
          refine go_iconst C (v := 3) d_S_find_3 rfl (n := 4) rfl ?_
          refine go_icmp_ge C d_S_find_4 (tgt := 45) (by decide) (n := 7) rfl (fun h4 => ?_) (fun h4 => absurd h4 (by decide))
          refine go_null C d_S_find_45 (n := 46) rfl ?_
          cases hf
          exact go_aret C d_S_find_46 hr (Or.inl ⟨_, rfl⟩) (Or.inl rfl) hPOST
        · have hf := hi29.1 h29
          refine go_aload_n C d_S_find_32 rfl 1 rfl (n := 33) rfl ?_
          refine go_get C d_S_find_33 fl_S_18 0 rfl rfl (n := 36) rfl ?_
          refine go_iload_n C d_S_find_36 rfl 0 rfl (n := 37) rfl ?_
          refine go_aald C d_S_find_37 4 2 rfl rfl rfl (by decide) (n := 38) rfl ?_
          cases hf
          exact go_aret C d_S_find_38 hr (Or.inl ⟨_, rfl⟩) (Or.inr ⟨_, rfl⟩) hPOST
    · have hf := hi16.2 h16
      refine go_aload_n C d_S_find_19 rfl 1 rfl (n := 20) rfl ?_
      refine go_get C d_S_find_20 fl_S_18 0 rfl rfl (n := 23) rfl ?_
      refine go_iload_n C d_S_find_23 rfl 0 rfl (n := 24) rfl ?_
      refine go_aald C d_S_find_24 4 2 rfl rfl rfl (by decide) (n := 25) rfl ?_
      obtain ⟨o25, ho25, hf⟩ := bindS hf
      refine go_callVr C (As := []) (rest := []) d_S_find_25 (c_Dictionary_number l D tc qtd1 qtd1_words qtd1_words_texts qtd1_words_costs td1_number td1_readers td1_states td1_arcs td1_words_size td1_words_texts td1_words_costs ho25 (fun r w => r = some (.int o25) ∧ w = [(qtd1, .inr (1, [.ref qtd1_words, .int td1_number, .int td1_readers, .int td1_states, .int td1_arcs])), (qtd1_words, .inr (6, [.ref qtd1_words_texts, .ref qtd1_words_costs, .int td1_words_size])), (qtd1_words_texts, .inl (tc 1, 24, .inr (.inl td1_words_texts))), (qtd1_words_costs, .inl (tc 0, 24, .inl td1_words_costs))]) ⟨rfl, rfl⟩) lk_S_231 mw_Dictionary_number sv_Dictionary_number 9 rfl rfl rfl rfl ⟨(Nat.le_of_ble_eq_true rfl), (Nat.le_of_ble_eq_true rfl)⟩ rfl rfl (Nat.le_of_ble_eq_true rfl) ⟨(Nat.le_of_ble_eq_true rfl), (Nat.le_of_ble_eq_true rfl)⟩ [9, 10, 11, 12] rfl (by decide) (n := 28) rfl ?_
      refine go_iload_n C d_S_find_28 rfl 2 rfl (n := 29) rfl ?_
      have hi29 := iteS hf
      refine go_icmp_ne C d_S_find_29 (tgt := 39) (by decide) (n := 32) rfl (fun h29 => ?_) (fun h29 => ?_)
      · have hf := hi29.2 h29
        refine go_iinc C d_S_find_39 0 rfl (v := (2 : Int32)) rfl (lv' := [(2, .int (2 : Int32)), (0, .ref qt), (1, .int a0)]) (by decide) rfl (n := 42) rfl ?_
        refine go_goto C d_S_find_42 (tgt := 2) (by decide) ?_
        refine go_iload_n C d_S_find_2 rfl 0 rfl (n := 3) rfl ?_
        refine go_iconst C (v := 3) d_S_find_3 rfl (n := 4) rfl ?_
        refine go_icmp_ge C d_S_find_4 (tgt := 45) (by decide) (n := 7) rfl (fun h4 => absurd h4 (by decide)) (fun h4 => ?_)
        refine go_aload_n C d_S_find_7 rfl 1 rfl (n := 8) rfl ?_
        refine go_get C d_S_find_8 fl_S_18 0 rfl rfl (n := 11) rfl ?_
        refine go_iload_n C d_S_find_11 rfl 0 rfl (n := 12) rfl ?_
        refine go_aald C d_S_find_12 4 2 rfl rfl rfl (by decide) (n := 13) rfl ?_
        obtain ⟨o13, ho13, hf⟩ := bindS hf
        refine go_callVr C (As := []) (rest := []) d_S_find_13 (c_Dictionary_isThere l D tc qtd2 qtd2_words qtd2_words_texts qtd2_words_costs td2_number td2_readers td2_states td2_arcs td2_words_size td2_words_texts td2_words_costs ho13 (fun r w => r = some (.int o13) ∧ w = [(qtd2, .inr (1, [.ref qtd2_words, .int td2_number, .int td2_readers, .int td2_states, .int td2_arcs])), (qtd2_words, .inr (6, [.ref qtd2_words_texts, .ref qtd2_words_costs, .int td2_words_size])), (qtd2_words_texts, .inl (tc 1, 24, .inr (.inl td2_words_texts))), (qtd2_words_costs, .inl (tc 0, 24, .inl td2_words_costs))]) ⟨rfl, rfl⟩) lk_S_141 mw_Dictionary_isThere sv_Dictionary_isThere 13 rfl rfl rfl rfl ⟨(Nat.le_of_ble_eq_true rfl), (Nat.le_of_ble_eq_true rfl)⟩ rfl rfl (Nat.le_of_ble_eq_true rfl) ⟨(Nat.le_of_ble_eq_true rfl), (Nat.le_of_ble_eq_true rfl)⟩ [13, 14, 15, 16] rfl (by decide) (n := 16) rfl ?_
        have hi16 := iteS hf
        refine go_if_eq C d_S_find_16 (tgt := 39) (by decide) (n := 19) rfl (fun h16 => ?_) (fun h16 => ?_)
        · have hf := hi16.1 h16
          refine go_iinc C d_S_find_39 0 rfl (v := (3 : Int32)) rfl (lv' := [(2, .int (3 : Int32)), (0, .ref qt), (1, .int a0)]) (by decide) rfl (n := 42) rfl ?_
          refine go_goto C d_S_find_42 (tgt := 2) (by decide) ?_
          refine go_iload_n C d_S_find_2 rfl 0 rfl (n := 3) rfl ?_
          refine go_iconst C (v := 3) d_S_find_3 rfl (n := 4) rfl ?_
          refine go_icmp_ge C d_S_find_4 (tgt := 45) (by decide) (n := 7) rfl (fun h4 => ?_) (fun h4 => absurd h4 (by decide))
          refine go_null C d_S_find_45 (n := 46) rfl ?_
          cases hf
          exact go_aret C d_S_find_46 hr (Or.inl ⟨_, rfl⟩) (Or.inl rfl) hPOST
        · have hf := hi16.2 h16
          refine go_aload_n C d_S_find_19 rfl 1 rfl (n := 20) rfl ?_
          refine go_get C d_S_find_20 fl_S_18 0 rfl rfl (n := 23) rfl ?_
          refine go_iload_n C d_S_find_23 rfl 0 rfl (n := 24) rfl ?_
          refine go_aald C d_S_find_24 4 2 rfl rfl rfl (by decide) (n := 25) rfl ?_
          obtain ⟨o25, ho25, hf⟩ := bindS hf
          refine go_callVr C (As := []) (rest := []) d_S_find_25 (c_Dictionary_number l D tc qtd2 qtd2_words qtd2_words_texts qtd2_words_costs td2_number td2_readers td2_states td2_arcs td2_words_size td2_words_texts td2_words_costs ho25 (fun r w => r = some (.int o25) ∧ w = [(qtd2, .inr (1, [.ref qtd2_words, .int td2_number, .int td2_readers, .int td2_states, .int td2_arcs])), (qtd2_words, .inr (6, [.ref qtd2_words_texts, .ref qtd2_words_costs, .int td2_words_size])), (qtd2_words_texts, .inl (tc 1, 24, .inr (.inl td2_words_texts))), (qtd2_words_costs, .inl (tc 0, 24, .inl td2_words_costs))]) ⟨rfl, rfl⟩) lk_S_231 mw_Dictionary_number sv_Dictionary_number 13 rfl rfl rfl rfl ⟨(Nat.le_of_ble_eq_true rfl), (Nat.le_of_ble_eq_true rfl)⟩ rfl rfl (Nat.le_of_ble_eq_true rfl) ⟨(Nat.le_of_ble_eq_true rfl), (Nat.le_of_ble_eq_true rfl)⟩ [13, 14, 15, 16] rfl (by decide) (n := 28) rfl ?_
          refine go_iload_n C d_S_find_28 rfl 2 rfl (n := 29) rfl ?_
          have hi29 := iteS hf
          refine go_icmp_ne C d_S_find_29 (tgt := 39) (by decide) (n := 32) rfl (fun h29 => ?_) (fun h29 => ?_)
          · have hf := hi29.2 h29
            refine go_iinc C d_S_find_39 0 rfl (v := (3 : Int32)) rfl (lv' := [(2, .int (3 : Int32)), (0, .ref qt), (1, .int a0)]) (by decide) rfl (n := 42) rfl ?_
            refine go_goto C d_S_find_42 (tgt := 2) (by decide) ?_
            refine go_iload_n C d_S_find_2 rfl 0 rfl (n := 3) rfl ?_
            refine go_iconst C (v := 3) d_S_find_3 rfl (n := 4) rfl ?_
            refine go_icmp_ge C d_S_find_4 (tgt := 45) (by decide) (n := 7) rfl (fun h4 => ?_) (fun h4 => absurd h4 (by decide))
            refine go_null C d_S_find_45 (n := 46) rfl ?_
            cases hf
            exact go_aret C d_S_find_46 hr (Or.inl ⟨_, rfl⟩) (Or.inl rfl) hPOST
          · have hf := hi29.1 h29
            refine go_aload_n C d_S_find_32 rfl 1 rfl (n := 33) rfl ?_
            refine go_get C d_S_find_33 fl_S_18 0 rfl rfl (n := 36) rfl ?_
            refine go_iload_n C d_S_find_36 rfl 0 rfl (n := 37) rfl ?_
            refine go_aald C d_S_find_37 4 2 rfl rfl rfl (by decide) (n := 38) rfl ?_
            cases hf
            exact go_aret C d_S_find_38 hr (Or.inl ⟨_, rfl⟩) (Or.inr ⟨_, rfl⟩) hPOST
      · have hf := hi29.1 h29
        refine go_aload_n C d_S_find_32 rfl 1 rfl (n := 33) rfl ?_
        refine go_get C d_S_find_33 fl_S_18 0 rfl rfl (n := 36) rfl ?_
        refine go_iload_n C d_S_find_36 rfl 0 rfl (n := 37) rfl ?_
        refine go_aald C d_S_find_37 4 2 rfl rfl rfl (by decide) (n := 38) rfl ?_
        cases hf
        exact go_aret C d_S_find_38 hr (Or.inl ⟨_, rfl⟩) (Or.inr ⟨_, rfl⟩) hPOST
  · have hf := hi16.2 h16
    refine go_aload_n C d_S_find_19 rfl 1 rfl (n := 20) rfl ?_
    refine go_get C d_S_find_20 fl_S_18 0 rfl rfl (n := 23) rfl ?_
    refine go_iload_n C d_S_find_23 rfl 0 rfl (n := 24) rfl ?_
    refine go_aald C d_S_find_24 4 2 rfl rfl rfl (by decide) (n := 25) rfl ?_
    obtain ⟨o25, ho25, hf⟩ := bindS hf
    refine go_callVr C (As := []) (rest := []) d_S_find_25 (c_Dictionary_number l D tc qtd0 qtd0_words qtd0_words_texts qtd0_words_costs td0_number td0_readers td0_states td0_arcs td0_words_size td0_words_texts td0_words_costs ho25 (fun r w => r = some (.int o25) ∧ w = [(qtd0, .inr (1, [.ref qtd0_words, .int td0_number, .int td0_readers, .int td0_states, .int td0_arcs])), (qtd0_words, .inr (6, [.ref qtd0_words_texts, .ref qtd0_words_costs, .int td0_words_size])), (qtd0_words_texts, .inl (tc 1, 24, .inr (.inl td0_words_texts))), (qtd0_words_costs, .inl (tc 0, 24, .inl td0_words_costs))]) ⟨rfl, rfl⟩) lk_S_231 mw_Dictionary_number sv_Dictionary_number 5 rfl rfl rfl rfl ⟨(Nat.le_of_ble_eq_true rfl), (Nat.le_of_ble_eq_true rfl)⟩ rfl rfl (Nat.le_of_ble_eq_true rfl) ⟨(Nat.le_of_ble_eq_true rfl), (Nat.le_of_ble_eq_true rfl)⟩ [5, 6, 7, 8] rfl (by decide) (n := 28) rfl ?_
    refine go_iload_n C d_S_find_28 rfl 2 rfl (n := 29) rfl ?_
    have hi29 := iteS hf
    refine go_icmp_ne C d_S_find_29 (tgt := 39) (by decide) (n := 32) rfl (fun h29 => ?_) (fun h29 => ?_)
    · have hf := hi29.2 h29
      refine go_iinc C d_S_find_39 0 rfl (v := (1 : Int32)) rfl (lv' := [(2, .int (1 : Int32)), (0, .ref qt), (1, .int a0)]) (by decide) rfl (n := 42) rfl ?_
      refine go_goto C d_S_find_42 (tgt := 2) (by decide) ?_
      refine go_iload_n C d_S_find_2 rfl 0 rfl (n := 3) rfl ?_
      refine go_iconst C (v := 3) d_S_find_3 rfl (n := 4) rfl ?_
      refine go_icmp_ge C d_S_find_4 (tgt := 45) (by decide) (n := 7) rfl (fun h4 => absurd h4 (by decide)) (fun h4 => ?_)
      refine go_aload_n C d_S_find_7 rfl 1 rfl (n := 8) rfl ?_
      refine go_get C d_S_find_8 fl_S_18 0 rfl rfl (n := 11) rfl ?_
      refine go_iload_n C d_S_find_11 rfl 0 rfl (n := 12) rfl ?_
      refine go_aald C d_S_find_12 4 2 rfl rfl rfl (by decide) (n := 13) rfl ?_
      obtain ⟨o13, ho13, hf⟩ := bindS hf
      refine go_callVr C (As := []) (rest := []) d_S_find_13 (c_Dictionary_isThere l D tc qtd1 qtd1_words qtd1_words_texts qtd1_words_costs td1_number td1_readers td1_states td1_arcs td1_words_size td1_words_texts td1_words_costs ho13 (fun r w => r = some (.int o13) ∧ w = [(qtd1, .inr (1, [.ref qtd1_words, .int td1_number, .int td1_readers, .int td1_states, .int td1_arcs])), (qtd1_words, .inr (6, [.ref qtd1_words_texts, .ref qtd1_words_costs, .int td1_words_size])), (qtd1_words_texts, .inl (tc 1, 24, .inr (.inl td1_words_texts))), (qtd1_words_costs, .inl (tc 0, 24, .inl td1_words_costs))]) ⟨rfl, rfl⟩) lk_S_141 mw_Dictionary_isThere sv_Dictionary_isThere 9 rfl rfl rfl rfl ⟨(Nat.le_of_ble_eq_true rfl), (Nat.le_of_ble_eq_true rfl)⟩ rfl rfl (Nat.le_of_ble_eq_true rfl) ⟨(Nat.le_of_ble_eq_true rfl), (Nat.le_of_ble_eq_true rfl)⟩ [9, 10, 11, 12] rfl (by decide) (n := 16) rfl ?_
      have hi16 := iteS hf
      refine go_if_eq C d_S_find_16 (tgt := 39) (by decide) (n := 19) rfl (fun h16 => ?_) (fun h16 => ?_)
      · have hf := hi16.1 h16
        refine go_iinc C d_S_find_39 0 rfl (v := (2 : Int32)) rfl (lv' := [(2, .int (2 : Int32)), (0, .ref qt), (1, .int a0)]) (by decide) rfl (n := 42) rfl ?_
        refine go_goto C d_S_find_42 (tgt := 2) (by decide) ?_
        refine go_iload_n C d_S_find_2 rfl 0 rfl (n := 3) rfl ?_
        refine go_iconst C (v := 3) d_S_find_3 rfl (n := 4) rfl ?_
        refine go_icmp_ge C d_S_find_4 (tgt := 45) (by decide) (n := 7) rfl (fun h4 => absurd h4 (by decide)) (fun h4 => ?_)
        refine go_aload_n C d_S_find_7 rfl 1 rfl (n := 8) rfl ?_
        refine go_get C d_S_find_8 fl_S_18 0 rfl rfl (n := 11) rfl ?_
        refine go_iload_n C d_S_find_11 rfl 0 rfl (n := 12) rfl ?_
        refine go_aald C d_S_find_12 4 2 rfl rfl rfl (by decide) (n := 13) rfl ?_
        obtain ⟨o13, ho13, hf⟩ := bindS hf
        refine go_callVr C (As := []) (rest := []) d_S_find_13 (c_Dictionary_isThere l D tc qtd2 qtd2_words qtd2_words_texts qtd2_words_costs td2_number td2_readers td2_states td2_arcs td2_words_size td2_words_texts td2_words_costs ho13 (fun r w => r = some (.int o13) ∧ w = [(qtd2, .inr (1, [.ref qtd2_words, .int td2_number, .int td2_readers, .int td2_states, .int td2_arcs])), (qtd2_words, .inr (6, [.ref qtd2_words_texts, .ref qtd2_words_costs, .int td2_words_size])), (qtd2_words_texts, .inl (tc 1, 24, .inr (.inl td2_words_texts))), (qtd2_words_costs, .inl (tc 0, 24, .inl td2_words_costs))]) ⟨rfl, rfl⟩) lk_S_141 mw_Dictionary_isThere sv_Dictionary_isThere 13 rfl rfl rfl rfl ⟨(Nat.le_of_ble_eq_true rfl), (Nat.le_of_ble_eq_true rfl)⟩ rfl rfl (Nat.le_of_ble_eq_true rfl) ⟨(Nat.le_of_ble_eq_true rfl), (Nat.le_of_ble_eq_true rfl)⟩ [13, 14, 15, 16] rfl (by decide) (n := 16) rfl ?_
        have hi16 := iteS hf
        refine go_if_eq C d_S_find_16 (tgt := 39) (by decide) (n := 19) rfl (fun h16 => ?_) (fun h16 => ?_)
        · have hf := hi16.1 h16
          refine go_iinc C d_S_find_39 0 rfl (v := (3 : Int32)) rfl (lv' := [(2, .int (3 : Int32)), (0, .ref qt), (1, .int a0)]) (by decide) rfl (n := 42) rfl ?_
          refine go_goto C d_S_find_42 (tgt := 2) (by decide) ?_
          refine go_iload_n C d_S_find_2 rfl 0 rfl (n := 3) rfl ?_
          refine go_iconst C (v := 3) d_S_find_3 rfl (n := 4) rfl ?_
          refine go_icmp_ge C d_S_find_4 (tgt := 45) (by decide) (n := 7) rfl (fun h4 => ?_) (fun h4 => absurd h4 (by decide))
          refine go_null C d_S_find_45 (n := 46) rfl ?_
          cases hf
          exact go_aret C d_S_find_46 hr (Or.inl ⟨_, rfl⟩) (Or.inl rfl) hPOST
        · have hf := hi16.2 h16
          refine go_aload_n C d_S_find_19 rfl 1 rfl (n := 20) rfl ?_
          refine go_get C d_S_find_20 fl_S_18 0 rfl rfl (n := 23) rfl ?_
          refine go_iload_n C d_S_find_23 rfl 0 rfl (n := 24) rfl ?_
          refine go_aald C d_S_find_24 4 2 rfl rfl rfl (by decide) (n := 25) rfl ?_
          obtain ⟨o25, ho25, hf⟩ := bindS hf
          refine go_callVr C (As := []) (rest := []) d_S_find_25 (c_Dictionary_number l D tc qtd2 qtd2_words qtd2_words_texts qtd2_words_costs td2_number td2_readers td2_states td2_arcs td2_words_size td2_words_texts td2_words_costs ho25 (fun r w => r = some (.int o25) ∧ w = [(qtd2, .inr (1, [.ref qtd2_words, .int td2_number, .int td2_readers, .int td2_states, .int td2_arcs])), (qtd2_words, .inr (6, [.ref qtd2_words_texts, .ref qtd2_words_costs, .int td2_words_size])), (qtd2_words_texts, .inl (tc 1, 24, .inr (.inl td2_words_texts))), (qtd2_words_costs, .inl (tc 0, 24, .inl td2_words_costs))]) ⟨rfl, rfl⟩) lk_S_231 mw_Dictionary_number sv_Dictionary_number 13 rfl rfl rfl rfl ⟨(Nat.le_of_ble_eq_true rfl), (Nat.le_of_ble_eq_true rfl)⟩ rfl rfl (Nat.le_of_ble_eq_true rfl) ⟨(Nat.le_of_ble_eq_true rfl), (Nat.le_of_ble_eq_true rfl)⟩ [13, 14, 15, 16] rfl (by decide) (n := 28) rfl ?_
          refine go_iload_n C d_S_find_28 rfl 2 rfl (n := 29) rfl ?_
          have hi29 := iteS hf
          refine go_icmp_ne C d_S_find_29 (tgt := 39) (by decide) (n := 32) rfl (fun h29 => ?_) (fun h29 => ?_)
          · have hf := hi29.2 h29
            refine go_iinc C d_S_find_39 0 rfl (v := (3 : Int32)) rfl (lv' := [(2, .int (3 : Int32)), (0, .ref qt), (1, .int a0)]) (by decide) rfl (n := 42) rfl ?_
            refine go_goto C d_S_find_42 (tgt := 2) (by decide) ?_
            refine go_iload_n C d_S_find_2 rfl 0 rfl (n := 3) rfl ?_
            refine go_iconst C (v := 3) d_S_find_3 rfl (n := 4) rfl ?_
            refine go_icmp_ge C d_S_find_4 (tgt := 45) (by decide) (n := 7) rfl (fun h4 => ?_) (fun h4 => absurd h4 (by decide))
            refine go_null C d_S_find_45 (n := 46) rfl ?_
            cases hf
            exact go_aret C d_S_find_46 hr (Or.inl ⟨_, rfl⟩) (Or.inl rfl) hPOST
          · have hf := hi29.1 h29
            refine go_aload_n C d_S_find_32 rfl 1 rfl (n := 33) rfl ?_
            refine go_get C d_S_find_33 fl_S_18 0 rfl rfl (n := 36) rfl ?_
            refine go_iload_n C d_S_find_36 rfl 0 rfl (n := 37) rfl ?_
            refine go_aald C d_S_find_37 4 2 rfl rfl rfl (by decide) (n := 38) rfl ?_
            cases hf
            exact go_aret C d_S_find_38 hr (Or.inl ⟨_, rfl⟩) (Or.inr ⟨_, rfl⟩) hPOST
      · have hf := hi16.2 h16
        refine go_aload_n C d_S_find_19 rfl 1 rfl (n := 20) rfl ?_
        refine go_get C d_S_find_20 fl_S_18 0 rfl rfl (n := 23) rfl ?_
        refine go_iload_n C d_S_find_23 rfl 0 rfl (n := 24) rfl ?_
        refine go_aald C d_S_find_24 4 2 rfl rfl rfl (by decide) (n := 25) rfl ?_
        obtain ⟨o25, ho25, hf⟩ := bindS hf
        refine go_callVr C (As := []) (rest := []) d_S_find_25 (c_Dictionary_number l D tc qtd1 qtd1_words qtd1_words_texts qtd1_words_costs td1_number td1_readers td1_states td1_arcs td1_words_size td1_words_texts td1_words_costs ho25 (fun r w => r = some (.int o25) ∧ w = [(qtd1, .inr (1, [.ref qtd1_words, .int td1_number, .int td1_readers, .int td1_states, .int td1_arcs])), (qtd1_words, .inr (6, [.ref qtd1_words_texts, .ref qtd1_words_costs, .int td1_words_size])), (qtd1_words_texts, .inl (tc 1, 24, .inr (.inl td1_words_texts))), (qtd1_words_costs, .inl (tc 0, 24, .inl td1_words_costs))]) ⟨rfl, rfl⟩) lk_S_231 mw_Dictionary_number sv_Dictionary_number 9 rfl rfl rfl rfl ⟨(Nat.le_of_ble_eq_true rfl), (Nat.le_of_ble_eq_true rfl)⟩ rfl rfl (Nat.le_of_ble_eq_true rfl) ⟨(Nat.le_of_ble_eq_true rfl), (Nat.le_of_ble_eq_true rfl)⟩ [9, 10, 11, 12] rfl (by decide) (n := 28) rfl ?_
        refine go_iload_n C d_S_find_28 rfl 2 rfl (n := 29) rfl ?_
        have hi29 := iteS hf
        refine go_icmp_ne C d_S_find_29 (tgt := 39) (by decide) (n := 32) rfl (fun h29 => ?_) (fun h29 => ?_)
        · have hf := hi29.2 h29
          refine go_iinc C d_S_find_39 0 rfl (v := (2 : Int32)) rfl (lv' := [(2, .int (2 : Int32)), (0, .ref qt), (1, .int a0)]) (by decide) rfl (n := 42) rfl ?_
          refine go_goto C d_S_find_42 (tgt := 2) (by decide) ?_
          refine go_iload_n C d_S_find_2 rfl 0 rfl (n := 3) rfl ?_
          refine go_iconst C (v := 3) d_S_find_3 rfl (n := 4) rfl ?_
          refine go_icmp_ge C d_S_find_4 (tgt := 45) (by decide) (n := 7) rfl (fun h4 => absurd h4 (by decide)) (fun h4 => ?_)
          refine go_aload_n C d_S_find_7 rfl 1 rfl (n := 8) rfl ?_
          refine go_get C d_S_find_8 fl_S_18 0 rfl rfl (n := 11) rfl ?_
          refine go_iload_n C d_S_find_11 rfl 0 rfl (n := 12) rfl ?_
          refine go_aald C d_S_find_12 4 2 rfl rfl rfl (by decide) (n := 13) rfl ?_
          obtain ⟨o13, ho13, hf⟩ := bindS hf
          refine go_callVr C (As := []) (rest := []) d_S_find_13 (c_Dictionary_isThere l D tc qtd2 qtd2_words qtd2_words_texts qtd2_words_costs td2_number td2_readers td2_states td2_arcs td2_words_size td2_words_texts td2_words_costs ho13 (fun r w => r = some (.int o13) ∧ w = [(qtd2, .inr (1, [.ref qtd2_words, .int td2_number, .int td2_readers, .int td2_states, .int td2_arcs])), (qtd2_words, .inr (6, [.ref qtd2_words_texts, .ref qtd2_words_costs, .int td2_words_size])), (qtd2_words_texts, .inl (tc 1, 24, .inr (.inl td2_words_texts))), (qtd2_words_costs, .inl (tc 0, 24, .inl td2_words_costs))]) ⟨rfl, rfl⟩) lk_S_141 mw_Dictionary_isThere sv_Dictionary_isThere 13 rfl rfl rfl rfl ⟨(Nat.le_of_ble_eq_true rfl), (Nat.le_of_ble_eq_true rfl)⟩ rfl rfl (Nat.le_of_ble_eq_true rfl) ⟨(Nat.le_of_ble_eq_true rfl), (Nat.le_of_ble_eq_true rfl)⟩ [13, 14, 15, 16] rfl (by decide) (n := 16) rfl ?_
          have hi16 := iteS hf
          refine go_if_eq C d_S_find_16 (tgt := 39) (by decide) (n := 19) rfl (fun h16 => ?_) (fun h16 => ?_)
          · have hf := hi16.1 h16
            refine go_iinc C d_S_find_39 0 rfl (v := (3 : Int32)) rfl (lv' := [(2, .int (3 : Int32)), (0, .ref qt), (1, .int a0)]) (by decide) rfl (n := 42) rfl ?_
            refine go_goto C d_S_find_42 (tgt := 2) (by decide) ?_
            refine go_iload_n C d_S_find_2 rfl 0 rfl (n := 3) rfl ?_
            refine go_iconst C (v := 3) d_S_find_3 rfl (n := 4) rfl ?_
            refine go_icmp_ge C d_S_find_4 (tgt := 45) (by decide) (n := 7) rfl (fun h4 => ?_) (fun h4 => absurd h4 (by decide))
            refine go_null C d_S_find_45 (n := 46) rfl ?_
            cases hf
            exact go_aret C d_S_find_46 hr (Or.inl ⟨_, rfl⟩) (Or.inl rfl) hPOST
          · have hf := hi16.2 h16
            refine go_aload_n C d_S_find_19 rfl 1 rfl (n := 20) rfl ?_
            refine go_get C d_S_find_20 fl_S_18 0 rfl rfl (n := 23) rfl ?_
            refine go_iload_n C d_S_find_23 rfl 0 rfl (n := 24) rfl ?_
            refine go_aald C d_S_find_24 4 2 rfl rfl rfl (by decide) (n := 25) rfl ?_
            obtain ⟨o25, ho25, hf⟩ := bindS hf
            refine go_callVr C (As := []) (rest := []) d_S_find_25 (c_Dictionary_number l D tc qtd2 qtd2_words qtd2_words_texts qtd2_words_costs td2_number td2_readers td2_states td2_arcs td2_words_size td2_words_texts td2_words_costs ho25 (fun r w => r = some (.int o25) ∧ w = [(qtd2, .inr (1, [.ref qtd2_words, .int td2_number, .int td2_readers, .int td2_states, .int td2_arcs])), (qtd2_words, .inr (6, [.ref qtd2_words_texts, .ref qtd2_words_costs, .int td2_words_size])), (qtd2_words_texts, .inl (tc 1, 24, .inr (.inl td2_words_texts))), (qtd2_words_costs, .inl (tc 0, 24, .inl td2_words_costs))]) ⟨rfl, rfl⟩) lk_S_231 mw_Dictionary_number sv_Dictionary_number 13 rfl rfl rfl rfl ⟨(Nat.le_of_ble_eq_true rfl), (Nat.le_of_ble_eq_true rfl)⟩ rfl rfl (Nat.le_of_ble_eq_true rfl) ⟨(Nat.le_of_ble_eq_true rfl), (Nat.le_of_ble_eq_true rfl)⟩ [13, 14, 15, 16] rfl (by decide) (n := 28) rfl ?_
            refine go_iload_n C d_S_find_28 rfl 2 rfl (n := 29) rfl ?_
            have hi29 := iteS hf
            refine go_icmp_ne C d_S_find_29 (tgt := 39) (by decide) (n := 32) rfl (fun h29 => ?_) (fun h29 => ?_)
            · have hf := hi29.2 h29
              refine go_iinc C d_S_find_39 0 rfl (v := (3 : Int32)) rfl (lv' := [(2, .int (3 : Int32)), (0, .ref qt), (1, .int a0)]) (by decide) rfl (n := 42) rfl ?_
              refine go_goto C d_S_find_42 (tgt := 2) (by decide) ?_
              refine go_iload_n C d_S_find_2 rfl 0 rfl (n := 3) rfl ?_
              refine go_iconst C (v := 3) d_S_find_3 rfl (n := 4) rfl ?_
              refine go_icmp_ge C d_S_find_4 (tgt := 45) (by decide) (n := 7) rfl (fun h4 => ?_) (fun h4 => absurd h4 (by decide))
              refine go_null C d_S_find_45 (n := 46) rfl ?_
              cases hf
              exact go_aret C d_S_find_46 hr (Or.inl ⟨_, rfl⟩) (Or.inl rfl) hPOST
            · have hf := hi29.1 h29
              refine go_aload_n C d_S_find_32 rfl 1 rfl (n := 33) rfl ?_
              refine go_get C d_S_find_33 fl_S_18 0 rfl rfl (n := 36) rfl ?_
              refine go_iload_n C d_S_find_36 rfl 0 rfl (n := 37) rfl ?_
              refine go_aald C d_S_find_37 4 2 rfl rfl rfl (by decide) (n := 38) rfl ?_
              cases hf
              exact go_aret C d_S_find_38 hr (Or.inl ⟨_, rfl⟩) (Or.inr ⟨_, rfl⟩) hPOST
        · have hf := hi29.1 h29
          refine go_aload_n C d_S_find_32 rfl 1 rfl (n := 33) rfl ?_
          refine go_get C d_S_find_33 fl_S_18 0 rfl rfl (n := 36) rfl ?_
          refine go_iload_n C d_S_find_36 rfl 0 rfl (n := 37) rfl ?_
          refine go_aald C d_S_find_37 4 2 rfl rfl rfl (by decide) (n := 38) rfl ?_
          cases hf
          exact go_aret C d_S_find_38 hr (Or.inl ⟨_, rfl⟩) (Or.inr ⟨_, rfl⟩) hPOST
    · have hf := hi29.1 h29
      refine go_aload_n C d_S_find_32 rfl 1 rfl (n := 33) rfl ?_
      refine go_get C d_S_find_33 fl_S_18 0 rfl rfl (n := 36) rfl ?_
      refine go_iload_n C d_S_find_36 rfl 0 rfl (n := 37) rfl ?_
      refine go_aald C d_S_find_37 4 2 rfl rfl rfl (by decide) (n := 38) rfl ?_
      cases hf
      exact go_aret C d_S_find_38 hr (Or.inl ⟨_, rfl⟩) (Or.inr ⟨_, rfl⟩) hPOST
