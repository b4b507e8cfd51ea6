def f_S_placeForNext (t_made : Int32) (td0_number : Int32) (td0_readers : Int32) (td1_number : Int32) (td1_readers : Int32) (td2_number : Int32) (td2_readers : Int32) : Option (Nat) :=
  (f_S_find td0_number td1_number td2_number t_made).bind (fun o5 => if o5 = 0 then (f_Dictionary_readers td0_readers).bind (fun o14 => if o14 = 0 then some (0 : Nat) else (f_Dictionary_isThere td0_number).bind (fun o35 => if o35 = 0 then some (0 : Nat) else (f_Dictionary_isThere td1_number).bind (fun o35 => if o35 = 0 then some (1 : Nat) else (f_Dictionary_isThere td2_number).bind (fun o35 => if o35 = 0 then some (2 : Nat) else some (3 : Nat))))) else if o5 = 1 then (f_Dictionary_readers td1_readers).bind (fun o14 => if o14 = 0 then some (1 : Nat) else (f_Dictionary_isThere td0_number).bind (fun o35 => if o35 = 0 then some (0 : Nat) else (f_Dictionary_isThere td1_number).bind (fun o35 => if o35 = 0 then some (1 : Nat) else (f_Dictionary_isThere td2_number).bind (fun o35 => if o35 = 0 then some (2 : Nat) else some (3 : Nat))))) else if o5 = 2 then (f_Dictionary_readers td2_readers).bind (fun o14 => if o14 = 0 then some (2 : Nat) else (f_Dictionary_isThere td0_number).bind (fun o35 => if o35 = 0 then some (0 : Nat) else (f_Dictionary_isThere td1_number).bind (fun o35 => if o35 = 0 then some (1 : Nat) else (f_Dictionary_isThere td2_number).bind (fun o35 => if o35 = 0 then some (2 : Nat) else some (3 : Nat))))) else (f_Dictionary_isThere td0_number).bind (fun o35 => if o35 = 0 then some (0 : Nat) else (f_Dictionary_isThere td1_number).bind (fun o35 => if o35 = 0 then some (1 : Nat) else (f_Dictionary_isThere td2_number).bind (fun o35 => if o35 = 0 then some (2 : Nat) else some (3 : Nat)))))
set_option maxRecDepth 100000 in
set_option maxHeartbeats 4000000 in
theorem c_S_placeForNext (l : Launch) (D : va_G) (tc : Nat → ClassId) (qt : Nat) (qt_draft : Nat) (qt_draft_texts : Nat) (qt_draft_costs : Nat) (qt_shelf : Nat) (qtd0 : Nat) (qtd0_words : Nat) (qtd0_words_texts : Nat) (qtd0_words_costs : Nat) (qtd1 : Nat) (qtd1_words : Nat) (qtd1_words_texts : Nat) (qtd1_words_costs : Nat) (qtd2 : Nat) (qtd2_words : Nat) (qtd2_words_texts : Nat) (qtd2_words_costs : Nat) (qt_automaton : Nat) (qt_automaton_starts : Nat) (qt_automaton_counts : Nat) (qt_automaton_lengths : Nat) (qt_automaton_lowests : Nat) (qt_ruler : Nat) (qt_ruler_least : Nat) (rt_ruler_least : Nat → Nat) (qt_suggestions : Nat) (qt_suggestions_texts : Nat) (qt_suggestions_ranks : Nat) (qt_pairs : Nat) (qt_pairs_firsts : Nat) (qt_pairs_seconds : Nat) (qt_pairs_times : Nat) (qt_phrase : Nat) (qt_phrase_said : Nat) (qt_phrase_chosen : Nat) (qt_phrase_candidates : Nat) (rt_phrase_candidates : Nat → Nat) (qt_phrase_costs : Nat) (rt_phrase_costs : Nat → Nat) (qt_phrase_followers : Nat) (rt_phrase_followers : Nat → Nat) (qt_phrase_counts : Nat) (t_made : Int32) (t_draft_size : Int32) (t_draft_texts : Nat → Int64) (t_draft_costs : Nat → Int32) (td0_number : Int32) (td0_readers : Int32) (td0_states : Int32) (td0_arcs : Int32) (td0_words_size : Int32) (td0_words_texts : Nat → Int64) (td0_words_costs : Nat → Int32) (td1_number : Int32) (td1_readers : Int32) (td1_states : Int32) (td1_arcs : Int32) (td1_words_size : Int32) (td1_words_texts : Nat → Int64) (td1_words_costs : Nat → Int32) (td2_number : Int32) (td2_readers : Int32) (td2_states : Int32) (td2_arcs : Int32) (td2_words_size : Int32) (td2_words_texts : Nat → Int64) (td2_words_costs : Nat → Int32) (t_automaton_states : Int32) (t_automaton_arcs : Int32) (t_automaton_starts : Nat → Int32) (t_automaton_counts : Nat → Int32) (t_automaton_lengths : Nat → Int32) (t_automaton_lowests : Nat → Int32) (t_ruler_least : Nat → Nat → Int32) (t_suggestions_size : Int32) (t_suggestions_most : Int32) (t_suggestions_texts : Nat → Int64) (t_suggestions_ranks : Nat → Int32) (t_pairs_size : Int32) (t_pairs_firsts : Nat → Int64) (t_pairs_seconds : Nat → Int64) (t_pairs_times : Nat → Int32) (t_phrase_size : Int32) (t_phrase_chosenSize : Int32) (t_phrase_said : Nat → Int64) (t_phrase_chosen : Nat → Int64) (t_phrase_candidates : Nat → Nat → Int64) (t_phrase_costs : Nat → Nat → Int32) (t_phrase_followers : Nat → Nat → Int32) (t_phrase_counts : Nat → Int32) {o : (Nat)} (hf : f_S_placeForNext t_made td0_number td0_readers td1_number td1_readers td2_number td2_readers = some o) (POST : Option Value → va_W → Prop) (hPOST : POST (some (dref o qtd0 qtd1 qtd2)) [(qt, .inr (7, [.ref qt_draft, .ref qt_shelf, .ref qt_automaton, .ref qt_ruler, .ref qt_suggestions, .ref qt_pairs, .ref qt_phrase, .int t_made])), (qt_draft, .inr (6, [.ref qt_draft_texts, .ref qt_draft_costs, .int t_draft_size])), (qt_draft_texts, .inl (tc 1, 24, .inr (.inl t_draft_texts))), (qt_draft_costs, .inl (tc 0, 24, .inl t_draft_costs)), (qt_shelf, .inl (tc 2, 3, .inr (.inr (.inr (.inr (va_up (va_up (va_up (fun _ => none) 0 (some qtd0)) 1 (some qtd1)) 2 (some qtd2))))))), (qtd0, .inr (1, [.ref qtd0_words, .int td0_number, .int td0_readers, .int td0_states, .int td0_arcs])), (qtd0_words, .inr (6, [.ref qtd0_words_texts, .ref qtd0_words_costs, .int td0_words_size])), (qtd0_words_texts, .inl (tc 1, 24, .inr (.inl td0_words_texts))), (qtd0_words_costs, .inl (tc 0, 24, .inl td0_words_costs)), (qtd1, .inr (1, [.ref qtd1_words, .int td1_number, .int td1_readers, .int td1_states, .int td1_arcs])), (qtd1_words, .inr (6, [.ref qtd1_words_texts, .ref qtd1_words_costs, .int td1_words_size])), (qtd1_words_texts, .inl (tc 1, 24, .inr (.inl td1_words_texts))), (qtd1_words_costs, .inl (tc 0, 24, .inl td1_words_costs)), (qtd2, .inr (1, [.ref qtd2_words, .int td2_number, .int td2_readers, .int td2_states, .int td2_arcs])), (qtd2_words, .inr (6, [.ref qtd2_words_texts, .ref qtd2_words_costs, .int td2_words_size])), (qtd2_words_texts, .inl (tc 1, 24, .inr (.inl td2_words_texts))), (qtd2_words_costs, .inl (tc 0, 24, .inl td2_words_costs)), (qt_automaton, .inr (0, [.ref qt_automaton_starts, .ref qt_automaton_counts, .ref qt_automaton_lengths, .ref qt_automaton_lowests, .int t_automaton_states, .int t_automaton_arcs])), (qt_automaton_starts, .inl (tc 0, 193, .inl t_automaton_starts)), (qt_automaton_counts, .inl (tc 0, 193, .inl t_automaton_counts)), (qt_automaton_lengths, .inl (tc 0, 193, .inl t_automaton_lengths)), (qt_automaton_lowests, .inl (tc 0, 193, .inl t_automaton_lowests)), (qt_ruler, .inr (4, [.ref qt_ruler_least])), (qt_ruler_least, .inl (tc 3, 9, .inr (.inr (.inr (.inr (fun i => some (rt_ruler_least i))))))), (rt_ruler_least 0, .inl (tc 0, 9, .inl (t_ruler_least 0))), (rt_ruler_least 1, .inl (tc 0, 9, .inl (t_ruler_least 1))), (rt_ruler_least 2, .inl (tc 0, 9, .inl (t_ruler_least 2))), (rt_ruler_least 3, .inl (tc 0, 9, .inl (t_ruler_least 3))), (rt_ruler_least 4, .inl (tc 0, 9, .inl (t_ruler_least 4))), (rt_ruler_least 5, .inl (tc 0, 9, .inl (t_ruler_least 5))), (rt_ruler_least 6, .inl (tc 0, 9, .inl (t_ruler_least 6))), (rt_ruler_least 7, .inl (tc 0, 9, .inl (t_ruler_least 7))), (rt_ruler_least 8, .inl (tc 0, 9, .inl (t_ruler_least 8))), (qt_suggestions, .inr (5, [.ref qt_suggestions_texts, .ref qt_suggestions_ranks, .int t_suggestions_size, .int t_suggestions_most])), (qt_suggestions_texts, .inl (tc 1, 24, .inr (.inl t_suggestions_texts))), (qt_suggestions_ranks, .inl (tc 0, 24, .inl t_suggestions_ranks)), (qt_pairs, .inr (2, [.ref qt_pairs_firsts, .ref qt_pairs_seconds, .ref qt_pairs_times, .int t_pairs_size])), (qt_pairs_firsts, .inl (tc 1, 40, .inr (.inl t_pairs_firsts))), (qt_pairs_seconds, .inl (tc 1, 40, .inr (.inl t_pairs_seconds))), (qt_pairs_times, .inl (tc 0, 40, .inl t_pairs_times)), (qt_phrase, .inr (3, [.ref qt_phrase_said, .ref qt_phrase_chosen, .ref qt_phrase_candidates, .ref qt_phrase_costs, .ref qt_phrase_followers, .ref qt_phrase_counts, .int t_phrase_size, .int t_phrase_chosenSize])), (qt_phrase_said, .inl (tc 1, 4, .inr (.inl t_phrase_said))), (qt_phrase_chosen, .inl (tc 1, 4, .inr (.inl t_phrase_chosen))), (qt_phrase_candidates, .inl (tc 4, 4, .inr (.inr (.inr (.inr (fun i => some (rt_phrase_candidates i))))))), (rt_phrase_candidates 0, .inl (tc 1, 24, .inr (.inl (t_phrase_candidates 0)))), (rt_phrase_candidates 1, .inl (tc 1, 24, .inr (.inl (t_phrase_candidates 1)))), (rt_phrase_candidates 2, .inl (tc 1, 24, .inr (.inl (t_phrase_candidates 2)))), (rt_phrase_candidates 3, .inl (tc 1, 24, .inr (.inl (t_phrase_candidates 3)))), (qt_phrase_costs, .inl (tc 3, 4, .inr (.inr (.inr (.inr (fun i => some (rt_phrase_costs i))))))), (rt_phrase_costs 0, .inl (tc 0, 24, .inl (t_phrase_costs 0))), (rt_phrase_costs 1, .inl (tc 0, 24, .inl (t_phrase_costs 1))), (rt_phrase_costs 2, .inl (tc 0, 24, .inl (t_phrase_costs 2))), (rt_phrase_costs 3, .inl (tc 0, 24, .inl (t_phrase_costs 3))), (qt_phrase_followers, .inl (tc 3, 4, .inr (.inr (.inr (.inr (fun i => some (rt_phrase_followers i))))))), (rt_phrase_followers 0, .inl (tc 0, 24, .inl (t_phrase_followers 0))), (rt_phrase_followers 1, .inl (tc 0, 24, .inl (t_phrase_followers 1))), (rt_phrase_followers 2, .inl (tc 0, 24, .inl (t_phrase_followers 2))), (rt_phrase_followers 3, .inl (tc 0, 24, .inl (t_phrase_followers 3))), (qt_phrase_counts, .inl (tc 0, 4, .inl t_phrase_counts))]) : Std l y_S_placeForNext (.code y_S_placeForNext b_S_placeForNext 3 (some (.object "SuggestDesk$Dictionary"))) { frames := 2, cells := 0, slots := 0, locals := 42 } D tc [.ref qt] [(qt, .inr (7, [.ref qt_draft, .ref qt_shelf, .ref qt_automaton, .ref qt_ruler, .ref qt_suggestions, .ref qt_pairs, .ref qt_phrase, .int t_made])), (qt_draft, .inr (6, [.ref qt_draft_texts, .ref qt_draft_costs, .int t_draft_size])), (qt_draft_texts, .inl (tc 1, 24, .inr (.inl t_draft_texts))), (qt_draft_costs, .inl (tc 0, 24, .inl t_draft_costs)), (qt_shelf, .inl (tc 2, 3, .inr (.inr (.inr (.inr (va_up (va_up (va_up (fun _ => none) 0 (some qtd0)) 1 (some qtd1)) 2 (some qtd2))))))), (qtd0, .inr (1, [.ref qtd0_words, .int td0_number, .int td0_readers, .int td0_states, .int td0_arcs])), (qtd0_words, .inr (6, [.ref qtd0_words_texts, .ref qtd0_words_costs, .int td0_words_size])), (qtd0_words_texts, .inl (tc 1, 24, .inr (.inl td0_words_texts))), (qtd0_words_costs, .inl (tc 0, 24, .inl td0_words_costs)), (qtd1, .inr (1, [.ref qtd1_words, .int td1_number, .int td1_readers, .int td1_states, .int td1_arcs])), (qtd1_words, .inr (6, [.ref qtd1_words_texts, .ref qtd1_words_costs, .int td1_words_size])), (qtd1_words_texts, .inl (tc 1, 24, .inr (.inl td1_words_texts))), (qtd1_words_costs, .inl (tc 0, 24, .inl td1_words_costs)), (qtd2, .inr (1, [.ref qtd2_words, .int td2_number, .int td2_readers, .int td2_states, .int td2_arcs])), (qtd2_words, .inr (6, [.ref qtd2_words_texts, .ref qtd2_words_costs, .int td2_words_size])), (qtd2_words_texts, .inl (tc 1, 24, .inr (.inl td2_words_texts))), (qtd2_words_costs, .inl (tc 0, 24, .inl td2_words_costs)), (qt_automaton, .inr (0, [.ref qt_automaton_starts, .ref qt_automaton_counts, .ref qt_automaton_lengths, .ref qt_automaton_lowests, .int t_automaton_states, .int t_automaton_arcs])), (qt_automaton_starts, .inl (tc 0, 193, .inl t_automaton_starts)), (qt_automaton_counts, .inl (tc 0, 193, .inl t_automaton_counts)), (qt_automaton_lengths, .inl (tc 0, 193, .inl t_automaton_lengths)), (qt_automaton_lowests, .inl (tc 0, 193, .inl t_automaton_lowests)), (qt_ruler, .inr (4, [.ref qt_ruler_least])), (qt_ruler_least, .inl (tc 3, 9, .inr (.inr (.inr (.inr (fun i => some (rt_ruler_least i))))))), (rt_ruler_least 0, .inl (tc 0, 9, .inl (t_ruler_least 0))), (rt_ruler_least 1, .inl (tc 0, 9, .inl (t_ruler_least 1))), (rt_ruler_least 2, .inl (tc 0, 9, .inl (t_ruler_least 2))), (rt_ruler_least 3, .inl (tc 0, 9, .inl (t_ruler_least 3))), (rt_ruler_least 4, .inl (tc 0, 9, .inl (t_ruler_least 4))), (rt_ruler_least 5, .inl (tc 0, 9, .inl (t_ruler_least 5))), (rt_ruler_least 6, .inl (tc 0, 9, .inl (t_ruler_least 6))), (rt_ruler_least 7, .inl (tc 0, 9, .inl (t_ruler_least 7))), (rt_ruler_least 8, .inl (tc 0, 9, .inl (t_ruler_least 8))), (qt_suggestions, .inr (5, [.ref qt_suggestions_texts, .ref qt_suggestions_ranks, .int t_suggestions_size, .int t_suggestions_most])), (qt_suggestions_texts, .inl (tc 1, 24, .inr (.inl t_suggestions_texts))), (qt_suggestions_ranks, .inl (tc 0, 24, .inl t_suggestions_ranks)), (qt_pairs, .inr (2, [.ref qt_pairs_firsts, .ref qt_pairs_seconds, .ref qt_pairs_times, .int t_pairs_size])), (qt_pairs_firsts, .inl (tc 1, 40, .inr (.inl t_pairs_firsts))), (qt_pairs_seconds, .inl (tc 1, 40, .inr (.inl t_pairs_seconds))), (qt_pairs_times, .inl (tc 0, 40, .inl t_pairs_times)), (qt_phrase, .inr (3, [.ref qt_phrase_said, .ref qt_phrase_chosen, .ref qt_phrase_candidates, .ref qt_phrase_costs, .ref qt_phrase_followers, .ref qt_phrase_counts, .int t_phrase_size, .int t_phrase_chosenSize])), (qt_phrase_said, .inl (tc 1, 4, .inr (.inl t_phrase_said))), (qt_phrase_chosen, .inl (tc 1, 4, .inr (.inl t_phrase_chosen))), (qt_phrase_candidates, .inl (tc 4, 4, .inr (.inr (.inr (.inr (fun i => some (rt_phrase_candidates i))))))), (rt_phrase_candidates 0, .inl (tc 1, 24, .inr (.inl (t_phrase_candidates 0)))), (rt_phrase_candidates 1, .inl (tc 1, 24, .inr (.inl (t_phrase_candidates 1)))), (rt_phrase_candidates 2, .inl (tc 1, 24, .inr (.inl (t_phrase_candidates 2)))), (rt_phrase_candidates 3, .inl (tc 1, 24, .inr (.inl (t_phrase_candidates 3)))), (qt_phrase_costs, .inl (tc 3, 4, .inr (.inr (.inr (.inr (fun i => some (rt_phrase_costs i))))))), (rt_phrase_costs 0, .inl (tc 0, 24, .inl (t_phrase_costs 0))), (rt_phrase_costs 1, .inl (tc 0, 24, .inl (t_phrase_costs 1))), (rt_phrase_costs 2, .inl (tc 0, 24, .inl (t_phrase_costs 2))), (rt_phrase_costs 3, .inl (tc 0, 24, .inl (t_phrase_costs 3))), (qt_phrase_followers, .inl (tc 3, 4, .inr (.inr (.inr (.inr (fun i => some (rt_phrase_followers i))))))), (rt_phrase_followers 0, .inl (tc 0, 24, .inl (t_phrase_followers 0))), (rt_phrase_followers 1, .inl (tc 0, 24, .inl (t_phrase_followers 1))), (rt_phrase_followers 2, .inl (tc 0, 24, .inl (t_phrase_followers 2))), (rt_phrase_followers 3, .inl (tc 0, 24, .inl (t_phrase_followers 3))), (qt_phrase_counts, .inl (tc 0, 4, .inl t_phrase_counts))] 0 0 POST := by
  refine std_of (lv := [(0, .ref qt)]) (by decide) (Nat.le_of_ble_eq_true rfl) rfl (fun p e s m args below meth c A C hr hnm => ?_)
  unfold f_S_placeForNext at hf
  refine go_aload_n C d_S_placeForNext_0 rfl 0 rfl (n := 1) rfl ?_
  refine go_aload_n C d_S_placeForNext_1 rfl 0 rfl (n := 2) rfl ?_
  refine go_get C d_S_placeForNext_2 fl_S_58 0 rfl rfl (n := 5) rfl ?_
  obtain ⟨o5, ho5, hf⟩ := bindS hf
  refine go_callVr C (As := [.int t_made]) (rest := []) d_S_placeForNext_5 (c_S_find l D tc qt qt_draft qt_draft_texts qt_draft_costs qt_shelf qtd0 qtd0_words qtd0_words_texts qtd0_words_costs qtd1 qtd1_words qtd1_words_texts qtd1_words_costs qtd2 qtd2_words qtd2_words_texts qtd2_words_costs qt_automaton qt_automaton_starts qt_automaton_counts qt_automaton_lengths qt_automaton_lowests qt_ruler qt_ruler_least rt_ruler_least qt_suggestions qt_suggestions_texts qt_suggestions_ranks qt_pairs qt_pairs_firsts qt_pairs_seconds qt_pairs_times qt_phrase qt_phrase_said qt_phrase_chosen qt_phrase_candidates rt_phrase_candidates qt_phrase_costs rt_phrase_costs qt_phrase_followers rt_phrase_followers qt_phrase_counts t_made t_draft_size t_draft_texts t_draft_costs td0_number td0_readers td0_states td0_arcs td0_words_size td0_words_texts td0_words_costs td1_number td1_readers td1_states td1_arcs td1_words_size td1_words_texts td1_words_costs td2_number td2_readers td2_states td2_arcs td2_words_size td2_words_texts td2_words_costs t_automaton_states t_automaton_arcs t_automaton_starts t_automaton_counts t_automaton_lengths t_automaton_lowests t_ruler_least t_suggestions_size t_suggestions_most t_suggestions_texts t_suggestions_ranks t_pairs_size t_pairs_firsts t_pairs_seconds t_pairs_times t_phrase_size t_phrase_chosenSize t_phrase_said t_phrase_chosen t_phrase_candidates t_phrase_costs t_phrase_followers t_phrase_counts t_made ho5 (fun r w => r = some (dref o5 qtd0 qtd1 qtd2) ∧ w = [(qt, .inr (7, [.ref qt_draft, .ref qt_shelf, .ref qt_automaton, .ref qt_ruler, .ref qt_suggestions, .ref qt_pairs, .ref qt_phrase, .int t_made])), (qt_draft, .inr (6, [.ref qt_draft_texts, .ref qt_draft_costs, .int t_draft_size])), (qt_draft_texts, .inl (tc 1, 24, .inr (.inl t_draft_texts))), (qt_draft_costs, .inl (tc 0, 24, .inl t_draft_costs)), (qt_shelf, .inl (tc 2, 3, .inr (.inr (.inr (.inr (va_up (va_up (va_up (fun _ => none) 0 (some qtd0)) 1 (some qtd1)) 2 (some qtd2))))))), (qtd0, .inr (1, [.ref qtd0_words, .int td0_number, .int td0_readers, .int td0_states, .int td0_arcs])), (qtd0_words, .inr (6, [.ref qtd0_words_texts, .ref qtd0_words_costs, .int td0_words_size])), (qtd0_words_texts, .inl (tc 1, 24, .inr (.inl td0_words_texts))), (qtd0_words_costs, .inl (tc 0, 24, .inl td0_words_costs)), (qtd1, .inr (1, [.ref qtd1_words, .int td1_number, .int td1_readers, .int td1_states, .int td1_arcs])), (qtd1_words, .inr (6, [.ref qtd1_words_texts, .ref qtd1_words_costs, .int td1_words_size])), (qtd1_words_texts, .inl (tc 1, 24, .inr (.inl td1_words_texts))), (qtd1_words_costs, .inl (tc 0, 24, .inl td1_words_costs)), (qtd2, .inr (1, [.ref qtd2_words, .int td2_number, .int td2_readers, .int td2_states, .int td2_arcs])), (qtd2_words, .inr (6, [.ref qtd2_words_texts, .ref qtd2_words_costs, .int td2_words_size])), (qtd2_words_texts, .inl (tc 1, 24, .inr (.inl td2_words_texts))), (qtd2_words_costs, .inl (tc 0, 24, .inl td2_words_costs)), (qt_automaton, .inr (0, [.ref qt_automaton_starts, .ref qt_automaton_counts, .ref qt_automaton_lengths, .ref qt_automaton_lowests, .int t_automaton_states, .int t_automaton_arcs])), (qt_automaton_starts, .inl (tc 0, 193, .inl t_automaton_starts)), (qt_automaton_counts, .inl (tc 0, 193, .inl t_automaton_counts)), (qt_automaton_lengths, .inl (tc 0, 193, .inl t_automaton_lengths)), (qt_automaton_lowests, .inl (tc 0, 193, .inl t_automaton_lowests)), (qt_ruler, .inr (4, [.ref qt_ruler_least])), (qt_ruler_least, .inl (tc 3, 9, .inr (.inr (.inr (.inr (fun i => some (rt_ruler_least i))))))), (rt_ruler_least 0, .inl (tc 0, 9, .inl (t_ruler_least 0))), (rt_ruler_least 1, .inl (tc 0, 9, .inl (t_ruler_least 1))), (rt_ruler_least 2, .inl (tc 0, 9, .inl (t_ruler_least 2))), (rt_ruler_least 3, .inl (tc 0, 9, .inl (t_ruler_least 3))), (rt_ruler_least 4, .inl (tc 0, 9, .inl (t_ruler_least 4))), (rt_ruler_least 5, .inl (tc 0, 9, .inl (t_ruler_least 5))), (rt_ruler_least 6, .inl (tc 0, 9, .inl (t_ruler_least 6))), (rt_ruler_least 7, .inl (tc 0, 9, .inl (t_ruler_least 7))), (rt_ruler_least 8, .inl (tc 0, 9, .inl (t_ruler_least 8))), (qt_suggestions, .inr (5, [.ref qt_suggestions_texts, .ref qt_suggestions_ranks, .int t_suggestions_size, .int t_suggestions_most])), (qt_suggestions_texts, .inl (tc 1, 24, .inr (.inl t_suggestions_texts))), (qt_suggestions_ranks, .inl (tc 0, 24, .inl t_suggestions_ranks)), (qt_pairs, .inr (2, [.ref qt_pairs_firsts, .ref qt_pairs_seconds, .ref qt_pairs_times, .int t_pairs_size])), (qt_pairs_firsts, .inl (tc 1, 40, .inr (.inl t_pairs_firsts))), (qt_pairs_seconds, .inl (tc 1, 40, .inr (.inl t_pairs_seconds))), (qt_pairs_times, .inl (tc 0, 40, .inl t_pairs_times)), (qt_phrase, .inr (3, [.ref qt_phrase_said, .ref qt_phrase_chosen, .ref qt_phrase_candidates, .ref qt_phrase_costs, .ref qt_phrase_followers, .ref qt_phrase_counts, .int t_phrase_size, .int t_phrase_chosenSize])), (qt_phrase_said, .inl (tc 1, 4, .inr (.inl t_phrase_said))), (qt_phrase_chosen, .inl (tc 1, 4, .inr (.inl t_phrase_chosen))), (qt_phrase_candidates, .inl (tc 4, 4, .inr (.inr (.inr (.inr (fun i => some (rt_phrase_candidates i))))))), (rt_phrase_candidates 0, .inl (tc 1, 24, .inr (.inl (t_phrase_candidates 0)))), (rt_phrase_candidates 1, .inl (tc 1, 24, .inr (.inl (t_phrase_candidates 1)))), (rt_phrase_candidates 2, .inl (tc 1, 24, .inr (.inl (t_phrase_candidates 2)))), (rt_phrase_candidates 3, .inl (tc 1, 24, .inr (.inl (t_phrase_candidates 3)))), (qt_phrase_costs, .inl (tc 3, 4, .inr (.inr (.inr (.inr (fun i => some (rt_phrase_costs i))))))), (rt_phrase_costs 0, .inl (tc 0, 24, .inl (t_phrase_costs 0))), (rt_phrase_costs 1, .inl (tc 0, 24, .inl (t_phrase_costs 1))), (rt_phrase_costs 2, .inl (tc 0, 24, .inl (t_phrase_costs 2))), (rt_phrase_costs 3, .inl (tc 0, 24, .inl (t_phrase_costs 3))), (qt_phrase_followers, .inl (tc 3, 4, .inr (.inr (.inr (.inr (fun i => some (rt_phrase_followers i))))))), (rt_phrase_followers 0, .inl (tc 0, 24, .inl (t_phrase_followers 0))), (rt_phrase_followers 1, .inl (tc 0, 24, .inl (t_phrase_followers 1))), (rt_phrase_followers 2, .inl (tc 0, 24, .inl (t_phrase_followers 2))), (rt_phrase_followers 3, .inl (tc 0, 24, .inl (t_phrase_followers 3))), (qt_phrase_counts, .inl (tc 0, 4, .inl t_phrase_counts))]) ⟨rfl, rfl⟩) lk_S_119 mw_S_find sv_S_find 0 rfl rfl rfl rfl ⟨(Nat.le_of_ble_eq_true rfl), (Nat.le_of_ble_eq_true rfl)⟩ rfl rfl (Nat.le_of_ble_eq_true rfl) ⟨(Nat.le_of_ble_eq_true rfl), (Nat.le_of_ble_eq_true rfl)⟩ [0, 1, 2, 3, 4, 5, 6, 7, 8, 9, 10, 11, 12, 13, 14, 15, 16, 17, 18, 19, 20, 21, 22, 23, 24, 25, 26, 27, 28, 29, 30, 31, 32, 33, 34, 35, 36, 37, 38, 39, 40, 41, 42, 43, 44, 45, 46, 47, 48, 49, 50, 51, 52, 53, 54, 55, 56, 57, 58] rfl (by decide) (n := 8) rfl ?_
  have hm0 := iteS hf
  by_cases hq0 : o5 = 0
  · have hf := hm0.1 hq0
    rw [hq0]
    refine go_eq (st' := [.ref qtd0]) rfl rfl rfl ?_
    refine go_astore_n C d_S_placeForNext_8 rfl (lv' := [(1, .ref qtd0), (0, .ref qt)]) (by decide) rfl (n := 9) rfl ?_
    refine go_aload_n C d_S_placeForNext_9 rfl 0 rfl (n := 10) rfl ?_
    refine go_ifnull C d_S_placeForNext_10 (n := 13) rfl ?_
    refine go_aload_n C d_S_placeForNext_13 rfl 0 rfl (n := 14) rfl ?_
    obtain ⟨o14, ho14, hf⟩ := bindS hf
    refine go_callVr C (As := []) (rest := []) d_S_placeForNext_14 (c_Dictionary_readers l D tc qtd0 qtd0_words qtd0_words_texts qtd0_words_costs td0_number td0_readers td0_states td0_arcs td0_words_size td0_words_texts td0_words_costs ho14 (fun r w => r = some (.int o14) ∧ w = [(qtd0, .inr (1, [.ref qtd0_words, .int td0_number, .int td0_readers, .int td0_states, .int td0_arcs])), (qtd0_words, .inr (6, [.ref qtd0_words_texts, .ref qtd0_words_costs, .int td0_words_size])), (qtd0_words_texts, .inl (tc 1, 24, .inr (.inl td0_words_texts))), (qtd0_words_costs, .inl (tc 0, 24, .inl td0_words_costs))]) ⟨rfl, rfl⟩) lk_S_125 mw_Dictionary_readers sv_Dictionary_readers 5 rfl rfl rfl rfl ⟨(Nat.le_of_ble_eq_true rfl), (Nat.le_of_ble_eq_true rfl)⟩ rfl rfl (Nat.le_of_ble_eq_true rfl) ⟨(Nat.le_of_ble_eq_true rfl), (Nat.le_of_ble_eq_true rfl)⟩ [5, 6, 7, 8] rfl (by decide) (n := 17) rfl ?_
    have hi17 := iteS hf
    refine go_if_ne C d_S_placeForNext_17 (tgt := 22) (by decide) (n := 20) rfl (fun h17 => ?_) (fun h17 => ?_)
    · have hf := hi17.2 h17
      refine go_iconst C (v := 0) d_S_placeForNext_22 rfl (n := 23) rfl ?_
      refine go_istore_n C d_S_placeForNext_23 rfl (lv' := [(2, .int (0 : Int32)), (1, .ref qtd0), (0, .ref qt)]) (by decide) rfl (n := 24) rfl ?_
      refine go_iload_n C d_S_placeForNext_24 rfl 0 rfl (n := 25) rfl ?_
      refine go_iconst C (v := 3) d_S_placeForNext_25 rfl (n := 26) rfl ?_
      refine go_icmp_ge C d_S_placeForNext_26 (tgt := 54) (by decide) (n := 29) rfl (fun h26 => absurd h26 (by decide)) (fun h26 => ?_)
      refine go_aload_n C d_S_placeForNext_29 rfl 2 rfl (n := 30) rfl ?_
      refine go_get C d_S_placeForNext_30 fl_S_18 0 rfl rfl (n := 33) rfl ?_
      refine go_iload_n C d_S_placeForNext_33 rfl 0 rfl (n := 34) rfl ?_
      refine go_aald C d_S_placeForNext_34 4 2 rfl rfl rfl (by decide) (n := 35) rfl ?_
      obtain ⟨o35, ho35, hf⟩ := bindS hf
      refine go_callVr C (As := []) (rest := []) d_S_placeForNext_35 (c_Dictionary_isThere l D tc qtd0 qtd0_words qtd0_words_texts qtd0_words_costs td0_number td0_readers td0_states td0_arcs td0_words_size td0_words_texts td0_words_costs ho35 (fun r w => r = some (.int o35) ∧ w = [(qtd0, .inr (1, [.ref qtd0_words, .int td0_number, .int td0_readers, .int td0_states, .int td0_arcs])), (qtd0_words, .inr (6, [.ref qtd0_words_texts, .ref qtd0_words_costs, .int td0_words_size])), (qtd0_words_texts, .inl (tc 1, 24, .inr (.inl td0_words_texts))), (qtd0_words_costs, .inl (tc 0, 24, .inl td0_words_costs))]) ⟨rfl, rfl⟩) lk_S_141 mw_Dictionary_isThere sv_Dictionary_isThere 5 rfl rfl rfl rfl ⟨(Nat.le_of_ble_eq_true rfl), (Nat.le_of_ble_eq_true rfl)⟩ rfl rfl (Nat.le_of_ble_eq_true rfl) ⟨(Nat.le_of_ble_eq_true rfl), (Nat.le_of_ble_eq_true rfl)⟩ [5, 6, 7, 8] rfl (by decide) (n := 38) rfl ?_
      have hi38 := iteS hf
      refine go_if_ne C d_S_placeForNext_38 (tgt := 48) (by decide) (n := 41) rfl (fun h38 => ?_) (fun h38 => ?_)
      · have hf := hi38.2 h38
        refine go_iinc C d_S_placeForNext_48 0 rfl (v := (1 : Int32)) rfl (lv' := [(2, .int (1 : Int32)), (1, .ref qtd0), (0, .ref qt)]) (by decide) rfl (n := 51) rfl ?_
        refine go_goto C d_S_placeForNext_51 (tgt := 24) (by decide) ?_
        refine go_iload_n C d_S_placeForNext_24 rfl 0 rfl (n := 25) rfl ?_
        refine go_iconst C (v := 3) d_S_placeForNext_25 rfl (n := 26) rfl ?_
        refine go_icmp_ge C d_S_placeForNext_26 (tgt := 54) (by decide) (n := 29) rfl (fun h26 => absurd h26 (by decide)) (fun h26 => ?_)
        refine go_aload_n C d_S_placeForNext_29 rfl 2 rfl (n := 30) rfl ?_
        refine go_get C d_S_placeForNext_30 fl_S_18 0 rfl rfl (n := 33) rfl ?_
        refine go_iload_n C d_S_placeForNext_33 rfl 0 rfl (n := 34) rfl ?_
        refine go_aald C d_S_placeForNext_34 4 2 rfl rfl rfl (by decide) (n := 35) rfl ?_
        obtain ⟨o35, ho35, hf⟩ := bindS hf
        refine go_callVr C (As := []) (rest := []) d_S_placeForNext_35 (c_Dictionary_isThere l D tc qtd1 qtd1_words qtd1_words_texts qtd1_words_costs td1_number td1_readers td1_states td1_arcs td1_words_size td1_words_texts td1_words_costs ho35 (fun r w => r = some (.int o35) ∧ w = [(qtd1, .inr (1, [.ref qtd1_words, .int td1_number, .int td1_readers, .int td1_states, .int td1_arcs])), (qtd1_words, .inr (6, [.ref qtd1_words_texts, .ref qtd1_words_costs, .int td1_words_size])), (qtd1_words_texts, .inl (tc 1, 24, .inr (.inl td1_words_texts))), (qtd1_words_costs, .inl (tc 0, 24, .inl td1_words_costs))]) ⟨rfl, rfl⟩) lk_S_141 mw_Dictionary_isThere sv_Dictionary_isThere 9 rfl rfl rfl rfl ⟨(Nat.le_of_ble_eq_true rfl), (Nat.le_of_ble_eq_true rfl)⟩ rfl rfl (Nat.le_of_ble_eq_true rfl) ⟨(Nat.le_of_ble_eq_true rfl), (Nat.le_of_ble_eq_true rfl)⟩ [9, 10, 11, 12] rfl (by decide) (n := 38) rfl ?_
        have hi38 := iteS hf
        refine go_if_ne C d_S_placeForNext_38 (tgt := 48) (by decide) (n := 41) rfl (fun h38 => ?_) (fun h38 => ?_)
        · have hf := hi38.2 h38
          refine go_iinc C d_S_placeForNext_48 0 rfl (v := (2 : Int32)) rfl (lv' := [(2, .int (2 : Int32)), (1, .ref qtd0), (0, .ref qt)]) (by decide) rfl (n := 51) rfl ?_
          refine go_goto C d_S_placeForNext_51 (tgt := 24) (by decide) ?_
          refine go_iload_n C d_S_placeForNext_24 rfl 0 rfl (n := 25) rfl ?_
          refine go_iconst C (v := 3) d_S_placeForNext_25 rfl (n := 26) rfl ?_
          refine go_icmp_ge C d_S_placeForNext_26 (tgt := 54) (by decide) (n := 29) rfl (fun h26 => absurd h26 (by decide)) (fun h26 => ?_)
          refine go_aload_n C d_S_placeForNext_29 rfl 2 rfl (n := 30) rfl ?_
          refine go_get C d_S_placeForNext_30 fl_S_18 0 rfl rfl (n := 33) rfl ?_
          refine go_iload_n C d_S_placeForNext_33 rfl 0 rfl (n := 34) rfl ?_
          refine go_aald C d_S_placeForNext_34 4 2 rfl rfl rfl (by decide) (n := 35) rfl ?_
          obtain ⟨o35, ho35, hf⟩ := bindS hf
          refine go_callVr C (As := []) (rest := []) d_S_placeForNext_35 (c_Dictionary_isThere l D tc qtd2 qtd2_words qtd2_words_texts qtd2_words_costs td2_number td2_readers td2_states td2_arcs td2_words_size td2_words_texts td2_words_costs ho35 (fun r w => r = some (.int o35) ∧ w = [(qtd2, .inr (1, [.ref qtd2_words, .int td2_number, .int td2_readers, .int td2_states, .int td2_arcs])), (qtd2_words, .inr (6, [.ref qtd2_words_texts, .ref qtd2_words_costs, .int td2_words_size])), (qtd2_words_texts, .inl (tc 1, 24, .inr (.inl td2_words_texts))), (qtd2_words_costs, .inl (tc 0, 24, .inl td2_words_costs))]) ⟨rfl, rfl⟩) lk_S_141 mw_Dictionary_isThere sv_Dictionary_isThere 13 rfl rfl rfl rfl ⟨(Nat.le_of_ble_eq_true rfl), (Nat.le_of_ble_eq_true rfl)⟩ rfl rfl (Nat.le_of_ble_eq_true rfl) ⟨(Nat.le_of_ble_eq_true rfl), (Nat.le_of_ble_eq_true rfl)⟩ [13, 14, 15, 16] rfl (by decide) (n := 38) rfl ?_
          have hi38 := iteS hf
          refine go_if_ne C d_S_placeForNext_38 (tgt := 48) (by decide) (n := 41) rfl (fun h38 => ?_) (fun h38 => ?_)
          · have hf := hi38.2 h38
            refine go_iinc C d_S_placeForNext_48 0 rfl (v := (3 : Int32)) rfl (lv' := [(2, .int (3 : Int32)), (1, .ref qtd0), (0, .ref qt)]) (by decide) rfl (n := 51) rfl ?_
            refine go_goto C d_S_placeForNext_51 (tgt := 24) (by decide) ?_
            refine go_iload_n C d_S_placeForNext_24 rfl 0 rfl (n := 25) rfl ?_
            refine go_iconst C (v := 3) d_S_placeForNext_25 rfl (n := 26) rfl ?_
            refine go_icmp_ge C d_S_placeForNext_26 (tgt := 54) (by decide) (n := 29) rfl (fun h26 => ?_) (fun h26 => absurd h26 (by decide))
            refine go_null C d_S_placeForNext_54 (n := 55) rfl ?_
            cases hf
            exact go_aret C d_S_placeForNext_55 hr (Or.inl ⟨_, rfl⟩) (Or.inl rfl) hPOST
          · have hf := hi38.1 h38
            refine go_aload_n C d_S_placeForNext_41 rfl 2 rfl (n := 42) rfl ?_
            refine go_get C d_S_placeForNext_42 fl_S_18 0 rfl rfl (n := 45) rfl ?_
            refine go_iload_n C d_S_placeForNext_45 rfl 0 rfl (n := 46) rfl ?_
            refine go_aald C d_S_placeForNext_46 4 2 rfl rfl rfl (by decide) (n := 47) rfl ?_
            cases hf
            exact go_aret C d_S_placeForNext_47 hr (Or.inl ⟨_, rfl⟩) (Or.inr ⟨_, rfl⟩) hPOST
        · have hf := hi38.1 h38
          refine go_aload_n C d_S_placeForNext_41 rfl 2 rfl (n := 42) rfl ?_
          refine go_get C d_S_placeForNext_42 fl_S_18 0 rfl rfl (n := 45) rfl ?_
          refine go_iload_n C d_S_placeForNext_45 rfl 0 rfl (n := 46) rfl ?_
          refine go_aald C d_S_placeForNext_46 4 2 rfl rfl rfl (by decide) (n := 47) rfl ?_
          cases hf
          exact go_aret C d_S_placeForNext_47 hr (Or.inl ⟨_, rfl⟩) (Or.inr ⟨_, rfl⟩) hPOST
      · have hf := hi38.1 h38
        refine go_aload_n C d_S_placeForNext_41 rfl 2 rfl (n := 42) rfl ?_
        refine go_get C d_S_placeForNext_42 fl_S_18 0 rfl rfl (n := 45) rfl ?_
        refine go_iload_n C d_S_placeForNext_45 rfl 0 rfl (n := 46) rfl ?_
        refine go_aald C d_S_placeForNext_46 4 2 rfl rfl rfl (by decide) (n := 47) rfl ?_
        cases hf
        exact go_aret C d_S_placeForNext_47 hr (Or.inl ⟨_, rfl⟩) (Or.inr ⟨_, rfl⟩) hPOST
    · have hf := hi17.1 h17
      refine go_aload_n C d_S_placeForNext_20 rfl 0 rfl (n := 21) rfl ?_
      cases hf
      exact go_aret C d_S_placeForNext_21 hr (Or.inl ⟨_, rfl⟩) (Or.inr ⟨_, rfl⟩) hPOST
  · have hf := hm0.2 hq0
    have hm1 := iteS hf
    by_cases hq1 : o5 = 1
    · have hf := hm1.1 hq1
      rw [hq1]
      refine go_eq (st' := [.ref qtd1]) rfl rfl rfl ?_
      refine go_astore_n C d_S_placeForNext_8 rfl (lv' := [(1, .ref qtd1), (0, .ref qt)]) (by decide) rfl (n := 9) rfl ?_
      refine go_aload_n C d_S_placeForNext_9 rfl 0 rfl (n := 10) rfl ?_
      refine go_ifnull C d_S_placeForNext_10 (n := 13) rfl ?_
      refine go_aload_n C d_S_placeForNext_13 rfl 0 rfl (n := 14) rfl ?_
      obtain ⟨o14, ho14, hf⟩ := bindS hf
      refine go_callVr C (As := []) (rest := []) d_S_placeForNext_14 (c_Dictionary_readers l D tc qtd1 qtd1_words qtd1_words_texts qtd1_words_costs td1_number td1_readers td1_states td1_arcs td1_words_size td1_words_texts td1_words_costs ho14 (fun r w => r = some (.int o14) ∧ w = [(qtd1, .inr (1, [.ref qtd1_words, .int td1_number, .int td1_readers, .int td1_states, .int td1_arcs])), (qtd1_words, .inr (6, [.ref qtd1_words_texts, .ref qtd1_words_costs, .int td1_words_size])), (qtd1_words_texts, .inl (tc 1, 24, .inr (.inl td1_words_texts))), (qtd1_words_costs, .inl (tc 0, 24, .inl td1_words_costs))]) ⟨rfl, rfl⟩) lk_S_125 mw_Dictionary_readers sv_Dictionary_readers 9 rfl rfl rfl rfl ⟨(Nat.le_of_ble_eq_true rfl), (Nat.le_of_ble_eq_true rfl)⟩ rfl rfl (Nat.le_of_ble_eq_true rfl) ⟨(Nat.le_of_ble_eq_true rfl), (Nat.le_of_ble_eq_true rfl)⟩ [9, 10, 11, 12] rfl (by decide) (n := 17) rfl ?_
      have hi17 := iteS hf
      refine go_if_ne C d_S_placeForNext_17 (tgt := 22) (by decide) (n := 20) rfl (fun h17 => ?_) (fun h17 => ?_)
      · have hf := hi17.2 h17
        refine go_iconst C (v := 0) d_S_placeForNext_22 rfl (n := 23) rfl ?_
        refine go_istore_n C d_S_placeForNext_23 rfl (lv' := [(2, .int (0 : Int32)), (1, .ref qtd1), (0, .ref qt)]) (by decide) rfl (n := 24) rfl ?_
        refine go_iload_n C d_S_placeForNext_24 rfl 0 rfl (n := 25) rfl ?_
        refine go_iconst C (v := 3) d_S_placeForNext_25 rfl (n := 26) rfl ?_
        refine go_icmp_ge C d_S_placeForNext_26 (tgt := 54) (by decide) (n := 29) rfl (fun h26 => absurd h26 (by decide)) (fun h26 => ?_)
        refine go_aload_n C d_S_placeForNext_29 rfl 2 rfl (n := 30) rfl ?_
        refine go_get C d_S_placeForNext_30 fl_S_18 0 rfl rfl (n := 33) rfl ?_
        refine go_iload_n C d_S_placeForNext_33 rfl 0 rfl (n := 34) rfl ?_
        refine go_aald C d_S_placeForNext_34 4 2 rfl rfl rfl (by decide) (n := 35) rfl ?_
        obtain ⟨o35, ho35, hf⟩ := bindS hf
        refine go_callVr C (As := []) (rest := []) d_S_placeForNext_35 (c_Dictionary_isThere l D tc qtd0 qtd0_words qtd0_words_texts qtd0_words_costs td0_number td0_readers td0_states td0_arcs td0_words_size td0_words_texts td0_words_costs ho35 (fun r w => r = some (.int o35) ∧ w = [(qtd0, .inr (1, [.ref qtd0_words, .int td0_number, .int td0_readers, .int td0_states, .int td0_arcs])), (qtd0_words, .inr (6, [.ref qtd0_words_texts, .ref qtd0_words_costs, .int td0_words_size])), (qtd0_words_texts, .inl (tc 1, 24, .inr (.inl td0_words_texts))), (qtd0_words_costs, .inl (tc 0, 24, .inl td0_words_costs))]) ⟨rfl, rfl⟩) lk_S_141 mw_Dictionary_isThere sv_Dictionary_isThere 5 rfl rfl rfl rfl ⟨(Nat.le_of_ble_eq_true rfl), (Nat.le_of_ble_eq_true rfl)⟩ rfl rfl (Nat.le_of_ble_eq_true rfl) ⟨(Nat.le_of_ble_eq_true rfl), (Nat.le_of_ble_eq_true rfl)⟩ [5, 6, 7, 8] rfl (by decide) (n := 38) rfl ?_
        have hi38 := iteS hf
        refine go_if_ne C d_S_placeForNext_38 (tgt := 48) (by decide) (n := 41) rfl (fun h38 => ?_) (fun h38 => ?_)
        · have hf := hi38.2 h38
          refine go_iinc C d_S_placeForNext_48 0 rfl (v := (1 : Int32)) rfl (lv' := [(2, .int (1 : Int32)), (1, .ref qtd1), (0, .ref qt)]) (by decide) rfl (n := 51) rfl ?_
          refine go_goto C d_S_placeForNext_51 (tgt := 24) (by decide) ?_
          refine go_iload_n C d_S_placeForNext_24 rfl 0 rfl (n := 25) rfl ?_
          refine go_iconst C (v := 3) d_S_placeForNext_25 rfl (n := 26) rfl ?_
          refine go_icmp_ge C d_S_placeForNext_26 (tgt := 54) (by decide) (n := 29) rfl (fun h26 => absurd h26 (by decide)) (fun h26 => ?_)
          refine go_aload_n C d_S_placeForNext_29 rfl 2 rfl (n := 30) rfl ?_
          refine go_get C d_S_placeForNext_30 fl_S_18 0 rfl rfl (n := 33) rfl ?_
          refine go_iload_n C d_S_placeForNext_33 rfl 0 rfl (n := 34) rfl ?_
          refine go_aald C d_S_placeForNext_34 4 2 rfl rfl rfl (by decide) (n := 35) rfl ?_
          obtain ⟨o35, ho35, hf⟩ := bindS hf
          refine go_callVr C (As := []) (rest := []) d_S_placeForNext_35 (c_Dictionary_isThere l D tc qtd1 qtd1_words qtd1_words_texts qtd1_words_costs td1_number td1_readers td1_states td1_arcs td1_words_size td1_words_texts td1_words_costs ho35 (fun r w => r = some (.int o35) ∧ w = [(qtd1, .inr (1, [.ref qtd1_words, .int td1_number, .int td1_readers, .int td1_states, .int td1_arcs])), (qtd1_words, .inr (6, [.ref qtd1_words_texts, .ref qtd1_words_costs, .int td1_words_size])), (qtd1_words_texts, .inl (tc 1, 24, .inr (.inl td1_words_texts))), (qtd1_words_costs, .inl (tc 0, 24, .inl td1_words_costs))]) ⟨rfl, rfl⟩) lk_S_141 mw_Dictionary_isThere sv_Dictionary_isThere 9 rfl rfl rfl rfl ⟨(Nat.le_of_ble_eq_true rfl), (Nat.le_of_ble_eq_true rfl)⟩ rfl rfl (Nat.le_of_ble_eq_true rfl) ⟨(Nat.le_of_ble_eq_true rfl), (Nat.le_of_ble_eq_true rfl)⟩ [9, 10, 11, 12] rfl (by decide) (n := 38) rfl ?_
          have hi38 := iteS hf
          refine go_if_ne C d_S_placeForNext_38 (tgt := 48) (by decide) (n := 41) rfl (fun h38 => ?_) (fun h38 => ?_)
          · have hf := hi38.2 h38
            refine go_iinc C d_S_placeForNext_48 0 rfl (v := (2 : Int32)) rfl (lv' := [(2, .int (2 : Int32)), (1, .ref qtd1), (0, .ref qt)]) (by decide) rfl (n := 51) rfl ?_
            refine go_goto C d_S_placeForNext_51 (tgt := 24) (by decide) ?_
            refine go_iload_n C d_S_placeForNext_24 rfl 0 rfl (n := 25) rfl ?_
            refine go_iconst C (v := 3) d_S_placeForNext_25 rfl (n := 26) rfl ?_
            refine go_icmp_ge C d_S_placeForNext_26 (tgt := 54) (by decide) (n := 29) rfl (fun h26 => absurd h26 (by decide)) (fun h26 => ?_)
            refine go_aload_n C d_S_placeForNext_29 rfl 2 rfl (n := 30) rfl ?_
            refine go_get C d_S_placeForNext_30 fl_S_18 0 rfl rfl (n := 33) rfl ?_
            refine go_iload_n C d_S_placeForNext_33 rfl 0 rfl (n := 34) rfl ?_
            refine go_aald C d_S_placeForNext_34 4 2 rfl rfl rfl (by decide) (n := 35) rfl ?_
            obtain ⟨o35, ho35, hf⟩ := bindS hf
            refine go_callVr C (As := []) (rest := []) d_S_placeForNext_35 (c_Dictionary_isThere l D tc qtd2 qtd2_words qtd2_words_texts qtd2_words_costs td2_number td2_readers td2_states td2_arcs td2_words_size td2_words_texts td2_words_costs ho35 (fun r w => r = some (.int o35) ∧ w = [(qtd2, .inr (1, [.ref qtd2_words, .int td2_number, .int td2_readers, .int td2_states, .int td2_arcs])), (qtd2_words, .inr (6, [.ref qtd2_words_texts, .ref qtd2_words_costs, .int td2_words_size])), (qtd2_words_texts, .inl (tc 1, 24, .inr (.inl td2_words_texts))), (qtd2_words_costs, .inl (tc 0, 24, .inl td2_words_costs))]) ⟨rfl, rfl⟩) lk_S_141 mw_Dictionary_isThere sv_Dictionary_isThere 13 rfl rfl rfl rfl ⟨(Nat.le_of_ble_eq_true rfl), (Nat.le_of_ble_eq_true rfl)⟩ rfl rfl (Nat.le_of_ble_eq_true rfl) ⟨(Nat.le_of_ble_eq_true rfl), (Nat.le_of_ble_eq_true rfl)⟩ [13, 14, 15, 16] rfl (by decide) (n := 38) rfl ?_
            have hi38 := iteS hf
            refine go_if_ne C d_S_placeForNext_38 (tgt := 48) (by decide) (n := 41) rfl (fun h38 => ?_) (fun h38 => ?_)
            · have hf := hi38.2 h38
              refine go_iinc C d_S_placeForNext_48 0 rfl (v := (3 : Int32)) rfl (lv' := [(2, .int (3 : Int32)), (1, .ref qtd1), (0, .ref qt)]) (by decide) rfl (n := 51) rfl ?_
              refine go_goto C d_S_placeForNext_51 (tgt := 24) (by decide) ?_
              refine go_iload_n C d_S_placeForNext_24 rfl 0 rfl (n := 25) rfl ?_
              refine go_iconst C (v := 3) d_S_placeForNext_25 rfl (n := 26) rfl ?_
              refine go_icmp_ge C d_S_placeForNext_26 (tgt := 54) (by decide) (n := 29) rfl (fun h26 => ?_) (fun h26 => absurd h26 (by decide))
              refine go_null C d_S_placeForNext_54 (n := 55) rfl ?_
              cases hf
              exact go_aret C d_S_placeForNext_55 hr (Or.inl ⟨_, rfl⟩) (Or.inl rfl) hPOST
            · have hf := hi38.1 h38
              refine go_aload_n C d_S_placeForNext_41 rfl 2 rfl (n := 42) rfl ?_
              refine go_get C d_S_placeForNext_42 fl_S_18 0 rfl rfl (n := 45) rfl ?_
              refine go_iload_n C d_S_placeForNext_45 rfl 0 rfl (n := 46) rfl ?_
              refine go_aald C d_S_placeForNext_46 4 2 rfl rfl rfl (by decide) (n := 47) rfl ?_
              cases hf
              exact go_aret C d_S_placeForNext_47 hr (Or.inl ⟨_, rfl⟩) (Or.inr ⟨_, rfl⟩) hPOST
          · have hf := hi38.1 h38
            refine go_aload_n C d_S_placeForNext_41 rfl 2 rfl (n := 42) rfl ?_
            refine go_get C d_S_placeForNext_42 fl_S_18 0 rfl rfl (n := 45) rfl ?_
            refine go_iload_n C d_S_placeForNext_45 rfl 0 rfl (n := 46) rfl ?_
            refine go_aald C d_S_placeForNext_46 4 2 rfl rfl rfl (by decide) (n := 47) rfl ?_
            cases hf
            exact go_aret C d_S_placeForNext_47 hr (Or.inl ⟨_, rfl⟩) (Or.inr ⟨_, rfl⟩) hPOST
        · have hf := hi38.1 h38
          refine go_aload_n C d_S_placeForNext_41 rfl 2 rfl (n := 42) rfl ?_
          refine go_get C d_S_placeForNext_42 fl_S_18 0 rfl rfl (n := 45) rfl ?_
          refine go_iload_n C d_S_placeForNext_45 rfl 0 rfl (n := 46) rfl ?_
          refine go_aald C d_S_placeForNext_46 4 2 rfl rfl rfl (by decide) (n := 47) rfl ?_
          cases hf
          exact go_aret C d_S_placeForNext_47 hr (Or.inl ⟨_, rfl⟩) (Or.inr ⟨_, rfl⟩) hPOST
      · have hf := hi17.1 h17
        refine go_aload_n C d_S_placeForNext_20 rfl 0 rfl (n := 21) rfl ?_
        cases hf
        exact go_aret C d_S_placeForNext_21 hr (Or.inl ⟨_, rfl⟩) (Or.inr ⟨_, rfl⟩) hPOST
    · have hf := hm1.2 hq1
      have hm2 := iteS hf
      by_cases hq2 : o5 = 2
      · have hf := hm2.1 hq2
        rw [hq2]
        refine go_eq (st' := [.ref qtd2]) rfl rfl rfl ?_
        refine go_astore_n C d_S_placeForNext_8 rfl (lv' := [(1, .ref qtd2), (0, .ref qt)]) (by decide) rfl (n := 9) rfl ?_
        refine go_aload_n C d_S_placeForNext_9 rfl 0 rfl (n := 10) rfl ?_
        refine go_ifnull C d_S_placeForNext_10 (n := 13) rfl ?_
        refine go_aload_n C d_S_placeForNext_13 rfl 0 rfl (n := 14) rfl ?_
        obtain ⟨o14, ho14, hf⟩ := bindS hf
        refine go_callVr C (As := []) (rest := []) d_S_placeForNext_14 (c_Dictionary_readers l D tc qtd2 qtd2_words qtd2_words_texts qtd2_words_costs td2_number td2_readers td2_states td2_arcs td2_words_size td2_words_texts td2_words_costs ho14 (fun r w => r = some (.int o14) ∧ w = [(qtd2, .inr (1, [.ref qtd2_words, .int td2_number, .int td2_readers, .int td2_states, .int td2_arcs])), (qtd2_words, .inr (6, [.ref qtd2_words_texts, .ref qtd2_words_costs, .int td2_words_size])), (qtd2_words_texts, .inl (tc 1, 24, .inr (.inl td2_words_texts))), (qtd2_words_costs, .inl (tc 0, 24, .inl td2_words_costs))]) ⟨rfl, rfl⟩) lk_S_125 mw_Dictionary_readers sv_Dictionary_readers 13 rfl rfl rfl rfl ⟨(Nat.le_of_ble_eq_true rfl), (Nat.le_of_ble_eq_true rfl)⟩ rfl rfl (Nat.le_of_ble_eq_true rfl) ⟨(Nat.le_of_ble_eq_true rfl), (Nat.le_of_ble_eq_true rfl)⟩ [13, 14, 15, 16] rfl (by decide) (n := 17) rfl ?_
        have hi17 := iteS hf
        refine go_if_ne C d_S_placeForNext_17 (tgt := 22) (by decide) (n := 20) rfl (fun h17 => ?_) (fun h17 => ?_)
        · have hf := hi17.2 h17
          refine go_iconst C (v := 0) d_S_placeForNext_22 rfl (n := 23) rfl ?_
          refine go_istore_n C d_S_placeForNext_23 rfl (lv' := [(2, .int (0 : Int32)), (1, .ref qtd2), (0, .ref qt)]) (by decide) rfl (n := 24) rfl ?_
          refine go_iload_n C d_S_placeForNext_24 rfl 0 rfl (n := 25) rfl ?_
          refine go_iconst C (v := 3) d_S_placeForNext_25 rfl (n := 26) rfl ?_
          refine go_icmp_ge C d_S_placeForNext_26 (tgt := 54) (by decide) (n := 29) rfl (fun h26 => absurd h26 (by decide)) (fun h26 => ?_)
          refine go_aload_n C d_S_placeForNext_29 rfl 2 rfl (n := 30) rfl ?_
          refine go_get C d_S_placeForNext_30 fl_S_18 0 rfl rfl (n := 33) rfl ?_
          refine go_iload_n C d_S_placeForNext_33 rfl 0 rfl (n := 34) rfl ?_
          refine go_aald C d_S_placeForNext_34 4 2 rfl rfl rfl (by decide) (n := 35) rfl ?_
          obtain ⟨o35, ho35, hf⟩ := bindS hf
          refine go_callVr C (As := []) (rest := []) d_S_placeForNext_35 (c_Dictionary_isThere l D tc qtd0 qtd0_words qtd0_words_texts qtd0_words_costs td0_number td0_readers td0_states td0_arcs td0_words_size td0_words_texts td0_words_costs ho35 (fun r w => r = some (.int o35) ∧ w = [(qtd0, .inr (1, [.ref qtd0_words, .int td0_number, .int td0_readers, .int td0_states, .int td0_arcs])), (qtd0_words, .inr (6, [.ref qtd0_words_texts, .ref qtd0_words_costs, .int td0_words_size])), (qtd0_words_texts, .inl (tc 1, 24, .inr (.inl td0_words_texts))), (qtd0_words_costs, .inl (tc 0, 24, .inl td0_words_costs))]) ⟨rfl, rfl⟩) lk_S_141 mw_Dictionary_isThere sv_Dictionary_isThere 5 rfl rfl rfl rfl ⟨(Nat.le_of_ble_eq_true rfl), (Nat.le_of_ble_eq_true rfl)⟩ rfl rfl (Nat.le_of_ble_eq_true rfl) ⟨(Nat.le_of_ble_eq_true rfl), (Nat.le_of_ble_eq_true rfl)⟩ [5, 6, 7, 8] rfl (by decide) (n := 38) rfl ?_
          have hi38 := iteS hf
          refine go_if_ne C d_S_placeForNext_38 (tgt := 48) (by decide) (n := 41) rfl (fun h38 => ?_) (fun h38 => ?_)
          · have hf := hi38.2 h38
            refine go_iinc C d_S_placeForNext_48 0 rfl (v := (1 : Int32)) rfl (lv' := [(2, .int (1 : Int32)), (1, .ref qtd2), (0, .ref qt)]) (by decide) rfl (n := 51) rfl ?_
            refine go_goto C d_S_placeForNext_51 (tgt := 24) (by decide) ?_
            refine go_iload_n C d_S_placeForNext_24 rfl 0 rfl (n := 25) rfl ?_
            refine go_iconst C (v := 3) d_S_placeForNext_25 rfl (n := 26) rfl ?_
            refine go_icmp_ge C d_S_placeForNext_26 (tgt := 54) (by decide) (n := 29) rfl (fun h26 => absurd h26 (by decide)) (fun h26 => ?_)
            refine go_aload_n C d_S_placeForNext_29 rfl 2 rfl (n := 30) rfl ?_
            refine go_get C d_S_placeForNext_30 fl_S_18 0 rfl rfl (n := 33) rfl ?_
            refine go_iload_n C d_S_placeForNext_33 rfl 0 rfl (n := 34) rfl ?_
            refine go_aald C d_S_placeForNext_34 4 2 rfl rfl rfl (by decide) (n := 35) rfl ?_
            obtain ⟨o35, ho35, hf⟩ := bindS hf
            refine go_callVr C (As := []) (rest := []) d_S_placeForNext_35 (c_Dictionary_isThere l D tc qtd1 qtd1_words qtd1_words_texts qtd1_words_costs td1_number td1_readers td1_states td1_arcs td1_words_size td1_words_texts td1_words_costs ho35 (fun r w => r = some (.int o35) ∧ w = [(qtd1, .inr (1, [.ref qtd1_words, .int td1_number, .int td1_readers, .int td1_states, .int td1_arcs])), (qtd1_words, .inr (6, [.ref qtd1_words_texts, .ref qtd1_words_costs, .int td1_words_size])), (qtd1_words_texts, .inl (tc 1, 24, .inr (.inl td1_words_texts))), (qtd1_words_costs, .inl (tc 0, 24, .inl td1_words_costs))]) ⟨rfl, rfl⟩) lk_S_141 mw_Dictionary_isThere sv_Dictionary_isThere 9 rfl rfl rfl rfl ⟨(Nat.le_of_ble_eq_true rfl), (Nat.le_of_ble_eq_true rfl)⟩ rfl rfl (Nat.le_of_ble_eq_true rfl) ⟨(Nat.le_of_ble_eq_true rfl), (Nat.le_of_ble_eq_true rfl)⟩ [9, 10, 11, 12] rfl (by decide) (n := 38) rfl ?_
            have hi38 := iteS hf
            refine go_if_ne C d_S_placeForNext_38 (tgt := 48) (by decide) (n := 41) rfl (fun h38 => ?_) (fun h38 => ?_)
            · have hf := hi38.2 h38
              refine go_iinc C d_S_placeForNext_48 0 rfl (v := (2 : Int32)) rfl (lv' := [(2, .int (2 : Int32)), (1, .ref qtd2), (0, .ref qt)]) (by decide) rfl (n := 51) rfl ?_
              refine go_goto C d_S_placeForNext_51 (tgt := 24) (by decide) ?_
              refine go_iload_n C d_S_placeForNext_24 rfl 0 rfl (n := 25) rfl ?_
              refine go_iconst C (v := 3) d_S_placeForNext_25 rfl (n := 26) rfl ?_
              refine go_icmp_ge C d_S_placeForNext_26 (tgt := 54) (by decide) (n := 29) rfl (fun h26 => absurd h26 (by decide)) (fun h26 => ?_)
              refine go_aload_n C d_S_placeForNext_29 rfl 2 rfl (n := 30) rfl ?_
              refine go_get C d_S_placeForNext_30 fl_S_18 0 rfl rfl (n := 33) rfl ?_
              refine go_iload_n C d_S_placeForNext_33 rfl 0 rfl (n := 34) rfl ?_
              refine go_aald C d_S_placeForNext_34 4 2 rfl rfl rfl (by decide) (n := 35) rfl ?_
              obtain ⟨o35, ho35, hf⟩ := bindS hf
              refine go_callVr C (As := []) (rest := []) d_S_placeForNext_35 (c_Dictionary_isThere l D tc qtd2 qtd2_words qtd2_words_texts qtd2_words_costs td2_number td2_readers td2_states td2_arcs td2_words_size td2_words_texts td2_words_costs ho35 (fun r w => r = some (.int o35) ∧ w = [(qtd2, .inr (1, [.ref qtd2_words, .int td2_number, .int td2_readers, .int td2_states, .int td2_arcs])), (qtd2_words, .inr (6, [.ref qtd2_words_texts, .ref qtd2_words_costs, .int td2_words_size])), (qtd2_words_texts, .inl (tc 1, 24, .inr (.inl td2_words_texts))), (qtd2_words_costs, .inl (tc 0, 24, .inl td2_words_costs))]) ⟨rfl, rfl⟩) lk_S_141 mw_Dictionary_isThere sv_Dictionary_isThere 13 rfl rfl rfl rfl ⟨(Nat.le_of_ble_eq_true rfl), (Nat.le_of_ble_eq_true rfl)⟩ rfl rfl (Nat.le_of_ble_eq_true rfl) ⟨(Nat.le_of_ble_eq_true rfl), (Nat.le_of_ble_eq_true rfl)⟩ [13, 14, 15, 16] rfl (by decide) (n := 38) rfl ?_
              have hi38 := iteS hf
              refine go_if_ne C d_S_placeForNext_38 (tgt := 48) (by decide) (n := 41) rfl (fun h38 => ?_) (fun h38 => ?_)
              · have hf := hi38.2 h38
                refine go_iinc C d_S_placeForNext_48 0 rfl (v := (3 : Int32)) rfl (lv' := [(2, .int (3 : Int32)), (1, .ref qtd2), (0, .ref qt)]) (by decide) rfl (n := 51) rfl ?_
                refine go_goto C d_S_placeForNext_51 (tgt := 24) (by decide) ?_
                refine go_iload_n C d_S_placeForNext_24 rfl 0 rfl (n := 25) rfl ?_
                refine go_iconst C (v := 3) d_S_placeForNext_25 rfl (n := 26) rfl ?_
                refine go_icmp_ge C d_S_placeForNext_26 (tgt := 54) (by decide) (n := 29) rfl (fun h26 => ?_) (fun h26 => absurd h26 (by decide))
                refine go_null C d_S_placeForNext_54 (n := 55) rfl ?_
                cases hf
                exact go_aret C d_S_placeForNext_55 hr (Or.inl ⟨_, rfl⟩) (Or.inl rfl) hPOST
              · have hf := hi38.1 h38
                refine go_aload_n C d_S_placeForNext_41 rfl 2 rfl (n := 42) rfl ?_
                refine go_get C d_S_placeForNext_42 fl_S_18 0 rfl rfl (n := 45) rfl ?_
                refine go_iload_n C d_S_placeForNext_45 rfl 0 rfl (n := 46) rfl ?_
                refine go_aald C d_S_placeForNext_46 4 2 rfl rfl rfl (by decide) (n := 47) rfl ?_
                cases hf
                exact go_aret C d_S_placeForNext_47 hr (Or.inl ⟨_, rfl⟩) (Or.inr ⟨_, rfl⟩) hPOST
            · have hf := hi38.1 h38
              refine go_aload_n C d_S_placeForNext_41 rfl 2 rfl (n := 42) rfl ?_
              refine go_get C d_S_placeForNext_42 fl_S_18 0 rfl rfl (n := 45) rfl ?_
              refine go_iload_n C d_S_placeForNext_45 rfl 0 rfl (n := 46) rfl ?_
              refine go_aald C d_S_placeForNext_46 4 2 rfl rfl rfl (by decide) (n := 47) rfl ?_
              cases hf
              exact go_aret C d_S_placeForNext_47 hr (Or.inl ⟨_, rfl⟩) (Or.inr ⟨_, rfl⟩) hPOST
          · have hf := hi38.1 h38
            refine go_aload_n C d_S_placeForNext_41 rfl 2 rfl (n := 42) rfl ?_
            refine go_get C d_S_placeForNext_42 fl_S_18 0 rfl rfl (n := 45) rfl ?_
            refine go_iload_n C d_S_placeForNext_45 rfl 0 rfl (n := 46) rfl ?_
            refine go_aald C d_S_placeForNext_46 4 2 rfl rfl rfl (by decide) (n := 47) rfl ?_
            cases hf
            exact go_aret C d_S_placeForNext_47 hr (Or.inl ⟨_, rfl⟩) (Or.inr ⟨_, rfl⟩) hPOST
        · have hf := hi17.1 h17
          refine go_aload_n C d_S_placeForNext_20 rfl 0 rfl (n := 21) rfl ?_
          cases hf
          exact go_aret C d_S_placeForNext_21 hr (Or.inl ⟨_, rfl⟩) (Or.inr ⟨_, rfl⟩) hPOST
      · have hf := hm2.2 hq2
        rw [dref_n hq0 hq1 hq2]
        refine go_eq (st' := [.null]) rfl rfl rfl ?_
        refine go_astore_nN C d_S_placeForNext_8 rfl (lv' := [(1, .null), (0, .ref qt)]) (by decide) rfl (n := 9) rfl ?_
        refine go_aload_nN C d_S_placeForNext_9 rfl 0 rfl (n := 10) rfl ?_
        refine go_ifnullN C d_S_placeForNext_10 (tgt := 22) (by decide) ?_
        refine go_iconst C (v := 0) d_S_placeForNext_22 rfl (n := 23) rfl ?_
        refine go_istore_n C d_S_placeForNext_23 rfl (lv' := [(2, .int (0 : Int32)), (1, .null), (0, .ref qt)]) (by decide) rfl (n := 24) rfl ?_
        refine go_iload_n C d_S_placeForNext_24 rfl 0 rfl (n := 25) rfl ?_
        refine go_iconst C (v := 3) d_S_placeForNext_25 rfl (n := 26) rfl ?_
        refine go_icmp_ge C d_S_placeForNext_26 (tgt := 54) (by decide) (n := 29) rfl (fun h26 => absurd h26 (by decide)) (fun h26 => ?_)
        refine go_aload_n C d_S_placeForNext_29 rfl 2 rfl (n := 30) rfl ?_
        refine go_get C d_S_placeForNext_30 fl_S_18 0 rfl rfl (n := 33) rfl ?_
        refine go_iload_n C d_S_placeForNext_33 rfl 0 rfl (n := 34) rfl ?_
        refine go_aald C d_S_placeForNext_34 4 2 rfl rfl rfl (by decide) (n := 35) rfl ?_
        obtain ⟨o35, ho35, hf⟩ := bindS hf
        refine go_callVr C (As := []) (rest := []) d_S_placeForNext_35 (c_Dictionary_isThere l D tc qtd0 qtd0_words qtd0_words_texts qtd0_words_costs td0_number td0_readers td0_states td0_arcs td0_words_size td0_words_texts td0_words_costs ho35 (fun r w => r = some (.int o35) ∧ w = [(qtd0, .inr (1, [.ref qtd0_words, .int td0_number, .int td0_readers, .int td0_states, .int td0_arcs])), (qtd0_words, .inr (6, [.ref qtd0_words_texts, .ref qtd0_words_costs, .int td0_words_size])), (qtd0_words_texts, .inl (tc 1, 24, .inr (.inl td0_words_texts))), (qtd0_words_costs, .inl (tc 0, 24, .inl td0_words_costs))]) ⟨rfl, rfl⟩) lk_S_141 mw_Dictionary_isThere sv_Dictionary_isThere 5 rfl rfl rfl rfl ⟨(Nat.le_of_ble_eq_true rfl), (Nat.le_of_ble_eq_true rfl)⟩ rfl rfl (Nat.le_of_ble_eq_true rfl) ⟨(Nat.le_of_ble_eq_true rfl), (Nat.le_of_ble_eq_true rfl)⟩ [5, 6, 7, 8] rfl (by decide) (n := 38) rfl ?_
        have hi38 := iteS hf
        refine go_if_ne C d_S_placeForNext_38 (tgt := 48) (by decide) (n := 41) rfl (fun h38 => ?_) (fun h38 => ?_)
        · have hf := hi38.2 h38
          refine go_iinc C d_S_placeForNext_48 0 rfl (v := (1 : Int32)) rfl (lv' := [(2, .int (1 : Int32)), (1, .null), (0, .ref qt)]) (by decide) rfl (n := 51) rfl ?_
          refine go_goto C d_S_placeForNext_51 (tgt := 24) (by decide) ?_
          refine go_iload_n C d_S_placeForNext_24 rfl 0 rfl (n := 25) rfl ?_
          refine go_iconst C (v := 3) d_S_placeForNext_25 rfl (n := 26) rfl ?_
          refine go_icmp_ge C d_S_placeForNext_26 (tgt := 54) (by decide) (n := 29) rfl (fun h26 => absurd h26 (by decide)) (fun h26 => ?_)
          refine go_aload_n C d_S_placeForNext_29 rfl 2 rfl (n := 30) rfl ?_
          refine go_get C d_S_placeForNext_30 fl_S_18 0 rfl rfl (n := 33) rfl ?_
          refine go_iload_n C d_S_placeForNext_33 rfl 0 rfl (n := 34) rfl ?_
          refine go_aald C d_S_placeForNext_34 4 2 rfl rfl rfl (by decide) (n := 35) rfl ?_
          obtain ⟨o35, ho35, hf⟩ := bindS hf
          refine go_callVr C (As := []) (rest := []) d_S_placeForNext_35 (c_Dictionary_isThere l D tc qtd1 qtd1_words qtd1_words_texts qtd1_words_costs td1_number td1_readers td1_states td1_arcs td1_words_size td1_words_texts td1_words_costs ho35 (fun r w => r = some (.int o35) ∧ w = [(qtd1, .inr (1, [.ref qtd1_words, .int td1_number, .int td1_readers, .int td1_states, .int td1_arcs])), (qtd1_words, .inr (6, [.ref qtd1_words_texts, .ref qtd1_words_costs, .int td1_words_size])), (qtd1_words_texts, .inl (tc 1, 24, .inr (.inl td1_words_texts))), (qtd1_words_costs, .inl (tc 0, 24, .inl td1_words_costs))]) ⟨rfl, rfl⟩) lk_S_141 mw_Dictionary_isThere sv_Dictionary_isThere 9 rfl rfl rfl rfl ⟨(Nat.le_of_ble_eq_true rfl), (Nat.le_of_ble_eq_true rfl)⟩ rfl rfl (Nat.le_of_ble_eq_true rfl) ⟨(Nat.le_of_ble_eq_true rfl), (Nat.le_of_ble_eq_true rfl)⟩ [9, 10, 11, 12] rfl (by decide) (n := 38) rfl ?_
          have hi38 := iteS hf
          refine go_if_ne C d_S_placeForNext_38 (tgt := 48) (by decide) (n := 41) rfl (fun h38 => ?_) (fun h38 => ?_)
          · have hf := hi38.2 h38
            refine go_iinc C d_S_placeForNext_48 0 rfl (v := (2 : Int32)) rfl (lv' := [(2, .int (2 : Int32)), (1, .null), (0, .ref qt)]) (by decide) rfl (n := 51) rfl ?_
            refine go_goto C d_S_placeForNext_51 (tgt := 24) (by decide) ?_
            refine go_iload_n C d_S_placeForNext_24 rfl 0 rfl (n := 25) rfl ?_
            refine go_iconst C (v := 3) d_S_placeForNext_25 rfl (n := 26) rfl ?_
            refine go_icmp_ge C d_S_placeForNext_26 (tgt := 54) (by decide) (n := 29) rfl (fun h26 => absurd h26 (by decide)) (fun h26 => ?_)
            refine go_aload_n C d_S_placeForNext_29 rfl 2 rfl (n := 30) rfl ?_
            refine go_get C d_S_placeForNext_30 fl_S_18 0 rfl rfl (n := 33) rfl ?_
            refine go_iload_n C d_S_placeForNext_33 rfl 0 rfl (n := 34) rfl ?_
            refine go_aald C d_S_placeForNext_34 4 2 rfl rfl rfl (by decide) (n := 35) rfl ?_
            obtain ⟨o35, ho35, hf⟩ := bindS hf
            refine go_callVr C (As := []) (rest := []) d_S_placeForNext_35 (c_Dictionary_isThere l D tc qtd2 qtd2_words qtd2_words_texts qtd2_words_costs td2_number td2_readers td2_states td2_arcs td2_words_size td2_words_texts td2_words_costs ho35 (fun r w => r = some (.int o35) ∧ w = [(qtd2, .inr (1, [.ref qtd2_words, .int td2_number, .int td2_readers, .int td2_states, .int td2_arcs])), (qtd2_words, .inr (6, [.ref qtd2_words_texts, .ref qtd2_words_costs, .int td2_words_size])), (qtd2_words_texts, .inl (tc 1, 24, .inr (.inl td2_words_texts))), (qtd2_words_costs, .inl (tc 0, 24, .inl td2_words_costs))]) ⟨rfl, rfl⟩) lk_S_141 mw_Dictionary_isThere sv_Dictionary_isThere 13 rfl rfl rfl rfl ⟨(Nat.le_of_ble_eq_true rfl), (Nat.le_of_ble_eq_true rfl)⟩ rfl rfl (Nat.le_of_ble_eq_true rfl) ⟨(Nat.le_of_ble_eq_true rfl), (Nat.le_of_ble_eq_true rfl)⟩ [13, 14, 15, 16] rfl (by decide) (n := 38) rfl ?_
            have hi38 := iteS hf
            refine go_if_ne C d_S_placeForNext_38 (tgt := 48) (by decide) (n := 41) rfl (fun h38 => ?_) (fun h38 => ?_)
            · have hf := hi38.2 h38
              refine go_iinc C d_S_placeForNext_48 0 rfl (v := (3 : Int32)) rfl (lv' := [(2, .int (3 : Int32)), (1, .null), (0, .ref qt)]) (by decide) rfl (n := 51) rfl ?_
              refine go_goto C d_S_placeForNext_51 (tgt := 24) (by decide) ?_
              refine go_iload_n C d_S_placeForNext_24 rfl 0 rfl (n := 25) rfl ?_
              refine go_iconst C (v := 3) d_S_placeForNext_25 rfl (n := 26) rfl ?_
              refine go_icmp_ge C d_S_placeForNext_26 (tgt := 54) (by decide) (n := 29) rfl (fun h26 => ?_) (fun h26 => absurd h26 (by decide))
              refine go_null C d_S_placeForNext_54 (n := 55) rfl ?_
              cases hf
              exact go_aret C d_S_placeForNext_55 hr (Or.inl ⟨_, rfl⟩) (Or.inl rfl) hPOST
            · have hf := hi38.1 h38
              refine go_aload_n C d_S_placeForNext_41 rfl 2 rfl (n := 42) rfl ?_
              refine go_get C d_S_placeForNext_42 fl_S_18 0 rfl rfl (n := 45) rfl ?_
              refine go_iload_n C d_S_placeForNext_45 rfl 0 rfl (n := 46) rfl ?_
              refine go_aald C d_S_placeForNext_46 4 2 rfl rfl rfl (by decide) (n := 47) rfl ?_
              cases hf
              exact go_aret C d_S_placeForNext_47 hr (Or.inl ⟨_, rfl⟩) (Or.inr ⟨_, rfl⟩) hPOST
          · have hf := hi38.1 h38
            refine go_aload_n C d_S_placeForNext_41 rfl 2 rfl (n := 42) rfl ?_
            refine go_get C d_S_placeForNext_42 fl_S_18 0 rfl rfl (n := 45) rfl ?_
            refine go_iload_n C d_S_placeForNext_45 rfl 0 rfl (n := 46) rfl ?_
            refine go_aald C d_S_placeForNext_46 4 2 rfl rfl rfl (by decide) (n := 47) rfl ?_
            cases hf
            exact go_aret C d_S_placeForNext_47 hr (Or.inl ⟨_, rfl⟩) (Or.inr ⟨_, rfl⟩) hPOST
        · have hf := hi38.1 h38
          refine go_aload_n C d_S_placeForNext_41 rfl 2 rfl (n := 42) rfl ?_
          refine go_get C d_S_placeForNext_42 fl_S_18 0 rfl rfl (n := 45) rfl ?_
          refine go_iload_n C d_S_placeForNext_45 rfl 0 rfl (n := 46) rfl ?_
          refine go_aald C d_S_placeForNext_46 4 2 rfl rfl rfl (by decide) (n := 47) rfl ?_
          cases hf
          exact go_aret C d_S_placeForNext_47 hr (Or.inl ⟨_, rfl⟩) (Or.inr ⟨_, rfl⟩) hPOST
