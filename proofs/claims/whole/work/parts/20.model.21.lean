def f_M_gather_122 (rec : (Nat → Int32) → (Nat → Int32) → (Nat → Int64) → (Nat → Int32) → Int32 → Option ((Nat → Int32) × (Nat → Int32) × (Nat → Int64) × (Nat → Int32))) (t_size : Nat → Int32) (t_words : Nat → Int64) (t_costs : Nat → Int32) (t_phrase : Nat → Int64) (a0 : Int32) (a1 : Int32) (v_t_table : Nat → Int32) (v_t_many : Nat → Int32) (v_t_candidates : Nat → Int64) (v_t_alone : Nat → Int32) (l3 : Int32) : Option ((Nat → Int32) × (Nat → Int32) × (Nat → Int64) × (Nat → Int32)) :=
  rec v_t_table v_t_many v_t_candidates v_t_alone (l3 + (1 : Int32))
def f_M_gather_9b (t_size : Nat → Int32) (t_words : Nat → Int64) (t_costs : Nat → Int32) (t_phrase : Nat → Int64) (a0 : Int32) (a1 : Int32) (rec : (Nat → Int32) → (Nat → Int32) → (Nat → Int64) → (Nat → Int32) → Int32 → Option ((Nat → Int32) × (Nat → Int32) × (Nat → Int64) × (Nat → Int32))) (v_t_table : Nat → Int32) (v_t_many : Nat → Int32) (v_t_candidates : Nat → Int64) (v_t_alone : Nat → Int32) (l3 : Int32) : Option ((Nat → Int32) × (Nat → Int32) × (Nat → Int64) × (Nat → Int32)) :=
  if okI a0 3 = true then if (t_size a0.toNatClampNeg) ≤ l3 then some ( (v_t_table, v_t_many, v_t_candidates, v_t_alone)) else if okI a1 4 = true then if okI (((24 : Int32) * a0) + l3) 72 = true then (f_M_distanceOf v_t_table (t_phrase a1.toNatClampNeg) (t_words (((24 : Int32) * a0) + l3).toNatClampNeg)).bind (fun o37 => if o37.1 ≤ (1 : Int32) then if okI a1 4 = true then if okI (((24 : Int32) * a0) + l3) 72 = true then if okI (((24 : Int32) * a1) + (v_t_many a1.toNatClampNeg)) 96 = true then if okI a1 4 = true then if okI (((24 : Int32) * a0) + l3) 72 = true then if okI (((24 : Int32) * a1) + (v_t_many a1.toNatClampNeg)) 96 = true then if okI a1 4 = true then if okI a1 4 = true then f_M_gather_122 rec t_size t_words t_costs t_phrase a0 a1 o37.2 (upd v_t_many a1.toNatClampNeg ((v_t_many a1.toNatClampNeg) + (1 : Int32))) (vp_updL v_t_candidates (((24 : Int32) * a1) + (v_t_many a1.toNatClampNeg)).toNatClampNeg (t_words (((24 : Int32) * a0) + l3).toNatClampNeg)) (upd v_t_alone (((24 : Int32) * a1) + (v_t_many a1.toNatClampNeg)).toNatClampNeg (((3000 : Int32) * o37.1) + (t_costs (((24 : Int32) * a0) + l3).toNatClampNeg))) l3 else none else none else none else none else none else none else none else none else f_M_gather_122 rec t_size t_words t_costs t_phrase a0 a1 o37.2 v_t_many v_t_candidates v_t_alone l3) else none else none else none
def f_M_gather_9 (t_size : Nat → Int32) (t_words : Nat → Int64) (t_costs : Nat → Int32) (t_phrase : Nat → Int64) (a0 : Int32) (a1 : Int32) : Nat → (Nat → Int32) → (Nat → Int32) → (Nat → Int64) → (Nat → Int32) → Int32 → Option ((Nat → Int32) × (Nat → Int32) × (Nat → Int64) × (Nat → Int32))
  | 0 => fun _ _ _ _ _ => none
  | n + 1 => f_M_gather_9b t_size t_words t_costs t_phrase a0 a1 (f_M_gather_9 t_size t_words t_costs t_phrase a0 a1 n)
def f_M_gather (t_size : Nat → Int32) (t_words : Nat → Int64) (t_costs : Nat → Int32) (t_table : Nat → Int32) (t_phrase : Nat → Int64) (t_many : Nat → Int32) (t_candidates : Nat → Int64) (t_alone : Nat → Int32) (a0 : Int32) (a1 : Int32) : Option ((Nat → Int32) × (Nat → Int32) × (Nat → Int64) × (Nat → Int32)) :=
  if okI a1 4 = true then (f_M_gather_9 t_size t_words t_costs t_phrase a0 a1 FU t_table (upd t_many a1.toNatClampNeg (0 : Int32)) t_candidates t_alone (0 : Int32)).bind (fun x9 => if okI a1 4 = true then if (x9.2.1 a1.toNatClampNeg) ≤ 0 then if okI a1 4 = true then if okI a1 4 = true then if okI ((24 : Int32) * a1) 96 = true then if okI ((24 : Int32) * a1) 96 = true then some (x9.1, upd x9.2.1 a1.toNatClampNeg (1 : Int32), vp_updL x9.2.2.1 ((24 : Int32) * a1).toNatClampNeg (t_phrase a1.toNatClampNeg), upd x9.2.2.2 ((24 : Int32) * a1).toNatClampNeg (20000 : Int32)) else none else none else none else none else some (x9.1, x9.2.1, x9.2.2.1, x9.2.2.2) else none) else none
set_option maxRecDepth 100000 in
set_option maxHeartbeats 4000000 in
theorem c_M_gather (l : Launch) (D : va_G) (tc : Nat → ClassId) (qt : Nat) (qt_draft : Nat) (qt_weight : Nat) (qt_number : Nat) (qt_size : Nat) (qt_readers : Nat) (qt_words : Nat) (qt_costs : Nat) (qt_states : Nat) (qt_arcs : Nat) (qt_from : Nat) (qt_letters : Nat) (qt_end : Nat) (qt_lowest : Nat) (qt_key : Nat) (qt_given : Nat) (qt_keys : Nat) (qt_table : Nat) (qt_first : Nat) (qt_second : Nat) (qt_learnt : Nat) (qt_phrase : Nat) (qt_corrected : Nat) (qt_many : Nat) (qt_candidates : Nat) (qt_alone : Nat) (qt_choice : Nat) (t_thrown : Int32) (t_drafted : Int32) (t_there : Int32) (t_made : Int32) (t_beginnings : Int32) (t_givenSize : Int32) (t_pairs : Int32) (t_said : Int32) (t_answered : Int32) (t_draft : Nat → Int64) (t_weight : Nat → Int32) (t_number : Nat → Int32) (t_size : Nat → Int32) (t_readers : Nat → Int32) (t_words : Nat → Int64) (t_costs : Nat → Int32) (t_states : Nat → Int32) (t_arcs : Nat → Int32) (t_from : Nat → Int32) (t_letters : Nat → Int32) (t_end : Nat → Int32) (t_lowest : Nat → Int32) (t_key : Nat → Int64) (t_given : Nat → Int64) (t_keys : Nat → Int32) (t_table : Nat → Int32) (t_first : Nat → Int64) (t_second : Nat → Int64) (t_learnt : Nat → Int32) (t_phrase : Nat → Int64) (t_corrected : Nat → Int64) (t_many : Nat → Int32) (t_candidates : Nat → Int64) (t_alone : Nat → Int32) (t_choice : Nat → Int32) (a0 : Int32) (a1 : Int32) {o : ((Nat → Int32) × (Nat → Int32) × (Nat → Int64) × (Nat → Int32))} (hf : f_M_gather t_size t_words t_costs t_table t_phrase t_many t_candidates t_alone a0 a1 = some o) (POST : Option Value → va_W → Prop) (hPOST : POST none [(qt, .inr (8, [.int t_thrown, .int t_drafted, .ref qt_draft, .ref qt_weight, .int t_there, .int t_made, .ref qt_number, .ref qt_size, .ref qt_readers, .ref qt_words, .ref qt_costs, .ref qt_states, .ref qt_arcs, .int t_beginnings, .ref qt_from, .ref qt_letters, .ref qt_end, .ref qt_lowest, .ref qt_key, .int t_givenSize, .ref qt_given, .ref qt_keys, .ref qt_table, .int t_pairs, .ref qt_first, .ref qt_second, .ref qt_learnt, .int t_said, .ref qt_phrase, .int t_answered, .ref qt_corrected, .ref qt_many, .ref qt_candidates, .ref qt_alone, .ref qt_choice])), (qt_draft, .inl (tc 1, 24, .inr (.inl t_draft))), (qt_weight, .inl (tc 0, 24, .inl t_weight)), (qt_number, .inl (tc 0, 3, .inl t_number)), (qt_size, .inl (tc 0, 3, .inl t_size)), (qt_readers, .inl (tc 0, 3, .inl t_readers)), (qt_words, .inl (tc 1, 72, .inr (.inl t_words))), (qt_costs, .inl (tc 0, 72, .inl t_costs)), (qt_states, .inl (tc 0, 3, .inl t_states)), (qt_arcs, .inl (tc 0, 3, .inl t_arcs)), (qt_from, .inl (tc 0, 216, .inl t_from)), (qt_letters, .inl (tc 0, 216, .inl t_letters)), (qt_end, .inl (tc 0, 216, .inl t_end)), (qt_lowest, .inl (tc 0, 216, .inl t_lowest)), (qt_key, .inl (tc 1, 216, .inr (.inl t_key))), (qt_given, .inl (tc 1, 24, .inr (.inl t_given))), (qt_keys, .inl (tc 0, 24, .inl t_keys)), (qt_table, .inl (tc 0, 81, .inl o.1)), (qt_first, .inl (tc 1, 40, .inr (.inl t_first))), (qt_second, .inl (tc 1, 40, .inr (.inl t_second))), (qt_learnt, .inl (tc 0, 40, .inl t_learnt)), (qt_phrase, .inl (tc 1, 4, .inr (.inl t_phrase))), (qt_corrected, .inl (tc 1, 4, .inr (.inl t_corrected))), (qt_many, .inl (tc 0, 4, .inl o.2.1)), (qt_candidates, .inl (tc 1, 96, .inr (.inl o.2.2.1))), (qt_alone, .inl (tc 0, 96, .inl o.2.2.2)), (qt_choice, .inl (tc 0, 4, .inl t_choice))]) : Std l y_M_gather (.code y_M_gather b_M_gather 5 none) { frames := 3, cells := 0, slots := 0, locals := 75 } D tc [.ref qt, .int a0, .int a1] [(qt, .inr (8, [.int t_thrown, .int t_drafted, .ref qt_draft, .ref qt_weight, .int t_there, .int t_made, .ref qt_number, .ref qt_size, .ref qt_readers, .ref qt_words, .ref qt_costs, .ref qt_states, .ref qt_arcs, .int t_beginnings, .ref qt_from, .ref qt_letters, .ref qt_end, .ref qt_lowest, .ref qt_key, .int t_givenSize, .ref qt_given, .ref qt_keys, .ref qt_table, .int t_pairs, .ref qt_first, .ref qt_second, .ref qt_learnt, .int t_said, .ref qt_phrase, .int t_answered, .ref qt_corrected, .ref qt_many, .ref qt_candidates, .ref qt_alone, .ref qt_choice])), (qt_draft, .inl (tc 1, 24, .inr (.inl t_draft))), (qt_weight, .inl (tc 0, 24, .inl t_weight)), (qt_number, .inl (tc 0, 3, .inl t_number)), (qt_size, .inl (tc 0, 3, .inl t_size)), (qt_readers, .inl (tc 0, 3, .inl t_readers)), (qt_words, .inl (tc 1, 72, .inr (.inl t_words))), (qt_costs, .inl (tc 0, 72, .inl t_costs)), (qt_states, .inl (tc 0, 3, .inl t_states)), (qt_arcs, .inl (tc 0, 3, .inl t_arcs)), (qt_from, .inl (tc 0, 216, .inl t_from)), (qt_letters, .inl (tc 0, 216, .inl t_letters)), (qt_end, .inl (tc 0, 216, .inl t_end)), (qt_lowest, .inl (tc 0, 216, .inl t_lowest)), (qt_key, .inl (tc 1, 216, .inr (.inl t_key))), (qt_given, .inl (tc 1, 24, .inr (.inl t_given))), (qt_keys, .inl (tc 0, 24, .inl t_keys)), (qt_table, .inl (tc 0, 81, .inl t_table)), (qt_first, .inl (tc 1, 40, .inr (.inl t_first))), (qt_second, .inl (tc 1, 40, .inr (.inl t_second))), (qt_learnt, .inl (tc 0, 40, .inl t_learnt)), (qt_phrase, .inl (tc 1, 4, .inr (.inl t_phrase))), (qt_corrected, .inl (tc 1, 4, .inr (.inl t_corrected))), (qt_many, .inl (tc 0, 4, .inl t_many)), (qt_candidates, .inl (tc 1, 96, .inr (.inl t_candidates))), (qt_alone, .inl (tc 0, 96, .inl t_alone)), (qt_choice, .inl (tc 0, 4, .inl t_choice))] 0 0 POST := by
  refine std_of (lv := [(0, .ref qt), (1, .int a0), (2, .int a1)]) (by decide) (Nat.le_of_ble_eq_true rfl) rfl (fun p e s m args below meth c A C hr hnm => ?_)
  have K9 : ∀ (n : Nat) (v_t_table : Nat → Int32) (v_t_many : Nat → Int32) (v_t_candidates : Nat → Int64) (v_t_alone : Nat → Int32) (l3 : Int32) (x : ((Nat → Int32) × (Nat → Int32) × (Nat → Int64) × (Nat → Int32))), f_M_gather_9 t_size t_words t_costs t_phrase a0 a1 n v_t_table v_t_many v_t_candidates v_t_alone l3 = some x → (Go p l e { frames := 3, cells := 0, slots := 0, locals := 75 } s m args below meth c (MQ below (Qs D A POST) args s 0 0 A) D A 5 0 0 [(qt, .inr (8, [.int t_thrown, .int t_drafted, .ref qt_draft, .ref qt_weight, .int t_there, .int t_made, .ref qt_number, .ref qt_size, .ref qt_readers, .ref qt_words, .ref qt_costs, .ref qt_states, .ref qt_arcs, .int t_beginnings, .ref qt_from, .ref qt_letters, .ref qt_end, .ref qt_lowest, .ref qt_key, .int t_givenSize, .ref qt_given, .ref qt_keys, .ref qt_table, .int t_pairs, .ref qt_first, .ref qt_second, .ref qt_learnt, .int t_said, .ref qt_phrase, .int t_answered, .ref qt_corrected, .ref qt_many, .ref qt_candidates, .ref qt_alone, .ref qt_choice])), (qt_draft, .inl (tc 1, 24, .inr (.inl t_draft))), (qt_weight, .inl (tc 0, 24, .inl t_weight)), (qt_number, .inl (tc 0, 3, .inl t_number)), (qt_size, .inl (tc 0, 3, .inl t_size)), (qt_readers, .inl (tc 0, 3, .inl t_readers)), (qt_words, .inl (tc 1, 72, .inr (.inl t_words))), (qt_costs, .inl (tc 0, 72, .inl t_costs)), (qt_states, .inl (tc 0, 3, .inl t_states)), (qt_arcs, .inl (tc 0, 3, .inl t_arcs)), (qt_from, .inl (tc 0, 216, .inl t_from)), (qt_letters, .inl (tc 0, 216, .inl t_letters)), (qt_end, .inl (tc 0, 216, .inl t_end)), (qt_lowest, .inl (tc 0, 216, .inl t_lowest)), (qt_key, .inl (tc 1, 216, .inr (.inl t_key))), (qt_given, .inl (tc 1, 24, .inr (.inl t_given))), (qt_keys, .inl (tc 0, 24, .inl t_keys)), (qt_table, .inl (tc 0, 81, .inl x.1)), (qt_first, .inl (tc 1, 40, .inr (.inl t_first))), (qt_second, .inl (tc 1, 40, .inr (.inl t_second))), (qt_learnt, .inl (tc 0, 40, .inl t_learnt)), (qt_phrase, .inl (tc 1, 4, .inr (.inl t_phrase))), (qt_corrected, .inl (tc 1, 4, .inr (.inl t_corrected))), (qt_many, .inl (tc 0, 4, .inl x.2.1)), (qt_candidates, .inl (tc 1, 96, .inr (.inl x.2.2.1))), (qt_alone, .inl (tc 0, 96, .inl x.2.2.2)), (qt_choice, .inl (tc 0, 4, .inl t_choice))] [(0, .ref qt), (2, .int a1)] 128 []) → Go p l e { frames := 3, cells := 0, slots := 0, locals := 75 } s m args below meth c (MQ below (Qs D A POST) args s 0 0 A) D A 5 0 0 [(qt, .inr (8, [.int t_thrown, .int t_drafted, .ref qt_draft, .ref qt_weight, .int t_there, .int t_made, .ref qt_number, .ref qt_size, .ref qt_readers, .ref qt_words, .ref qt_costs, .ref qt_states, .ref qt_arcs, .int t_beginnings, .ref qt_from, .ref qt_letters, .ref qt_end, .ref qt_lowest, .ref qt_key, .int t_givenSize, .ref qt_given, .ref qt_keys, .ref qt_table, .int t_pairs, .ref qt_first, .ref qt_second, .ref qt_learnt, .int t_said, .ref qt_phrase, .int t_answered, .ref qt_corrected, .ref qt_many, .ref qt_candidates, .ref qt_alone, .ref qt_choice])), (qt_draft, .inl (tc 1, 24, .inr (.inl t_draft))), (qt_weight, .inl (tc 0, 24, .inl t_weight)), (qt_number, .inl (tc 0, 3, .inl t_number)), (qt_size, .inl (tc 0, 3, .inl t_size)), (qt_readers, .inl (tc 0, 3, .inl t_readers)), (qt_words, .inl (tc 1, 72, .inr (.inl t_words))), (qt_costs, .inl (tc 0, 72, .inl t_costs)), (qt_states, .inl (tc 0, 3, .inl t_states)), (qt_arcs, .inl (tc 0, 3, .inl t_arcs)), (qt_from, .inl (tc 0, 216, .inl t_from)), (qt_letters, .inl (tc 0, 216, .inl t_letters)), (qt_end, .inl (tc 0, 216, .inl t_end)), (qt_lowest, .inl (tc 0, 216, .inl t_lowest)), (qt_key, .inl (tc 1, 216, .inr (.inl t_key))), (qt_given, .inl (tc 1, 24, .inr (.inl t_given))), (qt_keys, .inl (tc 0, 24, .inl t_keys)), (qt_table, .inl (tc 0, 81, .inl v_t_table)), (qt_first, .inl (tc 1, 40, .inr (.inl t_first))), (qt_second, .inl (tc 1, 40, .inr (.inl t_second))), (qt_learnt, .inl (tc 0, 40, .inl t_learnt)), (qt_phrase, .inl (tc 1, 4, .inr (.inl t_phrase))), (qt_corrected, .inl (tc 1, 4, .inr (.inl t_corrected))), (qt_many, .inl (tc 0, 4, .inl v_t_many)), (qt_candidates, .inl (tc 1, 96, .inr (.inl v_t_candidates))), (qt_alone, .inl (tc 0, 96, .inl v_t_alone)), (qt_choice, .inl (tc 0, 4, .inl t_choice))] [(0, .ref qt), (1, .int a0), (2, .int a1), (3, .int l3)] 9 [] := by
    intro n
    induction n with
    | zero =>
      intro v_t_table v_t_many v_t_candidates v_t_alone l3 x hf hE
      simp [f_M_gather_9] at hf
    | succ n ih =>
      intro v_t_table v_t_many v_t_candidates v_t_alone l3 x hf hE
      have hf : f_M_gather_9b t_size t_words t_costs t_phrase a0 a1 (f_M_gather_9 t_size t_words t_costs t_phrase a0 a1 n) v_t_table v_t_many v_t_candidates v_t_alone l3 = some x := hf
      have K122 : ∀ (v_t_table : Nat → Int32) (v_t_many : Nat → Int32) (v_t_candidates : Nat → Int64) (v_t_alone : Nat → Int32) (l3 : Int32), f_M_gather_122 (f_M_gather_9 t_size t_words t_costs t_phrase a0 a1 n) t_size t_words t_costs t_phrase a0 a1 v_t_table v_t_many v_t_candidates v_t_alone l3 = some x → Go p l e { frames := 3, cells := 0, slots := 0, locals := 75 } s m args below meth c (MQ below (Qs D A POST) args s 0 0 A) D A 5 0 0 [(qt, .inr (8, [.int t_thrown, .int t_drafted, .ref qt_draft, .ref qt_weight, .int t_there, .int t_made, .ref qt_number, .ref qt_size, .ref qt_readers, .ref qt_words, .ref qt_costs, .ref qt_states, .ref qt_arcs, .int t_beginnings, .ref qt_from, .ref qt_letters, .ref qt_end, .ref qt_lowest, .ref qt_key, .int t_givenSize, .ref qt_given, .ref qt_keys, .ref qt_table, .int t_pairs, .ref qt_first, .ref qt_second, .ref qt_learnt, .int t_said, .ref qt_phrase, .int t_answered, .ref qt_corrected, .ref qt_many, .ref qt_candidates, .ref qt_alone, .ref qt_choice])), (qt_draft, .inl (tc 1, 24, .inr (.inl t_draft))), (qt_weight, .inl (tc 0, 24, .inl t_weight)), (qt_number, .inl (tc 0, 3, .inl t_number)), (qt_size, .inl (tc 0, 3, .inl t_size)), (qt_readers, .inl (tc 0, 3, .inl t_readers)), (qt_words, .inl (tc 1, 72, .inr (.inl t_words))), (qt_costs, .inl (tc 0, 72, .inl t_costs)), (qt_states, .inl (tc 0, 3, .inl t_states)), (qt_arcs, .inl (tc 0, 3, .inl t_arcs)), (qt_from, .inl (tc 0, 216, .inl t_from)), (qt_letters, .inl (tc 0, 216, .inl t_letters)), (qt_end, .inl (tc 0, 216, .inl t_end)), (qt_lowest, .inl (tc 0, 216, .inl t_lowest)), (qt_key, .inl (tc 1, 216, .inr (.inl t_key))), (qt_given, .inl (tc 1, 24, .inr (.inl t_given))), (qt_keys, .inl (tc 0, 24, .inl t_keys)), (qt_table, .inl (tc 0, 81, .inl v_t_table)), (qt_first, .inl (tc 1, 40, .inr (.inl t_first))), (qt_second, .inl (tc 1, 40, .inr (.inl t_second))), (qt_learnt, .inl (tc 0, 40, .inl t_learnt)), (qt_phrase, .inl (tc 1, 4, .inr (.inl t_phrase))), (qt_corrected, .inl (tc 1, 4, .inr (.inl t_corrected))), (qt_many, .inl (tc 0, 4, .inl v_t_many)), (qt_candidates, .inl (tc 1, 96, .inr (.inl v_t_candidates))), (qt_alone, .inl (tc 0, 96, .inl v_t_alone)), (qt_choice, .inl (tc 0, 4, .inl t_choice))] [(0, .ref qt), (1, .int a0), (2, .int a1), (3, .int l3)] 122 [] := by
        intro v_t_table v_t_many v_t_candidates v_t_alone l3 hf
        unfold f_M_gather_122 at hf
        refine go_iinc C d_M_gather_122 3 rfl (v := l3 + (1 : Int32)) rfl (lv' := [(3, .int (l3 + (1 : Int32))), (0, .ref qt), (1, .int a0), (2, .int a1)]) (by decide) rfl (n := 125) rfl ?_
        refine go_goto C d_M_gather_125 (tgt := 9) (by decide) ?_
        refine go_lv (lv' := [(0, .ref qt), (1, .int a0), (2, .int a1), (3, .int (l3 + (1 : Int32)))]) [1, 2, 3, 0] rfl ?_
        exact ih v_t_table v_t_many v_t_candidates v_t_alone (l3 + (1 : Int32)) x hf hE
      unfold f_M_gather_9b at hf
      refine go_iload_n C d_M_gather_9 rfl 3 rfl (n := 10) rfl ?_
      refine go_aload_n C d_M_gather_10 rfl 0 rfl (n := 11) rfl ?_
      refine go_get C d_M_gather_11 fl_M_20 0 rfl rfl (n := 14) rfl ?_
      refine go_iload_n C d_M_gather_14 rfl 1 rfl (n := 15) rfl ?_
      obtain ⟨hg15, hf⟩ := guardS hf
      refine go_iald C d_M_gather_15 4 rfl hg15 (n := 16) rfl ?_
      have hi16 := iteS hf
      refine go_icmp_ge C d_M_gather_16 (tgt := 128) (by decide) (n := 19) rfl (fun h16 => ?_) (fun h16 => ?_)
      · have hf := hi16.1 h16
        refine go_lv (lv' := [(0, .ref qt), (2, .int a1)]) [0, 2] rfl ?_
        cases hf
        exact hE
      · have hf := hi16.2 h16
        refine go_aload_n C d_M_gather_19 rfl 0 rfl (n := 20) rfl ?_
        refine go_aload_n C d_M_gather_20 rfl 0 rfl (n := 21) rfl ?_
        refine go_get C d_M_gather_21 fl_M_71 0 rfl rfl (n := 24) rfl ?_
        refine go_iload_n C d_M_gather_24 rfl 2 rfl (n := 25) rfl ?_
        obtain ⟨hg25, hf⟩ := guardS hf
        refine go_lald C d_M_gather_25 21 rfl hg25 (n := 26) rfl ?_
        refine go_aload_n C d_M_gather_26 rfl 0 rfl (n := 27) rfl ?_
        refine go_get C d_M_gather_27 fl_M_26 0 rfl rfl (n := 30) rfl ?_
        refine go_bipush C (v := 24) d_M_gather_30 rfl (n := 32) rfl ?_
        refine go_iload_n C d_M_gather_32 rfl 1 rfl (n := 33) rfl ?_
        refine go_imul C d_M_gather_33 (n := 34) rfl ?_
        refine go_iload_n C d_M_gather_34 rfl 3 rfl (n := 35) rfl ?_
        refine go_iadd C d_M_gather_35 (n := 36) rfl ?_
        obtain ⟨hg36, hf⟩ := guardS hf
        refine go_lald C d_M_gather_36 6 rfl hg36 (n := 37) rfl ?_
        obtain ⟨o37, ho37, hf⟩ := bindS hf
        refine go_callV C (As := [.long (t_phrase a1.toNatClampNeg), .long (t_words (((24 : Int32) * a0) + l3).toNatClampNeg)]) (rest := []) d_M_gather_37 (c_M_distanceOf l D tc qt qt_draft qt_weight qt_number qt_size qt_readers qt_words qt_costs qt_states qt_arcs qt_from qt_letters qt_end qt_lowest qt_key qt_given qt_keys qt_table qt_first qt_second qt_learnt qt_phrase qt_corrected qt_many qt_candidates qt_alone qt_choice t_thrown t_drafted t_there t_made t_beginnings t_givenSize t_pairs t_said t_answered t_draft t_weight t_number t_size t_readers t_words t_costs t_states t_arcs t_from t_letters t_end t_lowest t_key t_given t_keys v_t_table t_first t_second t_learnt t_phrase t_corrected v_t_many v_t_candidates v_t_alone t_choice (t_phrase a1.toNatClampNeg) (t_words (((24 : Int32) * a0) + l3).toNatClampNeg) ho37 (fun r w => r = some (.int o37.1) ∧ w = [(qt, .inr (8, [.int t_thrown, .int t_drafted, .ref qt_draft, .ref qt_weight, .int t_there, .int t_made, .ref qt_number, .ref qt_size, .ref qt_readers, .ref qt_words, .ref qt_costs, .ref qt_states, .ref qt_arcs, .int t_beginnings, .ref qt_from, .ref qt_letters, .ref qt_end, .ref qt_lowest, .ref qt_key, .int t_givenSize, .ref qt_given, .ref qt_keys, .ref qt_table, .int t_pairs, .ref qt_first, .ref qt_second, .ref qt_learnt, .int t_said, .ref qt_phrase, .int t_answered, .ref qt_corrected, .ref qt_many, .ref qt_candidates, .ref qt_alone, .ref qt_choice])), (qt_draft, .inl (tc 1, 24, .inr (.inl t_draft))), (qt_weight, .inl (tc 0, 24, .inl t_weight)), (qt_number, .inl (tc 0, 3, .inl t_number)), (qt_size, .inl (tc 0, 3, .inl t_size)), (qt_readers, .inl (tc 0, 3, .inl t_readers)), (qt_words, .inl (tc 1, 72, .inr (.inl t_words))), (qt_costs, .inl (tc 0, 72, .inl t_costs)), (qt_states, .inl (tc 0, 3, .inl t_states)), (qt_arcs, .inl (tc 0, 3, .inl t_arcs)), (qt_from, .inl (tc 0, 216, .inl t_from)), (qt_letters, .inl (tc 0, 216, .inl t_letters)), (qt_end, .inl (tc 0, 216, .inl t_end)), (qt_lowest, .inl (tc 0, 216, .inl t_lowest)), (qt_key, .inl (tc 1, 216, .inr (.inl t_key))), (qt_given, .inl (tc 1, 24, .inr (.inl t_given))), (qt_keys, .inl (tc 0, 24, .inl t_keys)), (qt_table, .inl (tc 0, 81, .inl o37.2)), (qt_first, .inl (tc 1, 40, .inr (.inl t_first))), (qt_second, .inl (tc 1, 40, .inr (.inl t_second))), (qt_learnt, .inl (tc 0, 40, .inl t_learnt)), (qt_phrase, .inl (tc 1, 4, .inr (.inl t_phrase))), (qt_corrected, .inl (tc 1, 4, .inr (.inl t_corrected))), (qt_many, .inl (tc 0, 4, .inl v_t_many)), (qt_candidates, .inl (tc 1, 96, .inr (.inl v_t_candidates))), (qt_alone, .inl (tc 0, 96, .inl v_t_alone)), (qt_choice, .inl (tc 0, 4, .inl t_choice))]) ⟨rfl, rfl⟩) lk_M_176 mw_M_distanceOf sv_M_distanceOf 0 rfl rfl rfl rfl ⟨(Nat.le_of_ble_eq_true rfl), (Nat.le_of_ble_eq_true rfl)⟩ rfl rfl (Nat.le_of_ble_eq_true rfl) ⟨(Nat.le_of_ble_eq_true rfl), (Nat.le_of_ble_eq_true rfl)⟩ [0, 1, 2, 3, 4, 5, 6, 7, 8, 9, 10, 11, 12, 13, 14, 15, 16, 17, 18, 19, 20, 21, 22, 23, 24, 25, 26] rfl (by decide) (by rintro _ _ ⟨rfl, rfl⟩; simp only [List.map_cons, List.map_nil]) (n := 40) rfl ?_
        rintro _ _ ⟨rfl, rfl⟩
        refine go_eq (ws' := [(qt, .inr (8, [.int t_thrown, .int t_drafted, .ref qt_draft, .ref qt_weight, .int t_there, .int t_made, .ref qt_number, .ref qt_size, .ref qt_readers, .ref qt_words, .ref qt_costs, .ref qt_states, .ref qt_arcs, .int t_beginnings, .ref qt_from, .ref qt_letters, .ref qt_end, .ref qt_lowest, .ref qt_key, .int t_givenSize, .ref qt_given, .ref qt_keys, .ref qt_table, .int t_pairs, .ref qt_first, .ref qt_second, .ref qt_learnt, .int t_said, .ref qt_phrase, .int t_answered, .ref qt_corrected, .ref qt_many, .ref qt_candidates, .ref qt_alone, .ref qt_choice])), (qt_draft, .inl (tc 1, 24, .inr (.inl t_draft))), (qt_weight, .inl (tc 0, 24, .inl t_weight)), (qt_number, .inl (tc 0, 3, .inl t_number)), (qt_size, .inl (tc 0, 3, .inl t_size)), (qt_readers, .inl (tc 0, 3, .inl t_readers)), (qt_words, .inl (tc 1, 72, .inr (.inl t_words))), (qt_costs, .inl (tc 0, 72, .inl t_costs)), (qt_states, .inl (tc 0, 3, .inl t_states)), (qt_arcs, .inl (tc 0, 3, .inl t_arcs)), (qt_from, .inl (tc 0, 216, .inl t_from)), (qt_letters, .inl (tc 0, 216, .inl t_letters)), (qt_end, .inl (tc 0, 216, .inl t_end)), (qt_lowest, .inl (tc 0, 216, .inl t_lowest)), (qt_key, .inl (tc 1, 216, .inr (.inl t_key))), (qt_given, .inl (tc 1, 24, .inr (.inl t_given))), (qt_keys, .inl (tc 0, 24, .inl t_keys)), (qt_table, .inl (tc 0, 81, .inl o37.2)), (qt_first, .inl (tc 1, 40, .inr (.inl t_first))), (qt_second, .inl (tc 1, 40, .inr (.inl t_second))), (qt_learnt, .inl (tc 0, 40, .inl t_learnt)), (qt_phrase, .inl (tc 1, 4, .inr (.inl t_phrase))), (qt_corrected, .inl (tc 1, 4, .inr (.inl t_corrected))), (qt_many, .inl (tc 0, 4, .inl v_t_many)), (qt_candidates, .inl (tc 1, 96, .inr (.inl v_t_candidates))), (qt_alone, .inl (tc 0, 96, .inl v_t_alone)), (qt_choice, .inl (tc 0, 4, .inl t_choice))]) (by simp only [repl, List.set_cons_zero, List.set_cons_succ]) rfl rfl ?_
        refine go_istore C d_M_gather_40 (lv' := [(4, .int o37.1), (0, .ref qt), (1, .int a0), (2, .int a1), (3, .int l3)]) (by decide) rfl (n := 42) rfl ?_
        refine go_iload C d_M_gather_42 0 rfl (n := 44) rfl ?_
        refine go_iconst C (v := 1) d_M_gather_44 rfl (n := 45) rfl ?_
        have hi45 := iteS hf
        refine go_icmp_le C d_M_gather_45 (tgt := 51) (by decide) (n := 48) rfl (fun h45 => ?_) (fun h45 => ?_)
        · have hf := hi45.1 h45
          refine go_aload_n C d_M_gather_51 rfl 1 rfl (n := 52) rfl ?_
          refine go_get C d_M_gather_52 fl_M_80 0 rfl rfl (n := 55) rfl ?_
          refine go_bipush C (v := 24) d_M_gather_55 rfl (n := 57) rfl ?_
          refine go_iload_n C d_M_gather_57 rfl 3 rfl (n := 58) rfl ?_
          refine go_imul C d_M_gather_58 (n := 59) rfl ?_
          refine go_aload_n C d_M_gather_59 rfl 1 rfl (n := 60) rfl ?_
          refine go_get C d_M_gather_60 fl_M_77 0 rfl rfl (n := 63) rfl ?_
          refine go_iload_n C d_M_gather_63 rfl 3 rfl (n := 64) rfl ?_
          obtain ⟨hg64, hf⟩ := guardS hf
          refine go_iald C d_M_gather_64 23 rfl hg64 (n := 65) rfl ?_
          refine go_iadd C d_M_gather_65 (n := 66) rfl ?_
          refine go_aload_n C d_M_gather_66 rfl 1 rfl (n := 67) rfl ?_
          refine go_get C d_M_gather_67 fl_M_26 0 rfl rfl (n := 70) rfl ?_
          refine go_bipush C (v := 24) d_M_gather_70 rfl (n := 72) rfl ?_
          refine go_iload_n C d_M_gather_72 rfl 2 rfl (n := 73) rfl ?_
          refine go_imul C d_M_gather_73 (n := 74) rfl ?_
          refine go_iload_n C d_M_gather_74 rfl 4 rfl (n := 75) rfl ?_
          refine go_iadd C d_M_gather_75 (n := 76) rfl ?_
          obtain ⟨hg76, hf⟩ := guardS hf
          refine go_lald C d_M_gather_76 6 rfl hg76 (n := 77) rfl ?_
          obtain ⟨hg77, hf⟩ := guardS hf
          refine go_last C d_M_gather_77 24 rfl hg77 (n := 78) rfl ?_
          refine go_aload_n C d_M_gather_78 rfl 1 rfl (n := 79) rfl ?_
          refine go_get C d_M_gather_79 fl_M_83 0 rfl rfl (n := 82) rfl ?_
          refine go_bipush C (v := 24) d_M_gather_82 rfl (n := 84) rfl ?_
          refine go_iload_n C d_M_gather_84 rfl 3 rfl (n := 85) rfl ?_
          refine go_imul C d_M_gather_85 (n := 86) rfl ?_
          refine go_aload_n C d_M_gather_86 rfl 1 rfl (n := 87) rfl ?_
          refine go_get C d_M_gather_87 fl_M_77 0 rfl rfl (n := 90) rfl ?_
          refine go_iload_n C d_M_gather_90 rfl 3 rfl (n := 91) rfl ?_
          obtain ⟨hg91, hf⟩ := guardS hf
          refine go_iald C d_M_gather_91 23 rfl hg91 (n := 92) rfl ?_
          refine go_iadd C d_M_gather_92 (n := 93) rfl ?_
          refine go_sipush C (v := 3000) d_M_gather_93 rfl (n := 96) rfl ?_
          refine go_iload C d_M_gather_96 0 rfl (n := 98) rfl ?_
          refine go_imul C d_M_gather_98 (n := 99) rfl ?_
          refine go_aload_n C d_M_gather_99 rfl 1 rfl (n := 100) rfl ?_
          refine go_get C d_M_gather_100 fl_M_29 0 rfl rfl (n := 103) rfl ?_
          refine go_bipush C (v := 24) d_M_gather_103 rfl (n := 105) rfl ?_
          refine go_iload_n C d_M_gather_105 rfl 2 rfl (n := 106) rfl ?_
          refine go_imul C d_M_gather_106 (n := 107) rfl ?_
          refine go_iload_n C d_M_gather_107 rfl 4 rfl (n := 108) rfl ?_
          refine go_iadd C d_M_gather_108 (n := 109) rfl ?_
          obtain ⟨hg109, hf⟩ := guardS hf
          refine go_iald C d_M_gather_109 7 rfl hg109 (n := 110) rfl ?_
          refine go_iadd C d_M_gather_110 (n := 111) rfl ?_
          obtain ⟨hg111, hf⟩ := guardS hf
          refine go_iast C d_M_gather_111 25 rfl hg111 (n := 112) rfl ?_
          refine go_aload_n C d_M_gather_112 rfl 1 rfl (n := 113) rfl ?_
          refine go_get C d_M_gather_113 fl_M_77 0 rfl rfl (n := 116) rfl ?_
          refine go_iload_n C d_M_gather_116 rfl 3 rfl (n := 117) rfl ?_
          refine go_dup2_11 C d_M_gather_117 rfl rfl (n := 118) rfl ?_
          obtain ⟨hg118, hf⟩ := guardS hf
          refine go_iald C d_M_gather_118 23 rfl hg118 (n := 119) rfl ?_
          refine go_iconst C (v := 1) d_M_gather_119 rfl (n := 120) rfl ?_
          refine go_iadd C d_M_gather_120 (n := 121) rfl ?_
          obtain ⟨hg121, hf⟩ := guardS hf
          refine go_iast C d_M_gather_121 23 rfl hg121 (n := 122) rfl ?_
          refine go_lv (lv' := [(0, .ref qt), (1, .int a0), (2, .int a1), (3, .int l3)]) [1, 2, 3, 4] rfl ?_
          exact K122 o37.2 (upd v_t_many a1.toNatClampNeg ((v_t_many a1.toNatClampNeg) + (1 : Int32))) (vp_updL v_t_candidates (((24 : Int32) * a1) + (v_t_many a1.toNatClampNeg)).toNatClampNeg (t_words (((24 : Int32) * a0) + l3).toNatClampNeg)) (upd v_t_alone (((24 : Int32) * a1) + (v_t_many a1.toNatClampNeg)).toNatClampNeg (((3000 : Int32) * o37.1) + (t_costs (((24 : Int32) * a0) + l3).toNatClampNeg))) l3 hf
        · have hf := hi45.2 h45
          refine go_goto C d_M_gather_48 (tgt := 122) (by decide) ?_
          refine go_lv (lv' := [(0, .ref qt), (1, .int a0), (2, .int a1), (3, .int l3)]) [1, 2, 3, 4] rfl ?_
          exact K122 o37.2 v_t_many v_t_candidates v_t_alone l3 hf
  unfold f_M_gather at hf
  refine go_aload_n C d_M_gather_0 rfl 0 rfl (n := 1) rfl ?_
  refine go_get C d_M_gather_1 fl_M_77 0 rfl rfl (n := 4) rfl ?_
  refine go_iload_n C d_M_gather_4 rfl 2 rfl (n := 5) rfl ?_
  refine go_iconst C (v := 0) d_M_gather_5 rfl (n := 6) rfl ?_
  obtain ⟨hg6, hf⟩ := guardS hf
  refine go_iast C d_M_gather_6 23 rfl hg6 (n := 7) rfl ?_
  refine go_iconst C (v := 0) d_M_gather_7 rfl (n := 8) rfl ?_
  refine go_istore_n C d_M_gather_8 rfl (lv' := [(3, .int (0 : Int32)), (0, .ref qt), (1, .int a0), (2, .int a1)]) (by decide) rfl (n := 9) rfl ?_
  refine go_lv (lv' := [(0, .ref qt), (1, .int a0), (2, .int a1), (3, .int (0 : Int32))]) [1, 2, 3, 0] rfl ?_
  obtain ⟨x9, hx9, hf⟩ := bindS hf
  refine K9 FU t_table (upd t_many a1.toNatClampNeg (0 : Int32)) t_candidates t_alone (0 : Int32) x9 hx9 ?_
  refine go_aload_n C d_M_gather_128 rfl 0 rfl (n := 129) rfl ?_
  refine go_get C d_M_gather_129 fl_M_77 0 rfl rfl (n := 132) rfl ?_
  refine go_iload_n C d_M_gather_132 rfl 1 rfl (n := 133) rfl ?_
  obtain ⟨hg133, hf⟩ := guardS hf
  refine go_iald C d_M_gather_133 23 rfl hg133 (n := 134) rfl ?_
  have hi134 := iteS hf
  refine go_if_le C d_M_gather_134 (tgt := 138) (by decide) (n := 137) rfl (fun h134 => ?_) (fun h134 => ?_)
  · have hf := hi134.1 h134
    refine go_aload_n C d_M_gather_138 rfl 0 rfl (n := 139) rfl ?_
    refine go_get C d_M_gather_139 fl_M_77 0 rfl rfl (n := 142) rfl ?_
    refine go_iload_n C d_M_gather_142 rfl 1 rfl (n := 143) rfl ?_
    refine go_iconst C (v := 1) d_M_gather_143 rfl (n := 144) rfl ?_
    obtain ⟨hg144, hf⟩ := guardS hf
    refine go_iast C d_M_gather_144 23 rfl hg144 (n := 145) rfl ?_
    refine go_aload_n C d_M_gather_145 rfl 0 rfl (n := 146) rfl ?_
    refine go_get C d_M_gather_146 fl_M_80 0 rfl rfl (n := 149) rfl ?_
    refine go_bipush C (v := 24) d_M_gather_149 rfl (n := 151) rfl ?_
    refine go_iload_n C d_M_gather_151 rfl 1 rfl (n := 152) rfl ?_
    refine go_imul C d_M_gather_152 (n := 153) rfl ?_
    refine go_aload_n C d_M_gather_153 rfl 0 rfl (n := 154) rfl ?_
    refine go_get C d_M_gather_154 fl_M_71 0 rfl rfl (n := 157) rfl ?_
    refine go_iload_n C d_M_gather_157 rfl 1 rfl (n := 158) rfl ?_
    obtain ⟨hg158, hf⟩ := guardS hf
    refine go_lald C d_M_gather_158 21 rfl hg158 (n := 159) rfl ?_
    obtain ⟨hg159, hf⟩ := guardS hf
    refine go_last C d_M_gather_159 24 rfl hg159 (n := 160) rfl ?_
    refine go_aload_n C d_M_gather_160 rfl 0 rfl (n := 161) rfl ?_
    refine go_get C d_M_gather_161 fl_M_83 0 rfl rfl (n := 164) rfl ?_
    refine go_bipush C (v := 24) d_M_gather_164 rfl (n := 166) rfl ?_
    refine go_iload_n C d_M_gather_166 rfl 1 rfl (n := 167) rfl ?_
    refine go_imul C d_M_gather_167 (n := 168) rfl ?_
    refine go_sipush C (v := 20000) d_M_gather_168 rfl (n := 171) rfl ?_
    obtain ⟨hg171, hf⟩ := guardS hf
    refine go_iast C d_M_gather_171 25 rfl hg171 (n := 172) rfl ?_
    cases hf
    exact go_vret C d_M_gather_172 hr hPOST
  · have hf := hi134.2 h134
    cases hf
    exact go_vret C d_M_gather_137 hr hPOST
