def f_M_same_212 (rec : Int32 → Option ((Unit) ⊕ (Unit))) (t_words : Nat → Int64) (t_costs : Nat → Int32) (t_from : Nat → Int32) (t_letters : Nat → Int32) (t_end : Nat → Int32) (t_lowest : Nat → Int32) (t_key : Nat → Int64) (a0 : Int32) (a1 : Int32) (a2 : Int32) (l4 : Int32) (l5 : Int32) (l6 : Int32) (l7 : Int32) (l8 : Int32) (l9 : Int32) (s0 : Int32) : Option ((Unit) ⊕ (Unit)) :=
  if l9 = s0 then rec (l8 + (1 : Int32)) else some (.inr <|  ())
def f_M_same_173 (rec : Int32 → Option ((Unit) ⊕ (Unit))) (t_words : Nat → Int64) (t_costs : Nat → Int32) (t_from : Nat → Int32) (t_letters : Nat → Int32) (t_end : Nat → Int32) (t_lowest : Nat → Int32) (t_key : Nat → Int64) (a0 : Int32) (a1 : Int32) (a2 : Int32) (l4 : Int32) (l5 : Int32) (l6 : Int32) (l7 : Int32) (l8 : Int32) (s0 : Int32) : Option ((Unit) ⊕ (Unit)) :=
  if okI a2 216 = true then if (8 : Int32) ≤ ((t_letters a2.toNatClampNeg) + l8) then f_M_same_212 rec t_words t_costs t_from t_letters t_end t_lowest t_key a0 a1 a2 l4 l5 l6 l7 l8 s0 (0 : Int32) else if okI l7 72 = true then if okI a2 216 = true then (f_M_at (t_words l7.toNatClampNeg) ((t_letters a2.toNatClampNeg) + l8)).bind (fun o205 => f_M_same_212 rec t_words t_costs t_from t_letters t_end t_lowest t_key a0 a1 a2 l4 l5 l6 l7 l8 s0 o205) else none else none else none
def f_M_same_129b (t_words : Nat → Int64) (t_costs : Nat → Int32) (t_from : Nat → Int32) (t_letters : Nat → Int32) (t_end : Nat → Int32) (t_lowest : Nat → Int32) (t_key : Nat → Int64) (a0 : Int32) (a1 : Int32) (a2 : Int32) (l4 : Int32) (l5 : Int32) (l6 : Int32) (l7 : Int32) (rec : Int32 → Option ((Unit) ⊕ (Unit))) (l8 : Int32) : Option ((Unit) ⊕ (Unit)) :=
  if (8 : Int32) ≤ l8 then some (.inl  ()) else if okI a1 216 = true then if (8 : Int32) ≤ ((t_letters a1.toNatClampNeg) + l8) then f_M_same_173 rec t_words t_costs t_from t_letters t_end t_lowest t_key a0 a1 a2 l4 l5 l6 l7 l8 (0 : Int32) else if okI l6 72 = true then if okI a1 216 = true then (f_M_at (t_words l6.toNatClampNeg) ((t_letters a1.toNatClampNeg) + l8)).bind (fun o166 => f_M_same_173 rec t_words t_costs t_from t_letters t_end t_lowest t_key a0 a1 a2 l4 l5 l6 l7 l8 o166) else none else none else none
def f_M_same_129 (t_words : Nat → Int64) (t_costs : Nat → Int32) (t_from : Nat → Int32) (t_letters : Nat → Int32) (t_end : Nat → Int32) (t_lowest : Nat → Int32) (t_key : Nat → Int64) (a0 : Int32) (a1 : Int32) (a2 : Int32) (l4 : Int32) (l5 : Int32) (l6 : Int32) (l7 : Int32) : Nat → Int32 → Option ((Unit) ⊕ (Unit))
  | 0 => fun _ => none
  | n + 1 => f_M_same_129b t_words t_costs t_from t_letters t_end t_lowest t_key a0 a1 a2 l4 l5 l6 l7 (f_M_same_129 t_words t_costs t_from t_letters t_end t_lowest t_key a0 a1 a2 l4 l5 l6 l7 n)
def f_M_same_54b (t_words : Nat → Int64) (t_costs : Nat → Int32) (t_from : Nat → Int32) (t_letters : Nat → Int32) (t_end : Nat → Int32) (t_lowest : Nat → Int32) (t_key : Nat → Int64) (a0 : Int32) (a1 : Int32) (a2 : Int32) (l4 : Int32) (rec : Int32 → Option ((Unit) ⊕ (Unit) ⊕ (Unit))) (l5 : Int32) : Option ((Unit) ⊕ (Unit) ⊕ (Unit)) :=
  if l4 ≤ l5 then some (.inl  ()) else if okI a1 216 = true then if okI a2 216 = true then if okI ((((24 : Int32) * a0) + (t_from a1.toNatClampNeg)) + l5) 72 = true then if okI a1 216 = true then if okI ((((24 : Int32) * a0) + (t_from a2.toNatClampNeg)) + l5) 72 = true then if okI a2 216 = true then if ((t_costs ((((24 : Int32) * a0) + (t_from a1.toNatClampNeg)) + l5).toNatClampNeg) - (t_lowest a1.toNatClampNeg)) = ((t_costs ((((24 : Int32) * a0) + (t_from a2.toNatClampNeg)) + l5).toNatClampNeg) - (t_lowest a2.toNatClampNeg)) then (f_M_same_129 t_words t_costs t_from t_letters t_end t_lowest t_key a0 a1 a2 l4 l5 ((((24 : Int32) * a0) + (t_from a1.toNatClampNeg)) + l5) ((((24 : Int32) * a0) + (t_from a2.toNatClampNeg)) + l5) FU (0 : Int32)).bind (Sum.elim (fun x129 => rec (l5 + (1 : Int32))) (fun x129 => some (.inr <| .inl  ()))) else some (.inr <| .inr <|  ()) else none else none else none else none else none else none
def f_M_same_54 (t_words : Nat → Int64) (t_costs : Nat → Int32) (t_from : Nat → Int32) (t_letters : Nat → Int32) (t_end : Nat → Int32) (t_lowest : Nat → Int32) (t_key : Nat → Int64) (a0 : Int32) (a1 : Int32) (a2 : Int32) (l4 : Int32) : Nat → Int32 → Option ((Unit) ⊕ (Unit) ⊕ (Unit))
  | 0 => fun _ => none
  | n + 1 => f_M_same_54b t_words t_costs t_from t_letters t_end t_lowest t_key a0 a1 a2 l4 (f_M_same_54 t_words t_costs t_from t_letters t_end t_lowest t_key a0 a1 a2 l4 n)
def f_M_same (t_words : Nat → Int64) (t_costs : Nat → Int32) (t_from : Nat → Int32) (t_letters : Nat → Int32) (t_end : Nat → Int32) (t_lowest : Nat → Int32) (t_key : Nat → Int64) (a0 : Int32) (a1 : Int32) (a2 : Int32) : Option (Int32) :=
  if okI a1 216 = true then if okI a1 216 = true then if okI a1 216 = true then if okI a2 216 = true then if (t_key a1.toNatClampNeg) = (t_key a2.toNatClampNeg) then if okI a2 216 = true then if okI a2 216 = true then if ((t_end a1.toNatClampNeg) - (t_from a1.toNatClampNeg)) = ((t_end a2.toNatClampNeg) - (t_from a2.toNatClampNeg)) then (f_M_same_54 t_words t_costs t_from t_letters t_end t_lowest t_key a0 a1 a2 ((t_end a1.toNatClampNeg) - (t_from a1.toNatClampNeg)) FU (0 : Int32)).bind (Sum.elim (fun x54 => some (1 : Int32)) (Sum.elim (fun x54 => some (0 : Int32)) (fun x54 => some (0 : Int32)))) else some (0 : Int32) else none else none else some (0 : Int32) else none else none else none else none
set_option maxRecDepth 100000 in
set_option maxHeartbeats 4000000 in
theorem c_M_same (l : Launch) (D : va_G) (tc : Nat → ClassId) (qt : Nat) (qt_draft : Nat) (qt_weight : Nat) (qt_number : Nat) (qt_size : Nat) (qt_readers : Nat) (qt_words : Nat) (qt_costs : Nat) (qt_states : Nat) (qt_arcs : Nat) (qt_from : Nat) (qt_letters : Nat) (qt_end : Nat) (qt_lowest : Nat) (qt_key : Nat) (qt_given : Nat) (qt_keys : Nat) (qt_table : Nat) (qt_first : Nat) (qt_second : Nat) (qt_learnt : Nat) (qt_phrase : Nat) (qt_corrected : Nat) (qt_many : Nat) (qt_candidates : Nat) (qt_alone : Nat) (qt_choice : Nat) (t_thrown : Int32) (t_drafted : Int32) (t_there : Int32) (t_made : Int32) (t_beginnings : Int32) (t_givenSize : Int32) (t_pairs : Int32) (t_said : Int32) (t_answered : Int32) (t_draft : Nat → Int64) (t_weight : Nat → Int32) (t_number : Nat → Int32) (t_size : Nat → Int32) (t_readers : Nat → Int32) (t_words : Nat → Int64) (t_costs : Nat → Int32) (t_states : Nat → Int32) (t_arcs : Nat → Int32) (t_from : Nat → Int32) (t_letters : Nat → Int32) (t_end : Nat → Int32) (t_lowest : Nat → Int32) (t_key : Nat → Int64) (t_given : Nat → Int64) (t_keys : Nat → Int32) (t_table : Nat → Int32) (t_first : Nat → Int64) (t_second : Nat → Int64) (t_learnt : Nat → Int32) (t_phrase : Nat → Int64) (t_corrected : Nat → Int64) (t_many : Nat → Int32) (t_candidates : Nat → Int64) (t_alone : Nat → Int32) (t_choice : Nat → Int32) (a0 : Int32) (a1 : Int32) (a2 : Int32) {o : (Int32)} (hf : f_M_same t_words t_costs t_from t_letters t_end t_lowest t_key a0 a1 a2 = some o) (POST : Option Value → va_W → Prop) (hPOST : POST (some (.int o)) [(qt, .inr (8, [.int t_thrown, .int t_drafted, .ref qt_draft, .ref qt_weight, .int t_there, .int t_made, .ref qt_number, .ref qt_size, .ref qt_readers, .ref qt_words, .ref qt_costs, .ref qt_states, .ref qt_arcs, .int t_beginnings, .ref qt_from, .ref qt_letters, .ref qt_end, .ref qt_lowest, .ref qt_key, .int t_givenSize, .ref qt_given, .ref qt_keys, .ref qt_table, .int t_pairs, .ref qt_first, .ref qt_second, .ref qt_learnt, .int t_said, .ref qt_phrase, .int t_answered, .ref qt_corrected, .ref qt_many, .ref qt_candidates, .ref qt_alone, .ref qt_choice])), (qt_draft, .inl (tc 1, 24, .inr (.inl t_draft))), (qt_weight, .inl (tc 0, 24, .inl t_weight)), (qt_number, .inl (tc 0, 3, .inl t_number)), (qt_size, .inl (tc 0, 3, .inl t_size)), (qt_readers, .inl (tc 0, 3, .inl t_readers)), (qt_words, .inl (tc 1, 72, .inr (.inl t_words))), (qt_costs, .inl (tc 0, 72, .inl t_costs)), (qt_states, .inl (tc 0, 3, .inl t_states)), (qt_arcs, .inl (tc 0, 3, .inl t_arcs)), (qt_from, .inl (tc 0, 216, .inl t_from)), (qt_letters, .inl (tc 0, 216, .inl t_letters)), (qt_end, .inl (tc 0, 216, .inl t_end)), (qt_lowest, .inl (tc 0, 216, .inl t_lowest)), (qt_key, .inl (tc 1, 216, .inr (.inl t_key))), (qt_given, .inl (tc 1, 24, .inr (.inl t_given))), (qt_keys, .inl (tc 0, 24, .inl t_keys)), (qt_table, .inl (tc 0, 81, .inl t_table)), (qt_first, .inl (tc 1, 40, .inr (.inl t_first))), (qt_second, .inl (tc 1, 40, .inr (.inl t_second))), (qt_learnt, .inl (tc 0, 40, .inl t_learnt)), (qt_phrase, .inl (tc 1, 4, .inr (.inl t_phrase))), (qt_corrected, .inl (tc 1, 4, .inr (.inl t_corrected))), (qt_many, .inl (tc 0, 4, .inl t_many)), (qt_candidates, .inl (tc 1, 96, .inr (.inl t_candidates))), (qt_alone, .inl (tc 0, 96, .inl t_alone)), (qt_choice, .inl (tc 0, 4, .inl t_choice))]) : Std l y_M_same (.code y_M_same b_M_same 11 (some .boolean)) { frames := 2, cells := 0, slots := 0, locals := 45 } D tc [.ref qt, .int a0, .int a1, .int a2] [(qt, .inr (8, [.int t_thrown, .int t_drafted, .ref qt_draft, .ref qt_weight, .int t_there, .int t_made, .ref qt_number, .ref qt_size, .ref qt_readers, .ref qt_words, .ref qt_costs, .ref qt_states, .ref qt_arcs, .int t_beginnings, .ref qt_from, .ref qt_letters, .ref qt_end, .ref qt_lowest, .ref qt_key, .int t_givenSize, .ref qt_given, .ref qt_keys, .ref qt_table, .int t_pairs, .ref qt_first, .ref qt_second, .ref qt_learnt, .int t_said, .ref qt_phrase, .int t_answered, .ref qt_corrected, .ref qt_many, .ref qt_candidates, .ref qt_alone, .ref qt_choice])), (qt_draft, .inl (tc 1, 24, .inr (.inl t_draft))), (qt_weight, .inl (tc 0, 24, .inl t_weight)), (qt_number, .inl (tc 0, 3, .inl t_number)), (qt_size, .inl (tc 0, 3, .inl t_size)), (qt_readers, .inl (tc 0, 3, .inl t_readers)), (qt_words, .inl (tc 1, 72, .inr (.inl t_words))), (qt_costs, .inl (tc 0, 72, .inl t_costs)), (qt_states, .inl (tc 0, 3, .inl t_states)), (qt_arcs, .inl (tc 0, 3, .inl t_arcs)), (qt_from, .inl (tc 0, 216, .inl t_from)), (qt_letters, .inl (tc 0, 216, .inl t_letters)), (qt_end, .inl (tc 0, 216, .inl t_end)), (qt_lowest, .inl (tc 0, 216, .inl t_lowest)), (qt_key, .inl (tc 1, 216, .inr (.inl t_key))), (qt_given, .inl (tc 1, 24, .inr (.inl t_given))), (qt_keys, .inl (tc 0, 24, .inl t_keys)), (qt_table, .inl (tc 0, 81, .inl t_table)), (qt_first, .inl (tc 1, 40, .inr (.inl t_first))), (qt_second, .inl (tc 1, 40, .inr (.inl t_second))), (qt_learnt, .inl (tc 0, 40, .inl t_learnt)), (qt_phrase, .inl (tc 1, 4, .inr (.inl t_phrase))), (qt_corrected, .inl (tc 1, 4, .inr (.inl t_corrected))), (qt_many, .inl (tc 0, 4, .inl t_many)), (qt_candidates, .inl (tc 1, 96, .inr (.inl t_candidates))), (qt_alone, .inl (tc 0, 96, .inl t_alone)), (qt_choice, .inl (tc 0, 4, .inl t_choice))] 0 0 POST := by
  refine std_of (lv := [(0, .ref qt), (1, .int a0), (2, .int a1), (3, .int a2)]) (by decide) (Nat.le_of_ble_eq_true rfl) rfl (fun p e s m args below meth c A C hr hnm => ?_)
  have K54 : ∀ (l4 : Int32) (n : Nat) (l5 : Int32) (x : ((Unit) ⊕ (Unit) ⊕ (Unit))), f_M_same_54 t_words t_costs t_from t_letters t_end t_lowest t_key a0 a1 a2 l4 n l5 = some x → ((∀ d, x = .inl d → Go p l e { frames := 2, cells := 0, slots := 0, locals := 45 } s m args below meth c (MQ below (Qs D A POST) args s 0 0 A) D A 11 0 0 [(qt, .inr (8, [.int t_thrown, .int t_drafted, .ref qt_draft, .ref qt_weight, .int t_there, .int t_made, .ref qt_number, .ref qt_size, .ref qt_readers, .ref qt_words, .ref qt_costs, .ref qt_states, .ref qt_arcs, .int t_beginnings, .ref qt_from, .ref qt_letters, .ref qt_end, .ref qt_lowest, .ref qt_key, .int t_givenSize, .ref qt_given, .ref qt_keys, .ref qt_table, .int t_pairs, .ref qt_first, .ref qt_second, .ref qt_learnt, .int t_said, .ref qt_phrase, .int t_answered, .ref qt_corrected, .ref qt_many, .ref qt_candidates, .ref qt_alone, .ref qt_choice])), (qt_draft, .inl (tc 1, 24, .inr (.inl t_draft))), (qt_weight, .inl (tc 0, 24, .inl t_weight)), (qt_number, .inl (tc 0, 3, .inl t_number)), (qt_size, .inl (tc 0, 3, .inl t_size)), (qt_readers, .inl (tc 0, 3, .inl t_readers)), (qt_words, .inl (tc 1, 72, .inr (.inl t_words))), (qt_costs, .inl (tc 0, 72, .inl t_costs)), (qt_states, .inl (tc 0, 3, .inl t_states)), (qt_arcs, .inl (tc 0, 3, .inl t_arcs)), (qt_from, .inl (tc 0, 216, .inl t_from)), (qt_letters, .inl (tc 0, 216, .inl t_letters)), (qt_end, .inl (tc 0, 216, .inl t_end)), (qt_lowest, .inl (tc 0, 216, .inl t_lowest)), (qt_key, .inl (tc 1, 216, .inr (.inl t_key))), (qt_given, .inl (tc 1, 24, .inr (.inl t_given))), (qt_keys, .inl (tc 0, 24, .inl t_keys)), (qt_table, .inl (tc 0, 81, .inl t_table)), (qt_first, .inl (tc 1, 40, .inr (.inl t_first))), (qt_second, .inl (tc 1, 40, .inr (.inl t_second))), (qt_learnt, .inl (tc 0, 40, .inl t_learnt)), (qt_phrase, .inl (tc 1, 4, .inr (.inl t_phrase))), (qt_corrected, .inl (tc 1, 4, .inr (.inl t_corrected))), (qt_many, .inl (tc 0, 4, .inl t_many)), (qt_candidates, .inl (tc 1, 96, .inr (.inl t_candidates))), (qt_alone, .inl (tc 0, 96, .inl t_alone)), (qt_choice, .inl (tc 0, 4, .inl t_choice))] [] 235 []) ∧ (∀ d, x = .inr (.inl d) → Go p l e { frames := 2, cells := 0, slots := 0, locals := 45 } s m args below meth c (MQ below (Qs D A POST) args s 0 0 A) D A 11 0 0 [(qt, .inr (8, [.int t_thrown, .int t_drafted, .ref qt_draft, .ref qt_weight, .int t_there, .int t_made, .ref qt_number, .ref qt_size, .ref qt_readers, .ref qt_words, .ref qt_costs, .ref qt_states, .ref qt_arcs, .int t_beginnings, .ref qt_from, .ref qt_letters, .ref qt_end, .ref qt_lowest, .ref qt_key, .int t_givenSize, .ref qt_given, .ref qt_keys, .ref qt_table, .int t_pairs, .ref qt_first, .ref qt_second, .ref qt_learnt, .int t_said, .ref qt_phrase, .int t_answered, .ref qt_corrected, .ref qt_many, .ref qt_candidates, .ref qt_alone, .ref qt_choice])), (qt_draft, .inl (tc 1, 24, .inr (.inl t_draft))), (qt_weight, .inl (tc 0, 24, .inl t_weight)), (qt_number, .inl (tc 0, 3, .inl t_number)), (qt_size, .inl (tc 0, 3, .inl t_size)), (qt_readers, .inl (tc 0, 3, .inl t_readers)), (qt_words, .inl (tc 1, 72, .inr (.inl t_words))), (qt_costs, .inl (tc 0, 72, .inl t_costs)), (qt_states, .inl (tc 0, 3, .inl t_states)), (qt_arcs, .inl (tc 0, 3, .inl t_arcs)), (qt_from, .inl (tc 0, 216, .inl t_from)), (qt_letters, .inl (tc 0, 216, .inl t_letters)), (qt_end, .inl (tc 0, 216, .inl t_end)), (qt_lowest, .inl (tc 0, 216, .inl t_lowest)), (qt_key, .inl (tc 1, 216, .inr (.inl t_key))), (qt_given, .inl (tc 1, 24, .inr (.inl t_given))), (qt_keys, .inl (tc 0, 24, .inl t_keys)), (qt_table, .inl (tc 0, 81, .inl t_table)), (qt_first, .inl (tc 1, 40, .inr (.inl t_first))), (qt_second, .inl (tc 1, 40, .inr (.inl t_second))), (qt_learnt, .inl (tc 0, 40, .inl t_learnt)), (qt_phrase, .inl (tc 1, 4, .inr (.inl t_phrase))), (qt_corrected, .inl (tc 1, 4, .inr (.inl t_corrected))), (qt_many, .inl (tc 0, 4, .inl t_many)), (qt_candidates, .inl (tc 1, 96, .inr (.inl t_candidates))), (qt_alone, .inl (tc 0, 96, .inl t_alone)), (qt_choice, .inl (tc 0, 4, .inl t_choice))] [] 221 []) ∧ (∀ d, x = .inr (.inr d) → Go p l e { frames := 2, cells := 0, slots := 0, locals := 45 } s m args below meth c (MQ below (Qs D A POST) args s 0 0 A) D A 11 0 0 [(qt, .inr (8, [.int t_thrown, .int t_drafted, .ref qt_draft, .ref qt_weight, .int t_there, .int t_made, .ref qt_number, .ref qt_size, .ref qt_readers, .ref qt_words, .ref qt_costs, .ref qt_states, .ref qt_arcs, .int t_beginnings, .ref qt_from, .ref qt_letters, .ref qt_end, .ref qt_lowest, .ref qt_key, .int t_givenSize, .ref qt_given, .ref qt_keys, .ref qt_table, .int t_pairs, .ref qt_first, .ref qt_second, .ref qt_learnt, .int t_said, .ref qt_phrase, .int t_answered, .ref qt_corrected, .ref qt_many, .ref qt_candidates, .ref qt_alone, .ref qt_choice])), (qt_draft, .inl (tc 1, 24, .inr (.inl t_draft))), (qt_weight, .inl (tc 0, 24, .inl t_weight)), (qt_number, .inl (tc 0, 3, .inl t_number)), (qt_size, .inl (tc 0, 3, .inl t_size)), (qt_readers, .inl (tc 0, 3, .inl t_readers)), (qt_words, .inl (tc 1, 72, .inr (.inl t_words))), (qt_costs, .inl (tc 0, 72, .inl t_costs)), (qt_states, .inl (tc 0, 3, .inl t_states)), (qt_arcs, .inl (tc 0, 3, .inl t_arcs)), (qt_from, .inl (tc 0, 216, .inl t_from)), (qt_letters, .inl (tc 0, 216, .inl t_letters)), (qt_end, .inl (tc 0, 216, .inl t_end)), (qt_lowest, .inl (tc 0, 216, .inl t_lowest)), (qt_key, .inl (tc 1, 216, .inr (.inl t_key))), (qt_given, .inl (tc 1, 24, .inr (.inl t_given))), (qt_keys, .inl (tc 0, 24, .inl t_keys)), (qt_table, .inl (tc 0, 81, .inl t_table)), (qt_first, .inl (tc 1, 40, .inr (.inl t_first))), (qt_second, .inl (tc 1, 40, .inr (.inl t_second))), (qt_learnt, .inl (tc 0, 40, .inl t_learnt)), (qt_phrase, .inl (tc 1, 4, .inr (.inl t_phrase))), (qt_corrected, .inl (tc 1, 4, .inr (.inl t_corrected))), (qt_many, .inl (tc 0, 4, .inl t_many)), (qt_candidates, .inl (tc 1, 96, .inr (.inl t_candidates))), (qt_alone, .inl (tc 0, 96, .inl t_alone)), (qt_choice, .inl (tc 0, 4, .inl t_choice))] [] 124 [])) → Go p l e { frames := 2, cells := 0, slots := 0, locals := 45 } s m args below meth c (MQ below (Qs D A POST) args s 0 0 A) D A 11 0 0 [(qt, .inr (8, [.int t_thrown, .int t_drafted, .ref qt_draft, .ref qt_weight, .int t_there, .int t_made, .ref qt_number, .ref qt_size, .ref qt_readers, .ref qt_words, .ref qt_costs, .ref qt_states, .ref qt_arcs, .int t_beginnings, .ref qt_from, .ref qt_letters, .ref qt_end, .ref qt_lowest, .ref qt_key, .int t_givenSize, .ref qt_given, .ref qt_keys, .ref qt_table, .int t_pairs, .ref qt_first, .ref qt_second, .ref qt_learnt, .int t_said, .ref qt_phrase, .int t_answered, .ref qt_corrected, .ref qt_many, .ref qt_candidates, .ref qt_alone, .ref qt_choice])), (qt_draft, .inl (tc 1, 24, .inr (.inl t_draft))), (qt_weight, .inl (tc 0, 24, .inl t_weight)), (qt_number, .inl (tc 0, 3, .inl t_number)), (qt_size, .inl (tc 0, 3, .inl t_size)), (qt_readers, .inl (tc 0, 3, .inl t_readers)), (qt_words, .inl (tc 1, 72, .inr (.inl t_words))), (qt_costs, .inl (tc 0, 72, .inl t_costs)), (qt_states, .inl (tc 0, 3, .inl t_states)), (qt_arcs, .inl (tc 0, 3, .inl t_arcs)), (qt_from, .inl (tc 0, 216, .inl t_from)), (qt_letters, .inl (tc 0, 216, .inl t_letters)), (qt_end, .inl (tc 0, 216, .inl t_end)), (qt_lowest, .inl (tc 0, 216, .inl t_lowest)), (qt_key, .inl (tc 1, 216, .inr (.inl t_key))), (qt_given, .inl (tc 1, 24, .inr (.inl t_given))), (qt_keys, .inl (tc 0, 24, .inl t_keys)), (qt_table, .inl (tc 0, 81, .inl t_table)), (qt_first, .inl (tc 1, 40, .inr (.inl t_first))), (qt_second, .inl (tc 1, 40, .inr (.inl t_second))), (qt_learnt, .inl (tc 0, 40, .inl t_learnt)), (qt_phrase, .inl (tc 1, 4, .inr (.inl t_phrase))), (qt_corrected, .inl (tc 1, 4, .inr (.inl t_corrected))), (qt_many, .inl (tc 0, 4, .inl t_many)), (qt_candidates, .inl (tc 1, 96, .inr (.inl t_candidates))), (qt_alone, .inl (tc 0, 96, .inl t_alone)), (qt_choice, .inl (tc 0, 4, .inl t_choice))] [(0, .ref qt), (1, .int a0), (2, .int a1), (3, .int a2), (4, .int l4), (5, .int l5)] 54 [] := by
    intro l4 n
    induction n with
    | zero =>
      intro l5 x hf hE
      simp [f_M_same_54] at hf
    | succ n ih =>
      intro l5 x hf hE
      have hf : f_M_same_54b t_words t_costs t_from t_letters t_end t_lowest t_key a0 a1 a2 l4 (f_M_same_54 t_words t_costs t_from t_letters t_end t_lowest t_key a0 a1 a2 l4 n) l5 = some x := hf
      have K129 : ∀ (l4 : Int32) (l5 : Int32) (l6 : Int32) (l7 : Int32) (n : Nat) (l8 : Int32) (x : ((Unit) ⊕ (Unit))), f_M_same_129 t_words t_costs t_from t_letters t_end t_lowest t_key a0 a1 a2 l4 l5 l6 l7 n l8 = some x → ((∀ d, x = .inl d → Go p l e { frames := 2, cells := 0, slots := 0, locals := 45 } s m args below meth c (MQ below (Qs D A POST) args s 0 0 A) D A 11 0 0 [(qt, .inr (8, [.int t_thrown, .int t_drafted, .ref qt_draft, .ref qt_weight, .int t_there, .int t_made, .ref qt_number, .ref qt_size, .ref qt_readers, .ref qt_words, .ref qt_costs, .ref qt_states, .ref qt_arcs, .int t_beginnings, .ref qt_from, .ref qt_letters, .ref qt_end, .ref qt_lowest, .ref qt_key, .int t_givenSize, .ref qt_given, .ref qt_keys, .ref qt_table, .int t_pairs, .ref qt_first, .ref qt_second, .ref qt_learnt, .int t_said, .ref qt_phrase, .int t_answered, .ref qt_corrected, .ref qt_many, .ref qt_candidates, .ref qt_alone, .ref qt_choice])), (qt_draft, .inl (tc 1, 24, .inr (.inl t_draft))), (qt_weight, .inl (tc 0, 24, .inl t_weight)), (qt_number, .inl (tc 0, 3, .inl t_number)), (qt_size, .inl (tc 0, 3, .inl t_size)), (qt_readers, .inl (tc 0, 3, .inl t_readers)), (qt_words, .inl (tc 1, 72, .inr (.inl t_words))), (qt_costs, .inl (tc 0, 72, .inl t_costs)), (qt_states, .inl (tc 0, 3, .inl t_states)), (qt_arcs, .inl (tc 0, 3, .inl t_arcs)), (qt_from, .inl (tc 0, 216, .inl t_from)), (qt_letters, .inl (tc 0, 216, .inl t_letters)), (qt_end, .inl (tc 0, 216, .inl t_end)), (qt_lowest, .inl (tc 0, 216, .inl t_lowest)), (qt_key, .inl (tc 1, 216, .inr (.inl t_key))), (qt_given, .inl (tc 1, 24, .inr (.inl t_given))), (qt_keys, .inl (tc 0, 24, .inl t_keys)), (qt_table, .inl (tc 0, 81, .inl t_table)), (qt_first, .inl (tc 1, 40, .inr (.inl t_first))), (qt_second, .inl (tc 1, 40, .inr (.inl t_second))), (qt_learnt, .inl (tc 0, 40, .inl t_learnt)), (qt_phrase, .inl (tc 1, 4, .inr (.inl t_phrase))), (qt_corrected, .inl (tc 1, 4, .inr (.inl t_corrected))), (qt_many, .inl (tc 0, 4, .inl t_many)), (qt_candidates, .inl (tc 1, 96, .inr (.inl t_candidates))), (qt_alone, .inl (tc 0, 96, .inl t_alone)), (qt_choice, .inl (tc 0, 4, .inl t_choice))] [(0, .ref qt), (1, .int a0), (2, .int a1), (3, .int a2), (4, .int l4), (5, .int l5)] 229 []) ∧ (∀ d, x = .inr d → Go p l e { frames := 2, cells := 0, slots := 0, locals := 45 } s m args below meth c (MQ below (Qs D A POST) args s 0 0 A) D A 11 0 0 [(qt, .inr (8, [.int t_thrown, .int t_drafted, .ref qt_draft, .ref qt_weight, .int t_there, .int t_made, .ref qt_number, .ref qt_size, .ref qt_readers, .ref qt_words, .ref qt_costs, .ref qt_states, .ref qt_arcs, .int t_beginnings, .ref qt_from, .ref qt_letters, .ref qt_end, .ref qt_lowest, .ref qt_key, .int t_givenSize, .ref qt_given, .ref qt_keys, .ref qt_table, .int t_pairs, .ref qt_first, .ref qt_second, .ref qt_learnt, .int t_said, .ref qt_phrase, .int t_answered, .ref qt_corrected, .ref qt_many, .ref qt_candidates, .ref qt_alone, .ref qt_choice])), (qt_draft, .inl (tc 1, 24, .inr (.inl t_draft))), (qt_weight, .inl (tc 0, 24, .inl t_weight)), (qt_number, .inl (tc 0, 3, .inl t_number)), (qt_size, .inl (tc 0, 3, .inl t_size)), (qt_readers, .inl (tc 0, 3, .inl t_readers)), (qt_words, .inl (tc 1, 72, .inr (.inl t_words))), (qt_costs, .inl (tc 0, 72, .inl t_costs)), (qt_states, .inl (tc 0, 3, .inl t_states)), (qt_arcs, .inl (tc 0, 3, .inl t_arcs)), (qt_from, .inl (tc 0, 216, .inl t_from)), (qt_letters, .inl (tc 0, 216, .inl t_letters)), (qt_end, .inl (tc 0, 216, .inl t_end)), (qt_lowest, .inl (tc 0, 216, .inl t_lowest)), (qt_key, .inl (tc 1, 216, .inr (.inl t_key))), (qt_given, .inl (tc 1, 24, .inr (.inl t_given))), (qt_keys, .inl (tc 0, 24, .inl t_keys)), (qt_table, .inl (tc 0, 81, .inl t_table)), (qt_first, .inl (tc 1, 40, .inr (.inl t_first))), (qt_second, .inl (tc 1, 40, .inr (.inl t_second))), (qt_learnt, .inl (tc 0, 40, .inl t_learnt)), (qt_phrase, .inl (tc 1, 4, .inr (.inl t_phrase))), (qt_corrected, .inl (tc 1, 4, .inr (.inl t_corrected))), (qt_many, .inl (tc 0, 4, .inl t_many)), (qt_candidates, .inl (tc 1, 96, .inr (.inl t_candidates))), (qt_alone, .inl (tc 0, 96, .inl t_alone)), (qt_choice, .inl (tc 0, 4, .inl t_choice))] [] 221 [])) → Go p l e { frames := 2, cells := 0, slots := 0, locals := 45 } s m args below meth c (MQ below (Qs D A POST) args s 0 0 A) D A 11 0 0 [(qt, .inr (8, [.int t_thrown, .int t_drafted, .ref qt_draft, .ref qt_weight, .int t_there, .int t_made, .ref qt_number, .ref qt_size, .ref qt_readers, .ref qt_words, .ref qt_costs, .ref qt_states, .ref qt_arcs, .int t_beginnings, .ref qt_from, .ref qt_letters, .ref qt_end, .ref qt_lowest, .ref qt_key, .int t_givenSize, .ref qt_given, .ref qt_keys, .ref qt_table, .int t_pairs, .ref qt_first, .ref qt_second, .ref qt_learnt, .int t_said, .ref qt_phrase, .int t_answered, .ref qt_corrected, .ref qt_many, .ref qt_candidates, .ref qt_alone, .ref qt_choice])), (qt_draft, .inl (tc 1, 24, .inr (.inl t_draft))), (qt_weight, .inl (tc 0, 24, .inl t_weight)), (qt_number, .inl (tc 0, 3, .inl t_number)), (qt_size, .inl (tc 0, 3, .inl t_size)), (qt_readers, .inl (tc 0, 3, .inl t_readers)), (qt_words, .inl (tc 1, 72, .inr (.inl t_words))), (qt_costs, .inl (tc 0, 72, .inl t_costs)), (qt_states, .inl (tc 0, 3, .inl t_states)), (qt_arcs, .inl (tc 0, 3, .inl t_arcs)), (qt_from, .inl (tc 0, 216, .inl t_from)), (qt_letters, .inl (tc 0, 216, .inl t_letters)), (qt_end, .inl (tc 0, 216, .inl t_end)), (qt_lowest, .inl (tc 0, 216, .inl t_lowest)), (qt_key, .inl (tc 1, 216, .inr (.inl t_key))), (qt_given, .inl (tc 1, 24, .inr (.inl t_given))), (qt_keys, .inl (tc 0, 24, .inl t_keys)), (qt_table, .inl (tc 0, 81, .inl t_table)), (qt_first, .inl (tc 1, 40, .inr (.inl t_first))), (qt_second, .inl (tc 1, 40, .inr (.inl t_second))), (qt_learnt, .inl (tc 0, 40, .inl t_learnt)), (qt_phrase, .inl (tc 1, 4, .inr (.inl t_phrase))), (qt_corrected, .inl (tc 1, 4, .inr (.inl t_corrected))), (qt_many, .inl (tc 0, 4, .inl t_many)), (qt_candidates, .inl (tc 1, 96, .inr (.inl t_candidates))), (qt_alone, .inl (tc 0, 96, .inl t_alone)), (qt_choice, .inl (tc 0, 4, .inl t_choice))] [(0, .ref qt), (1, .int a0), (2, .int a1), (3, .int a2), (4, .int l4), (5, .int l5), (6, .int l6), (7, .int l7), (8, .int l8)] 129 [] := by
        intro l4 l5 l6 l7 n
        induction n with
        | zero =>
          intro l8 x hf hE
          simp [f_M_same_129] at hf
        | succ n ih =>
          intro l8 x hf hE
          have hf : f_M_same_129b t_words t_costs t_from t_letters t_end t_lowest t_key a0 a1 a2 l4 l5 l6 l7 (f_M_same_129 t_words t_costs t_from t_letters t_end t_lowest t_key a0 a1 a2 l4 l5 l6 l7 n) l8 = some x := hf
          have K212 : ∀ (l8 : Int32) (l9 : Int32) (s0 : Int32), f_M_same_212 (f_M_same_129 t_words t_costs t_from t_letters t_end t_lowest t_key a0 a1 a2 l4 l5 l6 l7 n) t_words t_costs t_from t_letters t_end t_lowest t_key a0 a1 a2 l4 l5 l6 l7 l8 l9 s0 = some x → Go p l e { frames := 2, cells := 0, slots := 0, locals := 45 } s m args below meth c (MQ below (Qs D A POST) args s 0 0 A) D A 11 0 0 [(qt, .inr (8, [.int t_thrown, .int t_drafted, .ref qt_draft, .ref qt_weight, .int t_there, .int t_made, .ref qt_number, .ref qt_size, .ref qt_readers, .ref qt_words, .ref qt_costs, .ref qt_states, .ref qt_arcs, .int t_beginnings, .ref qt_from, .ref qt_letters, .ref qt_end, .ref qt_lowest, .ref qt_key, .int t_givenSize, .ref qt_given, .ref qt_keys, .ref qt_table, .int t_pairs, .ref qt_first, .ref qt_second, .ref qt_learnt, .int t_said, .ref qt_phrase, .int t_answered, .ref qt_corrected, .ref qt_many, .ref qt_candidates, .ref qt_alone, .ref qt_choice])), (qt_draft, .inl (tc 1, 24, .inr (.inl t_draft))), (qt_weight, .inl (tc 0, 24, .inl t_weight)), (qt_number, .inl (tc 0, 3, .inl t_number)), (qt_size, .inl (tc 0, 3, .inl t_size)), (qt_readers, .inl (tc 0, 3, .inl t_readers)), (qt_words, .inl (tc 1, 72, .inr (.inl t_words))), (qt_costs, .inl (tc 0, 72, .inl t_costs)), (qt_states, .inl (tc 0, 3, .inl t_states)), (qt_arcs, .inl (tc 0, 3, .inl t_arcs)), (qt_from, .inl (tc 0, 216, .inl t_from)), (qt_letters, .inl (tc 0, 216, .inl t_letters)), (qt_end, .inl (tc 0, 216, .inl t_end)), (qt_lowest, .inl (tc 0, 216, .inl t_lowest)), (qt_key, .inl (tc 1, 216, .inr (.inl t_key))), (qt_given, .inl (tc 1, 24, .inr (.inl t_given))), (qt_keys, .inl (tc 0, 24, .inl t_keys)), (qt_table, .inl (tc 0, 81, .inl t_table)), (qt_first, .inl (tc 1, 40, .inr (.inl t_first))), (qt_second, .inl (tc 1, 40, .inr (.inl t_second))), (qt_learnt, .inl (tc 0, 40, .inl t_learnt)), (qt_phrase, .inl (tc 1, 4, .inr (.inl t_phrase))), (qt_corrected, .inl (tc 1, 4, .inr (.inl t_corrected))), (qt_many, .inl (tc 0, 4, .inl t_many)), (qt_candidates, .inl (tc 1, 96, .inr (.inl t_candidates))), (qt_alone, .inl (tc 0, 96, .inl t_alone)), (qt_choice, .inl (tc 0, 4, .inl t_choice))] [(0, .ref qt), (1, .int a0), (2, .int a1), (3, .int a2), (4, .int l4), (5, .int l5), (6, .int l6), (7, .int l7), (8, .int l8), (9, .int l9)] 212 [.int s0] := by
            intro l8 l9 s0 hf
            unfold f_M_same_212 at hf
            refine go_istore C d_M_same_212 (lv' := [(10, .int s0), (0, .ref qt), (1, .int a0), (2, .int a1), (3, .int a2), (4, .int l4), (5, .int l5), (6, .int l6), (7, .int l7), (8, .int l8), (9, .int l9)]) (by decide) rfl (n := 214) rfl ?_
            refine go_iload C d_M_same_214 10 rfl (n := 216) rfl ?_
            refine go_iload C d_M_same_216 0 rfl (n := 218) rfl ?_
            have hi218 := iteS hf
            refine go_icmp_eq C d_M_same_218 (tgt := 223) (by decide) (n := 221) rfl (fun h218 => ?_) (fun h218 => ?_)
            · have hf := hi218.1 h218
              refine go_iinc C d_M_same_223 9 rfl (v := l8 + (1 : Int32)) rfl (lv' := [(8, .int (l8 + (1 : Int32))), (10, .int s0), (0, .ref qt), (1, .int a0), (2, .int a1), (3, .int a2), (4, .int l4), (5, .int l5), (6, .int l6), (7, .int l7), (9, .int l9)]) (by decide) rfl (n := 226) rfl ?_
              refine go_goto C d_M_same_226 (tgt := 129) (by decide) ?_
              refine go_lv (lv' := [(0, .ref qt), (1, .int a0), (2, .int a1), (3, .int a2), (4, .int l4), (5, .int l5), (6, .int l6), (7, .int l7), (8, .int (l8 + (1 : Int32)))]) [2, 3, 4, 5, 6, 7, 8, 9, 0] rfl ?_
              exact ih (l8 + (1 : Int32)) x hf hE
            · have hf := hi218.2 h218
              refine go_lv (lv' := []) [] rfl ?_
              cases hf
              exact hE.2 _ rfl
          have K173 : ∀ (l8 : Int32) (s0 : Int32), f_M_same_173 (f_M_same_129 t_words t_costs t_from t_letters t_end t_lowest t_key a0 a1 a2 l4 l5 l6 l7 n) t_words t_costs t_from t_letters t_end t_lowest t_key a0 a1 a2 l4 l5 l6 l7 l8 s0 = some x → Go p l e { frames := 2, cells := 0, slots := 0, locals := 45 } s m args below meth c (MQ below (Qs D A POST) args s 0 0 A) D A 11 0 0 [(qt, .inr (8, [.int t_thrown, .int t_drafted, .ref qt_draft, .ref qt_weight, .int t_there, .int t_made, .ref qt_number, .ref qt_size, .ref qt_readers, .ref qt_words, .ref qt_costs, .ref qt_states, .ref qt_arcs, .int t_beginnings, .ref qt_from, .ref qt_letters, .ref qt_end, .ref qt_lowest, .ref qt_key, .int t_givenSize, .ref qt_given, .ref qt_keys, .ref qt_table, .int t_pairs, .ref qt_first, .ref qt_second, .ref qt_learnt, .int t_said, .ref qt_phrase, .int t_answered, .ref qt_corrected, .ref qt_many, .ref qt_candidates, .ref qt_alone, .ref qt_choice])), (qt_draft, .inl (tc 1, 24, .inr (.inl t_draft))), (qt_weight, .inl (tc 0, 24, .inl t_weight)), (qt_number, .inl (tc 0, 3, .inl t_number)), (qt_size, .inl (tc 0, 3, .inl t_size)), (qt_readers, .inl (tc 0, 3, .inl t_readers)), (qt_words, .inl (tc 1, 72, .inr (.inl t_words))), (qt_costs, .inl (tc 0, 72, .inl t_costs)), (qt_states, .inl (tc 0, 3, .inl t_states)), (qt_arcs, .inl (tc 0, 3, .inl t_arcs)), (qt_from, .inl (tc 0, 216, .inl t_from)), (qt_letters, .inl (tc 0, 216, .inl t_letters)), (qt_end, .inl (tc 0, 216, .inl t_end)), (qt_lowest, .inl (tc 0, 216, .inl t_lowest)), (qt_key, .inl (tc 1, 216, .inr (.inl t_key))), (qt_given, .inl (tc 1, 24, .inr (.inl t_given))), (qt_keys, .inl (tc 0, 24, .inl t_keys)), (qt_table, .inl (tc 0, 81, .inl t_table)), (qt_first, .inl (tc 1, 40, .inr (.inl t_first))), (qt_second, .inl (tc 1, 40, .inr (.inl t_second))), (qt_learnt, .inl (tc 0, 40, .inl t_learnt)), (qt_phrase, .inl (tc 1, 4, .inr (.inl t_phrase))), (qt_corrected, .inl (tc 1, 4, .inr (.inl t_corrected))), (qt_many, .inl (tc 0, 4, .inl t_many)), (qt_candidates, .inl (tc 1, 96, .inr (.inl t_candidates))), (qt_alone, .inl (tc 0, 96, .inl t_alone)), (qt_choice, .inl (tc 0, 4, .inl t_choice))] [(0, .ref qt), (1, .int a0), (2, .int a1), (3, .int a2), (4, .int l4), (5, .int l5), (6, .int l6), (7, .int l7), (8, .int l8)] 173 [.int s0] := by
            intro l8 s0 hf
            unfold f_M_same_173 at hf
            refine go_istore C d_M_same_173 (lv' := [(9, .int s0), (0, .ref qt), (1, .int a0), (2, .int a1), (3, .int a2), (4, .int l4), (5, .int l5), (6, .int l6), (7, .int l7), (8, .int l8)]) (by decide) rfl (n := 175) rfl ?_
            refine go_aload_n C d_M_same_175 rfl 1 rfl (n := 176) rfl ?_
            refine go_get C d_M_same_176 fl_M_41 0 rfl rfl (n := 179) rfl ?_
            refine go_iload_n C d_M_same_179 rfl 4 rfl (n := 180) rfl ?_
            obtain ⟨hg180, hf⟩ := guardS hf
            refine go_iald C d_M_same_180 11 rfl hg180 (n := 181) rfl ?_
            refine go_iload C d_M_same_181 9 rfl (n := 183) rfl ?_
            refine go_iadd C d_M_same_183 (n := 184) rfl ?_
            refine go_bipush C (v := 8) d_M_same_184 rfl (n := 186) rfl ?_
            have hi186 := iteS hf
            refine go_icmp_ge C d_M_same_186 (tgt := 211) (by decide) (n := 189) rfl (fun h186 => ?_) (fun h186 => ?_)
            · have hf := hi186.1 h186
              refine go_iconst C (v := 0) d_M_same_211 rfl (n := 212) rfl ?_
              refine go_lv (lv' := [(0, .ref qt), (1, .int a0), (2, .int a1), (3, .int a2), (4, .int l4), (5, .int l5), (6, .int l6), (7, .int l7), (8, .int l8), (9, .int s0)]) [1, 2, 3, 4, 5, 6, 7, 8, 9, 0] rfl ?_
              exact K212 l8 s0 (0 : Int32) hf
            · have hf := hi186.2 h186
              refine go_aload_n C d_M_same_189 rfl 1 rfl (n := 190) rfl ?_
              refine go_get C d_M_same_190 fl_M_26 0 rfl rfl (n := 193) rfl ?_
              refine go_iload C d_M_same_193 8 rfl (n := 195) rfl ?_
              obtain ⟨hg195, hf⟩ := guardS hf
              refine go_lald C d_M_same_195 6 rfl hg195 (n := 196) rfl ?_
              refine go_aload_n C d_M_same_196 rfl 1 rfl (n := 197) rfl ?_
              refine go_get C d_M_same_197 fl_M_41 0 rfl rfl (n := 200) rfl ?_
              refine go_iload_n C d_M_same_200 rfl 4 rfl (n := 201) rfl ?_
              obtain ⟨hg201, hf⟩ := guardS hf
              refine go_iald C d_M_same_201 11 rfl hg201 (n := 202) rfl ?_
              refine go_iload C d_M_same_202 9 rfl (n := 204) rfl ?_
              refine go_iadd C d_M_same_204 (n := 205) rfl ?_
              obtain ⟨o205, ho205, hf⟩ := bindS hf
              refine go_callP C (As := [.long (t_words l7.toNatClampNeg), .int ((t_letters a2.toNatClampNeg) + l8)]) (rest := []) d_M_same_205 (c_M_at l D tc (t_words l7.toNatClampNeg) ((t_letters a2.toNatClampNeg) + l8) ho205 (fun r w => r = some (.int o205) ∧ w = []) ⟨rfl, rfl⟩) lk_M_107 mw_M_at ws_M_at rfl rfl ⟨(Nat.le_of_ble_eq_true rfl), (Nat.le_of_ble_eq_true rfl)⟩ rfl rfl (Nat.le_of_ble_eq_true rfl) ⟨(Nat.le_of_ble_eq_true rfl), (Nat.le_of_ble_eq_true rfl)⟩ (n := 208) rfl ?_
              rintro _ _ ⟨rfl, rfl⟩
              refine go_goto C d_M_same_208 (tgt := 212) (by decide) ?_
              refine go_lv (lv' := [(0, .ref qt), (1, .int a0), (2, .int a1), (3, .int a2), (4, .int l4), (5, .int l5), (6, .int l6), (7, .int l7), (8, .int l8), (9, .int s0)]) [1, 2, 3, 4, 5, 6, 7, 8, 9, 0] rfl ?_
              exact K212 l8 s0 o205 hf
          unfold f_M_same_129b at hf
          refine go_iload C d_M_same_129 8 rfl (n := 131) rfl ?_
          refine go_bipush C (v := 8) d_M_same_131 rfl (n := 133) rfl ?_
          have hi133 := iteS hf
          refine go_icmp_ge C d_M_same_133 (tgt := 229) (by decide) (n := 136) rfl (fun h133 => ?_) (fun h133 => ?_)
          · have hf := hi133.1 h133
            refine go_lv (lv' := [(0, .ref qt), (1, .int a0), (2, .int a1), (3, .int a2), (4, .int l4), (5, .int l5)]) [0, 1, 2, 3, 4, 5] rfl ?_
            cases hf
            exact hE.1 _ rfl
          · have hf := hi133.2 h133
            refine go_aload_n C d_M_same_136 rfl 0 rfl (n := 137) rfl ?_
            refine go_get C d_M_same_137 fl_M_41 0 rfl rfl (n := 140) rfl ?_
            refine go_iload_n C d_M_same_140 rfl 2 rfl (n := 141) rfl ?_
            obtain ⟨hg141, hf⟩ := guardS hf
            refine go_iald C d_M_same_141 11 rfl hg141 (n := 142) rfl ?_
            refine go_iload C d_M_same_142 8 rfl (n := 144) rfl ?_
            refine go_iadd C d_M_same_144 (n := 145) rfl ?_
            refine go_bipush C (v := 8) d_M_same_145 rfl (n := 147) rfl ?_
            have hi147 := iteS hf
            refine go_icmp_ge C d_M_same_147 (tgt := 172) (by decide) (n := 150) rfl (fun h147 => ?_) (fun h147 => ?_)
            · have hf := hi147.1 h147
              refine go_iconst C (v := 0) d_M_same_172 rfl (n := 173) rfl ?_
              exact K173 l8 (0 : Int32) hf
            · have hf := hi147.2 h147
              refine go_aload_n C d_M_same_150 rfl 0 rfl (n := 151) rfl ?_
              refine go_get C d_M_same_151 fl_M_26 0 rfl rfl (n := 154) rfl ?_
              refine go_iload C d_M_same_154 6 rfl (n := 156) rfl ?_
              obtain ⟨hg156, hf⟩ := guardS hf
              refine go_lald C d_M_same_156 6 rfl hg156 (n := 157) rfl ?_
              refine go_aload_n C d_M_same_157 rfl 0 rfl (n := 158) rfl ?_
              refine go_get C d_M_same_158 fl_M_41 0 rfl rfl (n := 161) rfl ?_
              refine go_iload_n C d_M_same_161 rfl 2 rfl (n := 162) rfl ?_
              obtain ⟨hg162, hf⟩ := guardS hf
              refine go_iald C d_M_same_162 11 rfl hg162 (n := 163) rfl ?_
              refine go_iload C d_M_same_163 8 rfl (n := 165) rfl ?_
              refine go_iadd C d_M_same_165 (n := 166) rfl ?_
              obtain ⟨o166, ho166, hf⟩ := bindS hf
              refine go_callP C (As := [.long (t_words l6.toNatClampNeg), .int ((t_letters a1.toNatClampNeg) + l8)]) (rest := []) d_M_same_166 (c_M_at l D tc (t_words l6.toNatClampNeg) ((t_letters a1.toNatClampNeg) + l8) ho166 (fun r w => r = some (.int o166) ∧ w = []) ⟨rfl, rfl⟩) lk_M_107 mw_M_at ws_M_at rfl rfl ⟨(Nat.le_of_ble_eq_true rfl), (Nat.le_of_ble_eq_true rfl)⟩ rfl rfl (Nat.le_of_ble_eq_true rfl) ⟨(Nat.le_of_ble_eq_true rfl), (Nat.le_of_ble_eq_true rfl)⟩ (n := 169) rfl ?_
              rintro _ _ ⟨rfl, rfl⟩
              refine go_goto C d_M_same_169 (tgt := 173) (by decide) ?_
              exact K173 l8 o166 hf
      unfold f_M_same_54b at hf
      refine go_iload C d_M_same_54 5 rfl (n := 56) rfl ?_
      refine go_iload C d_M_same_56 4 rfl (n := 58) rfl ?_
      have hi58 := iteS hf
      refine go_icmp_ge C d_M_same_58 (tgt := 235) (by decide) (n := 61) rfl (fun h58 => ?_) (fun h58 => ?_)
      · have hf := hi58.1 h58
        refine go_lv (lv' := []) [] rfl ?_
        cases hf
        exact hE.1 _ rfl
      · have hf := hi58.2 h58
        refine go_bipush C (v := 24) d_M_same_61 rfl (n := 63) rfl ?_
        refine go_iload_n C d_M_same_63 rfl 1 rfl (n := 64) rfl ?_
        refine go_imul C d_M_same_64 (n := 65) rfl ?_
        refine go_aload_n C d_M_same_65 rfl 0 rfl (n := 66) rfl ?_
        refine go_get C d_M_same_66 fl_M_38 0 rfl rfl (n := 69) rfl ?_
        refine go_iload_n C d_M_same_69 rfl 2 rfl (n := 70) rfl ?_
        obtain ⟨hg70, hf⟩ := guardS hf
        refine go_iald C d_M_same_70 10 rfl hg70 (n := 71) rfl ?_
        refine go_iadd C d_M_same_71 (n := 72) rfl ?_
        refine go_iload C d_M_same_72 5 rfl (n := 74) rfl ?_
        refine go_iadd C d_M_same_74 (n := 75) rfl ?_
        refine go_istore C d_M_same_75 (lv' := [(6, .int ((((24 : Int32) * a0) + (t_from a1.toNatClampNeg)) + l5)), (0, .ref qt), (1, .int a0), (2, .int a1), (3, .int a2), (4, .int l4), (5, .int l5)]) (by decide) rfl (n := 77) rfl ?_
        refine go_bipush C (v := 24) d_M_same_77 rfl (n := 79) rfl ?_
        refine go_iload_n C d_M_same_79 rfl 2 rfl (n := 80) rfl ?_
        refine go_imul C d_M_same_80 (n := 81) rfl ?_
        refine go_aload_n C d_M_same_81 rfl 1 rfl (n := 82) rfl ?_
        refine go_get C d_M_same_82 fl_M_38 0 rfl rfl (n := 85) rfl ?_
        refine go_iload_n C d_M_same_85 rfl 4 rfl (n := 86) rfl ?_
        obtain ⟨hg86, hf⟩ := guardS hf
        refine go_iald C d_M_same_86 10 rfl hg86 (n := 87) rfl ?_
        refine go_iadd C d_M_same_87 (n := 88) rfl ?_
        refine go_iload C d_M_same_88 6 rfl (n := 90) rfl ?_
        refine go_iadd C d_M_same_90 (n := 91) rfl ?_
        refine go_istore C d_M_same_91 (lv' := [(7, .int ((((24 : Int32) * a0) + (t_from a2.toNatClampNeg)) + l5)), (6, .int ((((24 : Int32) * a0) + (t_from a1.toNatClampNeg)) + l5)), (0, .ref qt), (1, .int a0), (2, .int a1), (3, .int a2), (4, .int l4), (5, .int l5)]) (by decide) rfl (n := 93) rfl ?_
        refine go_aload_n C d_M_same_93 rfl 2 rfl (n := 94) rfl ?_
        refine go_get C d_M_same_94 fl_M_29 0 rfl rfl (n := 97) rfl ?_
        refine go_iload C d_M_same_97 1 rfl (n := 99) rfl ?_
        obtain ⟨hg99, hf⟩ := guardS hf
        refine go_iald C d_M_same_99 7 rfl hg99 (n := 100) rfl ?_
        refine go_aload_n C d_M_same_100 rfl 2 rfl (n := 101) rfl ?_
        refine go_get C d_M_same_101 fl_M_47 0 rfl rfl (n := 104) rfl ?_
        refine go_iload_n C d_M_same_104 rfl 4 rfl (n := 105) rfl ?_
        obtain ⟨hg105, hf⟩ := guardS hf
        refine go_iald C d_M_same_105 13 rfl hg105 (n := 106) rfl ?_
        refine go_isub C d_M_same_106 (n := 107) rfl ?_
        refine go_aload_n C d_M_same_107 rfl 2 rfl (n := 108) rfl ?_
        refine go_get C d_M_same_108 fl_M_29 0 rfl rfl (n := 111) rfl ?_
        refine go_iload C d_M_same_111 0 rfl (n := 113) rfl ?_
        obtain ⟨hg113, hf⟩ := guardS hf
        refine go_iald C d_M_same_113 7 rfl hg113 (n := 114) rfl ?_
        refine go_aload_n C d_M_same_114 rfl 2 rfl (n := 115) rfl ?_
        refine go_get C d_M_same_115 fl_M_47 0 rfl rfl (n := 118) rfl ?_
        refine go_iload_n C d_M_same_118 rfl 5 rfl (n := 119) rfl ?_
        obtain ⟨hg119, hf⟩ := guardS hf
        refine go_iald C d_M_same_119 13 rfl hg119 (n := 120) rfl ?_
        refine go_isub C d_M_same_120 (n := 121) rfl ?_
        have hi121 := iteS hf
        refine go_icmp_eq C d_M_same_121 (tgt := 126) (by decide) (n := 124) rfl (fun h121 => ?_) (fun h121 => ?_)
        · have hf := hi121.1 h121
          refine go_iconst C (v := 0) d_M_same_126 rfl (n := 127) rfl ?_
          refine go_istore C d_M_same_127 (lv' := [(8, .int (0 : Int32)), (7, .int ((((24 : Int32) * a0) + (t_from a2.toNatClampNeg)) + l5)), (6, .int ((((24 : Int32) * a0) + (t_from a1.toNatClampNeg)) + l5)), (0, .ref qt), (1, .int a0), (2, .int a1), (3, .int a2), (4, .int l4), (5, .int l5)]) (by decide) rfl (n := 129) rfl ?_
          refine go_lv (lv' := [(0, .ref qt), (1, .int a0), (2, .int a1), (3, .int a2), (4, .int l4), (5, .int l5), (6, .int ((((24 : Int32) * a0) + (t_from a1.toNatClampNeg)) + l5)), (7, .int ((((24 : Int32) * a0) + (t_from a2.toNatClampNeg)) + l5)), (8, .int (0 : Int32))]) [3, 4, 5, 6, 7, 8, 2, 1, 0] rfl ?_
          obtain ⟨y129, hx129, hf⟩ := bindS hf
          refine K129 l4 l5 ((((24 : Int32) * a0) + (t_from a1.toNatClampNeg)) + l5) ((((24 : Int32) * a0) + (t_from a2.toNatClampNeg)) + l5) FU (0 : Int32) y129 hx129 ⟨fun x129 hd => ?_, fun x129 hd => ?_⟩
          · subst hd
            dsimp only [Sum.elim_inl, Sum.elim_inr] at hf
            refine go_iinc C d_M_same_229 5 rfl (v := l5 + (1 : Int32)) rfl (lv' := [(5, .int (l5 + (1 : Int32))), (0, .ref qt), (1, .int a0), (2, .int a1), (3, .int a2), (4, .int l4)]) (by decide) rfl (n := 232) rfl ?_
            refine go_goto C d_M_same_232 (tgt := 54) (by decide) ?_
            refine go_lv (lv' := [(0, .ref qt), (1, .int a0), (2, .int a1), (3, .int a2), (4, .int l4), (5, .int (l5 + (1 : Int32)))]) [1, 2, 3, 4, 5, 0] rfl ?_
            exact ih (l5 + (1 : Int32)) x hf hE
          · subst hd
            dsimp only [Sum.elim_inl, Sum.elim_inr] at hf
            cases hf
            exact hE.2.1 _ rfl
        · have hf := hi121.2 h121
          refine go_lv (lv' := []) [] rfl ?_
          cases hf
          exact hE.2.2 _ rfl
  unfold f_M_same at hf
  refine go_aload_n C d_M_same_0 rfl 0 rfl (n := 1) rfl ?_
  refine go_get C d_M_same_1 fl_M_44 0 rfl rfl (n := 4) rfl ?_
  refine go_iload_n C d_M_same_4 rfl 2 rfl (n := 5) rfl ?_
  obtain ⟨hg5, hf⟩ := guardS hf
  refine go_iald C d_M_same_5 12 rfl hg5 (n := 6) rfl ?_
  refine go_aload_n C d_M_same_6 rfl 0 rfl (n := 7) rfl ?_
  refine go_get C d_M_same_7 fl_M_38 0 rfl rfl (n := 10) rfl ?_
  refine go_iload_n C d_M_same_10 rfl 2 rfl (n := 11) rfl ?_
  obtain ⟨hg11, hf⟩ := guardS hf
  refine go_iald C d_M_same_11 10 rfl hg11 (n := 12) rfl ?_
  refine go_isub C d_M_same_12 (n := 13) rfl ?_
  refine go_istore C d_M_same_13 (lv' := [(4, .int ((t_end a1.toNatClampNeg) - (t_from a1.toNatClampNeg))), (0, .ref qt), (1, .int a0), (2, .int a1), (3, .int a2)]) (by decide) rfl (n := 15) rfl ?_
  refine go_aload_n C d_M_same_15 rfl 1 rfl (n := 16) rfl ?_
  refine go_get C d_M_same_16 fl_M_50 0 rfl rfl (n := 19) rfl ?_
  refine go_iload_n C d_M_same_19 rfl 3 rfl (n := 20) rfl ?_
  obtain ⟨hg20, hf⟩ := guardS hf
  refine go_lald C d_M_same_20 14 rfl hg20 (n := 21) rfl ?_
  refine go_aload_n C d_M_same_21 rfl 1 rfl (n := 22) rfl ?_
  refine go_get C d_M_same_22 fl_M_50 0 rfl rfl (n := 25) rfl ?_
  refine go_iload_n C d_M_same_25 rfl 4 rfl (n := 26) rfl ?_
  obtain ⟨hg26, hf⟩ := guardS hf
  refine go_lald C d_M_same_26 14 rfl hg26 (n := 27) rfl ?_
  have hi27 := iteS hf
  refine go_lcmp_ne C d_M_same_27 (n1 := 28) rfl d_M_same_28 (tgt := 49) (by decide) (n := 31) rfl (fun h27 => ?_) (fun h27 => ?_)
  · have hf := hi27.2 h27
    refine go_iconst C (v := 0) d_M_same_49 rfl (n := 50) rfl ?_
    cases hf
    exact go_zret C d_M_same_50 hr rfl hPOST
  · have hf := hi27.1 h27
    refine go_iload C d_M_same_31 0 rfl (n := 33) rfl ?_
    refine go_aload_n C d_M_same_33 rfl 1 rfl (n := 34) rfl ?_
    refine go_get C d_M_same_34 fl_M_44 0 rfl rfl (n := 37) rfl ?_
    refine go_iload_n C d_M_same_37 rfl 4 rfl (n := 38) rfl ?_
    obtain ⟨hg38, hf⟩ := guardS hf
    refine go_iald C d_M_same_38 12 rfl hg38 (n := 39) rfl ?_
    refine go_aload_n C d_M_same_39 rfl 1 rfl (n := 40) rfl ?_
    refine go_get C d_M_same_40 fl_M_38 0 rfl rfl (n := 43) rfl ?_
    refine go_iload_n C d_M_same_43 rfl 4 rfl (n := 44) rfl ?_
    obtain ⟨hg44, hf⟩ := guardS hf
    refine go_iald C d_M_same_44 10 rfl hg44 (n := 45) rfl ?_
    refine go_isub C d_M_same_45 (n := 46) rfl ?_
    have hi46 := iteS hf
    refine go_icmp_eq C d_M_same_46 (tgt := 51) (by decide) (n := 49) rfl (fun h46 => ?_) (fun h46 => ?_)
    · have hf := hi46.1 h46
      refine go_iconst C (v := 0) d_M_same_51 rfl (n := 52) rfl ?_
      refine go_istore C d_M_same_52 (lv' := [(5, .int (0 : Int32)), (4, .int ((t_end a1.toNatClampNeg) - (t_from a1.toNatClampNeg))), (0, .ref qt), (1, .int a0), (2, .int a1), (3, .int a2)]) (by decide) rfl (n := 54) rfl ?_
      refine go_lv (lv' := [(0, .ref qt), (1, .int a0), (2, .int a1), (3, .int a2), (4, .int ((t_end a1.toNatClampNeg) - (t_from a1.toNatClampNeg))), (5, .int (0 : Int32))]) [2, 3, 4, 5, 1, 0] rfl ?_
      obtain ⟨y54, hx54, hf⟩ := bindS hf
      refine K54 ((t_end a1.toNatClampNeg) - (t_from a1.toNatClampNeg)) FU (0 : Int32) y54 hx54 ⟨fun x54 hd => ?_, fun x54 hd => ?_, fun x54 hd => ?_⟩
      · subst hd
        dsimp only [Sum.elim_inl, Sum.elim_inr] at hf
        refine go_iconst C (v := 1) d_M_same_235 rfl (n := 236) rfl ?_
        cases hf
        exact go_zret C d_M_same_236 hr rfl hPOST
      · subst hd
        dsimp only [Sum.elim_inl, Sum.elim_inr] at hf
        refine go_iconst C (v := 0) d_M_same_221 rfl (n := 222) rfl ?_
        cases hf
        exact go_zret C d_M_same_222 hr rfl hPOST
      · subst hd
        dsimp only [Sum.elim_inl, Sum.elim_inr] at hf
        refine go_iconst C (v := 0) d_M_same_124 rfl (n := 125) rfl ?_
        cases hf
        exact go_zret C d_M_same_125 hr rfl hPOST
    · have hf := hi46.2 h46
      refine go_iconst C (v := 0) d_M_same_49 rfl (n := 50) rfl ?_
      cases hf
      exact go_zret C d_M_same_50 hr rfl hPOST
