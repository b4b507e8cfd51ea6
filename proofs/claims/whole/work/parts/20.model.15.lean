def f_M_distanceOf_210 (rec : (Nat → Int32) → Int32 → Option ((Nat → Int32))) (a0 : Int64) (a1 : Int64) (l5 : Int32) (l6 : Int32) (l7 : Int32) (v_t_table : Nat → Int32) (l8 : Int32) (l9 : Int32) : Option ((Nat → Int32)) :=
  if okI (((9 : Int32) * l7) + l8) 81 = true then rec (upd v_t_table (((9 : Int32) * l7) + l8).toNatClampNeg l9) (l8 + (1 : Int32)) else none
def f_M_distanceOf_135 (rec : (Nat → Int32) → Int32 → Option ((Nat → Int32))) (a0 : Int64) (a1 : Int64) (l5 : Int32) (l6 : Int32) (l7 : Int32) (v_t_table : Nat → Int32) (l8 : Int32) (l9 : Int32) : Option ((Nat → Int32)) :=
  if l7 ≤ (1 : Int32) then f_M_distanceOf_210 rec a0 a1 l5 l6 l7 v_t_table l8 l9 else if l8 ≤ (1 : Int32) then f_M_distanceOf_210 rec a0 a1 l5 l6 l7 v_t_table l8 l9 else (f_M_at a0 (l7 - (2 : Int32))).bind (fun o152 => (f_M_at a1 (l8 - (1 : Int32))).bind (fun o160 => if o152 = o160 then (f_M_at a0 (l7 - (1 : Int32))).bind (fun o171 => (f_M_at a1 (l8 - (2 : Int32))).bind (fun o179 => if o171 = o179 then if okI ((((9 : Int32) * l7) + l8) - (20 : Int32)) 81 = true then (f_M_lesser l9 ((v_t_table ((((9 : Int32) * l7) + l8) - (20 : Int32)).toNatClampNeg) + (1 : Int32))).bind (fun o205 => f_M_distanceOf_210 rec a0 a1 l5 l6 l7 v_t_table l8 o205) else none else f_M_distanceOf_210 rec a0 a1 l5 l6 l7 v_t_table l8 l9)) else f_M_distanceOf_210 rec a0 a1 l5 l6 l7 v_t_table l8 l9))
def f_M_distanceOf_73 (rec : (Nat → Int32) → Int32 → Option ((Nat → Int32))) (a0 : Int64) (a1 : Int64) (l5 : Int32) (l6 : Int32) (l7 : Int32) (v_t_table : Nat → Int32) (l8 : Int32) (s0 : Int32) : Option ((Nat → Int32)) :=
  if okI ((((9 : Int32) * l7) - (9 : Int32)) + l8) 81 = true then if okI ((((9 : Int32) * l7) + l8) - (1 : Int32)) 81 = true then (f_M_lesser (v_t_table ((((9 : Int32) * l7) - (9 : Int32)) + l8).toNatClampNeg) (v_t_table ((((9 : Int32) * l7) + l8) - (1 : Int32)).toNatClampNeg)).bind (fun o106 => if okI ((((9 : Int32) * l7) + l8) - (10 : Int32)) 81 = true then (f_M_lesser (o106 + (1 : Int32)) ((v_t_table ((((9 : Int32) * l7) + l8) - (10 : Int32)).toNatClampNeg) + s0)).bind (fun o130 => f_M_distanceOf_135 rec a0 a1 l5 l6 l7 v_t_table l8 o130) else none) else none else none
def f_M_distanceOf_25b (a0 : Int64) (a1 : Int64) (l5 : Int32) (l6 : Int32) (l7 : Int32) (rec : (Nat → Int32) → Int32 → Option ((Nat → Int32))) (v_t_table : Nat → Int32) (l8 : Int32) : Option ((Nat → Int32)) :=
  if l6 < l8 then some ( v_t_table) else if l7 ≤ 0 then f_M_distanceOf_135 rec a0 a1 l5 l6 l7 v_t_table l8 (l7 + l8) else if l8 ≤ 0 then f_M_distanceOf_135 rec a0 a1 l5 l6 l7 v_t_table l8 (l7 + l8) else (f_M_at a0 (l7 - (1 : Int32))).bind (fun o54 => (f_M_at a1 (l8 - (1 : Int32))).bind (fun o62 => if o54 = o62 then f_M_distanceOf_73 rec a0 a1 l5 l6 l7 v_t_table l8 (0 : Int32) else f_M_distanceOf_73 rec a0 a1 l5 l6 l7 v_t_table l8 (1 : Int32)))
def f_M_distanceOf_25 (a0 : Int64) (a1 : Int64) (l5 : Int32) (l6 : Int32) (l7 : Int32) : Nat → (Nat → Int32) → Int32 → Option ((Nat → Int32))
  | 0 => fun _ _ => none
  | n + 1 => f_M_distanceOf_25b a0 a1 l5 l6 l7 (f_M_distanceOf_25 a0 a1 l5 l6 l7 n)
def f_M_distanceOf_15b (a0 : Int64) (a1 : Int64) (l5 : Int32) (l6 : Int32) (rec : (Nat → Int32) → Int32 → Option ((Nat → Int32))) (v_t_table : Nat → Int32) (l7 : Int32) : Option ((Nat → Int32)) :=
  if l5 < l7 then some ( v_t_table) else (f_M_distanceOf_25 a0 a1 l5 l6 l7 FU v_t_table (0 : Int32)).bind (fun x25 => rec x25 (l7 + (1 : Int32)))
def f_M_distanceOf_15 (a0 : Int64) (a1 : Int64) (l5 : Int32) (l6 : Int32) : Nat → (Nat → Int32) → Int32 → Option ((Nat → Int32))
  | 0 => fun _ _ => none
  | n + 1 => f_M_distanceOf_15b a0 a1 l5 l6 (f_M_distanceOf_15 a0 a1 l5 l6 n)
def f_M_distanceOf (t_table : Nat → Int32) (a0 : Int64) (a1 : Int64) : Option (Int32 × (Nat → Int32)) :=
  (f_M_lettersOf a0).bind (fun o1 => (f_M_lettersOf a1).bind (fun o7 => (f_M_distanceOf_15 a0 a1 o1 o7 FU t_table (0 : Int32)).bind (fun x15 => if okI (((9 : Int32) * o1) + o7) 81 = true then some (x15 (((9 : Int32) * o1) + o7).toNatClampNeg, x15) else none)))
set_option maxRecDepth 100000 in
set_option maxHeartbeats 4000000 in
theorem c_M_distanceOf (l : Launch) (D : va_G) (tc : Nat → ClassId) (qt : Nat) (qt_draft : Nat) (qt_weight : Nat) (qt_number : Nat) (qt_size : Nat) (qt_readers : Nat) (qt_words : Nat) (qt_costs : Nat) (qt_states : Nat) (qt_arcs : Nat) (qt_from : Nat) (qt_letters : Nat) (qt_end : Nat) (qt_lowest : Nat) (qt_key : Nat) (qt_given : Nat) (qt_keys : Nat) (qt_table : Nat) (qt_first : Nat) (qt_second : Nat) (qt_learnt : Nat) (qt_phrase : Nat) (qt_corrected : Nat) (qt_many : Nat) (qt_candidates : Nat) (qt_alone : Nat) (qt_choice : Nat) (t_thrown : Int32) (t_drafted : Int32) (t_there : Int32) (t_made : Int32) (t_beginnings : Int32) (t_givenSize : Int32) (t_pairs : Int32) (t_said : Int32) (t_answered : Int32) (t_draft : Nat → Int64) (t_weight : Nat → Int32) (t_number : Nat → Int32) (t_size : Nat → Int32) (t_readers : Nat → Int32) (t_words : Nat → Int64) (t_costs : Nat → Int32) (t_states : Nat → Int32) (t_arcs : Nat → Int32) (t_from : Nat → Int32) (t_letters : Nat → Int32) (t_end : Nat → Int32) (t_lowest : Nat → Int32) (t_key : Nat → Int64) (t_given : Nat → Int64) (t_keys : Nat → Int32) (t_table : Nat → Int32) (t_first : Nat → Int64) (t_second : Nat → Int64) (t_learnt : Nat → Int32) (t_phrase : Nat → Int64) (t_corrected : Nat → Int64) (t_many : Nat → Int32) (t_candidates : Nat → Int64) (t_alone : Nat → Int32) (t_choice : Nat → Int32) (a0 : Int64) (a1 : Int64) {o : (Int32 × (Nat → Int32))} (hf : f_M_distanceOf t_table a0 a1 = some o) (POST : Option Value → va_W → Prop) (hPOST : POST (some (.int o.1)) [(qt, .inr (8, [.int t_thrown, .int t_drafted, .ref qt_draft, .ref qt_weight, .int t_there, .int t_made, .ref qt_number, .ref qt_size, .ref qt_readers, .ref qt_words, .ref qt_costs, .ref qt_states, .ref qt_arcs, .int t_beginnings, .ref qt_from, .ref qt_letters, .ref qt_end, .ref qt_lowest, .ref qt_key, .int t_givenSize, .ref qt_given, .ref qt_keys, .ref qt_table, .int t_pairs, .ref qt_first, .ref qt_second, .ref qt_learnt, .int t_said, .ref qt_phrase, .int t_answered, .ref qt_corrected, .ref qt_many, .ref qt_candidates, .ref qt_alone, .ref qt_choice])), (qt_draft, .inl (tc 1, 24, .inr (.inl t_draft))), (qt_weight, .inl (tc 0, 24, .inl t_weight)), (qt_number, .inl (tc 0, 3, .inl t_number)), (qt_size, .inl (tc 0, 3, .inl t_size)), (qt_readers, .inl (tc 0, 3, .inl t_readers)), (qt_words, .inl (tc 1, 72, .inr (.inl t_words))), (qt_costs, .inl (tc 0, 72, .inl t_costs)), (qt_states, .inl (tc 0, 3, .inl t_states)), (qt_arcs, .inl (tc 0, 3, .inl t_arcs)), (qt_from, .inl (tc 0, 216, .inl t_from)), (qt_letters, .inl (tc 0, 216, .inl t_letters)), (qt_end, .inl (tc 0, 216, .inl t_end)), (qt_lowest, .inl (tc 0, 216, .inl t_lowest)), (qt_key, .inl (tc 1, 216, .inr (.inl t_key))), (qt_given, .inl (tc 1, 24, .inr (.inl t_given))), (qt_keys, .inl (tc 0, 24, .inl t_keys)), (qt_table, .inl (tc 0, 81, .inl o.2)), (qt_first, .inl (tc 1, 40, .inr (.inl t_first))), (qt_second, .inl (tc 1, 40, .inr (.inl t_second))), (qt_learnt, .inl (tc 0, 40, .inl t_learnt)), (qt_phrase, .inl (tc 1, 4, .inr (.inl t_phrase))), (qt_corrected, .inl (tc 1, 4, .inr (.inl t_corrected))), (qt_many, .inl (tc 0, 4, .inl t_many)), (qt_candidates, .inl (tc 1, 96, .inr (.inl t_candidates))), (qt_alone, .inl (tc 0, 96, .inl t_alone)), (qt_choice, .inl (tc 0, 4, .inl t_choice))]) : Std l y_M_distanceOf (.code y_M_distanceOf b_M_distanceOf 11 (some .int)) { frames := 2, cells := 0, slots := 0, locals := 45 } D tc [.ref qt, .long a0, .long a1] [(qt, .inr (8, [.int t_thrown, .int t_drafted, .ref qt_draft, .ref qt_weight, .int t_there, .int t_made, .ref qt_number, .ref qt_size, .ref qt_readers, .ref qt_words, .ref qt_costs, .ref qt_states, .ref qt_arcs, .int t_beginnings, .ref qt_from, .ref qt_letters, .ref qt_end, .ref qt_lowest, .ref qt_key, .int t_givenSize, .ref qt_given, .ref qt_keys, .ref qt_table, .int t_pairs, .ref qt_first, .ref qt_second, .ref qt_learnt, .int t_said, .ref qt_phrase, .int t_answered, .ref qt_corrected, .ref qt_many, .ref qt_candidates, .ref qt_alone, .ref qt_choice])), (qt_draft, .inl (tc 1, 24, .inr (.inl t_draft))), (qt_weight, .inl (tc 0, 24, .inl t_weight)), (qt_number, .inl (tc 0, 3, .inl t_number)), (qt_size, .inl (tc 0, 3, .inl t_size)), (qt_readers, .inl (tc 0, 3, .inl t_readers)), (qt_words, .inl (tc 1, 72, .inr (.inl t_words))), (qt_costs, .inl (tc 0, 72, .inl t_costs)), (qt_states, .inl (tc 0, 3, .inl t_states)), (qt_arcs, .inl (tc 0, 3, .inl t_arcs)), (qt_from, .inl (tc 0, 216, .inl t_from)), (qt_letters, .inl (tc 0, 216, .inl t_letters)), (qt_end, .inl (tc 0, 216, .inl t_end)), (qt_lowest, .inl (tc 0, 216, .inl t_lowest)), (qt_key, .inl (tc 1, 216, .inr (.inl t_key))), (qt_given, .inl (tc 1, 24, .inr (.inl t_given))), (qt_keys, .inl (tc 0, 24, .inl t_keys)), (qt_table, .inl (tc 0, 81, .inl t_table)), (qt_first, .inl (tc 1, 40, .inr (.inl t_first))), (qt_second, .inl (tc 1, 40, .inr (.inl t_second))), (qt_learnt, .inl (tc 0, 40, .inl t_learnt)), (qt_phrase, .inl (tc 1, 4, .inr (.inl t_phrase))), (qt_corrected, .inl (tc 1, 4, .inr (.inl t_corrected))), (qt_many, .inl (tc 0, 4, .inl t_many)), (qt_candidates, .inl (tc 1, 96, .inr (.inl t_candidates))), (qt_alone, .inl (tc 0, 96, .inl t_alone)), (qt_choice, .inl (tc 0, 4, .inl t_choice))] 0 0 POST := by
  refine std_of (lv := [(0, .ref qt), (1, .long a0), (3, .long a1)]) (by decide) (Nat.le_of_ble_eq_true rfl) rfl (fun p e s m args below meth c A C hr hnm => ?_)
  have K15 : ∀ (l5 : Int32) (l6 : Int32) (n : Nat) (v_t_table : Nat → Int32) (l7 : Int32) (x : ((Nat → Int32))), f_M_distanceOf_15 a0 a1 l5 l6 n v_t_table l7 = some x → (Go p l e { frames := 2, cells := 0, slots := 0, locals := 45 } s m args below meth c (MQ below (Qs D A POST) args s 0 0 A) D A 11 0 0 [(qt, .inr (8, [.int t_thrown, .int t_drafted, .ref qt_draft, .ref qt_weight, .int t_there, .int t_made, .ref qt_number, .ref qt_size, .ref qt_readers, .ref qt_words, .ref qt_costs, .ref qt_states, .ref qt_arcs, .int t_beginnings, .ref qt_from, .ref qt_letters, .ref qt_end, .ref qt_lowest, .ref qt_key, .int t_givenSize, .ref qt_given, .ref qt_keys, .ref qt_table, .int t_pairs, .ref qt_first, .ref qt_second, .ref qt_learnt, .int t_said, .ref qt_phrase, .int t_answered, .ref qt_corrected, .ref qt_many, .ref qt_candidates, .ref qt_alone, .ref qt_choice])), (qt_draft, .inl (tc 1, 24, .inr (.inl t_draft))), (qt_weight, .inl (tc 0, 24, .inl t_weight)), (qt_number, .inl (tc 0, 3, .inl t_number)), (qt_size, .inl (tc 0, 3, .inl t_size)), (qt_readers, .inl (tc 0, 3, .inl t_readers)), (qt_words, .inl (tc 1, 72, .inr (.inl t_words))), (qt_costs, .inl (tc 0, 72, .inl t_costs)), (qt_states, .inl (tc 0, 3, .inl t_states)), (qt_arcs, .inl (tc 0, 3, .inl t_arcs)), (qt_from, .inl (tc 0, 216, .inl t_from)), (qt_letters, .inl (tc 0, 216, .inl t_letters)), (qt_end, .inl (tc 0, 216, .inl t_end)), (qt_lowest, .inl (tc 0, 216, .inl t_lowest)), (qt_key, .inl (tc 1, 216, .inr (.inl t_key))), (qt_given, .inl (tc 1, 24, .inr (.inl t_given))), (qt_keys, .inl (tc 0, 24, .inl t_keys)), (qt_table, .inl (tc 0, 81, .inl x)), (qt_first, .inl (tc 1, 40, .inr (.inl t_first))), (qt_second, .inl (tc 1, 40, .inr (.inl t_second))), (qt_learnt, .inl (tc 0, 40, .inl t_learnt)), (qt_phrase, .inl (tc 1, 4, .inr (.inl t_phrase))), (qt_corrected, .inl (tc 1, 4, .inr (.inl t_corrected))), (qt_many, .inl (tc 0, 4, .inl t_many)), (qt_candidates, .inl (tc 1, 96, .inr (.inl t_candidates))), (qt_alone, .inl (tc 0, 96, .inl t_alone)), (qt_choice, .inl (tc 0, 4, .inl t_choice))] [(0, .ref qt), (5, .int l5), (6, .int l6)] 237 []) → Go p l e { frames := 2, cells := 0, slots := 0, locals := 45 } s m args below meth c (MQ below (Qs D A POST) args s 0 0 A) D A 11 0 0 [(qt, .inr (8, [.int t_thrown, .int t_drafted, .ref qt_draft, .ref qt_weight, .int t_there, .int t_made, .ref qt_number, .ref qt_size, .ref qt_readers, .ref qt_words, .ref qt_costs, .ref qt_states, .ref qt_arcs, .int t_beginnings, .ref qt_from, .ref qt_letters, .ref qt_end, .ref qt_lowest, .ref qt_key, .int t_givenSize, .ref qt_given, .ref qt_keys, .ref qt_table, .int t_pairs, .ref qt_first, .ref qt_second, .ref qt_learnt, .int t_said, .ref qt_phrase, .int t_answered, .ref qt_corrected, .ref qt_many, .ref qt_candidates, .ref qt_alone, .ref qt_choice])), (qt_draft, .inl (tc 1, 24, .inr (.inl t_draft))), (qt_weight, .inl (tc 0, 24, .inl t_weight)), (qt_number, .inl (tc 0, 3, .inl t_number)), (qt_size, .inl (tc 0, 3, .inl t_size)), (qt_readers, .inl (tc 0, 3, .inl t_readers)), (qt_words, .inl (tc 1, 72, .inr (.inl t_words))), (qt_costs, .inl (tc 0, 72, .inl t_costs)), (qt_states, .inl (tc 0, 3, .inl t_states)), (qt_arcs, .inl (tc 0, 3, .inl t_arcs)), (qt_from, .inl (tc 0, 216, .inl t_from)), (qt_letters, .inl (tc 0, 216, .inl t_letters)), (qt_end, .inl (tc 0, 216, .inl t_end)), (qt_lowest, .inl (tc 0, 216, .inl t_lowest)), (qt_key, .inl (tc 1, 216, .inr (.inl t_key))), (qt_given, .inl (tc 1, 24, .inr (.inl t_given))), (qt_keys, .inl (tc 0, 24, .inl t_keys)), (qt_table, .inl (tc 0, 81, .inl v_t_table)), (qt_first, .inl (tc 1, 40, .inr (.inl t_first))), (qt_second, .inl (tc 1, 40, .inr (.inl t_second))), (qt_learnt, .inl (tc 0, 40, .inl t_learnt)), (qt_phrase, .inl (tc 1, 4, .inr (.inl t_phrase))), (qt_corrected, .inl (tc 1, 4, .inr (.inl t_corrected))), (qt_many, .inl (tc 0, 4, .inl t_many)), (qt_candidates, .inl (tc 1, 96, .inr (.inl t_candidates))), (qt_alone, .inl (tc 0, 96, .inl t_alone)), (qt_choice, .inl (tc 0, 4, .inl t_choice))] [(0, .ref qt), (1, .long a0), (3, .long a1), (5, .int l5), (6, .int l6), (7, .int l7)] 15 [] := by
    intro l5 l6 n
    induction n with
    | zero =>
      intro v_t_table l7 x hf hE
      simp [f_M_distanceOf_15] at hf
    | succ n ih =>
      intro v_t_table l7 x hf hE
      have hf : f_M_distanceOf_15b a0 a1 l5 l6 (f_M_distanceOf_15 a0 a1 l5 l6 n) v_t_table l7 = some x := hf
      have K25 : ∀ (l5 : Int32) (l6 : Int32) (l7 : Int32) (n : Nat) (v_t_table : Nat → Int32) (l8 : Int32) (x : ((Nat → Int32))), f_M_distanceOf_25 a0 a1 l5 l6 l7 n v_t_table l8 = some x → (Go p l e { frames := 2, cells := 0, slots := 0, locals := 45 } s m args below meth c (MQ below (Qs D A POST) args s 0 0 A) D A 11 0 0 [(qt, .inr (8, [.int t_thrown, .int t_drafted, .ref qt_draft, .ref qt_weight, .int t_there, .int t_made, .ref qt_number, .ref qt_size, .ref qt_readers, .ref qt_words, .ref qt_costs, .ref qt_states, .ref qt_arcs, .int t_beginnings, .ref qt_from, .ref qt_letters, .ref qt_end, .ref qt_lowest, .ref qt_key, .int t_givenSize, .ref qt_given, .ref qt_keys, .ref qt_table, .int t_pairs, .ref qt_first, .ref qt_second, .ref qt_learnt, .int t_said, .ref qt_phrase, .int t_answered, .ref qt_corrected, .ref qt_many, .ref qt_candidates, .ref qt_alone, .ref qt_choice])), (qt_draft, .inl (tc 1, 24, .inr (.inl t_draft))), (qt_weight, .inl (tc 0, 24, .inl t_weight)), (qt_number, .inl (tc 0, 3, .inl t_number)), (qt_size, .inl (tc 0, 3, .inl t_size)), (qt_readers, .inl (tc 0, 3, .inl t_readers)), (qt_words, .inl (tc 1, 72, .inr (.inl t_words))), (qt_costs, .inl (tc 0, 72, .inl t_costs)), (qt_states, .inl (tc 0, 3, .inl t_states)), (qt_arcs, .inl (tc 0, 3, .inl t_arcs)), (qt_from, .inl (tc 0, 216, .inl t_from)), (qt_letters, .inl (tc 0, 216, .inl t_letters)), (qt_end, .inl (tc 0, 216, .inl t_end)), (qt_lowest, .inl (tc 0, 216, .inl t_lowest)), (qt_key, .inl (tc 1, 216, .inr (.inl t_key))), (qt_given, .inl (tc 1, 24, .inr (.inl t_given))), (qt_keys, .inl (tc 0, 24, .inl t_keys)), (qt_table, .inl (tc 0, 81, .inl x)), (qt_first, .inl (tc 1, 40, .inr (.inl t_first))), (qt_second, .inl (tc 1, 40, .inr (.inl t_second))), (qt_learnt, .inl (tc 0, 40, .inl t_learnt)), (qt_phrase, .inl (tc 1, 4, .inr (.inl t_phrase))), (qt_corrected, .inl (tc 1, 4, .inr (.inl t_corrected))), (qt_many, .inl (tc 0, 4, .inl t_many)), (qt_candidates, .inl (tc 1, 96, .inr (.inl t_candidates))), (qt_alone, .inl (tc 0, 96, .inl t_alone)), (qt_choice, .inl (tc 0, 4, .inl t_choice))] [(0, .ref qt), (1, .long a0), (3, .long a1), (5, .int l5), (6, .int l6), (7, .int l7)] 231 []) → Go p l e { frames := 2, cells := 0, slots := 0, locals := 45 } s m args below meth c (MQ below (Qs D A POST) args s 0 0 A) D A 11 0 0 [(qt, .inr (8, [.int t_thrown, .int t_drafted, .ref qt_draft, .ref qt_weight, .int t_there, .int t_made, .ref qt_number, .ref qt_size, .ref qt_readers, .ref qt_words, .ref qt_costs, .ref qt_states, .ref qt_arcs, .int t_beginnings, .ref qt_from, .ref qt_letters, .ref qt_end, .ref qt_lowest, .ref qt_key, .int t_givenSize, .ref qt_given, .ref qt_keys, .ref qt_table, .int t_pairs, .ref qt_first, .ref qt_second, .ref qt_learnt, .int t_said, .ref qt_phrase, .int t_answered, .ref qt_corrected, .ref qt_many, .ref qt_candidates, .ref qt_alone, .ref qt_choice])), (qt_draft, .inl (tc 1, 24, .inr (.inl t_draft))), (qt_weight, .inl (tc 0, 24, .inl t_weight)), (qt_number, .inl (tc 0, 3, .inl t_number)), (qt_size, .inl (tc 0, 3, .inl t_size)), (qt_readers, .inl (tc 0, 3, .inl t_readers)), (qt_words, .inl (tc 1, 72, .inr (.inl t_words))), (qt_costs, .inl (tc 0, 72, .inl t_costs)), (qt_states, .inl (tc 0, 3, .inl t_states)), (qt_arcs, .inl (tc 0, 3, .inl t_arcs)), (qt_from, .inl (tc 0, 216, .inl t_from)), (qt_letters, .inl (tc 0, 216, .inl t_letters)), (qt_end, .inl (tc 0, 216, .inl t_end)), (qt_lowest, .inl (tc 0, 216, .inl t_lowest)), (qt_key, .inl (tc 1, 216, .inr (.inl t_key))), (qt_given, .inl (tc 1, 24, .inr (.inl t_given))), (qt_keys, .inl (tc 0, 24, .inl t_keys)), (qt_table, .inl (tc 0, 81, .inl v_t_table)), (qt_first, .inl (tc 1, 40, .inr (.inl t_first))), (qt_second, .inl (tc 1, 40, .inr (.inl t_second))), (qt_learnt, .inl (tc 0, 40, .inl t_learnt)), (qt_phrase, .inl (tc 1, 4, .inr (.inl t_phrase))), (qt_corrected, .inl (tc 1, 4, .inr (.inl t_corrected))), (qt_many, .inl (tc 0, 4, .inl t_many)), (qt_candidates, .inl (tc 1, 96, .inr (.inl t_candidates))), (qt_alone, .inl (tc 0, 96, .inl t_alone)), (qt_choice, .inl (tc 0, 4, .inl t_choice))] [(0, .ref qt), (1, .long a0), (3, .long a1), (5, .int l5), (6, .int l6), (7, .int l7), (8, .int l8)] 25 [] := by
        intro l5 l6 l7 n
        induction n with
        | zero =>
          intro v_t_table l8 x hf hE
          simp [f_M_distanceOf_25] at hf
        | succ n ih =>
          intro v_t_table l8 x hf hE
          have hf : f_M_distanceOf_25b a0 a1 l5 l6 l7 (f_M_distanceOf_25 a0 a1 l5 l6 l7 n) v_t_table l8 = some x := hf
          have K210 : ∀ (v_t_table : Nat → Int32) (l8 : Int32) (l9 : Int32), f_M_distanceOf_210 (f_M_distanceOf_25 a0 a1 l5 l6 l7 n) a0 a1 l5 l6 l7 v_t_table l8 l9 = some x → Go p l e { frames := 2, cells := 0, slots := 0, locals := 45 } s m args below meth c (MQ below (Qs D A POST) args s 0 0 A) D A 11 0 0 [(qt, .inr (8, [.int t_thrown, .int t_drafted, .ref qt_draft, .ref qt_weight, .int t_there, .int t_made, .ref qt_number, .ref qt_size, .ref qt_readers, .ref qt_words, .ref qt_costs, .ref qt_states, .ref qt_arcs, .int t_beginnings, .ref qt_from, .ref qt_letters, .ref qt_end, .ref qt_lowest, .ref qt_key, .int t_givenSize, .ref qt_given, .ref qt_keys, .ref qt_table, .int t_pairs, .ref qt_first, .ref qt_second, .ref qt_learnt, .int t_said, .ref qt_phrase, .int t_answered, .ref qt_corrected, .ref qt_many, .ref qt_candidates, .ref qt_alone, .ref qt_choice])), (qt_draft, .inl (tc 1, 24, .inr (.inl t_draft))), (qt_weight, .inl (tc 0, 24, .inl t_weight)), (qt_number, .inl (tc 0, 3, .inl t_number)), (qt_size, .inl (tc 0, 3, .inl t_size)), (qt_readers, .inl (tc 0, 3, .inl t_readers)), (qt_words, .inl (tc 1, 72, .inr (.inl t_words))), (qt_costs, .inl (tc 0, 72, .inl t_costs)), (qt_states, .inl (tc 0, 3, .inl t_states)), (qt_arcs, .inl (tc 0, 3, .inl t_arcs)), (qt_from, .inl (tc 0, 216, .inl t_from)), (qt_letters, .inl (tc 0, 216, .inl t_letters)), (qt_end, .inl (tc 0, 216, .inl t_end)), (qt_lowest, .inl (tc 0, 216, .inl t_lowest)), (qt_key, .inl (tc 1, 216, .inr (.inl t_key))), (qt_given, .inl (tc 1, 24, .inr (.inl t_given))), (qt_keys, .inl (tc 0, 24, .inl t_keys)), (qt_table, .inl (tc 0, 81, .inl v_t_table)), (qt_first, .inl (tc 1, 40, .inr (.inl t_first))), (qt_second, .inl (tc 1, 40, .inr (.inl t_second))), (qt_learnt, .inl (tc 0, 40, .inl t_learnt)), (qt_phrase, .inl (tc 1, 4, .inr (.inl t_phrase))), (qt_corrected, .inl (tc 1, 4, .inr (.inl t_corrected))), (qt_many, .inl (tc 0, 4, .inl t_many)), (qt_candidates, .inl (tc 1, 96, .inr (.inl t_candidates))), (qt_alone, .inl (tc 0, 96, .inl t_alone)), (qt_choice, .inl (tc 0, 4, .inl t_choice))] [(0, .ref qt), (1, .long a0), (3, .long a1), (5, .int l5), (6, .int l6), (7, .int l7), (8, .int l8), (9, .int l9)] 210 [] := by
            intro v_t_table l8 l9 hf
            unfold f_M_distanceOf_210 at hf
            refine go_aload_n C d_M_distanceOf_210 rfl 0 rfl (n := 211) rfl ?_
            refine go_get C d_M_distanceOf_211 fl_M_59 0 rfl rfl (n := 214) rfl ?_
            refine go_bipush C (v := 9) d_M_distanceOf_214 rfl (n := 216) rfl ?_
            refine go_iload C d_M_distanceOf_216 5 rfl (n := 218) rfl ?_
            refine go_imul C d_M_distanceOf_218 (n := 219) rfl ?_
            refine go_iload C d_M_distanceOf_219 6 rfl (n := 221) rfl ?_
            refine go_iadd C d_M_distanceOf_221 (n := 222) rfl ?_
            refine go_iload C d_M_distanceOf_222 7 rfl (n := 224) rfl ?_
            obtain ⟨hg224, hf⟩ := guardS hf
            refine go_iast C d_M_distanceOf_224 17 rfl hg224 (n := 225) rfl ?_
            refine go_iinc C d_M_distanceOf_225 6 rfl (v := l8 + (1 : Int32)) rfl (lv' := [(8, .int (l8 + (1 : Int32))), (0, .ref qt), (1, .long a0), (3, .long a1), (5, .int l5), (6, .int l6), (7, .int l7), (9, .int l9)]) (by decide) rfl (n := 228) rfl ?_
            refine go_goto C d_M_distanceOf_228 (tgt := 25) (by decide) ?_
            refine go_lv (lv' := [(0, .ref qt), (1, .long a0), (3, .long a1), (5, .int l5), (6, .int l6), (7, .int l7), (8, .int (l8 + (1 : Int32)))]) [1, 2, 3, 4, 5, 6, 0] rfl ?_
            exact ih (upd v_t_table (((9 : Int32) * l7) + l8).toNatClampNeg l9) (l8 + (1 : Int32)) x hf hE
          have K135 : ∀ (v_t_table : Nat → Int32) (l8 : Int32) (l9 : Int32), f_M_distanceOf_135 (f_M_distanceOf_25 a0 a1 l5 l6 l7 n) a0 a1 l5 l6 l7 v_t_table l8 l9 = some x → Go p l e { frames := 2, cells := 0, slots := 0, locals := 45 } s m args below meth c (MQ below (Qs D A POST) args s 0 0 A) D A 11 0 0 [(qt, .inr (8, [.int t_thrown, .int t_drafted, .ref qt_draft, .ref qt_weight, .int t_there, .int t_made, .ref qt_number, .ref qt_size, .ref qt_readers, .ref qt_words, .ref qt_costs, .ref qt_states, .ref qt_arcs, .int t_beginnings, .ref qt_from, .ref qt_letters, .ref qt_end, .ref qt_lowest, .ref qt_key, .int t_givenSize, .ref qt_given, .ref qt_keys, .ref qt_table, .int t_pairs, .ref qt_first, .ref qt_second, .ref qt_learnt, .int t_said, .ref qt_phrase, .int t_answered, .ref qt_corrected, .ref qt_many, .ref qt_candidates, .ref qt_alone, .ref qt_choice])), (qt_draft, .inl (tc 1, 24, .inr (.inl t_draft))), (qt_weight, .inl (tc 0, 24, .inl t_weight)), (qt_number, .inl (tc 0, 3, .inl t_number)), (qt_size, .inl (tc 0, 3, .inl t_size)), (qt_readers, .inl (tc 0, 3, .inl t_readers)), (qt_words, .inl (tc 1, 72, .inr (.inl t_words))), (qt_costs, .inl (tc 0, 72, .inl t_costs)), (qt_states, .inl (tc 0, 3, .inl t_states)), (qt_arcs, .inl (tc 0, 3, .inl t_arcs)), (qt_from, .inl (tc 0, 216, .inl t_from)), (qt_letters, .inl (tc 0, 216, .inl t_letters)), (qt_end, .inl (tc 0, 216, .inl t_end)), (qt_lowest, .inl (tc 0, 216, .inl t_lowest)), (qt_key, .inl (tc 1, 216, .inr (.inl t_key))), (qt_given, .inl (tc 1, 24, .inr (.inl t_given))), (qt_keys, .inl (tc 0, 24, .inl t_keys)), (qt_table, .inl (tc 0, 81, .inl v_t_table)), (qt_first, .inl (tc 1, 40, .inr (.inl t_first))), (qt_second, .inl (tc 1, 40, .inr (.inl t_second))), (qt_learnt, .inl (tc 0, 40, .inl t_learnt)), (qt_phrase, .inl (tc 1, 4, .inr (.inl t_phrase))), (qt_corrected, .inl (tc 1, 4, .inr (.inl t_corrected))), (qt_many, .inl (tc 0, 4, .inl t_many)), (qt_candidates, .inl (tc 1, 96, .inr (.inl t_candidates))), (qt_alone, .inl (tc 0, 96, .inl t_alone)), (qt_choice, .inl (tc 0, 4, .inl t_choice))] [(0, .ref qt), (1, .long a0), (3, .long a1), (5, .int l5), (6, .int l6), (7, .int l7), (8, .int l8), (9, .int l9)] 135 [] := by
            intro v_t_table l8 l9 hf
            unfold f_M_distanceOf_135 at hf
            refine go_iload C d_M_distanceOf_135 5 rfl (n := 137) rfl ?_
            refine go_iconst C (v := 1) d_M_distanceOf_137 rfl (n := 138) rfl ?_
            have hi138 := iteS hf
            refine go_icmp_le C d_M_distanceOf_138 (tgt := 210) (by decide) (n := 141) rfl (fun h138 => ?_) (fun h138 => ?_)
            · have hf := hi138.1 h138
              exact K210 v_t_table l8 l9 hf
            · have hf := hi138.2 h138
              refine go_iload C d_M_distanceOf_141 6 rfl (n := 143) rfl ?_
              refine go_iconst C (v := 1) d_M_distanceOf_143 rfl (n := 144) rfl ?_
              have hi144 := iteS hf
              refine go_icmp_le C d_M_distanceOf_144 (tgt := 210) (by decide) (n := 147) rfl (fun h144 => ?_) (fun h144 => ?_)
              · have hf := hi144.1 h144
                exact K210 v_t_table l8 l9 hf
              · have hf := hi144.2 h144
                refine go_lload_n C d_M_distanceOf_147 rfl 1 rfl (n := 148) rfl ?_
                refine go_iload C d_M_distanceOf_148 5 rfl (n := 150) rfl ?_
                refine go_iconst C (v := 2) d_M_distanceOf_150 rfl (n := 151) rfl ?_
                refine go_isub C d_M_distanceOf_151 (n := 152) rfl ?_
                obtain ⟨o152, ho152, hf⟩ := bindS hf
                refine go_callP C (As := [.long a0, .int (l7 - (2 : Int32))]) (rest := []) d_M_distanceOf_152 (c_M_at l D tc a0 (l7 - (2 : Int32)) ho152 (fun r w => r = some (.int o152) ∧ w = []) ⟨rfl, rfl⟩) lk_M_107 mw_M_at ws_M_at rfl rfl ⟨(Nat.le_of_ble_eq_true rfl), (Nat.le_of_ble_eq_true rfl)⟩ rfl rfl (Nat.le_of_ble_eq_true rfl) ⟨(Nat.le_of_ble_eq_true rfl), (Nat.le_of_ble_eq_true rfl)⟩ (n := 155) rfl ?_
                rintro _ _ ⟨rfl, rfl⟩
                refine go_lload_n C d_M_distanceOf_155 rfl 2 rfl (n := 156) rfl ?_
                refine go_iload C d_M_distanceOf_156 6 rfl (n := 158) rfl ?_
                refine go_iconst C (v := 1) d_M_distanceOf_158 rfl (n := 159) rfl ?_
                refine go_isub C d_M_distanceOf_159 (n := 160) rfl ?_
                obtain ⟨o160, ho160, hf⟩ := bindS hf
                refine go_callP C (As := [.long a1, .int (l8 - (1 : Int32))]) (rest := [.int o152]) d_M_distanceOf_160 (c_M_at l D tc a1 (l8 - (1 : Int32)) ho160 (fun r w => r = some (.int o160) ∧ w = []) ⟨rfl, rfl⟩) lk_M_107 mw_M_at ws_M_at rfl rfl ⟨(Nat.le_of_ble_eq_true rfl), (Nat.le_of_ble_eq_true rfl)⟩ rfl rfl (Nat.le_of_ble_eq_true rfl) ⟨(Nat.le_of_ble_eq_true rfl), (Nat.le_of_ble_eq_true rfl)⟩ (n := 163) rfl ?_
                rintro _ _ ⟨rfl, rfl⟩
                have hi163 := iteS hf
                refine go_icmp_ne C d_M_distanceOf_163 (tgt := 210) (by decide) (n := 166) rfl (fun h163 => ?_) (fun h163 => ?_)
                · have hf := hi163.2 h163
                  exact K210 v_t_table l8 l9 hf
                · have hf := hi163.1 h163
                  refine go_lload_n C d_M_distanceOf_166 rfl 1 rfl (n := 167) rfl ?_
                  refine go_iload C d_M_distanceOf_167 5 rfl (n := 169) rfl ?_
                  refine go_iconst C (v := 1) d_M_distanceOf_169 rfl (n := 170) rfl ?_
                  refine go_isub C d_M_distanceOf_170 (n := 171) rfl ?_
                  obtain ⟨o171, ho171, hf⟩ := bindS hf
                  refine go_callP C (As := [.long a0, .int (l7 - (1 : Int32))]) (rest := []) d_M_distanceOf_171 (c_M_at l D tc a0 (l7 - (1 : Int32)) ho171 (fun r w => r = some (.int o171) ∧ w = []) ⟨rfl, rfl⟩) lk_M_107 mw_M_at ws_M_at rfl rfl ⟨(Nat.le_of_ble_eq_true rfl), (Nat.le_of_ble_eq_true rfl)⟩ rfl rfl (Nat.le_of_ble_eq_true rfl) ⟨(Nat.le_of_ble_eq_true rfl), (Nat.le_of_ble_eq_true rfl)⟩ (n := 174) rfl ?_
                  rintro _ _ ⟨rfl, rfl⟩
                  refine go_lload_n C d_M_distanceOf_174 rfl 2 rfl (n := 175) rfl ?_
                  refine go_iload C d_M_distanceOf_175 6 rfl (n := 177) rfl ?_
                  refine go_iconst C (v := 2) d_M_distanceOf_177 rfl (n := 178) rfl ?_
                  refine go_isub C d_M_distanceOf_178 (n := 179) rfl ?_
                  obtain ⟨o179, ho179, hf⟩ := bindS hf
                  refine go_callP C (As := [.long a1, .int (l8 - (2 : Int32))]) (rest := [.int o171]) d_M_distanceOf_179 (c_M_at l D tc a1 (l8 - (2 : Int32)) ho179 (fun r w => r = some (.int o179) ∧ w = []) ⟨rfl, rfl⟩) lk_M_107 mw_M_at ws_M_at rfl rfl ⟨(Nat.le_of_ble_eq_true rfl), (Nat.le_of_ble_eq_true rfl)⟩ rfl rfl (Nat.le_of_ble_eq_true rfl) ⟨(Nat.le_of_ble_eq_true rfl), (Nat.le_of_ble_eq_true rfl)⟩ (n := 182) rfl ?_
                  rintro _ _ ⟨rfl, rfl⟩
                  have hi182 := iteS hf
                  refine go_icmp_ne C d_M_distanceOf_182 (tgt := 210) (by decide) (n := 185) rfl (fun h182 => ?_) (fun h182 => ?_)
                  · have hf := hi182.2 h182
                    exact K210 v_t_table l8 l9 hf
                  · have hf := hi182.1 h182
                    refine go_iload C d_M_distanceOf_185 7 rfl (n := 187) rfl ?_
                    refine go_aload_n C d_M_distanceOf_187 rfl 0 rfl (n := 188) rfl ?_
                    refine go_get C d_M_distanceOf_188 fl_M_59 0 rfl rfl (n := 191) rfl ?_
                    refine go_bipush C (v := 9) d_M_distanceOf_191 rfl (n := 193) rfl ?_
                    refine go_iload C d_M_distanceOf_193 5 rfl (n := 195) rfl ?_
                    refine go_imul C d_M_distanceOf_195 (n := 196) rfl ?_
                    refine go_iload C d_M_distanceOf_196 6 rfl (n := 198) rfl ?_
                    refine go_iadd C d_M_distanceOf_198 (n := 199) rfl ?_
                    refine go_bipush C (v := 20) d_M_distanceOf_199 rfl (n := 201) rfl ?_
                    refine go_isub C d_M_distanceOf_201 (n := 202) rfl ?_
                    obtain ⟨hg202, hf⟩ := guardS hf
                    refine go_iald C d_M_distanceOf_202 17 rfl hg202 (n := 203) rfl ?_
                    refine go_iconst C (v := 1) d_M_distanceOf_203 rfl (n := 204) rfl ?_
                    refine go_iadd C d_M_distanceOf_204 (n := 205) rfl ?_
                    obtain ⟨o205, ho205, hf⟩ := bindS hf
                    refine go_callP C (As := [.int l9, .int ((v_t_table ((((9 : Int32) * l7) + l8) - (20 : Int32)).toNatClampNeg) + (1 : Int32))]) (rest := []) d_M_distanceOf_205 (c_M_lesser l D tc l9 ((v_t_table ((((9 : Int32) * l7) + l8) - (20 : Int32)).toNatClampNeg) + (1 : Int32)) ho205 (fun r w => r = some (.int o205) ∧ w = []) ⟨rfl, rfl⟩) lk_M_173 mw_M_lesser ws_M_lesser rfl rfl ⟨(Nat.le_of_ble_eq_true rfl), (Nat.le_of_ble_eq_true rfl)⟩ rfl rfl (Nat.le_of_ble_eq_true rfl) ⟨(Nat.le_of_ble_eq_true rfl), (Nat.le_of_ble_eq_true rfl)⟩ (n := 208) rfl ?_
                    rintro _ _ ⟨rfl, rfl⟩
                    refine go_istore C d_M_distanceOf_208 (lv' := [(9, .int o205), (0, .ref qt), (1, .long a0), (3, .long a1), (5, .int l5), (6, .int l6), (7, .int l7), (8, .int l8)]) (by decide) rfl (n := 210) rfl ?_
                    refine go_lv (lv' := [(0, .ref qt), (1, .long a0), (3, .long a1), (5, .int l5), (6, .int l6), (7, .int l7), (8, .int l8), (9, .int o205)]) [1, 2, 3, 4, 5, 6, 7, 0] rfl ?_
                    exact K210 v_t_table l8 o205 hf
          have K73 : ∀ (v_t_table : Nat → Int32) (l8 : Int32) (s0 : Int32), f_M_distanceOf_73 (f_M_distanceOf_25 a0 a1 l5 l6 l7 n) a0 a1 l5 l6 l7 v_t_table l8 s0 = some x → Go p l e { frames := 2, cells := 0, slots := 0, locals := 45 } s m args below meth c (MQ below (Qs D A POST) args s 0 0 A) D A 11 0 0 [(qt, .inr (8, [.int t_thrown, .int t_drafted, .ref qt_draft, .ref qt_weight, .int t_there, .int t_made, .ref qt_number, .ref qt_size, .ref qt_readers, .ref qt_words, .ref qt_costs, .ref qt_states, .ref qt_arcs, .int t_beginnings, .ref qt_from, .ref qt_letters, .ref qt_end, .ref qt_lowest, .ref qt_key, .int t_givenSize, .ref qt_given, .ref qt_keys, .ref qt_table, .int t_pairs, .ref qt_first, .ref qt_second, .ref qt_learnt, .int t_said, .ref qt_phrase, .int t_answered, .ref qt_corrected, .ref qt_many, .ref qt_candidates, .ref qt_alone, .ref qt_choice])), (qt_draft, .inl (tc 1, 24, .inr (.inl t_draft))), (qt_weight, .inl (tc 0, 24, .inl t_weight)), (qt_number, .inl (tc 0, 3, .inl t_number)), (qt_size, .inl (tc 0, 3, .inl t_size)), (qt_readers, .inl (tc 0, 3, .inl t_readers)), (qt_words, .inl (tc 1, 72, .inr (.inl t_words))), (qt_costs, .inl (tc 0, 72, .inl t_costs)), (qt_states, .inl (tc 0, 3, .inl t_states)), (qt_arcs, .inl (tc 0, 3, .inl t_arcs)), (qt_from, .inl (tc 0, 216, .inl t_from)), (qt_letters, .inl (tc 0, 216, .inl t_letters)), (qt_end, .inl (tc 0, 216, .inl t_end)), (qt_lowest, .inl (tc 0, 216, .inl t_lowest)), (qt_key, .inl (tc 1, 216, .inr (.inl t_key))), (qt_given, .inl (tc 1, 24, .inr (.inl t_given))), (qt_keys, .inl (tc 0, 24, .inl t_keys)), (qt_table, .inl (tc 0, 81, .inl v_t_table)), (qt_first, .inl (tc 1, 40, .inr (.inl t_first))), (qt_second, .inl (tc 1, 40, .inr (.inl t_second))), (qt_learnt, .inl (tc 0, 40, .inl t_learnt)), (qt_phrase, .inl (tc 1, 4, .inr (.inl t_phrase))), (qt_corrected, .inl (tc 1, 4, .inr (.inl t_corrected))), (qt_many, .inl (tc 0, 4, .inl t_many)), (qt_candidates, .inl (tc 1, 96, .inr (.inl t_candidates))), (qt_alone, .inl (tc 0, 96, .inl t_alone)), (qt_choice, .inl (tc 0, 4, .inl t_choice))] [(0, .ref qt), (1, .long a0), (3, .long a1), (5, .int l5), (6, .int l6), (7, .int l7), (8, .int l8)] 73 [.int s0] := by
            intro v_t_table l8 s0 hf
            unfold f_M_distanceOf_73 at hf
            refine go_istore C d_M_distanceOf_73 (lv' := [(10, .int s0), (0, .ref qt), (1, .long a0), (3, .long a1), (5, .int l5), (6, .int l6), (7, .int l7), (8, .int l8)]) (by decide) rfl (n := 75) rfl ?_
            refine go_aload_n C d_M_distanceOf_75 rfl 1 rfl (n := 76) rfl ?_
            refine go_get C d_M_distanceOf_76 fl_M_59 0 rfl rfl (n := 79) rfl ?_
            refine go_bipush C (v := 9) d_M_distanceOf_79 rfl (n := 81) rfl ?_
            refine go_iload C d_M_distanceOf_81 6 rfl (n := 83) rfl ?_
            refine go_imul C d_M_distanceOf_83 (n := 84) rfl ?_
            refine go_bipush C (v := 9) d_M_distanceOf_84 rfl (n := 86) rfl ?_
            refine go_isub C d_M_distanceOf_86 (n := 87) rfl ?_
            refine go_iload C d_M_distanceOf_87 7 rfl (n := 89) rfl ?_
            refine go_iadd C d_M_distanceOf_89 (n := 90) rfl ?_
            obtain ⟨hg90, hf⟩ := guardS hf
            refine go_iald C d_M_distanceOf_90 17 rfl hg90 (n := 91) rfl ?_
            refine go_aload_n C d_M_distanceOf_91 rfl 1 rfl (n := 92) rfl ?_
            refine go_get C d_M_distanceOf_92 fl_M_59 0 rfl rfl (n := 95) rfl ?_
            refine go_bipush C (v := 9) d_M_distanceOf_95 rfl (n := 97) rfl ?_
            refine go_iload C d_M_distanceOf_97 6 rfl (n := 99) rfl ?_
            refine go_imul C d_M_distanceOf_99 (n := 100) rfl ?_
            refine go_iload C d_M_distanceOf_100 7 rfl (n := 102) rfl ?_
            refine go_iadd C d_M_distanceOf_102 (n := 103) rfl ?_
            refine go_iconst C (v := 1) d_M_distanceOf_103 rfl (n := 104) rfl ?_
            refine go_isub C d_M_distanceOf_104 (n := 105) rfl ?_
            obtain ⟨hg105, hf⟩ := guardS hf
            refine go_iald C d_M_distanceOf_105 17 rfl hg105 (n := 106) rfl ?_
            obtain ⟨o106, ho106, hf⟩ := bindS hf
            refine go_callP C (As := [.int (v_t_table ((((9 : Int32) * l7) - (9 : Int32)) + l8).toNatClampNeg), .int (v_t_table ((((9 : Int32) * l7) + l8) - (1 : Int32)).toNatClampNeg)]) (rest := []) d_M_distanceOf_106 (c_M_lesser l D tc (v_t_table ((((9 : Int32) * l7) - (9 : Int32)) + l8).toNatClampNeg) (v_t_table ((((9 : Int32) * l7) + l8) - (1 : Int32)).toNatClampNeg) ho106 (fun r w => r = some (.int o106) ∧ w = []) ⟨rfl, rfl⟩) lk_M_173 mw_M_lesser ws_M_lesser rfl rfl ⟨(Nat.le_of_ble_eq_true rfl), (Nat.le_of_ble_eq_true rfl)⟩ rfl rfl (Nat.le_of_ble_eq_true rfl) ⟨(Nat.le_of_ble_eq_true rfl), (Nat.le_of_ble_eq_true rfl)⟩ (n := 109) rfl ?_
            rintro _ _ ⟨rfl, rfl⟩
            refine go_iconst C (v := 1) d_M_distanceOf_109 rfl (n := 110) rfl ?_
            refine go_iadd C d_M_distanceOf_110 (n := 111) rfl ?_
            refine go_aload_n C d_M_distanceOf_111 rfl 1 rfl (n := 112) rfl ?_
            refine go_get C d_M_distanceOf_112 fl_M_59 0 rfl rfl (n := 115) rfl ?_
            refine go_bipush C (v := 9) d_M_distanceOf_115 rfl (n := 117) rfl ?_
            refine go_iload C d_M_distanceOf_117 6 rfl (n := 119) rfl ?_
            refine go_imul C d_M_distanceOf_119 (n := 120) rfl ?_
            refine go_iload C d_M_distanceOf_120 7 rfl (n := 122) rfl ?_
            refine go_iadd C d_M_distanceOf_122 (n := 123) rfl ?_
            refine go_bipush C (v := 10) d_M_distanceOf_123 rfl (n := 125) rfl ?_
            refine go_isub C d_M_distanceOf_125 (n := 126) rfl ?_
            obtain ⟨hg126, hf⟩ := guardS hf
            refine go_iald C d_M_distanceOf_126 17 rfl hg126 (n := 127) rfl ?_
            refine go_iload C d_M_distanceOf_127 0 rfl (n := 129) rfl ?_
            refine go_iadd C d_M_distanceOf_129 (n := 130) rfl ?_
            obtain ⟨o130, ho130, hf⟩ := bindS hf
            refine go_callP C (As := [.int (o106 + (1 : Int32)), .int ((v_t_table ((((9 : Int32) * l7) + l8) - (10 : Int32)).toNatClampNeg) + s0)]) (rest := []) d_M_distanceOf_130 (c_M_lesser l D tc (o106 + (1 : Int32)) ((v_t_table ((((9 : Int32) * l7) + l8) - (10 : Int32)).toNatClampNeg) + s0) ho130 (fun r w => r = some (.int o130) ∧ w = []) ⟨rfl, rfl⟩) lk_M_173 mw_M_lesser ws_M_lesser rfl rfl ⟨(Nat.le_of_ble_eq_true rfl), (Nat.le_of_ble_eq_true rfl)⟩ rfl rfl (Nat.le_of_ble_eq_true rfl) ⟨(Nat.le_of_ble_eq_true rfl), (Nat.le_of_ble_eq_true rfl)⟩ (n := 133) rfl ?_
            rintro _ _ ⟨rfl, rfl⟩
            refine go_istore C d_M_distanceOf_133 (lv' := [(9, .int o130), (10, .int s0), (0, .ref qt), (1, .long a0), (3, .long a1), (5, .int l5), (6, .int l6), (7, .int l7), (8, .int l8)]) (by decide) rfl (n := 135) rfl ?_
            refine go_lv (lv' := [(0, .ref qt), (1, .long a0), (3, .long a1), (5, .int l5), (6, .int l6), (7, .int l7), (8, .int l8), (9, .int o130)]) [2, 3, 4, 5, 6, 7, 8, 0] rfl ?_
            exact K135 v_t_table l8 o130 hf
          unfold f_M_distanceOf_25b at hf
          refine go_iload C d_M_distanceOf_25 6 rfl (n := 27) rfl ?_
          refine go_iload C d_M_distanceOf_27 4 rfl (n := 29) rfl ?_
          have hi29 := iteS hf
          refine go_icmp_gt C d_M_distanceOf_29 (tgt := 231) (by decide) (n := 32) rfl (fun h29 => ?_) (fun h29 => ?_)
          · have hf := hi29.1 h29
            refine go_lv (lv' := [(0, .ref qt), (1, .long a0), (3, .long a1), (5, .int l5), (6, .int l6), (7, .int l7)]) [0, 1, 2, 3, 4, 5] rfl ?_
            cases hf
            exact hE
          · have hf := hi29.2 h29
            refine go_iload C d_M_distanceOf_32 5 rfl (n := 34) rfl ?_
            refine go_iload C d_M_distanceOf_34 6 rfl (n := 36) rfl ?_
            refine go_iadd C d_M_distanceOf_36 (n := 37) rfl ?_
            refine go_istore C d_M_distanceOf_37 (lv' := [(9, .int (l7 + l8)), (0, .ref qt), (1, .long a0), (3, .long a1), (5, .int l5), (6, .int l6), (7, .int l7), (8, .int l8)]) (by decide) rfl (n := 39) rfl ?_
            refine go_iload C d_M_distanceOf_39 6 rfl (n := 41) rfl ?_
            have hi41 := iteS hf
            refine go_if_le C d_M_distanceOf_41 (tgt := 135) (by decide) (n := 44) rfl (fun h41 => ?_) (fun h41 => ?_)
            · have hf := hi41.1 h41
              refine go_lv (lv' := [(0, .ref qt), (1, .long a0), (3, .long a1), (5, .int l5), (6, .int l6), (7, .int l7), (8, .int l8), (9, .int (l7 + l8))]) [1, 2, 3, 4, 5, 6, 7, 0] rfl ?_
              exact K135 v_t_table l8 (l7 + l8) hf
            · have hf := hi41.2 h41
              refine go_iload C d_M_distanceOf_44 7 rfl (n := 46) rfl ?_
              have hi46 := iteS hf
              refine go_if_le C d_M_distanceOf_46 (tgt := 135) (by decide) (n := 49) rfl (fun h46 => ?_) (fun h46 => ?_)
              · have hf := hi46.1 h46
                refine go_lv (lv' := [(0, .ref qt), (1, .long a0), (3, .long a1), (5, .int l5), (6, .int l6), (7, .int l7), (8, .int l8), (9, .int (l7 + l8))]) [1, 2, 3, 4, 5, 6, 7, 0] rfl ?_
                exact K135 v_t_table l8 (l7 + l8) hf
              · have hf := hi46.2 h46
                refine go_lload_n C d_M_distanceOf_49 rfl 2 rfl (n := 50) rfl ?_
                refine go_iload C d_M_distanceOf_50 6 rfl (n := 52) rfl ?_
                refine go_iconst C (v := 1) d_M_distanceOf_52 rfl (n := 53) rfl ?_
                refine go_isub C d_M_distanceOf_53 (n := 54) rfl ?_
                obtain ⟨o54, ho54, hf⟩ := bindS hf
                refine go_callP C (As := [.long a0, .int (l7 - (1 : Int32))]) (rest := []) d_M_distanceOf_54 (c_M_at l D tc a0 (l7 - (1 : Int32)) ho54 (fun r w => r = some (.int o54) ∧ w = []) ⟨rfl, rfl⟩) lk_M_107 mw_M_at ws_M_at rfl rfl ⟨(Nat.le_of_ble_eq_true rfl), (Nat.le_of_ble_eq_true rfl)⟩ rfl rfl (Nat.le_of_ble_eq_true rfl) ⟨(Nat.le_of_ble_eq_true rfl), (Nat.le_of_ble_eq_true rfl)⟩ (n := 57) rfl ?_
                rintro _ _ ⟨rfl, rfl⟩
                refine go_lload_n C d_M_distanceOf_57 rfl 3 rfl (n := 58) rfl ?_
                refine go_iload C d_M_distanceOf_58 7 rfl (n := 60) rfl ?_
                refine go_iconst C (v := 1) d_M_distanceOf_60 rfl (n := 61) rfl ?_
                refine go_isub C d_M_distanceOf_61 (n := 62) rfl ?_
                obtain ⟨o62, ho62, hf⟩ := bindS hf
                refine go_callP C (As := [.long a1, .int (l8 - (1 : Int32))]) (rest := [.int o54]) d_M_distanceOf_62 (c_M_at l D tc a1 (l8 - (1 : Int32)) ho62 (fun r w => r = some (.int o62) ∧ w = []) ⟨rfl, rfl⟩) lk_M_107 mw_M_at ws_M_at rfl rfl ⟨(Nat.le_of_ble_eq_true rfl), (Nat.le_of_ble_eq_true rfl)⟩ rfl rfl (Nat.le_of_ble_eq_true rfl) ⟨(Nat.le_of_ble_eq_true rfl), (Nat.le_of_ble_eq_true rfl)⟩ (n := 65) rfl ?_
                rintro _ _ ⟨rfl, rfl⟩
                have hi65 := iteS hf
                refine go_icmp_ne C d_M_distanceOf_65 (tgt := 72) (by decide) (n := 68) rfl (fun h65 => ?_) (fun h65 => ?_)
                · have hf := hi65.2 h65
                  refine go_iconst C (v := 1) d_M_distanceOf_72 rfl (n := 73) rfl ?_
                  refine go_lv (lv' := [(0, .ref qt), (1, .long a0), (3, .long a1), (5, .int l5), (6, .int l6), (7, .int l7), (8, .int l8)]) [1, 2, 3, 4, 5, 6, 7] rfl ?_
                  exact K73 v_t_table l8 (1 : Int32) hf
                · have hf := hi65.1 h65
                  refine go_iconst C (v := 0) d_M_distanceOf_68 rfl (n := 69) rfl ?_
                  refine go_goto C d_M_distanceOf_69 (tgt := 73) (by decide) ?_
                  refine go_lv (lv' := [(0, .ref qt), (1, .long a0), (3, .long a1), (5, .int l5), (6, .int l6), (7, .int l7), (8, .int l8)]) [1, 2, 3, 4, 5, 6, 7] rfl ?_
                  exact K73 v_t_table l8 (0 : Int32) hf
      unfold f_M_distanceOf_15b at hf
      refine go_iload C d_M_distanceOf_15 5 rfl (n := 17) rfl ?_
      refine go_iload C d_M_distanceOf_17 3 rfl (n := 19) rfl ?_
      have hi19 := iteS hf
      refine go_icmp_gt C d_M_distanceOf_19 (tgt := 237) (by decide) (n := 22) rfl (fun h19 => ?_) (fun h19 => ?_)
      · have hf := hi19.1 h19
        refine go_lv (lv' := [(0, .ref qt), (5, .int l5), (6, .int l6)]) [0, 3, 4] rfl ?_
        cases hf
        exact hE
      · have hf := hi19.2 h19
        refine go_iconst C (v := 0) d_M_distanceOf_22 rfl (n := 23) rfl ?_
        refine go_istore C d_M_distanceOf_23 (lv' := [(8, .int (0 : Int32)), (0, .ref qt), (1, .long a0), (3, .long a1), (5, .int l5), (6, .int l6), (7, .int l7)]) (by decide) rfl (n := 25) rfl ?_
        refine go_lv (lv' := [(0, .ref qt), (1, .long a0), (3, .long a1), (5, .int l5), (6, .int l6), (7, .int l7), (8, .int (0 : Int32))]) [1, 2, 3, 4, 5, 6, 0] rfl ?_
        obtain ⟨x25, hx25, hf⟩ := bindS hf
        refine K25 l5 l6 l7 FU v_t_table (0 : Int32) x25 hx25 ?_
        refine go_iinc C d_M_distanceOf_231 5 rfl (v := l7 + (1 : Int32)) rfl (lv' := [(7, .int (l7 + (1 : Int32))), (0, .ref qt), (1, .long a0), (3, .long a1), (5, .int l5), (6, .int l6)]) (by decide) rfl (n := 234) rfl ?_
        refine go_goto C d_M_distanceOf_234 (tgt := 15) (by decide) ?_
        refine go_lv (lv' := [(0, .ref qt), (1, .long a0), (3, .long a1), (5, .int l5), (6, .int l6), (7, .int (l7 + (1 : Int32)))]) [1, 2, 3, 4, 5, 0] rfl ?_
        exact ih x25 (l7 + (1 : Int32)) x hf hE
  unfold f_M_distanceOf at hf
  refine go_lload_n C d_M_distanceOf_0 rfl 1 rfl (n := 1) rfl ?_
  obtain ⟨o1, ho1, hf⟩ := bindS hf
  refine go_callP C (As := [.long a0]) (rest := []) d_M_distanceOf_1 (c_M_lettersOf l D tc a0 ho1 (fun r w => r = some (.int o1) ∧ w = []) ⟨rfl, rfl⟩) lk_M_93 mw_M_lettersOf ws_M_lettersOf rfl rfl ⟨(Nat.le_of_ble_eq_true rfl), (Nat.le_of_ble_eq_true rfl)⟩ rfl rfl (Nat.le_of_ble_eq_true rfl) ⟨(Nat.le_of_ble_eq_true rfl), (Nat.le_of_ble_eq_true rfl)⟩ (n := 4) rfl ?_
  rintro _ _ ⟨rfl, rfl⟩
  refine go_istore C d_M_distanceOf_4 (lv' := [(5, .int o1), (0, .ref qt), (1, .long a0), (3, .long a1)]) (by decide) rfl (n := 6) rfl ?_
  refine go_lload_n C d_M_distanceOf_6 rfl 3 rfl (n := 7) rfl ?_
  obtain ⟨o7, ho7, hf⟩ := bindS hf
  refine go_callP C (As := [.long a1]) (rest := []) d_M_distanceOf_7 (c_M_lettersOf l D tc a1 ho7 (fun r w => r = some (.int o7) ∧ w = []) ⟨rfl, rfl⟩) lk_M_93 mw_M_lettersOf ws_M_lettersOf rfl rfl ⟨(Nat.le_of_ble_eq_true rfl), (Nat.le_of_ble_eq_true rfl)⟩ rfl rfl (Nat.le_of_ble_eq_true rfl) ⟨(Nat.le_of_ble_eq_true rfl), (Nat.le_of_ble_eq_true rfl)⟩ (n := 10) rfl ?_
  rintro _ _ ⟨rfl, rfl⟩
  refine go_istore C d_M_distanceOf_10 (lv' := [(6, .int o7), (5, .int o1), (0, .ref qt), (1, .long a0), (3, .long a1)]) (by decide) rfl (n := 12) rfl ?_
  refine go_iconst C (v := 0) d_M_distanceOf_12 rfl (n := 13) rfl ?_
  refine go_istore C d_M_distanceOf_13 (lv' := [(7, .int (0 : Int32)), (6, .int o7), (5, .int o1), (0, .ref qt), (1, .long a0), (3, .long a1)]) (by decide) rfl (n := 15) rfl ?_
  refine go_lv (lv' := [(0, .ref qt), (1, .long a0), (3, .long a1), (5, .int o1), (6, .int o7), (7, .int (0 : Int32))]) [3, 4, 5, 2, 1, 0] rfl ?_
  obtain ⟨x15, hx15, hf⟩ := bindS hf
  refine K15 o1 o7 FU t_table (0 : Int32) x15 hx15 ?_
  refine go_aload_n C d_M_distanceOf_237 rfl 0 rfl (n := 238) rfl ?_
  refine go_get C d_M_distanceOf_238 fl_M_59 0 rfl rfl (n := 241) rfl ?_
  refine go_bipush C (v := 9) d_M_distanceOf_241 rfl (n := 243) rfl ?_
  refine go_iload C d_M_distanceOf_243 1 rfl (n := 245) rfl ?_
  refine go_imul C d_M_distanceOf_245 (n := 246) rfl ?_
  refine go_iload C d_M_distanceOf_246 2 rfl (n := 248) rfl ?_
  refine go_iadd C d_M_distanceOf_248 (n := 249) rfl ?_
  obtain ⟨hg249, hf⟩ := guardS hf
  refine go_iald C d_M_distanceOf_249 17 rfl hg249 (n := 250) rfl ?_
  cases hf
  exact go_iret C d_M_distanceOf_250 hr hPOST
