def f_M_begin_140 (rec : (Nat → Int32) → Int32 → Option ((Nat → Int32) × Int32)) (t_size : Nat → Int32) (t_words : Nat → Int64) (t_costs : Nat → Int32) (a0 : Int32) (a1 : Int32) (a2 : Int32) (v_t_beginnings : Int32) (v_t_from : Nat → Int32) (v_t_letters : Nat → Int32) (v_t_end : Nat → Int32) (v_t_key : Nat → Int64) (l4 : Int32) (v_t_lowest : Nat → Int32) (l5 : Int32) (s0 : Int32) (s1 : Int32) : Option ((Nat → Int32) × Int32) :=
  if okI s1 216 = true then rec (upd v_t_lowest s1.toNatClampNeg s0) (l5 + (1 : Int32)) else none
def f_M_begin_90 (rec : (Nat → Int32) → Int32 → Option ((Nat → Int32) × Int32)) (t_size : Nat → Int32) (t_words : Nat → Int64) (t_costs : Nat → Int32) (a0 : Int32) (a1 : Int32) (a2 : Int32) (v_t_beginnings : Int32) (v_t_from : Nat → Int32) (v_t_letters : Nat → Int32) (v_t_end : Nat → Int32) (v_t_key : Nat → Int64) (l4 : Int32) (v_t_lowest : Nat → Int32) (l5 : Int32) : Option ((Nat → Int32) × Int32) :=
  if okI (((24 : Int32) * a0) + l5) 72 = true then if okI l4 216 = true then if (v_t_lowest l4.toNatClampNeg) ≤ (t_costs (((24 : Int32) * a0) + l5).toNatClampNeg) then if okI l4 216 = true then f_M_begin_140 rec t_size t_words t_costs a0 a1 a2 v_t_beginnings v_t_from v_t_letters v_t_end v_t_key l4 v_t_lowest l5 (v_t_lowest l4.toNatClampNeg) l4 else none else if okI (((24 : Int32) * a0) + l5) 72 = true then f_M_begin_140 rec t_size t_words t_costs a0 a1 a2 v_t_beginnings v_t_from v_t_letters v_t_end v_t_key l4 v_t_lowest l5 (t_costs (((24 : Int32) * a0) + l5).toNatClampNeg) l4 else none else none else none
def f_M_begin_45b (t_size : Nat → Int32) (t_words : Nat → Int64) (t_costs : Nat → Int32) (a0 : Int32) (a1 : Int32) (a2 : Int32) (v_t_beginnings : Int32) (v_t_from : Nat → Int32) (v_t_letters : Nat → Int32) (v_t_end : Nat → Int32) (v_t_key : Nat → Int64) (l4 : Int32) (rec : (Nat → Int32) → Int32 → Option ((Nat → Int32) × Int32)) (v_t_lowest : Nat → Int32) (l5 : Int32) : Option ((Nat → Int32) × Int32) :=
  if okI a0 3 = true then if (t_size a0.toNatClampNeg) ≤ l5 then some ( (v_t_lowest, l5)) else if a2 = 0 then f_M_begin_90 rec t_size t_words t_costs a0 a1 a2 v_t_beginnings v_t_from v_t_letters v_t_end v_t_key l4 v_t_lowest l5 else if okI (((24 : Int32) * a0) + l5) 72 = true then if okI (((24 : Int32) * a0) + a1) 72 = true then (f_M_common (t_words (((24 : Int32) * a0) + l5).toNatClampNeg) (t_words (((24 : Int32) * a0) + a1).toNatClampNeg)).bind (fun o83 => if o83 < a2 then some ( (v_t_lowest, l5)) else f_M_begin_90 rec t_size t_words t_costs a0 a1 a2 v_t_beginnings v_t_from v_t_letters v_t_end v_t_key l4 v_t_lowest l5) else none else none else none
def f_M_begin_45 (t_size : Nat → Int32) (t_words : Nat → Int64) (t_costs : Nat → Int32) (a0 : Int32) (a1 : Int32) (a2 : Int32) (v_t_beginnings : Int32) (v_t_from : Nat → Int32) (v_t_letters : Nat → Int32) (v_t_end : Nat → Int32) (v_t_key : Nat → Int64) (l4 : Int32) : Nat → (Nat → Int32) → Int32 → Option ((Nat → Int32) × Int32)
  | 0 => fun _ _ => none
  | n + 1 => f_M_begin_45b t_size t_words t_costs a0 a1 a2 v_t_beginnings v_t_from v_t_letters v_t_end v_t_key l4 (f_M_begin_45 t_size t_words t_costs a0 a1 a2 v_t_beginnings v_t_from v_t_letters v_t_end v_t_key l4 n)
def f_M_begin_235b (t_size : Nat → Int32) (t_words : Nat → Int64) (t_costs : Nat → Int32) (a0 : Int32) (a1 : Int32) (a2 : Int32) (v_t_beginnings : Int32) (v_t_from : Nat → Int32) (v_t_letters : Nat → Int32) (v_t_end : Nat → Int32) (v_t_lowest : Nat → Int32) (l4 : Int32) (l5 : Int32) (l6 : Int32) (l7 : Int32) (rec : (Nat → Int64) → Int32 → Option ((Nat → Int64))) (v_t_key : Nat → Int64) (l8 : Int32) : Option ((Nat → Int64)) :=
  if l7 ≤ l8 then some ( v_t_key) else if okI l4 216 = true then if okI (((24 : Int32) * a0) + l6) 72 = true then (f_M_at (t_words (((24 : Int32) * a0) + l6).toNatClampNeg) l8).bind (fun o273 => if okI l4 216 = true then rec (vp_updL v_t_key l4.toNatClampNeg (((131 : Int64) * (v_t_key l4.toNatClampNeg)) + o273.toInt64)) (l8 + (1 : Int32)) else none) else none else none
def f_M_begin_235 (t_size : Nat → Int32) (t_words : Nat → Int64) (t_costs : Nat → Int32) (a0 : Int32) (a1 : Int32) (a2 : Int32) (v_t_beginnings : Int32) (v_t_from : Nat → Int32) (v_t_letters : Nat → Int32) (v_t_end : Nat → Int32) (v_t_lowest : Nat → Int32) (l4 : Int32) (l5 : Int32) (l6 : Int32) (l7 : Int32) : Nat → (Nat → Int64) → Int32 → Option ((Nat → Int64))
  | 0 => fun _ _ => none
  | n + 1 => f_M_begin_235b t_size t_words t_costs a0 a1 a2 v_t_beginnings v_t_from v_t_letters v_t_end v_t_lowest l4 l5 l6 l7 (f_M_begin_235 t_size t_words t_costs a0 a1 a2 v_t_beginnings v_t_from v_t_letters v_t_end v_t_lowest l4 l5 l6 l7 n)
def f_M_begin_167b (t_size : Nat → Int32) (t_words : Nat → Int64) (t_costs : Nat → Int32) (a0 : Int32) (a1 : Int32) (a2 : Int32) (v_t_beginnings : Int32) (v_t_from : Nat → Int32) (v_t_letters : Nat → Int32) (v_t_end : Nat → Int32) (v_t_lowest : Nat → Int32) (l4 : Int32) (l5 : Int32) (rec : (Nat → Int64) → Int32 → Option ((Nat → Int64))) (v_t_key : Nat → Int64) (l6 : Int32) : Option ((Nat → Int64)) :=
  if l5 ≤ l6 then some ( v_t_key) else if okI l4 216 = true then if okI (((24 : Int32) * a0) + l6) 72 = true then if okI l4 216 = true then if okI l4 216 = true then if okI (((24 : Int32) * a0) + l6) 72 = true then (f_M_lettersOf (t_words (((24 : Int32) * a0) + l6).toNatClampNeg)).bind (fun o227 => (f_M_begin_235 t_size t_words t_costs a0 a1 a2 v_t_beginnings v_t_from v_t_letters v_t_end v_t_lowest l4 l5 l6 o227 FU (vp_updL v_t_key l4.toNatClampNeg ((((31 : Int64) * (v_t_key l4.toNatClampNeg)) + ((t_costs (((24 : Int32) * a0) + l6).toNatClampNeg).toInt64)) - ((v_t_lowest l4.toNatClampNeg).toInt64))) a2).bind (fun x235 => rec x235 (l6 + (1 : Int32)))) else none else none else none else none else none
def f_M_begin_167 (t_size : Nat → Int32) (t_words : Nat → Int64) (t_costs : Nat → Int32) (a0 : Int32) (a1 : Int32) (a2 : Int32) (v_t_beginnings : Int32) (v_t_from : Nat → Int32) (v_t_letters : Nat → Int32) (v_t_end : Nat → Int32) (v_t_lowest : Nat → Int32) (l4 : Int32) (l5 : Int32) : Nat → (Nat → Int64) → Int32 → Option ((Nat → Int64))
  | 0 => fun _ _ => none
  | n + 1 => f_M_begin_167b t_size t_words t_costs a0 a1 a2 v_t_beginnings v_t_from v_t_letters v_t_end v_t_lowest l4 l5 (f_M_begin_167 t_size t_words t_costs a0 a1 a2 v_t_beginnings v_t_from v_t_letters v_t_end v_t_lowest l4 l5 n)
def f_M_begin_147 (t_size : Nat → Int32) (t_words : Nat → Int64) (t_costs : Nat → Int32) (a0 : Int32) (a1 : Int32) (a2 : Int32) (v_t_beginnings : Int32) (v_t_from : Nat → Int32) (v_t_letters : Nat → Int32) (v_t_end : Nat → Int32) (v_t_lowest : Nat → Int32) (v_t_key : Nat → Int64) (l4 : Int32) (l5 : Int32) : Option (Int32 × (Nat → Int32) × (Nat → Int32) × (Nat → Int32) × (Nat → Int32) × (Nat → Int64)) :=
  if okI l4 216 = true then if okI l4 216 = true then (f_M_begin_167 t_size t_words t_costs a0 a1 a2 v_t_beginnings v_t_from v_t_letters (upd v_t_end l4.toNatClampNeg l5) v_t_lowest l4 l5 FU (vp_updL v_t_key l4.toNatClampNeg (0 : Int64)) a1).bind (fun x167 => some (v_t_beginnings, v_t_from, v_t_letters, upd v_t_end l4.toNatClampNeg l5, v_t_lowest, x167)) else none else none
def f_M_begin (t_beginnings : Int32) (t_size : Nat → Int32) (t_words : Nat → Int64) (t_costs : Nat → Int32) (t_from : Nat → Int32) (t_letters : Nat → Int32) (t_end : Nat → Int32) (t_lowest : Nat → Int32) (t_key : Nat → Int64) (a0 : Int32) (a1 : Int32) (a2 : Int32) : Option (Int32 × (Nat → Int32) × (Nat → Int32) × (Nat → Int32) × (Nat → Int32) × (Nat → Int64)) :=
  if okI t_beginnings 216 = true then if okI t_beginnings 216 = true then if okI t_beginnings 216 = true then (f_M_begin_45 t_size t_words t_costs a0 a1 a2 (t_beginnings + (1 : Int32)) (upd t_from t_beginnings.toNatClampNeg a1) (upd t_letters t_beginnings.toNatClampNeg a2) t_end t_key t_beginnings FU (upd t_lowest t_beginnings.toNatClampNeg (10000 : Int32)) a1).bind (fun x45 => f_M_begin_147 t_size t_words t_costs a0 a1 a2 (t_beginnings + (1 : Int32)) (upd t_from t_beginnings.toNatClampNeg a1) (upd t_letters t_beginnings.toNatClampNeg a2) t_end x45.1 t_key t_beginnings x45.2) else none else none else none
set_option maxRecDepth 100000 in
set_option maxHeartbeats 4000000 in
theorem c_M_begin (l : Launch) (D : va_G) (tc : Nat → ClassId) (qt : Nat) (qt_draft : Nat) (qt_weight : Nat) (qt_number : Nat) (qt_size : Nat) (qt_readers : Nat) (qt_words : Nat) (qt_costs : Nat) (qt_states : Nat) (qt_arcs : Nat) (qt_from : Nat) (qt_letters : Nat) (qt_end : Nat) (qt_lowest : Nat) (qt_key : Nat) (qt_given : Nat) (qt_keys : Nat) (qt_table : Nat) (qt_first : Nat) (qt_second : Nat) (qt_learnt : Nat) (qt_phrase : Nat) (qt_corrected : Nat) (qt_many : Nat) (qt_candidates : Nat) (qt_alone : Nat) (qt_choice : Nat) (t_thrown : Int32) (t_drafted : Int32) (t_there : Int32) (t_made : Int32) (t_beginnings : Int32) (t_givenSize : Int32) (t_pairs : Int32) (t_said : Int32) (t_answered : Int32) (t_draft : Nat → Int64) (t_weight : Nat → Int32) (t_number : Nat → Int32) (t_size : Nat → Int32) (t_readers : Nat → Int32) (t_words : Nat → Int64) (t_costs : Nat → Int32) (t_states : Nat → Int32) (t_arcs : Nat → Int32) (t_from : Nat → Int32) (t_letters : Nat → Int32) (t_end : Nat → Int32) (t_lowest : Nat → Int32) (t_key : Nat → Int64) (t_given : Nat → Int64) (t_keys : Nat → Int32) (t_table : Nat → Int32) (t_first : Nat → Int64) (t_second : Nat → Int64) (t_learnt : Nat → Int32) (t_phrase : Nat → Int64) (t_corrected : Nat → Int64) (t_many : Nat → Int32) (t_candidates : Nat → Int64) (t_alone : Nat → Int32) (t_choice : Nat → Int32) (a0 : Int32) (a1 : Int32) (a2 : Int32) {o : (Int32 × (Nat → Int32) × (Nat → Int32) × (Nat → Int32) × (Nat → Int32) × (Nat → Int64))} (hf : f_M_begin t_beginnings t_size t_words t_costs t_from t_letters t_end t_lowest t_key a0 a1 a2 = some o) (POST : Option Value → va_W → Prop) (hPOST : POST none [(qt, .inr (8, [.int t_thrown, .int t_drafted, .ref qt_draft, .ref qt_weight, .int t_there, .int t_made, .ref qt_number, .ref qt_size, .ref qt_readers, .ref qt_words, .ref qt_costs, .ref qt_states, .ref qt_arcs, .int o.1, .ref qt_from, .ref qt_letters, .ref qt_end, .ref qt_lowest, .ref qt_key, .int t_givenSize, .ref qt_given, .ref qt_keys, .ref qt_table, .int t_pairs, .ref qt_first, .ref qt_second, .ref qt_learnt, .int t_said, .ref qt_phrase, .int t_answered, .ref qt_corrected, .ref qt_many, .ref qt_candidates, .ref qt_alone, .ref qt_choice])), (qt_draft, .inl (tc 1, 24, .inr (.inl t_draft))), (qt_weight, .inl (tc 0, 24, .inl t_weight)), (qt_number, .inl (tc 0, 3, .inl t_number)), (qt_size, .inl (tc 0, 3, .inl t_size)), (qt_readers, .inl (tc 0, 3, .inl t_readers)), (qt_words, .inl (tc 1, 72, .inr (.inl t_words))), (qt_costs, .inl (tc 0, 72, .inl t_costs)), (qt_states, .inl (tc 0, 3, .inl t_states)), (qt_arcs, .inl (tc 0, 3, .inl t_arcs)), (qt_from, .inl (tc 0, 216, .inl o.2.1)), (qt_letters, .inl (tc 0, 216, .inl o.2.2.1)), (qt_end, .inl (tc 0, 216, .inl o.2.2.2.1)), (qt_lowest, .inl (tc 0, 216, .inl o.2.2.2.2.1)), (qt_key, .inl (tc 1, 216, .inr (.inl o.2.2.2.2.2))), (qt_given, .inl (tc 1, 24, .inr (.inl t_given))), (qt_keys, .inl (tc 0, 24, .inl t_keys)), (qt_table, .inl (tc 0, 81, .inl t_table)), (qt_first, .inl (tc 1, 40, .inr (.inl t_first))), (qt_second, .inl (tc 1, 40, .inr (.inl t_second))), (qt_learnt, .inl (tc 0, 40, .inl t_learnt)), (qt_phrase, .inl (tc 1, 4, .inr (.inl t_phrase))), (qt_corrected, .inl (tc 1, 4, .inr (.inl t_corrected))), (qt_many, .inl (tc 0, 4, .inl t_many)), (qt_candidates, .inl (tc 1, 96, .inr (.inl t_candidates))), (qt_alone, .inl (tc 0, 96, .inl t_alone)), (qt_choice, .inl (tc 0, 4, .inl t_choice))]) : Std l y_M_begin (.code y_M_begin b_M_begin 9 none) { frames := 3, cells := 0, slots := 0, locals := 69 } D tc [.ref qt, .int a0, .int a1, .int a2] [(qt, .inr (8, [.int t_thrown, .int t_drafted, .ref qt_draft, .ref qt_weight, .int t_there, .int t_made, .ref qt_number, .ref qt_size, .ref qt_readers, .ref qt_words, .ref qt_costs, .ref qt_states, .ref qt_arcs, .int t_beginnings, .ref qt_from, .ref qt_letters, .ref qt_end, .ref qt_lowest, .ref qt_key, .int t_givenSize, .ref qt_given, .ref qt_keys, .ref qt_table, .int t_pairs, .ref qt_first, .ref qt_second, .ref qt_learnt, .int t_said, .ref qt_phrase, .int t_answered, .ref qt_corrected, .ref qt_many, .ref qt_candidates, .ref qt_alone, .ref qt_choice])), (qt_draft, .inl (tc 1, 24, .inr (.inl t_draft))), (qt_weight, .inl (tc 0, 24, .inl t_weight)), (qt_number, .inl (tc 0, 3, .inl t_number)), (qt_size, .inl (tc 0, 3, .inl t_size)), (qt_readers, .inl (tc 0, 3, .inl t_readers)), (qt_words, .inl (tc 1, 72, .inr (.inl t_words))), (qt_costs, .inl (tc 0, 72, .inl t_costs)), (qt_states, .inl (tc 0, 3, .inl t_states)), (qt_arcs, .inl (tc 0, 3, .inl t_arcs)), (qt_from, .inl (tc 0, 216, .inl t_from)), (qt_letters, .inl (tc 0, 216, .inl t_letters)), (qt_end, .inl (tc 0, 216, .inl t_end)), (qt_lowest, .inl (tc 0, 216, .inl t_lowest)), (qt_key, .inl (tc 1, 216, .inr (.inl t_key))), (qt_given, .inl (tc 1, 24, .inr (.inl t_given))), (qt_keys, .inl (tc 0, 24, .inl t_keys)), (qt_table, .inl (tc 0, 81, .inl t_table)), (qt_first, .inl (tc 1, 40, .inr (.inl t_first))), (qt_second, .inl (tc 1, 40, .inr (.inl t_second))), (qt_learnt, .inl (tc 0, 40, .inl t_learnt)), (qt_phrase, .inl (tc 1, 4, .inr (.inl t_phrase))), (qt_corrected, .inl (tc 1, 4, .inr (.inl t_corrected))), (qt_many, .inl (tc 0, 4, .inl t_many)), (qt_candidates, .inl (tc 1, 96, .inr (.inl t_candidates))), (qt_alone, .inl (tc 0, 96, .inl t_alone)), (qt_choice, .inl (tc 0, 4, .inl t_choice))] 0 0 POST := by
  refine std_of (lv := [(0, .ref qt), (1, .int a0), (2, .int a1), (3, .int a2)]) (by decide) (Nat.le_of_ble_eq_true rfl) rfl (fun p e s m args below meth c A C hr hnm => ?_)
  have K45 : ∀ (v_t_beginnings : Int32) (v_t_from : Nat → Int32) (v_t_letters : Nat → Int32) (v_t_end : Nat → Int32) (v_t_key : Nat → Int64) (l4 : Int32) (n : Nat) (v_t_lowest : Nat → Int32) (l5 : Int32) (x : ((Nat → Int32) × Int32)), f_M_begin_45 t_size t_words t_costs a0 a1 a2 v_t_beginnings v_t_from v_t_letters v_t_end v_t_key l4 n v_t_lowest l5 = some x → (Go p l e { frames := 3, cells := 0, slots := 0, locals := 69 } s m args below meth c (MQ below (Qs D A POST) args s 0 0 A) D A 9 0 0 [(qt, .inr (8, [.int t_thrown, .int t_drafted, .ref qt_draft, .ref qt_weight, .int t_there, .int t_made, .ref qt_number, .ref qt_size, .ref qt_readers, .ref qt_words, .ref qt_costs, .ref qt_states, .ref qt_arcs, .int v_t_beginnings, .ref qt_from, .ref qt_letters, .ref qt_end, .ref qt_lowest, .ref qt_key, .int t_givenSize, .ref qt_given, .ref qt_keys, .ref qt_table, .int t_pairs, .ref qt_first, .ref qt_second, .ref qt_learnt, .int t_said, .ref qt_phrase, .int t_answered, .ref qt_corrected, .ref qt_many, .ref qt_candidates, .ref qt_alone, .ref qt_choice])), (qt_draft, .inl (tc 1, 24, .inr (.inl t_draft))), (qt_weight, .inl (tc 0, 24, .inl t_weight)), (qt_number, .inl (tc 0, 3, .inl t_number)), (qt_size, .inl (tc 0, 3, .inl t_size)), (qt_readers, .inl (tc 0, 3, .inl t_readers)), (qt_words, .inl (tc 1, 72, .inr (.inl t_words))), (qt_costs, .inl (tc 0, 72, .inl t_costs)), (qt_states, .inl (tc 0, 3, .inl t_states)), (qt_arcs, .inl (tc 0, 3, .inl t_arcs)), (qt_from, .inl (tc 0, 216, .inl v_t_from)), (qt_letters, .inl (tc 0, 216, .inl v_t_letters)), (qt_end, .inl (tc 0, 216, .inl v_t_end)), (qt_lowest, .inl (tc 0, 216, .inl x.1)), (qt_key, .inl (tc 1, 216, .inr (.inl v_t_key))), (qt_given, .inl (tc 1, 24, .inr (.inl t_given))), (qt_keys, .inl (tc 0, 24, .inl t_keys)), (qt_table, .inl (tc 0, 81, .inl t_table)), (qt_first, .inl (tc 1, 40, .inr (.inl t_first))), (qt_second, .inl (tc 1, 40, .inr (.inl t_second))), (qt_learnt, .inl (tc 0, 40, .inl t_learnt)), (qt_phrase, .inl (tc 1, 4, .inr (.inl t_phrase))), (qt_corrected, .inl (tc 1, 4, .inr (.inl t_corrected))), (qt_many, .inl (tc 0, 4, .inl t_many)), (qt_candidates, .inl (tc 1, 96, .inr (.inl t_candidates))), (qt_alone, .inl (tc 0, 96, .inl t_alone)), (qt_choice, .inl (tc 0, 4, .inl t_choice))] [(0, .ref qt), (1, .int a0), (2, .int a1), (3, .int a2), (4, .int l4), (5, .int x.2)] 147 []) → Go p l e { frames := 3, cells := 0, slots := 0, locals := 69 } s m args below meth c (MQ below (Qs D A POST) args s 0 0 A) D A 9 0 0 [(qt, .inr (8, [.int t_thrown, .int t_drafted, .ref qt_draft, .ref qt_weight, .int t_there, .int t_made, .ref qt_number, .ref qt_size, .ref qt_readers, .ref qt_words, .ref qt_costs, .ref qt_states, .ref qt_arcs, .int v_t_beginnings, .ref qt_from, .ref qt_letters, .ref qt_end, .ref qt_lowest, .ref qt_key, .int t_givenSize, .ref qt_given, .ref qt_keys, .ref qt_table, .int t_pairs, .ref qt_first, .ref qt_second, .ref qt_learnt, .int t_said, .ref qt_phrase, .int t_answered, .ref qt_corrected, .ref qt_many, .ref qt_candidates, .ref qt_alone, .ref qt_choice])), (qt_draft, .inl (tc 1, 24, .inr (.inl t_draft))), (qt_weight, .inl (tc 0, 24, .inl t_weight)), (qt_number, .inl (tc 0, 3, .inl t_number)), (qt_size, .inl (tc 0, 3, .inl t_size)), (qt_readers, .inl (tc 0, 3, .inl t_readers)), (qt_words, .inl (tc 1, 72, .inr (.inl t_words))), (qt_costs, .inl (tc 0, 72, .inl t_costs)), (qt_states, .inl (tc 0, 3, .inl t_states)), (qt_arcs, .inl (tc 0, 3, .inl t_arcs)), (qt_from, .inl (tc 0, 216, .inl v_t_from)), (qt_letters, .inl (tc 0, 216, .inl v_t_letters)), (qt_end, .inl (tc 0, 216, .inl v_t_end)), (qt_lowest, .inl (tc 0, 216, .inl v_t_lowest)), (qt_key, .inl (tc 1, 216, .inr (.inl v_t_key))), (qt_given, .inl (tc 1, 24, .inr (.inl t_given))), (qt_keys, .inl (tc 0, 24, .inl t_keys)), (qt_table, .inl (tc 0, 81, .inl t_table)), (qt_first, .inl (tc 1, 40, .inr (.inl t_first))), (qt_second, .inl (tc 1, 40, .inr (.inl t_second))), (qt_learnt, .inl (tc 0, 40, .inl t_learnt)), (qt_phrase, .inl (tc 1, 4, .inr (.inl t_phrase))), (qt_corrected, .inl (tc 1, 4, .inr (.inl t_corrected))), (qt_many, .inl (tc 0, 4, .inl t_many)), (qt_candidates, .inl (tc 1, 96, .inr (.inl t_candidates))), (qt_alone, .inl (tc 0, 96, .inl t_alone)), (qt_choice, .inl (tc 0, 4, .inl t_choice))] [(0, .ref qt), (1, .int a0), (2, .int a1), (3, .int a2), (4, .int l4), (5, .int l5)] 45 [] := by
    intro v_t_beginnings v_t_from v_t_letters v_t_end v_t_key l4 n
    induction n with
    | zero =>
      intro v_t_lowest l5 x hf hE
      simp [f_M_begin_45] at hf
    | succ n ih =>
      intro v_t_lowest l5 x hf hE
      have hf : f_M_begin_45b t_size t_words t_costs a0 a1 a2 v_t_beginnings v_t_from v_t_letters v_t_end v_t_key l4 (f_M_begin_45 t_size t_words t_costs a0 a1 a2 v_t_beginnings v_t_from v_t_letters v_t_end v_t_key l4 n) v_t_lowest l5 = some x := hf
      have K140 : ∀ (v_t_lowest : Nat → Int32) (l5 : Int32) (s0 : Int32) (s1 : Int32), f_M_begin_140 (f_M_begin_45 t_size t_words t_costs a0 a1 a2 v_t_beginnings v_t_from v_t_letters v_t_end v_t_key l4 n) t_size t_words t_costs a0 a1 a2 v_t_beginnings v_t_from v_t_letters v_t_end v_t_key l4 v_t_lowest l5 s0 s1 = some x → Go p l e { frames := 3, cells := 0, slots := 0, locals := 69 } s m args below meth c (MQ below (Qs D A POST) args s 0 0 A) D A 9 0 0 [(qt, .inr (8, [.int t_thrown, .int t_drafted, .ref qt_draft, .ref qt_weight, .int t_there, .int t_made, .ref qt_number, .ref qt_size, .ref qt_readers, .ref qt_words, .ref qt_costs, .ref qt_states, .ref qt_arcs, .int v_t_beginnings, .ref qt_from, .ref qt_letters, .ref qt_end, .ref qt_lowest, .ref qt_key, .int t_givenSize, .ref qt_given, .ref qt_keys, .ref qt_table, .int t_pairs, .ref qt_first, .ref qt_second, .ref qt_learnt, .int t_said, .ref qt_phrase, .int t_answered, .ref qt_corrected, .ref qt_many, .ref qt_candidates, .ref qt_alone, .ref qt_choice])), (qt_draft, .inl (tc 1, 24, .inr (.inl t_draft))), (qt_weight, .inl (tc 0, 24, .inl t_weight)), (qt_number, .inl (tc 0, 3, .inl t_number)), (qt_size, .inl (tc 0, 3, .inl t_size)), (qt_readers, .inl (tc 0, 3, .inl t_readers)), (qt_words, .inl (tc 1, 72, .inr (.inl t_words))), (qt_costs, .inl (tc 0, 72, .inl t_costs)), (qt_states, .inl (tc 0, 3, .inl t_states)), (qt_arcs, .inl (tc 0, 3, .inl t_arcs)), (qt_from, .inl (tc 0, 216, .inl v_t_from)), (qt_letters, .inl (tc 0, 216, .inl v_t_letters)), (qt_end, .inl (tc 0, 216, .inl v_t_end)), (qt_lowest, .inl (tc 0, 216, .inl v_t_lowest)), (qt_key, .inl (tc 1, 216, .inr (.inl v_t_key))), (qt_given, .inl (tc 1, 24, .inr (.inl t_given))), (qt_keys, .inl (tc 0, 24, .inl t_keys)), (qt_table, .inl (tc 0, 81, .inl t_table)), (qt_first, .inl (tc 1, 40, .inr (.inl t_first))), (qt_second, .inl (tc 1, 40, .inr (.inl t_second))), (qt_learnt, .inl (tc 0, 40, .inl t_learnt)), (qt_phrase, .inl (tc 1, 4, .inr (.inl t_phrase))), (qt_corrected, .inl (tc 1, 4, .inr (.inl t_corrected))), (qt_many, .inl (tc 0, 4, .inl t_many)), (qt_candidates, .inl (tc 1, 96, .inr (.inl t_candidates))), (qt_alone, .inl (tc 0, 96, .inl t_alone)), (qt_choice, .inl (tc 0, 4, .inl t_choice))] [(0, .ref qt), (1, .int a0), (2, .int a1), (3, .int a2), (4, .int l4), (5, .int l5)] 140 [.int s0, .int s1, .ref qt_lowest] := by
        intro v_t_lowest l5 s0 s1 hf
        unfold f_M_begin_140 at hf
        obtain ⟨hg140, hf⟩ := guardS hf
        refine go_iast C d_M_begin_140 13 rfl hg140 (n := 141) rfl ?_
        refine go_iinc C d_M_begin_141 5 rfl (v := l5 + (1 : Int32)) rfl (lv' := [(5, .int (l5 + (1 : Int32))), (0, .ref qt), (1, .int a0), (2, .int a1), (3, .int a2), (4, .int l4)]) (by decide) rfl (n := 144) rfl ?_
        refine go_goto C d_M_begin_144 (tgt := 45) (by decide) ?_
        refine go_lv (lv' := [(0, .ref qt), (1, .int a0), (2, .int a1), (3, .int a2), (4, .int l4), (5, .int (l5 + (1 : Int32)))]) [1, 2, 3, 4, 5, 0] rfl ?_
        exact ih (upd v_t_lowest s1.toNatClampNeg s0) (l5 + (1 : Int32)) x hf hE
      have K90 : ∀ (v_t_lowest : Nat → Int32) (l5 : Int32), f_M_begin_90 (f_M_begin_45 t_size t_words t_costs a0 a1 a2 v_t_beginnings v_t_from v_t_letters v_t_end v_t_key l4 n) t_size t_words t_costs a0 a1 a2 v_t_beginnings v_t_from v_t_letters v_t_end v_t_key l4 v_t_lowest l5 = some x → Go p l e { frames := 3, cells := 0, slots := 0, locals := 69 } s m args below meth c (MQ below (Qs D A POST) args s 0 0 A) D A 9 0 0 [(qt, .inr (8, [.int t_thrown, .int t_drafted, .ref qt_draft, .ref qt_weight, .int t_there, .int t_made, .ref qt_number, .ref qt_size, .ref qt_readers, .ref qt_words, .ref qt_costs, .ref qt_states, .ref qt_arcs, .int v_t_beginnings, .ref qt_from, .ref qt_letters, .ref qt_end, .ref qt_lowest, .ref qt_key, .int t_givenSize, .ref qt_given, .ref qt_keys, .ref qt_table, .int t_pairs, .ref qt_first, .ref qt_second, .ref qt_learnt, .int t_said, .ref qt_phrase, .int t_answered, .ref qt_corrected, .ref qt_many, .ref qt_candidates, .ref qt_alone, .ref qt_choice])), (qt_draft, .inl (tc 1, 24, .inr (.inl t_draft))), (qt_weight, .inl (tc 0, 24, .inl t_weight)), (qt_number, .inl (tc 0, 3, .inl t_number)), (qt_size, .inl (tc 0, 3, .inl t_size)), (qt_readers, .inl (tc 0, 3, .inl t_readers)), (qt_words, .inl (tc 1, 72, .inr (.inl t_words))), (qt_costs, .inl (tc 0, 72, .inl t_costs)), (qt_states, .inl (tc 0, 3, .inl t_states)), (qt_arcs, .inl (tc 0, 3, .inl t_arcs)), (qt_from, .inl (tc 0, 216, .inl v_t_from)), (qt_letters, .inl (tc 0, 216, .inl v_t_letters)), (qt_end, .inl (tc 0, 216, .inl v_t_end)), (qt_lowest, .inl (tc 0, 216, .inl v_t_lowest)), (qt_key, .inl (tc 1, 216, .inr (.inl v_t_key))), (qt_given, .inl (tc 1, 24, .inr (.inl t_given))), (qt_keys, .inl (tc 0, 24, .inl t_keys)), (qt_table, .inl (tc 0, 81, .inl t_table)), (qt_first, .inl (tc 1, 40, .inr (.inl t_first))), (qt_second, .inl (tc 1, 40, .inr (.inl t_second))), (qt_learnt, .inl (tc 0, 40, .inl t_learnt)), (qt_phrase, .inl (tc 1, 4, .inr (.inl t_phrase))), (qt_corrected, .inl (tc 1, 4, .inr (.inl t_corrected))), (qt_many, .inl (tc 0, 4, .inl t_many)), (qt_candidates, .inl (tc 1, 96, .inr (.inl t_candidates))), (qt_alone, .inl (tc 0, 96, .inl t_alone)), (qt_choice, .inl (tc 0, 4, .inl t_choice))] [(0, .ref qt), (1, .int a0), (2, .int a1), (3, .int a2), (4, .int l4), (5, .int l5)] 90 [] := by
        intro v_t_lowest l5 hf
        unfold f_M_begin_90 at hf
        refine go_aload_n C d_M_begin_90 rfl 0 rfl (n := 91) rfl ?_
        refine go_get C d_M_begin_91 fl_M_47 0 rfl rfl (n := 94) rfl ?_
        refine go_iload C d_M_begin_94 4 rfl (n := 96) rfl ?_
        refine go_aload_n C d_M_begin_96 rfl 0 rfl (n := 97) rfl ?_
        refine go_get C d_M_begin_97 fl_M_29 0 rfl rfl (n := 100) rfl ?_
        refine go_bipush C (v := 24) d_M_begin_100 rfl (n := 102) rfl ?_
        refine go_iload_n C d_M_begin_102 rfl 1 rfl (n := 103) rfl ?_
        refine go_imul C d_M_begin_103 (n := 104) rfl ?_
        refine go_iload C d_M_begin_104 5 rfl (n := 106) rfl ?_
        refine go_iadd C d_M_begin_106 (n := 107) rfl ?_
        obtain ⟨hg107, hf⟩ := guardS hf
        refine go_iald C d_M_begin_107 7 rfl hg107 (n := 108) rfl ?_
        refine go_aload_n C d_M_begin_108 rfl 0 rfl (n := 109) rfl ?_
        refine go_get C d_M_begin_109 fl_M_47 0 rfl rfl (n := 112) rfl ?_
        refine go_iload C d_M_begin_112 4 rfl (n := 114) rfl ?_
        obtain ⟨hg114, hf⟩ := guardS hf
        refine go_iald C d_M_begin_114 13 rfl hg114 (n := 115) rfl ?_
        have hi115 := iteS hf
        refine go_icmp_ge C d_M_begin_115 (tgt := 133) (by decide) (n := 118) rfl (fun h115 => ?_) (fun h115 => ?_)
        · have hf := hi115.1 h115
          refine go_aload_n C d_M_begin_133 rfl 0 rfl (n := 134) rfl ?_
          refine go_get C d_M_begin_134 fl_M_47 0 rfl rfl (n := 137) rfl ?_
          refine go_iload C d_M_begin_137 4 rfl (n := 139) rfl ?_
          obtain ⟨hg139, hf⟩ := guardS hf
          refine go_iald C d_M_begin_139 13 rfl hg139 (n := 140) rfl ?_
          exact K140 v_t_lowest l5 (v_t_lowest l4.toNatClampNeg) l4 hf
        · have hf := hi115.2 h115
          refine go_aload_n C d_M_begin_118 rfl 0 rfl (n := 119) rfl ?_
          refine go_get C d_M_begin_119 fl_M_29 0 rfl rfl (n := 122) rfl ?_
          refine go_bipush C (v := 24) d_M_begin_122 rfl (n := 124) rfl ?_
          refine go_iload_n C d_M_begin_124 rfl 1 rfl (n := 125) rfl ?_
          refine go_imul C d_M_begin_125 (n := 126) rfl ?_
          refine go_iload C d_M_begin_126 5 rfl (n := 128) rfl ?_
          refine go_iadd C d_M_begin_128 (n := 129) rfl ?_
          obtain ⟨hg129, hf⟩ := guardS hf
          refine go_iald C d_M_begin_129 7 rfl hg129 (n := 130) rfl ?_
          refine go_goto C d_M_begin_130 (tgt := 140) (by decide) ?_
          exact K140 v_t_lowest l5 (t_costs (((24 : Int32) * a0) + l5).toNatClampNeg) l4 hf
      unfold f_M_begin_45b at hf
      refine go_iload C d_M_begin_45 5 rfl (n := 47) rfl ?_
      refine go_aload_n C d_M_begin_47 rfl 0 rfl (n := 48) rfl ?_
      refine go_get C d_M_begin_48 fl_M_20 0 rfl rfl (n := 51) rfl ?_
      refine go_iload_n C d_M_begin_51 rfl 1 rfl (n := 52) rfl ?_
      obtain ⟨hg52, hf⟩ := guardS hf
      refine go_iald C d_M_begin_52 4 rfl hg52 (n := 53) rfl ?_
      have hi53 := iteS hf
      refine go_icmp_ge C d_M_begin_53 (tgt := 147) (by decide) (n := 56) rfl (fun h53 => ?_) (fun h53 => ?_)
      · have hf := hi53.1 h53
        cases hf
        exact hE
      · have hf := hi53.2 h53
        refine go_iload_n C d_M_begin_56 rfl 3 rfl (n := 57) rfl ?_
        have hi57 := iteS hf
        refine go_if_eq C d_M_begin_57 (tgt := 90) (by decide) (n := 60) rfl (fun h57 => ?_) (fun h57 => ?_)
        · have hf := hi57.1 h57
          exact K90 v_t_lowest l5 hf
        · have hf := hi57.2 h57
          refine go_aload_n C d_M_begin_60 rfl 0 rfl (n := 61) rfl ?_
          refine go_get C d_M_begin_61 fl_M_26 0 rfl rfl (n := 64) rfl ?_
          refine go_bipush C (v := 24) d_M_begin_64 rfl (n := 66) rfl ?_
          refine go_iload_n C d_M_begin_66 rfl 1 rfl (n := 67) rfl ?_
          refine go_imul C d_M_begin_67 (n := 68) rfl ?_
          refine go_iload C d_M_begin_68 5 rfl (n := 70) rfl ?_
          refine go_iadd C d_M_begin_70 (n := 71) rfl ?_
          obtain ⟨hg71, hf⟩ := guardS hf
          refine go_lald C d_M_begin_71 6 rfl hg71 (n := 72) rfl ?_
          refine go_aload_n C d_M_begin_72 rfl 0 rfl (n := 73) rfl ?_
          refine go_get C d_M_begin_73 fl_M_26 0 rfl rfl (n := 76) rfl ?_
          refine go_bipush C (v := 24) d_M_begin_76 rfl (n := 78) rfl ?_
          refine go_iload_n C d_M_begin_78 rfl 1 rfl (n := 79) rfl ?_
          refine go_imul C d_M_begin_79 (n := 80) rfl ?_
          refine go_iload_n C d_M_begin_80 rfl 2 rfl (n := 81) rfl ?_
          refine go_iadd C d_M_begin_81 (n := 82) rfl ?_
          obtain ⟨hg82, hf⟩ := guardS hf
          refine go_lald C d_M_begin_82 6 rfl hg82 (n := 83) rfl ?_
          obtain ⟨o83, ho83, hf⟩ := bindS hf
          refine go_callP C (As := [.long (t_words (((24 : Int32) * a0) + l5).toNatClampNeg), .long (t_words (((24 : Int32) * a0) + a1).toNatClampNeg)]) (rest := []) d_M_begin_83 (c_M_common l D tc (t_words (((24 : Int32) * a0) + l5).toNatClampNeg) (t_words (((24 : Int32) * a0) + a1).toNatClampNeg) ho83 (fun r w => r = some (.int o83) ∧ w = []) ⟨rfl, rfl⟩) lk_M_142 mw_M_common ws_M_common rfl rfl ⟨(Nat.le_of_ble_eq_true rfl), (Nat.le_of_ble_eq_true rfl)⟩ rfl rfl (Nat.le_of_ble_eq_true rfl) ⟨(Nat.le_of_ble_eq_true rfl), (Nat.le_of_ble_eq_true rfl)⟩ (n := 86) rfl ?_
          rintro _ _ ⟨rfl, rfl⟩
          refine go_iload_n C d_M_begin_86 rfl 3 rfl (n := 87) rfl ?_
          have hi87 := iteS hf
          refine go_icmp_lt C d_M_begin_87 (tgt := 147) (by decide) (n := 90) rfl (fun h87 => ?_) (fun h87 => ?_)
          · have hf := hi87.1 h87
            cases hf
            exact hE
          · have hf := hi87.2 h87
            exact K90 v_t_lowest l5 hf
  have K167 : ∀ (v_t_beginnings : Int32) (v_t_from : Nat → Int32) (v_t_letters : Nat → Int32) (v_t_end : Nat → Int32) (v_t_lowest : Nat → Int32) (l4 : Int32) (l5 : Int32) (n : Nat) (v_t_key : Nat → Int64) (l6 : Int32) (x : ((Nat → Int64))), f_M_begin_167 t_size t_words t_costs a0 a1 a2 v_t_beginnings v_t_from v_t_letters v_t_end v_t_lowest l4 l5 n v_t_key l6 = some x → (Go p l e { frames := 3, cells := 0, slots := 0, locals := 69 } s m args below meth c (MQ below (Qs D A POST) args s 0 0 A) D A 9 0 0 [(qt, .inr (8, [.int t_thrown, .int t_drafted, .ref qt_draft, .ref qt_weight, .int t_there, .int t_made, .ref qt_number, .ref qt_size, .ref qt_readers, .ref qt_words, .ref qt_costs, .ref qt_states, .ref qt_arcs, .int v_t_beginnings, .ref qt_from, .ref qt_letters, .ref qt_end, .ref qt_lowest, .ref qt_key, .int t_givenSize, .ref qt_given, .ref qt_keys, .ref qt_table, .int t_pairs, .ref qt_first, .ref qt_second, .ref qt_learnt, .int t_said, .ref qt_phrase, .int t_answered, .ref qt_corrected, .ref qt_many, .ref qt_candidates, .ref qt_alone, .ref qt_choice])), (qt_draft, .inl (tc 1, 24, .inr (.inl t_draft))), (qt_weight, .inl (tc 0, 24, .inl t_weight)), (qt_number, .inl (tc 0, 3, .inl t_number)), (qt_size, .inl (tc 0, 3, .inl t_size)), (qt_readers, .inl (tc 0, 3, .inl t_readers)), (qt_words, .inl (tc 1, 72, .inr (.inl t_words))), (qt_costs, .inl (tc 0, 72, .inl t_costs)), (qt_states, .inl (tc 0, 3, .inl t_states)), (qt_arcs, .inl (tc 0, 3, .inl t_arcs)), (qt_from, .inl (tc 0, 216, .inl v_t_from)), (qt_letters, .inl (tc 0, 216, .inl v_t_letters)), (qt_end, .inl (tc 0, 216, .inl v_t_end)), (qt_lowest, .inl (tc 0, 216, .inl v_t_lowest)), (qt_key, .inl (tc 1, 216, .inr (.inl x))), (qt_given, .inl (tc 1, 24, .inr (.inl t_given))), (qt_keys, .inl (tc 0, 24, .inl t_keys)), (qt_table, .inl (tc 0, 81, .inl t_table)), (qt_first, .inl (tc 1, 40, .inr (.inl t_first))), (qt_second, .inl (tc 1, 40, .inr (.inl t_second))), (qt_learnt, .inl (tc 0, 40, .inl t_learnt)), (qt_phrase, .inl (tc 1, 4, .inr (.inl t_phrase))), (qt_corrected, .inl (tc 1, 4, .inr (.inl t_corrected))), (qt_many, .inl (tc 0, 4, .inl t_many)), (qt_candidates, .inl (tc 1, 96, .inr (.inl t_candidates))), (qt_alone, .inl (tc 0, 96, .inl t_alone)), (qt_choice, .inl (tc 0, 4, .inl t_choice))] [] 291 []) → Go p l e { frames := 3, cells := 0, slots := 0, locals := 69 } s m args below meth c (MQ below (Qs D A POST) args s 0 0 A) D A 9 0 0 [(qt, .inr (8, [.int t_thrown, .int t_drafted, .ref qt_draft, .ref qt_weight, .int t_there, .int t_made, .ref qt_number, .ref qt_size, .ref qt_readers, .ref qt_words, .ref qt_costs, .ref qt_states, .ref qt_arcs, .int v_t_beginnings, .ref qt_from, .ref qt_letters, .ref qt_end, .ref qt_lowest, .ref qt_key, .int t_givenSize, .ref qt_given, .ref qt_keys, .ref qt_table, .int t_pairs, .ref qt_first, .ref qt_second, .ref qt_learnt, .int t_said, .ref qt_phrase, .int t_answered, .ref qt_corrected, .ref qt_many, .ref qt_candidates, .ref qt_alone, .ref qt_choice])), (qt_draft, .inl (tc 1, 24, .inr (.inl t_draft))), (qt_weight, .inl (tc 0, 24, .inl t_weight)), (qt_number, .inl (tc 0, 3, .inl t_number)), (qt_size, .inl (tc 0, 3, .inl t_size)), (qt_readers, .inl (tc 0, 3, .inl t_readers)), (qt_words, .inl (tc 1, 72, .inr (.inl t_words))), (qt_costs, .inl (tc 0, 72, .inl t_costs)), (qt_states, .inl (tc 0, 3, .inl t_states)), (qt_arcs, .inl (tc 0, 3, .inl t_arcs)), (qt_from, .inl (tc 0, 216, .inl v_t_from)), (qt_letters, .inl (tc 0, 216, .inl v_t_letters)), (qt_end, .inl (tc 0, 216, .inl v_t_end)), (qt_lowest, .inl (tc 0, 216, .inl v_t_lowest)), (qt_key, .inl (tc 1, 216, .inr (.inl v_t_key))), (qt_given, .inl (tc 1, 24, .inr (.inl t_given))), (qt_keys, .inl (tc 0, 24, .inl t_keys)), (qt_table, .inl (tc 0, 81, .inl t_table)), (qt_first, .inl (tc 1, 40, .inr (.inl t_first))), (qt_second, .inl (tc 1, 40, .inr (.inl t_second))), (qt_learnt, .inl (tc 0, 40, .inl t_learnt)), (qt_phrase, .inl (tc 1, 4, .inr (.inl t_phrase))), (qt_corrected, .inl (tc 1, 4, .inr (.inl t_corrected))), (qt_many, .inl (tc 0, 4, .inl t_many)), (qt_candidates, .inl (tc 1, 96, .inr (.inl t_candidates))), (qt_alone, .inl (tc 0, 96, .inl t_alone)), (qt_choice, .inl (tc 0, 4, .inl t_choice))] [(0, .ref qt), (1, .int a0), (3, .int a2), (4, .int l4), (5, .int l5), (6, .int l6)] 167 [] := by
    intro v_t_beginnings v_t_from v_t_letters v_t_end v_t_lowest l4 l5 n
    induction n with
    | zero =>
      intro v_t_key l6 x hf hE
      simp [f_M_begin_167] at hf
    | succ n ih =>
      intro v_t_key l6 x hf hE
      have hf : f_M_begin_167b t_size t_words t_costs a0 a1 a2 v_t_beginnings v_t_from v_t_letters v_t_end v_t_lowest l4 l5 (f_M_begin_167 t_size t_words t_costs a0 a1 a2 v_t_beginnings v_t_from v_t_letters v_t_end v_t_lowest l4 l5 n) v_t_key l6 = some x := hf
      have K235 : ∀ (v_t_beginnings : Int32) (v_t_from : Nat → Int32) (v_t_letters : Nat → Int32) (v_t_end : Nat → Int32) (v_t_lowest : Nat → Int32) (l4 : Int32) (l5 : Int32) (l6 : Int32) (l7 : Int32) (n : Nat) (v_t_key : Nat → Int64) (l8 : Int32) (x : ((Nat → Int64))), f_M_begin_235 t_size t_words t_costs a0 a1 a2 v_t_beginnings v_t_from v_t_letters v_t_end v_t_lowest l4 l5 l6 l7 n v_t_key l8 = some x → (Go p l e { frames := 3, cells := 0, slots := 0, locals := 69 } s m args below meth c (MQ below (Qs D A POST) args s 0 0 A) D A 9 0 0 [(qt, .inr (8, [.int t_thrown, .int t_drafted, .ref qt_draft, .ref qt_weight, .int t_there, .int t_made, .ref qt_number, .ref qt_size, .ref qt_readers, .ref qt_words, .ref qt_costs, .ref qt_states, .ref qt_arcs, .int v_t_beginnings, .ref qt_from, .ref qt_letters, .ref qt_end, .ref qt_lowest, .ref qt_key, .int t_givenSize, .ref qt_given, .ref qt_keys, .ref qt_table, .int t_pairs, .ref qt_first, .ref qt_second, .ref qt_learnt, .int t_said, .ref qt_phrase, .int t_answered, .ref qt_corrected, .ref qt_many, .ref qt_candidates, .ref qt_alone, .ref qt_choice])), (qt_draft, .inl (tc 1, 24, .inr (.inl t_draft))), (qt_weight, .inl (tc 0, 24, .inl t_weight)), (qt_number, .inl (tc 0, 3, .inl t_number)), (qt_size, .inl (tc 0, 3, .inl t_size)), (qt_readers, .inl (tc 0, 3, .inl t_readers)), (qt_words, .inl (tc 1, 72, .inr (.inl t_words))), (qt_costs, .inl (tc 0, 72, .inl t_costs)), (qt_states, .inl (tc 0, 3, .inl t_states)), (qt_arcs, .inl (tc 0, 3, .inl t_arcs)), (qt_from, .inl (tc 0, 216, .inl v_t_from)), (qt_letters, .inl (tc 0, 216, .inl v_t_letters)), (qt_end, .inl (tc 0, 216, .inl v_t_end)), (qt_lowest, .inl (tc 0, 216, .inl v_t_lowest)), (qt_key, .inl (tc 1, 216, .inr (.inl x))), (qt_given, .inl (tc 1, 24, .inr (.inl t_given))), (qt_keys, .inl (tc 0, 24, .inl t_keys)), (qt_table, .inl (tc 0, 81, .inl t_table)), (qt_first, .inl (tc 1, 40, .inr (.inl t_first))), (qt_second, .inl (tc 1, 40, .inr (.inl t_second))), (qt_learnt, .inl (tc 0, 40, .inl t_learnt)), (qt_phrase, .inl (tc 1, 4, .inr (.inl t_phrase))), (qt_corrected, .inl (tc 1, 4, .inr (.inl t_corrected))), (qt_many, .inl (tc 0, 4, .inl t_many)), (qt_candidates, .inl (tc 1, 96, .inr (.inl t_candidates))), (qt_alone, .inl (tc 0, 96, .inl t_alone)), (qt_choice, .inl (tc 0, 4, .inl t_choice))] [(0, .ref qt), (1, .int a0), (3, .int a2), (4, .int l4), (5, .int l5), (6, .int l6)] 285 []) → Go p l e { frames := 3, cells := 0, slots := 0, locals := 69 } s m args below meth c (MQ below (Qs D A POST) args s 0 0 A) D A 9 0 0 [(qt, .inr (8, [.int t_thrown, .int t_drafted, .ref qt_draft, .ref qt_weight, .int t_there, .int t_made, .ref qt_number, .ref qt_size, .ref qt_readers, .ref qt_words, .ref qt_costs, .ref qt_states, .ref qt_arcs, .int v_t_beginnings, .ref qt_from, .ref qt_letters, .ref qt_end, .ref qt_lowest, .ref qt_key, .int t_givenSize, .ref qt_given, .ref qt_keys, .ref qt_table, .int t_pairs, .ref qt_first, .ref qt_second, .ref qt_learnt, .int t_said, .ref qt_phrase, .int t_answered, .ref qt_corrected, .ref qt_many, .ref qt_candidates, .ref qt_alone, .ref qt_choice])), (qt_draft, .inl (tc 1, 24, .inr (.inl t_draft))), (qt_weight, .inl (tc 0, 24, .inl t_weight)), (qt_number, .inl (tc 0, 3, .inl t_number)), (qt_size, .inl (tc 0, 3, .inl t_size)), (qt_readers, .inl (tc 0, 3, .inl t_readers)), (qt_words, .inl (tc 1, 72, .inr (.inl t_words))), (qt_costs, .inl (tc 0, 72, .inl t_costs)), (qt_states, .inl (tc 0, 3, .inl t_states)), (qt_arcs, .inl (tc 0, 3, .inl t_arcs)), (qt_from, .inl (tc 0, 216, .inl v_t_from)), (qt_letters, .inl (tc 0, 216, .inl v_t_letters)), (qt_end, .inl (tc 0, 216, .inl v_t_end)), (qt_lowest, .inl (tc 0, 216, .inl v_t_lowest)), (qt_key, .inl (tc 1, 216, .inr (.inl v_t_key))), (qt_given, .inl (tc 1, 24, .inr (.inl t_given))), (qt_keys, .inl (tc 0, 24, .inl t_keys)), (qt_table, .inl (tc 0, 81, .inl t_table)), (qt_first, .inl (tc 1, 40, .inr (.inl t_first))), (qt_second, .inl (tc 1, 40, .inr (.inl t_second))), (qt_learnt, .inl (tc 0, 40, .inl t_learnt)), (qt_phrase, .inl (tc 1, 4, .inr (.inl t_phrase))), (qt_corrected, .inl (tc 1, 4, .inr (.inl t_corrected))), (qt_many, .inl (tc 0, 4, .inl t_many)), (qt_candidates, .inl (tc 1, 96, .inr (.inl t_candidates))), (qt_alone, .inl (tc 0, 96, .inl t_alone)), (qt_choice, .inl (tc 0, 4, .inl t_choice))] [(0, .ref qt), (1, .int a0), (3, .int a2), (4, .int l4), (5, .int l5), (6, .int l6), (7, .int l7), (8, .int l8)] 235 [] := by
        intro v_t_beginnings v_t_from v_t_letters v_t_end v_t_lowest l4 l5 l6 l7 n
        induction n with
        | zero =>
          intro v_t_key l8 x hf hE
          simp [f_M_begin_235] at hf
        | succ n ih =>
          intro v_t_key l8 x hf hE
          have hf : f_M_begin_235b t_size t_words t_costs a0 a1 a2 v_t_beginnings v_t_from v_t_letters v_t_end v_t_lowest l4 l5 l6 l7 (f_M_begin_235 t_size t_words t_costs a0 a1 a2 v_t_beginnings v_t_from v_t_letters v_t_end v_t_lowest l4 l5 l6 l7 n) v_t_key l8 = some x := hf
          unfold f_M_begin_235b at hf
          refine go_iload C d_M_begin_235 7 rfl (n := 237) rfl ?_
          refine go_iload C d_M_begin_237 6 rfl (n := 239) rfl ?_
          have hi239 := iteS hf
          refine go_icmp_ge C d_M_begin_239 (tgt := 285) (by decide) (n := 242) rfl (fun h239 => ?_) (fun h239 => ?_)
          · have hf := hi239.1 h239
            refine go_lv (lv' := [(0, .ref qt), (1, .int a0), (3, .int a2), (4, .int l4), (5, .int l5), (6, .int l6)]) [0, 1, 2, 3, 4, 5] rfl ?_
            cases hf
            exact hE
          · have hf := hi239.2 h239
            refine go_aload_n C d_M_begin_242 rfl 0 rfl (n := 243) rfl ?_
            refine go_get C d_M_begin_243 fl_M_50 0 rfl rfl (n := 246) rfl ?_
            refine go_iload C d_M_begin_246 3 rfl (n := 248) rfl ?_
            refine go_ldc2 C d_M_begin_248 wk_M_148 (n := 251) rfl ?_
            refine go_aload_n C d_M_begin_251 rfl 0 rfl (n := 252) rfl ?_
            refine go_get C d_M_begin_252 fl_M_50 0 rfl rfl (n := 255) rfl ?_
            refine go_iload C d_M_begin_255 3 rfl (n := 257) rfl ?_
            obtain ⟨hg257, hf⟩ := guardS hf
            refine go_lald C d_M_begin_257 14 rfl hg257 (n := 258) rfl ?_
            refine go_lmul C d_M_begin_258 (n := 259) rfl ?_
            refine go_aload_n C d_M_begin_259 rfl 0 rfl (n := 260) rfl ?_
            refine go_get C d_M_begin_260 fl_M_26 0 rfl rfl (n := 263) rfl ?_
            refine go_bipush C (v := 24) d_M_begin_263 rfl (n := 265) rfl ?_
            refine go_iload_n C d_M_begin_265 rfl 1 rfl (n := 266) rfl ?_
            refine go_imul C d_M_begin_266 (n := 267) rfl ?_
            refine go_iload C d_M_begin_267 5 rfl (n := 269) rfl ?_
            refine go_iadd C d_M_begin_269 (n := 270) rfl ?_
            obtain ⟨hg270, hf⟩ := guardS hf
            refine go_lald C d_M_begin_270 6 rfl hg270 (n := 271) rfl ?_
            refine go_iload C d_M_begin_271 7 rfl (n := 273) rfl ?_
            obtain ⟨o273, ho273, hf⟩ := bindS hf
            refine go_callP C (As := [.long (t_words (((24 : Int32) * a0) + l6).toNatClampNeg), .int l8]) (rest := [.long ((131 : Int64) * (v_t_key l4.toNatClampNeg)), .int l4, .ref qt_key]) d_M_begin_273 (c_M_at l D tc (t_words (((24 : Int32) * a0) + l6).toNatClampNeg) l8 ho273 (fun r w => r = some (.int o273) ∧ w = []) ⟨rfl, rfl⟩) lk_M_107 mw_M_at ws_M_at rfl rfl ⟨(Nat.le_of_ble_eq_true rfl), (Nat.le_of_ble_eq_true rfl)⟩ rfl rfl (Nat.le_of_ble_eq_true rfl) ⟨(Nat.le_of_ble_eq_true rfl), (Nat.le_of_ble_eq_true rfl)⟩ (n := 276) rfl ?_
            rintro _ _ ⟨rfl, rfl⟩
            refine go_i2l C d_M_begin_276 (n := 277) rfl ?_
            refine go_ladd C d_M_begin_277 (n := 278) rfl ?_
            obtain ⟨hg278, hf⟩ := guardS hf
            refine go_last C d_M_begin_278 14 rfl hg278 (n := 279) rfl ?_
            refine go_iinc C d_M_begin_279 7 rfl (v := l8 + (1 : Int32)) rfl (lv' := [(8, .int (l8 + (1 : Int32))), (0, .ref qt), (1, .int a0), (3, .int a2), (4, .int l4), (5, .int l5), (6, .int l6), (7, .int l7)]) (by decide) rfl (n := 282) rfl ?_
            refine go_goto C d_M_begin_282 (tgt := 235) (by decide) ?_
            refine go_lv (lv' := [(0, .ref qt), (1, .int a0), (3, .int a2), (4, .int l4), (5, .int l5), (6, .int l6), (7, .int l7), (8, .int (l8 + (1 : Int32)))]) [1, 2, 3, 4, 5, 6, 7, 0] rfl ?_
            exact ih (vp_updL v_t_key l4.toNatClampNeg (((131 : Int64) * (v_t_key l4.toNatClampNeg)) + o273.toInt64)) (l8 + (1 : Int32)) x hf hE
      unfold f_M_begin_167b at hf
      refine go_iload C d_M_begin_167 5 rfl (n := 169) rfl ?_
      refine go_iload C d_M_begin_169 4 rfl (n := 171) rfl ?_
      have hi171 := iteS hf
      refine go_icmp_ge C d_M_begin_171 (tgt := 291) (by decide) (n := 174) rfl (fun h171 => ?_) (fun h171 => ?_)
      · have hf := hi171.1 h171
        refine go_lv (lv' := []) [] rfl ?_
        cases hf
        exact hE
      · have hf := hi171.2 h171
        refine go_aload_n C d_M_begin_174 rfl 0 rfl (n := 175) rfl ?_
        refine go_get C d_M_begin_175 fl_M_50 0 rfl rfl (n := 178) rfl ?_
        refine go_iload C d_M_begin_178 3 rfl (n := 180) rfl ?_
        refine go_ldc2 C d_M_begin_180 wk_M_146 (n := 183) rfl ?_
        refine go_aload_n C d_M_begin_183 rfl 0 rfl (n := 184) rfl ?_
        refine go_get C d_M_begin_184 fl_M_50 0 rfl rfl (n := 187) rfl ?_
        refine go_iload C d_M_begin_187 3 rfl (n := 189) rfl ?_
        obtain ⟨hg189, hf⟩ := guardS hf
        refine go_lald C d_M_begin_189 14 rfl hg189 (n := 190) rfl ?_
        refine go_lmul C d_M_begin_190 (n := 191) rfl ?_
        refine go_aload_n C d_M_begin_191 rfl 0 rfl (n := 192) rfl ?_
        refine go_get C d_M_begin_192 fl_M_29 0 rfl rfl (n := 195) rfl ?_
        refine go_bipush C (v := 24) d_M_begin_195 rfl (n := 197) rfl ?_
        refine go_iload_n C d_M_begin_197 rfl 1 rfl (n := 198) rfl ?_
        refine go_imul C d_M_begin_198 (n := 199) rfl ?_
        refine go_iload C d_M_begin_199 5 rfl (n := 201) rfl ?_
        refine go_iadd C d_M_begin_201 (n := 202) rfl ?_
        obtain ⟨hg202, hf⟩ := guardS hf
        refine go_iald C d_M_begin_202 7 rfl hg202 (n := 203) rfl ?_
        refine go_i2l C d_M_begin_203 (n := 204) rfl ?_
        refine go_ladd C d_M_begin_204 (n := 205) rfl ?_
        refine go_aload_n C d_M_begin_205 rfl 0 rfl (n := 206) rfl ?_
        refine go_get C d_M_begin_206 fl_M_47 0 rfl rfl (n := 209) rfl ?_
        refine go_iload C d_M_begin_209 3 rfl (n := 211) rfl ?_
        obtain ⟨hg211, hf⟩ := guardS hf
        refine go_iald C d_M_begin_211 13 rfl hg211 (n := 212) rfl ?_
        refine go_i2l C d_M_begin_212 (n := 213) rfl ?_
        refine go_lsub C d_M_begin_213 (n := 214) rfl ?_
        obtain ⟨hg214, hf⟩ := guardS hf
        refine go_last C d_M_begin_214 14 rfl hg214 (n := 215) rfl ?_
        refine go_aload_n C d_M_begin_215 rfl 0 rfl (n := 216) rfl ?_
        refine go_get C d_M_begin_216 fl_M_26 0 rfl rfl (n := 219) rfl ?_
        refine go_bipush C (v := 24) d_M_begin_219 rfl (n := 221) rfl ?_
        refine go_iload_n C d_M_begin_221 rfl 1 rfl (n := 222) rfl ?_
        refine go_imul C d_M_begin_222 (n := 223) rfl ?_
        refine go_iload C d_M_begin_223 5 rfl (n := 225) rfl ?_
        refine go_iadd C d_M_begin_225 (n := 226) rfl ?_
        obtain ⟨hg226, hf⟩ := guardS hf
        refine go_lald C d_M_begin_226 6 rfl hg226 (n := 227) rfl ?_
        obtain ⟨o227, ho227, hf⟩ := bindS hf
        refine go_callP C (As := [.long (t_words (((24 : Int32) * a0) + l6).toNatClampNeg)]) (rest := []) d_M_begin_227 (c_M_lettersOf l D tc (t_words (((24 : Int32) * a0) + l6).toNatClampNeg) ho227 (fun r w => r = some (.int o227) ∧ w = []) ⟨rfl, rfl⟩) lk_M_93 mw_M_lettersOf ws_M_lettersOf rfl rfl ⟨(Nat.le_of_ble_eq_true rfl), (Nat.le_of_ble_eq_true rfl)⟩ rfl rfl (Nat.le_of_ble_eq_true rfl) ⟨(Nat.le_of_ble_eq_true rfl), (Nat.le_of_ble_eq_true rfl)⟩ (n := 230) rfl ?_
        rintro _ _ ⟨rfl, rfl⟩
        refine go_istore C d_M_begin_230 (lv' := [(7, .int o227), (0, .ref qt), (1, .int a0), (3, .int a2), (4, .int l4), (5, .int l5), (6, .int l6)]) (by decide) rfl (n := 232) rfl ?_
        refine go_iload_n C d_M_begin_232 rfl 3 rfl (n := 233) rfl ?_
        refine go_istore C d_M_begin_233 (lv' := [(8, .int a2), (7, .int o227), (0, .ref qt), (1, .int a0), (3, .int a2), (4, .int l4), (5, .int l5), (6, .int l6)]) (by decide) rfl (n := 235) rfl ?_
        refine go_lv (lv' := [(0, .ref qt), (1, .int a0), (3, .int a2), (4, .int l4), (5, .int l5), (6, .int l6), (7, .int o227), (8, .int a2)]) [2, 3, 4, 5, 6, 7, 1, 0] rfl ?_
        obtain ⟨x235, hx235, hf⟩ := bindS hf
        refine K235 v_t_beginnings v_t_from v_t_letters v_t_end v_t_lowest l4 l5 l6 o227 FU (vp_updL v_t_key l4.toNatClampNeg ((((31 : Int64) * (v_t_key l4.toNatClampNeg)) + ((t_costs (((24 : Int32) * a0) + l6).toNatClampNeg).toInt64)) - ((v_t_lowest l4.toNatClampNeg).toInt64))) a2 x235 hx235 ?_
        refine go_iinc C d_M_begin_285 5 rfl (v := l6 + (1 : Int32)) rfl (lv' := [(6, .int (l6 + (1 : Int32))), (0, .ref qt), (1, .int a0), (3, .int a2), (4, .int l4), (5, .int l5)]) (by decide) rfl (n := 288) rfl ?_
        refine go_goto C d_M_begin_288 (tgt := 167) (by decide) ?_
        refine go_lv (lv' := [(0, .ref qt), (1, .int a0), (3, .int a2), (4, .int l4), (5, .int l5), (6, .int (l6 + (1 : Int32)))]) [1, 2, 3, 4, 5, 0] rfl ?_
        exact ih x235 (l6 + (1 : Int32)) x hf hE
  have K147 : ∀ (v_t_beginnings : Int32) (v_t_from : Nat → Int32) (v_t_letters : Nat → Int32) (v_t_end : Nat → Int32) (v_t_lowest : Nat → Int32) (v_t_key : Nat → Int64) (l4 : Int32) (l5 : Int32), f_M_begin_147 t_size t_words t_costs a0 a1 a2 v_t_beginnings v_t_from v_t_letters v_t_end v_t_lowest v_t_key l4 l5 = some o → Go p l e { frames := 3, cells := 0, slots := 0, locals := 69 } s m args below meth c (MQ below (Qs D A POST) args s 0 0 A) D A 9 0 0 [(qt, .inr (8, [.int t_thrown, .int t_drafted, .ref qt_draft, .ref qt_weight, .int t_there, .int t_made, .ref qt_number, .ref qt_size, .ref qt_readers, .ref qt_words, .ref qt_costs, .ref qt_states, .ref qt_arcs, .int v_t_beginnings, .ref qt_from, .ref qt_letters, .ref qt_end, .ref qt_lowest, .ref qt_key, .int t_givenSize, .ref qt_given, .ref qt_keys, .ref qt_table, .int t_pairs, .ref qt_first, .ref qt_second, .ref qt_learnt, .int t_said, .ref qt_phrase, .int t_answered, .ref qt_corrected, .ref qt_many, .ref qt_candidates, .ref qt_alone, .ref qt_choice])), (qt_draft, .inl (tc 1, 24, .inr (.inl t_draft))), (qt_weight, .inl (tc 0, 24, .inl t_weight)), (qt_number, .inl (tc 0, 3, .inl t_number)), (qt_size, .inl (tc 0, 3, .inl t_size)), (qt_readers, .inl (tc 0, 3, .inl t_readers)), (qt_words, .inl (tc 1, 72, .inr (.inl t_words))), (qt_costs, .inl (tc 0, 72, .inl t_costs)), (qt_states, .inl (tc 0, 3, .inl t_states)), (qt_arcs, .inl (tc 0, 3, .inl t_arcs)), (qt_from, .inl (tc 0, 216, .inl v_t_from)), (qt_letters, .inl (tc 0, 216, .inl v_t_letters)), (qt_end, .inl (tc 0, 216, .inl v_t_end)), (qt_lowest, .inl (tc 0, 216, .inl v_t_lowest)), (qt_key, .inl (tc 1, 216, .inr (.inl v_t_key))), (qt_given, .inl (tc 1, 24, .inr (.inl t_given))), (qt_keys, .inl (tc 0, 24, .inl t_keys)), (qt_table, .inl (tc 0, 81, .inl t_table)), (qt_first, .inl (tc 1, 40, .inr (.inl t_first))), (qt_second, .inl (tc 1, 40, .inr (.inl t_second))), (qt_learnt, .inl (tc 0, 40, .inl t_learnt)), (qt_phrase, .inl (tc 1, 4, .inr (.inl t_phrase))), (qt_corrected, .inl (tc 1, 4, .inr (.inl t_corrected))), (qt_many, .inl (tc 0, 4, .inl t_many)), (qt_candidates, .inl (tc 1, 96, .inr (.inl t_candidates))), (qt_alone, .inl (tc 0, 96, .inl t_alone)), (qt_choice, .inl (tc 0, 4, .inl t_choice))] [(0, .ref qt), (1, .int a0), (2, .int a1), (3, .int a2), (4, .int l4), (5, .int l5)] 147 [] := by
    intro v_t_beginnings v_t_from v_t_letters v_t_end v_t_lowest v_t_key l4 l5 hf
    unfold f_M_begin_147 at hf
    refine go_aload_n C d_M_begin_147 rfl 0 rfl (n := 148) rfl ?_
    refine go_get C d_M_begin_148 fl_M_44 0 rfl rfl (n := 151) rfl ?_
    refine go_iload C d_M_begin_151 4 rfl (n := 153) rfl ?_
    refine go_iload C d_M_begin_153 5 rfl (n := 155) rfl ?_
    obtain ⟨hg155, hf⟩ := guardS hf
    refine go_iast C d_M_begin_155 12 rfl hg155 (n := 156) rfl ?_
    refine go_aload_n C d_M_begin_156 rfl 0 rfl (n := 157) rfl ?_
    refine go_get C d_M_begin_157 fl_M_50 0 rfl rfl (n := 160) rfl ?_
    refine go_iload C d_M_begin_160 4 rfl (n := 162) rfl ?_
    refine go_lconst C (v := 0) d_M_begin_162 rfl (n := 163) rfl ?_
    obtain ⟨hg163, hf⟩ := guardS hf
    refine go_last C d_M_begin_163 14 rfl hg163 (n := 164) rfl ?_
    refine go_iload_n C d_M_begin_164 rfl 2 rfl (n := 165) rfl ?_
    refine go_istore C d_M_begin_165 (lv' := [(6, .int a1), (0, .ref qt), (1, .int a0), (2, .int a1), (3, .int a2), (4, .int l4), (5, .int l5)]) (by decide) rfl (n := 167) rfl ?_
    refine go_lv (lv' := [(0, .ref qt), (1, .int a0), (3, .int a2), (4, .int l4), (5, .int l5), (6, .int a1)]) [1, 2, 4, 5, 6, 0] rfl ?_
    obtain ⟨x167, hx167, hf⟩ := bindS hf
    refine K167 v_t_beginnings v_t_from v_t_letters (upd v_t_end l4.toNatClampNeg l5) v_t_lowest l4 l5 FU (vp_updL v_t_key l4.toNatClampNeg (0 : Int64)) a1 x167 hx167 ?_
    cases hf
    exact go_vret C d_M_begin_291 hr hPOST
  unfold f_M_begin at hf
  refine go_aload_n C d_M_begin_0 rfl 0 rfl (n := 1) rfl ?_
  refine go_get C d_M_begin_1 fl_M_139 0 rfl rfl (n := 4) rfl ?_
  refine go_istore C d_M_begin_4 (lv' := [(4, .int t_beginnings), (0, .ref qt), (1, .int a0), (2, .int a1), (3, .int a2)]) (by decide) rfl (n := 6) rfl ?_
  refine go_aload_n C d_M_begin_6 rfl 1 rfl (n := 7) rfl ?_
  refine go_dup C d_M_begin_7 rfl (n := 8) rfl ?_
  refine go_get C d_M_begin_8 fl_M_139 0 rfl rfl (n := 11) rfl ?_
  refine go_iconst C (v := 1) d_M_begin_11 rfl (n := 12) rfl ?_
  refine go_iadd C d_M_begin_12 (n := 13) rfl ?_
  refine go_put C d_M_begin_13 fl_M_139 (fs_M 13) rfl rfl rfl 0 rfl (Nat.le_of_ble_eq_true rfl) (n := 16) rfl ?_
  refine go_aload_n C d_M_begin_16 rfl 1 rfl (n := 17) rfl ?_
  refine go_get C d_M_begin_17 fl_M_38 0 rfl rfl (n := 20) rfl ?_
  refine go_iload C d_M_begin_20 0 rfl (n := 22) rfl ?_
  refine go_iload_n C d_M_begin_22 rfl 3 rfl (n := 23) rfl ?_
  obtain ⟨hg23, hf⟩ := guardS hf
  refine go_iast C d_M_begin_23 10 rfl hg23 (n := 24) rfl ?_
  refine go_aload_n C d_M_begin_24 rfl 1 rfl (n := 25) rfl ?_
  refine go_get C d_M_begin_25 fl_M_41 0 rfl rfl (n := 28) rfl ?_
  refine go_iload C d_M_begin_28 0 rfl (n := 30) rfl ?_
  refine go_iload_n C d_M_begin_30 rfl 4 rfl (n := 31) rfl ?_
  obtain ⟨hg31, hf⟩ := guardS hf
  refine go_iast C d_M_begin_31 11 rfl hg31 (n := 32) rfl ?_
  refine go_iload_n C d_M_begin_32 rfl 3 rfl (n := 33) rfl ?_
  refine go_istore C d_M_begin_33 (lv' := [(5, .int a1), (4, .int t_beginnings), (0, .ref qt), (1, .int a0), (2, .int a1), (3, .int a2)]) (by decide) rfl (n := 35) rfl ?_
  refine go_aload_n C d_M_begin_35 rfl 2 rfl (n := 36) rfl ?_
  refine go_get C d_M_begin_36 fl_M_47 0 rfl rfl (n := 39) rfl ?_
  refine go_iload C d_M_begin_39 1 rfl (n := 41) rfl ?_
  refine go_sipush C (v := 10000) d_M_begin_41 rfl (n := 44) rfl ?_
  obtain ⟨hg44, hf⟩ := guardS hf
  refine go_iast C d_M_begin_44 13 rfl hg44 (n := 45) rfl ?_
  refine go_lv (lv' := [(0, .ref qt), (1, .int a0), (2, .int a1), (3, .int a2), (4, .int t_beginnings), (5, .int a1)]) [2, 3, 4, 5, 1, 0] rfl ?_
  obtain ⟨x45, hx45, hf⟩ := bindS hf
  refine K45 (t_beginnings + (1 : Int32)) (upd t_from t_beginnings.toNatClampNeg a1) (upd t_letters t_beginnings.toNatClampNeg a2) t_end t_key t_beginnings FU (upd t_lowest t_beginnings.toNatClampNeg (10000 : Int32)) a1 x45 hx45 ?_
  exact K147 (t_beginnings + (1 : Int32)) (upd t_from t_beginnings.toNatClampNeg a1) (upd t_letters t_beginnings.toNatClampNeg a2) t_end x45.1 t_key t_beginnings x45.2 hf
