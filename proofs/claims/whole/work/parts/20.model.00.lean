def f_M_thrown (t_thrown : Int32) : Option (Int32) :=
  some t_thrown
set_option maxRecDepth 100000 in
set_option maxHeartbeats 4000000 in
theorem c_M_thrown (l : Launch) (D : va_G) (tc : Nat → ClassId) (qt : Nat) (qt_draft : Nat) (qt_weight : Nat) (qt_number : Nat) (qt_size : Nat) (qt_readers : Nat) (qt_words : Nat) (qt_costs : Nat) (qt_states : Nat) (qt_arcs : Nat) (qt_from : Nat) (qt_letters : Nat) (qt_end : Nat) (qt_lowest : Nat) (qt_key : Nat) (qt_given : Nat) (qt_keys : Nat) (qt_table : Nat) (qt_first : Nat) (qt_second : Nat) (qt_learnt : Nat) (qt_phrase : Nat) (qt_corrected : Nat) (qt_many : Nat) (qt_candidates : Nat) (qt_alone : Nat) (qt_choice : Nat) (t_thrown : Int32) (t_drafted : Int32) (t_there : Int32) (t_made : Int32) (t_beginnings : Int32) (t_givenSize : Int32) (t_pairs : Int32) (t_said : Int32) (t_answered : Int32) (t_draft : Nat → Int64) (t_weight : Nat → Int32) (t_number : Nat → Int32) (t_size : Nat → Int32) (t_readers : Nat → Int32) (t_words : Nat → Int64) (t_costs : Nat → Int32) (t_states : Nat → Int32) (t_arcs : Nat → Int32) (t_from : Nat → Int32) (t_letters : Nat → Int32) (t_end : Nat → Int32) (t_lowest : Nat → Int32) (t_key : Nat → Int64) (t_given : Nat → Int64) (t_keys : Nat → Int32) (t_table : Nat → Int32) (t_first : Nat → Int64) (t_second : Nat → Int64) (t_learnt : Nat → Int32) (t_phrase : Nat → Int64) (t_corrected : Nat → Int64) (t_many : Nat → Int32) (t_candidates : Nat → Int64) (t_alone : Nat → Int32) (t_choice : Nat → Int32) {o : (Int32)} (hf : f_M_thrown t_thrown = some o) (POST : Option Value → va_W → Prop) (hPOST : POST (some (.int o)) [(qt, .inr (8, [.int t_thrown, .int t_drafted, .ref qt_draft, .ref qt_weight, .int t_there, .int t_made, .ref qt_number, .ref qt_size, .ref qt_readers, .ref qt_words, .ref qt_costs, .ref qt_states, .ref qt_arcs, .int t_beginnings, .ref qt_from, .ref qt_letters, .ref qt_end, .ref qt_lowest, .ref qt_key, .int t_givenSize, .ref qt_given, .ref qt_keys, .ref qt_table, .int t_pairs, .ref qt_first, .ref qt_second, .ref qt_learnt, .int t_said, .ref qt_phrase, .int t_answered, .ref qt_corrected, .ref qt_many, .ref qt_candidates, .ref qt_alone, .ref qt_choice])), (qt_draft, .inl (tc 1, 24, .inr (.inl t_draft))), (qt_weight, .inl (tc 0, 24, .inl t_weight)), (qt_number, .inl (tc 0, 3, .inl t_number)), (qt_size, .inl (tc 0, 3, .inl t_size)), (qt_readers, .inl (tc 0, 3, .inl t_readers)), (qt_words, .inl (tc 1, 72, .inr (.inl t_words))), (qt_costs, .inl (tc 0, 72, .inl t_costs)), (qt_states, .inl (tc 0, 3, .inl t_states)), (qt_arcs, .inl (tc 0, 3, .inl t_arcs)), (qt_from, .inl (tc 0, 216, .inl t_from)), (qt_letters, .inl (tc 0, 216, .inl t_letters)), (qt_end, .inl (tc 0, 216, .inl t_end)), (qt_lowest, .inl (tc 0, 216, .inl t_lowest)), (qt_key, .inl (tc 1, 216, .inr (.inl t_key))), (qt_given, .inl (tc 1, 24, .inr (.inl t_given))), (qt_keys, .inl (tc 0, 24, .inl t_keys)), (qt_table, .inl (tc 0, 81, .inl t_table)), (qt_first, .inl (tc 1, 40, .inr (.inl t_first))), (qt_second, .inl (tc 1, 40, .inr (.inl t_second))), (qt_learnt, .inl (tc 0, 40, .inl t_learnt)), (qt_phrase, .inl (tc 1, 4, .inr (.inl t_phrase))), (qt_corrected, .inl (tc 1, 4, .inr (.inl t_corrected))), (qt_many, .inl (tc 0, 4, .inl t_many)), (qt_candidates, .inl (tc 1, 96, .inr (.inl t_candidates))), (qt_alone, .inl (tc 0, 96, .inl t_alone)), (qt_choice, .inl (tc 0, 4, .inl t_choice))]) : Std l y_M_thrown (.code y_M_thrown b_M_thrown 1 (some .int)) { frames := 0, cells := 0, slots := 0, locals := 0 } D tc [.ref qt] [(qt, .inr (8, [.int t_thrown, .int t_drafted, .ref qt_draft, .ref qt_weight, .int t_there, .int t_made, .ref qt_number, .ref qt_size, .ref qt_readers, .ref qt_words, .ref qt_costs, .ref qt_states, .ref qt_arcs, .int t_beginnings, .ref qt_from, .ref qt_letters, .ref qt_end, .ref qt_lowest, .ref qt_key, .int t_givenSize, .ref qt_given, .ref qt_keys, .ref qt_table, .int t_pairs, .ref qt_first, .ref qt_second, .ref qt_learnt, .int t_said, .ref qt_phrase, .int t_answered, .ref qt_corrected, .ref qt_many, .ref qt_candidates, .ref qt_alone, .ref qt_choice])), (qt_draft, .inl (tc 1, 24, .inr (.inl t_draft))), (qt_weight, .inl (tc 0, 24, .inl t_weight)), (qt_number, .inl (tc 0, 3, .inl t_number)), (qt_size, .inl (tc 0, 3, .inl t_size)), (qt_readers, .inl (tc 0, 3, .inl t_readers)), (qt_words, .inl (tc 1, 72, .inr (.inl t_words))), (qt_costs, .inl (tc 0, 72, .inl t_costs)), (qt_states, .inl (tc 0, 3, .inl t_states)), (qt_arcs, .inl (tc 0, 3, .inl t_arcs)), (qt_from, .inl (tc 0, 216, .inl t_from)), (qt_letters, .inl (tc 0, 216, .inl t_letters)), (qt_end, .inl (tc 0, 216, .inl t_end)), (qt_lowest, .inl (tc 0, 216, .inl t_lowest)), (qt_key, .inl (tc 1, 216, .inr (.inl t_key))), (qt_given, .inl (tc 1, 24, .inr (.inl t_given))), (qt_keys, .inl (tc 0, 24, .inl t_keys)), (qt_table, .inl (tc 0, 81, .inl t_table)), (qt_first, .inl (tc 1, 40, .inr (.inl t_first))), (qt_second, .inl (tc 1, 40, .inr (.inl t_second))), (qt_learnt, .inl (tc 0, 40, .inl t_learnt)), (qt_phrase, .inl (tc 1, 4, .inr (.inl t_phrase))), (qt_corrected, .inl (tc 1, 4, .inr (.inl t_corrected))), (qt_many, .inl (tc 0, 4, .inl t_many)), (qt_candidates, .inl (tc 1, 96, .inr (.inl t_candidates))), (qt_alone, .inl (tc 0, 96, .inl t_alone)), (qt_choice, .inl (tc 0, 4, .inl t_choice))] 0 0 POST := by
  refine std_of (lv := [(0, .ref qt)]) (by decide) (Nat.le_of_ble_eq_true rfl) rfl (fun p e s m args below meth c A C hr hnm => ?_)
  unfold f_M_thrown at hf
  refine go_aload_n C d_M_thrown_0 rfl 0 rfl (n := 1) rfl ?_
  refine go_get C d_M_thrown_1 fl_M_89 0 rfl rfl (n := 4) rfl ?_
  cases hf
  exact go_iret C d_M_thrown_4 hr hPOST

def f_M_throwing_18 (a0 : Int32) (a1 : Int32) (v_t_thrown : Int32) (s0 : Int32) : Option (Int32 × Int32) :=
  if s0 ≤ 0 then some ((0 : Int32), s0) else some ((1 : Int32), s0)
def f_M_throwing (t_thrown : Int32) (a0 : Int32) (a1 : Int32) : Option (Int32 × Int32) :=
  if a0 = 0 then if a1 = 0 then f_M_throwing_18 a0 a1 t_thrown (0 : Int32) else f_M_throwing_18 a0 a1 t_thrown (2 : Int32) else f_M_throwing_18 a0 a1 t_thrown (1 : Int32)
set_option maxRecDepth 100000 in
set_option maxHeartbeats 4000000 in
theorem c_M_throwing (l : Launch) (D : va_G) (tc : Nat → ClassId) (qt : Nat) (qt_draft : Nat) (qt_weight : Nat) (qt_number : Nat) (qt_size : Nat) (qt_readers : Nat) (qt_words : Nat) (qt_costs : Nat) (qt_states : Nat) (qt_arcs : Nat) (qt_from : Nat) (qt_letters : Nat) (qt_end : Nat) (qt_lowest : Nat) (qt_key : Nat) (qt_given : Nat) (qt_keys : Nat) (qt_table : Nat) (qt_first : Nat) (qt_second : Nat) (qt_learnt : Nat) (qt_phrase : Nat) (qt_corrected : Nat) (qt_many : Nat) (qt_candidates : Nat) (qt_alone : Nat) (qt_choice : Nat) (t_thrown : Int32) (t_drafted : Int32) (t_there : Int32) (t_made : Int32) (t_beginnings : Int32) (t_givenSize : Int32) (t_pairs : Int32) (t_said : Int32) (t_answered : Int32) (t_draft : Nat → Int64) (t_weight : Nat → Int32) (t_number : Nat → Int32) (t_size : Nat → Int32) (t_readers : Nat → Int32) (t_words : Nat → Int64) (t_costs : Nat → Int32) (t_states : Nat → Int32) (t_arcs : Nat → Int32) (t_from : Nat → Int32) (t_letters : Nat → Int32) (t_end : Nat → Int32) (t_lowest : Nat → Int32) (t_key : Nat → Int64) (t_given : Nat → Int64) (t_keys : Nat → Int32) (t_table : Nat → Int32) (t_first : Nat → Int64) (t_second : Nat → Int64) (t_learnt : Nat → Int32) (t_phrase : Nat → Int64) (t_corrected : Nat → Int64) (t_many : Nat → Int32) (t_candidates : Nat → Int64) (t_alone : Nat → Int32) (t_choice : Nat → Int32) (a0 : Int32) (a1 : Int32) {o : (Int32 × Int32)} (hf : f_M_throwing t_thrown a0 a1 = some o) (POST : Option Value → va_W → Prop) (hPOST : POST (some (.int o.1)) [(qt, .inr (8, [.int o.2, .int t_drafted, .ref qt_draft, .ref qt_weight, .int t_there, .int t_made, .ref qt_number, .ref qt_size, .ref qt_readers, .ref qt_words, .ref qt_costs, .ref qt_states, .ref qt_arcs, .int t_beginnings, .ref qt_from, .ref qt_letters, .ref qt_end, .ref qt_lowest, .ref qt_key, .int t_givenSize, .ref qt_given, .ref qt_keys, .ref qt_table, .int t_pairs, .ref qt_first, .ref qt_second, .ref qt_learnt, .int t_said, .ref qt_phrase, .int t_answered, .ref qt_corrected, .ref qt_many, .ref qt_candidates, .ref qt_alone, .ref qt_choice])), (qt_draft, .inl (tc 1, 24, .inr (.inl t_draft))), (qt_weight, .inl (tc 0, 24, .inl t_weight)), (qt_number, .inl (tc 0, 3, .inl t_number)), (qt_size, .inl (tc 0, 3, .inl t_size)), (qt_readers, .inl (tc 0, 3, .inl t_readers)), (qt_words, .inl (tc 1, 72, .inr (.inl t_words))), (qt_costs, .inl (tc 0, 72, .inl t_costs)), (qt_states, .inl (tc 0, 3, .inl t_states)), (qt_arcs, .inl (tc 0, 3, .inl t_arcs)), (qt_from, .inl (tc 0, 216, .inl t_from)), (qt_letters, .inl (tc 0, 216, .inl t_letters)), (qt_end, .inl (tc 0, 216, .inl t_end)), (qt_lowest, .inl (tc 0, 216, .inl t_lowest)), (qt_key, .inl (tc 1, 216, .inr (.inl t_key))), (qt_given, .inl (tc 1, 24, .inr (.inl t_given))), (qt_keys, .inl (tc 0, 24, .inl t_keys)), (qt_table, .inl (tc 0, 81, .inl t_table)), (qt_first, .inl (tc 1, 40, .inr (.inl t_first))), (qt_second, .inl (tc 1, 40, .inr (.inl t_second))), (qt_learnt, .inl (tc 0, 40, .inl t_learnt)), (qt_phrase, .inl (tc 1, 4, .inr (.inl t_phrase))), (qt_corrected, .inl (tc 1, 4, .inr (.inl t_corrected))), (qt_many, .inl (tc 0, 4, .inl t_many)), (qt_candidates, .inl (tc 1, 96, .inr (.inl t_candidates))), (qt_alone, .inl (tc 0, 96, .inl t_alone)), (qt_choice, .inl (tc 0, 4, .inl t_choice))]) : Std l y_M_throwing (.code y_M_throwing b_M_throwing 3 (some .boolean)) { frames := 0, cells := 0, slots := 0, locals := 0 } D tc [.ref qt, .int a0, .int a1] [(qt, .inr (8, [.int t_thrown, .int t_drafted, .ref qt_draft, .ref qt_weight, .int t_there, .int t_made, .ref qt_number, .ref qt_size, .ref qt_readers, .ref qt_words, .ref qt_costs, .ref qt_states, .ref qt_arcs, .int t_beginnings, .ref qt_from, .ref qt_letters, .ref qt_end, .ref qt_lowest, .ref qt_key, .int t_givenSize, .ref qt_given, .ref qt_keys, .ref qt_table, .int t_pairs, .ref qt_first, .ref qt_second, .ref qt_learnt, .int t_said, .ref qt_phrase, .int t_answered, .ref qt_corrected, .ref qt_many, .ref qt_candidates, .ref qt_alone, .ref qt_choice])), (qt_draft, .inl (tc 1, 24, .inr (.inl t_draft))), (qt_weight, .inl (tc 0, 24, .inl t_weight)), (qt_number, .inl (tc 0, 3, .inl t_number)), (qt_size, .inl (tc 0, 3, .inl t_size)), (qt_readers, .inl (tc 0, 3, .inl t_readers)), (qt_words, .inl (tc 1, 72, .inr (.inl t_words))), (qt_costs, .inl (tc 0, 72, .inl t_costs)), (qt_states, .inl (tc 0, 3, .inl t_states)), (qt_arcs, .inl (tc 0, 3, .inl t_arcs)), (qt_from, .inl (tc 0, 216, .inl t_from)), (qt_letters, .inl (tc 0, 216, .inl t_letters)), (qt_end, .inl (tc 0, 216, .inl t_end)), (qt_lowest, .inl (tc 0, 216, .inl t_lowest)), (qt_key, .inl (tc 1, 216, .inr (.inl t_key))), (qt_given, .inl (tc 1, 24, .inr (.inl t_given))), (qt_keys, .inl (tc 0, 24, .inl t_keys)), (qt_table, .inl (tc 0, 81, .inl t_table)), (qt_first, .inl (tc 1, 40, .inr (.inl t_first))), (qt_second, .inl (tc 1, 40, .inr (.inl t_second))), (qt_learnt, .inl (tc 0, 40, .inl t_learnt)), (qt_phrase, .inl (tc 1, 4, .inr (.inl t_phrase))), (qt_corrected, .inl (tc 1, 4, .inr (.inl t_corrected))), (qt_many, .inl (tc 0, 4, .inl t_many)), (qt_candidates, .inl (tc 1, 96, .inr (.inl t_candidates))), (qt_alone, .inl (tc 0, 96, .inl t_alone)), (qt_choice, .inl (tc 0, 4, .inl t_choice))] 0 0 POST := by
  refine std_of (lv := [(0, .ref qt), (1, .int a0), (2, .int a1)]) (by decide) (Nat.le_of_ble_eq_true rfl) rfl (fun p e s m args below meth c A C hr hnm => ?_)
  have K18 : ∀ (v_t_thrown : Int32) (s0 : Int32), f_M_throwing_18 a0 a1 v_t_thrown s0 = some o → Go p l e { frames := 0, cells := 0, slots := 0, locals := 0 } s m args below meth c (MQ below (Qs D A POST) args s 0 0 A) D A 3 0 0 [(qt, .inr (8, [.int v_t_thrown, .int t_drafted, .ref qt_draft, .ref qt_weight, .int t_there, .int t_made, .ref qt_number, .ref qt_size, .ref qt_readers, .ref qt_words, .ref qt_costs, .ref qt_states, .ref qt_arcs, .int t_beginnings, .ref qt_from, .ref qt_letters, .ref qt_end, .ref qt_lowest, .ref qt_key, .int t_givenSize, .ref qt_given, .ref qt_keys, .ref qt_table, .int t_pairs, .ref qt_first, .ref qt_second, .ref qt_learnt, .int t_said, .ref qt_phrase, .int t_answered, .ref qt_corrected, .ref qt_many, .ref qt_candidates, .ref qt_alone, .ref qt_choice])), (qt_draft, .inl (tc 1, 24, .inr (.inl t_draft))), (qt_weight, .inl (tc 0, 24, .inl t_weight)), (qt_number, .inl (tc 0, 3, .inl t_number)), (qt_size, .inl (tc 0, 3, .inl t_size)), (qt_readers, .inl (tc 0, 3, .inl t_readers)), (qt_words, .inl (tc 1, 72, .inr (.inl t_words))), (qt_costs, .inl (tc 0, 72, .inl t_costs)), (qt_states, .inl (tc 0, 3, .inl t_states)), (qt_arcs, .inl (tc 0, 3, .inl t_arcs)), (qt_from, .inl (tc 0, 216, .inl t_from)), (qt_letters, .inl (tc 0, 216, .inl t_letters)), (qt_end, .inl (tc 0, 216, .inl t_end)), (qt_lowest, .inl (tc 0, 216, .inl t_lowest)), (qt_key, .inl (tc 1, 216, .inr (.inl t_key))), (qt_given, .inl (tc 1, 24, .inr (.inl t_given))), (qt_keys, .inl (tc 0, 24, .inl t_keys)), (qt_table, .inl (tc 0, 81, .inl t_table)), (qt_first, .inl (tc 1, 40, .inr (.inl t_first))), (qt_second, .inl (tc 1, 40, .inr (.inl t_second))), (qt_learnt, .inl (tc 0, 40, .inl t_learnt)), (qt_phrase, .inl (tc 1, 4, .inr (.inl t_phrase))), (qt_corrected, .inl (tc 1, 4, .inr (.inl t_corrected))), (qt_many, .inl (tc 0, 4, .inl t_many)), (qt_candidates, .inl (tc 1, 96, .inr (.inl t_candidates))), (qt_alone, .inl (tc 0, 96, .inl t_alone)), (qt_choice, .inl (tc 0, 4, .inl t_choice))] [(0, .ref qt)] 18 [.int s0, .ref qt] := by
    intro v_t_thrown s0 hf
    unfold f_M_throwing_18 at hf
    refine go_put C d_M_throwing_18 fl_M_89 (fs_M 0) rfl rfl rfl 0 rfl (Nat.le_of_ble_eq_true rfl) (n := 21) rfl ?_
    refine go_aload_n C d_M_throwing_21 rfl 0 rfl (n := 22) rfl ?_
    refine go_get C d_M_throwing_22 fl_M_89 0 rfl rfl (n := 25) rfl ?_
    have hi25 := iteS hf
    refine go_if_le C d_M_throwing_25 (tgt := 32) (by decide) (n := 28) rfl (fun h25 => ?_) (fun h25 => ?_)
    · have hf := hi25.1 h25
      refine go_iconst C (v := 0) d_M_throwing_32 rfl (n := 33) rfl ?_
      cases hf
      exact go_zret C d_M_throwing_33 hr rfl hPOST
    · have hf := hi25.2 h25
      refine go_iconst C (v := 1) d_M_throwing_28 rfl (n := 29) rfl ?_
      refine go_goto C d_M_throwing_29 (tgt := 33) (by decide) ?_
      cases hf
      exact go_zret C d_M_throwing_33 hr rfl hPOST
  unfold f_M_throwing at hf
  refine go_aload_n C d_M_throwing_0 rfl 0 rfl (n := 1) rfl ?_
  refine go_iload_n C d_M_throwing_1 rfl 1 rfl (n := 2) rfl ?_
  have hi2 := iteS hf
  refine go_if_eq C d_M_throwing_2 (tgt := 9) (by decide) (n := 5) rfl (fun h2 => ?_) (fun h2 => ?_)
  · have hf := hi2.1 h2
    refine go_iload_n C d_M_throwing_9 rfl 2 rfl (n := 10) rfl ?_
    have hi10 := iteS hf
    refine go_if_eq C d_M_throwing_10 (tgt := 17) (by decide) (n := 13) rfl (fun h10 => ?_) (fun h10 => ?_)
    · have hf := hi10.1 h10
      refine go_iconst C (v := 0) d_M_throwing_17 rfl (n := 18) rfl ?_
      refine go_lv (lv' := [(0, .ref qt)]) [0] rfl ?_
      exact K18 t_thrown (0 : Int32) hf
    · have hf := hi10.2 h10
      refine go_iconst C (v := 2) d_M_throwing_13 rfl (n := 14) rfl ?_
      refine go_goto C d_M_throwing_14 (tgt := 18) (by decide) ?_
      refine go_lv (lv' := [(0, .ref qt)]) [0] rfl ?_
      exact K18 t_thrown (2 : Int32) hf
  · have hf := hi2.2 h2
    refine go_iconst C (v := 1) d_M_throwing_5 rfl (n := 6) rfl ?_
    refine go_goto C d_M_throwing_6 (tgt := 18) (by decide) ?_
    refine go_lv (lv' := [(0, .ref qt)]) [0] rfl ?_
    exact K18 t_thrown (1 : Int32) hf

def f_M_lettersOf_2b (a0 : Int64) (rec : Int32 → Option (Int32)) (l2 : Int32) : Option (Int32) :=
  if (8 : Int32) ≤ l2 then some ( l2) else if (a0 >>> (((8 : Int32) * l2).toInt64 &&& 63)) = (0 : Int64) then some ( l2) else rec (l2 + (1 : Int32))
def f_M_lettersOf_2 (a0 : Int64) : Nat → Int32 → Option (Int32)
  | 0 => fun _ => none
  | n + 1 => f_M_lettersOf_2b a0 (f_M_lettersOf_2 a0 n)
def f_M_lettersOf (a0 : Int64) : Option (Int32) :=
  (f_M_lettersOf_2 a0 FU (0 : Int32)).bind (fun x2 => some x2)
set_option maxRecDepth 100000 in
set_option maxHeartbeats 4000000 in
theorem c_M_lettersOf (l : Launch) (D : va_G) (tc : Nat → ClassId) (a0 : Int64) {o : (Int32)} (hf : f_M_lettersOf a0 = some o) (POST : Option Value → va_W → Prop) (hPOST : POST (some (.int o)) []) : Std l y_M_lettersOf (.code y_M_lettersOf b_M_lettersOf 3 (some .int)) { frames := 0, cells := 0, slots := 0, locals := 0 } D tc [.long a0] [] 0 0 POST := by
  refine std_of (lv := [(0, .long a0)]) (by decide) (Nat.le_of_ble_eq_true rfl) rfl (fun p e s m args below meth c A C hr hnm => ?_)
  have K2 : ∀ (n : Nat) (l2 : Int32) (x : (Int32)), f_M_lettersOf_2 a0 n l2 = some x → (Go p l e { frames := 0, cells := 0, slots := 0, locals := 0 } s m args below meth c (MQ below (Qs D A POST) args s 0 0 A) D A 3 0 0 [] [(2, .int x)] 25 []) → Go p l e { frames := 0, cells := 0, slots := 0, locals := 0 } s m args below meth c (MQ below (Qs D A POST) args s 0 0 A) D A 3 0 0 [] [(0, .long a0), (2, .int l2)] 2 [] := by
    intro n
    induction n with
    | zero =>
      intro l2 x hf hE
      simp [f_M_lettersOf_2] at hf
    | succ n ih =>
      intro l2 x hf hE
      have hf : f_M_lettersOf_2b a0 (f_M_lettersOf_2 a0 n) l2 = some x := hf
      unfold f_M_lettersOf_2b at hf
      refine go_iload_n C d_M_lettersOf_2 rfl 1 rfl (n := 3) rfl ?_
      refine go_bipush C (v := 8) d_M_lettersOf_3 rfl (n := 5) rfl ?_
      have hi5 := iteS hf
      refine go_icmp_ge C d_M_lettersOf_5 (tgt := 25) (by decide) (n := 8) rfl (fun h5 => ?_) (fun h5 => ?_)
      · have hf := hi5.1 h5
        refine go_lv (lv' := [(2, .int l2)]) [1] rfl ?_
        cases hf
        exact hE
      · have hf := hi5.2 h5
        refine go_lload_n C d_M_lettersOf_8 rfl 0 rfl (n := 9) rfl ?_
        refine go_bipush C (v := 8) d_M_lettersOf_9 rfl (n := 11) rfl ?_
        refine go_iload_n C d_M_lettersOf_11 rfl 1 rfl (n := 12) rfl ?_
        refine go_imul C d_M_lettersOf_12 (n := 13) rfl ?_
        refine go_lshr C d_M_lettersOf_13 (n := 14) rfl ?_
        refine go_lconst C (v := 0) d_M_lettersOf_14 rfl (n := 15) rfl ?_
        have hi15 := iteS hf
        refine go_lcmp_eq C d_M_lettersOf_15 (n1 := 16) rfl d_M_lettersOf_16 (tgt := 25) (by decide) (n := 19) rfl (fun h15 => ?_) (fun h15 => ?_)
        · have hf := hi15.1 h15
          refine go_lv (lv' := [(2, .int l2)]) [1] rfl ?_
          cases hf
          exact hE
        · have hf := hi15.2 h15
          refine go_iinc C d_M_lettersOf_19 1 rfl (v := l2 + (1 : Int32)) rfl (lv' := [(2, .int (l2 + (1 : Int32))), (0, .long a0)]) (by decide) rfl (n := 22) rfl ?_
          refine go_goto C d_M_lettersOf_22 (tgt := 2) (by decide) ?_
          refine go_lv (lv' := [(0, .long a0), (2, .int (l2 + (1 : Int32)))]) [1, 0] rfl ?_
          exact ih (l2 + (1 : Int32)) x hf hE
  unfold f_M_lettersOf at hf
  refine go_iconst C (v := 0) d_M_lettersOf_0 rfl (n := 1) rfl ?_
  refine go_istore_n C d_M_lettersOf_1 rfl (lv' := [(2, .int (0 : Int32)), (0, .long a0)]) (by decide) rfl (n := 2) rfl ?_
  refine go_lv (lv' := [(0, .long a0), (2, .int (0 : Int32))]) [1, 0] rfl ?_
  obtain ⟨x2, hx2, hf⟩ := bindS hf
  refine K2 FU (0 : Int32) x2 hx2 ?_
  refine go_iload_n C d_M_lettersOf_25 rfl 0 rfl (n := 26) rfl ?_
  cases hf
  exact go_iret C d_M_lettersOf_26 hr hPOST

def f_M_isText_66 (rec : Int32 → Int32 → Option (Int32)) (a0 : Int64) (l3 : Int32) (l4 : Int32) (s0 : Int32) : Option (Int32) :=
  rec s0 (l4 + (1 : Int32))
def f_M_isText_65 (rec : Int32 → Int32 → Option (Int32)) (a0 : Int64) (l3 : Int32) (l4 : Int32) : Option (Int32) :=
  f_M_isText_66 rec a0 l3 l4 (0 : Int32)
def f_M_isText_20b (a0 : Int64) (l3 : Int32) (rec : Int32 → Int32 → Option (Int32)) (l2 : Int32) (l4 : Int32) : Option (Int32) :=
  if l3 ≤ l4 then some ( l2) else if l2 = 0 then f_M_isText_65 rec a0 l3 l4 else if ((a0 >>> (((8 : Int32) * l4).toInt64 &&& 63)) &&& (255 : Int64)) < (97 : Int64) then f_M_isText_65 rec a0 l3 l4 else if (106 : Int64) < ((a0 >>> (((8 : Int32) * l4).toInt64 &&& 63)) &&& (255 : Int64)) then f_M_isText_65 rec a0 l3 l4 else f_M_isText_66 rec a0 l3 l4 (1 : Int32)
def f_M_isText_20 (a0 : Int64) (l3 : Int32) : Nat → Int32 → Int32 → Option (Int32)
  | 0 => fun _ _ => none
  | n + 1 => f_M_isText_20b a0 l3 (f_M_isText_20 a0 l3 n)
def f_M_isText_11 (a0 : Int64) (s0 : Int32) : Option (Int32) :=
  (f_M_lettersOf a0).bind (fun o13 => (f_M_isText_20 a0 o13 FU s0 (0 : Int32)).bind (fun x20 => if okZ x20 = true then some x20 else none))
def f_M_isText (a0 : Int64) : Option (Int32) :=
  if a0 < (0 : Int64) then f_M_isText_11 a0 (0 : Int32) else f_M_isText_11 a0 (1 : Int32)
set_option maxRecDepth 100000 in
set_option maxHeartbeats 4000000 in
theorem c_M_isText (l : Launch) (D : va_G) (tc : Nat → ClassId) (a0 : Int64) {o : (Int32)} (hf : f_M_isText a0 = some o) (POST : Option Value → va_W → Prop) (hPOST : POST (some (.int o)) []) : Std l y_M_isText (.code y_M_isText b_M_isText 7 (some .boolean)) { frames := 1, cells := 0, slots := 0, locals := 22 } D tc [.long a0] [] 0 0 POST := by
  refine std_of (lv := [(0, .long a0)]) (by decide) (Nat.le_of_ble_eq_true rfl) rfl (fun p e s m args below meth c A C hr hnm => ?_)
  have K20 : ∀ (l3 : Int32) (n : Nat) (l2 : Int32) (l4 : Int32) (x : (Int32)), f_M_isText_20 a0 l3 n l2 l4 = some x → (Go p l e { frames := 1, cells := 0, slots := 0, locals := 22 } s m args below meth c (MQ below (Qs D A POST) args s 0 0 A) D A 7 0 0 [] [(2, .int x)] 73 []) → Go p l e { frames := 1, cells := 0, slots := 0, locals := 22 } s m args below meth c (MQ below (Qs D A POST) args s 0 0 A) D A 7 0 0 [] [(0, .long a0), (2, .int l2), (3, .int l3), (4, .int l4)] 20 [] := by
    intro l3 n
    induction n with
    | zero =>
      intro l2 l4 x hf hE
      simp [f_M_isText_20] at hf
    | succ n ih =>
      intro l2 l4 x hf hE
      have hf : f_M_isText_20b a0 l3 (f_M_isText_20 a0 l3 n) l2 l4 = some x := hf
      have K66 : ∀ (l4 : Int32) (s0 : Int32), f_M_isText_66 (f_M_isText_20 a0 l3 n) a0 l3 l4 s0 = some x → Go p l e { frames := 1, cells := 0, slots := 0, locals := 22 } s m args below meth c (MQ below (Qs D A POST) args s 0 0 A) D A 7 0 0 [] [(0, .long a0), (3, .int l3), (4, .int l4)] 66 [.int s0] := by
        intro l4 s0 hf
        unfold f_M_isText_66 at hf
        refine go_istore_n C d_M_isText_66 rfl (lv' := [(2, .int s0), (0, .long a0), (3, .int l3), (4, .int l4)]) (by decide) rfl (n := 67) rfl ?_
        refine go_iinc C d_M_isText_67 3 rfl (v := l4 + (1 : Int32)) rfl (lv' := [(4, .int (l4 + (1 : Int32))), (2, .int s0), (0, .long a0), (3, .int l3)]) (by decide) rfl (n := 70) rfl ?_
        refine go_goto C d_M_isText_70 (tgt := 20) (by decide) ?_
        refine go_lv (lv' := [(0, .long a0), (2, .int s0), (3, .int l3), (4, .int (l4 + (1 : Int32)))]) [2, 1, 3, 0] rfl ?_
        exact ih s0 (l4 + (1 : Int32)) x hf hE
      have K65 : ∀ (l4 : Int32), f_M_isText_65 (f_M_isText_20 a0 l3 n) a0 l3 l4 = some x → Go p l e { frames := 1, cells := 0, slots := 0, locals := 22 } s m args below meth c (MQ below (Qs D A POST) args s 0 0 A) D A 7 0 0 [] [(0, .long a0), (3, .int l3), (4, .int l4)] 65 [] := by
        intro l4 hf
        unfold f_M_isText_65 at hf
        refine go_iconst C (v := 0) d_M_isText_65 rfl (n := 66) rfl ?_
        exact K66 l4 (0 : Int32) hf
      unfold f_M_isText_20b at hf
      refine go_iload C d_M_isText_20 3 rfl (n := 22) rfl ?_
      refine go_iload_n C d_M_isText_22 rfl 2 rfl (n := 23) rfl ?_
      have hi23 := iteS hf
      refine go_icmp_ge C d_M_isText_23 (tgt := 73) (by decide) (n := 26) rfl (fun h23 => ?_) (fun h23 => ?_)
      · have hf := hi23.1 h23
        refine go_lv (lv' := [(2, .int l2)]) [1] rfl ?_
        cases hf
        exact hE
      · have hf := hi23.2 h23
        refine go_lload_n C d_M_isText_26 rfl 0 rfl (n := 27) rfl ?_
        refine go_bipush C (v := 8) d_M_isText_27 rfl (n := 29) rfl ?_
        refine go_iload C d_M_isText_29 3 rfl (n := 31) rfl ?_
        refine go_imul C d_M_isText_31 (n := 32) rfl ?_
        refine go_lshr C d_M_isText_32 (n := 33) rfl ?_
        refine go_ldc2 C d_M_isText_33 wk_M_97 (n := 36) rfl ?_
        refine go_land C d_M_isText_36 (n := 37) rfl ?_
        refine go_lstore C d_M_isText_37 (lv' := [(5, .long ((a0 >>> (((8 : Int32) * l4).toInt64 &&& 63)) &&& (255 : Int64))), (0, .long a0), (2, .int l2), (3, .int l3), (4, .int l4)]) (by decide) rfl (n := 39) rfl ?_
        refine go_iload_n C d_M_isText_39 rfl 2 rfl (n := 40) rfl ?_
        have hi40 := iteS hf
        refine go_if_eq C d_M_isText_40 (tgt := 65) (by decide) (n := 43) rfl (fun h40 => ?_) (fun h40 => ?_)
        · have hf := hi40.1 h40
          refine go_lv (lv' := [(0, .long a0), (3, .int l3), (4, .int l4)]) [1, 3, 4] rfl ?_
          exact K65 l4 hf
        · have hf := hi40.2 h40
          refine go_lload C d_M_isText_43 0 rfl (n := 45) rfl ?_
          refine go_ldc2 C d_M_isText_45 wk_M_99 (n := 48) rfl ?_
          have hi48 := iteS hf
          refine go_lcmp_lt C d_M_isText_48 (n1 := 49) rfl d_M_isText_49 (tgt := 65) (by decide) (n := 52) rfl (fun h48 => ?_) (fun h48 => ?_)
          · have hf := hi48.1 h48
            refine go_lv (lv' := [(0, .long a0), (3, .int l3), (4, .int l4)]) [1, 3, 4] rfl ?_
            exact K65 l4 hf
          · have hf := hi48.2 h48
            refine go_lload C d_M_isText_52 0 rfl (n := 54) rfl ?_
            refine go_ldc2 C d_M_isText_54 wk_M_101 (n := 57) rfl ?_
            have hi57 := iteS hf
            refine go_lcmp_gt C d_M_isText_57 (n1 := 58) rfl d_M_isText_58 (tgt := 65) (by decide) (n := 61) rfl (fun h57 => ?_) (fun h57 => ?_)
            · have hf := hi57.1 h57
              refine go_lv (lv' := [(0, .long a0), (3, .int l3), (4, .int l4)]) [1, 3, 4] rfl ?_
              exact K65 l4 hf
            · have hf := hi57.2 h57
              refine go_iconst C (v := 1) d_M_isText_61 rfl (n := 62) rfl ?_
              refine go_goto C d_M_isText_62 (tgt := 66) (by decide) ?_
              refine go_lv (lv' := [(0, .long a0), (3, .int l3), (4, .int l4)]) [1, 3, 4] rfl ?_
              exact K66 l4 (1 : Int32) hf
  have K11 : ∀ (s0 : Int32), f_M_isText_11 a0 s0 = some o → Go p l e { frames := 1, cells := 0, slots := 0, locals := 22 } s m args below meth c (MQ below (Qs D A POST) args s 0 0 A) D A 7 0 0 [] [(0, .long a0)] 11 [.int s0] := by
    intro s0 hf
    unfold f_M_isText_11 at hf
    refine go_istore_n C d_M_isText_11 rfl (lv' := [(2, .int s0), (0, .long a0)]) (by decide) rfl (n := 12) rfl ?_
    refine go_lload_n C d_M_isText_12 rfl 1 rfl (n := 13) rfl ?_
    obtain ⟨o13, ho13, hf⟩ := bindS hf
    refine go_callP C (As := [.long a0]) (rest := []) d_M_isText_13 (c_M_lettersOf l D tc a0 ho13 (fun r w => r = some (.int o13) ∧ w = []) ⟨rfl, rfl⟩) lk_M_93 mw_M_lettersOf ws_M_lettersOf rfl rfl ⟨(Nat.le_of_ble_eq_true rfl), (Nat.le_of_ble_eq_true rfl)⟩ rfl rfl (Nat.le_of_ble_eq_true rfl) ⟨(Nat.le_of_ble_eq_true rfl), (Nat.le_of_ble_eq_true rfl)⟩ (n := 16) rfl ?_
    rintro _ _ ⟨rfl, rfl⟩
    refine go_istore_n C d_M_isText_16 rfl (lv' := [(3, .int o13), (2, .int s0), (0, .long a0)]) (by decide) rfl (n := 17) rfl ?_
    refine go_iconst C (v := 0) d_M_isText_17 rfl (n := 18) rfl ?_
    refine go_istore C d_M_isText_18 (lv' := [(4, .int (0 : Int32)), (3, .int o13), (2, .int s0), (0, .long a0)]) (by decide) rfl (n := 20) rfl ?_
    refine go_lv (lv' := [(0, .long a0), (2, .int s0), (3, .int o13), (4, .int (0 : Int32))]) [3, 2, 1, 0] rfl ?_
    obtain ⟨x20, hx20, hf⟩ := bindS hf
    refine K20 o13 FU s0 (0 : Int32) x20 hx20 ?_
    refine go_iload_n C d_M_isText_73 rfl 0 rfl (n := 74) rfl ?_
    obtain ⟨hz74, hf⟩ := guardS hf
    cases hf
    exact go_zret C d_M_isText_74 hr (okZ_n hz74) hPOST
  unfold f_M_isText at hf
  refine go_lload_n C d_M_isText_0 rfl 0 rfl (n := 1) rfl ?_
  refine go_lconst C (v := 0) d_M_isText_1 rfl (n := 2) rfl ?_
  have hi2 := iteS hf
  refine go_lcmp_lt C d_M_isText_2 (n1 := 3) rfl d_M_isText_3 (tgt := 10) (by decide) (n := 6) rfl (fun h2 => ?_) (fun h2 => ?_)
  · have hf := hi2.1 h2
    refine go_iconst C (v := 0) d_M_isText_10 rfl (n := 11) rfl ?_
    exact K11 (0 : Int32) hf
  · have hf := hi2.2 h2
    refine go_iconst C (v := 1) d_M_isText_6 rfl (n := 7) rfl ?_
    refine go_goto C d_M_isText_7 (tgt := 11) (by decide) ?_
    exact K11 (1 : Int32) hf

def f_M_isWord (a0 : Int64) : Option (Int32) :=
  if a0 = (0 : Int64) then some (0 : Int32) else (f_M_isText a0).bind (fun o7 => if o7 = 0 then some (0 : Int32) else some (1 : Int32))
set_option maxRecDepth 100000 in
set_option maxHeartbeats 4000000 in
theorem c_M_isWord (l : Launch) (D : va_G) (tc : Nat → ClassId) (a0 : Int64) {o : (Int32)} (hf : f_M_isWord a0 = some o) (POST : Option Value → va_W → Prop) (hPOST : POST (some (.int o)) []) : Std l y_M_isWord (.code y_M_isWord b_M_isWord 2 (some .boolean)) { frames := 2, cells := 0, slots := 0, locals := 48 } D tc [.long a0] [] 0 0 POST := by
  refine std_of (lv := [(0, .long a0)]) (by decide) (Nat.le_of_ble_eq_true rfl) rfl (fun p e s m args below meth c A C hr hnm => ?_)
  unfold f_M_isWord at hf
  refine go_lload_n C d_M_isWord_0 rfl 0 rfl (n := 1) rfl ?_
  refine go_lconst C (v := 0) d_M_isWord_1 rfl (n := 2) rfl ?_
  have hi2 := iteS hf
  refine go_lcmp_eq C d_M_isWord_2 (n1 := 3) rfl d_M_isWord_3 (tgt := 17) (by decide) (n := 6) rfl (fun h2 => ?_) (fun h2 => ?_)
  · have hf := hi2.1 h2
    refine go_iconst C (v := 0) d_M_isWord_17 rfl (n := 18) rfl ?_
    cases hf
    exact go_zret C d_M_isWord_18 hr rfl hPOST
  · have hf := hi2.2 h2
    refine go_lload_n C d_M_isWord_6 rfl 0 rfl (n := 7) rfl ?_
    obtain ⟨o7, ho7, hf⟩ := bindS hf
    refine go_callP C (As := [.long a0]) (rest := []) d_M_isWord_7 (c_M_isText l D tc a0 ho7 (fun r w => r = some (.int o7) ∧ w = []) ⟨rfl, rfl⟩) lk_M_103 mw_M_isText ws_M_isText rfl rfl ⟨(Nat.le_of_ble_eq_true rfl), (Nat.le_of_ble_eq_true rfl)⟩ rfl rfl (Nat.le_of_ble_eq_true rfl) ⟨(Nat.le_of_ble_eq_true rfl), (Nat.le_of_ble_eq_true rfl)⟩ (n := 10) rfl ?_
    rintro _ _ ⟨rfl, rfl⟩
    have hi10 := iteS hf
    refine go_if_eq C d_M_isWord_10 (tgt := 17) (by decide) (n := 13) rfl (fun h10 => ?_) (fun h10 => ?_)
    · have hf := hi10.1 h10
      refine go_iconst C (v := 0) d_M_isWord_17 rfl (n := 18) rfl ?_
      cases hf
      exact go_zret C d_M_isWord_18 hr rfl hPOST
    · have hf := hi10.2 h10
      refine go_iconst C (v := 1) d_M_isWord_13 rfl (n := 14) rfl ?_
      refine go_goto C d_M_isWord_14 (tgt := 18) (by decide) ?_
      cases hf
      exact go_zret C d_M_isWord_18 hr rfl hPOST

def f_M_at (a0 : Int64) (a1 : Int32) : Option (Int32) :=
  (f_M_lettersOf a0).bind (fun o1 => if o1 ≤ a1 then some (0 : Int32) else some (((a0 >>> (((8 : Int32) * ((o1 - (1 : Int32)) - a1)).toInt64 &&& 63)) &&& (255 : Int64)).toInt32))
set_option maxRecDepth 100000 in
set_option maxHeartbeats 4000000 in
theorem c_M_at (l : Launch) (D : va_G) (tc : Nat → ClassId) (a0 : Int64) (a1 : Int32) {o : (Int32)} (hf : f_M_at a0 a1 = some o) (POST : Option Value → va_W → Prop) (hPOST : POST (some (.int o)) []) : Std l y_M_at (.code y_M_at b_M_at 4 (some .int)) { frames := 1, cells := 0, slots := 0, locals := 22 } D tc [.long a0, .int a1] [] 0 0 POST := by
  refine std_of (lv := [(0, .long a0), (2, .int a1)]) (by decide) (Nat.le_of_ble_eq_true rfl) rfl (fun p e s m args below meth c A C hr hnm => ?_)
  unfold f_M_at at hf
  refine go_lload_n C d_M_at_0 rfl 0 rfl (n := 1) rfl ?_
  obtain ⟨o1, ho1, hf⟩ := bindS hf
  refine go_callP C (As := [.long a0]) (rest := []) d_M_at_1 (c_M_lettersOf l D tc a0 ho1 (fun r w => r = some (.int o1) ∧ w = []) ⟨rfl, rfl⟩) lk_M_93 mw_M_lettersOf ws_M_lettersOf rfl rfl ⟨(Nat.le_of_ble_eq_true rfl), (Nat.le_of_ble_eq_true rfl)⟩ rfl rfl (Nat.le_of_ble_eq_true rfl) ⟨(Nat.le_of_ble_eq_true rfl), (Nat.le_of_ble_eq_true rfl)⟩ (n := 4) rfl ?_
  rintro _ _ ⟨rfl, rfl⟩
  refine go_istore_n C d_M_at_4 rfl (lv' := [(3, .int o1), (0, .long a0), (2, .int a1)]) (by decide) rfl (n := 5) rfl ?_
  refine go_iload_n C d_M_at_5 rfl 2 rfl (n := 6) rfl ?_
  refine go_iload_n C d_M_at_6 rfl 0 rfl (n := 7) rfl ?_
  have hi7 := iteS hf
  refine go_icmp_ge C d_M_at_7 (tgt := 28) (by decide) (n := 10) rfl (fun h7 => ?_) (fun h7 => ?_)
  · have hf := hi7.1 h7
    refine go_iconst C (v := 0) d_M_at_28 rfl (n := 29) rfl ?_
    cases hf
    exact go_iret C d_M_at_29 hr hPOST
  · have hf := hi7.2 h7
    refine go_lload_n C d_M_at_10 rfl 1 rfl (n := 11) rfl ?_
    refine go_bipush C (v := 8) d_M_at_11 rfl (n := 13) rfl ?_
    refine go_iload_n C d_M_at_13 rfl 0 rfl (n := 14) rfl ?_
    refine go_iconst C (v := 1) d_M_at_14 rfl (n := 15) rfl ?_
    refine go_isub C d_M_at_15 (n := 16) rfl ?_
    refine go_iload_n C d_M_at_16 rfl 2 rfl (n := 17) rfl ?_
    refine go_isub C d_M_at_17 (n := 18) rfl ?_
    refine go_imul C d_M_at_18 (n := 19) rfl ?_
    refine go_lshr C d_M_at_19 (n := 20) rfl ?_
    refine go_ldc2 C d_M_at_20 wk_M_97 (n := 23) rfl ?_
    refine go_land C d_M_at_23 (n := 24) rfl ?_
    refine go_l2i C d_M_at_24 (n := 25) rfl ?_
    refine go_goto C d_M_at_25 (tgt := 29) (by decide) ?_
    cases hf
    exact go_iret C d_M_at_29 hr hPOST

def f_M_isBefore_3b (a0 : Int64) (a1 : Int64) (rec : Int32 → Option ((Unit) ⊕ (Int32))) (l4 : Int32) : Option ((Unit) ⊕ (Int32)) :=
  if (8 : Int32) ≤ l4 then some (.inl  ()) else (f_M_at a0 l4).bind (fun o13 => (f_M_at a1 l4).bind (fun o19 => if o13 = o19 then rec (l4 + (1 : Int32)) else some (.inr <|  l4)))
def f_M_isBefore_3 (a0 : Int64) (a1 : Int64) : Nat → Int32 → Option ((Unit) ⊕ (Int32))
  | 0 => fun _ => none
  | n + 1 => f_M_isBefore_3b a0 a1 (f_M_isBefore_3 a0 a1 n)
def f_M_isBefore (a0 : Int64) (a1 : Int64) : Option (Int32) :=
  (f_M_isBefore_3 a0 a1 FU (0 : Int32)).bind (Sum.elim (fun x3 => some (0 : Int32)) (fun x3 => (f_M_at a0 x3).bind (fun o28 => (f_M_at a1 x3).bind (fun o34 => if o34 ≤ o28 then some (0 : Int32) else some (1 : Int32)))))
set_option maxRecDepth 100000 in
set_option maxHeartbeats 4000000 in
theorem c_M_isBefore (l : Launch) (D : va_G) (tc : Nat → ClassId) (a0 : Int64) (a1 : Int64) {o : (Int32)} (hf : f_M_isBefore a0 a1 = some o) (POST : Option Value → va_W → Prop) (hPOST : POST (some (.int o)) []) : Std l y_M_isBefore (.code y_M_isBefore b_M_isBefore 5 (some .boolean)) { frames := 2, cells := 0, slots := 0, locals := 45 } D tc [.long a0, .long a1] [] 0 0 POST := by
  refine std_of (lv := [(0, .long a0), (2, .long a1)]) (by decide) (Nat.le_of_ble_eq_true rfl) rfl (fun p e s m args below meth c A C hr hnm => ?_)
  have K3 : ∀ (n : Nat) (l4 : Int32) (x : ((Unit) ⊕ (Int32))), f_M_isBefore_3 a0 a1 n l4 = some x → ((∀ d, x = .inl d → Go p l e { frames := 2, cells := 0, slots := 0, locals := 45 } s m args below meth c (MQ below (Qs D A POST) args s 0 0 A) D A 5 0 0 [] [] 52 []) ∧ (∀ d, x = .inr d → Go p l e { frames := 2, cells := 0, slots := 0, locals := 45 } s m args below meth c (MQ below (Qs D A POST) args s 0 0 A) D A 5 0 0 [] [(0, .long a0), (2, .long a1), (4, .int d)] 25 [])) → Go p l e { frames := 2, cells := 0, slots := 0, locals := 45 } s m args below meth c (MQ below (Qs D A POST) args s 0 0 A) D A 5 0 0 [] [(0, .long a0), (2, .long a1), (4, .int l4)] 3 [] := by
    intro n
    induction n with
    | zero =>
      intro l4 x hf hE
      simp [f_M_isBefore_3] at hf
    | succ n ih =>
      intro l4 x hf hE
      have hf : f_M_isBefore_3b a0 a1 (f_M_isBefore_3 a0 a1 n) l4 = some x := hf
      unfold f_M_isBefore_3b at hf
      refine go_iload C d_M_isBefore_3 2 rfl (n := 5) rfl ?_
      refine go_bipush C (v := 8) d_M_isBefore_5 rfl (n := 7) rfl ?_
      have hi7 := iteS hf
      refine go_icmp_ge C d_M_isBefore_7 (tgt := 52) (by decide) (n := 10) rfl (fun h7 => ?_) (fun h7 => ?_)
      · have hf := hi7.1 h7
        refine go_lv (lv' := []) [] rfl ?_
        cases hf
        exact hE.1 _ rfl
      · have hf := hi7.2 h7
        refine go_lload_n C d_M_isBefore_10 rfl 0 rfl (n := 11) rfl ?_
        refine go_iload C d_M_isBefore_11 2 rfl (n := 13) rfl ?_
        obtain ⟨o13, ho13, hf⟩ := bindS hf
        refine go_callP C (As := [.long a0, .int l4]) (rest := []) d_M_isBefore_13 (c_M_at l D tc a0 l4 ho13 (fun r w => r = some (.int o13) ∧ w = []) ⟨rfl, rfl⟩) lk_M_107 mw_M_at ws_M_at rfl rfl ⟨(Nat.le_of_ble_eq_true rfl), (Nat.le_of_ble_eq_true rfl)⟩ rfl rfl (Nat.le_of_ble_eq_true rfl) ⟨(Nat.le_of_ble_eq_true rfl), (Nat.le_of_ble_eq_true rfl)⟩ (n := 16) rfl ?_
        rintro _ _ ⟨rfl, rfl⟩
        refine go_lload_n C d_M_isBefore_16 rfl 1 rfl (n := 17) rfl ?_
        refine go_iload C d_M_isBefore_17 2 rfl (n := 19) rfl ?_
        obtain ⟨o19, ho19, hf⟩ := bindS hf
        refine go_callP C (As := [.long a1, .int l4]) (rest := [.int o13]) d_M_isBefore_19 (c_M_at l D tc a1 l4 ho19 (fun r w => r = some (.int o19) ∧ w = []) ⟨rfl, rfl⟩) lk_M_107 mw_M_at ws_M_at rfl rfl ⟨(Nat.le_of_ble_eq_true rfl), (Nat.le_of_ble_eq_true rfl)⟩ rfl rfl (Nat.le_of_ble_eq_true rfl) ⟨(Nat.le_of_ble_eq_true rfl), (Nat.le_of_ble_eq_true rfl)⟩ (n := 22) rfl ?_
        rintro _ _ ⟨rfl, rfl⟩
        have hi22 := iteS hf
        refine go_icmp_eq C d_M_isBefore_22 (tgt := 46) (by decide) (n := 25) rfl (fun h22 => ?_) (fun h22 => ?_)
        · have hf := hi22.1 h22
          refine go_iinc C d_M_isBefore_46 2 rfl (v := l4 + (1 : Int32)) rfl (lv' := [(4, .int (l4 + (1 : Int32))), (0, .long a0), (2, .long a1)]) (by decide) rfl (n := 49) rfl ?_
          refine go_goto C d_M_isBefore_49 (tgt := 3) (by decide) ?_
          refine go_lv (lv' := [(0, .long a0), (2, .long a1), (4, .int (l4 + (1 : Int32)))]) [1, 2, 0] rfl ?_
          exact ih (l4 + (1 : Int32)) x hf hE
        · have hf := hi22.2 h22
          cases hf
          exact hE.2 _ rfl
  unfold f_M_isBefore at hf
  refine go_iconst C (v := 0) d_M_isBefore_0 rfl (n := 1) rfl ?_
  refine go_istore C d_M_isBefore_1 (lv' := [(4, .int (0 : Int32)), (0, .long a0), (2, .long a1)]) (by decide) rfl (n := 3) rfl ?_
  refine go_lv (lv' := [(0, .long a0), (2, .long a1), (4, .int (0 : Int32))]) [1, 2, 0] rfl ?_
  obtain ⟨y3, hx3, hf⟩ := bindS hf
  refine K3 FU (0 : Int32) y3 hx3 ⟨fun x3 hd => ?_, fun x3 hd => ?_⟩
  · subst hd
    dsimp only [Sum.elim_inl, Sum.elim_inr] at hf
    refine go_iconst C (v := 0) d_M_isBefore_52 rfl (n := 53) rfl ?_
    cases hf
    exact go_zret C d_M_isBefore_53 hr rfl hPOST
  · subst hd
    dsimp only [Sum.elim_inl, Sum.elim_inr] at hf
    refine go_lload_n C d_M_isBefore_25 rfl 0 rfl (n := 26) rfl ?_
    refine go_iload C d_M_isBefore_26 2 rfl (n := 28) rfl ?_
    obtain ⟨o28, ho28, hf⟩ := bindS hf
    refine go_callP C (As := [.long a0, .int x3]) (rest := []) d_M_isBefore_28 (c_M_at l D tc a0 x3 ho28 (fun r w => r = some (.int o28) ∧ w = []) ⟨rfl, rfl⟩) lk_M_107 mw_M_at ws_M_at rfl rfl ⟨(Nat.le_of_ble_eq_true rfl), (Nat.le_of_ble_eq_true rfl)⟩ rfl rfl (Nat.le_of_ble_eq_true rfl) ⟨(Nat.le_of_ble_eq_true rfl), (Nat.le_of_ble_eq_true rfl)⟩ (n := 31) rfl ?_
    rintro _ _ ⟨rfl, rfl⟩
    refine go_lload_n C d_M_isBefore_31 rfl 1 rfl (n := 32) rfl ?_
    refine go_iload C d_M_isBefore_32 2 rfl (n := 34) rfl ?_
    obtain ⟨o34, ho34, hf⟩ := bindS hf
    refine go_callP C (As := [.long a1, .int x3]) (rest := [.int o28]) d_M_isBefore_34 (c_M_at l D tc a1 x3 ho34 (fun r w => r = some (.int o34) ∧ w = []) ⟨rfl, rfl⟩) lk_M_107 mw_M_at ws_M_at rfl rfl ⟨(Nat.le_of_ble_eq_true rfl), (Nat.le_of_ble_eq_true rfl)⟩ rfl rfl (Nat.le_of_ble_eq_true rfl) ⟨(Nat.le_of_ble_eq_true rfl), (Nat.le_of_ble_eq_true rfl)⟩ (n := 37) rfl ?_
    rintro _ _ ⟨rfl, rfl⟩
    have hi37 := iteS hf
    refine go_icmp_ge C d_M_isBefore_37 (tgt := 44) (by decide) (n := 40) rfl (fun h37 => ?_) (fun h37 => ?_)
    · have hf := hi37.1 h37
      refine go_iconst C (v := 0) d_M_isBefore_44 rfl (n := 45) rfl ?_
      cases hf
      exact go_zret C d_M_isBefore_45 hr rfl hPOST
    · have hf := hi37.2 h37
      refine go_iconst C (v := 1) d_M_isBefore_40 rfl (n := 41) rfl ?_
      refine go_goto C d_M_isBefore_41 (tgt := 45) (by decide) ?_
      cases hf
      exact go_zret C d_M_isBefore_45 hr rfl hPOST
