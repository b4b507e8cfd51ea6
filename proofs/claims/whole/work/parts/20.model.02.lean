def f_M_drop_7b (a0 : Int64) (v_t_thrown : Int32) (v_t_drafted : Int32) (v_t_draft : Nat → Int64) (v_t_weight : Nat → Int32) (rec : Int32 → Option ((Unit) ⊕ (Int32))) (l3 : Int32) : Option ((Unit) ⊕ (Int32)) :=
  if v_t_drafted ≤ l3 then some (.inl  ()) else if okI l3 24 = true then if (v_t_draft l3.toNatClampNeg) = a0 then some (.inr <|  l3) else rec (l3 + (1 : Int32)) else none
def f_M_drop_7 (a0 : Int64) (v_t_thrown : Int32) (v_t_drafted : Int32) (v_t_draft : Nat → Int64) (v_t_weight : Nat → Int32) : Nat → Int32 → Option ((Unit) ⊕ (Int32))
  | 0 => fun _ => none
  | n + 1 => f_M_drop_7b a0 v_t_thrown v_t_drafted v_t_draft v_t_weight (f_M_drop_7 a0 v_t_thrown v_t_drafted v_t_draft v_t_weight n)
def f_M_drop (t_thrown : Int32) (t_drafted : Int32) (t_draft : Nat → Int64) (t_weight : Nat → Int32) (a0 : Int64) : Option (Int32 × Int32 × Int32 × (Nat → Int64) × (Nat → Int32)) :=
  (f_M_drop_7 a0 (0 : Int32) t_drafted t_draft t_weight FU (0 : Int32)).bind (Sum.elim (fun x7 => some ((0 : Int32), (0 : Int32), t_drafted, t_draft, t_weight)) (fun x7 => if okI (t_drafted - (1 : Int32)) 24 = true then if okI x7 24 = true then if okI (t_drafted - (1 : Int32)) 24 = true then if okI x7 24 = true then some ((1 : Int32), (0 : Int32), t_drafted - (1 : Int32), vp_updL t_draft x7.toNatClampNeg (t_draft (t_drafted - (1 : Int32)).toNatClampNeg), upd t_weight x7.toNatClampNeg (t_weight (t_drafted - (1 : Int32)).toNatClampNeg)) else none else none else none else none))
set_option maxRecDepth 100000 in
set_option maxHeartbeats 4000000 in
theorem c_M_drop (l : Launch) (D : va_G) (tc : Nat → ClassId) (qt : Nat) (qt_draft : Nat) (qt_weight : Nat) (qt_number : Nat) (qt_size : Nat) (qt_readers : Nat) (qt_words : Nat) (qt_costs : Nat) (qt_states : Nat) (qt_arcs : Nat) (qt_from : Nat) (qt_letters : Nat) (qt_end : Nat) (qt_lowest : Nat) (qt_key : Nat) (qt_given : Nat) (qt_keys : Nat) (qt_table : Nat) (qt_first : Nat) (qt_second : Nat) (qt_learnt : Nat) (qt_phrase : Nat) (qt_corrected : Nat) (qt_many : Nat) (qt_candidates : Nat) (qt_alone : Nat) (qt_choice : Nat) (t_thrown : Int32) (t_drafted : Int32) (t_there : Int32) (t_made : Int32) (t_beginnings : Int32) (t_givenSize : Int32) (t_pairs : Int32) (t_said : Int32) (t_answered : Int32) (t_draft : Nat → Int64) (t_weight : Nat → Int32) (t_number : Nat → Int32) (t_size : Nat → Int32) (t_readers : Nat → Int32) (t_words : Nat → Int64) (t_costs : Nat → Int32) (t_states : Nat → Int32) (t_arcs : Nat → Int32) (t_from : Nat → Int32) (t_letters : Nat → Int32) (t_end : Nat → Int32) (t_lowest : Nat → Int32) (t_key : Nat → Int64) (t_given : Nat → Int64) (t_keys : Nat → Int32) (t_table : Nat → Int32) (t_first : Nat → Int64) (t_second : Nat → Int64) (t_learnt : Nat → Int32) (t_phrase : Nat → Int64) (t_corrected : Nat → Int64) (t_many : Nat → Int32) (t_candidates : Nat → Int64) (t_alone : Nat → Int32) (t_choice : Nat → Int32) (a0 : Int64) {o : (Int32 × Int32 × Int32 × (Nat → Int64) × (Nat → Int32))} (hf : f_M_drop t_thrown t_drafted t_draft t_weight a0 = some o) (POST : Option Value → va_W → Prop) (hPOST : POST (some (.int o.1)) [(qt, .inr (8, [.int o.2.1, .int o.2.2.1, .ref qt_draft, .ref qt_weight, .int t_there, .int t_made, .ref qt_number, .ref qt_size, .ref qt_readers, .ref qt_words, .ref qt_costs, .ref qt_states, .ref qt_arcs, .int t_beginnings, .ref qt_from, .ref qt_letters, .ref qt_end, .ref qt_lowest, .ref qt_key, .int t_givenSize, .ref qt_given, .ref qt_keys, .ref qt_table, .int t_pairs, .ref qt_first, .ref qt_second, .ref qt_learnt, .int t_said, .ref qt_phrase, .int t_answered, .ref qt_corrected, .ref qt_many, .ref qt_candidates, .ref qt_alone, .ref qt_choice])), (qt_draft, .inl (tc 1, 24, .inr (.inl o.2.2.2.1))), (qt_weight, .inl (tc 0, 24, .inl o.2.2.2.2)), (qt_number, .inl (tc 0, 3, .inl t_number)), (qt_size, .inl (tc 0, 3, .inl t_size)), (qt_readers, .inl (tc 0, 3, .inl t_readers)), (qt_words, .inl (tc 1, 72, .inr (.inl t_words))), (qt_costs, .inl (tc 0, 72, .inl t_costs)), (qt_states, .inl (tc 0, 3, .inl t_states)), (qt_arcs, .inl (tc 0, 3, .inl t_arcs)), (qt_from, .inl (tc 0, 216, .inl t_from)), (qt_letters, .inl (tc 0, 216, .inl t_letters)), (qt_end, .inl (tc 0, 216, .inl t_end)), (qt_lowest, .inl (tc 0, 216, .inl t_lowest)), (qt_key, .inl (tc 1, 216, .inr (.inl t_key))), (qt_given, .inl (tc 1, 24, .inr (.inl t_given))), (qt_keys, .inl (tc 0, 24, .inl t_keys)), (qt_table, .inl (tc 0, 81, .inl t_table)), (qt_first, .inl (tc 1, 40, .inr (.inl t_first))), (qt_second, .inl (tc 1, 40, .inr (.inl t_second))), (qt_learnt, .inl (tc 0, 40, .inl t_learnt)), (qt_phrase, .inl (tc 1, 4, .inr (.inl t_phrase))), (qt_corrected, .inl (tc 1, 4, .inr (.inl t_corrected))), (qt_many, .inl (tc 0, 4, .inl t_many)), (qt_candidates, .inl (tc 1, 96, .inr (.inl t_candidates))), (qt_alone, .inl (tc 0, 96, .inl t_alone)), (qt_choice, .inl (tc 0, 4, .inl t_choice))]) : Std l y_M_drop (.code y_M_drop b_M_drop 4 (some .boolean)) { frames := 0, cells := 0, slots := 0, locals := 0 } D tc [.ref qt, .long a0] [(qt, .inr (8, [.int t_thrown, .int t_drafted, .ref qt_draft, .ref qt_weight, .int t_there, .int t_made, .ref qt_number, .ref qt_size, .ref qt_readers, .ref qt_words, .ref qt_costs, .ref qt_states, .ref qt_arcs, .int t_beginnings, .ref qt_from, .ref qt_letters, .ref qt_end, .ref qt_lowest, .ref qt_key, .int t_givenSize, .ref qt_given, .ref qt_keys, .ref qt_table, .int t_pairs, .ref qt_first, .ref qt_second, .ref qt_learnt, .int t_said, .ref qt_phrase, .int t_answered, .ref qt_corrected, .ref qt_many, .ref qt_candidates, .ref qt_alone, .ref qt_choice])), (qt_draft, .inl (tc 1, 24, .inr (.inl t_draft))), (qt_weight, .inl (tc 0, 24, .inl t_weight)), (qt_number, .inl (tc 0, 3, .inl t_number)), (qt_size, .inl (tc 0, 3, .inl t_size)), (qt_readers, .inl (tc 0, 3, .inl t_readers)), (qt_words, .inl (tc 1, 72, .inr (.inl t_words))), (qt_costs, .inl (tc 0, 72, .inl t_costs)), (qt_states, .inl (tc 0, 3, .inl t_states)), (qt_arcs, .inl (tc 0, 3, .inl t_arcs)), (qt_from, .inl (tc 0, 216, .inl t_from)), (qt_letters, .inl (tc 0, 216, .inl t_letters)), (qt_end, .inl (tc 0, 216, .inl t_end)), (qt_lowest, .inl (tc 0, 216, .inl t_lowest)), (qt_key, .inl (tc 1, 216, .inr (.inl t_key))), (qt_given, .inl (tc 1, 24, .inr (.inl t_given))), (qt_keys, .inl (tc 0, 24, .inl t_keys)), (qt_table, .inl (tc 0, 81, .inl t_table)), (qt_first, .inl (tc 1, 40, .inr (.inl t_first))), (qt_second, .inl (tc 1, 40, .inr (.inl t_second))), (qt_learnt, .inl (tc 0, 40, .inl t_learnt)), (qt_phrase, .inl (tc 1, 4, .inr (.inl t_phrase))), (qt_corrected, .inl (tc 1, 4, .inr (.inl t_corrected))), (qt_many, .inl (tc 0, 4, .inl t_many)), (qt_candidates, .inl (tc 1, 96, .inr (.inl t_candidates))), (qt_alone, .inl (tc 0, 96, .inl t_alone)), (qt_choice, .inl (tc 0, 4, .inl t_choice))] 0 0 POST := by
  refine std_of (lv := [(0, .ref qt), (1, .long a0)]) (by decide) (Nat.le_of_ble_eq_true rfl) rfl (fun p e s m args below meth c A C hr hnm => ?_)
  have K7 : ∀ (v_t_thrown : Int32) (v_t_drafted : Int32) (v_t_draft : Nat → Int64) (v_t_weight : Nat → Int32) (n : Nat) (l3 : Int32) (x : ((Unit) ⊕ (Int32))), f_M_drop_7 a0 v_t_thrown v_t_drafted v_t_draft v_t_weight n l3 = some x → ((∀ d, x = .inl d → Go p l e { frames := 0, cells := 0, slots := 0, locals := 0 } s m args below meth c (MQ below (Qs D A POST) args s 0 0 A) D A 4 0 0 [(qt, .inr (8, [.int v_t_thrown, .int v_t_drafted, .ref qt_draft, .ref qt_weight, .int t_there, .int t_made, .ref qt_number, .ref qt_size, .ref qt_readers, .ref qt_words, .ref qt_costs, .ref qt_states, .ref qt_arcs, .int t_beginnings, .ref qt_from, .ref qt_letters, .ref qt_end, .ref qt_lowest, .ref qt_key, .int t_givenSize, .ref qt_given, .ref qt_keys, .ref qt_table, .int t_pairs, .ref qt_first, .ref qt_second, .ref qt_learnt, .int t_said, .ref qt_phrase, .int t_answered, .ref qt_corrected, .ref qt_many, .ref qt_candidates, .ref qt_alone, .ref qt_choice])), (qt_draft, .inl (tc 1, 24, .inr (.inl v_t_draft))), (qt_weight, .inl (tc 0, 24, .inl v_t_weight)), (qt_number, .inl (tc 0, 3, .inl t_number)), (qt_size, .inl (tc 0, 3, .inl t_size)), (qt_readers, .inl (tc 0, 3, .inl t_readers)), (qt_words, .inl (tc 1, 72, .inr (.inl t_words))), (qt_costs, .inl (tc 0, 72, .inl t_costs)), (qt_states, .inl (tc 0, 3, .inl t_states)), (qt_arcs, .inl (tc 0, 3, .inl t_arcs)), (qt_from, .inl (tc 0, 216, .inl t_from)), (qt_letters, .inl (tc 0, 216, .inl t_letters)), (qt_end, .inl (tc 0, 216, .inl t_end)), (qt_lowest, .inl (tc 0, 216, .inl t_lowest)), (qt_key, .inl (tc 1, 216, .inr (.inl t_key))), (qt_given, .inl (tc 1, 24, .inr (.inl t_given))), (qt_keys, .inl (tc 0, 24, .inl t_keys)), (qt_table, .inl (tc 0, 81, .inl t_table)), (qt_first, .inl (tc 1, 40, .inr (.inl t_first))), (qt_second, .inl (tc 1, 40, .inr (.inl t_second))), (qt_learnt, .inl (tc 0, 40, .inl t_learnt)), (qt_phrase, .inl (tc 1, 4, .inr (.inl t_phrase))), (qt_corrected, .inl (tc 1, 4, .inr (.inl t_corrected))), (qt_many, .inl (tc 0, 4, .inl t_many)), (qt_candidates, .inl (tc 1, 96, .inr (.inl t_candidates))), (qt_alone, .inl (tc 0, 96, .inl t_alone)), (qt_choice, .inl (tc 0, 4, .inl t_choice))] [] 77 []) ∧ (∀ d, x = .inr d → Go p l e { frames := 0, cells := 0, slots := 0, locals := 0 } s m args below meth c (MQ below (Qs D A POST) args s 0 0 A) D A 4 0 0 [(qt, .inr (8, [.int v_t_thrown, .int v_t_drafted, .ref qt_draft, .ref qt_weight, .int t_there, .int t_made, .ref qt_number, .ref qt_size, .ref qt_readers, .ref qt_words, .ref qt_costs, .ref qt_states, .ref qt_arcs, .int t_beginnings, .ref qt_from, .ref qt_letters, .ref qt_end, .ref qt_lowest, .ref qt_key, .int t_givenSize, .ref qt_given, .ref qt_keys, .ref qt_table, .int t_pairs, .ref qt_first, .ref qt_second, .ref qt_learnt, .int t_said, .ref qt_phrase, .int t_answered, .ref qt_corrected, .ref qt_many, .ref qt_candidates, .ref qt_alone, .ref qt_choice])), (qt_draft, .inl (tc 1, 24, .inr (.inl v_t_draft))), (qt_weight, .inl (tc 0, 24, .inl v_t_weight)), (qt_number, .inl (tc 0, 3, .inl t_number)), (qt_size, .inl (tc 0, 3, .inl t_size)), (qt_readers, .inl (tc 0, 3, .inl t_readers)), (qt_words, .inl (tc 1, 72, .inr (.inl t_words))), (qt_costs, .inl (tc 0, 72, .inl t_costs)), (qt_states, .inl (tc 0, 3, .inl t_states)), (qt_arcs, .inl (tc 0, 3, .inl t_arcs)), (qt_from, .inl (tc 0, 216, .inl t_from)), (qt_letters, .inl (tc 0, 216, .inl t_letters)), (qt_end, .inl (tc 0, 216, .inl t_end)), (qt_lowest, .inl (tc 0, 216, .inl t_lowest)), (qt_key, .inl (tc 1, 216, .inr (.inl t_key))), (qt_given, .inl (tc 1, 24, .inr (.inl t_given))), (qt_keys, .inl (tc 0, 24, .inl t_keys)), (qt_table, .inl (tc 0, 81, .inl t_table)), (qt_first, .inl (tc 1, 40, .inr (.inl t_first))), (qt_second, .inl (tc 1, 40, .inr (.inl t_second))), (qt_learnt, .inl (tc 0, 40, .inl t_learnt)), (qt_phrase, .inl (tc 1, 4, .inr (.inl t_phrase))), (qt_corrected, .inl (tc 1, 4, .inr (.inl t_corrected))), (qt_many, .inl (tc 0, 4, .inl t_many)), (qt_candidates, .inl (tc 1, 96, .inr (.inl t_candidates))), (qt_alone, .inl (tc 0, 96, .inl t_alone)), (qt_choice, .inl (tc 0, 4, .inl t_choice))] [(0, .ref qt), (3, .int d)] 29 [])) → Go p l e { frames := 0, cells := 0, slots := 0, locals := 0 } s m args below meth c (MQ below (Qs D A POST) args s 0 0 A) D A 4 0 0 [(qt, .inr (8, [.int v_t_thrown, .int v_t_drafted, .ref qt_draft, .ref qt_weight, .int t_there, .int t_made, .ref qt_number, .ref qt_size, .ref qt_readers, .ref qt_words, .ref qt_costs, .ref qt_states, .ref qt_arcs, .int t_beginnings, .ref qt_from, .ref qt_letters, .ref qt_end, .ref qt_lowest, .ref qt_key, .int t_givenSize, .ref qt_given, .ref qt_keys, .ref qt_table, .int t_pairs, .ref qt_first, .ref qt_second, .ref qt_learnt, .int t_said, .ref qt_phrase, .int t_answered, .ref qt_corrected, .ref qt_many, .ref qt_candidates, .ref qt_alone, .ref qt_choice])), (qt_draft, .inl (tc 1, 24, .inr (.inl v_t_draft))), (qt_weight, .inl (tc 0, 24, .inl v_t_weight)), (qt_number, .inl (tc 0, 3, .inl t_number)), (qt_size, .inl (tc 0, 3, .inl t_size)), (qt_readers, .inl (tc 0, 3, .inl t_readers)), (qt_words, .inl (tc 1, 72, .inr (.inl t_words))), (qt_costs, .inl (tc 0, 72, .inl t_costs)), (qt_states, .inl (tc 0, 3, .inl t_states)), (qt_arcs, .inl (tc 0, 3, .inl t_arcs)), (qt_from, .inl (tc 0, 216, .inl t_from)), (qt_letters, .inl (tc 0, 216, .inl t_letters)), (qt_end, .inl (tc 0, 216, .inl t_end)), (qt_lowest, .inl (tc 0, 216, .inl t_lowest)), (qt_key, .inl (tc 1, 216, .inr (.inl t_key))), (qt_given, .inl (tc 1, 24, .inr (.inl t_given))), (qt_keys, .inl (tc 0, 24, .inl t_keys)), (qt_table, .inl (tc 0, 81, .inl t_table)), (qt_first, .inl (tc 1, 40, .inr (.inl t_first))), (qt_second, .inl (tc 1, 40, .inr (.inl t_second))), (qt_learnt, .inl (tc 0, 40, .inl t_learnt)), (qt_phrase, .inl (tc 1, 4, .inr (.inl t_phrase))), (qt_corrected, .inl (tc 1, 4, .inr (.inl t_corrected))), (qt_many, .inl (tc 0, 4, .inl t_many)), (qt_candidates, .inl (tc 1, 96, .inr (.inl t_candidates))), (qt_alone, .inl (tc 0, 96, .inl t_alone)), (qt_choice, .inl (tc 0, 4, .inl t_choice))] [(0, .ref qt), (1, .long a0), (3, .int l3)] 7 [] := by
    intro v_t_thrown v_t_drafted v_t_draft v_t_weight n
    induction n with
    | zero =>
      intro l3 x hf hE
      simp [f_M_drop_7] at hf
    | succ n ih =>
      intro l3 x hf hE
      have hf : f_M_drop_7b a0 v_t_thrown v_t_drafted v_t_draft v_t_weight (f_M_drop_7 a0 v_t_thrown v_t_drafted v_t_draft v_t_weight n) l3 = some x := hf
      unfold f_M_drop_7b at hf
      refine go_iload_n C d_M_drop_7 rfl 2 rfl (n := 8) rfl ?_
      refine go_aload_n C d_M_drop_8 rfl 0 rfl (n := 9) rfl ?_
      refine go_get C d_M_drop_9 fl_M_114 0 rfl rfl (n := 12) rfl ?_
      have hi12 := iteS hf
      refine go_icmp_ge C d_M_drop_12 (tgt := 77) (by decide) (n := 15) rfl (fun h12 => ?_) (fun h12 => ?_)
      · have hf := hi12.1 h12
        refine go_lv (lv' := []) [] rfl ?_
        cases hf
        exact hE.1 _ rfl
      · have hf := hi12.2 h12
        refine go_aload_n C d_M_drop_15 rfl 0 rfl (n := 16) rfl ?_
        refine go_get C d_M_drop_16 fl_M_7 0 rfl rfl (n := 19) rfl ?_
        refine go_iload_n C d_M_drop_19 rfl 2 rfl (n := 20) rfl ?_
        obtain ⟨hg20, hf⟩ := guardS hf
        refine go_lald C d_M_drop_20 1 rfl hg20 (n := 21) rfl ?_
        refine go_lload_n C d_M_drop_21 rfl 1 rfl (n := 22) rfl ?_
        have hi22 := iteS hf
        refine go_lcmp_eq C d_M_drop_22 (n1 := 23) rfl d_M_drop_23 (tgt := 29) (by decide) (n := 26) rfl (fun h22 => ?_) (fun h22 => ?_)
        · have hf := hi22.1 h22
          refine go_lv (lv' := [(0, .ref qt), (3, .int l3)]) [0, 2] rfl ?_
          cases hf
          exact hE.2 _ rfl
        · have hf := hi22.2 h22
          refine go_goto C d_M_drop_26 (tgt := 71) (by decide) ?_
          refine go_iinc C d_M_drop_71 2 rfl (v := l3 + (1 : Int32)) rfl (lv' := [(3, .int (l3 + (1 : Int32))), (0, .ref qt), (1, .long a0)]) (by decide) rfl (n := 74) rfl ?_
          refine go_goto C d_M_drop_74 (tgt := 7) (by decide) ?_
          refine go_lv (lv' := [(0, .ref qt), (1, .long a0), (3, .int (l3 + (1 : Int32)))]) [1, 2, 0] rfl ?_
          exact ih (l3 + (1 : Int32)) x hf hE
  unfold f_M_drop at hf
  refine go_aload_n C d_M_drop_0 rfl 0 rfl (n := 1) rfl ?_
  refine go_iconst C (v := 0) d_M_drop_1 rfl (n := 2) rfl ?_
  refine go_put C d_M_drop_2 fl_M_89 (fs_M 0) rfl rfl rfl 0 rfl (Nat.le_of_ble_eq_true rfl) (n := 5) rfl ?_
  refine go_iconst C (v := 0) d_M_drop_5 rfl (n := 6) rfl ?_
  refine go_istore_n C d_M_drop_6 rfl (lv' := [(3, .int (0 : Int32)), (0, .ref qt), (1, .long a0)]) (by decide) rfl (n := 7) rfl ?_
  refine go_lv (lv' := [(0, .ref qt), (1, .long a0), (3, .int (0 : Int32))]) [1, 2, 0] rfl ?_
  obtain ⟨y7, hx7, hf⟩ := bindS hf
  refine K7 (0 : Int32) t_drafted t_draft t_weight FU (0 : Int32) y7 hx7 ⟨fun x7 hd => ?_, fun x7 hd => ?_⟩
  · subst hd
    dsimp only [Sum.elim_inl, Sum.elim_inr] at hf
    refine go_iconst C (v := 0) d_M_drop_77 rfl (n := 78) rfl ?_
    cases hf
    exact go_zret C d_M_drop_78 hr rfl hPOST
  · subst hd
    dsimp only [Sum.elim_inl, Sum.elim_inr] at hf
    refine go_aload_n C d_M_drop_29 rfl 0 rfl (n := 30) rfl ?_
    refine go_dup C d_M_drop_30 rfl (n := 31) rfl ?_
    refine go_get C d_M_drop_31 fl_M_114 0 rfl rfl (n := 34) rfl ?_
    refine go_iconst C (v := 1) d_M_drop_34 rfl (n := 35) rfl ?_
    refine go_isub C d_M_drop_35 (n := 36) rfl ?_
    refine go_put C d_M_drop_36 fl_M_114 (fs_M 1) rfl rfl rfl 0 rfl (Nat.le_of_ble_eq_true rfl) (n := 39) rfl ?_
    refine go_aload_n C d_M_drop_39 rfl 0 rfl (n := 40) rfl ?_
    refine go_get C d_M_drop_40 fl_M_7 0 rfl rfl (n := 43) rfl ?_
    refine go_iload_n C d_M_drop_43 rfl 1 rfl (n := 44) rfl ?_
    refine go_aload_n C d_M_drop_44 rfl 0 rfl (n := 45) rfl ?_
    refine go_get C d_M_drop_45 fl_M_7 0 rfl rfl (n := 48) rfl ?_
    refine go_aload_n C d_M_drop_48 rfl 0 rfl (n := 49) rfl ?_
    refine go_get C d_M_drop_49 fl_M_114 0 rfl rfl (n := 52) rfl ?_
    obtain ⟨hg52, hf⟩ := guardS hf
    refine go_lald C d_M_drop_52 1 rfl hg52 (n := 53) rfl ?_
    obtain ⟨hg53, hf⟩ := guardS hf
    refine go_last C d_M_drop_53 1 rfl hg53 (n := 54) rfl ?_
    refine go_aload_n C d_M_drop_54 rfl 0 rfl (n := 55) rfl ?_
    refine go_get C d_M_drop_55 fl_M_13 0 rfl rfl (n := 58) rfl ?_
    refine go_iload_n C d_M_drop_58 rfl 1 rfl (n := 59) rfl ?_
    refine go_aload_n C d_M_drop_59 rfl 0 rfl (n := 60) rfl ?_
    refine go_get C d_M_drop_60 fl_M_13 0 rfl rfl (n := 63) rfl ?_
    refine go_aload_n C d_M_drop_63 rfl 0 rfl (n := 64) rfl ?_
    refine go_get C d_M_drop_64 fl_M_114 0 rfl rfl (n := 67) rfl ?_
    obtain ⟨hg67, hf⟩ := guardS hf
    refine go_iald C d_M_drop_67 2 rfl hg67 (n := 68) rfl ?_
    obtain ⟨hg68, hf⟩ := guardS hf
    refine go_iast C d_M_drop_68 2 rfl hg68 (n := 69) rfl ?_
    refine go_iconst C (v := 1) d_M_drop_69 rfl (n := 70) rfl ?_
    cases hf
    exact go_zret C d_M_drop_70 hr rfl hPOST

def f_M_move_62b (a0 : Int32) (a1 : Int32) (v_t_number : Nat → Int32) (v_t_size : Nat → Int32) (v_t_readers : Nat → Int32) (v_t_states : Nat → Int32) (v_t_arcs : Nat → Int32) (rec : (Nat → Int64) → (Nat → Int32) → Int32 → Option ((Nat → Int64) × (Nat → Int32))) (v_t_words : Nat → Int64) (v_t_costs : Nat → Int32) (l3 : Int32) : Option ((Nat → Int64) × (Nat → Int32)) :=
  if (24 : Int32) ≤ l3 then some ( (v_t_words, v_t_costs)) else if okI (((24 : Int32) * a0) + l3) 72 = true then if okI (((24 : Int32) * a1) + l3) 72 = true then if okI (((24 : Int32) * a0) + l3) 72 = true then if okI (((24 : Int32) * a1) + l3) 72 = true then rec (vp_updL v_t_words (((24 : Int32) * a1) + l3).toNatClampNeg (v_t_words (((24 : Int32) * a0) + l3).toNatClampNeg)) (upd v_t_costs (((24 : Int32) * a1) + l3).toNatClampNeg (v_t_costs (((24 : Int32) * a0) + l3).toNatClampNeg)) (l3 + (1 : Int32)) else none else none else none else none
def f_M_move_62 (a0 : Int32) (a1 : Int32) (v_t_number : Nat → Int32) (v_t_size : Nat → Int32) (v_t_readers : Nat → Int32) (v_t_states : Nat → Int32) (v_t_arcs : Nat → Int32) : Nat → (Nat → Int64) → (Nat → Int32) → Int32 → Option ((Nat → Int64) × (Nat → Int32))
  | 0 => fun _ _ _ => none
  | n + 1 => f_M_move_62b a0 a1 v_t_number v_t_size v_t_readers v_t_states v_t_arcs (f_M_move_62 a0 a1 v_t_number v_t_size v_t_readers v_t_states v_t_arcs n)
def f_M_move (t_number : Nat → Int32) (t_size : Nat → Int32) (t_readers : Nat → Int32) (t_words : Nat → Int64) (t_costs : Nat → Int32) (t_states : Nat → Int32) (t_arcs : Nat → Int32) (a0 : Int32) (a1 : Int32) : Option ((Nat → Int32) × (Nat → Int32) × (Nat → Int32) × (Nat → Int64) × (Nat → Int32) × (Nat → Int32) × (Nat → Int32)) :=
  if okI a0 3 = true then if okI a1 3 = true then if okI a0 3 = true then if okI a1 3 = true then if okI a0 3 = true then if okI a1 3 = true then if okI a0 3 = true then if okI a1 3 = true then if okI a0 3 = true then if okI a1 3 = true then (f_M_move_62 a0 a1 (upd t_number a1.toNatClampNeg (t_number a0.toNatClampNeg)) (upd t_size a1.toNatClampNeg (t_size a0.toNatClampNeg)) (upd t_readers a1.toNatClampNeg (t_readers a0.toNatClampNeg)) (upd t_states a1.toNatClampNeg (t_states a0.toNatClampNeg)) (upd t_arcs a1.toNatClampNeg (t_arcs a0.toNatClampNeg)) FU t_words t_costs (0 : Int32)).bind (fun x62 => some (upd t_number a1.toNatClampNeg (t_number a0.toNatClampNeg), upd t_size a1.toNatClampNeg (t_size a0.toNatClampNeg), upd t_readers a1.toNatClampNeg (t_readers a0.toNatClampNeg), x62.1, x62.2, upd t_states a1.toNatClampNeg (t_states a0.toNatClampNeg), upd t_arcs a1.toNatClampNeg (t_arcs a0.toNatClampNeg))) else none else none else none else none else none else none else none else none else none else none
set_option maxRecDepth 100000 in
set_option maxHeartbeats 4000000 in
theorem c_M_move (l : Launch) (D : va_G) (tc : Nat → ClassId) (qt : Nat) (qt_draft : Nat) (qt_weight : Nat) (qt_number : Nat) (qt_size : Nat) (qt_readers : Nat) (qt_words : Nat) (qt_costs : Nat) (qt_states : Nat) (qt_arcs : Nat) (qt_from : Nat) (qt_letters : Nat) (qt_end : Nat) (qt_lowest : Nat) (qt_key : Nat) (qt_given : Nat) (qt_keys : Nat) (qt_table : Nat) (qt_first : Nat) (qt_second : Nat) (qt_learnt : Nat) (qt_phrase : Nat) (qt_corrected : Nat) (qt_many : Nat) (qt_candidates : Nat) (qt_alone : Nat) (qt_choice : Nat) (t_thrown : Int32) (t_drafted : Int32) (t_there : Int32) (t_made : Int32) (t_beginnings : Int32) (t_givenSize : Int32) (t_pairs : Int32) (t_said : Int32) (t_answered : Int32) (t_draft : Nat → Int64) (t_weight : Nat → Int32) (t_number : Nat → Int32) (t_size : Nat → Int32) (t_readers : Nat → Int32) (t_words : Nat → Int64) (t_costs : Nat → Int32) (t_states : Nat → Int32) (t_arcs : Nat → Int32) (t_from : Nat → Int32) (t_letters : Nat → Int32) (t_end : Nat → Int32) (t_lowest : Nat → Int32) (t_key : Nat → Int64) (t_given : Nat → Int64) (t_keys : Nat → Int32) (t_table : Nat → Int32) (t_first : Nat → Int64) (t_second : Nat → Int64) (t_learnt : Nat → Int32) (t_phrase : Nat → Int64) (t_corrected : Nat → Int64) (t_many : Nat → Int32) (t_candidates : Nat → Int64) (t_alone : Nat → Int32) (t_choice : Nat → Int32) (a0 : Int32) (a1 : Int32) {o : ((Nat → Int32) × (Nat → Int32) × (Nat → Int32) × (Nat → Int64) × (Nat → Int32) × (Nat → Int32) × (Nat → Int32))} (hf : f_M_move t_number t_size t_readers t_words t_costs t_states t_arcs a0 a1 = some o) (POST : Option Value → va_W → Prop) (hPOST : POST none [(qt, .inr (8, [.int t_thrown, .int t_drafted, .ref qt_draft, .ref qt_weight, .int t_there, .int t_made, .ref qt_number, .ref qt_size, .ref qt_readers, .ref qt_words, .ref qt_costs, .ref qt_states, .ref qt_arcs, .int t_beginnings, .ref qt_from, .ref qt_letters, .ref qt_end, .ref qt_lowest, .ref qt_key, .int t_givenSize, .ref qt_given, .ref qt_keys, .ref qt_table, .int t_pairs, .ref qt_first, .ref qt_second, .ref qt_learnt, .int t_said, .ref qt_phrase, .int t_answered, .ref qt_corrected, .ref qt_many, .ref qt_candidates, .ref qt_alone, .ref qt_choice])), (qt_draft, .inl (tc 1, 24, .inr (.inl t_draft))), (qt_weight, .inl (tc 0, 24, .inl t_weight)), (qt_number, .inl (tc 0, 3, .inl o.1)), (qt_size, .inl (tc 0, 3, .inl o.2.1)), (qt_readers, .inl (tc 0, 3, .inl o.2.2.1)), (qt_words, .inl (tc 1, 72, .inr (.inl o.2.2.2.1))), (qt_costs, .inl (tc 0, 72, .inl o.2.2.2.2.1)), (qt_states, .inl (tc 0, 3, .inl o.2.2.2.2.2.1)), (qt_arcs, .inl (tc 0, 3, .inl o.2.2.2.2.2.2)), (qt_from, .inl (tc 0, 216, .inl t_from)), (qt_letters, .inl (tc 0, 216, .inl t_letters)), (qt_end, .inl (tc 0, 216, .inl t_end)), (qt_lowest, .inl (tc 0, 216, .inl t_lowest)), (qt_key, .inl (tc 1, 216, .inr (.inl t_key))), (qt_given, .inl (tc 1, 24, .inr (.inl t_given))), (qt_keys, .inl (tc 0, 24, .inl t_keys)), (qt_table, .inl (tc 0, 81, .inl t_table)), (qt_first, .inl (tc 1, 40, .inr (.inl t_first))), (qt_second, .inl (tc 1, 40, .inr (.inl t_second))), (qt_learnt, .inl (tc 0, 40, .inl t_learnt)), (qt_phrase, .inl (tc 1, 4, .inr (.inl t_phrase))), (qt_corrected, .inl (tc 1, 4, .inr (.inl t_corrected))), (qt_many, .inl (tc 0, 4, .inl t_many)), (qt_candidates, .inl (tc 1, 96, .inr (.inl t_candidates))), (qt_alone, .inl (tc 0, 96, .inl t_alone)), (qt_choice, .inl (tc 0, 4, .inl t_choice))]) : Std l y_M_move (.code y_M_move b_M_move 4 none) { frames := 0, cells := 0, slots := 0, locals := 0 } D tc [.ref qt, .int a0, .int a1] [(qt, .inr (8, [.int t_thrown, .int t_drafted, .ref qt_draft, .ref qt_weight, .int t_there, .int t_made, .ref qt_number, .ref qt_size, .ref qt_readers, .ref qt_words, .ref qt_costs, .ref qt_states, .ref qt_arcs, .int t_beginnings, .ref qt_from, .ref qt_letters, .ref qt_end, .ref qt_lowest, .ref qt_key, .int t_givenSize, .ref qt_given, .ref qt_keys, .ref qt_table, .int t_pairs, .ref qt_first, .ref qt_second, .ref qt_learnt, .int t_said, .ref qt_phrase, .int t_answered, .ref qt_corrected, .ref qt_many, .ref qt_candidates, .ref qt_alone, .ref qt_choice])), (qt_draft, .inl (tc 1, 24, .inr (.inl t_draft))), (qt_weight, .inl (tc 0, 24, .inl t_weight)), (qt_number, .inl (tc 0, 3, .inl t_number)), (qt_size, .inl (tc 0, 3, .inl t_size)), (qt_readers, .inl (tc 0, 3, .inl t_readers)), (qt_words, .inl (tc 1, 72, .inr (.inl t_words))), (qt_costs, .inl (tc 0, 72, .inl t_costs)), (qt_states, .inl (tc 0, 3, .inl t_states)), (qt_arcs, .inl (tc 0, 3, .inl t_arcs)), (qt_from, .inl (tc 0, 216, .inl t_from)), (qt_letters, .inl (tc 0, 216, .inl t_letters)), (qt_end, .inl (tc 0, 216, .inl t_end)), (qt_lowest, .inl (tc 0, 216, .inl t_lowest)), (qt_key, .inl (tc 1, 216, .inr (.inl t_key))), (qt_given, .inl (tc 1, 24, .inr (.inl t_given))), (qt_keys, .inl (tc 0, 24, .inl t_keys)), (qt_table, .inl (tc 0, 81, .inl t_table)), (qt_first, .inl (tc 1, 40, .inr (.inl t_first))), (qt_second, .inl (tc 1, 40, .inr (.inl t_second))), (qt_learnt, .inl (tc 0, 40, .inl t_learnt)), (qt_phrase, .inl (tc 1, 4, .inr (.inl t_phrase))), (qt_corrected, .inl (tc 1, 4, .inr (.inl t_corrected))), (qt_many, .inl (tc 0, 4, .inl t_many)), (qt_candidates, .inl (tc 1, 96, .inr (.inl t_candidates))), (qt_alone, .inl (tc 0, 96, .inl t_alone)), (qt_choice, .inl (tc 0, 4, .inl t_choice))] 0 0 POST := by
  refine std_of (lv := [(0, .ref qt), (1, .int a0), (2, .int a1)]) (by decide) (Nat.le_of_ble_eq_true rfl) rfl (fun p e s m args below meth c A C hr hnm => ?_)
  have K62 : ∀ (v_t_number : Nat → Int32) (v_t_size : Nat → Int32) (v_t_readers : Nat → Int32) (v_t_states : Nat → Int32) (v_t_arcs : Nat → Int32) (n : Nat) (v_t_words : Nat → Int64) (v_t_costs : Nat → Int32) (l3 : Int32) (x : ((Nat → Int64) × (Nat → Int32))), f_M_move_62 a0 a1 v_t_number v_t_size v_t_readers v_t_states v_t_arcs n v_t_words v_t_costs l3 = some x → (Go p l e { frames := 0, cells := 0, slots := 0, locals := 0 } s m args below meth c (MQ below (Qs D A POST) args s 0 0 A) D A 4 0 0 [(qt, .inr (8, [.int t_thrown, .int t_drafted, .ref qt_draft, .ref qt_weight, .int t_there, .int t_made, .ref qt_number, .ref qt_size, .ref qt_readers, .ref qt_words, .ref qt_costs, .ref qt_states, .ref qt_arcs, .int t_beginnings, .ref qt_from, .ref qt_letters, .ref qt_end, .ref qt_lowest, .ref qt_key, .int t_givenSize, .ref qt_given, .ref qt_keys, .ref qt_table, .int t_pairs, .ref qt_first, .ref qt_second, .ref qt_learnt, .int t_said, .ref qt_phrase, .int t_answered, .ref qt_corrected, .ref qt_many, .ref qt_candidates, .ref qt_alone, .ref qt_choice])), (qt_draft, .inl (tc 1, 24, .inr (.inl t_draft))), (qt_weight, .inl (tc 0, 24, .inl t_weight)), (qt_number, .inl (tc 0, 3, .inl v_t_number)), (qt_size, .inl (tc 0, 3, .inl v_t_size)), (qt_readers, .inl (tc 0, 3, .inl v_t_readers)), (qt_words, .inl (tc 1, 72, .inr (.inl x.1))), (qt_costs, .inl (tc 0, 72, .inl x.2)), (qt_states, .inl (tc 0, 3, .inl v_t_states)), (qt_arcs, .inl (tc 0, 3, .inl v_t_arcs)), (qt_from, .inl (tc 0, 216, .inl t_from)), (qt_letters, .inl (tc 0, 216, .inl t_letters)), (qt_end, .inl (tc 0, 216, .inl t_end)), (qt_lowest, .inl (tc 0, 216, .inl t_lowest)), (qt_key, .inl (tc 1, 216, .inr (.inl t_key))), (qt_given, .inl (tc 1, 24, .inr (.inl t_given))), (qt_keys, .inl (tc 0, 24, .inl t_keys)), (qt_table, .inl (tc 0, 81, .inl t_table)), (qt_first, .inl (tc 1, 40, .inr (.inl t_first))), (qt_second, .inl (tc 1, 40, .inr (.inl t_second))), (qt_learnt, .inl (tc 0, 40, .inl t_learnt)), (qt_phrase, .inl (tc 1, 4, .inr (.inl t_phrase))), (qt_corrected, .inl (tc 1, 4, .inr (.inl t_corrected))), (qt_many, .inl (tc 0, 4, .inl t_many)), (qt_candidates, .inl (tc 1, 96, .inr (.inl t_candidates))), (qt_alone, .inl (tc 0, 96, .inl t_alone)), (qt_choice, .inl (tc 0, 4, .inl t_choice))] [] 118 []) → Go p l e { frames := 0, cells := 0, slots := 0, locals := 0 } s m args below meth c (MQ below (Qs D A POST) args s 0 0 A) D A 4 0 0 [(qt, .inr (8, [.int t_thrown, .int t_drafted, .ref qt_draft, .ref qt_weight, .int t_there, .int t_made, .ref qt_number, .ref qt_size, .ref qt_readers, .ref qt_words, .ref qt_costs, .ref qt_states, .ref qt_arcs, .int t_beginnings, .ref qt_from, .ref qt_letters, .ref qt_end, .ref qt_lowest, .ref qt_key, .int t_givenSize, .ref qt_given, .ref qt_keys, .ref qt_table, .int t_pairs, .ref qt_first, .ref qt_second, .ref qt_learnt, .int t_said, .ref qt_phrase, .int t_answered, .ref qt_corrected, .ref qt_many, .ref qt_candidates, .ref qt_alone, .ref qt_choice])), (qt_draft, .inl (tc 1, 24, .inr (.inl t_draft))), (qt_weight, .inl (tc 0, 24, .inl t_weight)), (qt_number, .inl (tc 0, 3, .inl v_t_number)), (qt_size, .inl (tc 0, 3, .inl v_t_size)), (qt_readers, .inl (tc 0, 3, .inl v_t_readers)), (qt_words, .inl (tc 1, 72, .inr (.inl v_t_words))), (qt_costs, .inl (tc 0, 72, .inl v_t_costs)), (qt_states, .inl (tc 0, 3, .inl v_t_states)), (qt_arcs, .inl (tc 0, 3, .inl v_t_arcs)), (qt_from, .inl (tc 0, 216, .inl t_from)), (qt_letters, .inl (tc 0, 216, .inl t_letters)), (qt_end, .inl (tc 0, 216, .inl t_end)), (qt_lowest, .inl (tc 0, 216, .inl t_lowest)), (qt_key, .inl (tc 1, 216, .inr (.inl t_key))), (qt_given, .inl (tc 1, 24, .inr (.inl t_given))), (qt_keys, .inl (tc 0, 24, .inl t_keys)), (qt_table, .inl (tc 0, 81, .inl t_table)), (qt_first, .inl (tc 1, 40, .inr (.inl t_first))), (qt_second, .inl (tc 1, 40, .inr (.inl t_second))), (qt_learnt, .inl (tc 0, 40, .inl t_learnt)), (qt_phrase, .inl (tc 1, 4, .inr (.inl t_phrase))), (qt_corrected, .inl (tc 1, 4, .inr (.inl t_corrected))), (qt_many, .inl (tc 0, 4, .inl t_many)), (qt_candidates, .inl (tc 1, 96, .inr (.inl t_candidates))), (qt_alone, .inl (tc 0, 96, .inl t_alone)), (qt_choice, .inl (tc 0, 4, .inl t_choice))] [(0, .ref qt), (1, .int a0), (2, .int a1), (3, .int l3)] 62 [] := by
    intro v_t_number v_t_size v_t_readers v_t_states v_t_arcs n
    induction n with
    | zero =>
      intro v_t_words v_t_costs l3 x hf hE
      simp [f_M_move_62] at hf
    | succ n ih =>
      intro v_t_words v_t_costs l3 x hf hE
      have hf : f_M_move_62b a0 a1 v_t_number v_t_size v_t_readers v_t_states v_t_arcs (f_M_move_62 a0 a1 v_t_number v_t_size v_t_readers v_t_states v_t_arcs n) v_t_words v_t_costs l3 = some x := hf
      unfold f_M_move_62b at hf
      refine go_iload_n C d_M_move_62 rfl 3 rfl (n := 63) rfl ?_
      refine go_bipush C (v := 24) d_M_move_63 rfl (n := 65) rfl ?_
      have hi65 := iteS hf
      refine go_icmp_ge C d_M_move_65 (tgt := 118) (by decide) (n := 68) rfl (fun h65 => ?_) (fun h65 => ?_)
      · have hf := hi65.1 h65
        refine go_lv (lv' := []) [] rfl ?_
        cases hf
        exact hE
      · have hf := hi65.2 h65
        refine go_aload_n C d_M_move_68 rfl 0 rfl (n := 69) rfl ?_
        refine go_get C d_M_move_69 fl_M_26 0 rfl rfl (n := 72) rfl ?_
        refine go_bipush C (v := 24) d_M_move_72 rfl (n := 74) rfl ?_
        refine go_iload_n C d_M_move_74 rfl 2 rfl (n := 75) rfl ?_
        refine go_imul C d_M_move_75 (n := 76) rfl ?_
        refine go_iload_n C d_M_move_76 rfl 3 rfl (n := 77) rfl ?_
        refine go_iadd C d_M_move_77 (n := 78) rfl ?_
        refine go_aload_n C d_M_move_78 rfl 0 rfl (n := 79) rfl ?_
        refine go_get C d_M_move_79 fl_M_26 0 rfl rfl (n := 82) rfl ?_
        refine go_bipush C (v := 24) d_M_move_82 rfl (n := 84) rfl ?_
        refine go_iload_n C d_M_move_84 rfl 1 rfl (n := 85) rfl ?_
        refine go_imul C d_M_move_85 (n := 86) rfl ?_
        refine go_iload_n C d_M_move_86 rfl 3 rfl (n := 87) rfl ?_
        refine go_iadd C d_M_move_87 (n := 88) rfl ?_
        obtain ⟨hg88, hf⟩ := guardS hf
        refine go_lald C d_M_move_88 6 rfl hg88 (n := 89) rfl ?_
        obtain ⟨hg89, hf⟩ := guardS hf
        refine go_last C d_M_move_89 6 rfl hg89 (n := 90) rfl ?_
        refine go_aload_n C d_M_move_90 rfl 0 rfl (n := 91) rfl ?_
        refine go_get C d_M_move_91 fl_M_29 0 rfl rfl (n := 94) rfl ?_
        refine go_bipush C (v := 24) d_M_move_94 rfl (n := 96) rfl ?_
        refine go_iload_n C d_M_move_96 rfl 2 rfl (n := 97) rfl ?_
        refine go_imul C d_M_move_97 (n := 98) rfl ?_
        refine go_iload_n C d_M_move_98 rfl 3 rfl (n := 99) rfl ?_
        refine go_iadd C d_M_move_99 (n := 100) rfl ?_
        refine go_aload_n C d_M_move_100 rfl 0 rfl (n := 101) rfl ?_
        refine go_get C d_M_move_101 fl_M_29 0 rfl rfl (n := 104) rfl ?_
        refine go_bipush C (v := 24) d_M_move_104 rfl (n := 106) rfl ?_
        refine go_iload_n C d_M_move_106 rfl 1 rfl (n := 107) rfl ?_
        refine go_imul C d_M_move_107 (n := 108) rfl ?_
        refine go_iload_n C d_M_move_108 rfl 3 rfl (n := 109) rfl ?_
        refine go_iadd C d_M_move_109 (n := 110) rfl ?_
        obtain ⟨hg110, hf⟩ := guardS hf
        refine go_iald C d_M_move_110 7 rfl hg110 (n := 111) rfl ?_
        obtain ⟨hg111, hf⟩ := guardS hf
        refine go_iast C d_M_move_111 7 rfl hg111 (n := 112) rfl ?_
        refine go_iinc C d_M_move_112 3 rfl (v := l3 + (1 : Int32)) rfl (lv' := [(3, .int (l3 + (1 : Int32))), (0, .ref qt), (1, .int a0), (2, .int a1)]) (by decide) rfl (n := 115) rfl ?_
        refine go_goto C d_M_move_115 (tgt := 62) (by decide) ?_
        refine go_lv (lv' := [(0, .ref qt), (1, .int a0), (2, .int a1), (3, .int (l3 + (1 : Int32)))]) [1, 2, 3, 0] rfl ?_
        exact ih (vp_updL v_t_words (((24 : Int32) * a1) + l3).toNatClampNeg (v_t_words (((24 : Int32) * a0) + l3).toNatClampNeg)) (upd v_t_costs (((24 : Int32) * a1) + l3).toNatClampNeg (v_t_costs (((24 : Int32) * a0) + l3).toNatClampNeg)) (l3 + (1 : Int32)) x hf hE
  unfold f_M_move at hf
  refine go_aload_n C d_M_move_0 rfl 0 rfl (n := 1) rfl ?_
  refine go_get C d_M_move_1 fl_M_17 0 rfl rfl (n := 4) rfl ?_
  refine go_iload_n C d_M_move_4 rfl 2 rfl (n := 5) rfl ?_
  refine go_aload_n C d_M_move_5 rfl 0 rfl (n := 6) rfl ?_
  refine go_get C d_M_move_6 fl_M_17 0 rfl rfl (n := 9) rfl ?_
  refine go_iload_n C d_M_move_9 rfl 1 rfl (n := 10) rfl ?_
  obtain ⟨hg10, hf⟩ := guardS hf
  refine go_iald C d_M_move_10 3 rfl hg10 (n := 11) rfl ?_
  obtain ⟨hg11, hf⟩ := guardS hf
  refine go_iast C d_M_move_11 3 rfl hg11 (n := 12) rfl ?_
  refine go_aload_n C d_M_move_12 rfl 0 rfl (n := 13) rfl ?_
  refine go_get C d_M_move_13 fl_M_20 0 rfl rfl (n := 16) rfl ?_
  refine go_iload_n C d_M_move_16 rfl 2 rfl (n := 17) rfl ?_
  refine go_aload_n C d_M_move_17 rfl 0 rfl (n := 18) rfl ?_
  refine go_get C d_M_move_18 fl_M_20 0 rfl rfl (n := 21) rfl ?_
  refine go_iload_n C d_M_move_21 rfl 1 rfl (n := 22) rfl ?_
  obtain ⟨hg22, hf⟩ := guardS hf
  refine go_iald C d_M_move_22 4 rfl hg22 (n := 23) rfl ?_
  obtain ⟨hg23, hf⟩ := guardS hf
  refine go_iast C d_M_move_23 4 rfl hg23 (n := 24) rfl ?_
  refine go_aload_n C d_M_move_24 rfl 0 rfl (n := 25) rfl ?_
  refine go_get C d_M_move_25 fl_M_23 0 rfl rfl (n := 28) rfl ?_
  refine go_iload_n C d_M_move_28 rfl 2 rfl (n := 29) rfl ?_
  refine go_aload_n C d_M_move_29 rfl 0 rfl (n := 30) rfl ?_
  refine go_get C d_M_move_30 fl_M_23 0 rfl rfl (n := 33) rfl ?_
  refine go_iload_n C d_M_move_33 rfl 1 rfl (n := 34) rfl ?_
  obtain ⟨hg34, hf⟩ := guardS hf
  refine go_iald C d_M_move_34 5 rfl hg34 (n := 35) rfl ?_
  obtain ⟨hg35, hf⟩ := guardS hf
  refine go_iast C d_M_move_35 5 rfl hg35 (n := 36) rfl ?_
  refine go_aload_n C d_M_move_36 rfl 0 rfl (n := 37) rfl ?_
  refine go_get C d_M_move_37 fl_M_32 0 rfl rfl (n := 40) rfl ?_
  refine go_iload_n C d_M_move_40 rfl 2 rfl (n := 41) rfl ?_
  refine go_aload_n C d_M_move_41 rfl 0 rfl (n := 42) rfl ?_
  refine go_get C d_M_move_42 fl_M_32 0 rfl rfl (n := 45) rfl ?_
  refine go_iload_n C d_M_move_45 rfl 1 rfl (n := 46) rfl ?_
  obtain ⟨hg46, hf⟩ := guardS hf
  refine go_iald C d_M_move_46 8 rfl hg46 (n := 47) rfl ?_
  obtain ⟨hg47, hf⟩ := guardS hf
  refine go_iast C d_M_move_47 8 rfl hg47 (n := 48) rfl ?_
  refine go_aload_n C d_M_move_48 rfl 0 rfl (n := 49) rfl ?_
  refine go_get C d_M_move_49 fl_M_35 0 rfl rfl (n := 52) rfl ?_
  refine go_iload_n C d_M_move_52 rfl 2 rfl (n := 53) rfl ?_
  refine go_aload_n C d_M_move_53 rfl 0 rfl (n := 54) rfl ?_
  refine go_get C d_M_move_54 fl_M_35 0 rfl rfl (n := 57) rfl ?_
  refine go_iload_n C d_M_move_57 rfl 1 rfl (n := 58) rfl ?_
  obtain ⟨hg58, hf⟩ := guardS hf
  refine go_iald C d_M_move_58 9 rfl hg58 (n := 59) rfl ?_
  obtain ⟨hg59, hf⟩ := guardS hf
  refine go_iast C d_M_move_59 9 rfl hg59 (n := 60) rfl ?_
  refine go_iconst C (v := 0) d_M_move_60 rfl (n := 61) rfl ?_
  refine go_istore_n C d_M_move_61 rfl (lv' := [(3, .int (0 : Int32)), (0, .ref qt), (1, .int a0), (2, .int a1)]) (by decide) rfl (n := 62) rfl ?_
  refine go_lv (lv' := [(0, .ref qt), (1, .int a0), (2, .int a1), (3, .int (0 : Int32))]) [1, 2, 3, 0] rfl ?_
  obtain ⟨x62, hx62, hf⟩ := bindS hf
  refine K62 (upd t_number a1.toNatClampNeg (t_number a0.toNatClampNeg)) (upd t_size a1.toNatClampNeg (t_size a0.toNatClampNeg)) (upd t_readers a1.toNatClampNeg (t_readers a0.toNatClampNeg)) (upd t_states a1.toNatClampNeg (t_states a0.toNatClampNeg)) (upd t_arcs a1.toNatClampNeg (t_arcs a0.toNatClampNeg)) FU t_words t_costs (0 : Int32) x62 hx62 ?_
  cases hf
  exact go_vret C d_M_move_118 hr hPOST
