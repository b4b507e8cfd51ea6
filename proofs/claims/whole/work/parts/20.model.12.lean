def f_M_give_6b (a0 : Int64) (a1 : Int32) (v_t_givenSize : Int32) (rec : (Nat → Int64) → (Nat → Int32) → Int32 → Option ((Nat → Int64) × (Nat → Int32) × Int32)) (v_t_given : Nat → Int64) (v_t_keys : Nat → Int32) (l4 : Int32) : Option ((Nat → Int64) × (Nat → Int32) × Int32) :=
  if l4 ≤ 0 then some ( (v_t_given, v_t_keys, l4)) else if okI (l4 - (1 : Int32)) 24 = true then if (v_t_keys (l4 - (1 : Int32)).toNatClampNeg) ≤ a1 then some ( (v_t_given, v_t_keys, l4)) else if okI (l4 - (1 : Int32)) 24 = true then if okI l4 24 = true then if okI (l4 - (1 : Int32)) 24 = true then if okI l4 24 = true then rec (vp_updL v_t_given l4.toNatClampNeg (v_t_given (l4 - (1 : Int32)).toNatClampNeg)) (upd v_t_keys l4.toNatClampNeg (v_t_keys (l4 - (1 : Int32)).toNatClampNeg)) (l4 + (-1 : Int32)) else none else none else none else none else none
def f_M_give_6 (a0 : Int64) (a1 : Int32) (v_t_givenSize : Int32) : Nat → (Nat → Int64) → (Nat → Int32) → Int32 → Option ((Nat → Int64) × (Nat → Int32) × Int32)
  | 0 => fun _ _ _ => none
  | n + 1 => f_M_give_6b a0 a1 v_t_givenSize (f_M_give_6 a0 a1 v_t_givenSize n)
def f_M_give_62 (a0 : Int64) (a1 : Int32) (v_t_givenSize : Int32) (v_t_given : Nat → Int64) (v_t_keys : Nat → Int32) (l4 : Int32) : Option (Int32 × (Nat → Int64) × (Nat → Int32)) :=
  if okI l4 24 = true then if okI l4 24 = true then some (v_t_givenSize + (1 : Int32), vp_updL v_t_given l4.toNatClampNeg a0, upd v_t_keys l4.toNatClampNeg a1) else none else none
def f_M_give (t_givenSize : Int32) (t_given : Nat → Int64) (t_keys : Nat → Int32) (a0 : Int64) (a1 : Int32) : Option (Int32 × (Nat → Int64) × (Nat → Int32)) :=
  (f_M_give_6 a0 a1 t_givenSize FU t_given t_keys t_givenSize).bind (fun x6 => f_M_give_62 a0 a1 t_givenSize x6.1 x6.2.1 x6.2.2)
set_option maxRecDepth 100000 in
set_option maxHeartbeats 4000000 in
theorem c_M_give (l : Launch) (D : va_G) (tc : Nat → ClassId) (qt : Nat) (qt_draft : Nat) (qt_weight : Nat) (qt_number : Nat) (qt_size : Nat) (qt_readers : Nat) (qt_words : Nat) (qt_costs : Nat) (qt_states : Nat) (qt_arcs : Nat) (qt_from : Nat) (qt_letters : Nat) (qt_end : Nat) (qt_lowest : Nat) (qt_key : Nat) (qt_given : Nat) (qt_keys : Nat) (qt_table : Nat) (qt_first : Nat) (qt_second : Nat) (qt_learnt : Nat) (qt_phrase : Nat) (qt_corrected : Nat) (qt_many : Nat) (qt_candidates : Nat) (qt_alone : Nat) (qt_choice : Nat) (t_thrown : Int32) (t_drafted : Int32) (t_there : Int32) (t_made : Int32) (t_beginnings : Int32) (t_givenSize : Int32) (t_pairs : Int32) (t_said : Int32) (t_answered : Int32) (t_draft : Nat → Int64) (t_weight : Nat → Int32) (t_number : Nat → Int32) (t_size : Nat → Int32) (t_readers : Nat → Int32) (t_words : Nat → Int64) (t_costs : Nat → Int32) (t_states : Nat → Int32) (t_arcs : Nat → Int32) (t_from : Nat → Int32) (t_letters : Nat → Int32) (t_end : Nat → Int32) (t_lowest : Nat → Int32) (t_key : Nat → Int64) (t_given : Nat → Int64) (t_keys : Nat → Int32) (t_table : Nat → Int32) (t_first : Nat → Int64) (t_second : Nat → Int64) (t_learnt : Nat → Int32) (t_phrase : Nat → Int64) (t_corrected : Nat → Int64) (t_many : Nat → Int32) (t_candidates : Nat → Int64) (t_alone : Nat → Int32) (t_choice : Nat → Int32) (a0 : Int64) (a1 : Int32) {o : (Int32 × (Nat → Int64) × (Nat → Int32))} (hf : f_M_give t_givenSize t_given t_keys a0 a1 = some o) (POST : Option Value → va_W → Prop) (hPOST : POST none [(qt, .inr (8, [.int t_thrown, .int t_drafted, .ref qt_draft, .ref qt_weight, .int t_there, .int t_made, .ref qt_number, .ref qt_size, .ref qt_readers, .ref qt_words, .ref qt_costs, .ref qt_states, .ref qt_arcs, .int t_beginnings, .ref qt_from, .ref qt_letters, .ref qt_end, .ref qt_lowest, .ref qt_key, .int o.1, .ref qt_given, .ref qt_keys, .ref qt_table, .int t_pairs, .ref qt_first, .ref qt_second, .ref qt_learnt, .int t_said, .ref qt_phrase, .int t_answered, .ref qt_corrected, .ref qt_many, .ref qt_candidates, .ref qt_alone, .ref qt_choice])), (qt_draft, .inl (tc 1, 24, .inr (.inl t_draft))), (qt_weight, .inl (tc 0, 24, .inl t_weight)), (qt_number, .inl (tc 0, 3, .inl t_number)), (qt_size, .inl (tc 0, 3, .inl t_size)), (qt_readers, .inl (tc 0, 3, .inl t_readers)), (qt_words, .inl (tc 1, 72, .inr (.inl t_words))), (qt_costs, .inl (tc 0, 72, .inl t_costs)), (qt_states, .inl (tc 0, 3, .inl t_states)), (qt_arcs, .inl (tc 0, 3, .inl t_arcs)), (qt_from, .inl (tc 0, 216, .inl t_from)), (qt_letters, .inl (tc 0, 216, .inl t_letters)), (qt_end, .inl (tc 0, 216, .inl t_end)), (qt_lowest, .inl (tc 0, 216, .inl t_lowest)), (qt_key, .inl (tc 1, 216, .inr (.inl t_key))), (qt_given, .inl (tc 1, 24, .inr (.inl o.2.1))), (qt_keys, .inl (tc 0, 24, .inl o.2.2)), (qt_table, .inl (tc 0, 81, .inl t_table)), (qt_first, .inl (tc 1, 40, .inr (.inl t_first))), (qt_second, .inl (tc 1, 40, .inr (.inl t_second))), (qt_learnt, .inl (tc 0, 40, .inl t_learnt)), (qt_phrase, .inl (tc 1, 4, .inr (.inl t_phrase))), (qt_corrected, .inl (tc 1, 4, .inr (.inl t_corrected))), (qt_many, .inl (tc 0, 4, .inl t_many)), (qt_candidates, .inl (tc 1, 96, .inr (.inl t_candidates))), (qt_alone, .inl (tc 0, 96, .inl t_alone)), (qt_choice, .inl (tc 0, 4, .inl t_choice))]) : Std l y_M_give (.code y_M_give b_M_give 5 none) { frames := 0, cells := 0, slots := 0, locals := 0 } D tc [.ref qt, .long a0, .int a1] [(qt, .inr (8, [.int t_thrown, .int t_drafted, .ref qt_draft, .ref qt_weight, .int t_there, .int t_made, .ref qt_number, .ref qt_size, .ref qt_readers, .ref qt_words, .ref qt_costs, .ref qt_states, .ref qt_arcs, .int t_beginnings, .ref qt_from, .ref qt_letters, .ref qt_end, .ref qt_lowest, .ref qt_key, .int t_givenSize, .ref qt_given, .ref qt_keys, .ref qt_table, .int t_pairs, .ref qt_first, .ref qt_second, .ref qt_learnt, .int t_said, .ref qt_phrase, .int t_answered, .ref qt_corrected, .ref qt_many, .ref qt_candidates, .ref qt_alone, .ref qt_choice])), (qt_draft, .inl (tc 1, 24, .inr (.inl t_draft))), (qt_weight, .inl (tc 0, 24, .inl t_weight)), (qt_number, .inl (tc 0, 3, .inl t_number)), (qt_size, .inl (tc 0, 3, .inl t_size)), (qt_readers, .inl (tc 0, 3, .inl t_readers)), (qt_words, .inl (tc 1, 72, .inr (.inl t_words))), (qt_costs, .inl (tc 0, 72, .inl t_costs)), (qt_states, .inl (tc 0, 3, .inl t_states)), (qt_arcs, .inl (tc 0, 3, .inl t_arcs)), (qt_from, .inl (tc 0, 216, .inl t_from)), (qt_letters, .inl (tc 0, 216, .inl t_letters)), (qt_end, .inl (tc 0, 216, .inl t_end)), (qt_lowest, .inl (tc 0, 216, .inl t_lowest)), (qt_key, .inl (tc 1, 216, .inr (.inl t_key))), (qt_given, .inl (tc 1, 24, .inr (.inl t_given))), (qt_keys, .inl (tc 0, 24, .inl t_keys)), (qt_table, .inl (tc 0, 81, .inl t_table)), (qt_first, .inl (tc 1, 40, .inr (.inl t_first))), (qt_second, .inl (tc 1, 40, .inr (.inl t_second))), (qt_learnt, .inl (tc 0, 40, .inl t_learnt)), (qt_phrase, .inl (tc 1, 4, .inr (.inl t_phrase))), (qt_corrected, .inl (tc 1, 4, .inr (.inl t_corrected))), (qt_many, .inl (tc 0, 4, .inl t_many)), (qt_candidates, .inl (tc 1, 96, .inr (.inl t_candidates))), (qt_alone, .inl (tc 0, 96, .inl t_alone)), (qt_choice, .inl (tc 0, 4, .inl t_choice))] 0 0 POST := by
  refine std_of (lv := [(0, .ref qt), (1, .long a0), (3, .int a1)]) (by decide) (Nat.le_of_ble_eq_true rfl) rfl (fun p e s m args below meth c A C hr hnm => ?_)
  have K6 : ∀ (v_t_givenSize : Int32) (n : Nat) (v_t_given : Nat → Int64) (v_t_keys : Nat → Int32) (l4 : Int32) (x : ((Nat → Int64) × (Nat → Int32) × Int32)), f_M_give_6 a0 a1 v_t_givenSize n v_t_given v_t_keys l4 = some x → (Go p l e { frames := 0, cells := 0, slots := 0, locals := 0 } s m args below meth c (MQ below (Qs D A POST) args s 0 0 A) D A 5 0 0 [(qt, .inr (8, [.int t_thrown, .int t_drafted, .ref qt_draft, .ref qt_weight, .int t_there, .int t_made, .ref qt_number, .ref qt_size, .ref qt_readers, .ref qt_words, .ref qt_costs, .ref qt_states, .ref qt_arcs, .int t_beginnings, .ref qt_from, .ref qt_letters, .ref qt_end, .ref qt_lowest, .ref qt_key, .int v_t_givenSize, .ref qt_given, .ref qt_keys, .ref qt_table, .int t_pairs, .ref qt_first, .ref qt_second, .ref qt_learnt, .int t_said, .ref qt_phrase, .int t_answered, .ref qt_corrected, .ref qt_many, .ref qt_candidates, .ref qt_alone, .ref qt_choice])), (qt_draft, .inl (tc 1, 24, .inr (.inl t_draft))), (qt_weight, .inl (tc 0, 24, .inl t_weight)), (qt_number, .inl (tc 0, 3, .inl t_number)), (qt_size, .inl (tc 0, 3, .inl t_size)), (qt_readers, .inl (tc 0, 3, .inl t_readers)), (qt_words, .inl (tc 1, 72, .inr (.inl t_words))), (qt_costs, .inl (tc 0, 72, .inl t_costs)), (qt_states, .inl (tc 0, 3, .inl t_states)), (qt_arcs, .inl (tc 0, 3, .inl t_arcs)), (qt_from, .inl (tc 0, 216, .inl t_from)), (qt_letters, .inl (tc 0, 216, .inl t_letters)), (qt_end, .inl (tc 0, 216, .inl t_end)), (qt_lowest, .inl (tc 0, 216, .inl t_lowest)), (qt_key, .inl (tc 1, 216, .inr (.inl t_key))), (qt_given, .inl (tc 1, 24, .inr (.inl x.1))), (qt_keys, .inl (tc 0, 24, .inl x.2.1)), (qt_table, .inl (tc 0, 81, .inl t_table)), (qt_first, .inl (tc 1, 40, .inr (.inl t_first))), (qt_second, .inl (tc 1, 40, .inr (.inl t_second))), (qt_learnt, .inl (tc 0, 40, .inl t_learnt)), (qt_phrase, .inl (tc 1, 4, .inr (.inl t_phrase))), (qt_corrected, .inl (tc 1, 4, .inr (.inl t_corrected))), (qt_many, .inl (tc 0, 4, .inl t_many)), (qt_candidates, .inl (tc 1, 96, .inr (.inl t_candidates))), (qt_alone, .inl (tc 0, 96, .inl t_alone)), (qt_choice, .inl (tc 0, 4, .inl t_choice))] [(0, .ref qt), (1, .long a0), (3, .int a1), (4, .int x.2.2)] 62 []) → Go p l e { frames := 0, cells := 0, slots := 0, locals := 0 } s m args below meth c (MQ below (Qs D A POST) args s 0 0 A) D A 5 0 0 [(qt, .inr (8, [.int t_thrown, .int t_drafted, .ref qt_draft, .ref qt_weight, .int t_there, .int t_made, .ref qt_number, .ref qt_size, .ref qt_readers, .ref qt_words, .ref qt_costs, .ref qt_states, .ref qt_arcs, .int t_beginnings, .ref qt_from, .ref qt_letters, .ref qt_end, .ref qt_lowest, .ref qt_key, .int v_t_givenSize, .ref qt_given, .ref qt_keys, .ref qt_table, .int t_pairs, .ref qt_first, .ref qt_second, .ref qt_learnt, .int t_said, .ref qt_phrase, .int t_answered, .ref qt_corrected, .ref qt_many, .ref qt_candidates, .ref qt_alone, .ref qt_choice])), (qt_draft, .inl (tc 1, 24, .inr (.inl t_draft))), (qt_weight, .inl (tc 0, 24, .inl t_weight)), (qt_number, .inl (tc 0, 3, .inl t_number)), (qt_size, .inl (tc 0, 3, .inl t_size)), (qt_readers, .inl (tc 0, 3, .inl t_readers)), (qt_words, .inl (tc 1, 72, .inr (.inl t_words))), (qt_costs, .inl (tc 0, 72, .inl t_costs)), (qt_states, .inl (tc 0, 3, .inl t_states)), (qt_arcs, .inl (tc 0, 3, .inl t_arcs)), (qt_from, .inl (tc 0, 216, .inl t_from)), (qt_letters, .inl (tc 0, 216, .inl t_letters)), (qt_end, .inl (tc 0, 216, .inl t_end)), (qt_lowest, .inl (tc 0, 216, .inl t_lowest)), (qt_key, .inl (tc 1, 216, .inr (.inl t_key))), (qt_given, .inl (tc 1, 24, .inr (.inl v_t_given))), (qt_keys, .inl (tc 0, 24, .inl v_t_keys)), (qt_table, .inl (tc 0, 81, .inl t_table)), (qt_first, .inl (tc 1, 40, .inr (.inl t_first))), (qt_second, .inl (tc 1, 40, .inr (.inl t_second))), (qt_learnt, .inl (tc 0, 40, .inl t_learnt)), (qt_phrase, .inl (tc 1, 4, .inr (.inl t_phrase))), (qt_corrected, .inl (tc 1, 4, .inr (.inl t_corrected))), (qt_many, .inl (tc 0, 4, .inl t_many)), (qt_candidates, .inl (tc 1, 96, .inr (.inl t_candidates))), (qt_alone, .inl (tc 0, 96, .inl t_alone)), (qt_choice, .inl (tc 0, 4, .inl t_choice))] [(0, .ref qt), (1, .long a0), (3, .int a1), (4, .int l4)] 6 [] := by
    intro v_t_givenSize n
    induction n with
    | zero =>
      intro v_t_given v_t_keys l4 x hf hE
      simp [f_M_give_6] at hf
    | succ n ih =>
      intro v_t_given v_t_keys l4 x hf hE
      have hf : f_M_give_6b a0 a1 v_t_givenSize (f_M_give_6 a0 a1 v_t_givenSize n) v_t_given v_t_keys l4 = some x := hf
      unfold f_M_give_6b at hf
      refine go_iload C d_M_give_6 3 rfl (n := 8) rfl ?_
      have hi8 := iteS hf
      refine go_if_le C d_M_give_8 (tgt := 62) (by decide) (n := 11) rfl (fun h8 => ?_) (fun h8 => ?_)
      · have hf := hi8.1 h8
        cases hf
        exact hE
      · have hf := hi8.2 h8
        refine go_aload_n C d_M_give_11 rfl 0 rfl (n := 12) rfl ?_
        refine go_get C d_M_give_12 fl_M_56 0 rfl rfl (n := 15) rfl ?_
        refine go_iload C d_M_give_15 3 rfl (n := 17) rfl ?_
        refine go_iconst C (v := 1) d_M_give_17 rfl (n := 18) rfl ?_
        refine go_isub C d_M_give_18 (n := 19) rfl ?_
        obtain ⟨hg19, hf⟩ := guardS hf
        refine go_iald C d_M_give_19 16 rfl hg19 (n := 20) rfl ?_
        refine go_iload_n C d_M_give_20 rfl 2 rfl (n := 21) rfl ?_
        have hi21 := iteS hf
        refine go_icmp_le C d_M_give_21 (tgt := 62) (by decide) (n := 24) rfl (fun h21 => ?_) (fun h21 => ?_)
        · have hf := hi21.1 h21
          cases hf
          exact hE
        · have hf := hi21.2 h21
          refine go_aload_n C d_M_give_24 rfl 0 rfl (n := 25) rfl ?_
          refine go_get C d_M_give_25 fl_M_53 0 rfl rfl (n := 28) rfl ?_
          refine go_iload C d_M_give_28 3 rfl (n := 30) rfl ?_
          refine go_aload_n C d_M_give_30 rfl 0 rfl (n := 31) rfl ?_
          refine go_get C d_M_give_31 fl_M_53 0 rfl rfl (n := 34) rfl ?_
          refine go_iload C d_M_give_34 3 rfl (n := 36) rfl ?_
          refine go_iconst C (v := 1) d_M_give_36 rfl (n := 37) rfl ?_
          refine go_isub C d_M_give_37 (n := 38) rfl ?_
          obtain ⟨hg38, hf⟩ := guardS hf
          refine go_lald C d_M_give_38 15 rfl hg38 (n := 39) rfl ?_
          obtain ⟨hg39, hf⟩ := guardS hf
          refine go_last C d_M_give_39 15 rfl hg39 (n := 40) rfl ?_
          refine go_aload_n C d_M_give_40 rfl 0 rfl (n := 41) rfl ?_
          refine go_get C d_M_give_41 fl_M_56 0 rfl rfl (n := 44) rfl ?_
          refine go_iload C d_M_give_44 3 rfl (n := 46) rfl ?_
          refine go_aload_n C d_M_give_46 rfl 0 rfl (n := 47) rfl ?_
          refine go_get C d_M_give_47 fl_M_56 0 rfl rfl (n := 50) rfl ?_
          refine go_iload C d_M_give_50 3 rfl (n := 52) rfl ?_
          refine go_iconst C (v := 1) d_M_give_52 rfl (n := 53) rfl ?_
          refine go_isub C d_M_give_53 (n := 54) rfl ?_
          obtain ⟨hg54, hf⟩ := guardS hf
          refine go_iald C d_M_give_54 16 rfl hg54 (n := 55) rfl ?_
          obtain ⟨hg55, hf⟩ := guardS hf
          refine go_iast C d_M_give_55 16 rfl hg55 (n := 56) rfl ?_
          refine go_iinc C d_M_give_56 3 rfl (v := l4 + (-1 : Int32)) rfl (lv' := [(4, .int (l4 + (-1 : Int32))), (0, .ref qt), (1, .long a0), (3, .int a1)]) (by decide) rfl (n := 59) rfl ?_
          refine go_goto C d_M_give_59 (tgt := 6) (by decide) ?_
          refine go_lv (lv' := [(0, .ref qt), (1, .long a0), (3, .int a1), (4, .int (l4 + (-1 : Int32)))]) [1, 2, 3, 0] rfl ?_
          exact ih (vp_updL v_t_given l4.toNatClampNeg (v_t_given (l4 - (1 : Int32)).toNatClampNeg)) (upd v_t_keys l4.toNatClampNeg (v_t_keys (l4 - (1 : Int32)).toNatClampNeg)) (l4 + (-1 : Int32)) x hf hE
  have K62 : ∀ (v_t_givenSize : Int32) (v_t_given : Nat → Int64) (v_t_keys : Nat → Int32) (l4 : Int32), f_M_give_62 a0 a1 v_t_givenSize v_t_given v_t_keys l4 = some o → Go p l e { frames := 0, cells := 0, slots := 0, locals := 0 } s m args below meth c (MQ below (Qs D A POST) args s 0 0 A) D A 5 0 0 [(qt, .inr (8, [.int t_thrown, .int t_drafted, .ref qt_draft, .ref qt_weight, .int t_there, .int t_made, .ref qt_number, .ref qt_size, .ref qt_readers, .ref qt_words, .ref qt_costs, .ref qt_states, .ref qt_arcs, .int t_beginnings, .ref qt_from, .ref qt_letters, .ref qt_end, .ref qt_lowest, .ref qt_key, .int v_t_givenSize, .ref qt_given, .ref qt_keys, .ref qt_table, .int t_pairs, .ref qt_first, .ref qt_second, .ref qt_learnt, .int t_said, .ref qt_phrase, .int t_answered, .ref qt_corrected, .ref qt_many, .ref qt_candidates, .ref qt_alone, .ref qt_choice])), (qt_draft, .inl (tc 1, 24, .inr (.inl t_draft))), (qt_weight, .inl (tc 0, 24, .inl t_weight)), (qt_number, .inl (tc 0, 3, .inl t_number)), (qt_size, .inl (tc 0, 3, .inl t_size)), (qt_readers, .inl (tc 0, 3, .inl t_readers)), (qt_words, .inl (tc 1, 72, .inr (.inl t_words))), (qt_costs, .inl (tc 0, 72, .inl t_costs)), (qt_states, .inl (tc 0, 3, .inl t_states)), (qt_arcs, .inl (tc 0, 3, .inl t_arcs)), (qt_from, .inl (tc 0, 216, .inl t_from)), (qt_letters, .inl (tc 0, 216, .inl t_letters)), (qt_end, .inl (tc 0, 216, .inl t_end)), (qt_lowest, .inl (tc 0, 216, .inl t_lowest)), (qt_key, .inl (tc 1, 216, .inr (.inl t_key))), (qt_given, .inl (tc 1, 24, .inr (.inl v_t_given))), (qt_keys, .inl (tc 0, 24, .inl v_t_keys)), (qt_table, .inl (tc 0, 81, .inl t_table)), (qt_first, .inl (tc 1, 40, .inr (.inl t_first))), (qt_second, .inl (tc 1, 40, .inr (.inl t_second))), (qt_learnt, .inl (tc 0, 40, .inl t_learnt)), (qt_phrase, .inl (tc 1, 4, .inr (.inl t_phrase))), (qt_corrected, .inl (tc 1, 4, .inr (.inl t_corrected))), (qt_many, .inl (tc 0, 4, .inl t_many)), (qt_candidates, .inl (tc 1, 96, .inr (.inl t_candidates))), (qt_alone, .inl (tc 0, 96, .inl t_alone)), (qt_choice, .inl (tc 0, 4, .inl t_choice))] [(0, .ref qt), (1, .long a0), (3, .int a1), (4, .int l4)] 62 [] := by
    intro v_t_givenSize v_t_given v_t_keys l4 hf
    unfold f_M_give_62 at hf
    refine go_aload_n C d_M_give_62 rfl 0 rfl (n := 63) rfl ?_
    refine go_get C d_M_give_63 fl_M_53 0 rfl rfl (n := 66) rfl ?_
    refine go_iload C d_M_give_66 3 rfl (n := 68) rfl ?_
    refine go_lload_n C d_M_give_68 rfl 1 rfl (n := 69) rfl ?_
    obtain ⟨hg69, hf⟩ := guardS hf
    refine go_last C d_M_give_69 15 rfl hg69 (n := 70) rfl ?_
    refine go_aload_n C d_M_give_70 rfl 0 rfl (n := 71) rfl ?_
    refine go_get C d_M_give_71 fl_M_56 0 rfl rfl (n := 74) rfl ?_
    refine go_iload C d_M_give_74 3 rfl (n := 76) rfl ?_
    refine go_iload_n C d_M_give_76 rfl 2 rfl (n := 77) rfl ?_
    obtain ⟨hg77, hf⟩ := guardS hf
    refine go_iast C d_M_give_77 16 rfl hg77 (n := 78) rfl ?_
    refine go_aload_n C d_M_give_78 rfl 0 rfl (n := 79) rfl ?_
    refine go_dup C d_M_give_79 rfl (n := 80) rfl ?_
    refine go_get C d_M_give_80 fl_M_166 0 rfl rfl (n := 83) rfl ?_
    refine go_iconst C (v := 1) d_M_give_83 rfl (n := 84) rfl ?_
    refine go_iadd C d_M_give_84 (n := 85) rfl ?_
    refine go_put C d_M_give_85 fl_M_166 (fs_M 19) rfl rfl rfl 0 rfl (Nat.le_of_ble_eq_true rfl) (n := 88) rfl ?_
    cases hf
    exact go_vret C d_M_give_88 hr hPOST
  unfold f_M_give at hf
  refine go_aload_n C d_M_give_0 rfl 0 rfl (n := 1) rfl ?_
  refine go_get C d_M_give_1 fl_M_166 0 rfl rfl (n := 4) rfl ?_
  refine go_istore C d_M_give_4 (lv' := [(4, .int t_givenSize), (0, .ref qt), (1, .long a0), (3, .int a1)]) (by decide) rfl (n := 6) rfl ?_
  refine go_lv (lv' := [(0, .ref qt), (1, .long a0), (3, .int a1), (4, .int t_givenSize)]) [1, 2, 3, 0] rfl ?_
  obtain ⟨x6, hx6, hf⟩ := bindS hf
  refine K6 t_givenSize FU t_given t_keys t_givenSize x6 hx6 ?_
  exact K62 t_givenSize x6.1 x6.2.1 x6.2.2 hf
