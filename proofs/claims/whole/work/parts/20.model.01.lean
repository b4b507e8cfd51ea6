def f_M_common_3b (a0 : Int64) (a1 : Int64) (rec : Int32 → Option (Int32)) (l4 : Int32) : Option (Int32) :=
  if (8 : Int32) ≤ l4 then some ( l4) else (f_M_at a0 l4).bind (fun o13 => if o13 = 0 then some ( l4) else (f_M_at a0 l4).bind (fun o22 => (f_M_at a1 l4).bind (fun o28 => if o22 = o28 then rec (l4 + (1 : Int32)) else some ( l4))))
def f_M_common_3 (a0 : Int64) (a1 : Int64) : Nat → Int32 → Option (Int32)
  | 0 => fun _ => none
  | n + 1 => f_M_common_3b a0 a1 (f_M_common_3 a0 a1 n)
def f_M_common (a0 : Int64) (a1 : Int64) : Option (Int32) :=
  (f_M_common_3 a0 a1 FU (0 : Int32)).bind (fun x3 => some x3)
set_option maxRecDepth 100000 in
set_option maxHeartbeats 4000000 in
theorem c_M_common (l : Launch) (D : va_G) (tc : Nat → ClassId) (a0 : Int64) (a1 : Int64) {o : (Int32)} (hf : f_M_common a0 a1 = some o) (POST : Option Value → va_W → Prop) (hPOST : POST (some (.int o)) []) : Std l y_M_common (.code y_M_common b_M_common 5 (some .int)) { frames := 2, cells := 0, slots := 0, locals := 45 } D tc [.long a0, .long a1] [] 0 0 POST := by
  refine std_of (lv := [(0, .long a0), (2, .long a1)]) (by decide) (Nat.le_of_ble_eq_true rfl) rfl (fun p e s m args below meth c A C hr hnm => ?_)
  have K3 : ∀ (n : Nat) (l4 : Int32) (x : (Int32)), f_M_common_3 a0 a1 n l4 = some x → (Go p l e { frames := 2, cells := 0, slots := 0, locals := 45 } s m args below meth c (MQ below (Qs D A POST) args s 0 0 A) D A 5 0 0 [] [(4, .int x)] 40 []) → Go p l e { frames := 2, cells := 0, slots := 0, locals := 45 } s m args below meth c (MQ below (Qs D A POST) args s 0 0 A) D A 5 0 0 [] [(0, .long a0), (2, .long a1), (4, .int l4)] 3 [] := by
    intro n
    induction n with
    | zero =>
      intro l4 x hf hE
      simp [f_M_common_3] at hf
    | succ n ih =>
      intro l4 x hf hE
      have hf : f_M_common_3b a0 a1 (f_M_common_3 a0 a1 n) l4 = some x := hf
      unfold f_M_common_3b at hf
      refine go_iload C d_M_common_3 2 rfl (n := 5) rfl ?_
      refine go_bipush C (v := 8) d_M_common_5 rfl (n := 7) rfl ?_
      have hi7 := iteS hf
      refine go_icmp_ge C d_M_common_7 (tgt := 40) (by decide) (n := 10) rfl (fun h7 => ?_) (fun h7 => ?_)
      · have hf := hi7.1 h7
        refine go_lv (lv' := [(4, .int l4)]) [2] rfl ?_
        cases hf
        exact hE
      · have hf := hi7.2 h7
        refine go_lload_n C d_M_common_10 rfl 0 rfl (n := 11) rfl ?_
        refine go_iload C d_M_common_11 2 rfl (n := 13) rfl ?_
        obtain ⟨o13, ho13, hf⟩ := bindS hf
        refine go_callP C (As := [.long a0, .int l4]) (rest := []) d_M_common_13 (c_M_at l D tc a0 l4 ho13 (fun r w => r = some (.int o13) ∧ w = []) ⟨rfl, rfl⟩) lk_M_107 mw_M_at ws_M_at rfl rfl ⟨(Nat.le_of_ble_eq_true rfl), (Nat.le_of_ble_eq_true rfl)⟩ rfl rfl (Nat.le_of_ble_eq_true rfl) ⟨(Nat.le_of_ble_eq_true rfl), (Nat.le_of_ble_eq_true rfl)⟩ (n := 16) rfl ?_
        rintro _ _ ⟨rfl, rfl⟩
        have hi16 := iteS hf
        refine go_if_eq C d_M_common_16 (tgt := 40) (by decide) (n := 19) rfl (fun h16 => ?_) (fun h16 => ?_)
        · have hf := hi16.1 h16
          refine go_lv (lv' := [(4, .int l4)]) [2] rfl ?_
          cases hf
          exact hE
        · have hf := hi16.2 h16
          refine go_lload_n C d_M_common_19 rfl 0 rfl (n := 20) rfl ?_
          refine go_iload C d_M_common_20 2 rfl (n := 22) rfl ?_
          obtain ⟨o22, ho22, hf⟩ := bindS hf
          refine go_callP C (As := [.long a0, .int l4]) (rest := []) d_M_common_22 (c_M_at l D tc a0 l4 ho22 (fun r w => r = some (.int o22) ∧ w = []) ⟨rfl, rfl⟩) lk_M_107 mw_M_at ws_M_at rfl rfl ⟨(Nat.le_of_ble_eq_true rfl), (Nat.le_of_ble_eq_true rfl)⟩ rfl rfl (Nat.le_of_ble_eq_true rfl) ⟨(Nat.le_of_ble_eq_true rfl), (Nat.le_of_ble_eq_true rfl)⟩ (n := 25) rfl ?_
          rintro _ _ ⟨rfl, rfl⟩
          refine go_lload_n C d_M_common_25 rfl 1 rfl (n := 26) rfl ?_
          refine go_iload C d_M_common_26 2 rfl (n := 28) rfl ?_
          obtain ⟨o28, ho28, hf⟩ := bindS hf
          refine go_callP C (As := [.long a1, .int l4]) (rest := [.int o22]) d_M_common_28 (c_M_at l D tc a1 l4 ho28 (fun r w => r = some (.int o28) ∧ w = []) ⟨rfl, rfl⟩) lk_M_107 mw_M_at ws_M_at rfl rfl ⟨(Nat.le_of_ble_eq_true rfl), (Nat.le_of_ble_eq_true rfl)⟩ rfl rfl (Nat.le_of_ble_eq_true rfl) ⟨(Nat.le_of_ble_eq_true rfl), (Nat.le_of_ble_eq_true rfl)⟩ (n := 31) rfl ?_
          rintro _ _ ⟨rfl, rfl⟩
          have hi31 := iteS hf
          refine go_icmp_ne C d_M_common_31 (tgt := 40) (by decide) (n := 34) rfl (fun h31 => ?_) (fun h31 => ?_)
          · have hf := hi31.2 h31
            refine go_lv (lv' := [(4, .int l4)]) [2] rfl ?_
            cases hf
            exact hE
          · have hf := hi31.1 h31
            refine go_iinc C d_M_common_34 2 rfl (v := l4 + (1 : Int32)) rfl (lv' := [(4, .int (l4 + (1 : Int32))), (0, .long a0), (2, .long a1)]) (by decide) rfl (n := 37) rfl ?_
            refine go_goto C d_M_common_37 (tgt := 3) (by decide) ?_
            refine go_lv (lv' := [(0, .long a0), (2, .long a1), (4, .int (l4 + (1 : Int32)))]) [1, 2, 0] rfl ?_
            exact ih (l4 + (1 : Int32)) x hf hE
  unfold f_M_common at hf
  refine go_iconst C (v := 0) d_M_common_0 rfl (n := 1) rfl ?_
  refine go_istore C d_M_common_1 (lv' := [(4, .int (0 : Int32)), (0, .long a0), (2, .long a1)]) (by decide) rfl (n := 3) rfl ?_
  refine go_lv (lv' := [(0, .long a0), (2, .long a1), (4, .int (0 : Int32))]) [1, 2, 0] rfl ?_
  obtain ⟨x3, hx3, hf⟩ := bindS hf
  refine K3 FU (0 : Int32) x3 hx3 ?_
  refine go_iload C d_M_common_40 0 rfl (n := 42) rfl ?_
  cases hf
  exact go_iret C d_M_common_42 hr hPOST

def f_M_word_28b (a0 : Int64) (a1 : Int32) (v_t_thrown : Int32) (v_t_drafted : Int32) (v_t_draft : Nat → Int64) (v_t_weight : Nat → Int32) (l4 : Int32) (rec : Int32 → Option (Int32)) (l5 : Int32) : Option (Int32) :=
  if v_t_drafted ≤ l5 then some ( l5) else if okI l5 24 = true then if (v_t_draft l5.toNatClampNeg) = a0 then some ( l5) else rec (l5 + (1 : Int32)) else none
def f_M_word_28 (a0 : Int64) (a1 : Int32) (v_t_thrown : Int32) (v_t_drafted : Int32) (v_t_draft : Nat → Int64) (v_t_weight : Nat → Int32) (l4 : Int32) : Nat → Int32 → Option (Int32)
  | 0 => fun _ => none
  | n + 1 => f_M_word_28b a0 a1 v_t_thrown v_t_drafted v_t_draft v_t_weight l4 (f_M_word_28 a0 a1 v_t_thrown v_t_drafted v_t_draft v_t_weight l4 n)
def f_M_word_97 (a0 : Int64) (a1 : Int32) (v_t_thrown : Int32) (v_t_drafted : Int32) (v_t_draft : Nat → Int64) (v_t_weight : Nat → Int32) (l5 : Int32) : Option (Int32 × Int32 × Int32 × (Nat → Int64) × (Nat → Int32)) :=
  if okI l5 24 = true then if okI l5 24 = true then some (v_t_drafted, v_t_thrown, v_t_drafted, vp_updL v_t_draft l5.toNatClampNeg a0, upd v_t_weight l5.toNatClampNeg a1) else none else none
def f_M_word_70 (a0 : Int64) (a1 : Int32) (v_t_thrown : Int32) (v_t_drafted : Int32) (v_t_draft : Nat → Int64) (v_t_weight : Nat → Int32) (l5 : Int32) (s0 : Int32) (s1 : Int32) : Option (Int32 × Int32 × Int32 × (Nat → Int64) × (Nat → Int32)) :=
  (f_M_throwing v_t_thrown s1 s0).bind (fun o70 => if o70.1 = 0 then if l5 = v_t_drafted then f_M_word_97 a0 a1 o70.2 (v_t_drafted + (1 : Int32)) v_t_draft v_t_weight l5 else f_M_word_97 a0 a1 o70.2 v_t_drafted v_t_draft v_t_weight l5 else some ((0 : Int32), o70.2, v_t_drafted, v_t_draft, v_t_weight))
def f_M_word_55 (a0 : Int64) (a1 : Int32) (v_t_thrown : Int32) (v_t_drafted : Int32) (v_t_draft : Nat → Int64) (v_t_weight : Nat → Int32) (l4 : Int32) (l5 : Int32) : Option (Int32 × Int32 × Int32 × (Nat → Int64) × (Nat → Int32)) :=
  if l5 = (24 : Int32) then f_M_word_70 a0 a1 v_t_thrown v_t_drafted v_t_draft v_t_weight l5 (1 : Int32) l4 else f_M_word_70 a0 a1 v_t_thrown v_t_drafted v_t_draft v_t_weight l5 (0 : Int32) l4
def f_M_word_23 (a0 : Int64) (a1 : Int32) (v_t_thrown : Int32) (v_t_drafted : Int32) (v_t_draft : Nat → Int64) (v_t_weight : Nat → Int32) (s0 : Int32) : Option (Int32 × Int32 × Int32 × (Nat → Int64) × (Nat → Int32)) :=
  (f_M_word_28 a0 a1 v_t_thrown v_t_drafted v_t_draft v_t_weight s0 FU (0 : Int32)).bind (fun x28 => f_M_word_55 a0 a1 v_t_thrown v_t_drafted v_t_draft v_t_weight s0 x28)
def f_M_word_18 (a0 : Int64) (a1 : Int32) (v_t_thrown : Int32) (v_t_drafted : Int32) (v_t_draft : Nat → Int64) (v_t_weight : Nat → Int32) : Option (Int32 × Int32 × Int32 × (Nat → Int64) × (Nat → Int32)) :=
  f_M_word_23 a0 a1 v_t_thrown v_t_drafted v_t_draft v_t_weight (1 : Int32)
def f_M_word (t_thrown : Int32) (t_drafted : Int32) (t_draft : Nat → Int64) (t_weight : Nat → Int32) (a0 : Int64) (a1 : Int32) : Option (Int32 × Int32 × Int32 × (Nat → Int64) × (Nat → Int32)) :=
  (f_M_isWord a0).bind (fun o1 => if o1 = 0 then f_M_word_18 a0 a1 t_thrown t_drafted t_draft t_weight else if a1 < 0 then f_M_word_18 a0 a1 t_thrown t_drafted t_draft t_weight else if a1 ≤ (9999 : Int32) then f_M_word_23 a0 a1 t_thrown t_drafted t_draft t_weight (0 : Int32) else f_M_word_18 a0 a1 t_thrown t_drafted t_draft t_weight)
set_option maxRecDepth 100000 in
set_option maxHeartbeats 4000000 in
theorem c_M_word (l : Launch) (D : va_G) (tc : Nat → ClassId) (qt : Nat) (qt_draft : Nat) (qt_weight : Nat) (qt_number : Nat) (qt_size : Nat) (qt_readers : Nat) (qt_words : Nat) (qt_costs : Nat) (qt_states : Nat) (qt_arcs : Nat) (qt_from : Nat) (qt_letters : Nat) (qt_end : Nat) (qt_lowest : Nat) (qt_key : Nat) (qt_given : Nat) (qt_keys : Nat) (qt_table : Nat) (qt_first : Nat) (qt_second : Nat) (qt_learnt : Nat) (qt_phrase : Nat) (qt_corrected : Nat) (qt_many : Nat) (qt_candidates : Nat) (qt_alone : Nat) (qt_choice : Nat) (t_thrown : Int32) (t_drafted : Int32) (t_there : Int32) (t_made : Int32) (t_beginnings : Int32) (t_givenSize : Int32) (t_pairs : Int32) (t_said : Int32) (t_answered : Int32) (t_draft : Nat → Int64) (t_weight : Nat → Int32) (t_number : Nat → Int32) (t_size : Nat → Int32) (t_readers : Nat → Int32) (t_words : Nat → Int64) (t_costs : Nat → Int32) (t_states : Nat → Int32) (t_arcs : Nat → Int32) (t_from : Nat → Int32) (t_letters : Nat → Int32) (t_end : Nat → Int32) (t_lowest : Nat → Int32) (t_key : Nat → Int64) (t_given : Nat → Int64) (t_keys : Nat → Int32) (t_table : Nat → Int32) (t_first : Nat → Int64) (t_second : Nat → Int64) (t_learnt : Nat → Int32) (t_phrase : Nat → Int64) (t_corrected : Nat → Int64) (t_many : Nat → Int32) (t_candidates : Nat → Int64) (t_alone : Nat → Int32) (t_choice : Nat → Int32) (a0 : Int64) (a1 : Int32) {o : (Int32 × Int32 × Int32 × (Nat → Int64) × (Nat → Int32))} (hf : f_M_word t_thrown t_drafted t_draft t_weight a0 a1 = some o) (POST : Option Value → va_W → Prop) (hPOST : POST (some (.int o.1)) [(qt, .inr (8, [.int o.2.1, .int o.2.2.1, .ref qt_draft, .ref qt_weight, .int t_there, .int t_made, .ref qt_number, .ref qt_size, .ref qt_readers, .ref qt_words, .ref qt_costs, .ref qt_states, .ref qt_arcs, .int t_beginnings, .ref qt_from, .ref qt_letters, .ref qt_end, .ref qt_lowest, .ref qt_key, .int t_givenSize, .ref qt_given, .ref qt_keys, .ref qt_table, .int t_pairs, .ref qt_first, .ref qt_second, .ref qt_learnt, .int t_said, .ref qt_phrase, .int t_answered, .ref qt_corrected, .ref qt_many, .ref qt_candidates, .ref qt_alone, .ref qt_choice])), (qt_draft, .inl (tc 1, 24, .inr (.inl o.2.2.2.1))), (qt_weight, .inl (tc 0, 24, .inl o.2.2.2.2)), (qt_number, .inl (tc 0, 3, .inl t_number)), (qt_size, .inl (tc 0, 3, .inl t_size)), (qt_readers, .inl (tc 0, 3, .inl t_readers)), (qt_words, .inl (tc 1, 72, .inr (.inl t_words))), (qt_costs, .inl (tc 0, 72, .inl t_costs)), (qt_states, .inl (tc 0, 3, .inl t_states)), (qt_arcs, .inl (tc 0, 3, .inl t_arcs)), (qt_from, .inl (tc 0, 216, .inl t_from)), (qt_letters, .inl (tc 0, 216, .inl t_letters)), (qt_end, .inl (tc 0, 216, .inl t_end)), (qt_lowest, .inl (tc 0, 216, .inl t_lowest)), (qt_key, .inl (tc 1, 216, .inr (.inl t_key))), (qt_given, .inl (tc 1, 24, .inr (.inl t_given))), (qt_keys, .inl (tc 0, 24, .inl t_keys)), (qt_table, .inl (tc 0, 81, .inl t_table)), (qt_first, .inl (tc 1, 40, .inr (.inl t_first))), (qt_second, .inl (tc 1, 40, .inr (.inl t_second))), (qt_learnt, .inl (tc 0, 40, .inl t_learnt)), (qt_phrase, .inl (tc 1, 4, .inr (.inl t_phrase))), (qt_corrected, .inl (tc 1, 4, .inr (.inl t_corrected))), (qt_many, .inl (tc 0, 4, .inl t_many)), (qt_candidates, .inl (tc 1, 96, .inr (.inl t_candidates))), (qt_alone, .inl (tc 0, 96, .inl t_alone)), (qt_choice, .inl (tc 0, 4, .inl t_choice))]) : Std l y_M_word (.code y_M_word b_M_word 6 (some .int)) { frames := 3, cells := 0, slots := 0, locals := 69 } D tc [.ref qt, .long a0, .int a1] [(qt, .inr (8, [.int t_thrown, .int t_drafted, .ref qt_draft, .ref qt_weight, .int t_there, .int t_made, .ref qt_number, .ref qt_size, .ref qt_readers, .ref qt_words, .ref qt_costs, .ref qt_states, .ref qt_arcs, .int t_beginnings, .ref qt_from, .ref qt_letters, .ref qt_end, .ref qt_lowest, .ref qt_key, .int t_givenSize, .ref qt_given, .ref qt_keys, .ref qt_table, .int t_pairs, .ref qt_first, .ref qt_second, .ref qt_learnt, .int t_said, .ref qt_phrase, .int t_answered, .ref qt_corrected, .ref qt_many, .ref qt_candidates, .ref qt_alone, .ref qt_choice])), (qt_draft, .inl (tc 1, 24, .inr (.inl t_draft))), (qt_weight, .inl (tc 0, 24, .inl t_weight)), (qt_number, .inl (tc 0, 3, .inl t_number)), (qt_size, .inl (tc 0, 3, .inl t_size)), (qt_readers, .inl (tc 0, 3, .inl t_readers)), (qt_words, .inl (tc 1, 72, .inr (.inl t_words))), (qt_costs, .inl (tc 0, 72, .inl t_costs)), (qt_states, .inl (tc 0, 3, .inl t_states)), (qt_arcs, .inl (tc 0, 3, .inl t_arcs)), (qt_from, .inl (tc 0, 216, .inl t_from)), (qt_letters, .inl (tc 0, 216, .inl t_letters)), (qt_end, .inl (tc 0, 216, .inl t_end)), (qt_lowest, .inl (tc 0, 216, .inl t_lowest)), (qt_key, .inl (tc 1, 216, .inr (.inl t_key))), (qt_given, .inl (tc 1, 24, .inr (.inl t_given))), (qt_keys, .inl (tc 0, 24, .inl t_keys)), (qt_table, .inl (tc 0, 81, .inl t_table)), (qt_first, .inl (tc 1, 40, .inr (.inl t_first))), (qt_second, .inl (tc 1, 40, .inr (.inl t_second))), (qt_learnt, .inl (tc 0, 40, .inl t_learnt)), (qt_phrase, .inl (tc 1, 4, .inr (.inl t_phrase))), (qt_corrected, .inl (tc 1, 4, .inr (.inl t_corrected))), (qt_many, .inl (tc 0, 4, .inl t_many)), (qt_candidates, .inl (tc 1, 96, .inr (.inl t_candidates))), (qt_alone, .inl (tc 0, 96, .inl t_alone)), (qt_choice, .inl (tc 0, 4, .inl t_choice))] 0 0 POST := by
  refine std_of (lv := [(0, .ref qt), (1, .long a0), (3, .int a1)]) (by decide) (Nat.le_of_ble_eq_true rfl) rfl (fun p e s m args below meth c A C hr hnm => ?_)
  have K28 : ∀ (v_t_thrown : Int32) (v_t_drafted : Int32) (v_t_draft : Nat → Int64) (v_t_weight : Nat → Int32) (l4 : Int32) (n : Nat) (l5 : Int32) (x : (Int32)), f_M_word_28 a0 a1 v_t_thrown v_t_drafted v_t_draft v_t_weight l4 n l5 = some x → (Go p l e { frames := 3, cells := 0, slots := 0, locals := 69 } s m args below meth c (MQ below (Qs D A POST) args s 0 0 A) D A 6 0 0 [(qt, .inr (8, [.int v_t_thrown, .int v_t_drafted, .ref qt_draft, .ref qt_weight, .int t_there, .int t_made, .ref qt_number, .ref qt_size, .ref qt_readers, .ref qt_words, .ref qt_costs, .ref qt_states, .ref qt_arcs, .int t_beginnings, .ref qt_from, .ref qt_letters, .ref qt_end, .ref qt_lowest, .ref qt_key, .int t_givenSize, .ref qt_given, .ref qt_keys, .ref qt_table, .int t_pairs, .ref qt_first, .ref qt_second, .ref qt_learnt, .int t_said, .ref qt_phrase, .int t_answered, .ref qt_corrected, .ref qt_many, .ref qt_candidates, .ref qt_alone, .ref qt_choice])), (qt_draft, .inl (tc 1, 24, .inr (.inl v_t_draft))), (qt_weight, .inl (tc 0, 24, .inl v_t_weight)), (qt_number, .inl (tc 0, 3, .inl t_number)), (qt_size, .inl (tc 0, 3, .inl t_size)), (qt_readers, .inl (tc 0, 3, .inl t_readers)), (qt_words, .inl (tc 1, 72, .inr (.inl t_words))), (qt_costs, .inl (tc 0, 72, .inl t_costs)), (qt_states, .inl (tc 0, 3, .inl t_states)), (qt_arcs, .inl (tc 0, 3, .inl t_arcs)), (qt_from, .inl (tc 0, 216, .inl t_from)), (qt_letters, .inl (tc 0, 216, .inl t_letters)), (qt_end, .inl (tc 0, 216, .inl t_end)), (qt_lowest, .inl (tc 0, 216, .inl t_lowest)), (qt_key, .inl (tc 1, 216, .inr (.inl t_key))), (qt_given, .inl (tc 1, 24, .inr (.inl t_given))), (qt_keys, .inl (tc 0, 24, .inl t_keys)), (qt_table, .inl (tc 0, 81, .inl t_table)), (qt_first, .inl (tc 1, 40, .inr (.inl t_first))), (qt_second, .inl (tc 1, 40, .inr (.inl t_second))), (qt_learnt, .inl (tc 0, 40, .inl t_learnt)), (qt_phrase, .inl (tc 1, 4, .inr (.inl t_phrase))), (qt_corrected, .inl (tc 1, 4, .inr (.inl t_corrected))), (qt_many, .inl (tc 0, 4, .inl t_many)), (qt_candidates, .inl (tc 1, 96, .inr (.inl t_candidates))), (qt_alone, .inl (tc 0, 96, .inl t_alone)), (qt_choice, .inl (tc 0, 4, .inl t_choice))] [(0, .ref qt), (1, .long a0), (3, .int a1), (4, .int l4), (5, .int x)] 55 []) → Go p l e { frames := 3, cells := 0, slots := 0, locals := 69 } s m args below meth c (MQ below (Qs D A POST) args s 0 0 A) D A 6 0 0 [(qt, .inr (8, [.int v_t_thrown, .int v_t_drafted, .ref qt_draft, .ref qt_weight, .int t_there, .int t_made, .ref qt_number, .ref qt_size, .ref qt_readers, .ref qt_words, .ref qt_costs, .ref qt_states, .ref qt_arcs, .int t_beginnings, .ref qt_from, .ref qt_letters, .ref qt_end, .ref qt_lowest, .ref qt_key, .int t_givenSize, .ref qt_given, .ref qt_keys, .ref qt_table, .int t_pairs, .ref qt_first, .ref qt_second, .ref qt_learnt, .int t_said, .ref qt_phrase, .int t_answered, .ref qt_corrected, .ref qt_many, .ref qt_candidates, .ref qt_alone, .ref qt_choice])), (qt_draft, .inl (tc 1, 24, .inr (.inl v_t_draft))), (qt_weight, .inl (tc 0, 24, .inl v_t_weight)), (qt_number, .inl (tc 0, 3, .inl t_number)), (qt_size, .inl (tc 0, 3, .inl t_size)), (qt_readers, .inl (tc 0, 3, .inl t_readers)), (qt_words, .inl (tc 1, 72, .inr (.inl t_words))), (qt_costs, .inl (tc 0, 72, .inl t_costs)), (qt_states, .inl (tc 0, 3, .inl t_states)), (qt_arcs, .inl (tc 0, 3, .inl t_arcs)), (qt_from, .inl (tc 0, 216, .inl t_from)), (qt_letters, .inl (tc 0, 216, .inl t_letters)), (qt_end, .inl (tc 0, 216, .inl t_end)), (qt_lowest, .inl (tc 0, 216, .inl t_lowest)), (qt_key, .inl (tc 1, 216, .inr (.inl t_key))), (qt_given, .inl (tc 1, 24, .inr (.inl t_given))), (qt_keys, .inl (tc 0, 24, .inl t_keys)), (qt_table, .inl (tc 0, 81, .inl t_table)), (qt_first, .inl (tc 1, 40, .inr (.inl t_first))), (qt_second, .inl (tc 1, 40, .inr (.inl t_second))), (qt_learnt, .inl (tc 0, 40, .inl t_learnt)), (qt_phrase, .inl (tc 1, 4, .inr (.inl t_phrase))), (qt_corrected, .inl (tc 1, 4, .inr (.inl t_corrected))), (qt_many, .inl (tc 0, 4, .inl t_many)), (qt_candidates, .inl (tc 1, 96, .inr (.inl t_candidates))), (qt_alone, .inl (tc 0, 96, .inl t_alone)), (qt_choice, .inl (tc 0, 4, .inl t_choice))] [(0, .ref qt), (1, .long a0), (3, .int a1), (4, .int l4), (5, .int l5)] 28 [] := by
    intro v_t_thrown v_t_drafted v_t_draft v_t_weight l4 n
    induction n with
    | zero =>
      intro l5 x hf hE
      simp [f_M_word_28] at hf
    | succ n ih =>
      intro l5 x hf hE
      have hf : f_M_word_28b a0 a1 v_t_thrown v_t_drafted v_t_draft v_t_weight l4 (f_M_word_28 a0 a1 v_t_thrown v_t_drafted v_t_draft v_t_weight l4 n) l5 = some x := hf
      unfold f_M_word_28b at hf
      refine go_iload C d_M_word_28 4 rfl (n := 30) rfl ?_
      refine go_aload_n C d_M_word_30 rfl 0 rfl (n := 31) rfl ?_
      refine go_get C d_M_word_31 fl_M_114 0 rfl rfl (n := 34) rfl ?_
      have hi34 := iteS hf
      refine go_icmp_ge C d_M_word_34 (tgt := 55) (by decide) (n := 37) rfl (fun h34 => ?_) (fun h34 => ?_)
      · have hf := hi34.1 h34
        cases hf
        exact hE
      · have hf := hi34.2 h34
        refine go_aload_n C d_M_word_37 rfl 0 rfl (n := 38) rfl ?_
        refine go_get C d_M_word_38 fl_M_7 0 rfl rfl (n := 41) rfl ?_
        refine go_iload C d_M_word_41 4 rfl (n := 43) rfl ?_
        obtain ⟨hg43, hf⟩ := guardS hf
        refine go_lald C d_M_word_43 1 rfl hg43 (n := 44) rfl ?_
        refine go_lload_n C d_M_word_44 rfl 1 rfl (n := 45) rfl ?_
        have hi45 := iteS hf
        refine go_lcmp_eq C d_M_word_45 (n1 := 46) rfl d_M_word_46 (tgt := 55) (by decide) (n := 49) rfl (fun h45 => ?_) (fun h45 => ?_)
        · have hf := hi45.1 h45
          cases hf
          exact hE
        · have hf := hi45.2 h45
          refine go_iinc C d_M_word_49 4 rfl (v := l5 + (1 : Int32)) rfl (lv' := [(5, .int (l5 + (1 : Int32))), (0, .ref qt), (1, .long a0), (3, .int a1), (4, .int l4)]) (by decide) rfl (n := 52) rfl ?_
          refine go_goto C d_M_word_52 (tgt := 28) (by decide) ?_
          refine go_lv (lv' := [(0, .ref qt), (1, .long a0), (3, .int a1), (4, .int l4), (5, .int (l5 + (1 : Int32)))]) [1, 2, 3, 4, 0] rfl ?_
          exact ih (l5 + (1 : Int32)) x hf hE
  have K97 : ∀ (v_t_thrown : Int32) (v_t_drafted : Int32) (v_t_draft : Nat → Int64) (v_t_weight : Nat → Int32) (l5 : Int32), f_M_word_97 a0 a1 v_t_thrown v_t_drafted v_t_draft v_t_weight l5 = some o → Go p l e { frames := 3, cells := 0, slots := 0, locals := 69 } s m args below meth c (MQ below (Qs D A POST) args s 0 0 A) D A 6 0 0 [(qt, .inr (8, [.int v_t_thrown, .int v_t_drafted, .ref qt_draft, .ref qt_weight, .int t_there, .int t_made, .ref qt_number, .ref qt_size, .ref qt_readers, .ref qt_words, .ref qt_costs, .ref qt_states, .ref qt_arcs, .int t_beginnings, .ref qt_from, .ref qt_letters, .ref qt_end, .ref qt_lowest, .ref qt_key, .int t_givenSize, .ref qt_given, .ref qt_keys, .ref qt_table, .int t_pairs, .ref qt_first, .ref qt_second, .ref qt_learnt, .int t_said, .ref qt_phrase, .int t_answered, .ref qt_corrected, .ref qt_many, .ref qt_candidates, .ref qt_alone, .ref qt_choice])), (qt_draft, .inl (tc 1, 24, .inr (.inl v_t_draft))), (qt_weight, .inl (tc 0, 24, .inl v_t_weight)), (qt_number, .inl (tc 0, 3, .inl t_number)), (qt_size, .inl (tc 0, 3, .inl t_size)), (qt_readers, .inl (tc 0, 3, .inl t_readers)), (qt_words, .inl (tc 1, 72, .inr (.inl t_words))), (qt_costs, .inl (tc 0, 72, .inl t_costs)), (qt_states, .inl (tc 0, 3, .inl t_states)), (qt_arcs, .inl (tc 0, 3, .inl t_arcs)), (qt_from, .inl (tc 0, 216, .inl t_from)), (qt_letters, .inl (tc 0, 216, .inl t_letters)), (qt_end, .inl (tc 0, 216, .inl t_end)), (qt_lowest, .inl (tc 0, 216, .inl t_lowest)), (qt_key, .inl (tc 1, 216, .inr (.inl t_key))), (qt_given, .inl (tc 1, 24, .inr (.inl t_given))), (qt_keys, .inl (tc 0, 24, .inl t_keys)), (qt_table, .inl (tc 0, 81, .inl t_table)), (qt_first, .inl (tc 1, 40, .inr (.inl t_first))), (qt_second, .inl (tc 1, 40, .inr (.inl t_second))), (qt_learnt, .inl (tc 0, 40, .inl t_learnt)), (qt_phrase, .inl (tc 1, 4, .inr (.inl t_phrase))), (qt_corrected, .inl (tc 1, 4, .inr (.inl t_corrected))), (qt_many, .inl (tc 0, 4, .inl t_many)), (qt_candidates, .inl (tc 1, 96, .inr (.inl t_candidates))), (qt_alone, .inl (tc 0, 96, .inl t_alone)), (qt_choice, .inl (tc 0, 4, .inl t_choice))] [(0, .ref qt), (1, .long a0), (3, .int a1), (5, .int l5)] 97 [] := by
    intro v_t_thrown v_t_drafted v_t_draft v_t_weight l5 hf
    unfold f_M_word_97 at hf
    refine go_aload_n C d_M_word_97 rfl 0 rfl (n := 98) rfl ?_
    refine go_get C d_M_word_98 fl_M_7 0 rfl rfl (n := 101) rfl ?_
    refine go_iload C d_M_word_101 3 rfl (n := 103) rfl ?_
    refine go_lload_n C d_M_word_103 rfl 1 rfl (n := 104) rfl ?_
    obtain ⟨hg104, hf⟩ := guardS hf
    refine go_last C d_M_word_104 1 rfl hg104 (n := 105) rfl ?_
    refine go_aload_n C d_M_word_105 rfl 0 rfl (n := 106) rfl ?_
    refine go_get C d_M_word_106 fl_M_13 0 rfl rfl (n := 109) rfl ?_
    refine go_iload C d_M_word_109 3 rfl (n := 111) rfl ?_
    refine go_iload_n C d_M_word_111 rfl 2 rfl (n := 112) rfl ?_
    obtain ⟨hg112, hf⟩ := guardS hf
    refine go_iast C d_M_word_112 2 rfl hg112 (n := 113) rfl ?_
    refine go_aload_n C d_M_word_113 rfl 0 rfl (n := 114) rfl ?_
    refine go_get C d_M_word_114 fl_M_114 0 rfl rfl (n := 117) rfl ?_
    cases hf
    exact go_iret C d_M_word_117 hr hPOST
  have K70 : ∀ (v_t_thrown : Int32) (v_t_drafted : Int32) (v_t_draft : Nat → Int64) (v_t_weight : Nat → Int32) (l5 : Int32) (s0 : Int32) (s1 : Int32), f_M_word_70 a0 a1 v_t_thrown v_t_drafted v_t_draft v_t_weight l5 s0 s1 = some o → Go p l e { frames := 3, cells := 0, slots := 0, locals := 69 } s m args below meth c (MQ below (Qs D A POST) args s 0 0 A) D A 6 0 0 [(qt, .inr (8, [.int v_t_thrown, .int v_t_drafted, .ref qt_draft, .ref qt_weight, .int t_there, .int t_made, .ref qt_number, .ref qt_size, .ref qt_readers, .ref qt_words, .ref qt_costs, .ref qt_states, .ref qt_arcs, .int t_beginnings, .ref qt_from, .ref qt_letters, .ref qt_end, .ref qt_lowest, .ref qt_key, .int t_givenSize, .ref qt_given, .ref qt_keys, .ref qt_table, .int t_pairs, .ref qt_first, .ref qt_second, .ref qt_learnt, .int t_said, .ref qt_phrase, .int t_answered, .ref qt_corrected, .ref qt_many, .ref qt_candidates, .ref qt_alone, .ref qt_choice])), (qt_draft, .inl (tc 1, 24, .inr (.inl v_t_draft))), (qt_weight, .inl (tc 0, 24, .inl v_t_weight)), (qt_number, .inl (tc 0, 3, .inl t_number)), (qt_size, .inl (tc 0, 3, .inl t_size)), (qt_readers, .inl (tc 0, 3, .inl t_readers)), (qt_words, .inl (tc 1, 72, .inr (.inl t_words))), (qt_costs, .inl (tc 0, 72, .inl t_costs)), (qt_states, .inl (tc 0, 3, .inl t_states)), (qt_arcs, .inl (tc 0, 3, .inl t_arcs)), (qt_from, .inl (tc 0, 216, .inl t_from)), (qt_letters, .inl (tc 0, 216, .inl t_letters)), (qt_end, .inl (tc 0, 216, .inl t_end)), (qt_lowest, .inl (tc 0, 216, .inl t_lowest)), (qt_key, .inl (tc 1, 216, .inr (.inl t_key))), (qt_given, .inl (tc 1, 24, .inr (.inl t_given))), (qt_keys, .inl (tc 0, 24, .inl t_keys)), (qt_table, .inl (tc 0, 81, .inl t_table)), (qt_first, .inl (tc 1, 40, .inr (.inl t_first))), (qt_second, .inl (tc 1, 40, .inr (.inl t_second))), (qt_learnt, .inl (tc 0, 40, .inl t_learnt)), (qt_phrase, .inl (tc 1, 4, .inr (.inl t_phrase))), (qt_corrected, .inl (tc 1, 4, .inr (.inl t_corrected))), (qt_many, .inl (tc 0, 4, .inl t_many)), (qt_candidates, .inl (tc 1, 96, .inr (.inl t_candidates))), (qt_alone, .inl (tc 0, 96, .inl t_alone)), (qt_choice, .inl (tc 0, 4, .inl t_choice))] [(0, .ref qt), (1, .long a0), (3, .int a1), (5, .int l5)] 70 [.int s0, .int s1, .ref qt] := by
    intro v_t_thrown v_t_drafted v_t_draft v_t_weight l5 s0 s1 hf
    unfold f_M_word_70 at hf
    obtain ⟨o70, ho70, hf⟩ := bindS hf
    refine go_callV C (As := [.int s1, .int s0]) (rest := []) d_M_word_70 (c_M_throwing l D tc qt qt_draft qt_weight qt_number qt_size qt_readers qt_words qt_costs qt_states qt_arcs qt_from qt_letters qt_end qt_lowest qt_key qt_given qt_keys qt_table qt_first qt_second qt_learnt qt_phrase qt_corrected qt_many qt_candidates qt_alone qt_choice v_t_thrown v_t_drafted t_there t_made t_beginnings t_givenSize t_pairs t_said t_answered v_t_draft v_t_weight t_number t_size t_readers t_words t_costs t_states t_arcs t_from t_letters t_end t_lowest t_key t_given t_keys t_table t_first t_second t_learnt t_phrase t_corrected t_many t_candidates t_alone t_choice s1 s0 ho70 (fun r w => r = some (.int o70.1) ∧ w = [(qt, .inr (8, [.int o70.2, .int v_t_drafted, .ref qt_draft, .ref qt_weight, .int t_there, .int t_made, .ref qt_number, .ref qt_size, .ref qt_readers, .ref qt_words, .ref qt_costs, .ref qt_states, .ref qt_arcs, .int t_beginnings, .ref qt_from, .ref qt_letters, .ref qt_end, .ref qt_lowest, .ref qt_key, .int t_givenSize, .ref qt_given, .ref qt_keys, .ref qt_table, .int t_pairs, .ref qt_first, .ref qt_second, .ref qt_learnt, .int t_said, .ref qt_phrase, .int t_answered, .ref qt_corrected, .ref qt_many, .ref qt_candidates, .ref qt_alone, .ref qt_choice])), (qt_draft, .inl (tc 1, 24, .inr (.inl v_t_draft))), (qt_weight, .inl (tc 0, 24, .inl v_t_weight)), (qt_number, .inl (tc 0, 3, .inl t_number)), (qt_size, .inl (tc 0, 3, .inl t_size)), (qt_readers, .inl (tc 0, 3, .inl t_readers)), (qt_words, .inl (tc 1, 72, .inr (.inl t_words))), (qt_costs, .inl (tc 0, 72, .inl t_costs)), (qt_states, .inl (tc 0, 3, .inl t_states)), (qt_arcs, .inl (tc 0, 3, .inl t_arcs)), (qt_from, .inl (tc 0, 216, .inl t_from)), (qt_letters, .inl (tc 0, 216, .inl t_letters)), (qt_end, .inl (tc 0, 216, .inl t_end)), (qt_lowest, .inl (tc 0, 216, .inl t_lowest)), (qt_key, .inl (tc 1, 216, .inr (.inl t_key))), (qt_given, .inl (tc 1, 24, .inr (.inl t_given))), (qt_keys, .inl (tc 0, 24, .inl t_keys)), (qt_table, .inl (tc 0, 81, .inl t_table)), (qt_first, .inl (tc 1, 40, .inr (.inl t_first))), (qt_second, .inl (tc 1, 40, .inr (.inl t_second))), (qt_learnt, .inl (tc 0, 40, .inl t_learnt)), (qt_phrase, .inl (tc 1, 4, .inr (.inl t_phrase))), (qt_corrected, .inl (tc 1, 4, .inr (.inl t_corrected))), (qt_many, .inl (tc 0, 4, .inl t_many)), (qt_candidates, .inl (tc 1, 96, .inr (.inl t_candidates))), (qt_alone, .inl (tc 0, 96, .inl t_alone)), (qt_choice, .inl (tc 0, 4, .inl t_choice))]) ⟨rfl, rfl⟩) lk_M_117 mw_M_throwing sv_M_throwing 0 rfl rfl rfl rfl ⟨(Nat.le_of_ble_eq_true rfl), (Nat.le_of_ble_eq_true rfl)⟩ rfl rfl (Nat.le_of_ble_eq_true rfl) ⟨(Nat.le_of_ble_eq_true rfl), (Nat.le_of_ble_eq_true rfl)⟩ [0, 1, 2, 3, 4, 5, 6, 7, 8, 9, 10, 11, 12, 13, 14, 15, 16, 17, 18, 19, 20, 21, 22, 23, 24, 25, 26] rfl (by decide) (by rintro _ _ ⟨rfl, rfl⟩; simp only [List.map_cons, List.map_nil]) (n := 73) rfl ?_
    rintro _ _ ⟨rfl, rfl⟩
    refine go_eq (ws' := [(qt, .inr (8, [.int o70.2, .int v_t_drafted, .ref qt_draft, .ref qt_weight, .int t_there, .int t_made, .ref qt_number, .ref qt_size, .ref qt_readers, .ref qt_words, .ref qt_costs, .ref qt_states, .ref qt_arcs, .int t_beginnings, .ref qt_from, .ref qt_letters, .ref qt_end, .ref qt_lowest, .ref qt_key, .int t_givenSize, .ref qt_given, .ref qt_keys, .ref qt_table, .int t_pairs, .ref qt_first, .ref qt_second, .ref qt_learnt, .int t_said, .ref qt_phrase, .int t_answered, .ref qt_corrected, .ref qt_many, .ref qt_candidates, .ref qt_alone, .ref qt_choice])), (qt_draft, .inl (tc 1, 24, .inr (.inl v_t_draft))), (qt_weight, .inl (tc 0, 24, .inl v_t_weight)), (qt_number, .inl (tc 0, 3, .inl t_number)), (qt_size, .inl (tc 0, 3, .inl t_size)), (qt_readers, .inl (tc 0, 3, .inl t_readers)), (qt_words, .inl (tc 1, 72, .inr (.inl t_words))), (qt_costs, .inl (tc 0, 72, .inl t_costs)), (qt_states, .inl (tc 0, 3, .inl t_states)), (qt_arcs, .inl (tc 0, 3, .inl t_arcs)), (qt_from, .inl (tc 0, 216, .inl t_from)), (qt_letters, .inl (tc 0, 216, .inl t_letters)), (qt_end, .inl (tc 0, 216, .inl t_end)), (qt_lowest, .inl (tc 0, 216, .inl t_lowest)), (qt_key, .inl (tc 1, 216, .inr (.inl t_key))), (qt_given, .inl (tc 1, 24, .inr (.inl t_given))), (qt_keys, .inl (tc 0, 24, .inl t_keys)), (qt_table, .inl (tc 0, 81, .inl t_table)), (qt_first, .inl (tc 1, 40, .inr (.inl t_first))), (qt_second, .inl (tc 1, 40, .inr (.inl t_second))), (qt_learnt, .inl (tc 0, 40, .inl t_learnt)), (qt_phrase, .inl (tc 1, 4, .inr (.inl t_phrase))), (qt_corrected, .inl (tc 1, 4, .inr (.inl t_corrected))), (qt_many, .inl (tc 0, 4, .inl t_many)), (qt_candidates, .inl (tc 1, 96, .inr (.inl t_candidates))), (qt_alone, .inl (tc 0, 96, .inl t_alone)), (qt_choice, .inl (tc 0, 4, .inl t_choice))]) (by simp only [repl, List.set_cons_zero, List.set_cons_succ]) rfl rfl ?_
    have hi73 := iteS hf
    refine go_if_eq C d_M_word_73 (tgt := 78) (by decide) (n := 76) rfl (fun h73 => ?_) (fun h73 => ?_)
    · have hf := hi73.1 h73
      refine go_iload C d_M_word_78 3 rfl (n := 80) rfl ?_
      refine go_aload_n C d_M_word_80 rfl 0 rfl (n := 81) rfl ?_
      refine go_get C d_M_word_81 fl_M_114 0 rfl rfl (n := 84) rfl ?_
      have hi84 := iteS hf
      refine go_icmp_ne C d_M_word_84 (tgt := 97) (by decide) (n := 87) rfl (fun h84 => ?_) (fun h84 => ?_)
      · have hf := hi84.2 h84
        exact K97 o70.2 v_t_drafted v_t_draft v_t_weight l5 hf
      · have hf := hi84.1 h84
        refine go_aload_n C d_M_word_87 rfl 0 rfl (n := 88) rfl ?_
        refine go_dup C d_M_word_88 rfl (n := 89) rfl ?_
        refine go_get C d_M_word_89 fl_M_114 0 rfl rfl (n := 92) rfl ?_
        refine go_iconst C (v := 1) d_M_word_92 rfl (n := 93) rfl ?_
        refine go_iadd C d_M_word_93 (n := 94) rfl ?_
        refine go_put C d_M_word_94 fl_M_114 (fs_M 1) rfl rfl rfl 0 rfl (Nat.le_of_ble_eq_true rfl) (n := 97) rfl ?_
        exact K97 o70.2 (v_t_drafted + (1 : Int32)) v_t_draft v_t_weight l5 hf
    · have hf := hi73.2 h73
      refine go_iconst C (v := 0) d_M_word_76 rfl (n := 77) rfl ?_
      cases hf
      exact go_iret C d_M_word_77 hr hPOST
  have K55 : ∀ (v_t_thrown : Int32) (v_t_drafted : Int32) (v_t_draft : Nat → Int64) (v_t_weight : Nat → Int32) (l4 : Int32) (l5 : Int32), f_M_word_55 a0 a1 v_t_thrown v_t_drafted v_t_draft v_t_weight l4 l5 = some o → Go p l e { frames := 3, cells := 0, slots := 0, locals := 69 } s m args below meth c (MQ below (Qs D A POST) args s 0 0 A) D A 6 0 0 [(qt, .inr (8, [.int v_t_thrown, .int v_t_drafted, .ref qt_draft, .ref qt_weight, .int t_there, .int t_made, .ref qt_number, .ref qt_size, .ref qt_readers, .ref qt_words, .ref qt_costs, .ref qt_states, .ref qt_arcs, .int t_beginnings, .ref qt_from, .ref qt_letters, .ref qt_end, .ref qt_lowest, .ref qt_key, .int t_givenSize, .ref qt_given, .ref qt_keys, .ref qt_table, .int t_pairs, .ref qt_first, .ref qt_second, .ref qt_learnt, .int t_said, .ref qt_phrase, .int t_answered, .ref qt_corrected, .ref qt_many, .ref qt_candidates, .ref qt_alone, .ref qt_choice])), (qt_draft, .inl (tc 1, 24, .inr (.inl v_t_draft))), (qt_weight, .inl (tc 0, 24, .inl v_t_weight)), (qt_number, .inl (tc 0, 3, .inl t_number)), (qt_size, .inl (tc 0, 3, .inl t_size)), (qt_readers, .inl (tc 0, 3, .inl t_readers)), (qt_words, .inl (tc 1, 72, .inr (.inl t_words))), (qt_costs, .inl (tc 0, 72, .inl t_costs)), (qt_states, .inl (tc 0, 3, .inl t_states)), (qt_arcs, .inl (tc 0, 3, .inl t_arcs)), (qt_from, .inl (tc 0, 216, .inl t_from)), (qt_letters, .inl (tc 0, 216, .inl t_letters)), (qt_end, .inl (tc 0, 216, .inl t_end)), (qt_lowest, .inl (tc 0, 216, .inl t_lowest)), (qt_key, .inl (tc 1, 216, .inr (.inl t_key))), (qt_given, .inl (tc 1, 24, .inr (.inl t_given))), (qt_keys, .inl (tc 0, 24, .inl t_keys)), (qt_table, .inl (tc 0, 81, .inl t_table)), (qt_first, .inl (tc 1, 40, .inr (.inl t_first))), (qt_second, .inl (tc 1, 40, .inr (.inl t_second))), (qt_learnt, .inl (tc 0, 40, .inl t_learnt)), (qt_phrase, .inl (tc 1, 4, .inr (.inl t_phrase))), (qt_corrected, .inl (tc 1, 4, .inr (.inl t_corrected))), (qt_many, .inl (tc 0, 4, .inl t_many)), (qt_candidates, .inl (tc 1, 96, .inr (.inl t_candidates))), (qt_alone, .inl (tc 0, 96, .inl t_alone)), (qt_choice, .inl (tc 0, 4, .inl t_choice))] [(0, .ref qt), (1, .long a0), (3, .int a1), (4, .int l4), (5, .int l5)] 55 [] := by
    intro v_t_thrown v_t_drafted v_t_draft v_t_weight l4 l5 hf
    unfold f_M_word_55 at hf
    refine go_aload_n C d_M_word_55 rfl 0 rfl (n := 56) rfl ?_
    refine go_iload C d_M_word_56 3 rfl (n := 58) rfl ?_
    refine go_iload C d_M_word_58 4 rfl (n := 60) rfl ?_
    refine go_bipush C (v := 24) d_M_word_60 rfl (n := 62) rfl ?_
    have hi62 := iteS hf
    refine go_icmp_ne C d_M_word_62 (tgt := 69) (by decide) (n := 65) rfl (fun h62 => ?_) (fun h62 => ?_)
    · have hf := hi62.2 h62
      refine go_iconst C (v := 0) d_M_word_69 rfl (n := 70) rfl ?_
      refine go_lv (lv' := [(0, .ref qt), (1, .long a0), (3, .int a1), (5, .int l5)]) [0, 1, 2, 4] rfl ?_
      exact K70 v_t_thrown v_t_drafted v_t_draft v_t_weight l5 (0 : Int32) l4 hf
    · have hf := hi62.1 h62
      refine go_iconst C (v := 1) d_M_word_65 rfl (n := 66) rfl ?_
      refine go_goto C d_M_word_66 (tgt := 70) (by decide) ?_
      refine go_lv (lv' := [(0, .ref qt), (1, .long a0), (3, .int a1), (5, .int l5)]) [0, 1, 2, 4] rfl ?_
      exact K70 v_t_thrown v_t_drafted v_t_draft v_t_weight l5 (1 : Int32) l4 hf
  have K23 : ∀ (v_t_thrown : Int32) (v_t_drafted : Int32) (v_t_draft : Nat → Int64) (v_t_weight : Nat → Int32) (s0 : Int32), f_M_word_23 a0 a1 v_t_thrown v_t_drafted v_t_draft v_t_weight s0 = some o → Go p l e { frames := 3, cells := 0, slots := 0, locals := 69 } s m args below meth c (MQ below (Qs D A POST) args s 0 0 A) D A 6 0 0 [(qt, .inr (8, [.int v_t_thrown, .int v_t_drafted, .ref qt_draft, .ref qt_weight, .int t_there, .int t_made, .ref qt_number, .ref qt_size, .ref qt_readers, .ref qt_words, .ref qt_costs, .ref qt_states, .ref qt_arcs, .int t_beginnings, .ref qt_from, .ref qt_letters, .ref qt_end, .ref qt_lowest, .ref qt_key, .int t_givenSize, .ref qt_given, .ref qt_keys, .ref qt_table, .int t_pairs, .ref qt_first, .ref qt_second, .ref qt_learnt, .int t_said, .ref qt_phrase, .int t_answered, .ref qt_corrected, .ref qt_many, .ref qt_candidates, .ref qt_alone, .ref qt_choice])), (qt_draft, .inl (tc 1, 24, .inr (.inl v_t_draft))), (qt_weight, .inl (tc 0, 24, .inl v_t_weight)), (qt_number, .inl (tc 0, 3, .inl t_number)), (qt_size, .inl (tc 0, 3, .inl t_size)), (qt_readers, .inl (tc 0, 3, .inl t_readers)), (qt_words, .inl (tc 1, 72, .inr (.inl t_words))), (qt_costs, .inl (tc 0, 72, .inl t_costs)), (qt_states, .inl (tc 0, 3, .inl t_states)), (qt_arcs, .inl (tc 0, 3, .inl t_arcs)), (qt_from, .inl (tc 0, 216, .inl t_from)), (qt_letters, .inl (tc 0, 216, .inl t_letters)), (qt_end, .inl (tc 0, 216, .inl t_end)), (qt_lowest, .inl (tc 0, 216, .inl t_lowest)), (qt_key, .inl (tc 1, 216, .inr (.inl t_key))), (qt_given, .inl (tc 1, 24, .inr (.inl t_given))), (qt_keys, .inl (tc 0, 24, .inl t_keys)), (qt_table, .inl (tc 0, 81, .inl t_table)), (qt_first, .inl (tc 1, 40, .inr (.inl t_first))), (qt_second, .inl (tc 1, 40, .inr (.inl t_second))), (qt_learnt, .inl (tc 0, 40, .inl t_learnt)), (qt_phrase, .inl (tc 1, 4, .inr (.inl t_phrase))), (qt_corrected, .inl (tc 1, 4, .inr (.inl t_corrected))), (qt_many, .inl (tc 0, 4, .inl t_many)), (qt_candidates, .inl (tc 1, 96, .inr (.inl t_candidates))), (qt_alone, .inl (tc 0, 96, .inl t_alone)), (qt_choice, .inl (tc 0, 4, .inl t_choice))] [(0, .ref qt), (1, .long a0), (3, .int a1)] 23 [.int s0] := by
    intro v_t_thrown v_t_drafted v_t_draft v_t_weight s0 hf
    unfold f_M_word_23 at hf
    refine go_istore C d_M_word_23 (lv' := [(4, .int s0), (0, .ref qt), (1, .long a0), (3, .int a1)]) (by decide) rfl (n := 25) rfl ?_
    refine go_iconst C (v := 0) d_M_word_25 rfl (n := 26) rfl ?_
    refine go_istore C d_M_word_26 (lv' := [(5, .int (0 : Int32)), (4, .int s0), (0, .ref qt), (1, .long a0), (3, .int a1)]) (by decide) rfl (n := 28) rfl ?_
    refine go_lv (lv' := [(0, .ref qt), (1, .long a0), (3, .int a1), (4, .int s0), (5, .int (0 : Int32))]) [2, 3, 4, 1, 0] rfl ?_
    obtain ⟨x28, hx28, hf⟩ := bindS hf
    refine K28 v_t_thrown v_t_drafted v_t_draft v_t_weight s0 FU (0 : Int32) x28 hx28 ?_
    exact K55 v_t_thrown v_t_drafted v_t_draft v_t_weight s0 x28 hf
  have K18 : ∀ (v_t_thrown : Int32) (v_t_drafted : Int32) (v_t_draft : Nat → Int64) (v_t_weight : Nat → Int32), f_M_word_18 a0 a1 v_t_thrown v_t_drafted v_t_draft v_t_weight = some o → Go p l e { frames := 3, cells := 0, slots := 0, locals := 69 } s m args below meth c (MQ below (Qs D A POST) args s 0 0 A) D A 6 0 0 [(qt, .inr (8, [.int v_t_thrown, .int v_t_drafted, .ref qt_draft, .ref qt_weight, .int t_there, .int t_made, .ref qt_number, .ref qt_size, .ref qt_readers, .ref qt_words, .ref qt_costs, .ref qt_states, .ref qt_arcs, .int t_beginnings, .ref qt_from, .ref qt_letters, .ref qt_end, .ref qt_lowest, .ref qt_key, .int t_givenSize, .ref qt_given, .ref qt_keys, .ref qt_table, .int t_pairs, .ref qt_first, .ref qt_second, .ref qt_learnt, .int t_said, .ref qt_phrase, .int t_answered, .ref qt_corrected, .ref qt_many, .ref qt_candidates, .ref qt_alone, .ref qt_choice])), (qt_draft, .inl (tc 1, 24, .inr (.inl v_t_draft))), (qt_weight, .inl (tc 0, 24, .inl v_t_weight)), (qt_number, .inl (tc 0, 3, .inl t_number)), (qt_size, .inl (tc 0, 3, .inl t_size)), (qt_readers, .inl (tc 0, 3, .inl t_readers)), (qt_words, .inl (tc 1, 72, .inr (.inl t_words))), (qt_costs, .inl (tc 0, 72, .inl t_costs)), (qt_states, .inl (tc 0, 3, .inl t_states)), (qt_arcs, .inl (tc 0, 3, .inl t_arcs)), (qt_from, .inl (tc 0, 216, .inl t_from)), (qt_letters, .inl (tc 0, 216, .inl t_letters)), (qt_end, .inl (tc 0, 216, .inl t_end)), (qt_lowest, .inl (tc 0, 216, .inl t_lowest)), (qt_key, .inl (tc 1, 216, .inr (.inl t_key))), (qt_given, .inl (tc 1, 24, .inr (.inl t_given))), (qt_keys, .inl (tc 0, 24, .inl t_keys)), (qt_table, .inl (tc 0, 81, .inl t_table)), (qt_first, .inl (tc 1, 40, .inr (.inl t_first))), (qt_second, .inl (tc 1, 40, .inr (.inl t_second))), (qt_learnt, .inl (tc 0, 40, .inl t_learnt)), (qt_phrase, .inl (tc 1, 4, .inr (.inl t_phrase))), (qt_corrected, .inl (tc 1, 4, .inr (.inl t_corrected))), (qt_many, .inl (tc 0, 4, .inl t_many)), (qt_candidates, .inl (tc 1, 96, .inr (.inl t_candidates))), (qt_alone, .inl (tc 0, 96, .inl t_alone)), (qt_choice, .inl (tc 0, 4, .inl t_choice))] [(0, .ref qt), (1, .long a0), (3, .int a1)] 18 [] := by
    intro v_t_thrown v_t_drafted v_t_draft v_t_weight hf
    unfold f_M_word_18 at hf
    refine go_iconst C (v := 1) d_M_word_18 rfl (n := 19) rfl ?_
    refine go_goto C d_M_word_19 (tgt := 23) (by decide) ?_
    exact K23 v_t_thrown v_t_drafted v_t_draft v_t_weight (1 : Int32) hf
  unfold f_M_word at hf
  refine go_lload_n C d_M_word_0 rfl 1 rfl (n := 1) rfl ?_
  obtain ⟨o1, ho1, hf⟩ := bindS hf
  refine go_callP C (As := [.long a0]) (rest := []) d_M_word_1 (c_M_isWord l D tc a0 ho1 (fun r w => r = some (.int o1) ∧ w = []) ⟨rfl, rfl⟩) lk_M_111 mw_M_isWord ws_M_isWord rfl rfl ⟨(Nat.le_of_ble_eq_true rfl), (Nat.le_of_ble_eq_true rfl)⟩ rfl rfl (Nat.le_of_ble_eq_true rfl) ⟨(Nat.le_of_ble_eq_true rfl), (Nat.le_of_ble_eq_true rfl)⟩ (n := 4) rfl ?_
  rintro _ _ ⟨rfl, rfl⟩
  have hi4 := iteS hf
  refine go_if_eq C d_M_word_4 (tgt := 18) (by decide) (n := 7) rfl (fun h4 => ?_) (fun h4 => ?_)
  · have hf := hi4.1 h4
    exact K18 t_thrown t_drafted t_draft t_weight hf
  · have hf := hi4.2 h4
    refine go_iload_n C d_M_word_7 rfl 2 rfl (n := 8) rfl ?_
    have hi8 := iteS hf
    refine go_if_lt C d_M_word_8 (tgt := 18) (by decide) (n := 11) rfl (fun h8 => ?_) (fun h8 => ?_)
    · have hf := hi8.1 h8
      exact K18 t_thrown t_drafted t_draft t_weight hf
    · have hf := hi8.2 h8
      refine go_iload_n C d_M_word_11 rfl 2 rfl (n := 12) rfl ?_
      refine go_sipush C (v := 9999) d_M_word_12 rfl (n := 15) rfl ?_
      have hi15 := iteS hf
      refine go_icmp_le C d_M_word_15 (tgt := 22) (by decide) (n := 18) rfl (fun h15 => ?_) (fun h15 => ?_)
      · have hf := hi15.1 h15
        refine go_iconst C (v := 0) d_M_word_22 rfl (n := 23) rfl ?_
        exact K23 t_thrown t_drafted t_draft t_weight (0 : Int32) hf
      · have hf := hi15.2 h15
        exact K18 t_thrown t_drafted t_draft t_weight hf
