def f_Automaton_states (t_states : Int32) : Option (Int32) :=
  some t_states
set_option maxRecDepth 100000 in
set_option maxHeartbeats 4000000 in
theorem c_Automaton_states (l : Launch) (D : va_G) (tc : Nat → ClassId) (qt : Nat) (qt_starts : Nat) (qt_counts : Nat) (qt_lengths : Nat) (qt_lowests : Nat) (t_states : Int32) (t_arcs : Int32) (t_starts : Nat → Int32) (t_counts : Nat → Int32) (t_lengths : Nat → Int32) (t_lowests : Nat → Int32) {o : (Int32)} (hf : f_Automaton_states t_states = some o) (POST : Option Value → va_W → Prop) (hPOST : POST (some (.int o)) [(qt, .inr (0, [.ref qt_starts, .ref qt_counts, .ref qt_lengths, .ref qt_lowests, .int t_states, .int t_arcs])), (qt_starts, .inl (tc 0, 193, .inl t_starts)), (qt_counts, .inl (tc 0, 193, .inl t_counts)), (qt_lengths, .inl (tc 0, 193, .inl t_lengths)), (qt_lowests, .inl (tc 0, 193, .inl t_lowests))]) : Std l y_Automaton_states (.code y_Automaton_states b_Automaton_states 1 (some .int)) { frames := 0, cells := 0, slots := 0, locals := 0 } D tc [.ref qt] [(qt, .inr (0, [.ref qt_starts, .ref qt_counts, .ref qt_lengths, .ref qt_lowests, .int t_states, .int t_arcs])), (qt_starts, .inl (tc 0, 193, .inl t_starts)), (qt_counts, .inl (tc 0, 193, .inl t_counts)), (qt_lengths, .inl (tc 0, 193, .inl t_lengths)), (qt_lowests, .inl (tc 0, 193, .inl t_lowests))] 0 0 POST := by
  refine std_of (lv := [(0, .ref qt)]) (by decide) (Nat.le_of_ble_eq_true rfl) rfl (fun p e s m args below meth c A C hr hnm => ?_)
  unfold f_Automaton_states at hf
  refine go_aload_n C d_Automaton_states_0 rfl 0 rfl (n := 1) rfl ?_
  refine go_get C d_Automaton_states_1 fl_Automaton_24 0 rfl rfl (n := 4) rfl ?_
  cases hf
  exact go_iret C d_Automaton_states_4 hr hPOST

def f_Automaton_arcs (t_arcs : Int32) : Option (Int32) :=
  some t_arcs
set_option maxRecDepth 100000 in
set_option maxHeartbeats 4000000 in
theorem c_Automaton_arcs (l : Launch) (D : va_G) (tc : Nat → ClassId) (qt : Nat) (qt_starts : Nat) (qt_counts : Nat) (qt_lengths : Nat) (qt_lowests : Nat) (t_states : Int32) (t_arcs : Int32) (t_starts : Nat → Int32) (t_counts : Nat → Int32) (t_lengths : Nat → Int32) (t_lowests : Nat → Int32) {o : (Int32)} (hf : f_Automaton_arcs t_arcs = some o) (POST : Option Value → va_W → Prop) (hPOST : POST (some (.int o)) [(qt, .inr (0, [.ref qt_starts, .ref qt_counts, .ref qt_lengths, .ref qt_lowests, .int t_states, .int t_arcs])), (qt_starts, .inl (tc 0, 193, .inl t_starts)), (qt_counts, .inl (tc 0, 193, .inl t_counts)), (qt_lengths, .inl (tc 0, 193, .inl t_lengths)), (qt_lowests, .inl (tc 0, 193, .inl t_lowests))]) : Std l y_Automaton_arcs (.code y_Automaton_arcs b_Automaton_arcs 1 (some .int)) { frames := 0, cells := 0, slots := 0, locals := 0 } D tc [.ref qt] [(qt, .inr (0, [.ref qt_starts, .ref qt_counts, .ref qt_lengths, .ref qt_lowests, .int t_states, .int t_arcs])), (qt_starts, .inl (tc 0, 193, .inl t_starts)), (qt_counts, .inl (tc 0, 193, .inl t_counts)), (qt_lengths, .inl (tc 0, 193, .inl t_lengths)), (qt_lowests, .inl (tc 0, 193, .inl t_lowests))] 0 0 POST := by
  refine std_of (lv := [(0, .ref qt)]) (by decide) (Nat.le_of_ble_eq_true rfl) rfl (fun p e s m args below meth c A C hr hnm => ?_)
  unfold f_Automaton_arcs at hf
  refine go_aload_n C d_Automaton_arcs_0 rfl 0 rfl (n := 1) rfl ?_
  refine go_get C d_Automaton_arcs_1 fl_Automaton_28 0 rfl rfl (n := 4) rfl ?_
  cases hf
  exact go_iret C d_Automaton_arcs_4 hr hPOST

def f_Automaton_countWords_15b (p0_size : Int32) (p0_texts : Nat → Int64) (a1 : Int32) (a2 : Int32) (l3 : Int64) (rec : Int32 → Option (Int32)) (l5 : Int32) : Option (Int32) :=
  (f_WordList_size p0_size).bind (fun o18 => if o18 ≤ l5 then some ( l5) else (f_WordList_textAt p0_texts l5).bind (fun o27 => (f_Texts_head o27 a2).bind (fun o31 => if o31 = l3 then rec (l5 + (1 : Int32)) else some ( l5))))
def f_Automaton_countWords_15 (p0_size : Int32) (p0_texts : Nat → Int64) (a1 : Int32) (a2 : Int32) (l3 : Int64) : Nat → Int32 → Option (Int32)
  | 0 => fun _ => none
  | n + 1 => f_Automaton_countWords_15b p0_size p0_texts a1 a2 l3 (f_Automaton_countWords_15 p0_size p0_texts a1 a2 l3 n)
def f_Automaton_countWords_45 (p0_size : Int32) (p0_texts : Nat → Int64) (a1 : Int32) (a2 : Int32) (l5 : Int32) : Option (Int32) :=
  some (l5 - a1)
def f_Automaton_countWords (p0_size : Int32) (p0_texts : Nat → Int64) (a1 : Int32) (a2 : Int32) : Option (Int32) :=
  (f_WordList_textAt p0_texts a1).bind (fun o2 => (f_Texts_head o2 a2).bind (fun o6 => (f_Automaton_countWords_15 p0_size p0_texts a1 a2 o6 FU (a1 + (1 : Int32))).bind (fun x15 => f_Automaton_countWords_45 p0_size p0_texts a1 a2 x15)))
set_option maxRecDepth 100000 in
set_option maxHeartbeats 4000000 in
theorem c_Automaton_countWords (l : Launch) (D : va_G) (tc : Nat → ClassId) (qp0 : Nat) (qp0_texts : Nat) (qp0_costs : Nat) (p0_size : Int32) (p0_texts : Nat → Int64) (p0_costs : Nat → Int32) (a1 : Int32) (a2 : Int32) {o : (Int32)} (hf : f_Automaton_countWords p0_size p0_texts a1 a2 = some o) (POST : Option Value → va_W → Prop) (hPOST : POST (some (.int o)) [(qp0, .inr (6, [.ref qp0_texts, .ref qp0_costs, .int p0_size])), (qp0_texts, .inl (tc 1, 24, .inr (.inl p0_texts))), (qp0_costs, .inl (tc 0, 24, .inl p0_costs))]) : Std l y_Automaton_countWords (.code y_Automaton_countWords b_Automaton_countWords 6 (some .int)) { frames := 1, cells := 0, slots := 0, locals := 22 } D tc [.ref qp0, .int a1, .int a2] [(qp0, .inr (6, [.ref qp0_texts, .ref qp0_costs, .int p0_size])), (qp0_texts, .inl (tc 1, 24, .inr (.inl p0_texts))), (qp0_costs, .inl (tc 0, 24, .inl p0_costs))] 0 0 POST := by
  refine std_of (lv := [(0, .ref qp0), (1, .int a1), (2, .int a2)]) (by decide) (Nat.le_of_ble_eq_true rfl) rfl (fun p e s m args below meth c A C hr hnm => ?_)
  have K15 : ∀ (l3 : Int64) (n : Nat) (l5 : Int32) (x : (Int32)), f_Automaton_countWords_15 p0_size p0_texts a1 a2 l3 n l5 = some x → (Go p l e { frames := 1, cells := 0, slots := 0, locals := 22 } s m args below meth c (MQ below (Qs D A POST) args s 0 0 A) D A 6 0 0 [(qp0, .inr (6, [.ref qp0_texts, .ref qp0_costs, .int p0_size])), (qp0_texts, .inl (tc 1, 24, .inr (.inl p0_texts))), (qp0_costs, .inl (tc 0, 24, .inl p0_costs))] [(1, .int a1), (5, .int x)] 45 []) → Go p l e { frames := 1, cells := 0, slots := 0, locals := 22 } s m args below meth c (MQ below (Qs D A POST) args s 0 0 A) D A 6 0 0 [(qp0, .inr (6, [.ref qp0_texts, .ref qp0_costs, .int p0_size])), (qp0_texts, .inl (tc 1, 24, .inr (.inl p0_texts))), (qp0_costs, .inl (tc 0, 24, .inl p0_costs))] [(0, .ref qp0), (1, .int a1), (2, .int a2), (3, .long l3), (5, .int l5)] 15 [] := by
    intro l3 n
    induction n with
    | zero =>
      intro l5 x hf hE
      simp [f_Automaton_countWords_15] at hf
    | succ n ih =>
      intro l5 x hf hE
      have hf : f_Automaton_countWords_15b p0_size p0_texts a1 a2 l3 (f_Automaton_countWords_15 p0_size p0_texts a1 a2 l3 n) l5 = some x := hf
      unfold f_Automaton_countWords_15b at hf
      refine go_iload C d_Automaton_countWords_15 4 rfl (n := 17) rfl ?_
      refine go_aload_n C d_Automaton_countWords_17 rfl 0 rfl (n := 18) rfl ?_
      obtain ⟨o18, ho18, hf⟩ := bindS hf
      refine go_callVr C (As := []) (rest := [.int l5]) d_Automaton_countWords_18 (c_WordList_size l D tc qp0 qp0_texts qp0_costs p0_size p0_texts p0_costs ho18 (fun r w => r = some (.int o18) ∧ w = [(qp0, .inr (6, [.ref qp0_texts, .ref qp0_costs, .int p0_size])), (qp0_texts, .inl (tc 1, 24, .inr (.inl p0_texts))), (qp0_costs, .inl (tc 0, 24, .inl p0_costs))]) ⟨rfl, rfl⟩) lk_Automaton_31 mw_WordList_size sv_WordList_size 0 rfl rfl rfl rfl ⟨(Nat.le_of_ble_eq_true rfl), (Nat.le_of_ble_eq_true rfl)⟩ rfl rfl (Nat.le_of_ble_eq_true rfl) ⟨(Nat.le_of_ble_eq_true rfl), (Nat.le_of_ble_eq_true rfl)⟩ [0, 1, 2] rfl (by decide) (n := 21) rfl ?_
      have hi21 := iteS hf
      refine go_icmp_ge C d_Automaton_countWords_21 (tgt := 45) (by decide) (n := 24) rfl (fun h21 => ?_) (fun h21 => ?_)
      · have hf := hi21.1 h21
        refine go_lv (lv' := [(1, .int a1), (5, .int l5)]) [1, 4] rfl ?_
        cases hf
        exact hE
      · have hf := hi21.2 h21
        refine go_aload_n C d_Automaton_countWords_24 rfl 0 rfl (n := 25) rfl ?_
        refine go_iload C d_Automaton_countWords_25 4 rfl (n := 27) rfl ?_
        obtain ⟨o27, ho27, hf⟩ := bindS hf
        refine go_callVr C (As := [.int l5]) (rest := []) d_Automaton_countWords_27 (c_WordList_textAt l D tc qp0 qp0_texts qp0_costs p0_size p0_texts p0_costs l5 ho27 (fun r w => r = some (.long o27) ∧ w = [(qp0, .inr (6, [.ref qp0_texts, .ref qp0_costs, .int p0_size])), (qp0_texts, .inl (tc 1, 24, .inr (.inl p0_texts))), (qp0_costs, .inl (tc 0, 24, .inl p0_costs))]) ⟨rfl, rfl⟩) lk_Automaton_37 mw_WordList_textAt sv_WordList_textAt 0 rfl rfl rfl rfl ⟨(Nat.le_of_ble_eq_true rfl), (Nat.le_of_ble_eq_true rfl)⟩ rfl rfl (Nat.le_of_ble_eq_true rfl) ⟨(Nat.le_of_ble_eq_true rfl), (Nat.le_of_ble_eq_true rfl)⟩ [0, 1, 2] rfl (by decide) (n := 30) rfl ?_
        refine go_iload_n C d_Automaton_countWords_30 rfl 2 rfl (n := 31) rfl ?_
        obtain ⟨o31, ho31, hf⟩ := bindS hf
        refine go_callP C (As := [.long o27, .int a2]) (rest := []) d_Automaton_countWords_31 (c_Texts_head l D tc o27 a2 ho31 (fun r w => r = some (.long o31) ∧ w = []) ⟨rfl, rfl⟩) lk_Automaton_70 mw_Texts_head ws_Texts_head rfl rfl ⟨(Nat.le_of_ble_eq_true rfl), (Nat.le_of_ble_eq_true rfl)⟩ rfl rfl (Nat.le_of_ble_eq_true rfl) ⟨(Nat.le_of_ble_eq_true rfl), (Nat.le_of_ble_eq_true rfl)⟩ (n := 34) rfl ?_
        rintro _ _ ⟨rfl, rfl⟩
        refine go_lload_n C d_Automaton_countWords_34 rfl 3 rfl (n := 35) rfl ?_
        have hi35 := iteS hf
        refine go_lcmp_ne C d_Automaton_countWords_35 (n1 := 36) rfl d_Automaton_countWords_36 (tgt := 45) (by decide) (n := 39) rfl (fun h35 => ?_) (fun h35 => ?_)
        · have hf := hi35.2 h35
          refine go_lv (lv' := [(1, .int a1), (5, .int l5)]) [1, 4] rfl ?_
          cases hf
          exact hE
        · have hf := hi35.1 h35
          refine go_iinc C d_Automaton_countWords_39 4 rfl (v := l5 + (1 : Int32)) rfl (lv' := [(5, .int (l5 + (1 : Int32))), (0, .ref qp0), (1, .int a1), (2, .int a2), (3, .long l3)]) (by decide) rfl (n := 42) rfl ?_
          refine go_goto C d_Automaton_countWords_42 (tgt := 15) (by decide) ?_
          refine go_lv (lv' := [(0, .ref qp0), (1, .int a1), (2, .int a2), (3, .long l3), (5, .int (l5 + (1 : Int32)))]) [1, 2, 3, 4, 0] rfl ?_
          exact ih (l5 + (1 : Int32)) x hf hE
  have K45 : ∀ (l5 : Int32), f_Automaton_countWords_45 p0_size p0_texts a1 a2 l5 = some o → Go p l e { frames := 1, cells := 0, slots := 0, locals := 22 } s m args below meth c (MQ below (Qs D A POST) args s 0 0 A) D A 6 0 0 [(qp0, .inr (6, [.ref qp0_texts, .ref qp0_costs, .int p0_size])), (qp0_texts, .inl (tc 1, 24, .inr (.inl p0_texts))), (qp0_costs, .inl (tc 0, 24, .inl p0_costs))] [(1, .int a1), (5, .int l5)] 45 [] := by
    intro l5 hf
    unfold f_Automaton_countWords_45 at hf
    refine go_iload C d_Automaton_countWords_45 1 rfl (n := 47) rfl ?_
    refine go_iload_n C d_Automaton_countWords_47 rfl 0 rfl (n := 48) rfl ?_
    refine go_isub C d_Automaton_countWords_48 (n := 49) rfl ?_
    cases hf
    exact go_iret C d_Automaton_countWords_49 hr hPOST
  unfold f_Automaton_countWords at hf
  refine go_aload_n C d_Automaton_countWords_0 rfl 0 rfl (n := 1) rfl ?_
  refine go_iload_n C d_Automaton_countWords_1 rfl 1 rfl (n := 2) rfl ?_
  obtain ⟨o2, ho2, hf⟩ := bindS hf
  refine go_callVr C (As := [.int a1]) (rest := []) d_Automaton_countWords_2 (c_WordList_textAt l D tc qp0 qp0_texts qp0_costs p0_size p0_texts p0_costs a1 ho2 (fun r w => r = some (.long o2) ∧ w = [(qp0, .inr (6, [.ref qp0_texts, .ref qp0_costs, .int p0_size])), (qp0_texts, .inl (tc 1, 24, .inr (.inl p0_texts))), (qp0_costs, .inl (tc 0, 24, .inl p0_costs))]) ⟨rfl, rfl⟩) lk_Automaton_37 mw_WordList_textAt sv_WordList_textAt 0 rfl rfl rfl rfl ⟨(Nat.le_of_ble_eq_true rfl), (Nat.le_of_ble_eq_true rfl)⟩ rfl rfl (Nat.le_of_ble_eq_true rfl) ⟨(Nat.le_of_ble_eq_true rfl), (Nat.le_of_ble_eq_true rfl)⟩ [0, 1, 2] rfl (by decide) (n := 5) rfl ?_
  refine go_iload_n C d_Automaton_countWords_5 rfl 2 rfl (n := 6) rfl ?_
  obtain ⟨o6, ho6, hf⟩ := bindS hf
  refine go_callP C (As := [.long o2, .int a2]) (rest := []) d_Automaton_countWords_6 (c_Texts_head l D tc o2 a2 ho6 (fun r w => r = some (.long o6) ∧ w = []) ⟨rfl, rfl⟩) lk_Automaton_70 mw_Texts_head ws_Texts_head rfl rfl ⟨(Nat.le_of_ble_eq_true rfl), (Nat.le_of_ble_eq_true rfl)⟩ rfl rfl (Nat.le_of_ble_eq_true rfl) ⟨(Nat.le_of_ble_eq_true rfl), (Nat.le_of_ble_eq_true rfl)⟩ (n := 9) rfl ?_
  rintro _ _ ⟨rfl, rfl⟩
  refine go_lstore_n C d_Automaton_countWords_9 rfl (lv' := [(3, .long o6), (0, .ref qp0), (1, .int a1), (2, .int a2)]) (by decide) rfl (n := 10) rfl ?_
  refine go_iload_n C d_Automaton_countWords_10 rfl 2 rfl (n := 11) rfl ?_
  refine go_iconst C (v := 1) d_Automaton_countWords_11 rfl (n := 12) rfl ?_
  refine go_iadd C d_Automaton_countWords_12 (n := 13) rfl ?_
  refine go_istore C d_Automaton_countWords_13 (lv' := [(5, .int (a1 + (1 : Int32))), (3, .long o6), (0, .ref qp0), (1, .int a1), (2, .int a2)]) (by decide) rfl (n := 15) rfl ?_
  refine go_lv (lv' := [(0, .ref qp0), (1, .int a1), (2, .int a2), (3, .long o6), (5, .int (a1 + (1 : Int32)))]) [2, 3, 4, 1, 0] rfl ?_
  obtain ⟨x15, hx15, hf⟩ := bindS hf
  refine K15 o6 FU (a1 + (1 : Int32)) x15 hx15 ?_
  exact K45 x15 hf

def f_Automaton_lowestCost_9b (p0_costs : Nat → Int32) (a1 : Int32) (a2 : Int32) (rec : Int32 → Int32 → Option (Int32)) (l3 : Int32) (l4 : Int32) : Option (Int32) :=
  if a2 ≤ l4 then some ( l3) else (f_WordList_costAt p0_costs (a1 + l4)).bind (fun o21 => rec (if o21 < l3 then o21 else l3) (l4 + (1 : Int32)))
def f_Automaton_lowestCost_9 (p0_costs : Nat → Int32) (a1 : Int32) (a2 : Int32) : Nat → Int32 → Int32 → Option (Int32)
  | 0 => fun _ _ => none
  | n + 1 => f_Automaton_lowestCost_9b p0_costs a1 a2 (f_Automaton_lowestCost_9 p0_costs a1 a2 n)
def f_Automaton_lowestCost (p0_costs : Nat → Int32) (a1 : Int32) (a2 : Int32) : Option (Int32) :=
  (f_WordList_costAt p0_costs a1).bind (fun o2 => (f_Automaton_lowestCost_9 p0_costs a1 a2 FU o2 (1 : Int32)).bind (fun x9 => some x9))
set_option maxRecDepth 100000 in
set_option maxHeartbeats 4000000 in
theorem c_Automaton_lowestCost (l : Launch) (D : va_G) (tc : Nat → ClassId) (qp0 : Nat) (qp0_texts : Nat) (qp0_costs : Nat) (p0_size : Int32) (p0_texts : Nat → Int64) (p0_costs : Nat → Int32) (a1 : Int32) (a2 : Int32) {o : (Int32)} (hf : f_Automaton_lowestCost p0_costs a1 a2 = some o) (POST : Option Value → va_W → Prop) (hPOST : POST (some (.int o)) [(qp0, .inr (6, [.ref qp0_texts, .ref qp0_costs, .int p0_size])), (qp0_texts, .inl (tc 1, 24, .inr (.inl p0_texts))), (qp0_costs, .inl (tc 0, 24, .inl p0_costs))]) : Std l y_Automaton_lowestCost (.code y_Automaton_lowestCost b_Automaton_lowestCost 5 (some .int)) { frames := 1, cells := 0, slots := 0, locals := 21 } D tc [.ref qp0, .int a1, .int a2] [(qp0, .inr (6, [.ref qp0_texts, .ref qp0_costs, .int p0_size])), (qp0_texts, .inl (tc 1, 24, .inr (.inl p0_texts))), (qp0_costs, .inl (tc 0, 24, .inl p0_costs))] 0 0 POST := by
  refine std_of (lv := [(0, .ref qp0), (1, .int a1), (2, .int a2)]) (by decide) (Nat.le_of_ble_eq_true rfl) rfl (fun p e s m args below meth c A C hr hnm => ?_)
  have K9 : ∀ (n : Nat) (l3 : Int32) (l4 : Int32) (x : (Int32)), f_Automaton_lowestCost_9 p0_costs a1 a2 n l3 l4 = some x → (Go p l e { frames := 1, cells := 0, slots := 0, locals := 21 } s m args below meth c (MQ below (Qs D A POST) args s 0 0 A) D A 5 0 0 [(qp0, .inr (6, [.ref qp0_texts, .ref qp0_costs, .int p0_size])), (qp0_texts, .inl (tc 1, 24, .inr (.inl p0_texts))), (qp0_costs, .inl (tc 0, 24, .inl p0_costs))] [(3, .int x)] 34 []) → Go p l e { frames := 1, cells := 0, slots := 0, locals := 21 } s m args below meth c (MQ below (Qs D A POST) args s 0 0 A) D A 5 0 0 [(qp0, .inr (6, [.ref qp0_texts, .ref qp0_costs, .int p0_size])), (qp0_texts, .inl (tc 1, 24, .inr (.inl p0_texts))), (qp0_costs, .inl (tc 0, 24, .inl p0_costs))] [(0, .ref qp0), (1, .int a1), (2, .int a2), (3, .int l3), (4, .int l4)] 9 [] := by
    intro n
    induction n with
    | zero =>
      intro l3 l4 x hf hE
      simp [f_Automaton_lowestCost_9] at hf
    | succ n ih =>
      intro l3 l4 x hf hE
      have hf : f_Automaton_lowestCost_9b p0_costs a1 a2 (f_Automaton_lowestCost_9 p0_costs a1 a2 n) l3 l4 = some x := hf
      unfold f_Automaton_lowestCost_9b at hf
      refine go_iload C d_Automaton_lowestCost_9 4 rfl (n := 11) rfl ?_
      refine go_iload_n C d_Automaton_lowestCost_11 rfl 2 rfl (n := 12) rfl ?_
      have hi12 := iteS hf
      refine go_icmp_ge C d_Automaton_lowestCost_12 (tgt := 34) (by decide) (n := 15) rfl (fun h12 => ?_) (fun h12 => ?_)
      · have hf := hi12.1 h12
        refine go_lv (lv' := [(3, .int l3)]) [3] rfl ?_
        cases hf
        exact hE
      · have hf := hi12.2 h12
        refine go_iload_n C d_Automaton_lowestCost_15 rfl 3 rfl (n := 16) rfl ?_
        refine go_aload_n C d_Automaton_lowestCost_16 rfl 0 rfl (n := 17) rfl ?_
        refine go_iload_n C d_Automaton_lowestCost_17 rfl 1 rfl (n := 18) rfl ?_
        refine go_iload C d_Automaton_lowestCost_18 4 rfl (n := 20) rfl ?_
        refine go_iadd C d_Automaton_lowestCost_20 (n := 21) rfl ?_
        obtain ⟨o21, ho21, hf⟩ := bindS hf
        refine go_callVr C (As := [.int (a1 + l4)]) (rest := [.int l3]) d_Automaton_lowestCost_21 (c_WordList_costAt l D tc qp0 qp0_texts qp0_costs p0_size p0_texts p0_costs (a1 + l4) ho21 (fun r w => r = some (.int o21) ∧ w = [(qp0, .inr (6, [.ref qp0_texts, .ref qp0_costs, .int p0_size])), (qp0_texts, .inl (tc 1, 24, .inr (.inl p0_texts))), (qp0_costs, .inl (tc 0, 24, .inl p0_costs))]) ⟨rfl, rfl⟩) lk_Automaton_74 mw_WordList_costAt sv_WordList_costAt 0 rfl rfl rfl rfl ⟨(Nat.le_of_ble_eq_true rfl), (Nat.le_of_ble_eq_true rfl)⟩ rfl rfl (Nat.le_of_ble_eq_true rfl) ⟨(Nat.le_of_ble_eq_true rfl), (Nat.le_of_ble_eq_true rfl)⟩ [0, 1, 2] rfl (by decide) (n := 24) rfl ?_
        refine go_mmin C d_Automaton_lowestCost_24 wl_Automaton_78 wmin (Nat.le_of_ble_eq_true rfl) (Nat.le_of_ble_eq_true rfl) (Nat.le_of_ble_eq_true rfl) (Nat.le_of_ble_eq_true rfl) (n := 27) rfl ?_
        refine go_istore_n C d_Automaton_lowestCost_27 rfl (lv' := [(3, .int (if o21 < l3 then o21 else l3)), (0, .ref qp0), (1, .int a1), (2, .int a2), (4, .int l4)]) (by decide) rfl (n := 28) rfl ?_
        refine go_iinc C d_Automaton_lowestCost_28 4 rfl (v := l4 + (1 : Int32)) rfl (lv' := [(4, .int (l4 + (1 : Int32))), (3, .int (if o21 < l3 then o21 else l3)), (0, .ref qp0), (1, .int a1), (2, .int a2)]) (by decide) rfl (n := 31) rfl ?_
        refine go_goto C d_Automaton_lowestCost_31 (tgt := 9) (by decide) ?_
        refine go_lv (lv' := [(0, .ref qp0), (1, .int a1), (2, .int a2), (3, .int (if o21 < l3 then o21 else l3)), (4, .int (l4 + (1 : Int32)))]) [2, 3, 4, 1, 0] rfl ?_
        exact ih (if o21 < l3 then o21 else l3) (l4 + (1 : Int32)) x hf hE
  unfold f_Automaton_lowestCost at hf
  refine go_aload_n C d_Automaton_lowestCost_0 rfl 0 rfl (n := 1) rfl ?_
  refine go_iload_n C d_Automaton_lowestCost_1 rfl 1 rfl (n := 2) rfl ?_
  obtain ⟨o2, ho2, hf⟩ := bindS hf
  refine go_callVr C (As := [.int a1]) (rest := []) d_Automaton_lowestCost_2 (c_WordList_costAt l D tc qp0 qp0_texts qp0_costs p0_size p0_texts p0_costs a1 ho2 (fun r w => r = some (.int o2) ∧ w = [(qp0, .inr (6, [.ref qp0_texts, .ref qp0_costs, .int p0_size])), (qp0_texts, .inl (tc 1, 24, .inr (.inl p0_texts))), (qp0_costs, .inl (tc 0, 24, .inl p0_costs))]) ⟨rfl, rfl⟩) lk_Automaton_74 mw_WordList_costAt sv_WordList_costAt 0 rfl rfl rfl rfl ⟨(Nat.le_of_ble_eq_true rfl), (Nat.le_of_ble_eq_true rfl)⟩ rfl rfl (Nat.le_of_ble_eq_true rfl) ⟨(Nat.le_of_ble_eq_true rfl), (Nat.le_of_ble_eq_true rfl)⟩ [0, 1, 2] rfl (by decide) (n := 5) rfl ?_
  refine go_istore_n C d_Automaton_lowestCost_5 rfl (lv' := [(3, .int o2), (0, .ref qp0), (1, .int a1), (2, .int a2)]) (by decide) rfl (n := 6) rfl ?_
  refine go_iconst C (v := 1) d_Automaton_lowestCost_6 rfl (n := 7) rfl ?_
  refine go_istore C d_Automaton_lowestCost_7 (lv' := [(4, .int (1 : Int32)), (3, .int o2), (0, .ref qp0), (1, .int a1), (2, .int a2)]) (by decide) rfl (n := 9) rfl ?_
  refine go_lv (lv' := [(0, .ref qp0), (1, .int a1), (2, .int a2), (3, .int o2), (4, .int (1 : Int32))]) [2, 3, 4, 1, 0] rfl ?_
  obtain ⟨x9, hx9, hf⟩ := bindS hf
  refine K9 FU o2 (1 : Int32) x9 hx9 ?_
  refine go_iload_n C d_Automaton_lowestCost_34 rfl 0 rfl (n := 35) rfl ?_
  cases hf
  exact go_iret C d_Automaton_lowestCost_35 hr hPOST

def f_Automaton_endingAt (t_starts : Nat → Int32) (t_lengths : Nat → Int32) (p0_texts : Nat → Int64) (a1 : Int32) (a2 : Int32) : Option (Int64) :=
  if okI a1 193 = true then (f_WordList_textAt p0_texts ((t_starts a1.toNatClampNeg) + a2)).bind (fun o9 => if okI a1 193 = true then (f_Texts_tail o9 (t_lengths a1.toNatClampNeg)).bind (fun o18 => some o18) else none) else none
set_option maxRecDepth 100000 in
set_option maxHeartbeats 4000000 in
theorem c_Automaton_endingAt (l : Launch) (D : va_G) (tc : Nat → ClassId) (qt : Nat) (qt_starts : Nat) (qt_counts : Nat) (qt_lengths : Nat) (qt_lowests : Nat) (qp0 : Nat) (qp0_texts : Nat) (qp0_costs : Nat) (t_states : Int32) (t_arcs : Int32) (t_starts : Nat → Int32) (t_counts : Nat → Int32) (t_lengths : Nat → Int32) (t_lowests : Nat → Int32) (p0_size : Int32) (p0_texts : Nat → Int64) (p0_costs : Nat → Int32) (a1 : Int32) (a2 : Int32) {o : (Int64)} (hf : f_Automaton_endingAt t_starts t_lengths p0_texts a1 a2 = some o) (POST : Option Value → va_W → Prop) (hPOST : POST (some (.long o)) [(qt, .inr (0, [.ref qt_starts, .ref qt_counts, .ref qt_lengths, .ref qt_lowests, .int t_states, .int t_arcs])), (qt_starts, .inl (tc 0, 193, .inl t_starts)), (qt_counts, .inl (tc 0, 193, .inl t_counts)), (qt_lengths, .inl (tc 0, 193, .inl t_lengths)), (qt_lowests, .inl (tc 0, 193, .inl t_lowests)), (qp0, .inr (6, [.ref qp0_texts, .ref qp0_costs, .int p0_size])), (qp0_texts, .inl (tc 1, 24, .inr (.inl p0_texts))), (qp0_costs, .inl (tc 0, 24, .inl p0_costs))]) : Std l y_Automaton_endingAt (.code y_Automaton_endingAt b_Automaton_endingAt 4 (some .long)) { frames := 1, cells := 0, slots := 0, locals := 22 } D tc [.ref qt, .ref qp0, .int a1, .int a2] [(qt, .inr (0, [.ref qt_starts, .ref qt_counts, .ref qt_lengths, .ref qt_lowests, .int t_states, .int t_arcs])), (qt_starts, .inl (tc 0, 193, .inl t_starts)), (qt_counts, .inl (tc 0, 193, .inl t_counts)), (qt_lengths, .inl (tc 0, 193, .inl t_lengths)), (qt_lowests, .inl (tc 0, 193, .inl t_lowests)), (qp0, .inr (6, [.ref qp0_texts, .ref qp0_costs, .int p0_size])), (qp0_texts, .inl (tc 1, 24, .inr (.inl p0_texts))), (qp0_costs, .inl (tc 0, 24, .inl p0_costs))] 0 0 POST := by
  refine std_of (lv := [(0, .ref qt), (1, .ref qp0), (2, .int a1), (3, .int a2)]) (by decide) (Nat.le_of_ble_eq_true rfl) rfl (fun p e s m args below meth c A C hr hnm => ?_)
  unfold f_Automaton_endingAt at hf
  refine go_aload_n C d_Automaton_endingAt_0 rfl 1 rfl (n := 1) rfl ?_
  refine go_aload_n C d_Automaton_endingAt_1 rfl 0 rfl (n := 2) rfl ?_
  refine go_get C d_Automaton_endingAt_2 fl_Automaton_11 0 rfl rfl (n := 5) rfl ?_
  refine go_iload_n C d_Automaton_endingAt_5 rfl 2 rfl (n := 6) rfl ?_
  obtain ⟨hg6, hf⟩ := guardS hf
  refine go_iald C d_Automaton_endingAt_6 1 rfl hg6 (n := 7) rfl ?_
  refine go_iload_n C d_Automaton_endingAt_7 rfl 3 rfl (n := 8) rfl ?_
  refine go_iadd C d_Automaton_endingAt_8 (n := 9) rfl ?_
  obtain ⟨o9, ho9, hf⟩ := bindS hf
  refine go_callVr C (As := [.int ((t_starts a1.toNatClampNeg) + a2)]) (rest := []) d_Automaton_endingAt_9 (c_WordList_textAt l D tc qp0 qp0_texts qp0_costs p0_size p0_texts p0_costs ((t_starts a1.toNatClampNeg) + a2) ho9 (fun r w => r = some (.long o9) ∧ w = [(qp0, .inr (6, [.ref qp0_texts, .ref qp0_costs, .int p0_size])), (qp0_texts, .inl (tc 1, 24, .inr (.inl p0_texts))), (qp0_costs, .inl (tc 0, 24, .inl p0_costs))]) ⟨rfl, rfl⟩) lk_Automaton_37 mw_WordList_textAt sv_WordList_textAt 5 rfl rfl rfl rfl ⟨(Nat.le_of_ble_eq_true rfl), (Nat.le_of_ble_eq_true rfl)⟩ rfl rfl (Nat.le_of_ble_eq_true rfl) ⟨(Nat.le_of_ble_eq_true rfl), (Nat.le_of_ble_eq_true rfl)⟩ [5, 6, 7] rfl (by decide) (n := 12) rfl ?_
  refine go_aload_n C d_Automaton_endingAt_12 rfl 0 rfl (n := 13) rfl ?_
  refine go_get C d_Automaton_endingAt_13 fl_Automaton_18 0 rfl rfl (n := 16) rfl ?_
  refine go_iload_n C d_Automaton_endingAt_16 rfl 2 rfl (n := 17) rfl ?_
  obtain ⟨hg17, hf⟩ := guardS hf
  refine go_iald C d_Automaton_endingAt_17 3 rfl hg17 (n := 18) rfl ?_
  obtain ⟨o18, ho18, hf⟩ := bindS hf
  refine go_callP C (As := [.long o9, .int (t_lengths a1.toNatClampNeg)]) (rest := []) d_Automaton_endingAt_18 (c_Texts_tail l D tc o9 (t_lengths a1.toNatClampNeg) ho18 (fun r w => r = some (.long o18) ∧ w = []) ⟨rfl, rfl⟩) lk_Automaton_95 mw_Texts_tail ws_Texts_tail rfl rfl ⟨(Nat.le_of_ble_eq_true rfl), (Nat.le_of_ble_eq_true rfl)⟩ rfl rfl (Nat.le_of_ble_eq_true rfl) ⟨(Nat.le_of_ble_eq_true rfl), (Nat.le_of_ble_eq_true rfl)⟩ (n := 21) rfl ?_
  rintro _ _ ⟨rfl, rfl⟩
  cases hf
  exact go_lret C d_Automaton_endingAt_21 hr hPOST

def f_Automaton_costAbove (t_starts : Nat → Int32) (t_lowests : Nat → Int32) (p0_costs : Nat → Int32) (a1 : Int32) (a2 : Int32) : Option (Int32) :=
  if okI a1 193 = true then (f_WordList_costAt p0_costs ((t_starts a1.toNatClampNeg) + a2)).bind (fun o9 => if okI a1 193 = true then some (o9 - (t_lowests a1.toNatClampNeg)) else none) else none
set_option maxRecDepth 100000 in
set_option maxHeartbeats 4000000 in
theorem c_Automaton_costAbove (l : Launch) (D : va_G) (tc : Nat → ClassId) (qt : Nat) (qt_starts : Nat) (qt_counts : Nat) (qt_lengths : Nat) (qt_lowests : Nat) (qp0 : Nat) (qp0_texts : Nat) (qp0_costs : Nat) (t_states : Int32) (t_arcs : Int32) (t_starts : Nat → Int32) (t_counts : Nat → Int32) (t_lengths : Nat → Int32) (t_lowests : Nat → Int32) (p0_size : Int32) (p0_texts : Nat → Int64) (p0_costs : Nat → Int32) (a1 : Int32) (a2 : Int32) {o : (Int32)} (hf : f_Automaton_costAbove t_starts t_lowests p0_costs a1 a2 = some o) (POST : Option Value → va_W → Prop) (hPOST : POST (some (.int o)) [(qt, .inr (0, [.ref qt_starts, .ref qt_counts, .ref qt_lengths, .ref qt_lowests, .int t_states, .int t_arcs])), (qt_starts, .inl (tc 0, 193, .inl t_starts)), (qt_counts, .inl (tc 0, 193, .inl t_counts)), (qt_lengths, .inl (tc 0, 193, .inl t_lengths)), (qt_lowests, .inl (tc 0, 193, .inl t_lowests)), (qp0, .inr (6, [.ref qp0_texts, .ref qp0_costs, .int p0_size])), (qp0_texts, .inl (tc 1, 24, .inr (.inl p0_texts))), (qp0_costs, .inl (tc 0, 24, .inl p0_costs))]) : Std l y_Automaton_costAbove (.code y_Automaton_costAbove b_Automaton_costAbove 4 (some .int)) { frames := 1, cells := 0, slots := 0, locals := 21 } D tc [.ref qt, .ref qp0, .int a1, .int a2] [(qt, .inr (0, [.ref qt_starts, .ref qt_counts, .ref qt_lengths, .ref qt_lowests, .int t_states, .int t_arcs])), (qt_starts, .inl (tc 0, 193, .inl t_starts)), (qt_counts, .inl (tc 0, 193, .inl t_counts)), (qt_lengths, .inl (tc 0, 193, .inl t_lengths)), (qt_lowests, .inl (tc 0, 193, .inl t_lowests)), (qp0, .inr (6, [.ref qp0_texts, .ref qp0_costs, .int p0_size])), (qp0_texts, .inl (tc 1, 24, .inr (.inl p0_texts))), (qp0_costs, .inl (tc 0, 24, .inl p0_costs))] 0 0 POST := by
  refine std_of (lv := [(0, .ref qt), (1, .ref qp0), (2, .int a1), (3, .int a2)]) (by decide) (Nat.le_of_ble_eq_true rfl) rfl (fun p e s m args below meth c A C hr hnm => ?_)
  unfold f_Automaton_costAbove at hf
  refine go_aload_n C d_Automaton_costAbove_0 rfl 1 rfl (n := 1) rfl ?_
  refine go_aload_n C d_Automaton_costAbove_1 rfl 0 rfl (n := 2) rfl ?_
  refine go_get C d_Automaton_costAbove_2 fl_Automaton_11 0 rfl rfl (n := 5) rfl ?_
  refine go_iload_n C d_Automaton_costAbove_5 rfl 2 rfl (n := 6) rfl ?_
  obtain ⟨hg6, hf⟩ := guardS hf
  refine go_iald C d_Automaton_costAbove_6 1 rfl hg6 (n := 7) rfl ?_
  refine go_iload_n C d_Automaton_costAbove_7 rfl 3 rfl (n := 8) rfl ?_
  refine go_iadd C d_Automaton_costAbove_8 (n := 9) rfl ?_
  obtain ⟨o9, ho9, hf⟩ := bindS hf
  refine go_callVr C (As := [.int ((t_starts a1.toNatClampNeg) + a2)]) (rest := []) d_Automaton_costAbove_9 (c_WordList_costAt l D tc qp0 qp0_texts qp0_costs p0_size p0_texts p0_costs ((t_starts a1.toNatClampNeg) + a2) ho9 (fun r w => r = some (.int o9) ∧ w = [(qp0, .inr (6, [.ref qp0_texts, .ref qp0_costs, .int p0_size])), (qp0_texts, .inl (tc 1, 24, .inr (.inl p0_texts))), (qp0_costs, .inl (tc 0, 24, .inl p0_costs))]) ⟨rfl, rfl⟩) lk_Automaton_74 mw_WordList_costAt sv_WordList_costAt 5 rfl rfl rfl rfl ⟨(Nat.le_of_ble_eq_true rfl), (Nat.le_of_ble_eq_true rfl)⟩ rfl rfl (Nat.le_of_ble_eq_true rfl) ⟨(Nat.le_of_ble_eq_true rfl), (Nat.le_of_ble_eq_true rfl)⟩ [5, 6, 7] rfl (by decide) (n := 12) rfl ?_
  refine go_aload_n C d_Automaton_costAbove_12 rfl 0 rfl (n := 13) rfl ?_
  refine go_get C d_Automaton_costAbove_13 fl_Automaton_21 0 rfl rfl (n := 16) rfl ?_
  refine go_iload_n C d_Automaton_costAbove_16 rfl 2 rfl (n := 17) rfl ?_
  obtain ⟨hg17, hf⟩ := guardS hf
  refine go_iald C d_Automaton_costAbove_17 4 rfl hg17 (n := 18) rfl ?_
  refine go_isub C d_Automaton_costAbove_18 (n := 19) rfl ?_
  cases hf
  exact go_iret C d_Automaton_costAbove_19 hr hPOST
