def f_Dictionary_clear (t_number : Int32) : Option (Int32) :=
  some (0 : Int32)
set_option maxRecDepth 100000 in
set_option maxHeartbeats 4000000 in
theorem c_Dictionary_clear (l : Launch) (D : va_G) (tc : Nat → ClassId) (qt : Nat) (qt_words : Nat) (qt_words_texts : Nat) (qt_words_costs : Nat) (t_number : Int32) (t_readers : Int32) (t_states : Int32) (t_arcs : Int32) (t_words_size : Int32) (t_words_texts : Nat → Int64) (t_words_costs : Nat → Int32) {o : (Int32)} (hf : f_Dictionary_clear t_number = some o) (POST : Option Value → va_W → Prop) (hPOST : POST none [(qt, .inr (1, [.ref qt_words, .int o, .int t_readers, .int t_states, .int t_arcs])), (qt_words, .inr (6, [.ref qt_words_texts, .ref qt_words_costs, .int t_words_size])), (qt_words_texts, .inl (tc 1, 24, .inr (.inl t_words_texts))), (qt_words_costs, .inl (tc 0, 24, .inl t_words_costs))]) : Std l y_Dictionary_clear (.code y_Dictionary_clear b_Dictionary_clear 1 none) { frames := 0, cells := 0, slots := 0, locals := 0 } D tc [.ref qt] [(qt, .inr (1, [.ref qt_words, .int t_number, .int t_readers, .int t_states, .int t_arcs])), (qt_words, .inr (6, [.ref qt_words_texts, .ref qt_words_costs, .int t_words_size])), (qt_words_texts, .inl (tc 1, 24, .inr (.inl t_words_texts))), (qt_words_costs, .inl (tc 0, 24, .inl t_words_costs))] 0 0 POST := by
  refine std_of (lv := [(0, .ref qt)]) (by decide) (Nat.le_of_ble_eq_true rfl) rfl (fun p e s m args below meth c A C hr hnm => ?_)
  unfold f_Dictionary_clear at hf
  refine go_aload_n C d_Dictionary_clear_0 rfl 0 rfl (n := 1) rfl ?_
  refine go_iconst C (v := 0) d_Dictionary_clear_1 rfl (n := 2) rfl ?_
  refine go_put C d_Dictionary_clear_2 fl_Dictionary_16 (fs_Dictionary 1) rfl rfl rfl 0 rfl (Nat.le_of_ble_eq_true rfl) (n := 5) rfl ?_
  cases hf
  exact go_vret C d_Dictionary_clear_5 hr hPOST

def f_Dictionary_isThere (t_number : Int32) : Option (Int32) :=
  if t_number ≤ 0 then some (0 : Int32) else some (1 : Int32)
set_option maxRecDepth 100000 in
set_option maxHeartbeats 4000000 in
theorem c_Dictionary_isThere (l : Launch) (D : va_G) (tc : Nat → ClassId) (qt : Nat) (qt_words : Nat) (qt_words_texts : Nat) (qt_words_costs : Nat) (t_number : Int32) (t_readers : Int32) (t_states : Int32) (t_arcs : Int32) (t_words_size : Int32) (t_words_texts : Nat → Int64) (t_words_costs : Nat → Int32) {o : (Int32)} (hf : f_Dictionary_isThere t_number = some o) (POST : Option Value → va_W → Prop) (hPOST : POST (some (.int o)) [(qt, .inr (1, [.ref qt_words, .int t_number, .int t_readers, .int t_states, .int t_arcs])), (qt_words, .inr (6, [.ref qt_words_texts, .ref qt_words_costs, .int t_words_size])), (qt_words_texts, .inl (tc 1, 24, .inr (.inl t_words_texts))), (qt_words_costs, .inl (tc 0, 24, .inl t_words_costs))]) : Std l y_Dictionary_isThere (.code y_Dictionary_isThere b_Dictionary_isThere 1 (some .boolean)) { frames := 0, cells := 0, slots := 0, locals := 0 } D tc [.ref qt] [(qt, .inr (1, [.ref qt_words, .int t_number, .int t_readers, .int t_states, .int t_arcs])), (qt_words, .inr (6, [.ref qt_words_texts, .ref qt_words_costs, .int t_words_size])), (qt_words_texts, .inl (tc 1, 24, .inr (.inl t_words_texts))), (qt_words_costs, .inl (tc 0, 24, .inl t_words_costs))] 0 0 POST := by
  refine std_of (lv := [(0, .ref qt)]) (by decide) (Nat.le_of_ble_eq_true rfl) rfl (fun p e s m args below meth c A C hr hnm => ?_)
  unfold f_Dictionary_isThere at hf
  refine go_aload_n C d_Dictionary_isThere_0 rfl 0 rfl (n := 1) rfl ?_
  refine go_get C d_Dictionary_isThere_1 fl_Dictionary_16 0 rfl rfl (n := 4) rfl ?_
  have hi4 := iteS hf
  refine go_if_le C d_Dictionary_isThere_4 (tgt := 11) (by decide) (n := 7) rfl (fun h4 => ?_) (fun h4 => ?_)
  · have hf := hi4.1 h4
    refine go_iconst C (v := 0) d_Dictionary_isThere_11 rfl (n := 12) rfl ?_
    cases hf
    exact go_zret C d_Dictionary_isThere_12 hr rfl hPOST
  · have hf := hi4.2 h4
    refine go_iconst C (v := 1) d_Dictionary_isThere_7 rfl (n := 8) rfl ?_
    refine go_goto C d_Dictionary_isThere_8 (tgt := 12) (by decide) ?_
    cases hf
    exact go_zret C d_Dictionary_isThere_12 hr rfl hPOST

def f_Dictionary_number (t_number : Int32) : Option (Int32) :=
  some t_number
set_option maxRecDepth 100000 in
set_option maxHeartbeats 4000000 in
theorem c_Dictionary_number (l : Launch) (D : va_G) (tc : Nat → ClassId) (qt : Nat) (qt_words : Nat) (qt_words_texts : Nat) (qt_words_costs : Nat) (t_number : Int32) (t_readers : Int32) (t_states : Int32) (t_arcs : Int32) (t_words_size : Int32) (t_words_texts : Nat → Int64) (t_words_costs : Nat → Int32) {o : (Int32)} (hf : f_Dictionary_number t_number = some o) (POST : Option Value → va_W → Prop) (hPOST : POST (some (.int o)) [(qt, .inr (1, [.ref qt_words, .int t_number, .int t_readers, .int t_states, .int t_arcs])), (qt_words, .inr (6, [.ref qt_words_texts, .ref qt_words_costs, .int t_words_size])), (qt_words_texts, .inl (tc 1, 24, .inr (.inl t_words_texts))), (qt_words_costs, .inl (tc 0, 24, .inl t_words_costs))]) : Std l y_Dictionary_number (.code y_Dictionary_number b_Dictionary_number 1 (some .int)) { frames := 0, cells := 0, slots := 0, locals := 0 } D tc [.ref qt] [(qt, .inr (1, [.ref qt_words, .int t_number, .int t_readers, .int t_states, .int t_arcs])), (qt_words, .inr (6, [.ref qt_words_texts, .ref qt_words_costs, .int t_words_size])), (qt_words_texts, .inl (tc 1, 24, .inr (.inl t_words_texts))), (qt_words_costs, .inl (tc 0, 24, .inl t_words_costs))] 0 0 POST := by
  refine std_of (lv := [(0, .ref qt)]) (by decide) (Nat.le_of_ble_eq_true rfl) rfl (fun p e s m args below meth c A C hr hnm => ?_)
  unfold f_Dictionary_number at hf
  refine go_aload_n C d_Dictionary_number_0 rfl 0 rfl (n := 1) rfl ?_
  refine go_get C d_Dictionary_number_1 fl_Dictionary_16 0 rfl rfl (n := 4) rfl ?_
  cases hf
  exact go_iret C d_Dictionary_number_4 hr hPOST

def f_Dictionary_words : Option (Unit) :=
  some ()
set_option maxRecDepth 100000 in
set_option maxHeartbeats 4000000 in
theorem c_Dictionary_words (l : Launch) (D : va_G) (tc : Nat → ClassId) (qt : Nat) (qt_words : Nat) (qt_words_texts : Nat) (qt_words_costs : Nat) (t_number : Int32) (t_readers : Int32) (t_states : Int32) (t_arcs : Int32) (t_words_size : Int32) (t_words_texts : Nat → Int64) (t_words_costs : Nat → Int32) {o : (Unit)} (hf : f_Dictionary_words = some o) (POST : Option Value → va_W → Prop) (hPOST : POST (some (.ref qt_words)) [(qt, .inr (1, [.ref qt_words, .int t_number, .int t_readers, .int t_states, .int t_arcs])), (qt_words, .inr (6, [.ref qt_words_texts, .ref qt_words_costs, .int t_words_size])), (qt_words_texts, .inl (tc 1, 24, .inr (.inl t_words_texts))), (qt_words_costs, .inl (tc 0, 24, .inl t_words_costs))]) : Std l y_Dictionary_words (.code y_Dictionary_words b_Dictionary_words 1 (some (.object "SuggestDesk$WordList"))) { frames := 0, cells := 0, slots := 0, locals := 0 } D tc [.ref qt] [(qt, .inr (1, [.ref qt_words, .int t_number, .int t_readers, .int t_states, .int t_arcs])), (qt_words, .inr (6, [.ref qt_words_texts, .ref qt_words_costs, .int t_words_size])), (qt_words_texts, .inl (tc 1, 24, .inr (.inl t_words_texts))), (qt_words_costs, .inl (tc 0, 24, .inl t_words_costs))] 0 0 POST := by
  refine std_of (lv := [(0, .ref qt)]) (by decide) (Nat.le_of_ble_eq_true rfl) rfl (fun p e s m args below meth c A C hr hnm => ?_)
  unfold f_Dictionary_words at hf
  refine go_aload_n C d_Dictionary_words_0 rfl 0 rfl (n := 1) rfl ?_
  refine go_get C d_Dictionary_words_1 fl_Dictionary_10 0 rfl rfl (n := 4) rfl ?_
  cases hf
  exact go_aret C d_Dictionary_words_4 hr (Or.inl ⟨_, rfl⟩) (Or.inr ⟨_, rfl⟩) hPOST

def f_Dictionary_states (t_states : Int32) : Option (Int32) :=
  some t_states
set_option maxRecDepth 100000 in
set_option maxHeartbeats 4000000 in
theorem c_Dictionary_states (l : Launch) (D : va_G) (tc : Nat → ClassId) (qt : Nat) (qt_words : Nat) (qt_words_texts : Nat) (qt_words_costs : Nat) (t_number : Int32) (t_readers : Int32) (t_states : Int32) (t_arcs : Int32) (t_words_size : Int32) (t_words_texts : Nat → Int64) (t_words_costs : Nat → Int32) {o : (Int32)} (hf : f_Dictionary_states t_states = some o) (POST : Option Value → va_W → Prop) (hPOST : POST (some (.int o)) [(qt, .inr (1, [.ref qt_words, .int t_number, .int t_readers, .int t_states, .int t_arcs])), (qt_words, .inr (6, [.ref qt_words_texts, .ref qt_words_costs, .int t_words_size])), (qt_words_texts, .inl (tc 1, 24, .inr (.inl t_words_texts))), (qt_words_costs, .inl (tc 0, 24, .inl t_words_costs))]) : Std l y_Dictionary_states (.code y_Dictionary_states b_Dictionary_states 1 (some .int)) { frames := 0, cells := 0, slots := 0, locals := 0 } D tc [.ref qt] [(qt, .inr (1, [.ref qt_words, .int t_number, .int t_readers, .int t_states, .int t_arcs])), (qt_words, .inr (6, [.ref qt_words_texts, .ref qt_words_costs, .int t_words_size])), (qt_words_texts, .inl (tc 1, 24, .inr (.inl t_words_texts))), (qt_words_costs, .inl (tc 0, 24, .inl t_words_costs))] 0 0 POST := by
  refine std_of (lv := [(0, .ref qt)]) (by decide) (Nat.le_of_ble_eq_true rfl) rfl (fun p e s m args below meth c A C hr hnm => ?_)
  unfold f_Dictionary_states at hf
  refine go_aload_n C d_Dictionary_states_0 rfl 0 rfl (n := 1) rfl ?_
  refine go_get C d_Dictionary_states_1 fl_Dictionary_23 0 rfl rfl (n := 4) rfl ?_
  cases hf
  exact go_iret C d_Dictionary_states_4 hr hPOST

def f_Dictionary_arcs (t_arcs : Int32) : Option (Int32) :=
  some t_arcs
set_option maxRecDepth 100000 in
set_option maxHeartbeats 4000000 in
theorem c_Dictionary_arcs (l : Launch) (D : va_G) (tc : Nat → ClassId) (qt : Nat) (qt_words : Nat) (qt_words_texts : Nat) (qt_words_costs : Nat) (t_number : Int32) (t_readers : Int32) (t_states : Int32) (t_arcs : Int32) (t_words_size : Int32) (t_words_texts : Nat → Int64) (t_words_costs : Nat → Int32) {o : (Int32)} (hf : f_Dictionary_arcs t_arcs = some o) (POST : Option Value → va_W → Prop) (hPOST : POST (some (.int o)) [(qt, .inr (1, [.ref qt_words, .int t_number, .int t_readers, .int t_states, .int t_arcs])), (qt_words, .inr (6, [.ref qt_words_texts, .ref qt_words_costs, .int t_words_size])), (qt_words_texts, .inl (tc 1, 24, .inr (.inl t_words_texts))), (qt_words_costs, .inl (tc 0, 24, .inl t_words_costs))]) : Std l y_Dictionary_arcs (.code y_Dictionary_arcs b_Dictionary_arcs 1 (some .int)) { frames := 0, cells := 0, slots := 0, locals := 0 } D tc [.ref qt] [(qt, .inr (1, [.ref qt_words, .int t_number, .int t_readers, .int t_states, .int t_arcs])), (qt_words, .inr (6, [.ref qt_words_texts, .ref qt_words_costs, .int t_words_size])), (qt_words_texts, .inl (tc 1, 24, .inr (.inl t_words_texts))), (qt_words_costs, .inl (tc 0, 24, .inl t_words_costs))] 0 0 POST := by
  refine std_of (lv := [(0, .ref qt)]) (by decide) (Nat.le_of_ble_eq_true rfl) rfl (fun p e s m args below meth c A C hr hnm => ?_)
  unfold f_Dictionary_arcs at hf
  refine go_aload_n C d_Dictionary_arcs_0 rfl 0 rfl (n := 1) rfl ?_
  refine go_get C d_Dictionary_arcs_1 fl_Dictionary_26 0 rfl rfl (n := 4) rfl ?_
  cases hf
  exact go_iret C d_Dictionary_arcs_4 hr hPOST

def f_Dictionary_readers (t_readers : Int32) : Option (Int32) :=
  some t_readers
set_option maxRecDepth 100000 in
set_option maxHeartbeats 4000000 in
theorem c_Dictionary_readers (l : Launch) (D : va_G) (tc : Nat → ClassId) (qt : Nat) (qt_words : Nat) (qt_words_texts : Nat) (qt_words_costs : Nat) (t_number : Int32) (t_readers : Int32) (t_states : Int32) (t_arcs : Int32) (t_words_size : Int32) (t_words_texts : Nat → Int64) (t_words_costs : Nat → Int32) {o : (Int32)} (hf : f_Dictionary_readers t_readers = some o) (POST : Option Value → va_W → Prop) (hPOST : POST (some (.int o)) [(qt, .inr (1, [.ref qt_words, .int t_number, .int t_readers, .int t_states, .int t_arcs])), (qt_words, .inr (6, [.ref qt_words_texts, .ref qt_words_costs, .int t_words_size])), (qt_words_texts, .inl (tc 1, 24, .inr (.inl t_words_texts))), (qt_words_costs, .inl (tc 0, 24, .inl t_words_costs))]) : Std l y_Dictionary_readers (.code y_Dictionary_readers b_Dictionary_readers 1 (some .int)) { frames := 0, cells := 0, slots := 0, locals := 0 } D tc [.ref qt] [(qt, .inr (1, [.ref qt_words, .int t_number, .int t_readers, .int t_states, .int t_arcs])), (qt_words, .inr (6, [.ref qt_words_texts, .ref qt_words_costs, .int t_words_size])), (qt_words_texts, .inl (tc 1, 24, .inr (.inl t_words_texts))), (qt_words_costs, .inl (tc 0, 24, .inl t_words_costs))] 0 0 POST := by
  refine std_of (lv := [(0, .ref qt)]) (by decide) (Nat.le_of_ble_eq_true rfl) rfl (fun p e s m args below meth c A C hr hnm => ?_)
  unfold f_Dictionary_readers at hf
  refine go_aload_n C d_Dictionary_readers_0 rfl 0 rfl (n := 1) rfl ?_
  refine go_get C d_Dictionary_readers_1 fl_Dictionary_20 0 rfl rfl (n := 4) rfl ?_
  cases hf
  exact go_iret C d_Dictionary_readers_4 hr hPOST

def f_Dictionary_addReader (t_readers : Int32) : Option (Int32) :=
  some (t_readers + (1 : Int32))
set_option maxRecDepth 100000 in
set_option maxHeartbeats 4000000 in
theorem c_Dictionary_addReader (l : Launch) (D : va_G) (tc : Nat → ClassId) (qt : Nat) (qt_words : Nat) (qt_words_texts : Nat) (qt_words_costs : Nat) (t_number : Int32) (t_readers : Int32) (t_states : Int32) (t_arcs : Int32) (t_words_size : Int32) (t_words_texts : Nat → Int64) (t_words_costs : Nat → Int32) {o : (Int32)} (hf : f_Dictionary_addReader t_readers = some o) (POST : Option Value → va_W → Prop) (hPOST : POST none [(qt, .inr (1, [.ref qt_words, .int t_number, .int o, .int t_states, .int t_arcs])), (qt_words, .inr (6, [.ref qt_words_texts, .ref qt_words_costs, .int t_words_size])), (qt_words_texts, .inl (tc 1, 24, .inr (.inl t_words_texts))), (qt_words_costs, .inl (tc 0, 24, .inl t_words_costs))]) : Std l y_Dictionary_addReader (.code y_Dictionary_addReader b_Dictionary_addReader 1 none) { frames := 0, cells := 0, slots := 0, locals := 0 } D tc [.ref qt] [(qt, .inr (1, [.ref qt_words, .int t_number, .int t_readers, .int t_states, .int t_arcs])), (qt_words, .inr (6, [.ref qt_words_texts, .ref qt_words_costs, .int t_words_size])), (qt_words_texts, .inl (tc 1, 24, .inr (.inl t_words_texts))), (qt_words_costs, .inl (tc 0, 24, .inl t_words_costs))] 0 0 POST := by
  refine std_of (lv := [(0, .ref qt)]) (by decide) (Nat.le_of_ble_eq_true rfl) rfl (fun p e s m args below meth c A C hr hnm => ?_)
  unfold f_Dictionary_addReader at hf
  refine go_aload_n C d_Dictionary_addReader_0 rfl 0 rfl (n := 1) rfl ?_
  refine go_dup C d_Dictionary_addReader_1 rfl (n := 2) rfl ?_
  refine go_get C d_Dictionary_addReader_2 fl_Dictionary_20 0 rfl rfl (n := 5) rfl ?_
  refine go_iconst C (v := 1) d_Dictionary_addReader_5 rfl (n := 6) rfl ?_
  refine go_iadd C d_Dictionary_addReader_6 (n := 7) rfl ?_
  refine go_put C d_Dictionary_addReader_7 fl_Dictionary_20 (fs_Dictionary 2) rfl rfl rfl 0 rfl (Nat.le_of_ble_eq_true rfl) (n := 10) rfl ?_
  cases hf
  exact go_vret C d_Dictionary_addReader_10 hr hPOST

def f_Dictionary_removeReader (t_readers : Int32) : Option (Int32) :=
  some (t_readers - (1 : Int32))
set_option maxRecDepth 100000 in
set_option maxHeartbeats 4000000 in
theorem c_Dictionary_removeReader (l : Launch) (D : va_G) (tc : Nat → ClassId) (qt : Nat) (qt_words : Nat) (qt_words_texts : Nat) (qt_words_costs : Nat) (t_number : Int32) (t_readers : Int32) (t_states : Int32) (t_arcs : Int32) (t_words_size : Int32) (t_words_texts : Nat → Int64) (t_words_costs : Nat → Int32) {o : (Int32)} (hf : f_Dictionary_removeReader t_readers = some o) (POST : Option Value → va_W → Prop) (hPOST : POST none [(qt, .inr (1, [.ref qt_words, .int t_number, .int o, .int t_states, .int t_arcs])), (qt_words, .inr (6, [.ref qt_words_texts, .ref qt_words_costs, .int t_words_size])), (qt_words_texts, .inl (tc 1, 24, .inr (.inl t_words_texts))), (qt_words_costs, .inl (tc 0, 24, .inl t_words_costs))]) : Std l y_Dictionary_removeReader (.code y_Dictionary_removeReader b_Dictionary_removeReader 1 none) { frames := 0, cells := 0, slots := 0, locals := 0 } D tc [.ref qt] [(qt, .inr (1, [.ref qt_words, .int t_number, .int t_readers, .int t_states, .int t_arcs])), (qt_words, .inr (6, [.ref qt_words_texts, .ref qt_words_costs, .int t_words_size])), (qt_words_texts, .inl (tc 1, 24, .inr (.inl t_words_texts))), (qt_words_costs, .inl (tc 0, 24, .inl t_words_costs))] 0 0 POST := by
  refine std_of (lv := [(0, .ref qt)]) (by decide) (Nat.le_of_ble_eq_true rfl) rfl (fun p e s m args below meth c A C hr hnm => ?_)
  unfold f_Dictionary_removeReader at hf
  refine go_aload_n C d_Dictionary_removeReader_0 rfl 0 rfl (n := 1) rfl ?_
  refine go_dup C d_Dictionary_removeReader_1 rfl (n := 2) rfl ?_
  refine go_get C d_Dictionary_removeReader_2 fl_Dictionary_20 0 rfl rfl (n := 5) rfl ?_
  refine go_iconst C (v := 1) d_Dictionary_removeReader_5 rfl (n := 6) rfl ?_
  refine go_isub C d_Dictionary_removeReader_6 (n := 7) rfl ?_
  refine go_put C d_Dictionary_removeReader_7 fl_Dictionary_20 (fs_Dictionary 2) rfl rfl rfl 0 rfl (Nat.le_of_ble_eq_true rfl) (n := 10) rfl ?_
  cases hf
  exact go_vret C d_Dictionary_removeReader_10 hr hPOST

def f_Dictionary_fill (t_number : Int32) (t_readers : Int32) (t_states : Int32) (t_arcs : Int32) (t_words_size : Int32) (t_words_texts : Nat → Int64) (t_words_costs : Nat → Int32) (p1_size : Int32) (p1_texts : Nat → Int64) (p1_costs : Nat → Int32) (a0 : Int32) (a2 : Int32) (a3 : Int32) : Option (Int32 × Int32 × Int32 × Int32 × Int32 × (Nat → Int64) × (Nat → Int32)) :=
  (f_WordList_copyFrom t_words_size t_words_texts t_words_costs p1_size p1_texts p1_costs).bind (fun o5 => some (a0, (0 : Int32), a2, a3, o5.1, o5.2.1, o5.2.2))
set_option maxRecDepth 100000 in
set_option maxHeartbeats 4000000 in
theorem c_Dictionary_fill (l : Launch) (D : va_G) (tc : Nat → ClassId) (qt : Nat) (qt_words : Nat) (qt_words_texts : Nat) (qt_words_costs : Nat) (qp1 : Nat) (qp1_texts : Nat) (qp1_costs : Nat) (t_number : Int32) (t_readers : Int32) (t_states : Int32) (t_arcs : Int32) (t_words_size : Int32) (t_words_texts : Nat → Int64) (t_words_costs : Nat → Int32) (p1_size : Int32) (p1_texts : Nat → Int64) (p1_costs : Nat → Int32) (a0 : Int32) (a2 : Int32) (a3 : Int32) {o : (Int32 × Int32 × Int32 × Int32 × Int32 × (Nat → Int64) × (Nat → Int32))} (hf : f_Dictionary_fill t_number t_readers t_states t_arcs t_words_size t_words_texts t_words_costs p1_size p1_texts p1_costs a0 a2 a3 = some o) (POST : Option Value → va_W → Prop) (hPOST : POST none [(qt, .inr (1, [.ref qt_words, .int o.1, .int o.2.1, .int o.2.2.1, .int o.2.2.2.1])), (qt_words, .inr (6, [.ref qt_words_texts, .ref qt_words_costs, .int o.2.2.2.2.1])), (qt_words_texts, .inl (tc 1, 24, .inr (.inl o.2.2.2.2.2.1))), (qt_words_costs, .inl (tc 0, 24, .inl o.2.2.2.2.2.2)), (qp1, .inr (6, [.ref qp1_texts, .ref qp1_costs, .int p1_size])), (qp1_texts, .inl (tc 1, 24, .inr (.inl p1_texts))), (qp1_costs, .inl (tc 0, 24, .inl p1_costs))]) : Std l y_Dictionary_fill (.code y_Dictionary_fill b_Dictionary_fill 5 none) { frames := 1, cells := 0, slots := 0, locals := 22 } D tc [.ref qt, .int a0, .ref qp1, .int a2, .int a3] [(qt, .inr (1, [.ref qt_words, .int t_number, .int t_readers, .int t_states, .int t_arcs])), (qt_words, .inr (6, [.ref qt_words_texts, .ref qt_words_costs, .int t_words_size])), (qt_words_texts, .inl (tc 1, 24, .inr (.inl t_words_texts))), (qt_words_costs, .inl (tc 0, 24, .inl t_words_costs)), (qp1, .inr (6, [.ref qp1_texts, .ref qp1_costs, .int p1_size])), (qp1_texts, .inl (tc 1, 24, .inr (.inl p1_texts))), (qp1_costs, .inl (tc 0, 24, .inl p1_costs))] 0 0 POST := by
  refine std_of (lv := [(0, .ref qt), (1, .int a0), (2, .ref qp1), (3, .int a2), (4, .int a3)]) (by decide) (Nat.le_of_ble_eq_true rfl) rfl (fun p e s m args below meth c A C hr hnm => ?_)
  unfold f_Dictionary_fill at hf
  refine go_aload_n C d_Dictionary_fill_0 rfl 0 rfl (n := 1) rfl ?_
  refine go_get C d_Dictionary_fill_1 fl_Dictionary_10 0 rfl rfl (n := 4) rfl ?_
  refine go_aload_n C d_Dictionary_fill_4 rfl 2 rfl (n := 5) rfl ?_
  obtain ⟨o5, ho5, hf⟩ := bindS hf
  refine go_callV C (As := [.ref qp1]) (rest := []) d_Dictionary_fill_5 (c_WordList_copyFrom l D tc qt_words qt_words_texts qt_words_costs qp1 qp1_texts qp1_costs t_words_size t_words_texts t_words_costs p1_size p1_texts p1_costs ho5 (fun r w => r = none ∧ w = [(qt_words, .inr (6, [.ref qt_words_texts, .ref qt_words_costs, .int o5.1])), (qt_words_texts, .inl (tc 1, 24, .inr (.inl o5.2.1))), (qt_words_costs, .inl (tc 0, 24, .inl o5.2.2)), (qp1, .inr (6, [.ref qp1_texts, .ref qp1_costs, .int p1_size])), (qp1_texts, .inl (tc 1, 24, .inr (.inl p1_texts))), (qp1_costs, .inl (tc 0, 24, .inl p1_costs))]) ⟨rfl, rfl⟩) lk_Dictionary_29 mw_WordList_copyFrom sv_WordList_copyFrom 1 rfl rfl rfl rfl ⟨(Nat.le_of_ble_eq_true rfl), (Nat.le_of_ble_eq_true rfl)⟩ rfl rfl (Nat.le_of_ble_eq_true rfl) ⟨(Nat.le_of_ble_eq_true rfl), (Nat.le_of_ble_eq_true rfl)⟩ [1, 2, 3, 4, 5, 6] rfl (by decide) (by rintro _ _ ⟨rfl, rfl⟩; simp only [List.map_cons, List.map_nil]) (n := 8) rfl ?_
  rintro _ _ ⟨rfl, rfl⟩
  refine go_eq (ws' := [(qt, .inr (1, [.ref qt_words, .int t_number, .int t_readers, .int t_states, .int t_arcs])), (qt_words, .inr (6, [.ref qt_words_texts, .ref qt_words_costs, .int o5.1])), (qt_words_texts, .inl (tc 1, 24, .inr (.inl o5.2.1))), (qt_words_costs, .inl (tc 0, 24, .inl o5.2.2)), (qp1, .inr (6, [.ref qp1_texts, .ref qp1_costs, .int p1_size])), (qp1_texts, .inl (tc 1, 24, .inr (.inl p1_texts))), (qp1_costs, .inl (tc 0, 24, .inl p1_costs))]) (by simp only [repl, List.set_cons_zero, List.set_cons_succ]) rfl rfl ?_
  refine go_aload_n C d_Dictionary_fill_8 rfl 0 rfl (n := 9) rfl ?_
  refine go_iload_n C d_Dictionary_fill_9 rfl 1 rfl (n := 10) rfl ?_
  refine go_put C d_Dictionary_fill_10 fl_Dictionary_16 (fs_Dictionary 1) rfl rfl rfl 0 rfl (Nat.le_of_ble_eq_true rfl) (n := 13) rfl ?_
  refine go_aload_n C d_Dictionary_fill_13 rfl 0 rfl (n := 14) rfl ?_
  refine go_iconst C (v := 0) d_Dictionary_fill_14 rfl (n := 15) rfl ?_
  refine go_put C d_Dictionary_fill_15 fl_Dictionary_20 (fs_Dictionary 2) rfl rfl rfl 0 rfl (Nat.le_of_ble_eq_true rfl) (n := 18) rfl ?_
  refine go_aload_n C d_Dictionary_fill_18 rfl 0 rfl (n := 19) rfl ?_
  refine go_iload_n C d_Dictionary_fill_19 rfl 3 rfl (n := 20) rfl ?_
  refine go_put C d_Dictionary_fill_20 fl_Dictionary_23 (fs_Dictionary 3) rfl rfl rfl 0 rfl (Nat.le_of_ble_eq_true rfl) (n := 23) rfl ?_
  refine go_aload_n C d_Dictionary_fill_23 rfl 0 rfl (n := 24) rfl ?_
  refine go_iload C d_Dictionary_fill_24 4 rfl (n := 26) rfl ?_
  refine go_put C d_Dictionary_fill_26 fl_Dictionary_26 (fs_Dictionary 4) rfl rfl rfl 0 rfl (Nat.le_of_ble_eq_true rfl) (n := 29) rfl ?_
  cases hf
  exact go_vret C d_Dictionary_fill_29 hr hPOST

