theorem fs_Automaton (k : Nat) : Fs k T_Automaton 6 ty_Automaton := ⟨by decide +kernel, by decide +kernel⟩
theorem fs_Dictionary (k : Nat) : Fs k T_Dictionary 5 ty_Dictionary := ⟨by decide +kernel, by decide +kernel⟩
theorem fs_Pairs (k : Nat) : Fs k T_Pairs 4 ty_Pairs := ⟨by decide +kernel, by decide +kernel⟩
theorem fs_Phrase (k : Nat) : Fs k T_Phrase 8 ty_Phrase := ⟨by decide +kernel, by decide +kernel⟩
theorem fs_Ruler (k : Nat) : Fs k T_Ruler 1 ty_Ruler := ⟨by decide +kernel, by decide +kernel⟩
theorem fs_Suggestions (k : Nat) : Fs k T_Suggestions 4 ty_Suggestions := ⟨by decide +kernel, by decide +kernel⟩
theorem fs_WordList (k : Nat) : Fs k T_WordList 3 ty_WordList := ⟨by decide +kernel, by decide +kernel⟩
theorem fs_S (k : Nat) : Fs k T_S 8 ty_S := ⟨by decide +kernel, by decide +kernel⟩
theorem fs_M (k : Nat) : Fs k T_M 35 ty_M := ⟨by decide +kernel, by decide +kernel⟩
theorem wl_Automaton_3 : Cond.methodLink "SuggestDesk$Automaton" 3 objectInit ∈ AL := AL_in (List.mem_append_right _ (List.mem_of_getElem? (i := 75) (by decide +kernel))) (by decide +kernel)
theorem woi_n : Cond.instanceMethod objectInit ∈ AL := AL_in (List.mem_append_right _ (List.mem_of_getElem? (i := 25) (by decide +kernel))) (by decide +kernel)
theorem woi_c : Cond.code objectInit ⟨#[0xb1]⟩ 1 none ∈ AL := AL_in (List.mem_append_right _ (List.mem_of_getElem? (i := 26) (by decide +kernel))) (by decide +kernel)
theorem oi_Automaton_3 : Cond.methodLink "SuggestDesk$Automaton" 3 objectInit ∈ AL ∧ Cond.instanceMethod objectInit ∈ AL ∧ Cond.code objectInit ⟨#[0xb1]⟩ 1 none ∈ AL := ⟨wl_Automaton_3, woi_n, woi_c⟩
theorem wa_int : Cond.arrayClass .int ∈ AL := AL_in (List.mem_append_right _ (List.mem_of_getElem? (i := 44) (by decide +kernel))) (by decide +kernel)
theorem la_Automaton_0 : u_lay "SuggestDesk$Automaton" T_Automaton 0 ∈ AL := AL_in (List.mem_append_right _ (List.mem_of_getElem? (i := 82) (by decide +kernel))) (by decide +kernel)
theorem la_Automaton_1 : u_lay "SuggestDesk$Automaton" T_Automaton 1 ∈ AL := AL_in (List.mem_append_right _ (List.mem_of_getElem? (i := 84) (by decide +kernel))) (by decide +kernel)
theorem la_Automaton_2 : u_lay "SuggestDesk$Automaton" T_Automaton 2 ∈ AL := AL_in (List.mem_append_right _ (List.mem_of_getElem? (i := 86) (by decide +kernel))) (by decide +kernel)
theorem la_Automaton_3 : u_lay "SuggestDesk$Automaton" T_Automaton 3 ∈ AL := AL_in (List.mem_append_right _ (List.mem_of_getElem? (i := 88) (by decide +kernel))) (by decide +kernel)
theorem la_Automaton_4 : u_lay "SuggestDesk$Automaton" T_Automaton 4 ∈ AL := AL_in (List.mem_append_right _ (List.mem_of_getElem? (i := 90) (by decide +kernel))) (by decide +kernel)
theorem la_Automaton_5 : u_lay "SuggestDesk$Automaton" T_Automaton 5 ∈ AL := AL_in (List.mem_append_right _ (List.mem_of_getElem? (i := 92) (by decide +kernel))) (by decide +kernel)
theorem la_Automaton : ∀ w ∈ u_ws "SuggestDesk$Automaton" T_Automaton 6, w ∈ AL := by
  intro w hw
  obtain ⟨k, hk, rfl⟩ := List.mem_map.mp hw
  have hk := List.mem_range.mp hk
  rcases (show k = 0 ∨ k = 1 ∨ k = 2 ∨ k = 3 ∨ k = 4 ∨ k = 5 by omega) with rfl | rfl | rfl | rfl | rfl | rfl
  · exact la_Automaton_0
  · exact la_Automaton_1
  · exact la_Automaton_2
  · exact la_Automaton_3
  · exact la_Automaton_4
  · exact la_Automaton_5
theorem wf_Automaton_11 : Cond.fieldLink "SuggestDesk$Automaton" 11 (T_Automaton 0).1 (T_Automaton 0).2.1 (T_Automaton 0).2.2.1 ∈ AL := AL_in (List.mem_append_right _ (List.mem_of_getElem? (i := 76) (by decide +kernel))) (by decide +kernel)
theorem fl_Automaton_11 : Fl "SuggestDesk$Automaton" 11 0 0 "SuggestDesk$Automaton" T_Automaton 6 := ⟨rfl, by decide, la_Automaton, Or.inl wf_Automaton_11⟩
theorem ff_Automaton_11 : vwCl[0]? = some ("SuggestDesk$Automaton", T_Automaton, 6) ∧ 0 < 6 ∧ (∀ w ∈ u_ws "SuggestDesk$Automaton" T_Automaton 6, w ∈ AL) ∧ Cond.fieldLink "SuggestDesk$Automaton" 11 (T_Automaton 0).1 (T_Automaton 0).2.1 (T_Automaton 0).2.2.1 ∈ AL := ⟨rfl, by decide, la_Automaton, wf_Automaton_11⟩
theorem wf_Automaton_15 : Cond.fieldLink "SuggestDesk$Automaton" 15 (T_Automaton 1).1 (T_Automaton 1).2.1 (T_Automaton 1).2.2.1 ∈ AL := AL_in (List.mem_append_right _ (List.mem_of_getElem? (i := 77) (by decide +kernel))) (by decide +kernel)
theorem fl_Automaton_15 : Fl "SuggestDesk$Automaton" 15 0 1 "SuggestDesk$Automaton" T_Automaton 6 := ⟨rfl, by decide, la_Automaton, Or.inl wf_Automaton_15⟩
theorem ff_Automaton_15 : vwCl[0]? = some ("SuggestDesk$Automaton", T_Automaton, 6) ∧ 1 < 6 ∧ (∀ w ∈ u_ws "SuggestDesk$Automaton" T_Automaton 6, w ∈ AL) ∧ Cond.fieldLink "SuggestDesk$Automaton" 15 (T_Automaton 1).1 (T_Automaton 1).2.1 (T_Automaton 1).2.2.1 ∈ AL := ⟨rfl, by decide, la_Automaton, wf_Automaton_15⟩
theorem wf_Automaton_18 : Cond.fieldLink "SuggestDesk$Automaton" 18 (T_Automaton 2).1 (T_Automaton 2).2.1 (T_Automaton 2).2.2.1 ∈ AL := AL_in (List.mem_append_right _ (List.mem_of_getElem? (i := 78) (by decide +kernel))) (by decide +kernel)
theorem fl_Automaton_18 : Fl "SuggestDesk$Automaton" 18 0 2 "SuggestDesk$Automaton" T_Automaton 6 := ⟨rfl, by decide, la_Automaton, Or.inl wf_Automaton_18⟩
theorem ff_Automaton_18 : vwCl[0]? = some ("SuggestDesk$Automaton", T_Automaton, 6) ∧ 2 < 6 ∧ (∀ w ∈ u_ws "SuggestDesk$Automaton" T_Automaton 6, w ∈ AL) ∧ Cond.fieldLink "SuggestDesk$Automaton" 18 (T_Automaton 2).1 (T_Automaton 2).2.1 (T_Automaton 2).2.2.1 ∈ AL := ⟨rfl, by decide, la_Automaton, wf_Automaton_18⟩
theorem wf_Automaton_21 : Cond.fieldLink "SuggestDesk$Automaton" 21 (T_Automaton 3).1 (T_Automaton 3).2.1 (T_Automaton 3).2.2.1 ∈ AL := AL_in (List.mem_append_right _ (List.mem_of_getElem? (i := 79) (by decide +kernel))) (by decide +kernel)
theorem fl_Automaton_21 : Fl "SuggestDesk$Automaton" 21 0 3 "SuggestDesk$Automaton" T_Automaton 6 := ⟨rfl, by decide, la_Automaton, Or.inl wf_Automaton_21⟩
theorem ff_Automaton_21 : vwCl[0]? = some ("SuggestDesk$Automaton", T_Automaton, 6) ∧ 3 < 6 ∧ (∀ w ∈ u_ws "SuggestDesk$Automaton" T_Automaton 6, w ∈ AL) ∧ Cond.fieldLink "SuggestDesk$Automaton" 21 (T_Automaton 3).1 (T_Automaton 3).2.1 (T_Automaton 3).2.2.1 ∈ AL := ⟨rfl, by decide, la_Automaton, wf_Automaton_21⟩
theorem wf_Automaton_24 : Cond.fieldLink "SuggestDesk$Automaton" 24 (T_Automaton 4).1 (T_Automaton 4).2.1 (T_Automaton 4).2.2.1 ∈ AL := AL_in (List.mem_append_right _ (List.mem_of_getElem? (i := 80) (by decide +kernel))) (by decide +kernel)
theorem fl_Automaton_24 : Fl "SuggestDesk$Automaton" 24 0 4 "SuggestDesk$Automaton" T_Automaton 6 := ⟨rfl, by decide, la_Automaton, Or.inl wf_Automaton_24⟩
theorem wf_Automaton_28 : Cond.fieldLink "SuggestDesk$Automaton" 28 (T_Automaton 5).1 (T_Automaton 5).2.1 (T_Automaton 5).2.2.1 ∈ AL := AL_in (List.mem_append_right _ (List.mem_of_getElem? (i := 81) (by decide +kernel))) (by decide +kernel)
theorem fl_Automaton_28 : Fl "SuggestDesk$Automaton" 28 0 5 "SuggestDesk$Automaton" T_Automaton 6 := ⟨rfl, by decide, la_Automaton, Or.inl wf_Automaton_28⟩
theorem wl_S_1 : Cond.methodLink "SuggestDesk" 1 objectInit ∈ AL := AL_in (List.mem_append_right _ (List.mem_of_getElem? (i := 24) (by decide +kernel))) (by decide +kernel)
theorem oi_S_1 : Cond.methodLink "SuggestDesk" 1 objectInit ∈ AL ∧ Cond.instanceMethod objectInit ∈ AL ∧ Cond.code objectInit ⟨#[0xb1]⟩ 1 none ∈ AL := ⟨wl_S_1, woi_n, woi_c⟩
theorem la_WordList_0 : u_lay "SuggestDesk$WordList" T_WordList 0 ∈ AL := AL_in (List.mem_append_right _ (List.mem_of_getElem? (i := 36) (by decide +kernel))) (by decide +kernel)
theorem la_WordList_1 : u_lay "SuggestDesk$WordList" T_WordList 1 ∈ AL := AL_in (List.mem_append_right _ (List.mem_of_getElem? (i := 38) (by decide +kernel))) (by decide +kernel)
theorem la_WordList_2 : u_lay "SuggestDesk$WordList" T_WordList 2 ∈ AL := AL_in (List.mem_append_right _ (List.mem_of_getElem? (i := 40) (by decide +kernel))) (by decide +kernel)
theorem la_WordList : ∀ w ∈ u_ws "SuggestDesk$WordList" T_WordList 3, w ∈ AL := by
  intro w hw
  obtain ⟨k, hk, rfl⟩ := List.mem_map.mp hw
  have hk := List.mem_range.mp hk
  rcases (show k = 0 ∨ k = 1 ∨ k = 2 by omega) with rfl | rfl | rfl
  · exact la_WordList_0
  · exact la_WordList_1
  · exact la_WordList_2
theorem wq_S_7 : Cond.classLink "SuggestDesk" 7 "SuggestDesk$WordList" ∈ AL := AL_in (List.mem_append_right _ (List.mem_of_getElem? (i := 27) (by decide +kernel))) (by decide +kernel)
theorem wt_WordList : Cond.instantiable "SuggestDesk$WordList" 3 ∈ AL := AL_in (List.mem_append_right _ (List.mem_of_getElem? (i := 28) (by decide +kernel))) (by decide +kernel)
theorem wi_WordList : Cond.initialized "SuggestDesk$WordList" ∈ AL := AL_in (List.mem_append_right _ (List.mem_of_getElem? (i := 2) (by decide +kernel))) (by decide +kernel)
theorem nw_S_7 : Nw "SuggestDesk" 7 6 "SuggestDesk$WordList" T_WordList 3 := ⟨rfl, la_WordList, wq_S_7, wt_WordList, wi_WordList⟩
theorem la_S_0 : u_lay "SuggestDesk" T_S 0 ∈ AL := AL_in (List.mem_append_right _ (List.mem_of_getElem? (i := 187) (by decide +kernel))) (by decide +kernel)
theorem la_S_1 : u_lay "SuggestDesk" T_S 1 ∈ AL := AL_in (List.mem_append_right _ (List.mem_of_getElem? (i := 189) (by decide +kernel))) (by decide +kernel)
theorem la_S_2 : u_lay "SuggestDesk" T_S 2 ∈ AL := AL_in (List.mem_append_right _ (List.mem_of_getElem? (i := 191) (by decide +kernel))) (by decide +kernel)
theorem la_S_3 : u_lay "SuggestDesk" T_S 3 ∈ AL := AL_in (List.mem_append_right _ (List.mem_of_getElem? (i := 193) (by decide +kernel))) (by decide +kernel)
theorem la_S_4 : u_lay "SuggestDesk" T_S 4 ∈ AL := AL_in (List.mem_append_right _ (List.mem_of_getElem? (i := 195) (by decide +kernel))) (by decide +kernel)
theorem la_S_5 : u_lay "SuggestDesk" T_S 5 ∈ AL := AL_in (List.mem_append_right _ (List.mem_of_getElem? (i := 197) (by decide +kernel))) (by decide +kernel)
theorem la_S_6 : u_lay "SuggestDesk" T_S 6 ∈ AL := AL_in (List.mem_append_right _ (List.mem_of_getElem? (i := 199) (by decide +kernel))) (by decide +kernel)
theorem la_S_7 : u_lay "SuggestDesk" T_S 7 ∈ AL := AL_in (List.mem_append_right _ (List.mem_of_getElem? (i := 201) (by decide +kernel))) (by decide +kernel)
theorem la_S : ∀ w ∈ u_ws "SuggestDesk" T_S 8, w ∈ AL := by
  intro w hw
  obtain ⟨k, hk, rfl⟩ := List.mem_map.mp hw
  have hk := List.mem_range.mp hk
  rcases (show k = 0 ∨ k = 1 ∨ k = 2 ∨ k = 3 ∨ k = 4 ∨ k = 5 ∨ k = 6 ∨ k = 7 by omega) with rfl | rfl | rfl | rfl | rfl | rfl | rfl | rfl
  · exact la_S_0
  · exact la_S_1
  · exact la_S_2
  · exact la_S_3
  · exact la_S_4
  · exact la_S_5
  · exact la_S_6
  · exact la_S_7
theorem wf_S_10 : Cond.fieldLink "SuggestDesk" 10 (T_S 0).1 (T_S 0).2.1 (T_S 0).2.2.1 ∈ AL := AL_in (List.mem_append_right _ (List.mem_of_getElem? (i := 179) (by decide +kernel))) (by decide +kernel)
theorem fl_S_10 : Fl "SuggestDesk" 10 7 0 "SuggestDesk" T_S 8 := ⟨rfl, by decide, la_S, Or.inl wf_S_10⟩
theorem wf_S_58 : Cond.fieldLink "SuggestDesk" 58 (T_S 7).1 (T_S 7).2.1 (T_S 7).2.2.1 ∈ AL := AL_in (List.mem_append_right _ (List.mem_of_getElem? (i := 186) (by decide +kernel))) (by decide +kernel)
theorem fl_S_58 : Fl "SuggestDesk" 58 7 7 "SuggestDesk" T_S 8 := ⟨rfl, by decide, la_S, Or.inl wf_S_58⟩
theorem wf_S_40 : Cond.fieldLink "SuggestDesk" 40 (T_S 4).1 (T_S 4).2.1 (T_S 4).2.2.1 ∈ AL := AL_in (List.mem_append_right _ (List.mem_of_getElem? (i := 183) (by decide +kernel))) (by decide +kernel)
theorem fl_S_40 : Fl "SuggestDesk" 40 7 4 "SuggestDesk" T_S 8 := ⟨rfl, by decide, la_S, Or.inl wf_S_40⟩
theorem wf_S_54 : Cond.fieldLink "SuggestDesk" 54 (T_S 6).1 (T_S 6).2.1 (T_S 6).2.2.1 ∈ AL := AL_in (List.mem_append_right _ (List.mem_of_getElem? (i := 185) (by decide +kernel))) (by decide +kernel)
theorem fl_S_54 : Fl "SuggestDesk" 54 7 6 "SuggestDesk" T_S 8 := ⟨rfl, by decide, la_S, Or.inl wf_S_54⟩
theorem wf_S_18 : Cond.fieldLink "SuggestDesk" 18 (T_S 1).1 (T_S 1).2.1 (T_S 1).2.2.1 ∈ AL := AL_in (List.mem_append_right _ (List.mem_of_getElem? (i := 180) (by decide +kernel))) (by decide +kernel)
theorem fl_S_18 : Fl "SuggestDesk" 18 7 1 "SuggestDesk" T_S 8 := ⟨rfl, by decide, la_S, Or.inl wf_S_18⟩
theorem wl_Dictionary_1 : Cond.methodLink "SuggestDesk$Dictionary" 1 objectInit ∈ AL := AL_in (List.mem_append_right _ (List.mem_of_getElem? (i := 51) (by decide +kernel))) (by decide +kernel)
theorem oi_Dictionary_1 : Cond.methodLink "SuggestDesk$Dictionary" 1 objectInit ∈ AL ∧ Cond.instanceMethod objectInit ∈ AL ∧ Cond.code objectInit ⟨#[0xb1]⟩ 1 none ∈ AL := ⟨wl_Dictionary_1, woi_n, woi_c⟩
theorem wq_Dictionary_7 : Cond.classLink "SuggestDesk$Dictionary" 7 "SuggestDesk$WordList" ∈ AL := AL_in (List.mem_append_right _ (List.mem_of_getElem? (i := 52) (by decide +kernel))) (by decide +kernel)
theorem nw_Dictionary_7 : Nw "SuggestDesk$Dictionary" 7 6 "SuggestDesk$WordList" T_WordList 3 := ⟨rfl, la_WordList, wq_Dictionary_7, wt_WordList, wi_WordList⟩
theorem la_Dictionary_0 : u_lay "SuggestDesk$Dictionary" T_Dictionary 0 ∈ AL := AL_in (List.mem_append_right _ (List.mem_of_getElem? (i := 59) (by decide +kernel))) (by decide +kernel)
theorem la_Dictionary_1 : u_lay "SuggestDesk$Dictionary" T_Dictionary 1 ∈ AL := AL_in (List.mem_append_right _ (List.mem_of_getElem? (i := 61) (by decide +kernel))) (by decide +kernel)
theorem la_Dictionary_2 : u_lay "SuggestDesk$Dictionary" T_Dictionary 2 ∈ AL := AL_in (List.mem_append_right _ (List.mem_of_getElem? (i := 63) (by decide +kernel))) (by decide +kernel)
theorem la_Dictionary_3 : u_lay "SuggestDesk$Dictionary" T_Dictionary 3 ∈ AL := AL_in (List.mem_append_right _ (List.mem_of_getElem? (i := 65) (by decide +kernel))) (by decide +kernel)
theorem la_Dictionary_4 : u_lay "SuggestDesk$Dictionary" T_Dictionary 4 ∈ AL := AL_in (List.mem_append_right _ (List.mem_of_getElem? (i := 67) (by decide +kernel))) (by decide +kernel)
theorem la_Dictionary : ∀ w ∈ u_ws "SuggestDesk$Dictionary" T_Dictionary 5, w ∈ AL := by
  intro w hw
  obtain ⟨k, hk, rfl⟩ := List.mem_map.mp hw
  have hk := List.mem_range.mp hk
  rcases (show k = 0 ∨ k = 1 ∨ k = 2 ∨ k = 3 ∨ k = 4 by omega) with rfl | rfl | rfl | rfl | rfl
  · exact la_Dictionary_0
  · exact la_Dictionary_1
  · exact la_Dictionary_2
  · exact la_Dictionary_3
  · exact la_Dictionary_4
theorem wf_Dictionary_10 : Cond.fieldLink "SuggestDesk$Dictionary" 10 (T_Dictionary 0).1 (T_Dictionary 0).2.1 (T_Dictionary 0).2.2.1 ∈ AL := AL_in (List.mem_append_right _ (List.mem_of_getElem? (i := 54) (by decide +kernel))) (by decide +kernel)
theorem fl_Dictionary_10 : Fl "SuggestDesk$Dictionary" 10 1 0 "SuggestDesk$Dictionary" T_Dictionary 5 := ⟨rfl, by decide, la_Dictionary, Or.inl wf_Dictionary_10⟩
theorem wf_Dictionary_16 : Cond.fieldLink "SuggestDesk$Dictionary" 16 (T_Dictionary 1).1 (T_Dictionary 1).2.1 (T_Dictionary 1).2.2.1 ∈ AL := AL_in (List.mem_append_right _ (List.mem_of_getElem? (i := 55) (by decide +kernel))) (by decide +kernel)
theorem fl_Dictionary_16 : Fl "SuggestDesk$Dictionary" 16 1 1 "SuggestDesk$Dictionary" T_Dictionary 5 := ⟨rfl, by decide, la_Dictionary, Or.inl wf_Dictionary_16⟩
theorem wf_Dictionary_23 : Cond.fieldLink "SuggestDesk$Dictionary" 23 (T_Dictionary 3).1 (T_Dictionary 3).2.1 (T_Dictionary 3).2.2.1 ∈ AL := AL_in (List.mem_append_right _ (List.mem_of_getElem? (i := 57) (by decide +kernel))) (by decide +kernel)
theorem fl_Dictionary_23 : Fl "SuggestDesk$Dictionary" 23 1 3 "SuggestDesk$Dictionary" T_Dictionary 5 := ⟨rfl, by decide, la_Dictionary, Or.inl wf_Dictionary_23⟩
theorem wf_Dictionary_26 : Cond.fieldLink "SuggestDesk$Dictionary" 26 (T_Dictionary 4).1 (T_Dictionary 4).2.1 (T_Dictionary 4).2.2.1 ∈ AL := AL_in (List.mem_append_right _ (List.mem_of_getElem? (i := 58) (by decide +kernel))) (by decide +kernel)
theorem fl_Dictionary_26 : Fl "SuggestDesk$Dictionary" 26 1 4 "SuggestDesk$Dictionary" T_Dictionary 5 := ⟨rfl, by decide, la_Dictionary, Or.inl wf_Dictionary_26⟩
theorem wf_Dictionary_20 : Cond.fieldLink "SuggestDesk$Dictionary" 20 (T_Dictionary 2).1 (T_Dictionary 2).2.1 (T_Dictionary 2).2.2.1 ∈ AL := AL_in (List.mem_append_right _ (List.mem_of_getElem? (i := 56) (by decide +kernel))) (by decide +kernel)
theorem fl_Dictionary_20 : Fl "SuggestDesk$Dictionary" 20 1 2 "SuggestDesk$Dictionary" T_Dictionary 5 := ⟨rfl, by decide, la_Dictionary, Or.inl wf_Dictionary_20⟩
theorem wl_Pairs_3 : Cond.methodLink "SuggestDesk$Pairs" 3 objectInit ∈ AL := AL_in (List.mem_append_right _ (List.mem_of_getElem? (i := 131) (by decide +kernel))) (by decide +kernel)
theorem oi_Pairs_3 : Cond.methodLink "SuggestDesk$Pairs" 3 objectInit ∈ AL ∧ Cond.instanceMethod objectInit ∈ AL ∧ Cond.code objectInit ⟨#[0xb1]⟩ 1 none ∈ AL := ⟨wl_Pairs_3, woi_n, woi_c⟩
theorem wa_long : Cond.arrayClass .long ∈ AL := AL_in (List.mem_append_right _ (List.mem_of_getElem? (i := 43) (by decide +kernel))) (by decide +kernel)
theorem la_Pairs_0 : u_lay "SuggestDesk$Pairs" T_Pairs 0 ∈ AL := AL_in (List.mem_append_right _ (List.mem_of_getElem? (i := 136) (by decide +kernel))) (by decide +kernel)
theorem la_Pairs_1 : u_lay "SuggestDesk$Pairs" T_Pairs 1 ∈ AL := AL_in (List.mem_append_right _ (List.mem_of_getElem? (i := 138) (by decide +kernel))) (by decide +kernel)
theorem la_Pairs_2 : u_lay "SuggestDesk$Pairs" T_Pairs 2 ∈ AL := AL_in (List.mem_append_right _ (List.mem_of_getElem? (i := 140) (by decide +kernel))) (by decide +kernel)
theorem la_Pairs_3 : u_lay "SuggestDesk$Pairs" T_Pairs 3 ∈ AL := AL_in (List.mem_append_right _ (List.mem_of_getElem? (i := 142) (by decide +kernel))) (by decide +kernel)
theorem la_Pairs : ∀ w ∈ u_ws "SuggestDesk$Pairs" T_Pairs 4, w ∈ AL := by
  intro w hw
  obtain ⟨k, hk, rfl⟩ := List.mem_map.mp hw
  have hk := List.mem_range.mp hk
  rcases (show k = 0 ∨ k = 1 ∨ k = 2 ∨ k = 3 by omega) with rfl | rfl | rfl | rfl
  · exact la_Pairs_0
  · exact la_Pairs_1
  · exact la_Pairs_2
  · exact la_Pairs_3
theorem wf_Pairs_9 : Cond.fieldLink "SuggestDesk$Pairs" 9 (T_Pairs 0).1 (T_Pairs 0).2.1 (T_Pairs 0).2.2.1 ∈ AL := AL_in (List.mem_append_right _ (List.mem_of_getElem? (i := 132) (by decide +kernel))) (by decide +kernel)
theorem fl_Pairs_9 : Fl "SuggestDesk$Pairs" 9 2 0 "SuggestDesk$Pairs" T_Pairs 4 := ⟨rfl, by decide, la_Pairs, Or.inl wf_Pairs_9⟩
theorem ff_Pairs_9 : vwCl[2]? = some ("SuggestDesk$Pairs", T_Pairs, 4) ∧ 0 < 4 ∧ (∀ w ∈ u_ws "SuggestDesk$Pairs" T_Pairs 4, w ∈ AL) ∧ Cond.fieldLink "SuggestDesk$Pairs" 9 (T_Pairs 0).1 (T_Pairs 0).2.1 (T_Pairs 0).2.2.1 ∈ AL := ⟨rfl, by decide, la_Pairs, wf_Pairs_9⟩
theorem wf_Pairs_15 : Cond.fieldLink "SuggestDesk$Pairs" 15 (T_Pairs 1).1 (T_Pairs 1).2.1 (T_Pairs 1).2.2.1 ∈ AL := AL_in (List.mem_append_right _ (List.mem_of_getElem? (i := 133) (by decide +kernel))) (by decide +kernel)
theorem fl_Pairs_15 : Fl "SuggestDesk$Pairs" 15 2 1 "SuggestDesk$Pairs" T_Pairs 4 := ⟨rfl, by decide, la_Pairs, Or.inl wf_Pairs_15⟩
theorem ff_Pairs_15 : vwCl[2]? = some ("SuggestDesk$Pairs", T_Pairs, 4) ∧ 1 < 4 ∧ (∀ w ∈ u_ws "SuggestDesk$Pairs" T_Pairs 4, w ∈ AL) ∧ Cond.fieldLink "SuggestDesk$Pairs" 15 (T_Pairs 1).1 (T_Pairs 1).2.1 (T_Pairs 1).2.2.1 ∈ AL := ⟨rfl, by decide, la_Pairs, wf_Pairs_15⟩
theorem wf_Pairs_18 : Cond.fieldLink "SuggestDesk$Pairs" 18 (T_Pairs 2).1 (T_Pairs 2).2.1 (T_Pairs 2).2.2.1 ∈ AL := AL_in (List.mem_append_right _ (List.mem_of_getElem? (i := 134) (by decide +kernel))) (by decide +kernel)
theorem fl_Pairs_18 : Fl "SuggestDesk$Pairs" 18 2 2 "SuggestDesk$Pairs" T_Pairs 4 := ⟨rfl, by decide, la_Pairs, Or.inl wf_Pairs_18⟩
theorem ff_Pairs_18 : vwCl[2]? = some ("SuggestDesk$Pairs", T_Pairs, 4) ∧ 2 < 4 ∧ (∀ w ∈ u_ws "SuggestDesk$Pairs" T_Pairs 4, w ∈ AL) ∧ Cond.fieldLink "SuggestDesk$Pairs" 18 (T_Pairs 2).1 (T_Pairs 2).2.1 (T_Pairs 2).2.2.1 ∈ AL := ⟨rfl, by decide, la_Pairs, wf_Pairs_18⟩
theorem wf_Pairs_22 : Cond.fieldLink "SuggestDesk$Pairs" 22 (T_Pairs 3).1 (T_Pairs 3).2.1 (T_Pairs 3).2.2.1 ∈ AL := AL_in (List.mem_append_right _ (List.mem_of_getElem? (i := 135) (by decide +kernel))) (by decide +kernel)
theorem fl_Pairs_22 : Fl "SuggestDesk$Pairs" 22 2 3 "SuggestDesk$Pairs" T_Pairs 4 := ⟨rfl, by decide, la_Pairs, Or.inl wf_Pairs_22⟩
theorem wl_Phrase_3 : Cond.methodLink "SuggestDesk$Phrase" 3 objectInit ∈ AL := AL_in (List.mem_append_right _ (List.mem_of_getElem? (i := 150) (by decide +kernel))) (by decide +kernel)
theorem oi_Phrase_3 : Cond.methodLink "SuggestDesk$Phrase" 3 objectInit ∈ AL ∧ Cond.instanceMethod objectInit ∈ AL ∧ Cond.code objectInit ⟨#[0xb1]⟩ 1 none ∈ AL := ⟨wl_Phrase_3, woi_n, woi_c⟩
theorem la_Phrase_0 : u_lay "SuggestDesk$Phrase" T_Phrase 0 ∈ AL := AL_in (List.mem_append_right _ (List.mem_of_getElem? (i := 162) (by decide +kernel))) (by decide +kernel)
theorem la_Phrase_1 : u_lay "SuggestDesk$Phrase" T_Phrase 1 ∈ AL := AL_in (List.mem_append_right _ (List.mem_of_getElem? (i := 164) (by decide +kernel))) (by decide +kernel)
theorem la_Phrase_2 : u_lay "SuggestDesk$Phrase" T_Phrase 2 ∈ AL := AL_in (List.mem_append_right _ (List.mem_of_getElem? (i := 166) (by decide +kernel))) (by decide +kernel)
theorem la_Phrase_3 : u_lay "SuggestDesk$Phrase" T_Phrase 3 ∈ AL := AL_in (List.mem_append_right _ (List.mem_of_getElem? (i := 168) (by decide +kernel))) (by decide +kernel)
theorem la_Phrase_4 : u_lay "SuggestDesk$Phrase" T_Phrase 4 ∈ AL := AL_in (List.mem_append_right _ (List.mem_of_getElem? (i := 170) (by decide +kernel))) (by decide +kernel)
theorem la_Phrase_5 : u_lay "SuggestDesk$Phrase" T_Phrase 5 ∈ AL := AL_in (List.mem_append_right _ (List.mem_of_getElem? (i := 172) (by decide +kernel))) (by decide +kernel)
theorem la_Phrase_6 : u_lay "SuggestDesk$Phrase" T_Phrase 6 ∈ AL := AL_in (List.mem_append_right _ (List.mem_of_getElem? (i := 174) (by decide +kernel))) (by decide +kernel)
theorem la_Phrase_7 : u_lay "SuggestDesk$Phrase" T_Phrase 7 ∈ AL := AL_in (List.mem_append_right _ (List.mem_of_getElem? (i := 176) (by decide +kernel))) (by decide +kernel)
theorem la_Phrase : ∀ w ∈ u_ws "SuggestDesk$Phrase" T_Phrase 8, w ∈ AL := by
  intro w hw
  obtain ⟨k, hk, rfl⟩ := List.mem_map.mp hw
  have hk := List.mem_range.mp hk
  rcases (show k = 0 ∨ k = 1 ∨ k = 2 ∨ k = 3 ∨ k = 4 ∨ k = 5 ∨ k = 6 ∨ k = 7 by omega) with rfl | rfl | rfl | rfl | rfl | rfl | rfl | rfl
  · exact la_Phrase_0
  · exact la_Phrase_1
  · exact la_Phrase_2
  · exact la_Phrase_3
  · exact la_Phrase_4
  · exact la_Phrase_5
  · exact la_Phrase_6
  · exact la_Phrase_7
theorem wf_Phrase_9 : Cond.fieldLink "SuggestDesk$Phrase" 9 (T_Phrase 0).1 (T_Phrase 0).2.1 (T_Phrase 0).2.2.1 ∈ AL := AL_in (List.mem_append_right _ (List.mem_of_getElem? (i := 154) (by decide +kernel))) (by decide +kernel)
theorem fl_Phrase_9 : Fl "SuggestDesk$Phrase" 9 3 0 "SuggestDesk$Phrase" T_Phrase 8 := ⟨rfl, by decide, la_Phrase, Or.inl wf_Phrase_9⟩
theorem ff_Phrase_9 : vwCl[3]? = some ("SuggestDesk$Phrase", T_Phrase, 8) ∧ 0 < 8 ∧ (∀ w ∈ u_ws "SuggestDesk$Phrase" T_Phrase 8, w ∈ AL) ∧ Cond.fieldLink "SuggestDesk$Phrase" 9 (T_Phrase 0).1 (T_Phrase 0).2.1 (T_Phrase 0).2.2.1 ∈ AL := ⟨rfl, by decide, la_Phrase, wf_Phrase_9⟩
theorem wf_Phrase_15 : Cond.fieldLink "SuggestDesk$Phrase" 15 (T_Phrase 1).1 (T_Phrase 1).2.1 (T_Phrase 1).2.2.1 ∈ AL := AL_in (List.mem_append_right _ (List.mem_of_getElem? (i := 155) (by decide +kernel))) (by decide +kernel)
theorem fl_Phrase_15 : Fl "SuggestDesk$Phrase" 15 3 1 "SuggestDesk$Phrase" T_Phrase 8 := ⟨rfl, by decide, la_Phrase, Or.inl wf_Phrase_15⟩
theorem ff_Phrase_15 : vwCl[3]? = some ("SuggestDesk$Phrase", T_Phrase, 8) ∧ 1 < 8 ∧ (∀ w ∈ u_ws "SuggestDesk$Phrase" T_Phrase 8, w ∈ AL) ∧ Cond.fieldLink "SuggestDesk$Phrase" 15 (T_Phrase 1).1 (T_Phrase 1).2.1 (T_Phrase 1).2.2.1 ∈ AL := ⟨rfl, by decide, la_Phrase, wf_Phrase_15⟩
theorem wq_Phrase_18 : Cond.classLink "SuggestDesk$Phrase" 18 "[[J" ∈ AL := AL_in (List.mem_append_right _ (List.mem_of_getElem? (i := 151) (by decide +kernel))) (by decide +kernel)
theorem wao_long : Cond.arrayOver (.array .long) ∈ NWs := NW_in (List.mem_append_right _ (List.mem_of_getElem? (i := 152) (by decide +kernel))) (by decide +kernel)
theorem mu_Phrase_18 : Cond.classLink "SuggestDesk$Phrase" 18 ("[" ++ (FieldType.array .long).toString) ∈ AL ∧ Cond.arrayOver (.array .long) ∈ NWs ∧ Cond.arrayClass .long ∈ AL := ⟨wq_Phrase_18, wao_long, wa_long⟩
theorem wf_Phrase_20 : Cond.fieldLink "SuggestDesk$Phrase" 20 (T_Phrase 2).1 (T_Phrase 2).2.1 (T_Phrase 2).2.2.1 ∈ AL := AL_in (List.mem_append_right _ (List.mem_of_getElem? (i := 156) (by decide +kernel))) (by decide +kernel)
theorem fl_Phrase_20 : Fl "SuggestDesk$Phrase" 20 3 2 "SuggestDesk$Phrase" T_Phrase 8 := ⟨rfl, by decide, la_Phrase, Or.inl wf_Phrase_20⟩
theorem ff_Phrase_20 : vwCl[3]? = some ("SuggestDesk$Phrase", T_Phrase, 8) ∧ 2 < 8 ∧ (∀ w ∈ u_ws "SuggestDesk$Phrase" T_Phrase 8, w ∈ AL) ∧ Cond.fieldLink "SuggestDesk$Phrase" 20 (T_Phrase 2).1 (T_Phrase 2).2.1 (T_Phrase 2).2.2.1 ∈ AL := ⟨rfl, by decide, la_Phrase, wf_Phrase_20⟩
theorem wq_Phrase_23 : Cond.classLink "SuggestDesk$Phrase" 23 "[[I" ∈ AL := AL_in (List.mem_append_right _ (List.mem_of_getElem? (i := 153) (by decide +kernel))) (by decide +kernel)
theorem wao_int : Cond.arrayOver (.array .int) ∈ NWs := NW_in (List.mem_append_right _ (List.mem_of_getElem? (i := 102) (by decide +kernel))) (by decide +kernel)
theorem mu_Phrase_23 : Cond.classLink "SuggestDesk$Phrase" 23 ("[" ++ (FieldType.array .int).toString) ∈ AL ∧ Cond.arrayOver (.array .int) ∈ NWs ∧ Cond.arrayClass .int ∈ AL := ⟨wq_Phrase_23, wao_int, wa_int⟩
theorem wf_Phrase_25 : Cond.fieldLink "SuggestDesk$Phrase" 25 (T_Phrase 3).1 (T_Phrase 3).2.1 (T_Phrase 3).2.2.1 ∈ AL := AL_in (List.mem_append_right _ (List.mem_of_getElem? (i := 157) (by decide +kernel))) (by decide +kernel)
theorem fl_Phrase_25 : Fl "SuggestDesk$Phrase" 25 3 3 "SuggestDesk$Phrase" T_Phrase 8 := ⟨rfl, by decide, la_Phrase, Or.inl wf_Phrase_25⟩
theorem ff_Phrase_25 : vwCl[3]? = some ("SuggestDesk$Phrase", T_Phrase, 8) ∧ 3 < 8 ∧ (∀ w ∈ u_ws "SuggestDesk$Phrase" T_Phrase 8, w ∈ AL) ∧ Cond.fieldLink "SuggestDesk$Phrase" 25 (T_Phrase 3).1 (T_Phrase 3).2.1 (T_Phrase 3).2.2.1 ∈ AL := ⟨rfl, by decide, la_Phrase, wf_Phrase_25⟩
theorem wf_Phrase_28 : Cond.fieldLink "SuggestDesk$Phrase" 28 (T_Phrase 4).1 (T_Phrase 4).2.1 (T_Phrase 4).2.2.1 ∈ AL := AL_in (List.mem_append_right _ (List.mem_of_getElem? (i := 158) (by decide +kernel))) (by decide +kernel)
theorem fl_Phrase_28 : Fl "SuggestDesk$Phrase" 28 3 4 "SuggestDesk$Phrase" T_Phrase 8 := ⟨rfl, by decide, la_Phrase, Or.inl wf_Phrase_28⟩
theorem ff_Phrase_28 : vwCl[3]? = some ("SuggestDesk$Phrase", T_Phrase, 8) ∧ 4 < 8 ∧ (∀ w ∈ u_ws "SuggestDesk$Phrase" T_Phrase 8, w ∈ AL) ∧ Cond.fieldLink "SuggestDesk$Phrase" 28 (T_Phrase 4).1 (T_Phrase 4).2.1 (T_Phrase 4).2.2.1 ∈ AL := ⟨rfl, by decide, la_Phrase, wf_Phrase_28⟩
theorem wf_Phrase_31 : Cond.fieldLink "SuggestDesk$Phrase" 31 (T_Phrase 5).1 (T_Phrase 5).2.1 (T_Phrase 5).2.2.1 ∈ AL := AL_in (List.mem_append_right _ (List.mem_of_getElem? (i := 159) (by decide +kernel))) (by decide +kernel)
theorem fl_Phrase_31 : Fl "SuggestDesk$Phrase" 31 3 5 "SuggestDesk$Phrase" T_Phrase 8 := ⟨rfl, by decide, la_Phrase, Or.inl wf_Phrase_31⟩
theorem ff_Phrase_31 : vwCl[3]? = some ("SuggestDesk$Phrase", T_Phrase, 8) ∧ 5 < 8 ∧ (∀ w ∈ u_ws "SuggestDesk$Phrase" T_Phrase 8, w ∈ AL) ∧ Cond.fieldLink "SuggestDesk$Phrase" 31 (T_Phrase 5).1 (T_Phrase 5).2.1 (T_Phrase 5).2.2.1 ∈ AL := ⟨rfl, by decide, la_Phrase, wf_Phrase_31⟩
theorem wf_Phrase_35 : Cond.fieldLink "SuggestDesk$Phrase" 35 (T_Phrase 6).1 (T_Phrase 6).2.1 (T_Phrase 6).2.2.1 ∈ AL := AL_in (List.mem_append_right _ (List.mem_of_getElem? (i := 160) (by decide +kernel))) (by decide +kernel)
theorem fl_Phrase_35 : Fl "SuggestDesk$Phrase" 35 3 6 "SuggestDesk$Phrase" T_Phrase 8 := ⟨rfl, by decide, la_Phrase, Or.inl wf_Phrase_35⟩
theorem wf_Phrase_39 : Cond.fieldLink "SuggestDesk$Phrase" 39 (T_Phrase 7).1 (T_Phrase 7).2.1 (T_Phrase 7).2.2.1 ∈ AL := AL_in (List.mem_append_right _ (List.mem_of_getElem? (i := 161) (by decide +kernel))) (by decide +kernel)
theorem fl_Phrase_39 : Fl "SuggestDesk$Phrase" 39 3 7 "SuggestDesk$Phrase" T_Phrase 8 := ⟨rfl, by decide, la_Phrase, Or.inl wf_Phrase_39⟩
theorem wl_Ruler_3 : Cond.methodLink "SuggestDesk$Ruler" 3 objectInit ∈ AL := AL_in (List.mem_append_right _ (List.mem_of_getElem? (i := 100) (by decide +kernel))) (by decide +kernel)
theorem oi_Ruler_3 : Cond.methodLink "SuggestDesk$Ruler" 3 objectInit ∈ AL ∧ Cond.instanceMethod objectInit ∈ AL ∧ Cond.code objectInit ⟨#[0xb1]⟩ 1 none ∈ AL := ⟨wl_Ruler_3, woi_n, woi_c⟩
theorem wq_Ruler_9 : Cond.classLink "SuggestDesk$Ruler" 9 "[[I" ∈ AL := AL_in (List.mem_append_right _ (List.mem_of_getElem? (i := 101) (by decide +kernel))) (by decide +kernel)
theorem mu_Ruler_9 : Cond.classLink "SuggestDesk$Ruler" 9 ("[" ++ (FieldType.array .int).toString) ∈ AL ∧ Cond.arrayOver (.array .int) ∈ NWs ∧ Cond.arrayClass .int ∈ AL := ⟨wq_Ruler_9, wao_int, wa_int⟩
theorem la_Ruler_0 : u_lay "SuggestDesk$Ruler" T_Ruler 0 ∈ AL := AL_in (List.mem_append_right _ (List.mem_of_getElem? (i := 104) (by decide +kernel))) (by decide +kernel)
theorem la_Ruler : ∀ w ∈ u_ws "SuggestDesk$Ruler" T_Ruler 1, w ∈ AL := by
  intro w hw
  obtain ⟨k, hk, rfl⟩ := List.mem_map.mp hw
  have hk := List.mem_range.mp hk
  rcases (show k = 0 by omega) with rfl
  · exact la_Ruler_0
theorem wf_Ruler_11 : Cond.fieldLink "SuggestDesk$Ruler" 11 (T_Ruler 0).1 (T_Ruler 0).2.1 (T_Ruler 0).2.2.1 ∈ AL := AL_in (List.mem_append_right _ (List.mem_of_getElem? (i := 103) (by decide +kernel))) (by decide +kernel)
theorem fl_Ruler_11 : Fl "SuggestDesk$Ruler" 11 4 0 "SuggestDesk$Ruler" T_Ruler 1 := ⟨rfl, by decide, la_Ruler, Or.inl wf_Ruler_11⟩
theorem ff_Ruler_11 : vwCl[4]? = some ("SuggestDesk$Ruler", T_Ruler, 1) ∧ 0 < 1 ∧ (∀ w ∈ u_ws "SuggestDesk$Ruler" T_Ruler 1, w ∈ AL) ∧ Cond.fieldLink "SuggestDesk$Ruler" 11 (T_Ruler 0).1 (T_Ruler 0).2.1 (T_Ruler 0).2.2.1 ∈ AL := ⟨rfl, by decide, la_Ruler, wf_Ruler_11⟩
theorem wl_Suggestions_3 : Cond.methodLink "SuggestDesk$Suggestions" 3 objectInit ∈ AL := AL_in (List.mem_append_right _ (List.mem_of_getElem? (i := 112) (by decide +kernel))) (by decide +kernel)
theorem oi_Suggestions_3 : Cond.methodLink "SuggestDesk$Suggestions" 3 objectInit ∈ AL ∧ Cond.instanceMethod objectInit ∈ AL ∧ Cond.code objectInit ⟨#[0xb1]⟩ 1 none ∈ AL := ⟨wl_Suggestions_3, woi_n, woi_c⟩
theorem la_Suggestions_0 : u_lay "SuggestDesk$Suggestions" T_Suggestions 0 ∈ AL := AL_in (List.mem_append_right _ (List.mem_of_getElem? (i := 117) (by decide +kernel))) (by decide +kernel)
theorem la_Suggestions_1 : u_lay "SuggestDesk$Suggestions" T_Suggestions 1 ∈ AL := AL_in (List.mem_append_right _ (List.mem_of_getElem? (i := 119) (by decide +kernel))) (by decide +kernel)
theorem la_Suggestions_2 : u_lay "SuggestDesk$Suggestions" T_Suggestions 2 ∈ AL := AL_in (List.mem_append_right _ (List.mem_of_getElem? (i := 121) (by decide +kernel))) (by decide +kernel)
theorem la_Suggestions_3 : u_lay "SuggestDesk$Suggestions" T_Suggestions 3 ∈ AL := AL_in (List.mem_append_right _ (List.mem_of_getElem? (i := 123) (by decide +kernel))) (by decide +kernel)
theorem la_Suggestions : ∀ w ∈ u_ws "SuggestDesk$Suggestions" T_Suggestions 4, w ∈ AL := by
  intro w hw
  obtain ⟨k, hk, rfl⟩ := List.mem_map.mp hw
  have hk := List.mem_range.mp hk
  rcases (show k = 0 ∨ k = 1 ∨ k = 2 ∨ k = 3 by omega) with rfl | rfl | rfl | rfl
  · exact la_Suggestions_0
  · exact la_Suggestions_1
  · exact la_Suggestions_2
  · exact la_Suggestions_3
theorem wf_Suggestions_9 : Cond.fieldLink "SuggestDesk$Suggestions" 9 (T_Suggestions 0).1 (T_Suggestions 0).2.1 (T_Suggestions 0).2.2.1 ∈ AL := AL_in (List.mem_append_right _ (List.mem_of_getElem? (i := 113) (by decide +kernel))) (by decide +kernel)
theorem fl_Suggestions_9 : Fl "SuggestDesk$Suggestions" 9 5 0 "SuggestDesk$Suggestions" T_Suggestions 4 := ⟨rfl, by decide, la_Suggestions, Or.inl wf_Suggestions_9⟩
theorem ff_Suggestions_9 : vwCl[5]? = some ("SuggestDesk$Suggestions", T_Suggestions, 4) ∧ 0 < 4 ∧ (∀ w ∈ u_ws "SuggestDesk$Suggestions" T_Suggestions 4, w ∈ AL) ∧ Cond.fieldLink "SuggestDesk$Suggestions" 9 (T_Suggestions 0).1 (T_Suggestions 0).2.1 (T_Suggestions 0).2.2.1 ∈ AL := ⟨rfl, by decide, la_Suggestions, wf_Suggestions_9⟩
theorem wf_Suggestions_15 : Cond.fieldLink "SuggestDesk$Suggestions" 15 (T_Suggestions 1).1 (T_Suggestions 1).2.1 (T_Suggestions 1).2.2.1 ∈ AL := AL_in (List.mem_append_right _ (List.mem_of_getElem? (i := 114) (by decide +kernel))) (by decide +kernel)
theorem fl_Suggestions_15 : Fl "SuggestDesk$Suggestions" 15 5 1 "SuggestDesk$Suggestions" T_Suggestions 4 := ⟨rfl, by decide, la_Suggestions, Or.inl wf_Suggestions_15⟩
theorem ff_Suggestions_15 : vwCl[5]? = some ("SuggestDesk$Suggestions", T_Suggestions, 4) ∧ 1 < 4 ∧ (∀ w ∈ u_ws "SuggestDesk$Suggestions" T_Suggestions 4, w ∈ AL) ∧ Cond.fieldLink "SuggestDesk$Suggestions" 15 (T_Suggestions 1).1 (T_Suggestions 1).2.1 (T_Suggestions 1).2.2.1 ∈ AL := ⟨rfl, by decide, la_Suggestions, wf_Suggestions_15⟩
theorem wf_Suggestions_19 : Cond.fieldLink "SuggestDesk$Suggestions" 19 (T_Suggestions 2).1 (T_Suggestions 2).2.1 (T_Suggestions 2).2.2.1 ∈ AL := AL_in (List.mem_append_right _ (List.mem_of_getElem? (i := 115) (by decide +kernel))) (by decide +kernel)
theorem fl_Suggestions_19 : Fl "SuggestDesk$Suggestions" 19 5 2 "SuggestDesk$Suggestions" T_Suggestions 4 := ⟨rfl, by decide, la_Suggestions, Or.inl wf_Suggestions_19⟩
theorem wf_Suggestions_23 : Cond.fieldLink "SuggestDesk$Suggestions" 23 (T_Suggestions 3).1 (T_Suggestions 3).2.1 (T_Suggestions 3).2.2.1 ∈ AL := AL_in (List.mem_append_right _ (List.mem_of_getElem? (i := 116) (by decide +kernel))) (by decide +kernel)
theorem fl_Suggestions_23 : Fl "SuggestDesk$Suggestions" 23 5 3 "SuggestDesk$Suggestions" T_Suggestions 4 := ⟨rfl, by decide, la_Suggestions, Or.inl wf_Suggestions_23⟩
theorem wl_Suggestions_26 : Cond.methodLink "SuggestDesk$Suggestions" 26 Lib.Math.min.name ∈ AL := AL_in (List.mem_append_right _ (List.mem_of_getElem? (i := 526) (by decide +kernel))) (by decide +kernel)
theorem wmin_s : Cond.static Lib.Math.min.name ∈ AL := AL_in (List.mem_append_right _ (List.mem_of_getElem? (i := 401) (by decide +kernel))) (by decide +kernel)
theorem wmin_i : Cond.initialized "java/lang/Math" ∈ AL := AL_in (List.mem_append_right _ (List.mem_of_getElem? (i := 16) (by decide +kernel))) (by decide +kernel)
theorem wmin_c : Cond.code Lib.Math.min.name Lib.Math.min.code 2 (some .int) ∈ AL := AL_in (List.mem_append_right _ (List.mem_of_getElem? (i := 402) (by decide +kernel))) (by decide +kernel)
theorem wmin : Cond.static Lib.Math.min.name ∈ AL ∧ Cond.initialized "java/lang/Math" ∈ AL ∧ Cond.code Lib.Math.min.name Lib.Math.min.code 2 (some .int) ∈ AL := ⟨wmin_s, wmin_i, wmin_c⟩
theorem wk_Texts_15 : Cond.constantLong "SuggestDesk$Texts" 15 (255 : Int64) ∈ AL := AL_in (List.mem_append_right _ (List.mem_of_getElem? (i := 214) (by decide +kernel))) (by decide +kernel)
theorem wk_Texts_17 : Cond.constantLong "SuggestDesk$Texts" 17 (97 : Int64) ∈ AL := AL_in (List.mem_append_right _ (List.mem_of_getElem? (i := 215) (by decide +kernel))) (by decide +kernel)
theorem wk_Texts_19 : Cond.constantLong "SuggestDesk$Texts" 19 (106 : Int64) ∈ AL := AL_in (List.mem_append_right _ (List.mem_of_getElem? (i := 216) (by decide +kernel))) (by decide +kernel)
theorem wk_Texts_25 : Cond.constantLong "SuggestDesk$Texts" 25 (-1 : Int64) ∈ AL := AL_in (List.mem_append_right _ (List.mem_of_getElem? (i := 392) (by decide +kernel))) (by decide +kernel)
theorem wl_Texts_21 : Cond.methodLink "SuggestDesk$Texts" 21 y_Texts_letterAt ∈ AL := AL_in (List.mem_append_right _ (List.mem_of_getElem? (i := 220) (by decide +kernel))) (by decide +kernel)
theorem lk_Texts_21 : Lk "SuggestDesk$Texts" 21 y_Texts_letterAt := Or.inl wl_Texts_21
theorem wc_Texts_letterAt : Cond.code y_Texts_letterAt b_Texts_letterAt 3 (some .int) ∈ AL := AL_in (List.mem_append_right _ (List.mem_of_getElem? (i := 222) (by decide +kernel))) (by decide +kernel)
theorem wi_Texts : Cond.initialized "SuggestDesk$Texts" ∈ AL := AL_in (List.mem_append_right _ (List.mem_of_getElem? (i := 10) (by decide +kernel))) (by decide +kernel)
theorem mw_Texts_letterAt : Mw y_Texts_letterAt b_Texts_letterAt 3 (some .int) 2 := ⟨wc_Texts_letterAt, wi_Texts, by decide, by decide, by decide +kernel⟩
theorem ws_Texts_letterAt : Cond.static y_Texts_letterAt ∈ AL := AL_in (List.mem_append_right _ (List.mem_of_getElem? (i := 221) (by decide +kernel))) (by decide +kernel)
theorem wl_WordList_3 : Cond.methodLink "SuggestDesk$WordList" 3 objectInit ∈ AL := AL_in (List.mem_append_right _ (List.mem_of_getElem? (i := 32) (by decide +kernel))) (by decide +kernel)
theorem oi_WordList_3 : Cond.methodLink "SuggestDesk$WordList" 3 objectInit ∈ AL ∧ Cond.instanceMethod objectInit ∈ AL ∧ Cond.code objectInit ⟨#[0xb1]⟩ 1 none ∈ AL := ⟨wl_WordList_3, woi_n, woi_c⟩
theorem wf_WordList_9 : Cond.fieldLink "SuggestDesk$WordList" 9 (T_WordList 0).1 (T_WordList 0).2.1 (T_WordList 0).2.2.1 ∈ AL := AL_in (List.mem_append_right _ (List.mem_of_getElem? (i := 33) (by decide +kernel))) (by decide +kernel)
theorem fl_WordList_9 : Fl "SuggestDesk$WordList" 9 6 0 "SuggestDesk$WordList" T_WordList 3 := ⟨rfl, by decide, la_WordList, Or.inl wf_WordList_9⟩
theorem ff_WordList_9 : vwCl[6]? = some ("SuggestDesk$WordList", T_WordList, 3) ∧ 0 < 3 ∧ (∀ w ∈ u_ws "SuggestDesk$WordList" T_WordList 3, w ∈ AL) ∧ Cond.fieldLink "SuggestDesk$WordList" 9 (T_WordList 0).1 (T_WordList 0).2.1 (T_WordList 0).2.2.1 ∈ AL := ⟨rfl, by decide, la_WordList, wf_WordList_9⟩
theorem wf_WordList_15 : Cond.fieldLink "SuggestDesk$WordList" 15 (T_WordList 1).1 (T_WordList 1).2.1 (T_WordList 1).2.2.1 ∈ AL := AL_in (List.mem_append_right _ (List.mem_of_getElem? (i := 34) (by decide +kernel))) (by decide +kernel)
theorem fl_WordList_15 : Fl "SuggestDesk$WordList" 15 6 1 "SuggestDesk$WordList" T_WordList 3 := ⟨rfl, by decide, la_WordList, Or.inl wf_WordList_15⟩
theorem ff_WordList_15 : vwCl[6]? = some ("SuggestDesk$WordList", T_WordList, 3) ∧ 1 < 3 ∧ (∀ w ∈ u_ws "SuggestDesk$WordList" T_WordList 3, w ∈ AL) ∧ Cond.fieldLink "SuggestDesk$WordList" 15 (T_WordList 1).1 (T_WordList 1).2.1 (T_WordList 1).2.2.1 ∈ AL := ⟨rfl, by decide, la_WordList, wf_WordList_15⟩
theorem wf_WordList_19 : Cond.fieldLink "SuggestDesk$WordList" 19 (T_WordList 2).1 (T_WordList 2).2.1 (T_WordList 2).2.2.1 ∈ AL := AL_in (List.mem_append_right _ (List.mem_of_getElem? (i := 35) (by decide +kernel))) (by decide +kernel)
theorem fl_WordList_19 : Fl "SuggestDesk$WordList" 19 6 2 "SuggestDesk$WordList" T_WordList 3 := ⟨rfl, by decide, la_WordList, Or.inl wf_WordList_19⟩
theorem wl_M_1 : Cond.methodLink "SuggestDeskModel" 1 objectInit ∈ AL := AL_in (List.mem_append_right _ (List.mem_of_getElem? (i := 703) (by decide +kernel))) (by decide +kernel)
theorem oi_M_1 : Cond.methodLink "SuggestDeskModel" 1 objectInit ∈ AL ∧ Cond.instanceMethod objectInit ∈ AL ∧ Cond.code objectInit ⟨#[0xb1]⟩ 1 none ∈ AL := ⟨wl_M_1, woi_n, woi_c⟩
theorem la_M_0 : u_lay "SuggestDeskModel" T_M 0 ∈ AL := AL_in (List.mem_append_right _ (List.mem_of_getElem? (i := 739) (by decide +kernel))) (by decide +kernel)
theorem la_M_1 : u_lay "SuggestDeskModel" T_M 1 ∈ AL := AL_in (List.mem_append_right _ (List.mem_of_getElem? (i := 741) (by decide +kernel))) (by decide +kernel)
theorem la_M_2 : u_lay "SuggestDeskModel" T_M 2 ∈ AL := AL_in (List.mem_append_right _ (List.mem_of_getElem? (i := 743) (by decide +kernel))) (by decide +kernel)
theorem la_M_3 : u_lay "SuggestDeskModel" T_M 3 ∈ AL := AL_in (List.mem_append_right _ (List.mem_of_getElem? (i := 745) (by decide +kernel))) (by decide +kernel)
theorem la_M_4 : u_lay "SuggestDeskModel" T_M 4 ∈ AL := AL_in (List.mem_append_right _ (List.mem_of_getElem? (i := 747) (by decide +kernel))) (by decide +kernel)
theorem la_M_5 : u_lay "SuggestDeskModel" T_M 5 ∈ AL := AL_in (List.mem_append_right _ (List.mem_of_getElem? (i := 749) (by decide +kernel))) (by decide +kernel)
theorem la_M_6 : u_lay "SuggestDeskModel" T_M 6 ∈ AL := AL_in (List.mem_append_right _ (List.mem_of_getElem? (i := 751) (by decide +kernel))) (by decide +kernel)
theorem la_M_7 : u_lay "SuggestDeskModel" T_M 7 ∈ AL := AL_in (List.mem_append_right _ (List.mem_of_getElem? (i := 753) (by decide +kernel))) (by decide +kernel)
theorem la_M_8 : u_lay "SuggestDeskModel" T_M 8 ∈ AL := AL_in (List.mem_append_right _ (List.mem_of_getElem? (i := 755) (by decide +kernel))) (by decide +kernel)
theorem la_M_9 : u_lay "SuggestDeskModel" T_M 9 ∈ AL := AL_in (List.mem_append_right _ (List.mem_of_getElem? (i := 757) (by decide +kernel))) (by decide +kernel)
theorem la_M_10 : u_lay "SuggestDeskModel" T_M 10 ∈ AL := AL_in (List.mem_append_right _ (List.mem_of_getElem? (i := 759) (by decide +kernel))) (by decide +kernel)
theorem la_M_11 : u_lay "SuggestDeskModel" T_M 11 ∈ AL := AL_in (List.mem_append_right _ (List.mem_of_getElem? (i := 761) (by decide +kernel))) (by decide +kernel)
theorem la_M_12 : u_lay "SuggestDeskModel" T_M 12 ∈ AL := AL_in (List.mem_append_right _ (List.mem_of_getElem? (i := 763) (by decide +kernel))) (by decide +kernel)
theorem la_M_13 : u_lay "SuggestDeskModel" T_M 13 ∈ AL := AL_in (List.mem_append_right _ (List.mem_of_getElem? (i := 765) (by decide +kernel))) (by decide +kernel)
theorem la_M_14 : u_lay "SuggestDeskModel" T_M 14 ∈ AL := AL_in (List.mem_append_right _ (List.mem_of_getElem? (i := 767) (by decide +kernel))) (by decide +kernel)
theorem la_M_15 : u_lay "SuggestDeskModel" T_M 15 ∈ AL := AL_in (List.mem_append_right _ (List.mem_of_getElem? (i := 769) (by decide +kernel))) (by decide +kernel)
theorem la_M_16 : u_lay "SuggestDeskModel" T_M 16 ∈ AL := AL_in (List.mem_append_right _ (List.mem_of_getElem? (i := 771) (by decide +kernel))) (by decide +kernel)
theorem la_M_17 : u_lay "SuggestDeskModel" T_M 17 ∈ AL := AL_in (List.mem_append_right _ (List.mem_of_getElem? (i := 773) (by decide +kernel))) (by decide +kernel)
theorem la_M_18 : u_lay "SuggestDeskModel" T_M 18 ∈ AL := AL_in (List.mem_append_right _ (List.mem_of_getElem? (i := 775) (by decide +kernel))) (by decide +kernel)
theorem la_M_19 : u_lay "SuggestDeskModel" T_M 19 ∈ AL := AL_in (List.mem_append_right _ (List.mem_of_getElem? (i := 777) (by decide +kernel))) (by decide +kernel)
theorem la_M_20 : u_lay "SuggestDeskModel" T_M 20 ∈ AL := AL_in (List.mem_append_right _ (List.mem_of_getElem? (i := 779) (by decide +kernel))) (by decide +kernel)
theorem la_M_21 : u_lay "SuggestDeskModel" T_M 21 ∈ AL := AL_in (List.mem_append_right _ (List.mem_of_getElem? (i := 781) (by decide +kernel))) (by decide +kernel)
theorem la_M_22 : u_lay "SuggestDeskModel" T_M 22 ∈ AL := AL_in (List.mem_append_right _ (List.mem_of_getElem? (i := 783) (by decide +kernel))) (by decide +kernel)
theorem la_M_23 : u_lay "SuggestDeskModel" T_M 23 ∈ AL := AL_in (List.mem_append_right _ (List.mem_of_getElem? (i := 785) (by decide +kernel))) (by decide +kernel)
theorem la_M_24 : u_lay "SuggestDeskModel" T_M 24 ∈ AL := AL_in (List.mem_append_right _ (List.mem_of_getElem? (i := 787) (by decide +kernel))) (by decide +kernel)
theorem la_M_25 : u_lay "SuggestDeskModel" T_M 25 ∈ AL := AL_in (List.mem_append_right _ (List.mem_of_getElem? (i := 789) (by decide +kernel))) (by decide +kernel)
theorem la_M_26 : u_lay "SuggestDeskModel" T_M 26 ∈ AL := AL_in (List.mem_append_right _ (List.mem_of_getElem? (i := 791) (by decide +kernel))) (by decide +kernel)
theorem la_M_27 : u_lay "SuggestDeskModel" T_M 27 ∈ AL := AL_in (List.mem_append_right _ (List.mem_of_getElem? (i := 793) (by decide +kernel))) (by decide +kernel)
theorem la_M_28 : u_lay "SuggestDeskModel" T_M 28 ∈ AL := AL_in (List.mem_append_right _ (List.mem_of_getElem? (i := 795) (by decide +kernel))) (by decide +kernel)
theorem la_M_29 : u_lay "SuggestDeskModel" T_M 29 ∈ AL := AL_in (List.mem_append_right _ (List.mem_of_getElem? (i := 797) (by decide +kernel))) (by decide +kernel)
theorem la_M_30 : u_lay "SuggestDeskModel" T_M 30 ∈ AL := AL_in (List.mem_append_right _ (List.mem_of_getElem? (i := 799) (by decide +kernel))) (by decide +kernel)
theorem la_M_31 : u_lay "SuggestDeskModel" T_M 31 ∈ AL := AL_in (List.mem_append_right _ (List.mem_of_getElem? (i := 801) (by decide +kernel))) (by decide +kernel)
theorem la_M_32 : u_lay "SuggestDeskModel" T_M 32 ∈ AL := AL_in (List.mem_append_right _ (List.mem_of_getElem? (i := 803) (by decide +kernel))) (by decide +kernel)
theorem la_M_33 : u_lay "SuggestDeskModel" T_M 33 ∈ AL := AL_in (List.mem_append_right _ (List.mem_of_getElem? (i := 805) (by decide +kernel))) (by decide +kernel)
theorem la_M_34 : u_lay "SuggestDeskModel" T_M 34 ∈ AL := AL_in (List.mem_append_right _ (List.mem_of_getElem? (i := 807) (by decide +kernel))) (by decide +kernel)
theorem la_M : ∀ w ∈ u_ws "SuggestDeskModel" T_M 35, w ∈ AL := by
  intro w hw
  obtain ⟨k, hk, rfl⟩ := List.mem_map.mp hw
  have hk := List.mem_range.mp hk
  rcases (show k = 0 ∨ k = 1 ∨ k = 2 ∨ k = 3 ∨ k = 4 ∨ k = 5 ∨ k = 6 ∨ k = 7 ∨ k = 8 ∨ k = 9 ∨ k = 10 ∨ k = 11 ∨ k = 12 ∨ k = 13 ∨ k = 14 ∨ k = 15 ∨ k = 16 ∨ k = 17 ∨ k = 18 ∨ k = 19 ∨ k = 20 ∨ k = 21 ∨ k = 22 ∨ k = 23 ∨ k = 24 ∨ k = 25 ∨ k = 26 ∨ k = 27 ∨ k = 28 ∨ k = 29 ∨ k = 30 ∨ k = 31 ∨ k = 32 ∨ k = 33 ∨ k = 34 by omega) with rfl | rfl | rfl | rfl | rfl | rfl | rfl | rfl | rfl | rfl | rfl | rfl | rfl | rfl | rfl | rfl | rfl | rfl | rfl | rfl | rfl | rfl | rfl | rfl | rfl | rfl | rfl | rfl | rfl | rfl | rfl | rfl | rfl | rfl | rfl
  · exact la_M_0
  · exact la_M_1
  · exact la_M_2
  · exact la_M_3
  · exact la_M_4
  · exact la_M_5
  · exact la_M_6
  · exact la_M_7
  · exact la_M_8
  · exact la_M_9
  · exact la_M_10
  · exact la_M_11
  · exact la_M_12
  · exact la_M_13
  · exact la_M_14
  · exact la_M_15
  · exact la_M_16
  · exact la_M_17
  · exact la_M_18
  · exact la_M_19
  · exact la_M_20
  · exact la_M_21
  · exact la_M_22
  · exact la_M_23
  · exact la_M_24
  · exact la_M_25
  · exact la_M_26
  · exact la_M_27
  · exact la_M_28
  · exact la_M_29
  · exact la_M_30
  · exact la_M_31
  · exact la_M_32
  · exact la_M_33
  · exact la_M_34
theorem wf_M_7 : Cond.fieldLink "SuggestDeskModel" 7 (T_M 2).1 (T_M 2).2.1 (T_M 2).2.2.1 ∈ AL := AL_in (List.mem_append_right _ (List.mem_of_getElem? (i := 706) (by decide +kernel))) (by decide +kernel)
theorem fl_M_7 : Fl "SuggestDeskModel" 7 8 2 "SuggestDeskModel" T_M 35 := ⟨rfl, by decide, la_M, Or.inl wf_M_7⟩
theorem ff_M_7 : vwCl[8]? = some ("SuggestDeskModel", T_M, 35) ∧ 2 < 35 ∧ (∀ w ∈ u_ws "SuggestDeskModel" T_M 35, w ∈ AL) ∧ Cond.fieldLink "SuggestDeskModel" 7 (T_M 2).1 (T_M 2).2.1 (T_M 2).2.2.1 ∈ AL := ⟨rfl, by decide, la_M, wf_M_7⟩
theorem wf_M_13 : Cond.fieldLink "SuggestDeskModel" 13 (T_M 3).1 (T_M 3).2.1 (T_M 3).2.2.1 ∈ AL := AL_in (List.mem_append_right _ (List.mem_of_getElem? (i := 707) (by decide +kernel))) (by decide +kernel)
theorem fl_M_13 : Fl "SuggestDeskModel" 13 8 3 "SuggestDeskModel" T_M 35 := ⟨rfl, by decide, la_M, Or.inl wf_M_13⟩
theorem ff_M_13 : vwCl[8]? = some ("SuggestDeskModel", T_M, 35) ∧ 3 < 35 ∧ (∀ w ∈ u_ws "SuggestDeskModel" T_M 35, w ∈ AL) ∧ Cond.fieldLink "SuggestDeskModel" 13 (T_M 3).1 (T_M 3).2.1 (T_M 3).2.2.1 ∈ AL := ⟨rfl, by decide, la_M, wf_M_13⟩
theorem wf_M_17 : Cond.fieldLink "SuggestDeskModel" 17 (T_M 6).1 (T_M 6).2.1 (T_M 6).2.2.1 ∈ AL := AL_in (List.mem_append_right _ (List.mem_of_getElem? (i := 710) (by decide +kernel))) (by decide +kernel)
theorem fl_M_17 : Fl "SuggestDeskModel" 17 8 6 "SuggestDeskModel" T_M 35 := ⟨rfl, by decide, la_M, Or.inl wf_M_17⟩
theorem ff_M_17 : vwCl[8]? = some ("SuggestDeskModel", T_M, 35) ∧ 6 < 35 ∧ (∀ w ∈ u_ws "SuggestDeskModel" T_M 35, w ∈ AL) ∧ Cond.fieldLink "SuggestDeskModel" 17 (T_M 6).1 (T_M 6).2.1 (T_M 6).2.2.1 ∈ AL := ⟨rfl, by decide, la_M, wf_M_17⟩
theorem wf_M_20 : Cond.fieldLink "SuggestDeskModel" 20 (T_M 7).1 (T_M 7).2.1 (T_M 7).2.2.1 ∈ AL := AL_in (List.mem_append_right _ (List.mem_of_getElem? (i := 711) (by decide +kernel))) (by decide +kernel)
theorem fl_M_20 : Fl "SuggestDeskModel" 20 8 7 "SuggestDeskModel" T_M 35 := ⟨rfl, by decide, la_M, Or.inl wf_M_20⟩
theorem ff_M_20 : vwCl[8]? = some ("SuggestDeskModel", T_M, 35) ∧ 7 < 35 ∧ (∀ w ∈ u_ws "SuggestDeskModel" T_M 35, w ∈ AL) ∧ Cond.fieldLink "SuggestDeskModel" 20 (T_M 7).1 (T_M 7).2.1 (T_M 7).2.2.1 ∈ AL := ⟨rfl, by decide, la_M, wf_M_20⟩
theorem wf_M_23 : Cond.fieldLink "SuggestDeskModel" 23 (T_M 8).1 (T_M 8).2.1 (T_M 8).2.2.1 ∈ AL := AL_in (List.mem_append_right _ (List.mem_of_getElem? (i := 712) (by decide +kernel))) (by decide +kernel)
theorem fl_M_23 : Fl "SuggestDeskModel" 23 8 8 "SuggestDeskModel" T_M 35 := ⟨rfl, by decide, la_M, Or.inl wf_M_23⟩
theorem ff_M_23 : vwCl[8]? = some ("SuggestDeskModel", T_M, 35) ∧ 8 < 35 ∧ (∀ w ∈ u_ws "SuggestDeskModel" T_M 35, w ∈ AL) ∧ Cond.fieldLink "SuggestDeskModel" 23 (T_M 8).1 (T_M 8).2.1 (T_M 8).2.2.1 ∈ AL := ⟨rfl, by decide, la_M, wf_M_23⟩
theorem wf_M_26 : Cond.fieldLink "SuggestDeskModel" 26 (T_M 9).1 (T_M 9).2.1 (T_M 9).2.2.1 ∈ AL := AL_in (List.mem_append_right _ (List.mem_of_getElem? (i := 713) (by decide +kernel))) (by decide +kernel)
theorem fl_M_26 : Fl "SuggestDeskModel" 26 8 9 "SuggestDeskModel" T_M 35 := ⟨rfl, by decide, la_M, Or.inl wf_M_26⟩
theorem ff_M_26 : vwCl[8]? = some ("SuggestDeskModel", T_M, 35) ∧ 9 < 35 ∧ (∀ w ∈ u_ws "SuggestDeskModel" T_M 35, w ∈ AL) ∧ Cond.fieldLink "SuggestDeskModel" 26 (T_M 9).1 (T_M 9).2.1 (T_M 9).2.2.1 ∈ AL := ⟨rfl, by decide, la_M, wf_M_26⟩
theorem wf_M_29 : Cond.fieldLink "SuggestDeskModel" 29 (T_M 10).1 (T_M 10).2.1 (T_M 10).2.2.1 ∈ AL := AL_in (List.mem_append_right _ (List.mem_of_getElem? (i := 714) (by decide +kernel))) (by decide +kernel)
theorem fl_M_29 : Fl "SuggestDeskModel" 29 8 10 "SuggestDeskModel" T_M 35 := ⟨rfl, by decide, la_M, Or.inl wf_M_29⟩
theorem ff_M_29 : vwCl[8]? = some ("SuggestDeskModel", T_M, 35) ∧ 10 < 35 ∧ (∀ w ∈ u_ws "SuggestDeskModel" T_M 35, w ∈ AL) ∧ Cond.fieldLink "SuggestDeskModel" 29 (T_M 10).1 (T_M 10).2.1 (T_M 10).2.2.1 ∈ AL := ⟨rfl, by decide, la_M, wf_M_29⟩
theorem wf_M_32 : Cond.fieldLink "SuggestDeskModel" 32 (T_M 11).1 (T_M 11).2.1 (T_M 11).2.2.1 ∈ AL := AL_in (List.mem_append_right _ (List.mem_of_getElem? (i := 715) (by decide +kernel))) (by decide +kernel)
theorem fl_M_32 : Fl "SuggestDeskModel" 32 8 11 "SuggestDeskModel" T_M 35 := ⟨rfl, by decide, la_M, Or.inl wf_M_32⟩
theorem ff_M_32 : vwCl[8]? = some ("SuggestDeskModel", T_M, 35) ∧ 11 < 35 ∧ (∀ w ∈ u_ws "SuggestDeskModel" T_M 35, w ∈ AL) ∧ Cond.fieldLink "SuggestDeskModel" 32 (T_M 11).1 (T_M 11).2.1 (T_M 11).2.2.1 ∈ AL := ⟨rfl, by decide, la_M, wf_M_32⟩
theorem wf_M_35 : Cond.fieldLink "SuggestDeskModel" 35 (T_M 12).1 (T_M 12).2.1 (T_M 12).2.2.1 ∈ AL := AL_in (List.mem_append_right _ (List.mem_of_getElem? (i := 716) (by decide +kernel))) (by decide +kernel)
theorem fl_M_35 : Fl "SuggestDeskModel" 35 8 12 "SuggestDeskModel" T_M 35 := ⟨rfl, by decide, la_M, Or.inl wf_M_35⟩
theorem ff_M_35 : vwCl[8]? = some ("SuggestDeskModel", T_M, 35) ∧ 12 < 35 ∧ (∀ w ∈ u_ws "SuggestDeskModel" T_M 35, w ∈ AL) ∧ Cond.fieldLink "SuggestDeskModel" 35 (T_M 12).1 (T_M 12).2.1 (T_M 12).2.2.1 ∈ AL := ⟨rfl, by decide, la_M, wf_M_35⟩
theorem wf_M_38 : Cond.fieldLink "SuggestDeskModel" 38 (T_M 14).1 (T_M 14).2.1 (T_M 14).2.2.1 ∈ AL := AL_in (List.mem_append_right _ (List.mem_of_getElem? (i := 718) (by decide +kernel))) (by decide +kernel)
theorem fl_M_38 : Fl "SuggestDeskModel" 38 8 14 "SuggestDeskModel" T_M 35 := ⟨rfl, by decide, la_M, Or.inl wf_M_38⟩
theorem ff_M_38 : vwCl[8]? = some ("SuggestDeskModel", T_M, 35) ∧ 14 < 35 ∧ (∀ w ∈ u_ws "SuggestDeskModel" T_M 35, w ∈ AL) ∧ Cond.fieldLink "SuggestDeskModel" 38 (T_M 14).1 (T_M 14).2.1 (T_M 14).2.2.1 ∈ AL := ⟨rfl, by decide, la_M, wf_M_38⟩
theorem wf_M_41 : Cond.fieldLink "SuggestDeskModel" 41 (T_M 15).1 (T_M 15).2.1 (T_M 15).2.2.1 ∈ AL := AL_in (List.mem_append_right _ (List.mem_of_getElem? (i := 719) (by decide +kernel))) (by decide +kernel)
theorem fl_M_41 : Fl "SuggestDeskModel" 41 8 15 "SuggestDeskModel" T_M 35 := ⟨rfl, by decide, la_M, Or.inl wf_M_41⟩
theorem ff_M_41 : vwCl[8]? = some ("SuggestDeskModel", T_M, 35) ∧ 15 < 35 ∧ (∀ w ∈ u_ws "SuggestDeskModel" T_M 35, w ∈ AL) ∧ Cond.fieldLink "SuggestDeskModel" 41 (T_M 15).1 (T_M 15).2.1 (T_M 15).2.2.1 ∈ AL := ⟨rfl, by decide, la_M, wf_M_41⟩
theorem wf_M_44 : Cond.fieldLink "SuggestDeskModel" 44 (T_M 16).1 (T_M 16).2.1 (T_M 16).2.2.1 ∈ AL := AL_in (List.mem_append_right _ (List.mem_of_getElem? (i := 720) (by decide +kernel))) (by decide +kernel)
theorem fl_M_44 : Fl "SuggestDeskModel" 44 8 16 "SuggestDeskModel" T_M 35 := ⟨rfl, by decide, la_M, Or.inl wf_M_44⟩
theorem ff_M_44 : vwCl[8]? = some ("SuggestDeskModel", T_M, 35) ∧ 16 < 35 ∧ (∀ w ∈ u_ws "SuggestDeskModel" T_M 35, w ∈ AL) ∧ Cond.fieldLink "SuggestDeskModel" 44 (T_M 16).1 (T_M 16).2.1 (T_M 16).2.2.1 ∈ AL := ⟨rfl, by decide, la_M, wf_M_44⟩
theorem wf_M_47 : Cond.fieldLink "SuggestDeskModel" 47 (T_M 17).1 (T_M 17).2.1 (T_M 17).2.2.1 ∈ AL := AL_in (List.mem_append_right _ (List.mem_of_getElem? (i := 721) (by decide +kernel))) (by decide +kernel)
theorem fl_M_47 : Fl "SuggestDeskModel" 47 8 17 "SuggestDeskModel" T_M 35 := ⟨rfl, by decide, la_M, Or.inl wf_M_47⟩
theorem ff_M_47 : vwCl[8]? = some ("SuggestDeskModel", T_M, 35) ∧ 17 < 35 ∧ (∀ w ∈ u_ws "SuggestDeskModel" T_M 35, w ∈ AL) ∧ Cond.fieldLink "SuggestDeskModel" 47 (T_M 17).1 (T_M 17).2.1 (T_M 17).2.2.1 ∈ AL := ⟨rfl, by decide, la_M, wf_M_47⟩
theorem wf_M_50 : Cond.fieldLink "SuggestDeskModel" 50 (T_M 18).1 (T_M 18).2.1 (T_M 18).2.2.1 ∈ AL := AL_in (List.mem_append_right _ (List.mem_of_getElem? (i := 722) (by decide +kernel))) (by decide +kernel)
theorem fl_M_50 : Fl "SuggestDeskModel" 50 8 18 "SuggestDeskModel" T_M 35 := ⟨rfl, by decide, la_M, Or.inl wf_M_50⟩
theorem ff_M_50 : vwCl[8]? = some ("SuggestDeskModel", T_M, 35) ∧ 18 < 35 ∧ (∀ w ∈ u_ws "SuggestDeskModel" T_M 35, w ∈ AL) ∧ Cond.fieldLink "SuggestDeskModel" 50 (T_M 18).1 (T_M 18).2.1 (T_M 18).2.2.1 ∈ AL := ⟨rfl, by decide, la_M, wf_M_50⟩
theorem wf_M_53 : Cond.fieldLink "SuggestDeskModel" 53 (T_M 20).1 (T_M 20).2.1 (T_M 20).2.2.1 ∈ AL := AL_in (List.mem_append_right _ (List.mem_of_getElem? (i := 724) (by decide +kernel))) (by decide +kernel)
theorem fl_M_53 : Fl "SuggestDeskModel" 53 8 20 "SuggestDeskModel" T_M 35 := ⟨rfl, by decide, la_M, Or.inl wf_M_53⟩
theorem ff_M_53 : vwCl[8]? = some ("SuggestDeskModel", T_M, 35) ∧ 20 < 35 ∧ (∀ w ∈ u_ws "SuggestDeskModel" T_M 35, w ∈ AL) ∧ Cond.fieldLink "SuggestDeskModel" 53 (T_M 20).1 (T_M 20).2.1 (T_M 20).2.2.1 ∈ AL := ⟨rfl, by decide, la_M, wf_M_53⟩
theorem wf_M_56 : Cond.fieldLink "SuggestDeskModel" 56 (T_M 21).1 (T_M 21).2.1 (T_M 21).2.2.1 ∈ AL := AL_in (List.mem_append_right _ (List.mem_of_getElem? (i := 725) (by decide +kernel))) (by decide +kernel)
theorem fl_M_56 : Fl "SuggestDeskModel" 56 8 21 "SuggestDeskModel" T_M 35 := ⟨rfl, by decide, la_M, Or.inl wf_M_56⟩
theorem ff_M_56 : vwCl[8]? = some ("SuggestDeskModel", T_M, 35) ∧ 21 < 35 ∧ (∀ w ∈ u_ws "SuggestDeskModel" T_M 35, w ∈ AL) ∧ Cond.fieldLink "SuggestDeskModel" 56 (T_M 21).1 (T_M 21).2.1 (T_M 21).2.2.1 ∈ AL := ⟨rfl, by decide, la_M, wf_M_56⟩
theorem wf_M_59 : Cond.fieldLink "SuggestDeskModel" 59 (T_M 22).1 (T_M 22).2.1 (T_M 22).2.2.1 ∈ AL := AL_in (List.mem_append_right _ (List.mem_of_getElem? (i := 726) (by decide +kernel))) (by decide +kernel)
theorem fl_M_59 : Fl "SuggestDeskModel" 59 8 22 "SuggestDeskModel" T_M 35 := ⟨rfl, by decide, la_M, Or.inl wf_M_59⟩
theorem ff_M_59 : vwCl[8]? = some ("SuggestDeskModel", T_M, 35) ∧ 22 < 35 ∧ (∀ w ∈ u_ws "SuggestDeskModel" T_M 35, w ∈ AL) ∧ Cond.fieldLink "SuggestDeskModel" 59 (T_M 22).1 (T_M 22).2.1 (T_M 22).2.2.1 ∈ AL := ⟨rfl, by decide, la_M, wf_M_59⟩
theorem wf_M_62 : Cond.fieldLink "SuggestDeskModel" 62 (T_M 24).1 (T_M 24).2.1 (T_M 24).2.2.1 ∈ AL := AL_in (List.mem_append_right _ (List.mem_of_getElem? (i := 728) (by decide +kernel))) (by decide +kernel)
theorem fl_M_62 : Fl "SuggestDeskModel" 62 8 24 "SuggestDeskModel" T_M 35 := ⟨rfl, by decide, la_M, Or.inl wf_M_62⟩
theorem ff_M_62 : vwCl[8]? = some ("SuggestDeskModel", T_M, 35) ∧ 24 < 35 ∧ (∀ w ∈ u_ws "SuggestDeskModel" T_M 35, w ∈ AL) ∧ Cond.fieldLink "SuggestDeskModel" 62 (T_M 24).1 (T_M 24).2.1 (T_M 24).2.2.1 ∈ AL := ⟨rfl, by decide, la_M, wf_M_62⟩
theorem wf_M_65 : Cond.fieldLink "SuggestDeskModel" 65 (T_M 25).1 (T_M 25).2.1 (T_M 25).2.2.1 ∈ AL := AL_in (List.mem_append_right _ (List.mem_of_getElem? (i := 729) (by decide +kernel))) (by decide +kernel)
theorem fl_M_65 : Fl "SuggestDeskModel" 65 8 25 "SuggestDeskModel" T_M 35 := ⟨rfl, by decide, la_M, Or.inl wf_M_65⟩
theorem ff_M_65 : vwCl[8]? = some ("SuggestDeskModel", T_M, 35) ∧ 25 < 35 ∧ (∀ w ∈ u_ws "SuggestDeskModel" T_M 35, w ∈ AL) ∧ Cond.fieldLink "SuggestDeskModel" 65 (T_M 25).1 (T_M 25).2.1 (T_M 25).2.2.1 ∈ AL := ⟨rfl, by decide, la_M, wf_M_65⟩
theorem wf_M_68 : Cond.fieldLink "SuggestDeskModel" 68 (T_M 26).1 (T_M 26).2.1 (T_M 26).2.2.1 ∈ AL := AL_in (List.mem_append_right _ (List.mem_of_getElem? (i := 730) (by decide +kernel))) (by decide +kernel)
theorem fl_M_68 : Fl "SuggestDeskModel" 68 8 26 "SuggestDeskModel" T_M 35 := ⟨rfl, by decide, la_M, Or.inl wf_M_68⟩
theorem ff_M_68 : vwCl[8]? = some ("SuggestDeskModel", T_M, 35) ∧ 26 < 35 ∧ (∀ w ∈ u_ws "SuggestDeskModel" T_M 35, w ∈ AL) ∧ Cond.fieldLink "SuggestDeskModel" 68 (T_M 26).1 (T_M 26).2.1 (T_M 26).2.2.1 ∈ AL := ⟨rfl, by decide, la_M, wf_M_68⟩
theorem wf_M_71 : Cond.fieldLink "SuggestDeskModel" 71 (T_M 28).1 (T_M 28).2.1 (T_M 28).2.2.1 ∈ AL := AL_in (List.mem_append_right _ (List.mem_of_getElem? (i := 732) (by decide +kernel))) (by decide +kernel)
theorem fl_M_71 : Fl "SuggestDeskModel" 71 8 28 "SuggestDeskModel" T_M 35 := ⟨rfl, by decide, la_M, Or.inl wf_M_71⟩
theorem ff_M_71 : vwCl[8]? = some ("SuggestDeskModel", T_M, 35) ∧ 28 < 35 ∧ (∀ w ∈ u_ws "SuggestDeskModel" T_M 35, w ∈ AL) ∧ Cond.fieldLink "SuggestDeskModel" 71 (T_M 28).1 (T_M 28).2.1 (T_M 28).2.2.1 ∈ AL := ⟨rfl, by decide, la_M, wf_M_71⟩
theorem wf_M_74 : Cond.fieldLink "SuggestDeskModel" 74 (T_M 30).1 (T_M 30).2.1 (T_M 30).2.2.1 ∈ AL := AL_in (List.mem_append_right _ (List.mem_of_getElem? (i := 734) (by decide +kernel))) (by decide +kernel)
theorem fl_M_74 : Fl "SuggestDeskModel" 74 8 30 "SuggestDeskModel" T_M 35 := ⟨rfl, by decide, la_M, Or.inl wf_M_74⟩
theorem ff_M_74 : vwCl[8]? = some ("SuggestDeskModel", T_M, 35) ∧ 30 < 35 ∧ (∀ w ∈ u_ws "SuggestDeskModel" T_M 35, w ∈ AL) ∧ Cond.fieldLink "SuggestDeskModel" 74 (T_M 30).1 (T_M 30).2.1 (T_M 30).2.2.1 ∈ AL := ⟨rfl, by decide, la_M, wf_M_74⟩
theorem wf_M_77 : Cond.fieldLink "SuggestDeskModel" 77 (T_M 31).1 (T_M 31).2.1 (T_M 31).2.2.1 ∈ AL := AL_in (List.mem_append_right _ (List.mem_of_getElem? (i := 735) (by decide +kernel))) (by decide +kernel)
theorem fl_M_77 : Fl "SuggestDeskModel" 77 8 31 "SuggestDeskModel" T_M 35 := ⟨rfl, by decide, la_M, Or.inl wf_M_77⟩
theorem ff_M_77 : vwCl[8]? = some ("SuggestDeskModel", T_M, 35) ∧ 31 < 35 ∧ (∀ w ∈ u_ws "SuggestDeskModel" T_M 35, w ∈ AL) ∧ Cond.fieldLink "SuggestDeskModel" 77 (T_M 31).1 (T_M 31).2.1 (T_M 31).2.2.1 ∈ AL := ⟨rfl, by decide, la_M, wf_M_77⟩
theorem wf_M_80 : Cond.fieldLink "SuggestDeskModel" 80 (T_M 32).1 (T_M 32).2.1 (T_M 32).2.2.1 ∈ AL := AL_in (List.mem_append_right _ (List.mem_of_getElem? (i := 736) (by decide +kernel))) (by decide +kernel)
theorem fl_M_80 : Fl "SuggestDeskModel" 80 8 32 "SuggestDeskModel" T_M 35 := ⟨rfl, by decide, la_M, Or.inl wf_M_80⟩
theorem ff_M_80 : vwCl[8]? = some ("SuggestDeskModel", T_M, 35) ∧ 32 < 35 ∧ (∀ w ∈ u_ws "SuggestDeskModel" T_M 35, w ∈ AL) ∧ Cond.fieldLink "SuggestDeskModel" 80 (T_M 32).1 (T_M 32).2.1 (T_M 32).2.2.1 ∈ AL := ⟨rfl, by decide, la_M, wf_M_80⟩
theorem wf_M_83 : Cond.fieldLink "SuggestDeskModel" 83 (T_M 33).1 (T_M 33).2.1 (T_M 33).2.2.1 ∈ AL := AL_in (List.mem_append_right _ (List.mem_of_getElem? (i := 737) (by decide +kernel))) (by decide +kernel)
theorem fl_M_83 : Fl "SuggestDeskModel" 83 8 33 "SuggestDeskModel" T_M 35 := ⟨rfl, by decide, la_M, Or.inl wf_M_83⟩
theorem ff_M_83 : vwCl[8]? = some ("SuggestDeskModel", T_M, 35) ∧ 33 < 35 ∧ (∀ w ∈ u_ws "SuggestDeskModel" T_M 35, w ∈ AL) ∧ Cond.fieldLink "SuggestDeskModel" 83 (T_M 33).1 (T_M 33).2.1 (T_M 33).2.2.1 ∈ AL := ⟨rfl, by decide, la_M, wf_M_83⟩
theorem wf_M_86 : Cond.fieldLink "SuggestDeskModel" 86 (T_M 34).1 (T_M 34).2.1 (T_M 34).2.2.1 ∈ AL := AL_in (List.mem_append_right _ (List.mem_of_getElem? (i := 738) (by decide +kernel))) (by decide +kernel)
theorem fl_M_86 : Fl "SuggestDeskModel" 86 8 34 "SuggestDeskModel" T_M 35 := ⟨rfl, by decide, la_M, Or.inl wf_M_86⟩
theorem ff_M_86 : vwCl[8]? = some ("SuggestDeskModel", T_M, 35) ∧ 34 < 35 ∧ (∀ w ∈ u_ws "SuggestDeskModel" T_M 35, w ∈ AL) ∧ Cond.fieldLink "SuggestDeskModel" 86 (T_M 34).1 (T_M 34).2.1 (T_M 34).2.2.1 ∈ AL := ⟨rfl, by decide, la_M, wf_M_86⟩
theorem wf_M_89 : Cond.fieldLink "SuggestDeskModel" 89 (T_M 0).1 (T_M 0).2.1 (T_M 0).2.2.1 ∈ AL := AL_in (List.mem_append_right _ (List.mem_of_getElem? (i := 704) (by decide +kernel))) (by decide +kernel)
theorem fl_M_89 : Fl "SuggestDeskModel" 89 8 0 "SuggestDeskModel" T_M 35 := ⟨rfl, by decide, la_M, Or.inl wf_M_89⟩
theorem wl_M_93 : Cond.methodLink "SuggestDeskModel" 93 y_M_lettersOf ∈ AL := AL_in (List.mem_append_right _ (List.mem_of_getElem? (i := 824) (by decide +kernel))) (by decide +kernel)
theorem lk_M_93 : Lk "SuggestDeskModel" 93 y_M_lettersOf := Or.inl wl_M_93
theorem wc_M_lettersOf : Cond.code y_M_lettersOf b_M_lettersOf 3 (some .int) ∈ AL := AL_in (List.mem_append_right _ (List.mem_of_getElem? (i := 826) (by decide +kernel))) (by decide +kernel)
theorem wi_M : Cond.initialized "SuggestDeskModel" ∈ AL := AL_in (List.mem_append_right _ (List.mem_of_getElem? (i := 9) (by decide +kernel))) (by decide +kernel)
theorem mw_M_lettersOf : Mw y_M_lettersOf b_M_lettersOf 3 (some .int) 1 := ⟨wc_M_lettersOf, wi_M, by decide, by decide, by decide +kernel⟩
theorem ws_M_lettersOf : Cond.static y_M_lettersOf ∈ AL := AL_in (List.mem_append_right _ (List.mem_of_getElem? (i := 825) (by decide +kernel))) (by decide +kernel)
theorem wk_M_97 : Cond.constantLong "SuggestDeskModel" 97 (255 : Int64) ∈ AL := AL_in (List.mem_append_right _ (List.mem_of_getElem? (i := 827) (by decide +kernel))) (by decide +kernel)
theorem wk_M_99 : Cond.constantLong "SuggestDeskModel" 99 (97 : Int64) ∈ AL := AL_in (List.mem_append_right _ (List.mem_of_getElem? (i := 828) (by decide +kernel))) (by decide +kernel)
theorem wk_M_101 : Cond.constantLong "SuggestDeskModel" 101 (106 : Int64) ∈ AL := AL_in (List.mem_append_right _ (List.mem_of_getElem? (i := 829) (by decide +kernel))) (by decide +kernel)
theorem wl_M_103 : Cond.methodLink "SuggestDeskModel" 103 y_M_isText ∈ AL := AL_in (List.mem_append_right _ (List.mem_of_getElem? (i := 821) (by decide +kernel))) (by decide +kernel)
theorem lk_M_103 : Lk "SuggestDeskModel" 103 y_M_isText := Or.inl wl_M_103
theorem wc_M_isText : Cond.code y_M_isText b_M_isText 7 (some .boolean) ∈ AL := AL_in (List.mem_append_right _ (List.mem_of_getElem? (i := 823) (by decide +kernel))) (by decide +kernel)
theorem mw_M_isText : Mw y_M_isText b_M_isText 7 (some .boolean) 1 := ⟨wc_M_isText, wi_M, by decide, by decide, by decide +kernel⟩
theorem ws_M_isText : Cond.static y_M_isText ∈ AL := AL_in (List.mem_append_right _ (List.mem_of_getElem? (i := 822) (by decide +kernel))) (by decide +kernel)
theorem wl_M_107 : Cond.methodLink "SuggestDeskModel" 107 y_M_at ∈ AL := AL_in (List.mem_append_right _ (List.mem_of_getElem? (i := 849) (by decide +kernel))) (by decide +kernel)
theorem lk_M_107 : Lk "SuggestDeskModel" 107 y_M_at := Or.inl wl_M_107
theorem wc_M_at : Cond.code y_M_at b_M_at 4 (some .int) ∈ AL := AL_in (List.mem_append_right _ (List.mem_of_getElem? (i := 851) (by decide +kernel))) (by decide +kernel)
theorem mw_M_at : Mw y_M_at b_M_at 4 (some .int) 2 := ⟨wc_M_at, wi_M, by decide, by decide, by decide +kernel⟩
theorem ws_M_at : Cond.static y_M_at ∈ AL := AL_in (List.mem_append_right _ (List.mem_of_getElem? (i := 850) (by decide +kernel))) (by decide +kernel)
theorem wl_M_111 : Cond.methodLink "SuggestDeskModel" 111 y_M_isWord ∈ AL := AL_in (List.mem_append_right _ (List.mem_of_getElem? (i := 818) (by decide +kernel))) (by decide +kernel)
theorem lk_M_111 : Lk "SuggestDeskModel" 111 y_M_isWord := Or.inl wl_M_111
theorem wc_M_isWord : Cond.code y_M_isWord b_M_isWord 2 (some .boolean) ∈ AL := AL_in (List.mem_append_right _ (List.mem_of_getElem? (i := 820) (by decide +kernel))) (by decide +kernel)
theorem mw_M_isWord : Mw y_M_isWord b_M_isWord 2 (some .boolean) 1 := ⟨wc_M_isWord, wi_M, by decide, by decide, by decide +kernel⟩
theorem ws_M_isWord : Cond.static y_M_isWord ∈ AL := AL_in (List.mem_append_right _ (List.mem_of_getElem? (i := 819) (by decide +kernel))) (by decide +kernel)
theorem wf_M_114 : Cond.fieldLink "SuggestDeskModel" 114 (T_M 1).1 (T_M 1).2.1 (T_M 1).2.2.1 ∈ AL := AL_in (List.mem_append_right _ (List.mem_of_getElem? (i := 705) (by decide +kernel))) (by decide +kernel)
theorem fl_M_114 : Fl "SuggestDeskModel" 114 8 1 "SuggestDeskModel" T_M 35 := ⟨rfl, by decide, la_M, Or.inl wf_M_114⟩
theorem wl_M_117 : Cond.methodLink "SuggestDeskModel" 117 y_M_throwing ∈ AL := AL_in (List.mem_append_right _ (List.mem_of_getElem? (i := 830) (by decide +kernel))) (by decide +kernel)
theorem lk_M_117 : Lk "SuggestDeskModel" 117 y_M_throwing := Or.inl wl_M_117
theorem wc_M_throwing : Cond.code y_M_throwing b_M_throwing 3 (some .boolean) ∈ AL := AL_in (List.mem_append_right _ (List.mem_of_getElem? (i := 833) (by decide +kernel))) (by decide +kernel)
theorem mw_M_throwing : Mw y_M_throwing b_M_throwing 3 (some .boolean) 2 := ⟨wc_M_throwing, wi_M, by decide, by decide, by decide +kernel⟩
theorem wn_M_throwing : Cond.instanceMethod y_M_throwing ∈ AL := AL_in (List.mem_append_right _ (List.mem_of_getElem? (i := 832) (by decide +kernel))) (by decide +kernel)
theorem wx_M_throwing : Cond.selects "SuggestDeskModel" y_M_throwing y_M_throwing ∈ AL := AL_in (List.mem_append_left _ (List.mem_of_getElem? (i := 16) (by decide +kernel))) (by decide +kernel)
theorem sv_M_throwing : Cond.instanceMethod y_M_throwing ∈ AL ∧ Cond.selects y_M_throwing.cls y_M_throwing y_M_throwing ∈ AL := ⟨wn_M_throwing, wx_M_throwing⟩
theorem wf_M_121 : Cond.fieldLink "SuggestDeskModel" 121 (T_M 4).1 (T_M 4).2.1 (T_M 4).2.2.1 ∈ AL := AL_in (List.mem_append_right _ (List.mem_of_getElem? (i := 708) (by decide +kernel))) (by decide +kernel)
theorem fl_M_121 : Fl "SuggestDeskModel" 121 8 4 "SuggestDeskModel" T_M 35 := ⟨rfl, by decide, la_M, Or.inl wf_M_121⟩
theorem wf_M_128 : Cond.fieldLink "SuggestDeskModel" 128 (T_M 5).1 (T_M 5).2.1 (T_M 5).2.2.1 ∈ AL := AL_in (List.mem_append_right _ (List.mem_of_getElem? (i := 709) (by decide +kernel))) (by decide +kernel)
theorem fl_M_128 : Fl "SuggestDeskModel" 128 8 5 "SuggestDeskModel" T_M 35 := ⟨rfl, by decide, la_M, Or.inl wf_M_128⟩
theorem wl_M_131 : Cond.methodLink "SuggestDeskModel" 131 y_M_isBefore ∈ AL := AL_in (List.mem_append_right _ (List.mem_of_getElem? (i := 846) (by decide +kernel))) (by decide +kernel)
theorem lk_M_131 : Lk "SuggestDeskModel" 131 y_M_isBefore := Or.inl wl_M_131
theorem wc_M_isBefore : Cond.code y_M_isBefore b_M_isBefore 5 (some .boolean) ∈ AL := AL_in (List.mem_append_right _ (List.mem_of_getElem? (i := 848) (by decide +kernel))) (by decide +kernel)
theorem mw_M_isBefore : Mw y_M_isBefore b_M_isBefore 5 (some .boolean) 2 := ⟨wc_M_isBefore, wi_M, by decide, by decide, by decide +kernel⟩
theorem ws_M_isBefore : Cond.static y_M_isBefore ∈ AL := AL_in (List.mem_append_right _ (List.mem_of_getElem? (i := 847) (by decide +kernel))) (by decide +kernel)
theorem wl_M_124 : Cond.methodLink "SuggestDeskModel" 124 y_M_move ∈ AL := AL_in (List.mem_append_right _ (List.mem_of_getElem? (i := 842) (by decide +kernel))) (by decide +kernel)
theorem lk_M_124 : Lk "SuggestDeskModel" 124 y_M_move := Or.inl wl_M_124
theorem wc_M_move : Cond.code y_M_move b_M_move 4 none ∈ AL := AL_in (List.mem_append_right _ (List.mem_of_getElem? (i := 845) (by decide +kernel))) (by decide +kernel)
theorem mw_M_move : Mw y_M_move b_M_move 4 none 2 := ⟨wc_M_move, wi_M, by decide, by decide, by decide +kernel⟩
theorem wn_M_move : Cond.instanceMethod y_M_move ∈ AL := AL_in (List.mem_append_right _ (List.mem_of_getElem? (i := 844) (by decide +kernel))) (by decide +kernel)
theorem wx_M_move : Cond.selects "SuggestDeskModel" y_M_move y_M_move ∈ AL := AL_in (List.mem_append_left _ (List.mem_of_getElem? (i := 17) (by decide +kernel))) (by decide +kernel)
theorem sv_M_move : Cond.instanceMethod y_M_move ∈ AL ∧ Cond.selects y_M_move.cls y_M_move y_M_move ∈ AL := ⟨wn_M_move, wx_M_move⟩
theorem wl_M_135 : Cond.methodLink "SuggestDeskModel" 135 y_M_placeOf ∈ AL := AL_in (List.mem_append_right _ (List.mem_of_getElem? (i := 860) (by decide +kernel))) (by decide +kernel)
theorem lk_M_135 : Lk "SuggestDeskModel" 135 y_M_placeOf := Or.inl wl_M_135
theorem wc_M_placeOf : Cond.code y_M_placeOf b_M_placeOf 4 (some .int) ∈ AL := AL_in (List.mem_append_right _ (List.mem_of_getElem? (i := 863) (by decide +kernel))) (by decide +kernel)
theorem mw_M_placeOf : Mw y_M_placeOf b_M_placeOf 4 (some .int) 1 := ⟨wc_M_placeOf, wi_M, by decide, by decide, by decide +kernel⟩
theorem wn_M_placeOf : Cond.instanceMethod y_M_placeOf ∈ AL := AL_in (List.mem_append_right _ (List.mem_of_getElem? (i := 862) (by decide +kernel))) (by decide +kernel)
theorem wx_M_placeOf : Cond.selects "SuggestDeskModel" y_M_placeOf y_M_placeOf ∈ AL := AL_in (List.mem_append_left _ (List.mem_of_getElem? (i := 18) (by decide +kernel))) (by decide +kernel)
theorem sv_M_placeOf : Cond.instanceMethod y_M_placeOf ∈ AL ∧ Cond.selects y_M_placeOf.cls y_M_placeOf y_M_placeOf ∈ AL := ⟨wn_M_placeOf, wx_M_placeOf⟩
theorem wf_M_139 : Cond.fieldLink "SuggestDeskModel" 139 (T_M 13).1 (T_M 13).2.1 (T_M 13).2.2.1 ∈ AL := AL_in (List.mem_append_right _ (List.mem_of_getElem? (i := 717) (by decide +kernel))) (by decide +kernel)
theorem fl_M_139 : Fl "SuggestDeskModel" 139 8 13 "SuggestDeskModel" T_M 35 := ⟨rfl, by decide, la_M, Or.inl wf_M_139⟩
theorem wl_M_142 : Cond.methodLink "SuggestDeskModel" 142 y_M_common ∈ AL := AL_in (List.mem_append_right _ (List.mem_of_getElem? (i := 872) (by decide +kernel))) (by decide +kernel)
theorem lk_M_142 : Lk "SuggestDeskModel" 142 y_M_common := Or.inl wl_M_142
theorem wc_M_common : Cond.code y_M_common b_M_common 5 (some .int) ∈ AL := AL_in (List.mem_append_right _ (List.mem_of_getElem? (i := 874) (by decide +kernel))) (by decide +kernel)
theorem mw_M_common : Mw y_M_common b_M_common 5 (some .int) 2 := ⟨wc_M_common, wi_M, by decide, by decide, by decide +kernel⟩
theorem ws_M_common : Cond.static y_M_common ∈ AL := AL_in (List.mem_append_right _ (List.mem_of_getElem? (i := 873) (by decide +kernel))) (by decide +kernel)
theorem wk_M_146 : Cond.constantLong "SuggestDeskModel" 146 (31 : Int64) ∈ AL := AL_in (List.mem_append_right _ (List.mem_of_getElem? (i := 879) (by decide +kernel))) (by decide +kernel)
theorem wk_M_148 : Cond.constantLong "SuggestDeskModel" 148 (131 : Int64) ∈ AL := AL_in (List.mem_append_right _ (List.mem_of_getElem? (i := 880) (by decide +kernel))) (by decide +kernel)
theorem wl_M_150 : Cond.methodLink "SuggestDeskModel" 150 y_M_begin ∈ AL := AL_in (List.mem_append_right _ (List.mem_of_getElem? (i := 875) (by decide +kernel))) (by decide +kernel)
theorem lk_M_150 : Lk "SuggestDeskModel" 150 y_M_begin := Or.inl wl_M_150
theorem wc_M_begin : Cond.code y_M_begin b_M_begin 9 none ∈ AL := AL_in (List.mem_append_right _ (List.mem_of_getElem? (i := 878) (by decide +kernel))) (by decide +kernel)
theorem mw_M_begin : Mw y_M_begin b_M_begin 9 none 3 := ⟨wc_M_begin, wi_M, by decide, by decide, by decide +kernel⟩
theorem wn_M_begin : Cond.instanceMethod y_M_begin ∈ AL := AL_in (List.mem_append_right _ (List.mem_of_getElem? (i := 877) (by decide +kernel))) (by decide +kernel)
theorem wx_M_begin : Cond.selects "SuggestDeskModel" y_M_begin y_M_begin ∈ AL := AL_in (List.mem_append_left _ (List.mem_of_getElem? (i := 20) (by decide +kernel))) (by decide +kernel)
theorem sv_M_begin : Cond.instanceMethod y_M_begin ∈ AL ∧ Cond.selects y_M_begin.cls y_M_begin y_M_begin ∈ AL := ⟨wn_M_begin, wx_M_begin⟩
theorem wl_M_154 : Cond.methodLink "SuggestDeskModel" 154 y_M_same ∈ AL := AL_in (List.mem_append_right _ (List.mem_of_getElem? (i := 881) (by decide +kernel))) (by decide +kernel)
theorem lk_M_154 : Lk "SuggestDeskModel" 154 y_M_same := Or.inl wl_M_154
theorem wc_M_same : Cond.code y_M_same b_M_same 11 (some .boolean) ∈ AL := AL_in (List.mem_append_right _ (List.mem_of_getElem? (i := 884) (by decide +kernel))) (by decide +kernel)
theorem mw_M_same : Mw y_M_same b_M_same 11 (some .boolean) 3 := ⟨wc_M_same, wi_M, by decide, by decide, by decide +kernel⟩
theorem wn_M_same : Cond.instanceMethod y_M_same ∈ AL := AL_in (List.mem_append_right _ (List.mem_of_getElem? (i := 883) (by decide +kernel))) (by decide +kernel)
theorem wx_M_same : Cond.selects "SuggestDeskModel" y_M_same y_M_same ∈ AL := AL_in (List.mem_append_left _ (List.mem_of_getElem? (i := 21) (by decide +kernel))) (by decide +kernel)
theorem sv_M_same : Cond.instanceMethod y_M_same ∈ AL ∧ Cond.selects y_M_same.cls y_M_same y_M_same ∈ AL := ⟨wn_M_same, wx_M_same⟩
theorem wl_M_158 : Cond.methodLink "SuggestDeskModel" 158 y_M_followers ∈ AL := AL_in (List.mem_append_right _ (List.mem_of_getElem? (i := 885) (by decide +kernel))) (by decide +kernel)
theorem lk_M_158 : Lk "SuggestDeskModel" 158 y_M_followers := Or.inl wl_M_158
theorem wc_M_followers : Cond.code y_M_followers b_M_followers 7 (some .int) ∈ AL := AL_in (List.mem_append_right _ (List.mem_of_getElem? (i := 888) (by decide +kernel))) (by decide +kernel)
theorem mw_M_followers : Mw y_M_followers b_M_followers 7 (some .int) 2 := ⟨wc_M_followers, wi_M, by decide, by decide, by decide +kernel⟩
theorem wn_M_followers : Cond.instanceMethod y_M_followers ∈ AL := AL_in (List.mem_append_right _ (List.mem_of_getElem? (i := 887) (by decide +kernel))) (by decide +kernel)
theorem wx_M_followers : Cond.selects "SuggestDeskModel" y_M_followers y_M_followers ∈ AL := AL_in (List.mem_append_left _ (List.mem_of_getElem? (i := 22) (by decide +kernel))) (by decide +kernel)
theorem sv_M_followers : Cond.instanceMethod y_M_followers ∈ AL ∧ Cond.selects y_M_followers.cls y_M_followers y_M_followers ∈ AL := ⟨wn_M_followers, wx_M_followers⟩
theorem wl_M_162 : Cond.methodLink "SuggestDeskModel" 162 y_M_count ∈ AL := AL_in (List.mem_append_right _ (List.mem_of_getElem? (i := 868) (by decide +kernel))) (by decide +kernel)
theorem lk_M_162 : Lk "SuggestDeskModel" 162 y_M_count := Or.inl wl_M_162
theorem wc_M_count : Cond.code y_M_count b_M_count 5 none ∈ AL := AL_in (List.mem_append_right _ (List.mem_of_getElem? (i := 871) (by decide +kernel))) (by decide +kernel)
theorem mw_M_count : Mw y_M_count b_M_count 5 none 1 := ⟨wc_M_count, wi_M, by decide, by decide, by decide +kernel⟩
theorem wn_M_count : Cond.instanceMethod y_M_count ∈ AL := AL_in (List.mem_append_right _ (List.mem_of_getElem? (i := 870) (by decide +kernel))) (by decide +kernel)
theorem wx_M_count : Cond.selects "SuggestDeskModel" y_M_count y_M_count ∈ AL := AL_in (List.mem_append_left _ (List.mem_of_getElem? (i := 19) (by decide +kernel))) (by decide +kernel)
theorem sv_M_count : Cond.instanceMethod y_M_count ∈ AL ∧ Cond.selects y_M_count.cls y_M_count y_M_count ∈ AL := ⟨wn_M_count, wx_M_count⟩
theorem wf_M_166 : Cond.fieldLink "SuggestDeskModel" 166 (T_M 19).1 (T_M 19).2.1 (T_M 19).2.2.1 ∈ AL := AL_in (List.mem_append_right _ (List.mem_of_getElem? (i := 723) (by decide +kernel))) (by decide +kernel)
theorem fl_M_166 : Fl "SuggestDeskModel" 166 8 19 "SuggestDeskModel" T_M 35 := ⟨rfl, by decide, la_M, Or.inl wf_M_166⟩
theorem wl_M_169 : Cond.methodLink "SuggestDeskModel" 169 y_M_give ∈ AL := AL_in (List.mem_append_right _ (List.mem_of_getElem? (i := 897) (by decide +kernel))) (by decide +kernel)
theorem lk_M_169 : Lk "SuggestDeskModel" 169 y_M_give := Or.inl wl_M_169
theorem wc_M_give : Cond.code y_M_give b_M_give 5 none ∈ AL := AL_in (List.mem_append_right _ (List.mem_of_getElem? (i := 900) (by decide +kernel))) (by decide +kernel)
theorem mw_M_give : Mw y_M_give b_M_give 5 none 2 := ⟨wc_M_give, wi_M, by decide, by decide, by decide +kernel⟩
theorem wn_M_give : Cond.instanceMethod y_M_give ∈ AL := AL_in (List.mem_append_right _ (List.mem_of_getElem? (i := 899) (by decide +kernel))) (by decide +kernel)
theorem wx_M_give : Cond.selects "SuggestDeskModel" y_M_give y_M_give ∈ AL := AL_in (List.mem_append_left _ (List.mem_of_getElem? (i := 23) (by decide +kernel))) (by decide +kernel)
theorem sv_M_give : Cond.instanceMethod y_M_give ∈ AL ∧ Cond.selects y_M_give.cls y_M_give y_M_give ∈ AL := ⟨wn_M_give, wx_M_give⟩
theorem wl_M_173 : Cond.methodLink "SuggestDeskModel" 173 y_M_lesser ∈ AL := AL_in (List.mem_append_right _ (List.mem_of_getElem? (i := 909) (by decide +kernel))) (by decide +kernel)
theorem lk_M_173 : Lk "SuggestDeskModel" 173 y_M_lesser := Or.inl wl_M_173
theorem wc_M_lesser : Cond.code y_M_lesser b_M_lesser 2 (some .int) ∈ AL := AL_in (List.mem_append_right _ (List.mem_of_getElem? (i := 911) (by decide +kernel))) (by decide +kernel)
theorem mw_M_lesser : Mw y_M_lesser b_M_lesser 2 (some .int) 2 := ⟨wc_M_lesser, wi_M, by decide, by decide, by decide +kernel⟩
theorem ws_M_lesser : Cond.static y_M_lesser ∈ AL := AL_in (List.mem_append_right _ (List.mem_of_getElem? (i := 910) (by decide +kernel))) (by decide +kernel)
theorem wl_M_176 : Cond.methodLink "SuggestDeskModel" 176 y_M_distanceOf ∈ AL := AL_in (List.mem_append_right _ (List.mem_of_getElem? (i := 905) (by decide +kernel))) (by decide +kernel)
theorem lk_M_176 : Lk "SuggestDeskModel" 176 y_M_distanceOf := Or.inl wl_M_176
theorem wc_M_distanceOf : Cond.code y_M_distanceOf b_M_distanceOf 11 (some .int) ∈ AL := AL_in (List.mem_append_right _ (List.mem_of_getElem? (i := 908) (by decide +kernel))) (by decide +kernel)
theorem mw_M_distanceOf : Mw y_M_distanceOf b_M_distanceOf 11 (some .int) 2 := ⟨wc_M_distanceOf, wi_M, by decide, by decide, by decide +kernel⟩
theorem wn_M_distanceOf : Cond.instanceMethod y_M_distanceOf ∈ AL := AL_in (List.mem_append_right _ (List.mem_of_getElem? (i := 907) (by decide +kernel))) (by decide +kernel)
theorem wx_M_distanceOf : Cond.selects "SuggestDeskModel" y_M_distanceOf y_M_distanceOf ∈ AL := AL_in (List.mem_append_left _ (List.mem_of_getElem? (i := 24) (by decide +kernel))) (by decide +kernel)
theorem sv_M_distanceOf : Cond.instanceMethod y_M_distanceOf ∈ AL ∧ Cond.selects y_M_distanceOf.cls y_M_distanceOf y_M_distanceOf ∈ AL := ⟨wn_M_distanceOf, wx_M_distanceOf⟩
theorem wf_M_179 : Cond.fieldLink "SuggestDeskModel" 179 (T_M 23).1 (T_M 23).2.1 (T_M 23).2.2.1 ∈ AL := AL_in (List.mem_append_right _ (List.mem_of_getElem? (i := 727) (by decide +kernel))) (by decide +kernel)
theorem fl_M_179 : Fl "SuggestDeskModel" 179 8 23 "SuggestDeskModel" T_M 35 := ⟨rfl, by decide, la_M, Or.inl wf_M_179⟩
theorem wl_M_182 : Cond.methodLink "SuggestDeskModel" 182 y_M_pairOf ∈ AL := AL_in (List.mem_append_right _ (List.mem_of_getElem? (i := 924) (by decide +kernel))) (by decide +kernel)
theorem lk_M_182 : Lk "SuggestDeskModel" 182 y_M_pairOf := Or.inl wl_M_182
theorem wc_M_pairOf : Cond.code y_M_pairOf b_M_pairOf 6 (some .int) ∈ AL := AL_in (List.mem_append_right _ (List.mem_of_getElem? (i := 927) (by decide +kernel))) (by decide +kernel)
theorem mw_M_pairOf : Mw y_M_pairOf b_M_pairOf 6 (some .int) 2 := ⟨wc_M_pairOf, wi_M, by decide, by decide, by decide +kernel⟩
theorem wn_M_pairOf : Cond.instanceMethod y_M_pairOf ∈ AL := AL_in (List.mem_append_right _ (List.mem_of_getElem? (i := 926) (by decide +kernel))) (by decide +kernel)
theorem wx_M_pairOf : Cond.selects "SuggestDeskModel" y_M_pairOf y_M_pairOf ∈ AL := AL_in (List.mem_append_left _ (List.mem_of_getElem? (i := 25) (by decide +kernel))) (by decide +kernel)
theorem sv_M_pairOf : Cond.instanceMethod y_M_pairOf ∈ AL ∧ Cond.selects y_M_pairOf.cls y_M_pairOf y_M_pairOf ∈ AL := ⟨wn_M_pairOf, wx_M_pairOf⟩
theorem wf_M_185 : Cond.fieldLink "SuggestDeskModel" 185 (T_M 27).1 (T_M 27).2.1 (T_M 27).2.2.1 ∈ AL := AL_in (List.mem_append_right _ (List.mem_of_getElem? (i := 731) (by decide +kernel))) (by decide +kernel)
theorem fl_M_185 : Fl "SuggestDeskModel" 185 8 27 "SuggestDeskModel" T_M 35 := ⟨rfl, by decide, la_M, Or.inl wf_M_185⟩
theorem wl_M_188 : Cond.methodLink "SuggestDeskModel" 188 y_M_gather ∈ AL := AL_in (List.mem_append_right _ (List.mem_of_getElem? (i := 936) (by decide +kernel))) (by decide +kernel)
theorem lk_M_188 : Lk "SuggestDeskModel" 188 y_M_gather := Or.inl wl_M_188
theorem wc_M_gather : Cond.code y_M_gather b_M_gather 5 none ∈ AL := AL_in (List.mem_append_right _ (List.mem_of_getElem? (i := 939) (by decide +kernel))) (by decide +kernel)
theorem mw_M_gather : Mw y_M_gather b_M_gather 5 none 2 := ⟨wc_M_gather, wi_M, by decide, by decide, by decide +kernel⟩
theorem wn_M_gather : Cond.instanceMethod y_M_gather ∈ AL := AL_in (List.mem_append_right _ (List.mem_of_getElem? (i := 938) (by decide +kernel))) (by decide +kernel)
theorem wx_M_gather : Cond.selects "SuggestDeskModel" y_M_gather y_M_gather ∈ AL := AL_in (List.mem_append_left _ (List.mem_of_getElem? (i := 26) (by decide +kernel))) (by decide +kernel)
theorem sv_M_gather : Cond.instanceMethod y_M_gather ∈ AL ∧ Cond.selects y_M_gather.cls y_M_gather y_M_gather ∈ AL := ⟨wn_M_gather, wx_M_gather⟩
theorem wk_M_191 : Cond.constant "SuggestDeskModel" 191 (1000000 : Int32) ∈ AL := AL_in (List.mem_append_right _ (List.mem_of_getElem? (i := 940) (by decide +kernel))) (by decide +kernel)
theorem wl_M_192 : Cond.methodLink "SuggestDeskModel" 192 y_M_costOf ∈ AL := AL_in (List.mem_append_right _ (List.mem_of_getElem? (i := 941) (by decide +kernel))) (by decide +kernel)
theorem lk_M_192 : Lk "SuggestDeskModel" 192 y_M_costOf := Or.inl wl_M_192
theorem wc_M_costOf : Cond.code y_M_costOf b_M_costOf 6 (some .int) ∈ AL := AL_in (List.mem_append_right _ (List.mem_of_getElem? (i := 944) (by decide +kernel))) (by decide +kernel)
theorem mw_M_costOf : Mw y_M_costOf b_M_costOf 6 (some .int) 1 := ⟨wc_M_costOf, wi_M, by decide, by decide, by decide +kernel⟩
theorem wn_M_costOf : Cond.instanceMethod y_M_costOf ∈ AL := AL_in (List.mem_append_right _ (List.mem_of_getElem? (i := 943) (by decide +kernel))) (by decide +kernel)
theorem wx_M_costOf : Cond.selects "SuggestDeskModel" y_M_costOf y_M_costOf ∈ AL := AL_in (List.mem_append_left _ (List.mem_of_getElem? (i := 27) (by decide +kernel))) (by decide +kernel)
theorem sv_M_costOf : Cond.instanceMethod y_M_costOf ∈ AL ∧ Cond.selects y_M_costOf.cls y_M_costOf y_M_costOf ∈ AL := ⟨wn_M_costOf, wx_M_costOf⟩
theorem wl_M_195 : Cond.methodLink "SuggestDeskModel" 195 y_M_next ∈ AL := AL_in (List.mem_append_right _ (List.mem_of_getElem? (i := 945) (by decide +kernel))) (by decide +kernel)
theorem lk_M_195 : Lk "SuggestDeskModel" 195 y_M_next := Or.inl wl_M_195
theorem wc_M_next : Cond.code y_M_next b_M_next 3 (some .boolean) ∈ AL := AL_in (List.mem_append_right _ (List.mem_of_getElem? (i := 948) (by decide +kernel))) (by decide +kernel)
theorem mw_M_next : Mw y_M_next b_M_next 3 (some .boolean) 1 := ⟨wc_M_next, wi_M, by decide, by decide, by decide +kernel⟩
theorem wn_M_next : Cond.instanceMethod y_M_next ∈ AL := AL_in (List.mem_append_right _ (List.mem_of_getElem? (i := 947) (by decide +kernel))) (by decide +kernel)
theorem wx_M_next : Cond.selects "SuggestDeskModel" y_M_next y_M_next ∈ AL := AL_in (List.mem_append_left _ (List.mem_of_getElem? (i := 28) (by decide +kernel))) (by decide +kernel)
theorem sv_M_next : Cond.instanceMethod y_M_next ∈ AL ∧ Cond.selects y_M_next.cls y_M_next y_M_next ∈ AL := ⟨wn_M_next, wx_M_next⟩
theorem wf_M_199 : Cond.fieldLink "SuggestDeskModel" 199 (T_M 29).1 (T_M 29).2.1 (T_M 29).2.2.1 ∈ AL := AL_in (List.mem_append_right _ (List.mem_of_getElem? (i := 733) (by decide +kernel))) (by decide +kernel)
theorem fl_M_199 : Fl "SuggestDeskModel" 199 8 29 "SuggestDeskModel" T_M 35 := ⟨rfl, by decide, la_M, Or.inl wf_M_199⟩
theorem wl_Automaton_31 : Cond.methodLink "SuggestDesk$Automaton" 31 y_WordList_size ∈ AL := AL_in (List.mem_append_right _ (List.mem_of_getElem? (i := 371) (by decide +kernel))) (by decide +kernel)
theorem lk_Automaton_31 : Lk "SuggestDesk$Automaton" 31 y_WordList_size := Or.inl wl_Automaton_31
theorem wc_WordList_size : Cond.code y_WordList_size b_WordList_size 1 (some .int) ∈ AL := AL_in (List.mem_append_right _ (List.mem_of_getElem? (i := 337) (by decide +kernel))) (by decide +kernel)
theorem mw_WordList_size : Mw y_WordList_size b_WordList_size 1 (some .int) 0 := ⟨wc_WordList_size, wi_WordList, by decide, by decide, by decide +kernel⟩
theorem wn_WordList_size : Cond.instanceMethod y_WordList_size ∈ AL := AL_in (List.mem_append_right _ (List.mem_of_getElem? (i := 335) (by decide +kernel))) (by decide +kernel)
theorem wx_WordList_size : Cond.selects "SuggestDesk$WordList" y_WordList_size y_WordList_size ∈ AL := AL_in (List.mem_append_right _ (List.mem_of_getElem? (i := 336) (by decide +kernel))) (by decide +kernel)
theorem sv_WordList_size : Cond.instanceMethod y_WordList_size ∈ AL ∧ Cond.selects y_WordList_size.cls y_WordList_size y_WordList_size ∈ AL := ⟨wn_WordList_size, wx_WordList_size⟩
theorem wl_Automaton_37 : Cond.methodLink "SuggestDesk$Automaton" 37 y_WordList_textAt ∈ AL := AL_in (List.mem_append_right _ (List.mem_of_getElem? (i := 372) (by decide +kernel))) (by decide +kernel)
theorem lk_Automaton_37 : Lk "SuggestDesk$Automaton" 37 y_WordList_textAt := Or.inl wl_Automaton_37
theorem wc_WordList_textAt : Cond.code y_WordList_textAt b_WordList_textAt 2 (some .long) ∈ AL := AL_in (List.mem_append_right _ (List.mem_of_getElem? (i := 375) (by decide +kernel))) (by decide +kernel)
theorem mw_WordList_textAt : Mw y_WordList_textAt b_WordList_textAt 2 (some .long) 1 := ⟨wc_WordList_textAt, wi_WordList, by decide, by decide, by decide +kernel⟩
theorem wn_WordList_textAt : Cond.instanceMethod y_WordList_textAt ∈ AL := AL_in (List.mem_append_right _ (List.mem_of_getElem? (i := 373) (by decide +kernel))) (by decide +kernel)
theorem wx_WordList_textAt : Cond.selects "SuggestDesk$WordList" y_WordList_textAt y_WordList_textAt ∈ AL := AL_in (List.mem_append_right _ (List.mem_of_getElem? (i := 374) (by decide +kernel))) (by decide +kernel)
theorem sv_WordList_textAt : Cond.instanceMethod y_WordList_textAt ∈ AL ∧ Cond.selects y_WordList_textAt.cls y_WordList_textAt y_WordList_textAt ∈ AL := ⟨wn_WordList_textAt, wx_WordList_textAt⟩
theorem wl_Automaton_41 : Cond.methodLink "SuggestDesk$Automaton" 41 y_Texts_sharedLetters ∈ AL := AL_in (List.mem_append_right _ (List.mem_of_getElem? (i := 376) (by decide +kernel))) (by decide +kernel)
theorem lk_Automaton_41 : Lk "SuggestDesk$Automaton" 41 y_Texts_sharedLetters := Or.inl wl_Automaton_41
theorem wc_Texts_sharedLetters : Cond.code y_Texts_sharedLetters b_Texts_sharedLetters 5 (some .int) ∈ AL := AL_in (List.mem_append_right _ (List.mem_of_getElem? (i := 378) (by decide +kernel))) (by decide +kernel)
theorem mw_Texts_sharedLetters : Mw y_Texts_sharedLetters b_Texts_sharedLetters 5 (some .int) 2 := ⟨wc_Texts_sharedLetters, wi_Texts, by decide, by decide, by decide +kernel⟩
theorem ws_Texts_sharedLetters : Cond.static y_Texts_sharedLetters ∈ AL := AL_in (List.mem_append_right _ (List.mem_of_getElem? (i := 377) (by decide +kernel))) (by decide +kernel)
theorem wl_Automaton_70 : Cond.methodLink "SuggestDesk$Automaton" 70 y_Texts_head ∈ AL := AL_in (List.mem_append_right _ (List.mem_of_getElem? (i := 389) (by decide +kernel))) (by decide +kernel)
theorem lk_Automaton_70 : Lk "SuggestDesk$Automaton" 70 y_Texts_head := Or.inl wl_Automaton_70
theorem wc_Texts_head : Cond.code y_Texts_head b_Texts_head 3 (some .long) ∈ AL := AL_in (List.mem_append_right _ (List.mem_of_getElem? (i := 391) (by decide +kernel))) (by decide +kernel)
theorem mw_Texts_head : Mw y_Texts_head b_Texts_head 3 (some .long) 2 := ⟨wc_Texts_head, wi_Texts, by decide, by decide, by decide +kernel⟩
theorem ws_Texts_head : Cond.static y_Texts_head ∈ AL := AL_in (List.mem_append_right _ (List.mem_of_getElem? (i := 390) (by decide +kernel))) (by decide +kernel)
theorem wl_Automaton_74 : Cond.methodLink "SuggestDesk$Automaton" 74 y_WordList_costAt ∈ AL := AL_in (List.mem_append_right _ (List.mem_of_getElem? (i := 396) (by decide +kernel))) (by decide +kernel)
theorem lk_Automaton_74 : Lk "SuggestDesk$Automaton" 74 y_WordList_costAt := Or.inl wl_Automaton_74
theorem wc_WordList_costAt : Cond.code y_WordList_costAt b_WordList_costAt 2 (some .int) ∈ AL := AL_in (List.mem_append_right _ (List.mem_of_getElem? (i := 399) (by decide +kernel))) (by decide +kernel)
theorem mw_WordList_costAt : Mw y_WordList_costAt b_WordList_costAt 2 (some .int) 1 := ⟨wc_WordList_costAt, wi_WordList, by decide, by decide, by decide +kernel⟩
theorem wn_WordList_costAt : Cond.instanceMethod y_WordList_costAt ∈ AL := AL_in (List.mem_append_right _ (List.mem_of_getElem? (i := 397) (by decide +kernel))) (by decide +kernel)
theorem wx_WordList_costAt : Cond.selects "SuggestDesk$WordList" y_WordList_costAt y_WordList_costAt ∈ AL := AL_in (List.mem_append_right _ (List.mem_of_getElem? (i := 398) (by decide +kernel))) (by decide +kernel)
theorem sv_WordList_costAt : Cond.instanceMethod y_WordList_costAt ∈ AL ∧ Cond.selects y_WordList_costAt.cls y_WordList_costAt y_WordList_costAt ∈ AL := ⟨wn_WordList_costAt, wx_WordList_costAt⟩
theorem wl_Automaton_78 : Cond.methodLink "SuggestDesk$Automaton" 78 Lib.Math.min.name ∈ AL := AL_in (List.mem_append_right _ (List.mem_of_getElem? (i := 400) (by decide +kernel))) (by decide +kernel)
theorem wl_Automaton_95 : Cond.methodLink "SuggestDesk$Automaton" 95 y_Texts_tail ∈ AL := AL_in (List.mem_append_right _ (List.mem_of_getElem? (i := 411) (by decide +kernel))) (by decide +kernel)
theorem lk_Automaton_95 : Lk "SuggestDesk$Automaton" 95 y_Texts_tail := Or.inl wl_Automaton_95
theorem wc_Texts_tail : Cond.code y_Texts_tail b_Texts_tail 3 (some .long) ∈ AL := AL_in (List.mem_append_right _ (List.mem_of_getElem? (i := 413) (by decide +kernel))) (by decide +kernel)
theorem mw_Texts_tail : Mw y_Texts_tail b_Texts_tail 3 (some .long) 2 := ⟨wc_Texts_tail, wi_Texts, by decide, by decide, by decide +kernel⟩
theorem ws_Texts_tail : Cond.static y_Texts_tail ∈ AL := AL_in (List.mem_append_right _ (List.mem_of_getElem? (i := 412) (by decide +kernel))) (by decide +kernel)
theorem wl_S_9 : Cond.methodLinkNest "SuggestDesk" 9 y_WordList_init "SuggestDesk" ∈ NWs := NW_in (List.mem_append_right _ (List.mem_of_getElem? (i := 29) (by decide +kernel))) (by decide +kernel)
theorem lk_S_9 : Lk "SuggestDesk" 9 y_WordList_init := Or.inr ⟨_, wl_S_9⟩
theorem wc_WordList_init : Cond.code y_WordList_init b_WordList_init 1 none ∈ AL := AL_in (List.mem_append_right _ (List.mem_of_getElem? (i := 31) (by decide +kernel))) (by decide +kernel)
theorem mw_WordList_init : Mw y_WordList_init b_WordList_init 1 none 0 := ⟨wc_WordList_init, wi_WordList, by decide, by decide, by decide +kernel⟩
theorem wn_WordList_init : Cond.instanceMethod y_WordList_init ∈ AL := AL_in (List.mem_append_right _ (List.mem_of_getElem? (i := 30) (by decide +kernel))) (by decide +kernel)
theorem ff_S_10 : vwCl[7]? = some ("SuggestDesk", T_S, 8) ∧ 0 < 8 ∧ (∀ w ∈ u_ws "SuggestDesk" T_S 8, w ∈ AL) ∧ Cond.fieldLink "SuggestDesk" 10 (T_S 0).1 (T_S 0).2.1 (T_S 0).2.2.1 ∈ AL := ⟨rfl, by decide, la_S, wf_S_10⟩
theorem wq_S_16 : Cond.classLink "SuggestDesk" 16 "SuggestDesk$Dictionary" ∈ AL := AL_in (List.mem_append_right _ (List.mem_of_getElem? (i := 45) (by decide +kernel))) (by decide +kernel)
theorem wao_D : Cond.arrayOver (.object "SuggestDesk$Dictionary") ∈ NWs := NW_in (List.mem_append_right _ (List.mem_of_getElem? (i := 46) (by decide +kernel))) (by decide +kernel)
theorem ff_S_18 : vwCl[7]? = some ("SuggestDesk", T_S, 8) ∧ 1 < 8 ∧ (∀ w ∈ u_ws "SuggestDesk" T_S 8, w ∈ AL) ∧ Cond.fieldLink "SuggestDesk" 18 (T_S 1).1 (T_S 1).2.1 (T_S 1).2.2.1 ∈ AL := ⟨rfl, by decide, la_S, wf_S_18⟩
theorem wt_Dictionary : Cond.instantiable "SuggestDesk$Dictionary" 5 ∈ AL := AL_in (List.mem_append_right _ (List.mem_of_getElem? (i := 47) (by decide +kernel))) (by decide +kernel)
theorem wi_Dictionary : Cond.initialized "SuggestDesk$Dictionary" ∈ AL := AL_in (List.mem_append_right _ (List.mem_of_getElem? (i := 3) (by decide +kernel))) (by decide +kernel)
theorem nw_S_16 : Nw "SuggestDesk" 16 1 "SuggestDesk$Dictionary" T_Dictionary 5 := ⟨rfl, la_Dictionary, wq_S_16, wt_Dictionary, wi_Dictionary⟩
theorem wl_S_90 : Cond.methodLink "SuggestDesk" 90 y_WordList_size ∈ AL := AL_in (List.mem_append_right _ (List.mem_of_getElem? (i := 334) (by decide +kernel))) (by decide +kernel)
theorem lk_S_90 : Lk "SuggestDesk" 90 y_WordList_size := Or.inl wl_S_90
theorem wl_S_168 : Cond.methodLink "SuggestDesk" 168 y_Suggestions_startAnew ∈ AL := AL_in (List.mem_append_right _ (List.mem_of_getElem? (i := 522) (by decide +kernel))) (by decide +kernel)
theorem lk_S_168 : Lk "SuggestDesk" 168 y_Suggestions_startAnew := Or.inl wl_S_168
theorem wc_Suggestions_startAnew : Cond.code y_Suggestions_startAnew b_Suggestions_startAnew 2 none ∈ AL := AL_in (List.mem_append_right _ (List.mem_of_getElem? (i := 525) (by decide +kernel))) (by decide +kernel)
theorem wi_Suggestions : Cond.initialized "SuggestDesk$Suggestions" ∈ AL := AL_in (List.mem_append_right _ (List.mem_of_getElem? (i := 6) (by decide +kernel))) (by decide +kernel)
theorem mw_Suggestions_startAnew : Mw y_Suggestions_startAnew b_Suggestions_startAnew 2 none 1 := ⟨wc_Suggestions_startAnew, wi_Suggestions, by decide, by decide, by decide +kernel⟩
theorem wn_Suggestions_startAnew : Cond.instanceMethod y_Suggestions_startAnew ∈ AL := AL_in (List.mem_append_right _ (List.mem_of_getElem? (i := 523) (by decide +kernel))) (by decide +kernel)
theorem wx_Suggestions_startAnew : Cond.selects "SuggestDesk$Suggestions" y_Suggestions_startAnew y_Suggestions_startAnew ∈ AL := AL_in (List.mem_append_right _ (List.mem_of_getElem? (i := 524) (by decide +kernel))) (by decide +kernel)
theorem sv_Suggestions_startAnew : Cond.instanceMethod y_Suggestions_startAnew ∈ AL ∧ Cond.selects y_Suggestions_startAnew.cls y_Suggestions_startAnew y_Suggestions_startAnew ∈ AL := ⟨wn_Suggestions_startAnew, wx_Suggestions_startAnew⟩
theorem wl_S_172 : Cond.methodLink "SuggestDesk" 172 y_Texts_isBeginning ∈ AL := AL_in (List.mem_append_right _ (List.mem_of_getElem? (i := 527) (by decide +kernel))) (by decide +kernel)
theorem lk_S_172 : Lk "SuggestDesk" 172 y_Texts_isBeginning := Or.inl wl_S_172
theorem wc_Texts_isBeginning : Cond.code y_Texts_isBeginning b_Texts_isBeginning 7 (some .boolean) ∈ AL := AL_in (List.mem_append_right _ (List.mem_of_getElem? (i := 213) (by decide +kernel))) (by decide +kernel)
theorem mw_Texts_isBeginning : Mw y_Texts_isBeginning b_Texts_isBeginning 7 (some .boolean) 1 := ⟨wc_Texts_isBeginning, wi_Texts, by decide, by decide, by decide +kernel⟩
theorem ws_Texts_isBeginning : Cond.static y_Texts_isBeginning ∈ AL := AL_in (List.mem_append_right _ (List.mem_of_getElem? (i := 212) (by decide +kernel))) (by decide +kernel)
theorem wl_S_183 : Cond.methodLink "SuggestDesk" 183 y_Suggestions_size ∈ AL := AL_in (List.mem_append_right _ (List.mem_of_getElem? (i := 543) (by decide +kernel))) (by decide +kernel)
theorem lk_S_183 : Lk "SuggestDesk" 183 y_Suggestions_size := Or.inl wl_S_183
theorem wc_Suggestions_size : Cond.code y_Suggestions_size b_Suggestions_size 1 (some .int) ∈ AL := AL_in (List.mem_append_right _ (List.mem_of_getElem? (i := 546) (by decide +kernel))) (by decide +kernel)
theorem mw_Suggestions_size : Mw y_Suggestions_size b_Suggestions_size 1 (some .int) 0 := ⟨wc_Suggestions_size, wi_Suggestions, by decide, by decide, by decide +kernel⟩
theorem wn_Suggestions_size : Cond.instanceMethod y_Suggestions_size ∈ AL := AL_in (List.mem_append_right _ (List.mem_of_getElem? (i := 544) (by decide +kernel))) (by decide +kernel)
theorem wx_Suggestions_size : Cond.selects "SuggestDesk$Suggestions" y_Suggestions_size y_Suggestions_size ∈ AL := AL_in (List.mem_append_right _ (List.mem_of_getElem? (i := 545) (by decide +kernel))) (by decide +kernel)
theorem sv_Suggestions_size : Cond.instanceMethod y_Suggestions_size ∈ AL ∧ Cond.selects y_Suggestions_size.cls y_Suggestions_size y_Suggestions_size ∈ AL := ⟨wn_Suggestions_size, wx_Suggestions_size⟩
theorem wl_S_195 : Cond.methodLink "SuggestDesk" 195 y_Suggestions_textAt ∈ AL := AL_in (List.mem_append_right _ (List.mem_of_getElem? (i := 594) (by decide +kernel))) (by decide +kernel)
theorem lk_S_195 : Lk "SuggestDesk" 195 y_Suggestions_textAt := Or.inl wl_S_195
theorem wc_Suggestions_textAt : Cond.code y_Suggestions_textAt b_Suggestions_textAt 2 (some .long) ∈ AL := AL_in (List.mem_append_right _ (List.mem_of_getElem? (i := 597) (by decide +kernel))) (by decide +kernel)
theorem mw_Suggestions_textAt : Mw y_Suggestions_textAt b_Suggestions_textAt 2 (some .long) 1 := ⟨wc_Suggestions_textAt, wi_Suggestions, by decide, by decide, by decide +kernel⟩
theorem wn_Suggestions_textAt : Cond.instanceMethod y_Suggestions_textAt ∈ AL := AL_in (List.mem_append_right _ (List.mem_of_getElem? (i := 595) (by decide +kernel))) (by decide +kernel)
theorem wx_Suggestions_textAt : Cond.selects "SuggestDesk$Suggestions" y_Suggestions_textAt y_Suggestions_textAt ∈ AL := AL_in (List.mem_append_right _ (List.mem_of_getElem? (i := 596) (by decide +kernel))) (by decide +kernel)
theorem sv_Suggestions_textAt : Cond.instanceMethod y_Suggestions_textAt ∈ AL ∧ Cond.selects y_Suggestions_textAt.cls y_Suggestions_textAt y_Suggestions_textAt ∈ AL := ⟨wn_Suggestions_textAt, wx_Suggestions_textAt⟩
theorem wl_S_199 : Cond.methodLink "SuggestDesk" 199 y_Texts_toNumber ∈ AL := AL_in (List.mem_append_right _ (List.mem_of_getElem? (i := 598) (by decide +kernel))) (by decide +kernel)
theorem lk_S_199 : Lk "SuggestDesk" 199 y_Texts_toNumber := Or.inl wl_S_199
theorem wc_Texts_toNumber : Cond.code y_Texts_toNumber b_Texts_toNumber 5 (some .long) ∈ AL := AL_in (List.mem_append_right _ (List.mem_of_getElem? (i := 600) (by decide +kernel))) (by decide +kernel)
theorem mw_Texts_toNumber : Mw y_Texts_toNumber b_Texts_toNumber 5 (some .long) 1 := ⟨wc_Texts_toNumber, wi_Texts, by decide, by decide, by decide +kernel⟩
theorem ws_Texts_toNumber : Cond.static y_Texts_toNumber ∈ AL := AL_in (List.mem_append_right _ (List.mem_of_getElem? (i := 599) (by decide +kernel))) (by decide +kernel)
theorem wl_S_223 : Cond.methodLink "SuggestDesk" 223 y_Phrase_chosenSize ∈ AL := AL_in (List.mem_append_right _ (List.mem_of_getElem? (i := 689) (by decide +kernel))) (by decide +kernel)
theorem lk_S_223 : Lk "SuggestDesk" 223 y_Phrase_chosenSize := Or.inl wl_S_223
theorem wc_Phrase_chosenSize : Cond.code y_Phrase_chosenSize b_Phrase_chosenSize 1 (some .int) ∈ AL := AL_in (List.mem_append_right _ (List.mem_of_getElem? (i := 692) (by decide +kernel))) (by decide +kernel)
theorem wi_Phrase : Cond.initialized "SuggestDesk$Phrase" ∈ AL := AL_in (List.mem_append_right _ (List.mem_of_getElem? (i := 8) (by decide +kernel))) (by decide +kernel)
theorem mw_Phrase_chosenSize : Mw y_Phrase_chosenSize b_Phrase_chosenSize 1 (some .int) 0 := ⟨wc_Phrase_chosenSize, wi_Phrase, by decide, by decide, by decide +kernel⟩
theorem wn_Phrase_chosenSize : Cond.instanceMethod y_Phrase_chosenSize ∈ AL := AL_in (List.mem_append_right _ (List.mem_of_getElem? (i := 690) (by decide +kernel))) (by decide +kernel)
theorem wx_Phrase_chosenSize : Cond.selects "SuggestDesk$Phrase" y_Phrase_chosenSize y_Phrase_chosenSize ∈ AL := AL_in (List.mem_append_right _ (List.mem_of_getElem? (i := 691) (by decide +kernel))) (by decide +kernel)
theorem sv_Phrase_chosenSize : Cond.instanceMethod y_Phrase_chosenSize ∈ AL ∧ Cond.selects y_Phrase_chosenSize.cls y_Phrase_chosenSize y_Phrase_chosenSize ∈ AL := ⟨wn_Phrase_chosenSize, wx_Phrase_chosenSize⟩
theorem wl_S_228 : Cond.methodLink "SuggestDesk" 228 y_Phrase_chosenAt ∈ AL := AL_in (List.mem_append_right _ (List.mem_of_getElem? (i := 694) (by decide +kernel))) (by decide +kernel)
theorem lk_S_228 : Lk "SuggestDesk" 228 y_Phrase_chosenAt := Or.inl wl_S_228
theorem wc_Phrase_chosenAt : Cond.code y_Phrase_chosenAt b_Phrase_chosenAt 2 (some .long) ∈ AL := AL_in (List.mem_append_right _ (List.mem_of_getElem? (i := 697) (by decide +kernel))) (by decide +kernel)
theorem mw_Phrase_chosenAt : Mw y_Phrase_chosenAt b_Phrase_chosenAt 2 (some .long) 1 := ⟨wc_Phrase_chosenAt, wi_Phrase, by decide, by decide, by decide +kernel⟩
theorem wn_Phrase_chosenAt : Cond.instanceMethod y_Phrase_chosenAt ∈ AL := AL_in (List.mem_append_right _ (List.mem_of_getElem? (i := 695) (by decide +kernel))) (by decide +kernel)
theorem wx_Phrase_chosenAt : Cond.selects "SuggestDesk$Phrase" y_Phrase_chosenAt y_Phrase_chosenAt ∈ AL := AL_in (List.mem_append_right _ (List.mem_of_getElem? (i := 696) (by decide +kernel))) (by decide +kernel)
theorem sv_Phrase_chosenAt : Cond.instanceMethod y_Phrase_chosenAt ∈ AL ∧ Cond.selects y_Phrase_chosenAt.cls y_Phrase_chosenAt y_Phrase_chosenAt ∈ AL := ⟨wn_Phrase_chosenAt, wx_Phrase_chosenAt⟩
theorem wl_S_141 : Cond.methodLink "SuggestDesk" 141 y_Dictionary_isThere ∈ AL := AL_in (List.mem_append_right _ (List.mem_of_getElem? (i := 354) (by decide +kernel))) (by decide +kernel)
theorem lk_S_141 : Lk "SuggestDesk" 141 y_Dictionary_isThere := Or.inl wl_S_141
theorem wc_Dictionary_isThere : Cond.code y_Dictionary_isThere b_Dictionary_isThere 1 (some .boolean) ∈ AL := AL_in (List.mem_append_right _ (List.mem_of_getElem? (i := 357) (by decide +kernel))) (by decide +kernel)
theorem mw_Dictionary_isThere : Mw y_Dictionary_isThere b_Dictionary_isThere 1 (some .boolean) 0 := ⟨wc_Dictionary_isThere, wi_Dictionary, by decide, by decide, by decide +kernel⟩
theorem wn_Dictionary_isThere : Cond.instanceMethod y_Dictionary_isThere ∈ AL := AL_in (List.mem_append_right _ (List.mem_of_getElem? (i := 355) (by decide +kernel))) (by decide +kernel)
theorem wx_Dictionary_isThere : Cond.selects "SuggestDesk$Dictionary" y_Dictionary_isThere y_Dictionary_isThere ∈ AL := AL_in (List.mem_append_right _ (List.mem_of_getElem? (i := 356) (by decide +kernel))) (by decide +kernel)
theorem sv_Dictionary_isThere : Cond.instanceMethod y_Dictionary_isThere ∈ AL ∧ Cond.selects y_Dictionary_isThere.cls y_Dictionary_isThere y_Dictionary_isThere ∈ AL := ⟨wn_Dictionary_isThere, wx_Dictionary_isThere⟩
theorem wl_S_231 : Cond.methodLink "SuggestDesk" 231 y_Dictionary_number ∈ AL := AL_in (List.mem_append_right _ (List.mem_of_getElem? (i := 358) (by decide +kernel))) (by decide +kernel)
theorem lk_S_231 : Lk "SuggestDesk" 231 y_Dictionary_number := Or.inl wl_S_231
theorem wc_Dictionary_number : Cond.code y_Dictionary_number b_Dictionary_number 1 (some .int) ∈ AL := AL_in (List.mem_append_right _ (List.mem_of_getElem? (i := 361) (by decide +kernel))) (by decide +kernel)
theorem mw_Dictionary_number : Mw y_Dictionary_number b_Dictionary_number 1 (some .int) 0 := ⟨wc_Dictionary_number, wi_Dictionary, by decide, by decide, by decide +kernel⟩
theorem wn_Dictionary_number : Cond.instanceMethod y_Dictionary_number ∈ AL := AL_in (List.mem_append_right _ (List.mem_of_getElem? (i := 359) (by decide +kernel))) (by decide +kernel)
theorem wx_Dictionary_number : Cond.selects "SuggestDesk$Dictionary" y_Dictionary_number y_Dictionary_number ∈ AL := AL_in (List.mem_append_right _ (List.mem_of_getElem? (i := 360) (by decide +kernel))) (by decide +kernel)
theorem sv_Dictionary_number : Cond.instanceMethod y_Dictionary_number ∈ AL ∧ Cond.selects y_Dictionary_number.cls y_Dictionary_number y_Dictionary_number ∈ AL := ⟨wn_Dictionary_number, wx_Dictionary_number⟩
theorem wl_S_119 : Cond.methodLink "SuggestDesk" 119 y_S_find ∈ AL := AL_in (List.mem_append_right _ (List.mem_of_getElem? (i := 350) (by decide +kernel))) (by decide +kernel)
theorem lk_S_119 : Lk "SuggestDesk" 119 y_S_find := Or.inl wl_S_119
theorem wc_S_find : Cond.code y_S_find b_S_find 3 (some (.object "SuggestDesk$Dictionary")) ∈ AL := AL_in (List.mem_append_right _ (List.mem_of_getElem? (i := 353) (by decide +kernel))) (by decide +kernel)
theorem wi_S : Cond.initialized "SuggestDesk" ∈ AL := AL_in (List.mem_append_right _ (List.mem_of_getElem? (i := 1) (by decide +kernel))) (by decide +kernel)
theorem mw_S_find : Mw y_S_find b_S_find 3 (some (.object "SuggestDesk$Dictionary")) 1 := ⟨wc_S_find, wi_S, by decide, by decide, by decide +kernel⟩
theorem wn_S_find : Cond.instanceMethod y_S_find ∈ AL := AL_in (List.mem_append_right _ (List.mem_of_getElem? (i := 352) (by decide +kernel))) (by decide +kernel)
theorem wx_S_find : Cond.selects "SuggestDesk" y_S_find y_S_find ∈ AL := AL_in (List.mem_append_left _ (List.mem_of_getElem? (i := 3) (by decide +kernel))) (by decide +kernel)
theorem sv_S_find : Cond.instanceMethod y_S_find ∈ AL ∧ Cond.selects y_S_find.cls y_S_find y_S_find ∈ AL := ⟨wn_S_find, wx_S_find⟩
theorem wl_S_125 : Cond.methodLink "SuggestDesk" 125 y_Dictionary_readers ∈ AL := AL_in (List.mem_append_right _ (List.mem_of_getElem? (i := 362) (by decide +kernel))) (by decide +kernel)
theorem lk_S_125 : Lk "SuggestDesk" 125 y_Dictionary_readers := Or.inl wl_S_125
theorem wc_Dictionary_readers : Cond.code y_Dictionary_readers b_Dictionary_readers 1 (some .int) ∈ AL := AL_in (List.mem_append_right _ (List.mem_of_getElem? (i := 365) (by decide +kernel))) (by decide +kernel)
theorem mw_Dictionary_readers : Mw y_Dictionary_readers b_Dictionary_readers 1 (some .int) 0 := ⟨wc_Dictionary_readers, wi_Dictionary, by decide, by decide, by decide +kernel⟩
theorem wn_Dictionary_readers : Cond.instanceMethod y_Dictionary_readers ∈ AL := AL_in (List.mem_append_right _ (List.mem_of_getElem? (i := 363) (by decide +kernel))) (by decide +kernel)
theorem wx_Dictionary_readers : Cond.selects "SuggestDesk$Dictionary" y_Dictionary_readers y_Dictionary_readers ∈ AL := AL_in (List.mem_append_right _ (List.mem_of_getElem? (i := 364) (by decide +kernel))) (by decide +kernel)
theorem sv_Dictionary_readers : Cond.instanceMethod y_Dictionary_readers ∈ AL ∧ Cond.selects y_Dictionary_readers.cls y_Dictionary_readers y_Dictionary_readers ∈ AL := ⟨wn_Dictionary_readers, wx_Dictionary_readers⟩
theorem wl_Dictionary_9 : Cond.methodLinkNest "SuggestDesk$Dictionary" 9 y_WordList_init "SuggestDesk" ∈ NWs := NW_in (List.mem_append_right _ (List.mem_of_getElem? (i := 53) (by decide +kernel))) (by decide +kernel)
theorem lk_Dictionary_9 : Lk "SuggestDesk$Dictionary" 9 y_WordList_init := Or.inr ⟨_, wl_Dictionary_9⟩
theorem ff_Dictionary_10 : vwCl[1]? = some ("SuggestDesk$Dictionary", T_Dictionary, 5) ∧ 0 < 5 ∧ (∀ w ∈ u_ws "SuggestDesk$Dictionary" T_Dictionary 5, w ∈ AL) ∧ Cond.fieldLink "SuggestDesk$Dictionary" 10 (T_Dictionary 0).1 (T_Dictionary 0).2.1 (T_Dictionary 0).2.2.1 ∈ AL := ⟨rfl, by decide, la_Dictionary, wf_Dictionary_10⟩
theorem wl_Dictionary_29 : Cond.methodLink "SuggestDesk$Dictionary" 29 y_WordList_copyFrom ∈ AL := AL_in (List.mem_append_right _ (List.mem_of_getElem? (i := 435) (by decide +kernel))) (by decide +kernel)
theorem lk_Dictionary_29 : Lk "SuggestDesk$Dictionary" 29 y_WordList_copyFrom := Or.inl wl_Dictionary_29
theorem wc_WordList_copyFrom : Cond.code y_WordList_copyFrom b_WordList_copyFrom 3 none ∈ AL := AL_in (List.mem_append_right _ (List.mem_of_getElem? (i := 438) (by decide +kernel))) (by decide +kernel)
theorem mw_WordList_copyFrom : Mw y_WordList_copyFrom b_WordList_copyFrom 3 none 1 := ⟨wc_WordList_copyFrom, wi_WordList, by decide, by decide, by decide +kernel⟩
theorem wn_WordList_copyFrom : Cond.instanceMethod y_WordList_copyFrom ∈ AL := AL_in (List.mem_append_right _ (List.mem_of_getElem? (i := 436) (by decide +kernel))) (by decide +kernel)
theorem wx_WordList_copyFrom : Cond.selects "SuggestDesk$WordList" y_WordList_copyFrom y_WordList_copyFrom ∈ AL := AL_in (List.mem_append_right _ (List.mem_of_getElem? (i := 437) (by decide +kernel))) (by decide +kernel)
theorem sv_WordList_copyFrom : Cond.instanceMethod y_WordList_copyFrom ∈ AL ∧ Cond.selects y_WordList_copyFrom.cls y_WordList_copyFrom y_WordList_copyFrom ∈ AL := ⟨wn_WordList_copyFrom, wx_WordList_copyFrom⟩
theorem wl_Pairs_26 : Cond.methodLink "SuggestDesk$Pairs" 26 y_Pairs_indexOf ∈ AL := AL_in (List.mem_append_right _ (List.mem_of_getElem? (i := 620) (by decide +kernel))) (by decide +kernel)
theorem lk_Pairs_26 : Lk "SuggestDesk$Pairs" 26 y_Pairs_indexOf := Or.inl wl_Pairs_26
theorem wc_Pairs_indexOf : Cond.code y_Pairs_indexOf b_Pairs_indexOf 6 (some .int) ∈ AL := AL_in (List.mem_append_right _ (List.mem_of_getElem? (i := 623) (by decide +kernel))) (by decide +kernel)
theorem wi_Pairs : Cond.initialized "SuggestDesk$Pairs" ∈ AL := AL_in (List.mem_append_right _ (List.mem_of_getElem? (i := 7) (by decide +kernel))) (by decide +kernel)
theorem mw_Pairs_indexOf : Mw y_Pairs_indexOf b_Pairs_indexOf 6 (some .int) 2 := ⟨wc_Pairs_indexOf, wi_Pairs, by decide, by decide, by decide +kernel⟩
theorem wn_Pairs_indexOf : Cond.instanceMethod y_Pairs_indexOf ∈ AL := AL_in (List.mem_append_right _ (List.mem_of_getElem? (i := 622) (by decide +kernel))) (by decide +kernel)
theorem wx_Pairs_indexOf : Cond.selects "SuggestDesk$Pairs" y_Pairs_indexOf y_Pairs_indexOf ∈ AL := AL_in (List.mem_append_left _ (List.mem_of_getElem? (i := 11) (by decide +kernel))) (by decide +kernel)
theorem sv_Pairs_indexOf : Cond.instanceMethod y_Pairs_indexOf ∈ AL ∧ Cond.selects y_Pairs_indexOf.cls y_Pairs_indexOf y_Pairs_indexOf ∈ AL := ⟨wn_Pairs_indexOf, wx_Pairs_indexOf⟩
theorem wl_Pairs_30 : Cond.methodLink "SuggestDesk$Pairs" 30 Lib.Math.min.name ∈ AL := AL_in (List.mem_append_right _ (List.mem_of_getElem? (i := 677) (by decide +kernel))) (by decide +kernel)
theorem wl_Phrase_54 : Cond.methodLink "SuggestDesk$Phrase" 54 y_WordList_size ∈ AL := AL_in (List.mem_append_right _ (List.mem_of_getElem? (i := 661) (by decide +kernel))) (by decide +kernel)
theorem lk_Phrase_54 : Lk "SuggestDesk$Phrase" 54 y_WordList_size := Or.inl wl_Phrase_54
theorem wl_Phrase_58 : Cond.methodLink "SuggestDesk$Phrase" 58 y_WordList_textAt ∈ AL := AL_in (List.mem_append_right _ (List.mem_of_getElem? (i := 662) (by decide +kernel))) (by decide +kernel)
theorem lk_Phrase_58 : Lk "SuggestDesk$Phrase" 58 y_WordList_textAt := Or.inl wl_Phrase_58
theorem wl_Phrase_76 : Cond.methodLink "SuggestDesk$Phrase" 76 y_Pairs_saving ∈ AL := AL_in (List.mem_append_right _ (List.mem_of_getElem? (i := 673) (by decide +kernel))) (by decide +kernel)
theorem lk_Phrase_76 : Lk "SuggestDesk$Phrase" 76 y_Pairs_saving := Or.inl wl_Phrase_76
theorem wc_Pairs_saving : Cond.code y_Pairs_saving b_Pairs_saving 6 (some .int) ∈ AL := AL_in (List.mem_append_right _ (List.mem_of_getElem? (i := 676) (by decide +kernel))) (by decide +kernel)
theorem mw_Pairs_saving : Mw y_Pairs_saving b_Pairs_saving 6 (some .int) 2 := ⟨wc_Pairs_saving, wi_Pairs, by decide, by decide, by decide +kernel⟩
theorem wn_Pairs_saving : Cond.instanceMethod y_Pairs_saving ∈ AL := AL_in (List.mem_append_right _ (List.mem_of_getElem? (i := 674) (by decide +kernel))) (by decide +kernel)
theorem wx_Pairs_saving : Cond.selects "SuggestDesk$Pairs" y_Pairs_saving y_Pairs_saving ∈ AL := AL_in (List.mem_append_right _ (List.mem_of_getElem? (i := 675) (by decide +kernel))) (by decide +kernel)
theorem sv_Pairs_saving : Cond.instanceMethod y_Pairs_saving ∈ AL ∧ Cond.selects y_Pairs_saving.cls y_Pairs_saving y_Pairs_saving ∈ AL := ⟨wn_Pairs_saving, wx_Pairs_saving⟩
theorem wl_Ruler_26 : Cond.methodLink "SuggestDesk$Ruler" 26 y_Texts_letterAt ∈ AL := AL_in (List.mem_append_right _ (List.mem_of_getElem? (i := 568) (by decide +kernel))) (by decide +kernel)
theorem lk_Ruler_26 : Lk "SuggestDesk$Ruler" 26 y_Texts_letterAt := Or.inl wl_Ruler_26
theorem wl_Ruler_30 : Cond.methodLink "SuggestDesk$Ruler" 30 Lib.Math.min.name ∈ AL := AL_in (List.mem_append_right _ (List.mem_of_getElem? (i := 569) (by decide +kernel))) (by decide +kernel)
theorem wl_Suggestions_38 : Cond.methodLink "SuggestDesk$Suggestions" 38 y_WordList_size ∈ AL := AL_in (List.mem_append_right _ (List.mem_of_getElem? (i := 535) (by decide +kernel))) (by decide +kernel)
theorem lk_Suggestions_38 : Lk "SuggestDesk$Suggestions" 38 y_WordList_size := Or.inl wl_Suggestions_38
theorem wl_Suggestions_43 : Cond.methodLink "SuggestDesk$Suggestions" 43 y_WordList_textAt ∈ AL := AL_in (List.mem_append_right _ (List.mem_of_getElem? (i := 536) (by decide +kernel))) (by decide +kernel)
theorem lk_Suggestions_43 : Lk "SuggestDesk$Suggestions" 43 y_WordList_textAt := Or.inl wl_Suggestions_43
theorem wl_Texts_9 : Cond.methodLink "SuggestDesk$Texts" 9 y_Texts_isBeginning ∈ AL := AL_in (List.mem_append_right _ (List.mem_of_getElem? (i := 211) (by decide +kernel))) (by decide +kernel)
theorem lk_Texts_9 : Lk "SuggestDesk$Texts" 9 y_Texts_isBeginning := Or.inl wl_Texts_9
theorem wl_WordList_23 : Cond.methodLink "SuggestDesk$WordList" 23 y_WordList_firstNotBefore ∈ AL := AL_in (List.mem_append_right _ (List.mem_of_getElem? (i := 231) (by decide +kernel))) (by decide +kernel)
theorem lk_WordList_23 : Lk "SuggestDesk$WordList" 23 y_WordList_firstNotBefore := Or.inl wl_WordList_23
theorem wc_WordList_firstNotBefore : Cond.code y_WordList_firstNotBefore b_WordList_firstNotBefore 4 (some .int) ∈ AL := AL_in (List.mem_append_right _ (List.mem_of_getElem? (i := 234) (by decide +kernel))) (by decide +kernel)
theorem mw_WordList_firstNotBefore : Mw y_WordList_firstNotBefore b_WordList_firstNotBefore 4 (some .int) 1 := ⟨wc_WordList_firstNotBefore, wi_WordList, by decide, by decide, by decide +kernel⟩
theorem wn_WordList_firstNotBefore : Cond.instanceMethod y_WordList_firstNotBefore ∈ AL := AL_in (List.mem_append_right _ (List.mem_of_getElem? (i := 233) (by decide +kernel))) (by decide +kernel)
theorem wx_WordList_firstNotBefore : Cond.selects "SuggestDesk$WordList" y_WordList_firstNotBefore y_WordList_firstNotBefore ∈ AL := AL_in (List.mem_append_left _ (List.mem_of_getElem? (i := 0) (by decide +kernel))) (by decide +kernel)
theorem sv_WordList_firstNotBefore : Cond.instanceMethod y_WordList_firstNotBefore ∈ AL ∧ Cond.selects y_WordList_firstNotBefore.cls y_WordList_firstNotBefore y_WordList_firstNotBefore ∈ AL := ⟨wn_WordList_firstNotBefore, wx_WordList_firstNotBefore⟩
theorem wl_WordList_27 : Cond.methodLink "SuggestDesk$WordList" 27 y_WordList_indexOf ∈ AL := AL_in (List.mem_append_right _ (List.mem_of_getElem? (i := 227) (by decide +kernel))) (by decide +kernel)
theorem lk_WordList_27 : Lk "SuggestDesk$WordList" 27 y_WordList_indexOf := Or.inl wl_WordList_27
theorem wc_WordList_indexOf : Cond.code y_WordList_indexOf b_WordList_indexOf 4 (some .int) ∈ AL := AL_in (List.mem_append_right _ (List.mem_of_getElem? (i := 230) (by decide +kernel))) (by decide +kernel)
theorem mw_WordList_indexOf : Mw y_WordList_indexOf b_WordList_indexOf 4 (some .int) 1 := ⟨wc_WordList_indexOf, wi_WordList, by decide, by decide, by decide +kernel⟩
theorem wn_WordList_indexOf : Cond.instanceMethod y_WordList_indexOf ∈ AL := AL_in (List.mem_append_right _ (List.mem_of_getElem? (i := 228) (by decide +kernel))) (by decide +kernel)
theorem wx_WordList_indexOf : Cond.selects "SuggestDesk$WordList" y_WordList_indexOf y_WordList_indexOf ∈ AL := AL_in (List.mem_append_right _ (List.mem_of_getElem? (i := 229) (by decide +kernel))) (by decide +kernel)
theorem sv_WordList_indexOf : Cond.instanceMethod y_WordList_indexOf ∈ AL ∧ Cond.selects y_WordList_indexOf.cls y_WordList_indexOf y_WordList_indexOf ∈ AL := ⟨wn_WordList_indexOf, wx_WordList_indexOf⟩
theorem wl_Automaton_47 : Cond.methodLink "SuggestDesk$Automaton" 47 y_Texts_lengthOf ∈ AL := AL_in (List.mem_append_right _ (List.mem_of_getElem? (i := 379) (by decide +kernel))) (by decide +kernel)
theorem lk_Automaton_47 : Lk "SuggestDesk$Automaton" 47 y_Texts_lengthOf := Or.inl wl_Automaton_47
theorem wc_Texts_lengthOf : Cond.code y_Texts_lengthOf b_Texts_lengthOf 3 (some .int) ∈ AL := AL_in (List.mem_append_right _ (List.mem_of_getElem? (i := 381) (by decide +kernel))) (by decide +kernel)
theorem mw_Texts_lengthOf : Mw y_Texts_lengthOf b_Texts_lengthOf 3 (some .int) 1 := ⟨wc_Texts_lengthOf, wi_Texts, by decide, by decide, by decide +kernel⟩
theorem ws_Texts_lengthOf : Cond.static y_Texts_lengthOf ∈ AL := AL_in (List.mem_append_right _ (List.mem_of_getElem? (i := 380) (by decide +kernel))) (by decide +kernel)
theorem wl_Automaton_55 : Cond.methodLink "SuggestDesk$Automaton" 55 y_Automaton_countWords ∈ AL := AL_in (List.mem_append_right _ (List.mem_of_getElem? (i := 386) (by decide +kernel))) (by decide +kernel)
theorem lk_Automaton_55 : Lk "SuggestDesk$Automaton" 55 y_Automaton_countWords := Or.inl wl_Automaton_55
theorem wc_Automaton_countWords : Cond.code y_Automaton_countWords b_Automaton_countWords 6 (some .int) ∈ AL := AL_in (List.mem_append_right _ (List.mem_of_getElem? (i := 388) (by decide +kernel))) (by decide +kernel)
theorem wi_Automaton : Cond.initialized "SuggestDesk$Automaton" ∈ AL := AL_in (List.mem_append_right _ (List.mem_of_getElem? (i := 4) (by decide +kernel))) (by decide +kernel)
theorem mw_Automaton_countWords : Mw y_Automaton_countWords b_Automaton_countWords 6 (some .int) 3 := ⟨wc_Automaton_countWords, wi_Automaton, by decide, by decide, by decide +kernel⟩
theorem ws_Automaton_countWords : Cond.static y_Automaton_countWords ∈ AL := AL_in (List.mem_append_right _ (List.mem_of_getElem? (i := 387) (by decide +kernel))) (by decide +kernel)
theorem wl_Automaton_59 : Cond.methodLink "SuggestDesk$Automaton" 59 y_Automaton_lowestCost ∈ AL := AL_in (List.mem_append_right _ (List.mem_of_getElem? (i := 393) (by decide +kernel))) (by decide +kernel)
theorem lk_Automaton_59 : Lk "SuggestDesk$Automaton" 59 y_Automaton_lowestCost := Or.inl wl_Automaton_59
theorem wc_Automaton_lowestCost : Cond.code y_Automaton_lowestCost b_Automaton_lowestCost 5 (some .int) ∈ AL := AL_in (List.mem_append_right _ (List.mem_of_getElem? (i := 395) (by decide +kernel))) (by decide +kernel)
theorem mw_Automaton_lowestCost : Mw y_Automaton_lowestCost b_Automaton_lowestCost 5 (some .int) 3 := ⟨wc_Automaton_lowestCost, wi_Automaton, by decide, by decide, by decide +kernel⟩
theorem ws_Automaton_lowestCost : Cond.static y_Automaton_lowestCost ∈ AL := AL_in (List.mem_append_right _ (List.mem_of_getElem? (i := 394) (by decide +kernel))) (by decide +kernel)
theorem wl_Automaton_84 : Cond.methodLink "SuggestDesk$Automaton" 84 y_Automaton_endingAt ∈ AL := AL_in (List.mem_append_right _ (List.mem_of_getElem? (i := 407) (by decide +kernel))) (by decide +kernel)
theorem lk_Automaton_84 : Lk "SuggestDesk$Automaton" 84 y_Automaton_endingAt := Or.inl wl_Automaton_84
theorem wc_Automaton_endingAt : Cond.code y_Automaton_endingAt b_Automaton_endingAt 4 (some .long) ∈ AL := AL_in (List.mem_append_right _ (List.mem_of_getElem? (i := 410) (by decide +kernel))) (by decide +kernel)
theorem mw_Automaton_endingAt : Mw y_Automaton_endingAt b_Automaton_endingAt 4 (some .long) 3 := ⟨wc_Automaton_endingAt, wi_Automaton, by decide, by decide, by decide +kernel⟩
theorem wn_Automaton_endingAt : Cond.instanceMethod y_Automaton_endingAt ∈ AL := AL_in (List.mem_append_right _ (List.mem_of_getElem? (i := 409) (by decide +kernel))) (by decide +kernel)
theorem wx_Automaton_endingAt : Cond.selects "SuggestDesk$Automaton" y_Automaton_endingAt y_Automaton_endingAt ∈ AL := AL_in (List.mem_append_left _ (List.mem_of_getElem? (i := 6) (by decide +kernel))) (by decide +kernel)
theorem sv_Automaton_endingAt : Cond.instanceMethod y_Automaton_endingAt ∈ AL ∧ Cond.selects y_Automaton_endingAt.cls y_Automaton_endingAt y_Automaton_endingAt ∈ AL := ⟨wn_Automaton_endingAt, wx_Automaton_endingAt⟩
theorem wl_Automaton_88 : Cond.methodLink "SuggestDesk$Automaton" 88 y_Automaton_costAbove ∈ AL := AL_in (List.mem_append_right _ (List.mem_of_getElem? (i := 414) (by decide +kernel))) (by decide +kernel)
theorem lk_Automaton_88 : Lk "SuggestDesk$Automaton" 88 y_Automaton_costAbove := Or.inl wl_Automaton_88
theorem wc_Automaton_costAbove : Cond.code y_Automaton_costAbove b_Automaton_costAbove 4 (some .int) ∈ AL := AL_in (List.mem_append_right _ (List.mem_of_getElem? (i := 417) (by decide +kernel))) (by decide +kernel)
theorem mw_Automaton_costAbove : Mw y_Automaton_costAbove b_Automaton_costAbove 4 (some .int) 3 := ⟨wc_Automaton_costAbove, wi_Automaton, by decide, by decide, by decide +kernel⟩
theorem wn_Automaton_costAbove : Cond.instanceMethod y_Automaton_costAbove ∈ AL := AL_in (List.mem_append_right _ (List.mem_of_getElem? (i := 416) (by decide +kernel))) (by decide +kernel)
theorem wx_Automaton_costAbove : Cond.selects "SuggestDesk$Automaton" y_Automaton_costAbove y_Automaton_costAbove ∈ AL := AL_in (List.mem_append_left _ (List.mem_of_getElem? (i := 7) (by decide +kernel))) (by decide +kernel)
theorem sv_Automaton_costAbove : Cond.instanceMethod y_Automaton_costAbove ∈ AL ∧ Cond.selects y_Automaton_costAbove.cls y_Automaton_costAbove y_Automaton_costAbove ∈ AL := ⟨wn_Automaton_costAbove, wx_Automaton_costAbove⟩
theorem wl_Automaton_91 : Cond.methodLink "SuggestDesk$Automaton" 91 y_Texts_letterAt ∈ AL := AL_in (List.mem_append_right _ (List.mem_of_getElem? (i := 422) (by decide +kernel))) (by decide +kernel)
theorem lk_Automaton_91 : Lk "SuggestDesk$Automaton" 91 y_Texts_letterAt := Or.inl wl_Automaton_91
theorem wl_S_22 : Cond.methodLinkNest "SuggestDesk" 22 y_Dictionary_init "SuggestDesk" ∈ NWs := NW_in (List.mem_append_right _ (List.mem_of_getElem? (i := 48) (by decide +kernel))) (by decide +kernel)
theorem lk_S_22 : Lk "SuggestDesk" 22 y_Dictionary_init := Or.inr ⟨_, wl_S_22⟩
theorem wc_Dictionary_init : Cond.code y_Dictionary_init b_Dictionary_init 1 none ∈ AL := AL_in (List.mem_append_right _ (List.mem_of_getElem? (i := 50) (by decide +kernel))) (by decide +kernel)
theorem mw_Dictionary_init : Mw y_Dictionary_init b_Dictionary_init 1 none 0 := ⟨wc_Dictionary_init, wi_Dictionary, by decide, by decide, by decide +kernel⟩
theorem wn_Dictionary_init : Cond.instanceMethod y_Dictionary_init ∈ AL := AL_in (List.mem_append_right _ (List.mem_of_getElem? (i := 49) (by decide +kernel))) (by decide +kernel)
theorem wq_S_23 : Cond.classLink "SuggestDesk" 23 "SuggestDesk$Automaton" ∈ AL := AL_in (List.mem_append_right _ (List.mem_of_getElem? (i := 70) (by decide +kernel))) (by decide +kernel)
theorem wt_Automaton : Cond.instantiable "SuggestDesk$Automaton" 6 ∈ AL := AL_in (List.mem_append_right _ (List.mem_of_getElem? (i := 71) (by decide +kernel))) (by decide +kernel)
theorem nw_S_23 : Nw "SuggestDesk" 23 0 "SuggestDesk$Automaton" T_Automaton 6 := ⟨rfl, la_Automaton, wq_S_23, wt_Automaton, wi_Automaton⟩
theorem wl_S_25 : Cond.methodLinkNest "SuggestDesk" 25 y_Automaton_init "SuggestDesk" ∈ NWs := NW_in (List.mem_append_right _ (List.mem_of_getElem? (i := 72) (by decide +kernel))) (by decide +kernel)
theorem lk_S_25 : Lk "SuggestDesk" 25 y_Automaton_init := Or.inr ⟨_, wl_S_25⟩
theorem wc_Automaton_init : Cond.code y_Automaton_init b_Automaton_init 1 none ∈ AL := AL_in (List.mem_append_right _ (List.mem_of_getElem? (i := 74) (by decide +kernel))) (by decide +kernel)
theorem mw_Automaton_init : Mw y_Automaton_init b_Automaton_init 1 none 0 := ⟨wc_Automaton_init, wi_Automaton, by decide, by decide, by decide +kernel⟩
theorem wn_Automaton_init : Cond.instanceMethod y_Automaton_init ∈ AL := AL_in (List.mem_append_right _ (List.mem_of_getElem? (i := 73) (by decide +kernel))) (by decide +kernel)
theorem wf_S_26 : Cond.fieldLink "SuggestDesk" 26 (T_S 2).1 (T_S 2).2.1 (T_S 2).2.2.1 ∈ AL := AL_in (List.mem_append_right _ (List.mem_of_getElem? (i := 181) (by decide +kernel))) (by decide +kernel)
theorem fl_S_26 : Fl "SuggestDesk" 26 7 2 "SuggestDesk" T_S 8 := ⟨rfl, by decide, la_S, Or.inl wf_S_26⟩
theorem ff_S_26 : vwCl[7]? = some ("SuggestDesk", T_S, 8) ∧ 2 < 8 ∧ (∀ w ∈ u_ws "SuggestDesk" T_S 8, w ∈ AL) ∧ Cond.fieldLink "SuggestDesk" 26 (T_S 2).1 (T_S 2).2.1 (T_S 2).2.2.1 ∈ AL := ⟨rfl, by decide, la_S, wf_S_26⟩
theorem wq_S_30 : Cond.classLink "SuggestDesk" 30 "SuggestDesk$Ruler" ∈ AL := AL_in (List.mem_append_right _ (List.mem_of_getElem? (i := 95) (by decide +kernel))) (by decide +kernel)
theorem wt_Ruler : Cond.instantiable "SuggestDesk$Ruler" 1 ∈ AL := AL_in (List.mem_append_right _ (List.mem_of_getElem? (i := 96) (by decide +kernel))) (by decide +kernel)
theorem wi_Ruler : Cond.initialized "SuggestDesk$Ruler" ∈ AL := AL_in (List.mem_append_right _ (List.mem_of_getElem? (i := 5) (by decide +kernel))) (by decide +kernel)
theorem nw_S_30 : Nw "SuggestDesk" 30 4 "SuggestDesk$Ruler" T_Ruler 1 := ⟨rfl, la_Ruler, wq_S_30, wt_Ruler, wi_Ruler⟩
theorem wl_S_32 : Cond.methodLink "SuggestDesk" 32 y_Ruler_init ∈ AL := AL_in (List.mem_append_right _ (List.mem_of_getElem? (i := 97) (by decide +kernel))) (by decide +kernel)
theorem lk_S_32 : Lk "SuggestDesk" 32 y_Ruler_init := Or.inl wl_S_32
theorem wc_Ruler_init : Cond.code y_Ruler_init b_Ruler_init 2 none ∈ AL := AL_in (List.mem_append_right _ (List.mem_of_getElem? (i := 99) (by decide +kernel))) (by decide +kernel)
theorem mw_Ruler_init : Mw y_Ruler_init b_Ruler_init 2 none 0 := ⟨wc_Ruler_init, wi_Ruler, by decide, by decide, by decide +kernel⟩
theorem wn_Ruler_init : Cond.instanceMethod y_Ruler_init ∈ AL := AL_in (List.mem_append_right _ (List.mem_of_getElem? (i := 98) (by decide +kernel))) (by decide +kernel)
theorem wf_S_33 : Cond.fieldLink "SuggestDesk" 33 (T_S 3).1 (T_S 3).2.1 (T_S 3).2.2.1 ∈ AL := AL_in (List.mem_append_right _ (List.mem_of_getElem? (i := 182) (by decide +kernel))) (by decide +kernel)
theorem fl_S_33 : Fl "SuggestDesk" 33 7 3 "SuggestDesk" T_S 8 := ⟨rfl, by decide, la_S, Or.inl wf_S_33⟩
theorem ff_S_33 : vwCl[7]? = some ("SuggestDesk", T_S, 8) ∧ 3 < 8 ∧ (∀ w ∈ u_ws "SuggestDesk" T_S 8, w ∈ AL) ∧ Cond.fieldLink "SuggestDesk" 33 (T_S 3).1 (T_S 3).2.1 (T_S 3).2.2.1 ∈ AL := ⟨rfl, by decide, la_S, wf_S_33⟩
theorem wq_S_37 : Cond.classLink "SuggestDesk" 37 "SuggestDesk$Suggestions" ∈ AL := AL_in (List.mem_append_right _ (List.mem_of_getElem? (i := 107) (by decide +kernel))) (by decide +kernel)
theorem wt_Suggestions : Cond.instantiable "SuggestDesk$Suggestions" 4 ∈ AL := AL_in (List.mem_append_right _ (List.mem_of_getElem? (i := 108) (by decide +kernel))) (by decide +kernel)
theorem nw_S_37 : Nw "SuggestDesk" 37 5 "SuggestDesk$Suggestions" T_Suggestions 4 := ⟨rfl, la_Suggestions, wq_S_37, wt_Suggestions, wi_Suggestions⟩
theorem wl_S_39 : Cond.methodLinkNest "SuggestDesk" 39 y_Suggestions_init "SuggestDesk" ∈ NWs := NW_in (List.mem_append_right _ (List.mem_of_getElem? (i := 109) (by decide +kernel))) (by decide +kernel)
theorem lk_S_39 : Lk "SuggestDesk" 39 y_Suggestions_init := Or.inr ⟨_, wl_S_39⟩
theorem wc_Suggestions_init : Cond.code y_Suggestions_init b_Suggestions_init 1 none ∈ AL := AL_in (List.mem_append_right _ (List.mem_of_getElem? (i := 111) (by decide +kernel))) (by decide +kernel)
theorem mw_Suggestions_init : Mw y_Suggestions_init b_Suggestions_init 1 none 0 := ⟨wc_Suggestions_init, wi_Suggestions, by decide, by decide, by decide +kernel⟩
theorem wn_Suggestions_init : Cond.instanceMethod y_Suggestions_init ∈ AL := AL_in (List.mem_append_right _ (List.mem_of_getElem? (i := 110) (by decide +kernel))) (by decide +kernel)
theorem ff_S_40 : vwCl[7]? = some ("SuggestDesk", T_S, 8) ∧ 4 < 8 ∧ (∀ w ∈ u_ws "SuggestDesk" T_S 8, w ∈ AL) ∧ Cond.fieldLink "SuggestDesk" 40 (T_S 4).1 (T_S 4).2.1 (T_S 4).2.2.1 ∈ AL := ⟨rfl, by decide, la_S, wf_S_40⟩
theorem wq_S_44 : Cond.classLink "SuggestDesk" 44 "SuggestDesk$Pairs" ∈ AL := AL_in (List.mem_append_right _ (List.mem_of_getElem? (i := 126) (by decide +kernel))) (by decide +kernel)
theorem wt_Pairs : Cond.instantiable "SuggestDesk$Pairs" 4 ∈ AL := AL_in (List.mem_append_right _ (List.mem_of_getElem? (i := 127) (by decide +kernel))) (by decide +kernel)
theorem nw_S_44 : Nw "SuggestDesk" 44 2 "SuggestDesk$Pairs" T_Pairs 4 := ⟨rfl, la_Pairs, wq_S_44, wt_Pairs, wi_Pairs⟩
theorem wl_S_46 : Cond.methodLinkNest "SuggestDesk" 46 y_Pairs_init "SuggestDesk" ∈ NWs := NW_in (List.mem_append_right _ (List.mem_of_getElem? (i := 128) (by decide +kernel))) (by decide +kernel)
theorem lk_S_46 : Lk "SuggestDesk" 46 y_Pairs_init := Or.inr ⟨_, wl_S_46⟩
theorem wc_Pairs_init : Cond.code y_Pairs_init b_Pairs_init 1 none ∈ AL := AL_in (List.mem_append_right _ (List.mem_of_getElem? (i := 130) (by decide +kernel))) (by decide +kernel)
theorem mw_Pairs_init : Mw y_Pairs_init b_Pairs_init 1 none 0 := ⟨wc_Pairs_init, wi_Pairs, by decide, by decide, by decide +kernel⟩
theorem wn_Pairs_init : Cond.instanceMethod y_Pairs_init ∈ AL := AL_in (List.mem_append_right _ (List.mem_of_getElem? (i := 129) (by decide +kernel))) (by decide +kernel)
theorem wf_S_47 : Cond.fieldLink "SuggestDesk" 47 (T_S 5).1 (T_S 5).2.1 (T_S 5).2.2.1 ∈ AL := AL_in (List.mem_append_right _ (List.mem_of_getElem? (i := 184) (by decide +kernel))) (by decide +kernel)
theorem fl_S_47 : Fl "SuggestDesk" 47 7 5 "SuggestDesk" T_S 8 := ⟨rfl, by decide, la_S, Or.inl wf_S_47⟩
theorem ff_S_47 : vwCl[7]? = some ("SuggestDesk", T_S, 8) ∧ 5 < 8 ∧ (∀ w ∈ u_ws "SuggestDesk" T_S 8, w ∈ AL) ∧ Cond.fieldLink "SuggestDesk" 47 (T_S 5).1 (T_S 5).2.1 (T_S 5).2.2.1 ∈ AL := ⟨rfl, by decide, la_S, wf_S_47⟩
theorem wq_S_51 : Cond.classLink "SuggestDesk" 51 "SuggestDesk$Phrase" ∈ AL := AL_in (List.mem_append_right _ (List.mem_of_getElem? (i := 145) (by decide +kernel))) (by decide +kernel)
theorem wt_Phrase : Cond.instantiable "SuggestDesk$Phrase" 8 ∈ AL := AL_in (List.mem_append_right _ (List.mem_of_getElem? (i := 146) (by decide +kernel))) (by decide +kernel)
theorem nw_S_51 : Nw "SuggestDesk" 51 3 "SuggestDesk$Phrase" T_Phrase 8 := ⟨rfl, la_Phrase, wq_S_51, wt_Phrase, wi_Phrase⟩
theorem wl_S_53 : Cond.methodLinkNest "SuggestDesk" 53 y_Phrase_init "SuggestDesk" ∈ NWs := NW_in (List.mem_append_right _ (List.mem_of_getElem? (i := 147) (by decide +kernel))) (by decide +kernel)
theorem lk_S_53 : Lk "SuggestDesk" 53 y_Phrase_init := Or.inr ⟨_, wl_S_53⟩
theorem wc_Phrase_init : Cond.code y_Phrase_init b_Phrase_init 1 none ∈ AL := AL_in (List.mem_append_right _ (List.mem_of_getElem? (i := 149) (by decide +kernel))) (by decide +kernel)
theorem mw_Phrase_init : Mw y_Phrase_init b_Phrase_init 1 none 0 := ⟨wc_Phrase_init, wi_Phrase, by decide, by decide, by decide +kernel⟩
theorem wn_Phrase_init : Cond.instanceMethod y_Phrase_init ∈ AL := AL_in (List.mem_append_right _ (List.mem_of_getElem? (i := 148) (by decide +kernel))) (by decide +kernel)
theorem ff_S_54 : vwCl[7]? = some ("SuggestDesk", T_S, 8) ∧ 6 < 8 ∧ (∀ w ∈ u_ws "SuggestDesk" T_S 8, w ∈ AL) ∧ Cond.fieldLink "SuggestDesk" 54 (T_S 6).1 (T_S 6).2.1 (T_S 6).2.2.1 ∈ AL := ⟨rfl, by decide, la_S, wf_S_54⟩
theorem wl_S_62 : Cond.methodLink "SuggestDesk" 62 y_Texts_isWord ∈ AL := AL_in (List.mem_append_right _ (List.mem_of_getElem? (i := 208) (by decide +kernel))) (by decide +kernel)
theorem lk_S_62 : Lk "SuggestDesk" 62 y_Texts_isWord := Or.inl wl_S_62
theorem wc_Texts_isWord : Cond.code y_Texts_isWord b_Texts_isWord 2 (some .boolean) ∈ AL := AL_in (List.mem_append_right _ (List.mem_of_getElem? (i := 210) (by decide +kernel))) (by decide +kernel)
theorem mw_Texts_isWord : Mw y_Texts_isWord b_Texts_isWord 2 (some .boolean) 1 := ⟨wc_Texts_isWord, wi_Texts, by decide, by decide, by decide +kernel⟩
theorem ws_Texts_isWord : Cond.static y_Texts_isWord ∈ AL := AL_in (List.mem_append_right _ (List.mem_of_getElem? (i := 209) (by decide +kernel))) (by decide +kernel)
theorem wl_S_77 : Cond.methodLink "SuggestDesk" 77 y_Texts_ofNumber ∈ AL := AL_in (List.mem_append_right _ (List.mem_of_getElem? (i := 217) (by decide +kernel))) (by decide +kernel)
theorem lk_S_77 : Lk "SuggestDesk" 77 y_Texts_ofNumber := Or.inl wl_S_77
theorem wc_Texts_ofNumber : Cond.code y_Texts_ofNumber b_Texts_ofNumber 5 (some .long) ∈ AL := AL_in (List.mem_append_right _ (List.mem_of_getElem? (i := 219) (by decide +kernel))) (by decide +kernel)
theorem mw_Texts_ofNumber : Mw y_Texts_ofNumber b_Texts_ofNumber 5 (some .long) 1 := ⟨wc_Texts_ofNumber, wi_Texts, by decide, by decide, by decide +kernel⟩
theorem ws_Texts_ofNumber : Cond.static y_Texts_ofNumber ∈ AL := AL_in (List.mem_append_right _ (List.mem_of_getElem? (i := 218) (by decide +kernel))) (by decide +kernel)
theorem wl_S_81 : Cond.methodLink "SuggestDesk" 81 y_WordList_put ∈ AL := AL_in (List.mem_append_right _ (List.mem_of_getElem? (i := 314) (by decide +kernel))) (by decide +kernel)
theorem lk_S_81 : Lk "SuggestDesk" 81 y_WordList_put := Or.inl wl_S_81
theorem wc_WordList_put : Cond.code y_WordList_put b_WordList_put 6 (some .boolean) ∈ AL := AL_in (List.mem_append_right _ (List.mem_of_getElem? (i := 317) (by decide +kernel))) (by decide +kernel)
theorem mw_WordList_put : Mw y_WordList_put b_WordList_put 6 (some .boolean) 2 := ⟨wc_WordList_put, wi_WordList, by decide, by decide, by decide +kernel⟩
theorem wn_WordList_put : Cond.instanceMethod y_WordList_put ∈ AL := AL_in (List.mem_append_right _ (List.mem_of_getElem? (i := 315) (by decide +kernel))) (by decide +kernel)
theorem wx_WordList_put : Cond.selects "SuggestDesk$WordList" y_WordList_put y_WordList_put ∈ AL := AL_in (List.mem_append_right _ (List.mem_of_getElem? (i := 316) (by decide +kernel))) (by decide +kernel)
theorem sv_WordList_put : Cond.instanceMethod y_WordList_put ∈ AL ∧ Cond.selects y_WordList_put.cls y_WordList_put y_WordList_put ∈ AL := ⟨wn_WordList_put, wx_WordList_put⟩
theorem wl_S_94 : Cond.methodLink "SuggestDesk" 94 y_WordList_remove ∈ AL := AL_in (List.mem_append_right _ (List.mem_of_getElem? (i := 223) (by decide +kernel))) (by decide +kernel)
theorem lk_S_94 : Lk "SuggestDesk" 94 y_WordList_remove := Or.inl wl_S_94
theorem wc_WordList_remove : Cond.code y_WordList_remove b_WordList_remove 5 (some .boolean) ∈ AL := AL_in (List.mem_append_right _ (List.mem_of_getElem? (i := 226) (by decide +kernel))) (by decide +kernel)
theorem mw_WordList_remove : Mw y_WordList_remove b_WordList_remove 5 (some .boolean) 1 := ⟨wc_WordList_remove, wi_WordList, by decide, by decide, by decide +kernel⟩
theorem wn_WordList_remove : Cond.instanceMethod y_WordList_remove ∈ AL := AL_in (List.mem_append_right _ (List.mem_of_getElem? (i := 224) (by decide +kernel))) (by decide +kernel)
theorem wx_WordList_remove : Cond.selects "SuggestDesk$WordList" y_WordList_remove y_WordList_remove ∈ AL := AL_in (List.mem_append_right _ (List.mem_of_getElem? (i := 225) (by decide +kernel))) (by decide +kernel)
theorem sv_WordList_remove : Cond.instanceMethod y_WordList_remove ∈ AL ∧ Cond.selects y_WordList_remove.cls y_WordList_remove y_WordList_remove ∈ AL := ⟨wn_WordList_remove, wx_WordList_remove⟩
theorem wl_S_99 : Cond.methodLink "SuggestDesk" 99 y_S_placeForNext ∈ AL := AL_in (List.mem_append_right _ (List.mem_of_getElem? (i := 346) (by decide +kernel))) (by decide +kernel)
theorem lk_S_99 : Lk "SuggestDesk" 99 y_S_placeForNext := Or.inl wl_S_99
theorem wc_S_placeForNext : Cond.code y_S_placeForNext b_S_placeForNext 3 (some (.object "SuggestDesk$Dictionary")) ∈ AL := AL_in (List.mem_append_right _ (List.mem_of_getElem? (i := 349) (by decide +kernel))) (by decide +kernel)
theorem mw_S_placeForNext : Mw y_S_placeForNext b_S_placeForNext 3 (some (.object "SuggestDesk$Dictionary")) 0 := ⟨wc_S_placeForNext, wi_S, by decide, by decide, by decide +kernel⟩
theorem wn_S_placeForNext : Cond.instanceMethod y_S_placeForNext ∈ AL := AL_in (List.mem_append_right _ (List.mem_of_getElem? (i := 348) (by decide +kernel))) (by decide +kernel)
theorem wx_S_placeForNext : Cond.selects "SuggestDesk" y_S_placeForNext y_S_placeForNext ∈ AL := AL_in (List.mem_append_left _ (List.mem_of_getElem? (i := 2) (by decide +kernel))) (by decide +kernel)
theorem sv_S_placeForNext : Cond.instanceMethod y_S_placeForNext ∈ AL ∧ Cond.selects y_S_placeForNext.cls y_S_placeForNext y_S_placeForNext ∈ AL := ⟨wn_S_placeForNext, wx_S_placeForNext⟩
theorem wl_S_130 : Cond.methodLink "SuggestDesk" 130 y_Dictionary_addReader ∈ AL := AL_in (List.mem_append_right _ (List.mem_of_getElem? (i := 448) (by decide +kernel))) (by decide +kernel)
theorem lk_S_130 : Lk "SuggestDesk" 130 y_Dictionary_addReader := Or.inl wl_S_130
theorem wc_Dictionary_addReader : Cond.code y_Dictionary_addReader b_Dictionary_addReader 1 none ∈ AL := AL_in (List.mem_append_right _ (List.mem_of_getElem? (i := 451) (by decide +kernel))) (by decide +kernel)
theorem mw_Dictionary_addReader : Mw y_Dictionary_addReader b_Dictionary_addReader 1 none 0 := ⟨wc_Dictionary_addReader, wi_Dictionary, by decide, by decide, by decide +kernel⟩
theorem wn_Dictionary_addReader : Cond.instanceMethod y_Dictionary_addReader ∈ AL := AL_in (List.mem_append_right _ (List.mem_of_getElem? (i := 449) (by decide +kernel))) (by decide +kernel)
theorem wx_Dictionary_addReader : Cond.selects "SuggestDesk$Dictionary" y_Dictionary_addReader y_Dictionary_addReader ∈ AL := AL_in (List.mem_append_right _ (List.mem_of_getElem? (i := 450) (by decide +kernel))) (by decide +kernel)
theorem sv_Dictionary_addReader : Cond.instanceMethod y_Dictionary_addReader ∈ AL ∧ Cond.selects y_Dictionary_addReader.cls y_Dictionary_addReader y_Dictionary_addReader ∈ AL := ⟨wn_Dictionary_addReader, wx_Dictionary_addReader⟩
theorem wl_S_135 : Cond.methodLink "SuggestDesk" 135 y_Dictionary_removeReader ∈ AL := AL_in (List.mem_append_right _ (List.mem_of_getElem? (i := 460) (by decide +kernel))) (by decide +kernel)
theorem lk_S_135 : Lk "SuggestDesk" 135 y_Dictionary_removeReader := Or.inl wl_S_135
theorem wc_Dictionary_removeReader : Cond.code y_Dictionary_removeReader b_Dictionary_removeReader 1 none ∈ AL := AL_in (List.mem_append_right _ (List.mem_of_getElem? (i := 463) (by decide +kernel))) (by decide +kernel)
theorem mw_Dictionary_removeReader : Mw y_Dictionary_removeReader b_Dictionary_removeReader 1 none 0 := ⟨wc_Dictionary_removeReader, wi_Dictionary, by decide, by decide, by decide +kernel⟩
theorem wn_Dictionary_removeReader : Cond.instanceMethod y_Dictionary_removeReader ∈ AL := AL_in (List.mem_append_right _ (List.mem_of_getElem? (i := 461) (by decide +kernel))) (by decide +kernel)
theorem wx_Dictionary_removeReader : Cond.selects "SuggestDesk$Dictionary" y_Dictionary_removeReader y_Dictionary_removeReader ∈ AL := AL_in (List.mem_append_right _ (List.mem_of_getElem? (i := 462) (by decide +kernel))) (by decide +kernel)
theorem sv_Dictionary_removeReader : Cond.instanceMethod y_Dictionary_removeReader ∈ AL ∧ Cond.selects y_Dictionary_removeReader.cls y_Dictionary_removeReader y_Dictionary_removeReader ∈ AL := ⟨wn_Dictionary_removeReader, wx_Dictionary_removeReader⟩
theorem wl_S_138 : Cond.methodLink "SuggestDesk" 138 y_Dictionary_clear ∈ AL := AL_in (List.mem_append_right _ (List.mem_of_getElem? (i := 464) (by decide +kernel))) (by decide +kernel)
theorem lk_S_138 : Lk "SuggestDesk" 138 y_Dictionary_clear := Or.inl wl_S_138
theorem wc_Dictionary_clear : Cond.code y_Dictionary_clear b_Dictionary_clear 1 none ∈ AL := AL_in (List.mem_append_right _ (List.mem_of_getElem? (i := 467) (by decide +kernel))) (by decide +kernel)
theorem mw_Dictionary_clear : Mw y_Dictionary_clear b_Dictionary_clear 1 none 0 := ⟨wc_Dictionary_clear, wi_Dictionary, by decide, by decide, by decide +kernel⟩
theorem wn_Dictionary_clear : Cond.instanceMethod y_Dictionary_clear ∈ AL := AL_in (List.mem_append_right _ (List.mem_of_getElem? (i := 465) (by decide +kernel))) (by decide +kernel)
theorem wx_Dictionary_clear : Cond.selects "SuggestDesk$Dictionary" y_Dictionary_clear y_Dictionary_clear ∈ AL := AL_in (List.mem_append_right _ (List.mem_of_getElem? (i := 466) (by decide +kernel))) (by decide +kernel)
theorem sv_Dictionary_clear : Cond.instanceMethod y_Dictionary_clear ∈ AL ∧ Cond.selects y_Dictionary_clear.cls y_Dictionary_clear y_Dictionary_clear ∈ AL := ⟨wn_Dictionary_clear, wx_Dictionary_clear⟩
theorem wl_S_150 : Cond.methodLink "SuggestDesk" 150 y_Dictionary_words ∈ AL := AL_in (List.mem_append_right _ (List.mem_of_getElem? (i := 492) (by decide +kernel))) (by decide +kernel)
theorem lk_S_150 : Lk "SuggestDesk" 150 y_Dictionary_words := Or.inl wl_S_150
theorem wc_Dictionary_words : Cond.code y_Dictionary_words b_Dictionary_words 1 (some (.object "SuggestDesk$WordList")) ∈ AL := AL_in (List.mem_append_right _ (List.mem_of_getElem? (i := 495) (by decide +kernel))) (by decide +kernel)
theorem mw_Dictionary_words : Mw y_Dictionary_words b_Dictionary_words 1 (some (.object "SuggestDesk$WordList")) 0 := ⟨wc_Dictionary_words, wi_Dictionary, by decide, by decide, by decide +kernel⟩
theorem wn_Dictionary_words : Cond.instanceMethod y_Dictionary_words ∈ AL := AL_in (List.mem_append_right _ (List.mem_of_getElem? (i := 493) (by decide +kernel))) (by decide +kernel)
theorem wx_Dictionary_words : Cond.selects "SuggestDesk$Dictionary" y_Dictionary_words y_Dictionary_words ∈ AL := AL_in (List.mem_append_right _ (List.mem_of_getElem? (i := 494) (by decide +kernel))) (by decide +kernel)
theorem sv_Dictionary_words : Cond.instanceMethod y_Dictionary_words ∈ AL ∧ Cond.selects y_Dictionary_words.cls y_Dictionary_words y_Dictionary_words ∈ AL := ⟨wn_Dictionary_words, wx_Dictionary_words⟩
theorem wl_S_154 : Cond.methodLink "SuggestDesk" 154 y_Dictionary_states ∈ AL := AL_in (List.mem_append_right _ (List.mem_of_getElem? (i := 496) (by decide +kernel))) (by decide +kernel)
theorem lk_S_154 : Lk "SuggestDesk" 154 y_Dictionary_states := Or.inl wl_S_154
theorem wc_Dictionary_states : Cond.code y_Dictionary_states b_Dictionary_states 1 (some .int) ∈ AL := AL_in (List.mem_append_right _ (List.mem_of_getElem? (i := 499) (by decide +kernel))) (by decide +kernel)
theorem mw_Dictionary_states : Mw y_Dictionary_states b_Dictionary_states 1 (some .int) 0 := ⟨wc_Dictionary_states, wi_Dictionary, by decide, by decide, by decide +kernel⟩
theorem wn_Dictionary_states : Cond.instanceMethod y_Dictionary_states ∈ AL := AL_in (List.mem_append_right _ (List.mem_of_getElem? (i := 497) (by decide +kernel))) (by decide +kernel)
theorem wx_Dictionary_states : Cond.selects "SuggestDesk$Dictionary" y_Dictionary_states y_Dictionary_states ∈ AL := AL_in (List.mem_append_right _ (List.mem_of_getElem? (i := 498) (by decide +kernel))) (by decide +kernel)
theorem sv_Dictionary_states : Cond.instanceMethod y_Dictionary_states ∈ AL ∧ Cond.selects y_Dictionary_states.cls y_Dictionary_states y_Dictionary_states ∈ AL := ⟨wn_Dictionary_states, wx_Dictionary_states⟩
theorem wl_S_155 : Cond.methodLink "SuggestDesk" 155 y_Dictionary_arcs ∈ AL := AL_in (List.mem_append_right _ (List.mem_of_getElem? (i := 500) (by decide +kernel))) (by decide +kernel)
theorem lk_S_155 : Lk "SuggestDesk" 155 y_Dictionary_arcs := Or.inl wl_S_155
theorem wc_Dictionary_arcs : Cond.code y_Dictionary_arcs b_Dictionary_arcs 1 (some .int) ∈ AL := AL_in (List.mem_append_right _ (List.mem_of_getElem? (i := 503) (by decide +kernel))) (by decide +kernel)
theorem mw_Dictionary_arcs : Mw y_Dictionary_arcs b_Dictionary_arcs 1 (some .int) 0 := ⟨wc_Dictionary_arcs, wi_Dictionary, by decide, by decide, by decide +kernel⟩
theorem wn_Dictionary_arcs : Cond.instanceMethod y_Dictionary_arcs ∈ AL := AL_in (List.mem_append_right _ (List.mem_of_getElem? (i := 501) (by decide +kernel))) (by decide +kernel)
theorem wx_Dictionary_arcs : Cond.selects "SuggestDesk$Dictionary" y_Dictionary_arcs y_Dictionary_arcs ∈ AL := AL_in (List.mem_append_right _ (List.mem_of_getElem? (i := 502) (by decide +kernel))) (by decide +kernel)
theorem sv_Dictionary_arcs : Cond.instanceMethod y_Dictionary_arcs ∈ AL ∧ Cond.selects y_Dictionary_arcs.cls y_Dictionary_arcs y_Dictionary_arcs ∈ AL := ⟨wn_Dictionary_arcs, wx_Dictionary_arcs⟩
theorem wl_S_164 : Cond.methodLink "SuggestDesk" 164 y_WordList_costAt ∈ AL := AL_in (List.mem_append_right _ (List.mem_of_getElem? (i := 514) (by decide +kernel))) (by decide +kernel)
theorem lk_S_164 : Lk "SuggestDesk" 164 y_WordList_costAt := Or.inl wl_S_164
theorem wl_S_158 : Cond.methodLink "SuggestDesk" 158 y_WordList_indexOf ∈ AL := AL_in (List.mem_append_right _ (List.mem_of_getElem? (i := 512) (by decide +kernel))) (by decide +kernel)
theorem lk_S_158 : Lk "SuggestDesk" 158 y_WordList_indexOf := Or.inl wl_S_158
theorem wl_S_206 : Cond.methodLink "SuggestDesk" 206 y_Pairs_add ∈ AL := AL_in (List.mem_append_right _ (List.mem_of_getElem? (i := 616) (by decide +kernel))) (by decide +kernel)
theorem lk_S_206 : Lk "SuggestDesk" 206 y_Pairs_add := Or.inl wl_S_206
theorem wc_Pairs_add : Cond.code y_Pairs_add b_Pairs_add 6 (some .int) ∈ AL := AL_in (List.mem_append_right _ (List.mem_of_getElem? (i := 619) (by decide +kernel))) (by decide +kernel)
theorem mw_Pairs_add : Mw y_Pairs_add b_Pairs_add 6 (some .int) 2 := ⟨wc_Pairs_add, wi_Pairs, by decide, by decide, by decide +kernel⟩
theorem wn_Pairs_add : Cond.instanceMethod y_Pairs_add ∈ AL := AL_in (List.mem_append_right _ (List.mem_of_getElem? (i := 617) (by decide +kernel))) (by decide +kernel)
theorem wx_Pairs_add : Cond.selects "SuggestDesk$Pairs" y_Pairs_add y_Pairs_add ∈ AL := AL_in (List.mem_append_right _ (List.mem_of_getElem? (i := 618) (by decide +kernel))) (by decide +kernel)
theorem sv_Pairs_add : Cond.instanceMethod y_Pairs_add ∈ AL ∧ Cond.selects y_Pairs_add.cls y_Pairs_add y_Pairs_add ∈ AL := ⟨wn_Pairs_add, wx_Pairs_add⟩
theorem wl_S_211 : Cond.methodLink "SuggestDesk" 211 y_Phrase_add ∈ AL := AL_in (List.mem_append_right _ (List.mem_of_getElem? (i := 632) (by decide +kernel))) (by decide +kernel)
theorem lk_S_211 : Lk "SuggestDesk" 211 y_Phrase_add := Or.inl wl_S_211
theorem wc_Phrase_add : Cond.code y_Phrase_add b_Phrase_add 3 (some .boolean) ∈ AL := AL_in (List.mem_append_right _ (List.mem_of_getElem? (i := 635) (by decide +kernel))) (by decide +kernel)
theorem mw_Phrase_add : Mw y_Phrase_add b_Phrase_add 3 (some .boolean) 1 := ⟨wc_Phrase_add, wi_Phrase, by decide, by decide, by decide +kernel⟩
theorem wn_Phrase_add : Cond.instanceMethod y_Phrase_add ∈ AL := AL_in (List.mem_append_right _ (List.mem_of_getElem? (i := 633) (by decide +kernel))) (by decide +kernel)
theorem wx_Phrase_add : Cond.selects "SuggestDesk$Phrase" y_Phrase_add y_Phrase_add ∈ AL := AL_in (List.mem_append_right _ (List.mem_of_getElem? (i := 634) (by decide +kernel))) (by decide +kernel)
theorem sv_Phrase_add : Cond.instanceMethod y_Phrase_add ∈ AL ∧ Cond.selects y_Phrase_add.cls y_Phrase_add y_Phrase_add ∈ AL := ⟨wn_Phrase_add, wx_Phrase_add⟩
theorem wl_S_215 : Cond.methodLink "SuggestDesk" 215 y_Phrase_size ∈ AL := AL_in (List.mem_append_right _ (List.mem_of_getElem? (i := 637) (by decide +kernel))) (by decide +kernel)
theorem lk_S_215 : Lk "SuggestDesk" 215 y_Phrase_size := Or.inl wl_S_215
theorem wc_Phrase_size : Cond.code y_Phrase_size b_Phrase_size 1 (some .int) ∈ AL := AL_in (List.mem_append_right _ (List.mem_of_getElem? (i := 640) (by decide +kernel))) (by decide +kernel)
theorem mw_Phrase_size : Mw y_Phrase_size b_Phrase_size 1 (some .int) 0 := ⟨wc_Phrase_size, wi_Phrase, by decide, by decide, by decide +kernel⟩
theorem wn_Phrase_size : Cond.instanceMethod y_Phrase_size ∈ AL := AL_in (List.mem_append_right _ (List.mem_of_getElem? (i := 638) (by decide +kernel))) (by decide +kernel)
theorem wx_Phrase_size : Cond.selects "SuggestDesk$Phrase" y_Phrase_size y_Phrase_size ∈ AL := AL_in (List.mem_append_right _ (List.mem_of_getElem? (i := 639) (by decide +kernel))) (by decide +kernel)
theorem sv_Phrase_size : Cond.instanceMethod y_Phrase_size ∈ AL ∧ Cond.selects y_Phrase_size.cls y_Phrase_size y_Phrase_size ∈ AL := ⟨wn_Phrase_size, wx_Phrase_size⟩
theorem wl_Phrase_72 : Cond.methodLink "SuggestDesk$Phrase" 72 y_Phrase_costWith ∈ AL := AL_in (List.mem_append_right _ (List.mem_of_getElem? (i := 669) (by decide +kernel))) (by decide +kernel)
theorem lk_Phrase_72 : Lk "SuggestDesk$Phrase" 72 y_Phrase_costWith := Or.inl wl_Phrase_72
theorem wc_Phrase_costWith : Cond.code y_Phrase_costWith b_Phrase_costWith 9 (some .int) ∈ AL := AL_in (List.mem_append_right _ (List.mem_of_getElem? (i := 672) (by decide +kernel))) (by decide +kernel)
theorem mw_Phrase_costWith : Mw y_Phrase_costWith b_Phrase_costWith 9 (some .int) 4 := ⟨wc_Phrase_costWith, wi_Phrase, by decide, by decide, by decide +kernel⟩
theorem wn_Phrase_costWith : Cond.instanceMethod y_Phrase_costWith ∈ AL := AL_in (List.mem_append_right _ (List.mem_of_getElem? (i := 671) (by decide +kernel))) (by decide +kernel)
theorem wx_Phrase_costWith : Cond.selects "SuggestDesk$Phrase" y_Phrase_costWith y_Phrase_costWith ∈ AL := AL_in (List.mem_append_left _ (List.mem_of_getElem? (i := 14) (by decide +kernel))) (by decide +kernel)
theorem sv_Phrase_costWith : Cond.instanceMethod y_Phrase_costWith ∈ AL ∧ Cond.selects y_Phrase_costWith.cls y_Phrase_costWith y_Phrase_costWith ∈ AL := ⟨wn_Phrase_costWith, wx_Phrase_costWith⟩
theorem wl_Ruler_16 : Cond.methodLink "SuggestDesk$Ruler" 16 y_Texts_lengthOf ∈ AL := AL_in (List.mem_append_right _ (List.mem_of_getElem? (i := 563) (by decide +kernel))) (by decide +kernel)
theorem lk_Ruler_16 : Lk "SuggestDesk$Ruler" 16 y_Texts_lengthOf := Or.inl wl_Ruler_16
theorem wl_Ruler_22 : Cond.methodLink "SuggestDesk$Ruler" 22 y_Ruler_leastChanges ∈ AL := AL_in (List.mem_append_right _ (List.mem_of_getElem? (i := 564) (by decide +kernel))) (by decide +kernel)
theorem lk_Ruler_22 : Lk "SuggestDesk$Ruler" 22 y_Ruler_leastChanges := Or.inl wl_Ruler_22
theorem wc_Ruler_leastChanges : Cond.code y_Ruler_leastChanges b_Ruler_leastChanges 10 (some .int) ∈ AL := AL_in (List.mem_append_right _ (List.mem_of_getElem? (i := 567) (by decide +kernel))) (by decide +kernel)
theorem mw_Ruler_leastChanges : Mw y_Ruler_leastChanges b_Ruler_leastChanges 10 (some .int) 4 := ⟨wc_Ruler_leastChanges, wi_Ruler, by decide, by decide, by decide +kernel⟩
theorem wn_Ruler_leastChanges : Cond.instanceMethod y_Ruler_leastChanges ∈ AL := AL_in (List.mem_append_right _ (List.mem_of_getElem? (i := 566) (by decide +kernel))) (by decide +kernel)
theorem wx_Ruler_leastChanges : Cond.selects "SuggestDesk$Ruler" y_Ruler_leastChanges y_Ruler_leastChanges ∈ AL := AL_in (List.mem_append_left _ (List.mem_of_getElem? (i := 10) (by decide +kernel))) (by decide +kernel)
theorem sv_Ruler_leastChanges : Cond.instanceMethod y_Ruler_leastChanges ∈ AL ∧ Cond.selects y_Ruler_leastChanges.cls y_Ruler_leastChanges y_Ruler_leastChanges ∈ AL := ⟨wn_Ruler_leastChanges, wx_Ruler_leastChanges⟩
theorem wl_Suggestions_32 : Cond.methodLink "SuggestDesk$Suggestions" 32 y_Texts_lengthOf ∈ AL := AL_in (List.mem_append_right _ (List.mem_of_getElem? (i := 534) (by decide +kernel))) (by decide +kernel)
theorem lk_Suggestions_32 : Lk "SuggestDesk$Suggestions" 32 y_Texts_lengthOf := Or.inl wl_Suggestions_32
theorem wl_Suggestions_47 : Cond.methodLink "SuggestDesk$Suggestions" 47 y_Texts_head ∈ AL := AL_in (List.mem_append_right _ (List.mem_of_getElem? (i := 537) (by decide +kernel))) (by decide +kernel)
theorem lk_Suggestions_47 : Lk "SuggestDesk$Suggestions" 47 y_Texts_head := Or.inl wl_Suggestions_47
theorem wl_Suggestions_51 : Cond.methodLink "SuggestDesk$Suggestions" 51 y_WordList_costAt ∈ AL := AL_in (List.mem_append_right _ (List.mem_of_getElem? (i := 538) (by decide +kernel))) (by decide +kernel)
theorem lk_Suggestions_51 : Lk "SuggestDesk$Suggestions" 51 y_WordList_costAt := Or.inl wl_Suggestions_51
theorem wl_Suggestions_55 : Cond.methodLink "SuggestDesk$Suggestions" 55 y_Suggestions_offer ∈ AL := AL_in (List.mem_append_right _ (List.mem_of_getElem? (i := 539) (by decide +kernel))) (by decide +kernel)
theorem lk_Suggestions_55 : Lk "SuggestDesk$Suggestions" 55 y_Suggestions_offer := Or.inl wl_Suggestions_55
theorem wc_Suggestions_offer : Cond.code y_Suggestions_offer b_Suggestions_offer 7 none ∈ AL := AL_in (List.mem_append_right _ (List.mem_of_getElem? (i := 542) (by decide +kernel))) (by decide +kernel)
theorem mw_Suggestions_offer : Mw y_Suggestions_offer b_Suggestions_offer 7 none 2 := ⟨wc_Suggestions_offer, wi_Suggestions, by decide, by decide, by decide +kernel⟩
theorem wn_Suggestions_offer : Cond.instanceMethod y_Suggestions_offer ∈ AL := AL_in (List.mem_append_right _ (List.mem_of_getElem? (i := 541) (by decide +kernel))) (by decide +kernel)
theorem wx_Suggestions_offer : Cond.selects "SuggestDesk$Suggestions" y_Suggestions_offer y_Suggestions_offer ∈ AL := AL_in (List.mem_append_left _ (List.mem_of_getElem? (i := 9) (by decide +kernel))) (by decide +kernel)
theorem sv_Suggestions_offer : Cond.instanceMethod y_Suggestions_offer ∈ AL ∧ Cond.selects y_Suggestions_offer.cls y_Suggestions_offer y_Suggestions_offer ∈ AL := ⟨wn_Suggestions_offer, wx_Suggestions_offer⟩
theorem wl_Suggestions_59 : Cond.methodLink "SuggestDesk$Suggestions" 59 y_Ruler_between ∈ AL := AL_in (List.mem_append_right _ (List.mem_of_getElem? (i := 559) (by decide +kernel))) (by decide +kernel)
theorem lk_Suggestions_59 : Lk "SuggestDesk$Suggestions" 59 y_Ruler_between := Or.inl wl_Suggestions_59
theorem wc_Ruler_between : Cond.code y_Ruler_between b_Ruler_between 9 (some .int) ∈ AL := AL_in (List.mem_append_right _ (List.mem_of_getElem? (i := 562) (by decide +kernel))) (by decide +kernel)
theorem mw_Ruler_between : Mw y_Ruler_between b_Ruler_between 9 (some .int) 2 := ⟨wc_Ruler_between, wi_Ruler, by decide, by decide, by decide +kernel⟩
theorem wn_Ruler_between : Cond.instanceMethod y_Ruler_between ∈ AL := AL_in (List.mem_append_right _ (List.mem_of_getElem? (i := 560) (by decide +kernel))) (by decide +kernel)
theorem wx_Ruler_between : Cond.selects "SuggestDesk$Ruler" y_Ruler_between y_Ruler_between ∈ AL := AL_in (List.mem_append_right _ (List.mem_of_getElem? (i := 561) (by decide +kernel))) (by decide +kernel)
theorem sv_Ruler_between : Cond.instanceMethod y_Ruler_between ∈ AL ∧ Cond.selects y_Ruler_between.cls y_Ruler_between y_Ruler_between ∈ AL := ⟨wn_Ruler_between, wx_Ruler_between⟩
theorem wl_Automaton_62 : Cond.methodLink "SuggestDesk$Automaton" 62 y_Automaton_behaveTheSame ∈ AL := AL_in (List.mem_append_right _ (List.mem_of_getElem? (i := 403) (by decide +kernel))) (by decide +kernel)
theorem lk_Automaton_62 : Lk "SuggestDesk$Automaton" 62 y_Automaton_behaveTheSame := Or.inl wl_Automaton_62
theorem wc_Automaton_behaveTheSame : Cond.code y_Automaton_behaveTheSame b_Automaton_behaveTheSame 5 (some .boolean) ∈ AL := AL_in (List.mem_append_right _ (List.mem_of_getElem? (i := 406) (by decide +kernel))) (by decide +kernel)
theorem mw_Automaton_behaveTheSame : Mw y_Automaton_behaveTheSame b_Automaton_behaveTheSame 5 (some .boolean) 3 := ⟨wc_Automaton_behaveTheSame, wi_Automaton, by decide, by decide, by decide +kernel⟩
theorem wn_Automaton_behaveTheSame : Cond.instanceMethod y_Automaton_behaveTheSame ∈ AL := AL_in (List.mem_append_right _ (List.mem_of_getElem? (i := 405) (by decide +kernel))) (by decide +kernel)
theorem wx_Automaton_behaveTheSame : Cond.selects "SuggestDesk$Automaton" y_Automaton_behaveTheSame y_Automaton_behaveTheSame ∈ AL := AL_in (List.mem_append_left _ (List.mem_of_getElem? (i := 5) (by decide +kernel))) (by decide +kernel)
theorem sv_Automaton_behaveTheSame : Cond.instanceMethod y_Automaton_behaveTheSame ∈ AL ∧ Cond.selects y_Automaton_behaveTheSame.cls y_Automaton_behaveTheSame y_Automaton_behaveTheSame ∈ AL := ⟨wn_Automaton_behaveTheSame, wx_Automaton_behaveTheSame⟩
theorem wl_Automaton_66 : Cond.methodLink "SuggestDesk$Automaton" 66 y_Automaton_countArcs ∈ AL := AL_in (List.mem_append_right _ (List.mem_of_getElem? (i := 418) (by decide +kernel))) (by decide +kernel)
theorem lk_Automaton_66 : Lk "SuggestDesk$Automaton" 66 y_Automaton_countArcs := Or.inl wl_Automaton_66
theorem wc_Automaton_countArcs : Cond.code y_Automaton_countArcs b_Automaton_countArcs 7 (some .int) ∈ AL := AL_in (List.mem_append_right _ (List.mem_of_getElem? (i := 421) (by decide +kernel))) (by decide +kernel)
theorem mw_Automaton_countArcs : Mw y_Automaton_countArcs b_Automaton_countArcs 7 (some .int) 2 := ⟨wc_Automaton_countArcs, wi_Automaton, by decide, by decide, by decide +kernel⟩
theorem wn_Automaton_countArcs : Cond.instanceMethod y_Automaton_countArcs ∈ AL := AL_in (List.mem_append_right _ (List.mem_of_getElem? (i := 420) (by decide +kernel))) (by decide +kernel)
theorem wx_Automaton_countArcs : Cond.selects "SuggestDesk$Automaton" y_Automaton_countArcs y_Automaton_countArcs ∈ AL := AL_in (List.mem_append_left _ (List.mem_of_getElem? (i := 8) (by decide +kernel))) (by decide +kernel)
theorem sv_Automaton_countArcs : Cond.instanceMethod y_Automaton_countArcs ∈ AL ∧ Cond.selects y_Automaton_countArcs.cls y_Automaton_countArcs y_Automaton_countArcs ∈ AL := ⟨wn_Automaton_countArcs, wx_Automaton_countArcs⟩
theorem wl_S_179 : Cond.methodLink "SuggestDesk" 179 y_Suggestions_takeBeginning ∈ AL := AL_in (List.mem_append_right _ (List.mem_of_getElem? (i := 530) (by decide +kernel))) (by decide +kernel)
theorem lk_S_179 : Lk "SuggestDesk" 179 y_Suggestions_takeBeginning := Or.inl wl_S_179
theorem wc_Suggestions_takeBeginning : Cond.code y_Suggestions_takeBeginning b_Suggestions_takeBeginning 6 none ∈ AL := AL_in (List.mem_append_right _ (List.mem_of_getElem? (i := 533) (by decide +kernel))) (by decide +kernel)
theorem mw_Suggestions_takeBeginning : Mw y_Suggestions_takeBeginning b_Suggestions_takeBeginning 6 none 2 := ⟨wc_Suggestions_takeBeginning, wi_Suggestions, by decide, by decide, by decide +kernel⟩
theorem wn_Suggestions_takeBeginning : Cond.instanceMethod y_Suggestions_takeBeginning ∈ AL := AL_in (List.mem_append_right _ (List.mem_of_getElem? (i := 531) (by decide +kernel))) (by decide +kernel)
theorem wx_Suggestions_takeBeginning : Cond.selects "SuggestDesk$Suggestions" y_Suggestions_takeBeginning y_Suggestions_takeBeginning ∈ AL := AL_in (List.mem_append_right _ (List.mem_of_getElem? (i := 532) (by decide +kernel))) (by decide +kernel)
theorem sv_Suggestions_takeBeginning : Cond.instanceMethod y_Suggestions_takeBeginning ∈ AL ∧ Cond.selects y_Suggestions_takeBeginning.cls y_Suggestions_takeBeginning y_Suggestions_takeBeginning ∈ AL := ⟨wn_Suggestions_takeBeginning, wx_Suggestions_takeBeginning⟩
theorem wl_S_186 : Cond.methodLink "SuggestDesk" 186 y_Suggestions_takeNear ∈ AL := AL_in (List.mem_append_right _ (List.mem_of_getElem? (i := 555) (by decide +kernel))) (by decide +kernel)
theorem lk_S_186 : Lk "SuggestDesk" 186 y_Suggestions_takeNear := Or.inl wl_S_186
theorem wc_Suggestions_takeNear : Cond.code y_Suggestions_takeNear b_Suggestions_takeNear 8 none ∈ AL := AL_in (List.mem_append_right _ (List.mem_of_getElem? (i := 558) (by decide +kernel))) (by decide +kernel)
theorem mw_Suggestions_takeNear : Mw y_Suggestions_takeNear b_Suggestions_takeNear 8 none 4 := ⟨wc_Suggestions_takeNear, wi_Suggestions, by decide, by decide, by decide +kernel⟩
theorem wn_Suggestions_takeNear : Cond.instanceMethod y_Suggestions_takeNear ∈ AL := AL_in (List.mem_append_right _ (List.mem_of_getElem? (i := 556) (by decide +kernel))) (by decide +kernel)
theorem wx_Suggestions_takeNear : Cond.selects "SuggestDesk$Suggestions" y_Suggestions_takeNear y_Suggestions_takeNear ∈ AL := AL_in (List.mem_append_right _ (List.mem_of_getElem? (i := 557) (by decide +kernel))) (by decide +kernel)
theorem sv_Suggestions_takeNear : Cond.instanceMethod y_Suggestions_takeNear ∈ AL ∧ Cond.selects y_Suggestions_takeNear.cls y_Suggestions_takeNear y_Suggestions_takeNear ∈ AL := ⟨wn_Suggestions_takeNear, wx_Suggestions_takeNear⟩
theorem wl_S_202 : Cond.methodLink "SuggestDesk" 202 y_Ruler_between ∈ AL := AL_in (List.mem_append_right _ (List.mem_of_getElem? (i := 608) (by decide +kernel))) (by decide +kernel)
theorem lk_S_202 : Lk "SuggestDesk" 202 y_Ruler_between := Or.inl wl_S_202
theorem wl_Phrase_62 : Cond.methodLink "SuggestDesk$Phrase" 62 y_Ruler_between ∈ AL := AL_in (List.mem_append_right _ (List.mem_of_getElem? (i := 663) (by decide +kernel))) (by decide +kernel)
theorem lk_Phrase_62 : Lk "SuggestDesk$Phrase" 62 y_Ruler_between := Or.inl wl_Phrase_62
theorem wl_Phrase_68 : Cond.methodLink "SuggestDesk$Phrase" 68 y_WordList_costAt ∈ AL := AL_in (List.mem_append_right _ (List.mem_of_getElem? (i := 664) (by decide +kernel))) (by decide +kernel)
theorem lk_Phrase_68 : Lk "SuggestDesk$Phrase" 68 y_WordList_costAt := Or.inl wl_Phrase_68
theorem wl_Automaton_51 : Cond.methodLink "SuggestDesk$Automaton" 51 y_Automaton_addBeginning ∈ AL := AL_in (List.mem_append_right _ (List.mem_of_getElem? (i := 382) (by decide +kernel))) (by decide +kernel)
theorem lk_Automaton_51 : Lk "SuggestDesk$Automaton" 51 y_Automaton_addBeginning := Or.inl wl_Automaton_51
theorem wc_Automaton_addBeginning : Cond.code y_Automaton_addBeginning b_Automaton_addBeginning 5 none ∈ AL := AL_in (List.mem_append_right _ (List.mem_of_getElem? (i := 385) (by decide +kernel))) (by decide +kernel)
theorem mw_Automaton_addBeginning : Mw y_Automaton_addBeginning b_Automaton_addBeginning 5 none 3 := ⟨wc_Automaton_addBeginning, wi_Automaton, by decide, by decide, by decide +kernel⟩
theorem wn_Automaton_addBeginning : Cond.instanceMethod y_Automaton_addBeginning ∈ AL := AL_in (List.mem_append_right _ (List.mem_of_getElem? (i := 384) (by decide +kernel))) (by decide +kernel)
theorem wx_Automaton_addBeginning : Cond.selects "SuggestDesk$Automaton" y_Automaton_addBeginning y_Automaton_addBeginning ∈ AL := AL_in (List.mem_append_left _ (List.mem_of_getElem? (i := 4) (by decide +kernel))) (by decide +kernel)
theorem sv_Automaton_addBeginning : Cond.instanceMethod y_Automaton_addBeginning ∈ AL ∧ Cond.selects y_Automaton_addBeginning.cls y_Automaton_addBeginning y_Automaton_addBeginning ∈ AL := ⟨wn_Automaton_addBeginning, wx_Automaton_addBeginning⟩
theorem wl_S_105 : Cond.methodLink "SuggestDesk" 105 y_Automaton_measure ∈ AL := AL_in (List.mem_append_right _ (List.mem_of_getElem? (i := 367) (by decide +kernel))) (by decide +kernel)
theorem lk_S_105 : Lk "SuggestDesk" 105 y_Automaton_measure := Or.inl wl_S_105
theorem wc_Automaton_measure : Cond.code y_Automaton_measure b_Automaton_measure 8 none ∈ AL := AL_in (List.mem_append_right _ (List.mem_of_getElem? (i := 370) (by decide +kernel))) (by decide +kernel)
theorem mw_Automaton_measure : Mw y_Automaton_measure b_Automaton_measure 8 none 1 := ⟨wc_Automaton_measure, wi_Automaton, by decide, by decide, by decide +kernel⟩
theorem wn_Automaton_measure : Cond.instanceMethod y_Automaton_measure ∈ AL := AL_in (List.mem_append_right _ (List.mem_of_getElem? (i := 368) (by decide +kernel))) (by decide +kernel)
theorem wx_Automaton_measure : Cond.selects "SuggestDesk$Automaton" y_Automaton_measure y_Automaton_measure ∈ AL := AL_in (List.mem_append_right _ (List.mem_of_getElem? (i := 369) (by decide +kernel))) (by decide +kernel)
theorem sv_Automaton_measure : Cond.instanceMethod y_Automaton_measure ∈ AL ∧ Cond.selects y_Automaton_measure.cls y_Automaton_measure y_Automaton_measure ∈ AL := ⟨wn_Automaton_measure, wx_Automaton_measure⟩
theorem wl_S_109 : Cond.methodLink "SuggestDesk" 109 y_Automaton_states ∈ AL := AL_in (List.mem_append_right _ (List.mem_of_getElem? (i := 423) (by decide +kernel))) (by decide +kernel)
theorem lk_S_109 : Lk "SuggestDesk" 109 y_Automaton_states := Or.inl wl_S_109
theorem wc_Automaton_states : Cond.code y_Automaton_states b_Automaton_states 1 (some .int) ∈ AL := AL_in (List.mem_append_right _ (List.mem_of_getElem? (i := 426) (by decide +kernel))) (by decide +kernel)
theorem mw_Automaton_states : Mw y_Automaton_states b_Automaton_states 1 (some .int) 0 := ⟨wc_Automaton_states, wi_Automaton, by decide, by decide, by decide +kernel⟩
theorem wn_Automaton_states : Cond.instanceMethod y_Automaton_states ∈ AL := AL_in (List.mem_append_right _ (List.mem_of_getElem? (i := 424) (by decide +kernel))) (by decide +kernel)
theorem wx_Automaton_states : Cond.selects "SuggestDesk$Automaton" y_Automaton_states y_Automaton_states ∈ AL := AL_in (List.mem_append_right _ (List.mem_of_getElem? (i := 425) (by decide +kernel))) (by decide +kernel)
theorem sv_Automaton_states : Cond.instanceMethod y_Automaton_states ∈ AL ∧ Cond.selects y_Automaton_states.cls y_Automaton_states y_Automaton_states ∈ AL := ⟨wn_Automaton_states, wx_Automaton_states⟩
theorem wl_S_112 : Cond.methodLink "SuggestDesk" 112 y_Automaton_arcs ∈ AL := AL_in (List.mem_append_right _ (List.mem_of_getElem? (i := 427) (by decide +kernel))) (by decide +kernel)
theorem lk_S_112 : Lk "SuggestDesk" 112 y_Automaton_arcs := Or.inl wl_S_112
theorem wc_Automaton_arcs : Cond.code y_Automaton_arcs b_Automaton_arcs 1 (some .int) ∈ AL := AL_in (List.mem_append_right _ (List.mem_of_getElem? (i := 430) (by decide +kernel))) (by decide +kernel)
theorem mw_Automaton_arcs : Mw y_Automaton_arcs b_Automaton_arcs 1 (some .int) 0 := ⟨wc_Automaton_arcs, wi_Automaton, by decide, by decide, by decide +kernel⟩
theorem wn_Automaton_arcs : Cond.instanceMethod y_Automaton_arcs ∈ AL := AL_in (List.mem_append_right _ (List.mem_of_getElem? (i := 428) (by decide +kernel))) (by decide +kernel)
theorem wx_Automaton_arcs : Cond.selects "SuggestDesk$Automaton" y_Automaton_arcs y_Automaton_arcs ∈ AL := AL_in (List.mem_append_right _ (List.mem_of_getElem? (i := 429) (by decide +kernel))) (by decide +kernel)
theorem sv_Automaton_arcs : Cond.instanceMethod y_Automaton_arcs ∈ AL ∧ Cond.selects y_Automaton_arcs.cls y_Automaton_arcs y_Automaton_arcs ∈ AL := ⟨wn_Automaton_arcs, wx_Automaton_arcs⟩
theorem wl_S_115 : Cond.methodLink "SuggestDesk" 115 y_Dictionary_fill ∈ AL := AL_in (List.mem_append_right _ (List.mem_of_getElem? (i := 431) (by decide +kernel))) (by decide +kernel)
theorem lk_S_115 : Lk "SuggestDesk" 115 y_Dictionary_fill := Or.inl wl_S_115
theorem wc_Dictionary_fill : Cond.code y_Dictionary_fill b_Dictionary_fill 5 none ∈ AL := AL_in (List.mem_append_right _ (List.mem_of_getElem? (i := 434) (by decide +kernel))) (by decide +kernel)
theorem mw_Dictionary_fill : Mw y_Dictionary_fill b_Dictionary_fill 5 none 4 := ⟨wc_Dictionary_fill, wi_Dictionary, by decide, by decide, by decide +kernel⟩
theorem wn_Dictionary_fill : Cond.instanceMethod y_Dictionary_fill ∈ AL := AL_in (List.mem_append_right _ (List.mem_of_getElem? (i := 432) (by decide +kernel))) (by decide +kernel)
theorem wx_Dictionary_fill : Cond.selects "SuggestDesk$Dictionary" y_Dictionary_fill y_Dictionary_fill ∈ AL := AL_in (List.mem_append_right _ (List.mem_of_getElem? (i := 433) (by decide +kernel))) (by decide +kernel)
theorem sv_Dictionary_fill : Cond.instanceMethod y_Dictionary_fill ∈ AL ∧ Cond.selects y_Dictionary_fill.cls y_Dictionary_fill y_Dictionary_fill ∈ AL := ⟨wn_Dictionary_fill, wx_Dictionary_fill⟩
theorem wl_Phrase_42 : Cond.methodLink "SuggestDesk$Phrase" 42 y_Phrase_gather ∈ AL := AL_in (List.mem_append_right _ (List.mem_of_getElem? (i := 657) (by decide +kernel))) (by decide +kernel)
theorem lk_Phrase_42 : Lk "SuggestDesk$Phrase" 42 y_Phrase_gather := Or.inl wl_Phrase_42
theorem wc_Phrase_gather : Cond.code y_Phrase_gather b_Phrase_gather 7 none ∈ AL := AL_in (List.mem_append_right _ (List.mem_of_getElem? (i := 660) (by decide +kernel))) (by decide +kernel)
theorem mw_Phrase_gather : Mw y_Phrase_gather b_Phrase_gather 7 none 3 := ⟨wc_Phrase_gather, wi_Phrase, by decide, by decide, by decide +kernel⟩
theorem wn_Phrase_gather : Cond.instanceMethod y_Phrase_gather ∈ AL := AL_in (List.mem_append_right _ (List.mem_of_getElem? (i := 659) (by decide +kernel))) (by decide +kernel)
theorem wx_Phrase_gather : Cond.selects "SuggestDesk$Phrase" y_Phrase_gather y_Phrase_gather ∈ AL := AL_in (List.mem_append_left _ (List.mem_of_getElem? (i := 12) (by decide +kernel))) (by decide +kernel)
theorem sv_Phrase_gather : Cond.instanceMethod y_Phrase_gather ∈ AL ∧ Cond.selects y_Phrase_gather.cls y_Phrase_gather y_Phrase_gather ∈ AL := ⟨wn_Phrase_gather, wx_Phrase_gather⟩
theorem wl_Phrase_46 : Cond.methodLink "SuggestDesk$Phrase" 46 y_Phrase_chooseFollowers ∈ AL := AL_in (List.mem_append_right _ (List.mem_of_getElem? (i := 665) (by decide +kernel))) (by decide +kernel)
theorem lk_Phrase_46 : Lk "SuggestDesk$Phrase" 46 y_Phrase_chooseFollowers := Or.inl wl_Phrase_46
theorem wc_Phrase_chooseFollowers : Cond.code y_Phrase_chooseFollowers b_Phrase_chooseFollowers 8 none ∈ AL := AL_in (List.mem_append_right _ (List.mem_of_getElem? (i := 668) (by decide +kernel))) (by decide +kernel)
theorem mw_Phrase_chooseFollowers : Mw y_Phrase_chooseFollowers b_Phrase_chooseFollowers 8 none 2 := ⟨wc_Phrase_chooseFollowers, wi_Phrase, by decide, by decide, by decide +kernel⟩
theorem wn_Phrase_chooseFollowers : Cond.instanceMethod y_Phrase_chooseFollowers ∈ AL := AL_in (List.mem_append_right _ (List.mem_of_getElem? (i := 667) (by decide +kernel))) (by decide +kernel)
theorem wx_Phrase_chooseFollowers : Cond.selects "SuggestDesk$Phrase" y_Phrase_chooseFollowers y_Phrase_chooseFollowers ∈ AL := AL_in (List.mem_append_left _ (List.mem_of_getElem? (i := 13) (by decide +kernel))) (by decide +kernel)
theorem sv_Phrase_chooseFollowers : Cond.instanceMethod y_Phrase_chooseFollowers ∈ AL ∧ Cond.selects y_Phrase_chooseFollowers.cls y_Phrase_chooseFollowers y_Phrase_chooseFollowers ∈ AL := ⟨wn_Phrase_chooseFollowers, wx_Phrase_chooseFollowers⟩
theorem wl_Phrase_50 : Cond.methodLink "SuggestDesk$Phrase" 50 y_Phrase_choose ∈ AL := AL_in (List.mem_append_right _ (List.mem_of_getElem? (i := 678) (by decide +kernel))) (by decide +kernel)
theorem lk_Phrase_50 : Lk "SuggestDesk$Phrase" 50 y_Phrase_choose := Or.inl wl_Phrase_50
theorem wc_Phrase_choose : Cond.code y_Phrase_choose b_Phrase_choose 4 (some .int) ∈ AL := AL_in (List.mem_append_right _ (List.mem_of_getElem? (i := 681) (by decide +kernel))) (by decide +kernel)
theorem mw_Phrase_choose : Mw y_Phrase_choose b_Phrase_choose 4 (some .int) 0 := ⟨wc_Phrase_choose, wi_Phrase, by decide, by decide, by decide +kernel⟩
theorem wn_Phrase_choose : Cond.instanceMethod y_Phrase_choose ∈ AL := AL_in (List.mem_append_right _ (List.mem_of_getElem? (i := 680) (by decide +kernel))) (by decide +kernel)
theorem wx_Phrase_choose : Cond.selects "SuggestDesk$Phrase" y_Phrase_choose y_Phrase_choose ∈ AL := AL_in (List.mem_append_left _ (List.mem_of_getElem? (i := 15) (by decide +kernel))) (by decide +kernel)
theorem sv_Phrase_choose : Cond.instanceMethod y_Phrase_choose ∈ AL ∧ Cond.selects y_Phrase_choose.cls y_Phrase_choose y_Phrase_choose ∈ AL := ⟨wn_Phrase_choose, wx_Phrase_choose⟩
theorem wl_S_219 : Cond.methodLink "SuggestDesk" 219 y_Phrase_settle ∈ AL := AL_in (List.mem_append_right _ (List.mem_of_getElem? (i := 653) (by decide +kernel))) (by decide +kernel)
theorem lk_S_219 : Lk "SuggestDesk" 219 y_Phrase_settle := Or.inl wl_S_219
theorem wc_Phrase_settle : Cond.code y_Phrase_settle b_Phrase_settle 5 (some .int) ∈ AL := AL_in (List.mem_append_right _ (List.mem_of_getElem? (i := 656) (by decide +kernel))) (by decide +kernel)
theorem mw_Phrase_settle : Mw y_Phrase_settle b_Phrase_settle 5 (some .int) 3 := ⟨wc_Phrase_settle, wi_Phrase, by decide, by decide, by decide +kernel⟩
theorem wn_Phrase_settle : Cond.instanceMethod y_Phrase_settle ∈ AL := AL_in (List.mem_append_right _ (List.mem_of_getElem? (i := 654) (by decide +kernel))) (by decide +kernel)
theorem wx_Phrase_settle : Cond.selects "SuggestDesk$Phrase" y_Phrase_settle y_Phrase_settle ∈ AL := AL_in (List.mem_append_right _ (List.mem_of_getElem? (i := 655) (by decide +kernel))) (by decide +kernel)
theorem sv_Phrase_settle : Cond.instanceMethod y_Phrase_settle ∈ AL ∧ Cond.selects y_Phrase_settle.cls y_Phrase_settle y_Phrase_settle ∈ AL := ⟨wn_Phrase_settle, wx_Phrase_settle⟩
theorem wl_S_216 : Cond.methodLink "SuggestDesk" 216 y_Phrase_clear ∈ AL := AL_in (List.mem_append_right _ (List.mem_of_getElem? (i := 648) (by decide +kernel))) (by decide +kernel)
theorem lk_S_216 : Lk "SuggestDesk" 216 y_Phrase_clear := Or.inl wl_S_216
theorem wc_Phrase_clear : Cond.code y_Phrase_clear b_Phrase_clear 1 none ∈ AL := AL_in (List.mem_append_right _ (List.mem_of_getElem? (i := 651) (by decide +kernel))) (by decide +kernel)
theorem mw_Phrase_clear : Mw y_Phrase_clear b_Phrase_clear 1 none 0 := ⟨wc_Phrase_clear, wi_Phrase, by decide, by decide, by decide +kernel⟩
theorem wn_Phrase_clear : Cond.instanceMethod y_Phrase_clear ∈ AL := AL_in (List.mem_append_right _ (List.mem_of_getElem? (i := 649) (by decide +kernel))) (by decide +kernel)
theorem wx_Phrase_clear : Cond.selects "SuggestDesk$Phrase" y_Phrase_clear y_Phrase_clear ∈ AL := AL_in (List.mem_append_right _ (List.mem_of_getElem? (i := 650) (by decide +kernel))) (by decide +kernel)
theorem sv_Phrase_clear : Cond.instanceMethod y_Phrase_clear ∈ AL ∧ Cond.selects y_Phrase_clear.cls y_Phrase_clear y_Phrase_clear ∈ AL := ⟨wn_Phrase_clear, wx_Phrase_clear⟩
