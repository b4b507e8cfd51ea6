theorem wl_L_7 : Cond.methodLink "SuggestDeskLaw" 7 y_S_word ∈ AL := AL_in (List.mem_append_right _ (List.mem_of_getElem? (i := 240) (by decide +kernel))) (by decide +kernel)
theorem lk_L_7 : Lk "SuggestDeskLaw" 7 y_S_word := Or.inl wl_L_7
theorem wc_S_word : Cond.code y_S_word b_S_word 4 (some .int) ∈ AL := AL_in (List.mem_append_right _ (List.mem_of_getElem? (i := 243) (by decide +kernel))) (by decide +kernel)
theorem mw_S_word : Mw y_S_word b_S_word 4 (some .int) 2 := ⟨wc_S_word, wi_S, by decide, by decide, by decide +kernel⟩
theorem wn_S_word : Cond.instanceMethod y_S_word ∈ AL := AL_in (List.mem_append_right _ (List.mem_of_getElem? (i := 241) (by decide +kernel))) (by decide +kernel)
theorem wx_S_word : Cond.selects "SuggestDesk" y_S_word y_S_word ∈ AL := AL_in (List.mem_append_right _ (List.mem_of_getElem? (i := 242) (by decide +kernel))) (by decide +kernel)
theorem sv_S_word : Cond.instanceMethod y_S_word ∈ AL ∧ Cond.selects y_S_word.cls y_S_word y_S_word ∈ AL := ⟨wn_S_word, wx_S_word⟩
theorem wx_L_13 : Cond.classLink "SuggestDeskLaw" 13 (EXn 1) ∈ AL := AL_in (List.mem_append_right _ (List.mem_of_getElem? (i := 238) (by decide +kernel))) (by decide +kernel)
theorem wx_L_15 : Cond.classLink "SuggestDeskLaw" 15 (EXn 2) ∈ AL := AL_in (List.mem_append_right _ (List.mem_of_getElem? (i := 239) (by decide +kernel))) (by decide +kernel)
theorem hk_L_word_2 : Hk "SuggestDeskLaw" [(0, 11, 14, 13), (0, 11, 18, 15)] 6 2 18 := ⟨by decide, [(0, 11, 14, 13)], (0, 11, 18, 15), [], rfl, by decide, rfl, ⟨by decide, wx_L_15⟩, fun y hy => by cases List.mem_singleton.mp hy; exact ⟨by decide, 1, by decide, by decide, wx_L_13⟩⟩
theorem hk_L_word_1 : Hk "SuggestDeskLaw" [(0, 11, 14, 13), (0, 11, 18, 15)] 6 1 14 := ⟨by decide, [], (0, 11, 14, 13), [(0, 11, 18, 15)], rfl, by decide, rfl, ⟨by decide, wx_L_13⟩, fun y hy => nomatch hy⟩
theorem wl_L_17 : Cond.methodLink "SuggestDeskLaw" 17 y_S_build ∈ AL := AL_in (List.mem_append_right _ (List.mem_of_getElem? (i := 341) (by decide +kernel))) (by decide +kernel)
theorem lk_L_17 : Lk "SuggestDeskLaw" 17 y_S_build := Or.inl wl_L_17
theorem wc_S_build : Cond.code y_S_build b_S_build 2 (some .int) ∈ AL := AL_in (List.mem_append_right _ (List.mem_of_getElem? (i := 344) (by decide +kernel))) (by decide +kernel)
theorem mw_S_build : Mw y_S_build b_S_build 2 (some .int) 0 := ⟨wc_S_build, wi_S, by decide, by decide, by decide +kernel⟩
theorem wn_S_build : Cond.instanceMethod y_S_build ∈ AL := AL_in (List.mem_append_right _ (List.mem_of_getElem? (i := 342) (by decide +kernel))) (by decide +kernel)
theorem wx_S_build : Cond.selects "SuggestDesk" y_S_build y_S_build ∈ AL := AL_in (List.mem_append_right _ (List.mem_of_getElem? (i := 343) (by decide +kernel))) (by decide +kernel)
theorem sv_S_build : Cond.instanceMethod y_S_build ∈ AL ∧ Cond.selects y_S_build.cls y_S_build y_S_build ∈ AL := ⟨wn_S_build, wx_S_build⟩
theorem hk_L_build_2 : Hk "SuggestDeskLaw" [(0, 8, 11, 15)] 3 2 11 := ⟨by decide, [], (0, 8, 11, 15), [], rfl, by decide, rfl, ⟨by decide, wx_L_15⟩, fun y hy => nomatch hy⟩
theorem wl_L_21 : Cond.methodLink "SuggestDeskLaw" 21 y_S_hold ∈ AL := AL_in (List.mem_append_right _ (List.mem_of_getElem? (i := 442) (by decide +kernel))) (by decide +kernel)
theorem lk_L_21 : Lk "SuggestDeskLaw" 21 y_S_hold := Or.inl wl_L_21
theorem wc_S_hold : Cond.code y_S_hold b_S_hold 2 (some .int) ∈ AL := AL_in (List.mem_append_right _ (List.mem_of_getElem? (i := 445) (by decide +kernel))) (by decide +kernel)
theorem mw_S_hold : Mw y_S_hold b_S_hold 2 (some .int) 0 := ⟨wc_S_hold, wi_S, by decide, by decide, by decide +kernel⟩
theorem wn_S_hold : Cond.instanceMethod y_S_hold ∈ AL := AL_in (List.mem_append_right _ (List.mem_of_getElem? (i := 443) (by decide +kernel))) (by decide +kernel)
theorem wx_S_hold : Cond.selects "SuggestDesk" y_S_hold y_S_hold ∈ AL := AL_in (List.mem_append_right _ (List.mem_of_getElem? (i := 444) (by decide +kernel))) (by decide +kernel)
theorem sv_S_hold : Cond.instanceMethod y_S_hold ∈ AL ∧ Cond.selects y_S_hold.cls y_S_hold y_S_hold ∈ AL := ⟨wn_S_hold, wx_S_hold⟩
theorem hk_L_hold_2 : Hk "SuggestDeskLaw" [(0, 8, 11, 15)] 3 2 11 := ⟨by decide, [], (0, 8, 11, 15), [], rfl, by decide, rfl, ⟨by decide, wx_L_15⟩, fun y hy => nomatch hy⟩
theorem wl_L_24 : Cond.methodLink "SuggestDeskLaw" 24 y_S_release ∈ AL := AL_in (List.mem_append_right _ (List.mem_of_getElem? (i := 455) (by decide +kernel))) (by decide +kernel)
theorem lk_L_24 : Lk "SuggestDeskLaw" 24 y_S_release := Or.inl wl_L_24
theorem wc_S_release : Cond.code y_S_release b_S_release 3 (some .boolean) ∈ AL := AL_in (List.mem_append_right _ (List.mem_of_getElem? (i := 458) (by decide +kernel))) (by decide +kernel)
theorem mw_S_release : Mw y_S_release b_S_release 3 (some .boolean) 1 := ⟨wc_S_release, wi_S, by decide, by decide, by decide +kernel⟩
theorem wn_S_release : Cond.instanceMethod y_S_release ∈ AL := AL_in (List.mem_append_right _ (List.mem_of_getElem? (i := 456) (by decide +kernel))) (by decide +kernel)
theorem wx_S_release : Cond.selects "SuggestDesk" y_S_release y_S_release ∈ AL := AL_in (List.mem_append_right _ (List.mem_of_getElem? (i := 457) (by decide +kernel))) (by decide +kernel)
theorem sv_S_release : Cond.instanceMethod y_S_release ∈ AL ∧ Cond.selects y_S_release.cls y_S_release y_S_release ∈ AL := ⟨wn_S_release, wx_S_release⟩
theorem hk_L_release_1 : Hk "SuggestDeskLaw" [(0, 16, 19, 13)] 4 1 19 := ⟨by decide, [], (0, 16, 19, 13), [], rfl, by decide, rfl, ⟨by decide, wx_L_13⟩, fun y hy => nomatch hy⟩
theorem wl_L_28 : Cond.methodLink "SuggestDeskLaw" 28 y_S_look ∈ AL := AL_in (List.mem_append_right _ (List.mem_of_getElem? (i := 472) (by decide +kernel))) (by decide +kernel)
theorem lk_L_28 : Lk "SuggestDeskLaw" 28 y_S_look := Or.inl wl_L_28
theorem wc_S_look : Cond.code y_S_look b_S_look 4 (some .int) ∈ AL := AL_in (List.mem_append_right _ (List.mem_of_getElem? (i := 475) (by decide +kernel))) (by decide +kernel)
theorem mw_S_look : Mw y_S_look b_S_look 4 (some .int) 2 := ⟨wc_S_look, wi_S, by decide, by decide, by decide +kernel⟩
theorem wn_S_look : Cond.instanceMethod y_S_look ∈ AL := AL_in (List.mem_append_right _ (List.mem_of_getElem? (i := 473) (by decide +kernel))) (by decide +kernel)
theorem wx_S_look : Cond.selects "SuggestDesk" y_S_look y_S_look ∈ AL := AL_in (List.mem_append_right _ (List.mem_of_getElem? (i := 474) (by decide +kernel))) (by decide +kernel)
theorem sv_S_look : Cond.instanceMethod y_S_look ∈ AL ∧ Cond.selects y_S_look.cls y_S_look y_S_look ∈ AL := ⟨wn_S_look, wx_S_look⟩
theorem wx_L_32 : Cond.classLink "SuggestDeskLaw" 32 (EXn 3) ∈ AL := AL_in (List.mem_append_right _ (List.mem_of_getElem? (i := 471) (by decide +kernel))) (by decide +kernel)
theorem hk_L_look_1 : Hk "SuggestDeskLaw" [(0, 10, 13, 32), (0, 10, 17, 13)] 5 1 17 := ⟨by decide, [(0, 10, 13, 32)], (0, 10, 17, 13), [], rfl, by decide, rfl, ⟨by decide, wx_L_13⟩, fun y hy => by cases List.mem_singleton.mp hy; exact ⟨by decide, 3, by decide, by decide, wx_L_32⟩⟩
theorem hk_L_look_3 : Hk "SuggestDeskLaw" [(0, 10, 13, 32), (0, 10, 17, 13)] 5 3 13 := ⟨by decide, [], (0, 10, 13, 32), [(0, 10, 17, 13)], rfl, by decide, rfl, ⟨by decide, wx_L_32⟩, fun y hy => nomatch hy⟩
theorem wl_L_34 : Cond.methodLink "SuggestDeskLaw" 34 y_S_cost ∈ AL := AL_in (List.mem_append_right _ (List.mem_of_getElem? (i := 508) (by decide +kernel))) (by decide +kernel)
theorem lk_L_34 : Lk "SuggestDeskLaw" 34 y_S_cost := Or.inl wl_L_34
theorem wc_S_cost : Cond.code y_S_cost b_S_cost 6 (some .int) ∈ AL := AL_in (List.mem_append_right _ (List.mem_of_getElem? (i := 511) (by decide +kernel))) (by decide +kernel)
theorem mw_S_cost : Mw y_S_cost b_S_cost 6 (some .int) 2 := ⟨wc_S_cost, wi_S, by decide, by decide, by decide +kernel⟩
theorem wn_S_cost : Cond.instanceMethod y_S_cost ∈ AL := AL_in (List.mem_append_right _ (List.mem_of_getElem? (i := 509) (by decide +kernel))) (by decide +kernel)
theorem wx_S_cost : Cond.selects "SuggestDesk" y_S_cost y_S_cost ∈ AL := AL_in (List.mem_append_right _ (List.mem_of_getElem? (i := 510) (by decide +kernel))) (by decide +kernel)
theorem sv_S_cost : Cond.instanceMethod y_S_cost ∈ AL ∧ Cond.selects y_S_cost.cls y_S_cost y_S_cost ∈ AL := ⟨wn_S_cost, wx_S_cost⟩
theorem hk_L_cost_3 : Hk "SuggestDeskLaw" [(0, 11, 14, 32)] 6 3 14 := ⟨by decide, [], (0, 11, 14, 32), [], rfl, by decide, rfl, ⟨by decide, wx_L_32⟩, fun y hy => nomatch hy⟩
theorem wl_L_38 : Cond.methodLink "SuggestDeskLaw" 38 y_S_complete ∈ AL := AL_in (List.mem_append_right _ (List.mem_of_getElem? (i := 518) (by decide +kernel))) (by decide +kernel)
theorem lk_L_38 : Lk "SuggestDeskLaw" 38 y_S_complete := Or.inl wl_L_38
theorem wc_S_complete : Cond.code y_S_complete b_S_complete 6 (some .int) ∈ AL := AL_in (List.mem_append_right _ (List.mem_of_getElem? (i := 521) (by decide +kernel))) (by decide +kernel)
theorem mw_S_complete : Mw y_S_complete b_S_complete 6 (some .int) 3 := ⟨wc_S_complete, wi_S, by decide, by decide, by decide +kernel⟩
theorem wn_S_complete : Cond.instanceMethod y_S_complete ∈ AL := AL_in (List.mem_append_right _ (List.mem_of_getElem? (i := 519) (by decide +kernel))) (by decide +kernel)
theorem wx_S_complete : Cond.selects "SuggestDesk" y_S_complete y_S_complete ∈ AL := AL_in (List.mem_append_right _ (List.mem_of_getElem? (i := 520) (by decide +kernel))) (by decide +kernel)
theorem sv_S_complete : Cond.instanceMethod y_S_complete ∈ AL ∧ Cond.selects y_S_complete.cls y_S_complete y_S_complete ∈ AL := ⟨wn_S_complete, wx_S_complete⟩
theorem hk_L_complete_3 : Hk "SuggestDeskLaw" [(0, 13, 16, 13), (0, 13, 20, 32)] 8 3 20 := ⟨by decide, [(0, 13, 16, 13)], (0, 13, 20, 32), [], rfl, by decide, rfl, ⟨by decide, wx_L_32⟩, fun y hy => by cases List.mem_singleton.mp hy; exact ⟨by decide, 1, by decide, by decide, wx_L_13⟩⟩
theorem hk_L_complete_1 : Hk "SuggestDeskLaw" [(0, 13, 16, 13), (0, 13, 20, 32)] 8 1 16 := ⟨by decide, [], (0, 13, 16, 13), [(0, 13, 20, 32)], rfl, by decide, rfl, ⟨by decide, wx_L_13⟩, fun y hy => nomatch hy⟩
theorem wl_L_42 : Cond.methodLink "SuggestDeskLaw" 42 y_S_near ∈ AL := AL_in (List.mem_append_right _ (List.mem_of_getElem? (i := 550) (by decide +kernel))) (by decide +kernel)
theorem lk_L_42 : Lk "SuggestDeskLaw" 42 y_S_near := Or.inl wl_L_42
theorem wc_S_near : Cond.code y_S_near b_S_near 6 (some .int) ∈ AL := AL_in (List.mem_append_right _ (List.mem_of_getElem? (i := 553) (by decide +kernel))) (by decide +kernel)
theorem mw_S_near : Mw y_S_near b_S_near 6 (some .int) 3 := ⟨wc_S_near, wi_S, by decide, by decide, by decide +kernel⟩
theorem wn_S_near : Cond.instanceMethod y_S_near ∈ AL := AL_in (List.mem_append_right _ (List.mem_of_getElem? (i := 551) (by decide +kernel))) (by decide +kernel)
theorem wx_S_near : Cond.selects "SuggestDesk" y_S_near y_S_near ∈ AL := AL_in (List.mem_append_right _ (List.mem_of_getElem? (i := 552) (by decide +kernel))) (by decide +kernel)
theorem sv_S_near : Cond.instanceMethod y_S_near ∈ AL ∧ Cond.selects y_S_near.cls y_S_near y_S_near ∈ AL := ⟨wn_S_near, wx_S_near⟩
theorem hk_L_near_3 : Hk "SuggestDeskLaw" [(0, 13, 16, 13), (0, 13, 20, 32)] 8 3 20 := ⟨by decide, [(0, 13, 16, 13)], (0, 13, 20, 32), [], rfl, by decide, rfl, ⟨by decide, wx_L_32⟩, fun y hy => by cases List.mem_singleton.mp hy; exact ⟨by decide, 1, by decide, by decide, wx_L_13⟩⟩
theorem hk_L_near_1 : Hk "SuggestDeskLaw" [(0, 13, 16, 13), (0, 13, 20, 32)] 8 1 16 := ⟨by decide, [], (0, 13, 16, 13), [(0, 13, 20, 32)], rfl, by decide, rfl, ⟨by decide, wx_L_13⟩, fun y hy => nomatch hy⟩
theorem wl_L_45 : Cond.methodLink "SuggestDeskLaw" 45 y_S_given ∈ AL := AL_in (List.mem_append_right _ (List.mem_of_getElem? (i := 574) (by decide +kernel))) (by decide +kernel)
theorem lk_L_45 : Lk "SuggestDeskLaw" 45 y_S_given := Or.inl wl_L_45
theorem wc_S_given : Cond.code y_S_given b_S_given 2 (some .long) ∈ AL := AL_in (List.mem_append_right _ (List.mem_of_getElem? (i := 577) (by decide +kernel))) (by decide +kernel)
theorem mw_S_given : Mw y_S_given b_S_given 2 (some .long) 1 := ⟨wc_S_given, wi_S, by decide, by decide, by decide +kernel⟩
theorem wn_S_given : Cond.instanceMethod y_S_given ∈ AL := AL_in (List.mem_append_right _ (List.mem_of_getElem? (i := 575) (by decide +kernel))) (by decide +kernel)
theorem wx_S_given : Cond.selects "SuggestDesk" y_S_given y_S_given ∈ AL := AL_in (List.mem_append_right _ (List.mem_of_getElem? (i := 576) (by decide +kernel))) (by decide +kernel)
theorem sv_S_given : Cond.instanceMethod y_S_given ∈ AL ∧ Cond.selects y_S_given.cls y_S_given y_S_given ∈ AL := ⟨wn_S_given, wx_S_given⟩
theorem wx_L_49 : Cond.classLink "SuggestDeskLaw" 49 (EXn 4) ∈ AL := AL_in (List.mem_append_right _ (List.mem_of_getElem? (i := 573) (by decide +kernel))) (by decide +kernel)
theorem hk_L_given_4 : Hk "SuggestDeskLaw" [(0, 8, 11, 49)] 4 4 11 := ⟨by decide, [], (0, 8, 11, 49), [], rfl, by decide, rfl, ⟨by decide, wx_L_49⟩, fun y hy => nomatch hy⟩
theorem wl_L_51 : Cond.methodLink "SuggestDeskLaw" 51 y_S_distance ∈ AL := AL_in (List.mem_append_right _ (List.mem_of_getElem? (i := 604) (by decide +kernel))) (by decide +kernel)
theorem lk_L_51 : Lk "SuggestDeskLaw" 51 y_S_distance := Or.inl wl_L_51
theorem wc_S_distance : Cond.code y_S_distance b_S_distance 5 (some .int) ∈ AL := AL_in (List.mem_append_right _ (List.mem_of_getElem? (i := 607) (by decide +kernel))) (by decide +kernel)
theorem mw_S_distance : Mw y_S_distance b_S_distance 5 (some .int) 2 := ⟨wc_S_distance, wi_S, by decide, by decide, by decide +kernel⟩
theorem wn_S_distance : Cond.instanceMethod y_S_distance ∈ AL := AL_in (List.mem_append_right _ (List.mem_of_getElem? (i := 605) (by decide +kernel))) (by decide +kernel)
theorem wx_S_distance : Cond.selects "SuggestDesk" y_S_distance y_S_distance ∈ AL := AL_in (List.mem_append_right _ (List.mem_of_getElem? (i := 606) (by decide +kernel))) (by decide +kernel)
theorem sv_S_distance : Cond.instanceMethod y_S_distance ∈ AL ∧ Cond.selects y_S_distance.cls y_S_distance y_S_distance ∈ AL := ⟨wn_S_distance, wx_S_distance⟩
theorem hk_L_distance_1 : Hk "SuggestDeskLaw" [(0, 11, 14, 13)] 6 1 14 := ⟨by decide, [], (0, 11, 14, 13), [], rfl, by decide, rfl, ⟨by decide, wx_L_13⟩, fun y hy => nomatch hy⟩
theorem wl_L_55 : Cond.methodLink "SuggestDeskLaw" 55 y_S_learn ∈ AL := AL_in (List.mem_append_right _ (List.mem_of_getElem? (i := 612) (by decide +kernel))) (by decide +kernel)
theorem lk_L_55 : Lk "SuggestDeskLaw" 55 y_S_learn := Or.inl wl_L_55
theorem wc_S_learn : Cond.code y_S_learn b_S_learn 6 (some .int) ∈ AL := AL_in (List.mem_append_right _ (List.mem_of_getElem? (i := 615) (by decide +kernel))) (by decide +kernel)
theorem mw_S_learn : Mw y_S_learn b_S_learn 6 (some .int) 2 := ⟨wc_S_learn, wi_S, by decide, by decide, by decide +kernel⟩
theorem wn_S_learn : Cond.instanceMethod y_S_learn ∈ AL := AL_in (List.mem_append_right _ (List.mem_of_getElem? (i := 613) (by decide +kernel))) (by decide +kernel)
theorem wx_S_learn : Cond.selects "SuggestDesk" y_S_learn y_S_learn ∈ AL := AL_in (List.mem_append_right _ (List.mem_of_getElem? (i := 614) (by decide +kernel))) (by decide +kernel)
theorem sv_S_learn : Cond.instanceMethod y_S_learn ∈ AL ∧ Cond.selects y_S_learn.cls y_S_learn y_S_learn ∈ AL := ⟨wn_S_learn, wx_S_learn⟩
theorem hk_L_learn_2 : Hk "SuggestDeskLaw" [(0, 11, 14, 13), (0, 11, 18, 15)] 6 2 18 := ⟨by decide, [(0, 11, 14, 13)], (0, 11, 18, 15), [], rfl, by decide, rfl, ⟨by decide, wx_L_15⟩, fun y hy => by cases List.mem_singleton.mp hy; exact ⟨by decide, 1, by decide, by decide, wx_L_13⟩⟩
theorem hk_L_learn_1 : Hk "SuggestDeskLaw" [(0, 11, 14, 13), (0, 11, 18, 15)] 6 1 14 := ⟨by decide, [], (0, 11, 14, 13), [(0, 11, 18, 15)], rfl, by decide, rfl, ⟨by decide, wx_L_13⟩, fun y hy => nomatch hy⟩
theorem wl_L_58 : Cond.methodLink "SuggestDeskLaw" 58 y_S_say ∈ AL := AL_in (List.mem_append_right _ (List.mem_of_getElem? (i := 628) (by decide +kernel))) (by decide +kernel)
theorem lk_L_58 : Lk "SuggestDeskLaw" 58 y_S_say := Or.inl wl_L_58
theorem wc_S_say : Cond.code y_S_say b_S_say 3 (some .int) ∈ AL := AL_in (List.mem_append_right _ (List.mem_of_getElem? (i := 631) (by decide +kernel))) (by decide +kernel)
theorem mw_S_say : Mw y_S_say b_S_say 3 (some .int) 1 := ⟨wc_S_say, wi_S, by decide, by decide, by decide +kernel⟩
theorem wn_S_say : Cond.instanceMethod y_S_say ∈ AL := AL_in (List.mem_append_right _ (List.mem_of_getElem? (i := 629) (by decide +kernel))) (by decide +kernel)
theorem wx_S_say : Cond.selects "SuggestDesk" y_S_say y_S_say ∈ AL := AL_in (List.mem_append_right _ (List.mem_of_getElem? (i := 630) (by decide +kernel))) (by decide +kernel)
theorem sv_S_say : Cond.instanceMethod y_S_say ∈ AL ∧ Cond.selects y_S_say.cls y_S_say y_S_say ∈ AL := ⟨wn_S_say, wx_S_say⟩
theorem hk_L_say_2 : Hk "SuggestDeskLaw" [(0, 9, 12, 13), (0, 9, 16, 15)] 4 2 16 := ⟨by decide, [(0, 9, 12, 13)], (0, 9, 16, 15), [], rfl, by decide, rfl, ⟨by decide, wx_L_15⟩, fun y hy => by cases List.mem_singleton.mp hy; exact ⟨by decide, 1, by decide, by decide, wx_L_13⟩⟩
theorem hk_L_say_1 : Hk "SuggestDeskLaw" [(0, 9, 12, 13), (0, 9, 16, 15)] 4 1 12 := ⟨by decide, [], (0, 9, 12, 13), [(0, 9, 16, 15)], rfl, by decide, rfl, ⟨by decide, wx_L_13⟩, fun y hy => nomatch hy⟩
theorem wl_L_62 : Cond.methodLink "SuggestDeskLaw" 62 y_S_correct ∈ AL := AL_in (List.mem_append_right _ (List.mem_of_getElem? (i := 644) (by decide +kernel))) (by decide +kernel)
theorem lk_L_62 : Lk "SuggestDeskLaw" 62 y_S_correct := Or.inl wl_L_62
theorem wc_S_correct : Cond.code y_S_correct b_S_correct 4 (some .int) ∈ AL := AL_in (List.mem_append_right _ (List.mem_of_getElem? (i := 647) (by decide +kernel))) (by decide +kernel)
theorem mw_S_correct : Mw y_S_correct b_S_correct 4 (some .int) 1 := ⟨wc_S_correct, wi_S, by decide, by decide, by decide +kernel⟩
theorem wn_S_correct : Cond.instanceMethod y_S_correct ∈ AL := AL_in (List.mem_append_right _ (List.mem_of_getElem? (i := 645) (by decide +kernel))) (by decide +kernel)
theorem wx_S_correct : Cond.selects "SuggestDesk" y_S_correct y_S_correct ∈ AL := AL_in (List.mem_append_right _ (List.mem_of_getElem? (i := 646) (by decide +kernel))) (by decide +kernel)
theorem sv_S_correct : Cond.instanceMethod y_S_correct ∈ AL ∧ Cond.selects y_S_correct.cls y_S_correct y_S_correct ∈ AL := ⟨wn_S_correct, wx_S_correct⟩
theorem hk_L_correct_2 : Hk "SuggestDeskLaw" [(0, 9, 12, 32), (0, 9, 15, 15)] 4 2 15 := ⟨by decide, [(0, 9, 12, 32)], (0, 9, 15, 15), [], rfl, by decide, rfl, ⟨by decide, wx_L_15⟩, fun y hy => by cases List.mem_singleton.mp hy; exact ⟨by decide, 3, by decide, by decide, wx_L_32⟩⟩
theorem hk_L_correct_3 : Hk "SuggestDeskLaw" [(0, 9, 12, 32), (0, 9, 15, 15)] 4 3 12 := ⟨by decide, [], (0, 9, 12, 32), [(0, 9, 15, 15)], rfl, by decide, rfl, ⟨by decide, wx_L_32⟩, fun y hy => nomatch hy⟩
theorem wl_L_66 : Cond.methodLink "SuggestDeskLaw" 66 y_S_corrected ∈ AL := AL_in (List.mem_append_right _ (List.mem_of_getElem? (i := 685) (by decide +kernel))) (by decide +kernel)
theorem lk_L_66 : Lk "SuggestDeskLaw" 66 y_S_corrected := Or.inl wl_L_66
theorem wc_S_corrected : Cond.code y_S_corrected b_S_corrected 2 (some .long) ∈ AL := AL_in (List.mem_append_right _ (List.mem_of_getElem? (i := 688) (by decide +kernel))) (by decide +kernel)
theorem mw_S_corrected : Mw y_S_corrected b_S_corrected 2 (some .long) 1 := ⟨wc_S_corrected, wi_S, by decide, by decide, by decide +kernel⟩
theorem wn_S_corrected : Cond.instanceMethod y_S_corrected ∈ AL := AL_in (List.mem_append_right _ (List.mem_of_getElem? (i := 686) (by decide +kernel))) (by decide +kernel)
theorem wx_S_corrected : Cond.selects "SuggestDesk" y_S_corrected y_S_corrected ∈ AL := AL_in (List.mem_append_right _ (List.mem_of_getElem? (i := 687) (by decide +kernel))) (by decide +kernel)
theorem sv_S_corrected : Cond.instanceMethod y_S_corrected ∈ AL ∧ Cond.selects y_S_corrected.cls y_S_corrected y_S_corrected ∈ AL := ⟨wn_S_corrected, wx_S_corrected⟩
theorem hk_L_corrected_4 : Hk "SuggestDeskLaw" [(0, 8, 11, 49)] 4 4 11 := ⟨by decide, [], (0, 8, 11, 49), [], rfl, by decide, rfl, ⟨by decide, wx_L_49⟩, fun y hy => nomatch hy⟩

