theorem wk_L_73 : Cond.constantLong "SuggestDeskLaw" 73 (4294967295 : Int64) ∈ AL := AL_in (List.mem_append_right _ (List.mem_of_getElem? (i := 953) (by decide +kernel))) (by decide +kernel)
theorem wl_L_75 : Cond.methodLink "SuggestDeskLaw" 75 y_L_word ∈ AL := AL_in (List.mem_append_right _ (List.mem_of_getElem? (i := 235) (by decide +kernel))) (by decide +kernel)
theorem lk_L_75 : Lk "SuggestDeskLaw" 75 y_L_word := Or.inl wl_L_75
theorem wcw_L_word : Cond.codeWith y_L_word b_L_word 6 (some .int) [(0, 11, 14, 13), (0, 11, 18, 15)] ∈ AL := AL_in (List.mem_append_right _ (List.mem_of_getElem? (i := 237) (by decide +kernel))) (by decide +kernel)
theorem wi_L : Cond.initialized "SuggestDeskLaw" ∈ AL := AL_in (List.mem_append_right _ (List.mem_of_getElem? (i := 0) (by decide +kernel))) (by decide +kernel)
theorem mwh_L_word : MwH y_L_word b_L_word 6 (some .int) [(0, 11, 14, 13), (0, 11, 18, 15)] 4 := ⟨wcw_L_word, wi_L, by decide, by decide, by decide +kernel⟩
theorem ws_L_word : Cond.static y_L_word ∈ AL := AL_in (List.mem_append_right _ (List.mem_of_getElem? (i := 236) (by decide +kernel))) (by decide +kernel)
theorem wl_L_80 : Cond.methodLink "SuggestDeskLaw" 80 y_M_word ∈ AL := AL_in (List.mem_append_right _ (List.mem_of_getElem? (i := 814) (by decide +kernel))) (by decide +kernel)
theorem lk_L_80 : Lk "SuggestDeskLaw" 80 y_M_word := Or.inl wl_L_80
theorem wc_M_word : Cond.code y_M_word b_M_word 6 (some .int) ∈ AL := AL_in (List.mem_append_right _ (List.mem_of_getElem? (i := 817) (by decide +kernel))) (by decide +kernel)
theorem mw_M_word : Mw y_M_word b_M_word 6 (some .int) 2 := ⟨wc_M_word, wi_M, by decide, by decide, by decide +kernel⟩
theorem wn_M_word : Cond.instanceMethod y_M_word ∈ AL := AL_in (List.mem_append_right _ (List.mem_of_getElem? (i := 815) (by decide +kernel))) (by decide +kernel)
theorem wx_M_word : Cond.selects "SuggestDeskModel" y_M_word y_M_word ∈ AL := AL_in (List.mem_append_right _ (List.mem_of_getElem? (i := 816) (by decide +kernel))) (by decide +kernel)
theorem sv_M_word : Cond.instanceMethod y_M_word ∈ AL ∧ Cond.selects y_M_word.cls y_M_word y_M_word ∈ AL := ⟨wn_M_word, wx_M_word⟩
theorem wl_L_81 : Cond.methodLink "SuggestDeskLaw" 81 y_M_thrown ∈ AL := AL_in (List.mem_append_right _ (List.mem_of_getElem? (i := 810) (by decide +kernel))) (by decide +kernel)
theorem lk_L_81 : Lk "SuggestDeskLaw" 81 y_M_thrown := Or.inl wl_L_81
theorem wc_M_thrown : Cond.code y_M_thrown b_M_thrown 1 (some .int) ∈ AL := AL_in (List.mem_append_right _ (List.mem_of_getElem? (i := 813) (by decide +kernel))) (by decide +kernel)
theorem mw_M_thrown : Mw y_M_thrown b_M_thrown 1 (some .int) 0 := ⟨wc_M_thrown, wi_M, by decide, by decide, by decide +kernel⟩
theorem wn_M_thrown : Cond.instanceMethod y_M_thrown ∈ AL := AL_in (List.mem_append_right _ (List.mem_of_getElem? (i := 811) (by decide +kernel))) (by decide +kernel)
theorem wx_M_thrown : Cond.selects "SuggestDeskModel" y_M_thrown y_M_thrown ∈ AL := AL_in (List.mem_append_right _ (List.mem_of_getElem? (i := 812) (by decide +kernel))) (by decide +kernel)
theorem sv_M_thrown : Cond.instanceMethod y_M_thrown ∈ AL ∧ Cond.selects y_M_thrown.cls y_M_thrown y_M_thrown ∈ AL := ⟨wn_M_thrown, wx_M_thrown⟩
theorem wl_L_84 : Cond.methodLink "SuggestDeskLaw" 84 y_S_drop ∈ AL := AL_in (List.mem_append_right _ (List.mem_of_getElem? (i := 204) (by decide +kernel))) (by decide +kernel)
theorem lk_L_84 : Lk "SuggestDeskLaw" 84 y_S_drop := Or.inl wl_L_84
theorem wc_S_drop : Cond.code y_S_drop b_S_drop 3 (some .boolean) ∈ AL := AL_in (List.mem_append_right _ (List.mem_of_getElem? (i := 207) (by decide +kernel))) (by decide +kernel)
theorem mw_S_drop : Mw y_S_drop b_S_drop 3 (some .boolean) 1 := ⟨wc_S_drop, wi_S, by decide, by decide, by decide +kernel⟩
theorem wn_S_drop : Cond.instanceMethod y_S_drop ∈ AL := AL_in (List.mem_append_right _ (List.mem_of_getElem? (i := 205) (by decide +kernel))) (by decide +kernel)
theorem wx_S_drop : Cond.selects "SuggestDesk" y_S_drop y_S_drop ∈ AL := AL_in (List.mem_append_right _ (List.mem_of_getElem? (i := 206) (by decide +kernel))) (by decide +kernel)
theorem sv_S_drop : Cond.instanceMethod y_S_drop ∈ AL ∧ Cond.selects y_S_drop.cls y_S_drop y_S_drop ∈ AL := ⟨wn_S_drop, wx_S_drop⟩
theorem wl_L_88 : Cond.methodLink "SuggestDeskLaw" 88 y_M_drop ∈ AL := AL_in (List.mem_append_right _ (List.mem_of_getElem? (i := 834) (by decide +kernel))) (by decide +kernel)
theorem lk_L_88 : Lk "SuggestDeskLaw" 88 y_M_drop := Or.inl wl_L_88
theorem wc_M_drop : Cond.code y_M_drop b_M_drop 4 (some .boolean) ∈ AL := AL_in (List.mem_append_right _ (List.mem_of_getElem? (i := 837) (by decide +kernel))) (by decide +kernel)
theorem mw_M_drop : Mw y_M_drop b_M_drop 4 (some .boolean) 1 := ⟨wc_M_drop, wi_M, by decide, by decide, by decide +kernel⟩
theorem wn_M_drop : Cond.instanceMethod y_M_drop ∈ AL := AL_in (List.mem_append_right _ (List.mem_of_getElem? (i := 835) (by decide +kernel))) (by decide +kernel)
theorem wx_M_drop : Cond.selects "SuggestDeskModel" y_M_drop y_M_drop ∈ AL := AL_in (List.mem_append_right _ (List.mem_of_getElem? (i := 836) (by decide +kernel))) (by decide +kernel)
theorem sv_M_drop : Cond.instanceMethod y_M_drop ∈ AL ∧ Cond.selects y_M_drop.cls y_M_drop y_M_drop ∈ AL := ⟨wn_M_drop, wx_M_drop⟩
theorem wl_L_89 : Cond.methodLink "SuggestDeskLaw" 89 y_L_build ∈ AL := AL_in (List.mem_append_right _ (List.mem_of_getElem? (i := 338) (by decide +kernel))) (by decide +kernel)
theorem lk_L_89 : Lk "SuggestDeskLaw" 89 y_L_build := Or.inl wl_L_89
theorem wcw_L_build : Cond.codeWith y_L_build b_L_build 3 (some .int) [(0, 8, 11, 15)] ∈ AL := AL_in (List.mem_append_right _ (List.mem_of_getElem? (i := 340) (by decide +kernel))) (by decide +kernel)
theorem mwh_L_build : MwH y_L_build b_L_build 3 (some .int) [(0, 8, 11, 15)] 2 := ⟨wcw_L_build, wi_L, by decide, by decide, by decide +kernel⟩
theorem ws_L_build : Cond.static y_L_build ∈ AL := AL_in (List.mem_append_right _ (List.mem_of_getElem? (i := 339) (by decide +kernel))) (by decide +kernel)
theorem wl_L_92 : Cond.methodLink "SuggestDeskLaw" 92 y_M_build ∈ AL := AL_in (List.mem_append_right _ (List.mem_of_getElem? (i := 838) (by decide +kernel))) (by decide +kernel)
theorem lk_L_92 : Lk "SuggestDeskLaw" 92 y_M_build := Or.inl wl_L_92
theorem wc_M_build : Cond.code y_M_build b_M_build 5 (some .int) ∈ AL := AL_in (List.mem_append_right _ (List.mem_of_getElem? (i := 841) (by decide +kernel))) (by decide +kernel)
theorem mw_M_build : Mw y_M_build b_M_build 5 (some .int) 0 := ⟨wc_M_build, wi_M, by decide, by decide, by decide +kernel⟩
theorem wn_M_build : Cond.instanceMethod y_M_build ∈ AL := AL_in (List.mem_append_right _ (List.mem_of_getElem? (i := 839) (by decide +kernel))) (by decide +kernel)
theorem wx_M_build : Cond.selects "SuggestDeskModel" y_M_build y_M_build ∈ AL := AL_in (List.mem_append_right _ (List.mem_of_getElem? (i := 840) (by decide +kernel))) (by decide +kernel)
theorem sv_M_build : Cond.instanceMethod y_M_build ∈ AL ∧ Cond.selects y_M_build.cls y_M_build y_M_build ∈ AL := ⟨wn_M_build, wx_M_build⟩
theorem wl_L_93 : Cond.methodLink "SuggestDeskLaw" 93 y_L_hold ∈ AL := AL_in (List.mem_append_right _ (List.mem_of_getElem? (i := 439) (by decide +kernel))) (by decide +kernel)
theorem lk_L_93 : Lk "SuggestDeskLaw" 93 y_L_hold := Or.inl wl_L_93
theorem wcw_L_hold : Cond.codeWith y_L_hold b_L_hold 3 (some .int) [(0, 8, 11, 15)] ∈ AL := AL_in (List.mem_append_right _ (List.mem_of_getElem? (i := 441) (by decide +kernel))) (by decide +kernel)
theorem mwh_L_hold : MwH y_L_hold b_L_hold 3 (some .int) [(0, 8, 11, 15)] 2 := ⟨wcw_L_hold, wi_L, by decide, by decide, by decide +kernel⟩
theorem ws_L_hold : Cond.static y_L_hold ∈ AL := AL_in (List.mem_append_right _ (List.mem_of_getElem? (i := 440) (by decide +kernel))) (by decide +kernel)
theorem wl_L_95 : Cond.methodLink "SuggestDeskLaw" 95 y_M_hold ∈ AL := AL_in (List.mem_append_right _ (List.mem_of_getElem? (i := 852) (by decide +kernel))) (by decide +kernel)
theorem lk_L_95 : Lk "SuggestDeskLaw" 95 y_M_hold := Or.inl wl_L_95
theorem wc_M_hold : Cond.code y_M_hold b_M_hold 1 (some .int) ∈ AL := AL_in (List.mem_append_right _ (List.mem_of_getElem? (i := 855) (by decide +kernel))) (by decide +kernel)
theorem mw_M_hold : Mw y_M_hold b_M_hold 1 (some .int) 0 := ⟨wc_M_hold, wi_M, by decide, by decide, by decide +kernel⟩
theorem wn_M_hold : Cond.instanceMethod y_M_hold ∈ AL := AL_in (List.mem_append_right _ (List.mem_of_getElem? (i := 853) (by decide +kernel))) (by decide +kernel)
theorem wx_M_hold : Cond.selects "SuggestDeskModel" y_M_hold y_M_hold ∈ AL := AL_in (List.mem_append_right _ (List.mem_of_getElem? (i := 854) (by decide +kernel))) (by decide +kernel)
theorem sv_M_hold : Cond.instanceMethod y_M_hold ∈ AL ∧ Cond.selects y_M_hold.cls y_M_hold y_M_hold ∈ AL := ⟨wn_M_hold, wx_M_hold⟩
theorem wl_L_96 : Cond.methodLink "SuggestDeskLaw" 96 y_L_release ∈ AL := AL_in (List.mem_append_right _ (List.mem_of_getElem? (i := 452) (by decide +kernel))) (by decide +kernel)
theorem lk_L_96 : Lk "SuggestDeskLaw" 96 y_L_release := Or.inl wl_L_96
theorem wcw_L_release : Cond.codeWith y_L_release b_L_release 4 (some .int) [(0, 16, 19, 13)] ∈ AL := AL_in (List.mem_append_right _ (List.mem_of_getElem? (i := 454) (by decide +kernel))) (by decide +kernel)
theorem mwh_L_release : MwH y_L_release b_L_release 4 (some .int) [(0, 16, 19, 13)] 3 := ⟨wcw_L_release, wi_L, by decide, by decide, by decide +kernel⟩
theorem ws_L_release : Cond.static y_L_release ∈ AL := AL_in (List.mem_append_right _ (List.mem_of_getElem? (i := 453) (by decide +kernel))) (by decide +kernel)
theorem wl_L_99 : Cond.methodLink "SuggestDeskLaw" 99 y_M_release ∈ AL := AL_in (List.mem_append_right _ (List.mem_of_getElem? (i := 856) (by decide +kernel))) (by decide +kernel)
theorem lk_L_99 : Lk "SuggestDeskLaw" 99 y_M_release := Or.inl wl_L_99
theorem wc_M_release : Cond.code y_M_release b_M_release 4 (some .boolean) ∈ AL := AL_in (List.mem_append_right _ (List.mem_of_getElem? (i := 859) (by decide +kernel))) (by decide +kernel)
theorem mw_M_release : Mw y_M_release b_M_release 4 (some .boolean) 1 := ⟨wc_M_release, wi_M, by decide, by decide, by decide +kernel⟩
theorem wn_M_release : Cond.instanceMethod y_M_release ∈ AL := AL_in (List.mem_append_right _ (List.mem_of_getElem? (i := 857) (by decide +kernel))) (by decide +kernel)
theorem wx_M_release : Cond.selects "SuggestDeskModel" y_M_release y_M_release ∈ AL := AL_in (List.mem_append_right _ (List.mem_of_getElem? (i := 858) (by decide +kernel))) (by decide +kernel)
theorem sv_M_release : Cond.instanceMethod y_M_release ∈ AL ∧ Cond.selects y_M_release.cls y_M_release y_M_release ∈ AL := ⟨wn_M_release, wx_M_release⟩
theorem wl_L_100 : Cond.methodLink "SuggestDeskLaw" 100 y_L_look ∈ AL := AL_in (List.mem_append_right _ (List.mem_of_getElem? (i := 468) (by decide +kernel))) (by decide +kernel)
theorem lk_L_100 : Lk "SuggestDeskLaw" 100 y_L_look := Or.inl wl_L_100
theorem wcw_L_look : Cond.codeWith y_L_look b_L_look 5 (some .int) [(0, 10, 13, 32), (0, 10, 17, 13)] ∈ AL := AL_in (List.mem_append_right _ (List.mem_of_getElem? (i := 470) (by decide +kernel))) (by decide +kernel)
theorem mwh_L_look : MwH y_L_look b_L_look 5 (some .int) [(0, 10, 13, 32), (0, 10, 17, 13)] 4 := ⟨wcw_L_look, wi_L, by decide, by decide, by decide +kernel⟩
theorem ws_L_look : Cond.static y_L_look ∈ AL := AL_in (List.mem_append_right _ (List.mem_of_getElem? (i := 469) (by decide +kernel))) (by decide +kernel)
theorem wl_L_103 : Cond.methodLink "SuggestDeskLaw" 103 y_M_look ∈ AL := AL_in (List.mem_append_right _ (List.mem_of_getElem? (i := 864) (by decide +kernel))) (by decide +kernel)
theorem lk_L_103 : Lk "SuggestDeskLaw" 103 y_M_look := Or.inl wl_L_103
theorem wc_M_look : Cond.code y_M_look b_M_look 4 (some .int) ∈ AL := AL_in (List.mem_append_right _ (List.mem_of_getElem? (i := 867) (by decide +kernel))) (by decide +kernel)
theorem mw_M_look : Mw y_M_look b_M_look 4 (some .int) 2 := ⟨wc_M_look, wi_M, by decide, by decide, by decide +kernel⟩
theorem wn_M_look : Cond.instanceMethod y_M_look ∈ AL := AL_in (List.mem_append_right _ (List.mem_of_getElem? (i := 865) (by decide +kernel))) (by decide +kernel)
theorem wx_M_look : Cond.selects "SuggestDeskModel" y_M_look y_M_look ∈ AL := AL_in (List.mem_append_right _ (List.mem_of_getElem? (i := 866) (by decide +kernel))) (by decide +kernel)
theorem sv_M_look : Cond.instanceMethod y_M_look ∈ AL ∧ Cond.selects y_M_look.cls y_M_look y_M_look ∈ AL := ⟨wn_M_look, wx_M_look⟩
theorem wl_L_104 : Cond.methodLink "SuggestDeskLaw" 104 y_L_cost ∈ AL := AL_in (List.mem_append_right _ (List.mem_of_getElem? (i := 505) (by decide +kernel))) (by decide +kernel)
theorem lk_L_104 : Lk "SuggestDeskLaw" 104 y_L_cost := Or.inl wl_L_104
theorem wcw_L_cost : Cond.codeWith y_L_cost b_L_cost 6 (some .int) [(0, 11, 14, 32)] ∈ AL := AL_in (List.mem_append_right _ (List.mem_of_getElem? (i := 507) (by decide +kernel))) (by decide +kernel)
theorem mwh_L_cost : MwH y_L_cost b_L_cost 6 (some .int) [(0, 11, 14, 32)] 4 := ⟨wcw_L_cost, wi_L, by decide, by decide, by decide +kernel⟩
theorem ws_L_cost : Cond.static y_L_cost ∈ AL := AL_in (List.mem_append_right _ (List.mem_of_getElem? (i := 506) (by decide +kernel))) (by decide +kernel)
theorem wl_L_107 : Cond.methodLink "SuggestDeskLaw" 107 y_M_cost ∈ AL := AL_in (List.mem_append_right _ (List.mem_of_getElem? (i := 889) (by decide +kernel))) (by decide +kernel)
theorem lk_L_107 : Lk "SuggestDeskLaw" 107 y_M_cost := Or.inl wl_L_107
theorem wc_M_cost : Cond.code y_M_cost b_M_cost 7 (some .int) ∈ AL := AL_in (List.mem_append_right _ (List.mem_of_getElem? (i := 892) (by decide +kernel))) (by decide +kernel)
theorem mw_M_cost : Mw y_M_cost b_M_cost 7 (some .int) 2 := ⟨wc_M_cost, wi_M, by decide, by decide, by decide +kernel⟩
theorem wn_M_cost : Cond.instanceMethod y_M_cost ∈ AL := AL_in (List.mem_append_right _ (List.mem_of_getElem? (i := 890) (by decide +kernel))) (by decide +kernel)
theorem wx_M_cost : Cond.selects "SuggestDeskModel" y_M_cost y_M_cost ∈ AL := AL_in (List.mem_append_right _ (List.mem_of_getElem? (i := 891) (by decide +kernel))) (by decide +kernel)
theorem sv_M_cost : Cond.instanceMethod y_M_cost ∈ AL ∧ Cond.selects y_M_cost.cls y_M_cost y_M_cost ∈ AL := ⟨wn_M_cost, wx_M_cost⟩
theorem wl_L_108 : Cond.methodLink "SuggestDeskLaw" 108 y_L_complete ∈ AL := AL_in (List.mem_append_right _ (List.mem_of_getElem? (i := 515) (by decide +kernel))) (by decide +kernel)
theorem lk_L_108 : Lk "SuggestDeskLaw" 108 y_L_complete := Or.inl wl_L_108
theorem wcw_L_complete : Cond.codeWith y_L_complete b_L_complete 7 (some .int) [(0, 13, 16, 13), (0, 13, 20, 32)] ∈ AL := AL_in (List.mem_append_right _ (List.mem_of_getElem? (i := 517) (by decide +kernel))) (by decide +kernel)
theorem mwh_L_complete : MwH y_L_complete b_L_complete 7 (some .int) [(0, 13, 16, 13), (0, 13, 20, 32)] 5 := ⟨wcw_L_complete, wi_L, by decide, by decide, by decide +kernel⟩
theorem ws_L_complete : Cond.static y_L_complete ∈ AL := AL_in (List.mem_append_right _ (List.mem_of_getElem? (i := 516) (by decide +kernel))) (by decide +kernel)
theorem wl_L_111 : Cond.methodLink "SuggestDeskLaw" 111 y_M_complete ∈ AL := AL_in (List.mem_append_right _ (List.mem_of_getElem? (i := 893) (by decide +kernel))) (by decide +kernel)
theorem lk_L_111 : Lk "SuggestDeskLaw" 111 y_M_complete := Or.inl wl_L_111
theorem wc_M_complete : Cond.code y_M_complete b_M_complete 9 (some .int) ∈ AL := AL_in (List.mem_append_right _ (List.mem_of_getElem? (i := 896) (by decide +kernel))) (by decide +kernel)
theorem mw_M_complete : Mw y_M_complete b_M_complete 9 (some .int) 3 := ⟨wc_M_complete, wi_M, by decide, by decide, by decide +kernel⟩
theorem wn_M_complete : Cond.instanceMethod y_M_complete ∈ AL := AL_in (List.mem_append_right _ (List.mem_of_getElem? (i := 894) (by decide +kernel))) (by decide +kernel)
theorem wx_M_complete : Cond.selects "SuggestDeskModel" y_M_complete y_M_complete ∈ AL := AL_in (List.mem_append_right _ (List.mem_of_getElem? (i := 895) (by decide +kernel))) (by decide +kernel)
theorem sv_M_complete : Cond.instanceMethod y_M_complete ∈ AL ∧ Cond.selects y_M_complete.cls y_M_complete y_M_complete ∈ AL := ⟨wn_M_complete, wx_M_complete⟩
theorem wl_L_112 : Cond.methodLink "SuggestDeskLaw" 112 y_L_near ∈ AL := AL_in (List.mem_append_right _ (List.mem_of_getElem? (i := 547) (by decide +kernel))) (by decide +kernel)
theorem lk_L_112 : Lk "SuggestDeskLaw" 112 y_L_near := Or.inl wl_L_112
theorem wcw_L_near : Cond.codeWith y_L_near b_L_near 7 (some .int) [(0, 13, 16, 13), (0, 13, 20, 32)] ∈ AL := AL_in (List.mem_append_right _ (List.mem_of_getElem? (i := 549) (by decide +kernel))) (by decide +kernel)
theorem mwh_L_near : MwH y_L_near b_L_near 7 (some .int) [(0, 13, 16, 13), (0, 13, 20, 32)] 5 := ⟨wcw_L_near, wi_L, by decide, by decide, by decide +kernel⟩
theorem ws_L_near : Cond.static y_L_near ∈ AL := AL_in (List.mem_append_right _ (List.mem_of_getElem? (i := 548) (by decide +kernel))) (by decide +kernel)
theorem wl_L_114 : Cond.methodLink "SuggestDeskLaw" 114 y_M_near ∈ AL := AL_in (List.mem_append_right _ (List.mem_of_getElem? (i := 901) (by decide +kernel))) (by decide +kernel)
theorem lk_L_114 : Lk "SuggestDeskLaw" 114 y_M_near := Or.inl wl_L_114
theorem wc_M_near : Cond.code y_M_near b_M_near 9 (some .int) ∈ AL := AL_in (List.mem_append_right _ (List.mem_of_getElem? (i := 904) (by decide +kernel))) (by decide +kernel)
theorem mw_M_near : Mw y_M_near b_M_near 9 (some .int) 3 := ⟨wc_M_near, wi_M, by decide, by decide, by decide +kernel⟩
theorem wn_M_near : Cond.instanceMethod y_M_near ∈ AL := AL_in (List.mem_append_right _ (List.mem_of_getElem? (i := 902) (by decide +kernel))) (by decide +kernel)
theorem wx_M_near : Cond.selects "SuggestDeskModel" y_M_near y_M_near ∈ AL := AL_in (List.mem_append_right _ (List.mem_of_getElem? (i := 903) (by decide +kernel))) (by decide +kernel)
theorem sv_M_near : Cond.instanceMethod y_M_near ∈ AL ∧ Cond.selects y_M_near.cls y_M_near y_M_near ∈ AL := ⟨wn_M_near, wx_M_near⟩
theorem wl_L_115 : Cond.methodLink "SuggestDeskLaw" 115 y_L_given ∈ AL := AL_in (List.mem_append_right _ (List.mem_of_getElem? (i := 570) (by decide +kernel))) (by decide +kernel)
theorem lk_L_115 : Lk "SuggestDeskLaw" 115 y_L_given := Or.inl wl_L_115
theorem wcw_L_given : Cond.codeWith y_L_given b_L_given 4 (some .int) [(0, 8, 11, 49)] ∈ AL := AL_in (List.mem_append_right _ (List.mem_of_getElem? (i := 572) (by decide +kernel))) (by decide +kernel)
theorem mwh_L_given : MwH y_L_given b_L_given 4 (some .int) [(0, 8, 11, 49)] 3 := ⟨wcw_L_given, wi_L, by decide, by decide, by decide +kernel⟩
theorem ws_L_given : Cond.static y_L_given ∈ AL := AL_in (List.mem_append_right _ (List.mem_of_getElem? (i := 571) (by decide +kernel))) (by decide +kernel)
theorem wl_L_117 : Cond.methodLink "SuggestDeskLaw" 117 y_M_given ∈ AL := AL_in (List.mem_append_right _ (List.mem_of_getElem? (i := 912) (by decide +kernel))) (by decide +kernel)
theorem lk_L_117 : Lk "SuggestDeskLaw" 117 y_M_given := Or.inl wl_L_117
theorem wc_M_given : Cond.code y_M_given b_M_given 2 (some .long) ∈ AL := AL_in (List.mem_append_right _ (List.mem_of_getElem? (i := 915) (by decide +kernel))) (by decide +kernel)
theorem mw_M_given : Mw y_M_given b_M_given 2 (some .long) 1 := ⟨wc_M_given, wi_M, by decide, by decide, by decide +kernel⟩
theorem wn_M_given : Cond.instanceMethod y_M_given ∈ AL := AL_in (List.mem_append_right _ (List.mem_of_getElem? (i := 913) (by decide +kernel))) (by decide +kernel)
theorem wx_M_given : Cond.selects "SuggestDeskModel" y_M_given y_M_given ∈ AL := AL_in (List.mem_append_right _ (List.mem_of_getElem? (i := 914) (by decide +kernel))) (by decide +kernel)
theorem sv_M_given : Cond.instanceMethod y_M_given ∈ AL ∧ Cond.selects y_M_given.cls y_M_given y_M_given ∈ AL := ⟨wn_M_given, wx_M_given⟩
theorem wl_L_118 : Cond.methodLink "SuggestDeskLaw" 118 y_L_distance ∈ AL := AL_in (List.mem_append_right _ (List.mem_of_getElem? (i := 601) (by decide +kernel))) (by decide +kernel)
theorem lk_L_118 : Lk "SuggestDeskLaw" 118 y_L_distance := Or.inl wl_L_118
theorem wcw_L_distance : Cond.codeWith y_L_distance b_L_distance 7 (some .int) [(0, 11, 14, 13)] ∈ AL := AL_in (List.mem_append_right _ (List.mem_of_getElem? (i := 603) (by decide +kernel))) (by decide +kernel)
theorem mwh_L_distance : MwH y_L_distance b_L_distance 7 (some .int) [(0, 11, 14, 13)] 4 := ⟨wcw_L_distance, wi_L, by decide, by decide, by decide +kernel⟩
theorem ws_L_distance : Cond.static y_L_distance ∈ AL := AL_in (List.mem_append_right _ (List.mem_of_getElem? (i := 602) (by decide +kernel))) (by decide +kernel)
theorem wl_L_121 : Cond.methodLink "SuggestDeskLaw" 121 y_M_distance ∈ AL := AL_in (List.mem_append_right _ (List.mem_of_getElem? (i := 916) (by decide +kernel))) (by decide +kernel)
theorem lk_L_121 : Lk "SuggestDeskLaw" 121 y_M_distance := Or.inl wl_L_121
theorem wc_M_distance : Cond.code y_M_distance b_M_distance 5 (some .int) ∈ AL := AL_in (List.mem_append_right _ (List.mem_of_getElem? (i := 919) (by decide +kernel))) (by decide +kernel)
theorem mw_M_distance : Mw y_M_distance b_M_distance 5 (some .int) 2 := ⟨wc_M_distance, wi_M, by decide, by decide, by decide +kernel⟩
theorem wn_M_distance : Cond.instanceMethod y_M_distance ∈ AL := AL_in (List.mem_append_right _ (List.mem_of_getElem? (i := 917) (by decide +kernel))) (by decide +kernel)
theorem wx_M_distance : Cond.selects "SuggestDeskModel" y_M_distance y_M_distance ∈ AL := AL_in (List.mem_append_right _ (List.mem_of_getElem? (i := 918) (by decide +kernel))) (by decide +kernel)
theorem sv_M_distance : Cond.instanceMethod y_M_distance ∈ AL ∧ Cond.selects y_M_distance.cls y_M_distance y_M_distance ∈ AL := ⟨wn_M_distance, wx_M_distance⟩
theorem wl_L_122 : Cond.methodLink "SuggestDeskLaw" 122 y_L_learn ∈ AL := AL_in (List.mem_append_right _ (List.mem_of_getElem? (i := 609) (by decide +kernel))) (by decide +kernel)
theorem lk_L_122 : Lk "SuggestDeskLaw" 122 y_L_learn := Or.inl wl_L_122
theorem wcw_L_learn : Cond.codeWith y_L_learn b_L_learn 7 (some .int) [(0, 11, 14, 13), (0, 11, 18, 15)] ∈ AL := AL_in (List.mem_append_right _ (List.mem_of_getElem? (i := 611) (by decide +kernel))) (by decide +kernel)
theorem mwh_L_learn : MwH y_L_learn b_L_learn 7 (some .int) [(0, 11, 14, 13), (0, 11, 18, 15)] 4 := ⟨wcw_L_learn, wi_L, by decide, by decide, by decide +kernel⟩
theorem ws_L_learn : Cond.static y_L_learn ∈ AL := AL_in (List.mem_append_right _ (List.mem_of_getElem? (i := 610) (by decide +kernel))) (by decide +kernel)
theorem wl_L_124 : Cond.methodLink "SuggestDeskLaw" 124 y_M_learn ∈ AL := AL_in (List.mem_append_right _ (List.mem_of_getElem? (i := 920) (by decide +kernel))) (by decide +kernel)
theorem lk_L_124 : Lk "SuggestDeskLaw" 124 y_M_learn := Or.inl wl_L_124
theorem wc_M_learn : Cond.code y_M_learn b_M_learn 7 (some .int) ∈ AL := AL_in (List.mem_append_right _ (List.mem_of_getElem? (i := 923) (by decide +kernel))) (by decide +kernel)
theorem mw_M_learn : Mw y_M_learn b_M_learn 7 (some .int) 2 := ⟨wc_M_learn, wi_M, by decide, by decide, by decide +kernel⟩
theorem wn_M_learn : Cond.instanceMethod y_M_learn ∈ AL := AL_in (List.mem_append_right _ (List.mem_of_getElem? (i := 921) (by decide +kernel))) (by decide +kernel)
theorem wx_M_learn : Cond.selects "SuggestDeskModel" y_M_learn y_M_learn ∈ AL := AL_in (List.mem_append_right _ (List.mem_of_getElem? (i := 922) (by decide +kernel))) (by decide +kernel)
theorem sv_M_learn : Cond.instanceMethod y_M_learn ∈ AL ∧ Cond.selects y_M_learn.cls y_M_learn y_M_learn ∈ AL := ⟨wn_M_learn, wx_M_learn⟩
theorem wl_L_125 : Cond.methodLink "SuggestDeskLaw" 125 y_L_say ∈ AL := AL_in (List.mem_append_right _ (List.mem_of_getElem? (i := 625) (by decide +kernel))) (by decide +kernel)
theorem lk_L_125 : Lk "SuggestDeskLaw" 125 y_L_say := Or.inl wl_L_125
theorem wcw_L_say : Cond.codeWith y_L_say b_L_say 5 (some .int) [(0, 9, 12, 13), (0, 9, 16, 15)] ∈ AL := AL_in (List.mem_append_right _ (List.mem_of_getElem? (i := 627) (by decide +kernel))) (by decide +kernel)
theorem mwh_L_say : MwH y_L_say b_L_say 5 (some .int) [(0, 9, 12, 13), (0, 9, 16, 15)] 3 := ⟨wcw_L_say, wi_L, by decide, by decide, by decide +kernel⟩
theorem ws_L_say : Cond.static y_L_say ∈ AL := AL_in (List.mem_append_right _ (List.mem_of_getElem? (i := 626) (by decide +kernel))) (by decide +kernel)
theorem wl_L_128 : Cond.methodLink "SuggestDeskLaw" 128 y_M_say ∈ AL := AL_in (List.mem_append_right _ (List.mem_of_getElem? (i := 928) (by decide +kernel))) (by decide +kernel)
theorem lk_L_128 : Lk "SuggestDeskLaw" 128 y_M_say := Or.inl wl_L_128
theorem wc_M_say : Cond.code y_M_say b_M_say 4 (some .int) ∈ AL := AL_in (List.mem_append_right _ (List.mem_of_getElem? (i := 931) (by decide +kernel))) (by decide +kernel)
theorem mw_M_say : Mw y_M_say b_M_say 4 (some .int) 1 := ⟨wc_M_say, wi_M, by decide, by decide, by decide +kernel⟩
theorem wn_M_say : Cond.instanceMethod y_M_say ∈ AL := AL_in (List.mem_append_right _ (List.mem_of_getElem? (i := 929) (by decide +kernel))) (by decide +kernel)
theorem wx_M_say : Cond.selects "SuggestDeskModel" y_M_say y_M_say ∈ AL := AL_in (List.mem_append_right _ (List.mem_of_getElem? (i := 930) (by decide +kernel))) (by decide +kernel)
theorem sv_M_say : Cond.instanceMethod y_M_say ∈ AL ∧ Cond.selects y_M_say.cls y_M_say y_M_say ∈ AL := ⟨wn_M_say, wx_M_say⟩
theorem wl_L_129 : Cond.methodLink "SuggestDeskLaw" 129 y_L_correct ∈ AL := AL_in (List.mem_append_right _ (List.mem_of_getElem? (i := 641) (by decide +kernel))) (by decide +kernel)
theorem lk_L_129 : Lk "SuggestDeskLaw" 129 y_L_correct := Or.inl wl_L_129
theorem wcw_L_correct : Cond.codeWith y_L_correct b_L_correct 4 (some .int) [(0, 9, 12, 32), (0, 9, 15, 15)] ∈ AL := AL_in (List.mem_append_right _ (List.mem_of_getElem? (i := 643) (by decide +kernel))) (by decide +kernel)
theorem mwh_L_correct : MwH y_L_correct b_L_correct 4 (some .int) [(0, 9, 12, 32), (0, 9, 15, 15)] 3 := ⟨wcw_L_correct, wi_L, by decide, by decide, by decide +kernel⟩
theorem ws_L_correct : Cond.static y_L_correct ∈ AL := AL_in (List.mem_append_right _ (List.mem_of_getElem? (i := 642) (by decide +kernel))) (by decide +kernel)
theorem wl_L_131 : Cond.methodLink "SuggestDeskLaw" 131 y_M_correct ∈ AL := AL_in (List.mem_append_right _ (List.mem_of_getElem? (i := 932) (by decide +kernel))) (by decide +kernel)
theorem lk_L_131 : Lk "SuggestDeskLaw" 131 y_M_correct := Or.inl wl_L_131
theorem wc_M_correct : Cond.code y_M_correct b_M_correct 8 (some .int) ∈ AL := AL_in (List.mem_append_right _ (List.mem_of_getElem? (i := 935) (by decide +kernel))) (by decide +kernel)
theorem mw_M_correct : Mw y_M_correct b_M_correct 8 (some .int) 1 := ⟨wc_M_correct, wi_M, by decide, by decide, by decide +kernel⟩
theorem wn_M_correct : Cond.instanceMethod y_M_correct ∈ AL := AL_in (List.mem_append_right _ (List.mem_of_getElem? (i := 933) (by decide +kernel))) (by decide +kernel)
theorem wx_M_correct : Cond.selects "SuggestDeskModel" y_M_correct y_M_correct ∈ AL := AL_in (List.mem_append_right _ (List.mem_of_getElem? (i := 934) (by decide +kernel))) (by decide +kernel)
theorem sv_M_correct : Cond.instanceMethod y_M_correct ∈ AL ∧ Cond.selects y_M_correct.cls y_M_correct y_M_correct ∈ AL := ⟨wn_M_correct, wx_M_correct⟩
theorem wl_L_132 : Cond.methodLink "SuggestDeskLaw" 132 y_L_corrected ∈ AL := AL_in (List.mem_append_right _ (List.mem_of_getElem? (i := 682) (by decide +kernel))) (by decide +kernel)
theorem lk_L_132 : Lk "SuggestDeskLaw" 132 y_L_corrected := Or.inl wl_L_132
theorem wcw_L_corrected : Cond.codeWith y_L_corrected b_L_corrected 4 (some .int) [(0, 8, 11, 49)] ∈ AL := AL_in (List.mem_append_right _ (List.mem_of_getElem? (i := 684) (by decide +kernel))) (by decide +kernel)
theorem mwh_L_corrected : MwH y_L_corrected b_L_corrected 4 (some .int) [(0, 8, 11, 49)] 3 := ⟨wcw_L_corrected, wi_L, by decide, by decide, by decide +kernel⟩
theorem ws_L_corrected : Cond.static y_L_corrected ∈ AL := AL_in (List.mem_append_right _ (List.mem_of_getElem? (i := 683) (by decide +kernel))) (by decide +kernel)
theorem wl_L_134 : Cond.methodLink "SuggestDeskLaw" 134 y_M_corrected ∈ AL := AL_in (List.mem_append_right _ (List.mem_of_getElem? (i := 949) (by decide +kernel))) (by decide +kernel)
theorem lk_L_134 : Lk "SuggestDeskLaw" 134 y_M_corrected := Or.inl wl_L_134
theorem wc_M_corrected : Cond.code y_M_corrected b_M_corrected 2 (some .long) ∈ AL := AL_in (List.mem_append_right _ (List.mem_of_getElem? (i := 952) (by decide +kernel))) (by decide +kernel)
theorem mw_M_corrected : Mw y_M_corrected b_M_corrected 2 (some .long) 1 := ⟨wc_M_corrected, wi_M, by decide, by decide, by decide +kernel⟩
theorem wn_M_corrected : Cond.instanceMethod y_M_corrected ∈ AL := AL_in (List.mem_append_right _ (List.mem_of_getElem? (i := 950) (by decide +kernel))) (by decide +kernel)
theorem wx_M_corrected : Cond.selects "SuggestDeskModel" y_M_corrected y_M_corrected ∈ AL := AL_in (List.mem_append_right _ (List.mem_of_getElem? (i := 951) (by decide +kernel))) (by decide +kernel)
theorem sv_M_corrected : Cond.instanceMethod y_M_corrected ∈ AL ∧ Cond.selects y_M_corrected.cls y_M_corrected y_M_corrected ∈ AL := ⟨wn_M_corrected, wx_M_corrected⟩

