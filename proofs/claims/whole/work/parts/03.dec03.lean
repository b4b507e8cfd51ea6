theorem d_L_word_2 : decode b_L_word 2 = .ok (.iconst 0, 1) := by decide +kernel
theorem d_L_word_3 : decode b_L_word 3 = .ok (.aload_n 0, 1) := by decide +kernel
theorem d_L_word_4 : decode b_L_word 4 = .ok (.lload_n 1, 1) := by decide +kernel
theorem d_L_word_5 : decode b_L_word 5 = .ok (.iload_n 3, 1) := by decide +kernel
theorem d_L_word_6 : decode b_L_word 6 = .ok (.invokevirtual 7, 3) := by decide +kernel
theorem d_L_word_9 : decode b_L_word 9 = .ok (.i2l, 1) := by decide +kernel
theorem d_L_word_10 : decode b_L_word 10 = .ok (.lastore, 1) := by decide +kernel
theorem d_L_word_11 : decode b_L_word 11 = .ok (.goto 11, 3) := by decide +kernel
theorem d_L_word_14 : decode b_L_word 14 = .ok (.astore 5, 2) := by decide +kernel
theorem d_L_word_16 : decode b_L_word 16 = .ok (.iconst 1, 1) := by decide +kernel
theorem d_L_word_17 : decode b_L_word 17 = .ok (.ireturn, 1) := by decide +kernel
theorem d_L_word_18 : decode b_L_word 18 = .ok (.astore 5, 2) := by decide +kernel
theorem d_L_word_20 : decode b_L_word 20 = .ok (.iconst 2, 1) := by decide +kernel
theorem d_L_word_21 : decode b_L_word 21 = .ok (.ireturn, 1) := by decide +kernel
theorem d_L_word_22 : decode b_L_word 22 = .ok (.iconst 0, 1) := by decide +kernel
theorem d_L_word_23 : decode b_L_word 23 = .ok (.ireturn, 1) := by decide +kernel
theorem d_L_build_0 : decode b_L_build 0 = .ok (.aload_n 1, 1) := by decide +kernel
theorem d_L_build_1 : decode b_L_build 1 = .ok (.iconst 0, 1) := by decide +kernel
theorem d_L_build_2 : decode b_L_build 2 = .ok (.aload_n 0, 1) := by decide +kernel
theorem d_L_build_3 : decode b_L_build 3 = .ok (.invokevirtual 17, 3) := by decide +kernel
theorem d_L_build_6 : decode b_L_build 6 = .ok (.i2l, 1) := by decide +kernel
theorem d_L_build_7 : decode b_L_build 7 = .ok (.lastore, 1) := by decide +kernel
theorem d_L_build_8 : decode b_L_build 8 = .ok (.goto 6, 3) := by decide +kernel
theorem d_L_build_11 : decode b_L_build 11 = .ok (.astore_n 2, 1) := by decide +kernel
theorem d_L_build_12 : decode b_L_build 12 = .ok (.iconst 1, 1) := by decide +kernel
theorem d_L_build_13 : decode b_L_build 13 = .ok (.ireturn, 1) := by decide +kernel
theorem d_L_build_14 : decode b_L_build 14 = .ok (.iconst 0, 1) := by decide +kernel
theorem d_L_build_15 : decode b_L_build 15 = .ok (.ireturn, 1) := by decide +kernel
theorem d_L_hold_0 : decode b_L_hold 0 = .ok (.aload_n 1, 1) := by decide +kernel
theorem d_L_hold_1 : decode b_L_hold 1 = .ok (.iconst 0, 1) := by decide +kernel
theorem d_L_hold_2 : decode b_L_hold 2 = .ok (.aload_n 0, 1) := by decide +kernel
theorem d_L_hold_3 : decode b_L_hold 3 = .ok (.invokevirtual 21, 3) := by decide +kernel
theorem d_L_hold_6 : decode b_L_hold 6 = .ok (.i2l, 1) := by decide +kernel
theorem d_L_hold_7 : decode b_L_hold 7 = .ok (.lastore, 1) := by decide +kernel
theorem d_L_hold_8 : decode b_L_hold 8 = .ok (.goto 6, 3) := by decide +kernel
theorem d_L_hold_11 : decode b_L_hold 11 = .ok (.astore_n 2, 1) := by decide +kernel
theorem d_L_hold_12 : decode b_L_hold 12 = .ok (.iconst 1, 1) := by decide +kernel
theorem d_L_hold_13 : decode b_L_hold 13 = .ok (.ireturn, 1) := by decide +kernel
theorem d_L_hold_14 : decode b_L_hold 14 = .ok (.iconst 0, 1) := by decide +kernel
theorem d_L_hold_15 : decode b_L_hold 15 = .ok (.ireturn, 1) := by decide +kernel
theorem d_L_release_0 : decode b_L_release 0 = .ok (.aload_n 2, 1) := by decide +kernel
theorem d_L_release_1 : decode b_L_release 1 = .ok (.iconst 0, 1) := by decide +kernel
theorem d_L_release_2 : decode b_L_release 2 = .ok (.aload_n 0, 1) := by decide +kernel
theorem d_L_release_3 : decode b_L_release 3 = .ok (.iload_n 1, 1) := by decide +kernel
theorem d_L_release_4 : decode b_L_release 4 = .ok (.invokevirtual 24, 3) := by decide +kernel
theorem d_L_release_7 : decode b_L_release 7 = .ok (.ifCond .eq 7, 3) := by decide +kernel
theorem d_L_release_10 : decode b_L_release 10 = .ok (.lconst 1, 1) := by decide +kernel
theorem d_L_release_11 : decode b_L_release 11 = .ok (.goto 4, 3) := by decide +kernel
theorem d_L_release_14 : decode b_L_release 14 = .ok (.lconst 0, 1) := by decide +kernel
theorem d_L_release_15 : decode b_L_release 15 = .ok (.lastore, 1) := by decide +kernel
theorem d_L_release_16 : decode b_L_release 16 = .ok (.goto 6, 3) := by decide +kernel
theorem d_L_release_19 : decode b_L_release 19 = .ok (.astore_n 3, 1) := by decide +kernel
theorem d_L_release_20 : decode b_L_release 20 = .ok (.iconst 1, 1) := by decide +kernel
theorem d_L_release_21 : decode b_L_release 21 = .ok (.ireturn, 1) := by decide +kernel
theorem d_L_release_22 : decode b_L_release 22 = .ok (.iconst 0, 1) := by decide +kernel
theorem d_L_release_23 : decode b_L_release 23 = .ok (.ireturn, 1) := by decide +kernel
theorem d_L_look_0 : decode b_L_look 0 = .ok (.aload_n 3, 1) := by decide +kernel
theorem d_L_look_1 : decode b_L_look 1 = .ok (.iconst 0, 1) := by decide +kernel
theorem d_L_look_2 : decode b_L_look 2 = .ok (.aload_n 0, 1) := by decide +kernel
theorem d_L_look_3 : decode b_L_look 3 = .ok (.iload_n 1, 1) := by decide +kernel
theorem d_L_look_4 : decode b_L_look 4 = .ok (.iload_n 2, 1) := by decide +kernel
theorem d_L_look_5 : decode b_L_look 5 = .ok (.invokevirtual 28, 3) := by decide +kernel
theorem d_L_look_8 : decode b_L_look 8 = .ok (.i2l, 1) := by decide +kernel
theorem d_L_look_9 : decode b_L_look 9 = .ok (.lastore, 1) := by decide +kernel
theorem d_L_look_10 : decode b_L_look 10 = .ok (.goto 11, 3) := by decide +kernel
theorem d_L_look_13 : decode b_L_look 13 = .ok (.astore 4, 2) := by decide +kernel
theorem d_L_look_15 : decode b_L_look 15 = .ok (.iconst 1, 1) := by decide +kernel
theorem d_L_look_16 : decode b_L_look 16 = .ok (.ireturn, 1) := by decide +kernel
theorem d_L_look_17 : decode b_L_look 17 = .ok (.astore 4, 2) := by decide +kernel
theorem d_L_look_19 : decode b_L_look 19 = .ok (.iconst 2, 1) := by decide +kernel
theorem d_L_look_20 : decode b_L_look 20 = .ok (.ireturn, 1) := by decide +kernel
theorem d_L_look_21 : decode b_L_look 21 = .ok (.iconst 0, 1) := by decide +kernel
theorem d_L_look_22 : decode b_L_look 22 = .ok (.ireturn, 1) := by decide +kernel
theorem d_L_cost_0 : decode b_L_cost 0 = .ok (.aload 4, 2) := by decide +kernel
theorem d_L_cost_2 : decode b_L_cost 2 = .ok (.iconst 0, 1) := by decide +kernel
theorem d_L_cost_3 : decode b_L_cost 3 = .ok (.aload_n 0, 1) := by decide +kernel
theorem d_L_cost_4 : decode b_L_cost 4 = .ok (.iload_n 1, 1) := by decide +kernel
theorem d_L_cost_5 : decode b_L_cost 5 = .ok (.lload_n 2, 1) := by decide +kernel
theorem d_L_cost_6 : decode b_L_cost 6 = .ok (.invokevirtual 34, 3) := by decide +kernel
theorem d_L_cost_9 : decode b_L_cost 9 = .ok (.i2l, 1) := by decide +kernel
theorem d_L_cost_10 : decode b_L_cost 10 = .ok (.lastore, 1) := by decide +kernel
theorem d_L_cost_11 : decode b_L_cost 11 = .ok (.goto 7, 3) := by decide +kernel
theorem d_L_cost_14 : decode b_L_cost 14 = .ok (.astore 5, 2) := by decide +kernel
theorem d_L_cost_16 : decode b_L_cost 16 = .ok (.iconst 1, 1) := by decide +kernel
theorem d_L_cost_17 : decode b_L_cost 17 = .ok (.ireturn, 1) := by decide +kernel
theorem d_L_cost_18 : decode b_L_cost 18 = .ok (.iconst 0, 1) := by decide +kernel
theorem d_L_cost_19 : decode b_L_cost 19 = .ok (.ireturn, 1) := by decide +kernel
theorem d_L_complete_0 : decode b_L_complete 0 = .ok (.aload 5, 2) := by decide +kernel
theorem d_L_complete_2 : decode b_L_complete 2 = .ok (.iconst 0, 1) := by decide +kernel
theorem d_L_complete_3 : decode b_L_complete 3 = .ok (.aload_n 0, 1) := by decide +kernel
theorem d_L_complete_4 : decode b_L_complete 4 = .ok (.iload_n 1, 1) := by decide +kernel
theorem d_L_complete_5 : decode b_L_complete 5 = .ok (.lload_n 2, 1) := by decide +kernel
theorem d_L_complete_6 : decode b_L_complete 6 = .ok (.iload 4, 2) := by decide +kernel
theorem d_L_complete_8 : decode b_L_complete 8 = .ok (.invokevirtual 38, 3) := by decide +kernel
theorem d_L_complete_11 : decode b_L_complete 11 = .ok (.i2l, 1) := by decide +kernel
theorem d_L_complete_12 : decode b_L_complete 12 = .ok (.lastore, 1) := by decide +kernel
theorem d_L_complete_13 : decode b_L_complete 13 = .ok (.goto 11, 3) := by decide +kernel
theorem d_L_complete_16 : decode b_L_complete 16 = .ok (.astore 6, 2) := by decide +kernel
theorem d_L_complete_18 : decode b_L_complete 18 = .ok (.iconst 1, 1) := by decide +kernel
theorem d_L_complete_19 : decode b_L_complete 19 = .ok (.ireturn, 1) := by decide +kernel
theorem d_L_complete_20 : decode b_L_complete 20 = .ok (.astore 6, 2) := by decide +kernel
theorem d_L_complete_22 : decode b_L_complete 22 = .ok (.iconst 2, 1) := by decide +kernel
theorem d_L_complete_23 : decode b_L_complete 23 = .ok (.ireturn, 1) := by decide +kernel
theorem d_L_complete_24 : decode b_L_complete 24 = .ok (.iconst 0, 1) := by decide +kernel
theorem d_L_complete_25 : decode b_L_complete 25 = .ok (.ireturn, 1) := by decide +kernel
theorem d_L_near_0 : decode b_L_near 0 = .ok (.aload 5, 2) := by decide +kernel
theorem d_L_near_2 : decode b_L_near 2 = .ok (.iconst 0, 1) := by decide +kernel
theorem d_L_near_3 : decode b_L_near 3 = .ok (.aload_n 0, 1) := by decide +kernel
theorem d_L_near_4 : decode b_L_near 4 = .ok (.iload_n 1, 1) := by decide +kernel
theorem d_L_near_5 : decode b_L_near 5 = .ok (.lload_n 2, 1) := by decide +kernel
theorem d_L_near_6 : decode b_L_near 6 = .ok (.iload 4, 2) := by decide +kernel
theorem d_L_near_8 : decode b_L_near 8 = .ok (.invokevirtual 42, 3) := by decide +kernel
theorem d_L_near_11 : decode b_L_near 11 = .ok (.i2l, 1) := by decide +kernel
theorem d_L_near_12 : decode b_L_near 12 = .ok (.lastore, 1) := by decide +kernel
theorem d_L_near_13 : decode b_L_near 13 = .ok (.goto 11, 3) := by decide +kernel
theorem d_L_near_16 : decode b_L_near 16 = .ok (.astore 6, 2) := by decide +kernel
theorem d_L_near_18 : decode b_L_near 18 = .ok (.iconst 1, 1) := by decide +kernel
theorem d_L_near_19 : decode b_L_near 19 = .ok (.ireturn, 1) := by decide +kernel
theorem d_L_near_20 : decode b_L_near 20 = .ok (.astore 6, 2) := by decide +kernel
theorem d_L_near_22 : decode b_L_near 22 = .ok (.iconst 2, 1) := by decide +kernel
theorem d_L_near_23 : decode b_L_near 23 = .ok (.ireturn, 1) := by decide +kernel
theorem d_L_near_24 : decode b_L_near 24 = .ok (.iconst 0, 1) := by decide +kernel
theorem d_L_near_25 : decode b_L_near 25 = .ok (.ireturn, 1) := by decide +kernel
theorem d_L_given_0 : decode b_L_given 0 = .ok (.aload_n 2, 1) := by decide +kernel
theorem d_L_given_1 : decode b_L_given 1 = .ok (.iconst 0, 1) := by decide +kernel
theorem d_L_given_2 : decode b_L_given 2 = .ok (.aload_n 0, 1) := by decide +kernel
theorem d_L_given_3 : decode b_L_given 3 = .ok (.iload_n 1, 1) := by decide +kernel
theorem d_L_given_4 : decode b_L_given 4 = .ok (.invokevirtual 45, 3) := by decide +kernel
theorem d_L_given_7 : decode b_L_given 7 = .ok (.lastore, 1) := by decide +kernel
theorem d_L_given_8 : decode b_L_given 8 = .ok (.goto 6, 3) := by decide +kernel
theorem d_L_given_11 : decode b_L_given 11 = .ok (.astore_n 3, 1) := by decide +kernel
theorem d_L_given_12 : decode b_L_given 12 = .ok (.iconst 1, 1) := by decide +kernel
theorem d_L_given_13 : decode b_L_given 13 = .ok (.ireturn, 1) := by decide +kernel
theorem d_L_given_14 : decode b_L_given 14 = .ok (.iconst 0, 1) := by decide +kernel
theorem d_L_given_15 : decode b_L_given 15 = .ok (.ireturn, 1) := by decide +kernel
theorem d_L_distance_0 : decode b_L_distance 0 = .ok (.aload 5, 2) := by decide +kernel
theorem d_L_distance_2 : decode b_L_distance 2 = .ok (.iconst 0, 1) := by decide +kernel
theorem d_L_distance_3 : decode b_L_distance 3 = .ok (.aload_n 0, 1) := by decide +kernel
theorem d_L_distance_4 : decode b_L_distance 4 = .ok (.lload_n 1, 1) := by decide +kernel
theorem d_L_distance_5 : decode b_L_distance 5 = .ok (.lload_n 3, 1) := by decide +kernel
theorem d_L_distance_6 : decode b_L_distance 6 = .ok (.invokevirtual 51, 3) := by decide +kernel
theorem d_L_distance_9 : decode b_L_distance 9 = .ok (.i2l, 1) := by decide +kernel
theorem d_L_distance_10 : decode b_L_distance 10 = .ok (.lastore, 1) := by decide +kernel
theorem d_L_distance_11 : decode b_L_distance 11 = .ok (.goto 7, 3) := by decide +kernel
theorem d_L_distance_14 : decode b_L_distance 14 = .ok (.astore 6, 2) := by decide +kernel
theorem d_L_distance_16 : decode b_L_distance 16 = .ok (.iconst 1, 1) := by decide +kernel
theorem d_L_distance_17 : decode b_L_distance 17 = .ok (.ireturn, 1) := by decide +kernel
theorem d_L_distance_18 : decode b_L_distance 18 = .ok (.iconst 0, 1) := by decide +kernel
theorem d_L_distance_19 : decode b_L_distance 19 = .ok (.ireturn, 1) := by decide +kernel
theorem d_L_learn_0 : decode b_L_learn 0 = .ok (.aload 5, 2) := by decide +kernel
theorem d_L_learn_2 : decode b_L_learn 2 = .ok (.iconst 0, 1) := by decide +kernel
theorem d_L_learn_3 : decode b_L_learn 3 = .ok (.aload_n 0, 1) := by decide +kernel
theorem d_L_learn_4 : decode b_L_learn 4 = .ok (.lload_n 1, 1) := by decide +kernel
theorem d_L_learn_5 : decode b_L_learn 5 = .ok (.lload_n 3, 1) := by decide +kernel
theorem d_L_learn_6 : decode b_L_learn 6 = .ok (.invokevirtual 55, 3) := by decide +kernel
theorem d_L_learn_9 : decode b_L_learn 9 = .ok (.i2l, 1) := by decide +kernel
theorem d_L_learn_10 : decode b_L_learn 10 = .ok (.lastore, 1) := by decide +kernel
theorem d_L_learn_11 : decode b_L_learn 11 = .ok (.goto 11, 3) := by decide +kernel
theorem d_L_learn_14 : decode b_L_learn 14 = .ok (.astore 6, 2) := by decide +kernel
theorem d_L_learn_16 : decode b_L_learn 16 = .ok (.iconst 1, 1) := by decide +kernel
theorem d_L_learn_17 : decode b_L_learn 17 = .ok (.ireturn, 1) := by decide +kernel
theorem d_L_learn_18 : decode b_L_learn 18 = .ok (.astore 6, 2) := by decide +kernel
theorem d_L_learn_20 : decode b_L_learn 20 = .ok (.iconst 2, 1) := by decide +kernel
theorem d_L_learn_21 : decode b_L_learn 21 = .ok (.ireturn, 1) := by decide +kernel
theorem d_L_learn_22 : decode b_L_learn 22 = .ok (.iconst 0, 1) := by decide +kernel
theorem d_L_learn_23 : decode b_L_learn 23 = .ok (.ireturn, 1) := by decide +kernel
theorem d_L_say_0 : decode b_L_say 0 = .ok (.aload_n 3, 1) := by decide +kernel
theorem d_L_say_1 : decode b_L_say 1 = .ok (.iconst 0, 1) := by decide +kernel
theorem d_L_say_2 : decode b_L_say 2 = .ok (.aload_n 0, 1) := by decide +kernel
theorem d_L_say_3 : decode b_L_say 3 = .ok (.lload_n 1, 1) := by decide +kernel
theorem d_L_say_4 : decode b_L_say 4 = .ok (.invokevirtual 58, 3) := by decide +kernel
theorem d_L_say_7 : decode b_L_say 7 = .ok (.i2l, 1) := by decide +kernel
theorem d_L_say_8 : decode b_L_say 8 = .ok (.lastore, 1) := by decide +kernel
theorem d_L_say_9 : decode b_L_say 9 = .ok (.goto 11, 3) := by decide +kernel
theorem d_L_say_12 : decode b_L_say 12 = .ok (.astore 4, 2) := by decide +kernel
theorem d_L_say_14 : decode b_L_say 14 = .ok (.iconst 1, 1) := by decide +kernel
theorem d_L_say_15 : decode b_L_say 15 = .ok (.ireturn, 1) := by decide +kernel
theorem d_L_say_16 : decode b_L_say 16 = .ok (.astore 4, 2) := by decide +kernel
theorem d_L_say_18 : decode b_L_say 18 = .ok (.iconst 2, 1) := by decide +kernel
theorem d_L_say_19 : decode b_L_say 19 = .ok (.ireturn, 1) := by decide +kernel
theorem d_L_say_20 : decode b_L_say 20 = .ok (.iconst 0, 1) := by decide +kernel
theorem d_L_say_21 : decode b_L_say 21 = .ok (.ireturn, 1) := by decide +kernel
theorem d_L_correct_0 : decode b_L_correct 0 = .ok (.aload_n 2, 1) := by decide +kernel
theorem d_L_correct_1 : decode b_L_correct 1 = .ok (.iconst 0, 1) := by decide +kernel
theorem d_L_correct_2 : decode b_L_correct 2 = .ok (.aload_n 0, 1) := by decide +kernel
theorem d_L_correct_3 : decode b_L_correct 3 = .ok (.iload_n 1, 1) := by decide +kernel
theorem d_L_correct_4 : decode b_L_correct 4 = .ok (.invokevirtual 62, 3) := by decide +kernel
theorem d_L_correct_7 : decode b_L_correct 7 = .ok (.i2l, 1) := by decide +kernel
theorem d_L_correct_8 : decode b_L_correct 8 = .ok (.lastore, 1) := by decide +kernel
theorem d_L_correct_9 : decode b_L_correct 9 = .ok (.goto 9, 3) := by decide +kernel
theorem d_L_correct_12 : decode b_L_correct 12 = .ok (.astore_n 3, 1) := by decide +kernel
theorem d_L_correct_13 : decode b_L_correct 13 = .ok (.iconst 1, 1) := by decide +kernel
theorem d_L_correct_14 : decode b_L_correct 14 = .ok (.ireturn, 1) := by decide +kernel
theorem d_L_correct_15 : decode b_L_correct 15 = .ok (.astore_n 3, 1) := by decide +kernel
theorem d_L_correct_16 : decode b_L_correct 16 = .ok (.iconst 2, 1) := by decide +kernel
theorem d_L_correct_17 : decode b_L_correct 17 = .ok (.ireturn, 1) := by decide +kernel
theorem d_L_correct_18 : decode b_L_correct 18 = .ok (.iconst 0, 1) := by decide +kernel
theorem d_L_correct_19 : decode b_L_correct 19 = .ok (.ireturn, 1) := by decide +kernel
theorem d_L_corrected_0 : decode b_L_corrected 0 = .ok (.aload_n 2, 1) := by decide +kernel
theorem d_L_corrected_1 : decode b_L_corrected 1 = .ok (.iconst 0, 1) := by decide +kernel
theorem d_L_corrected_2 : decode b_L_corrected 2 = .ok (.aload_n 0, 1) := by decide +kernel
theorem d_L_corrected_3 : decode b_L_corrected 3 = .ok (.iload_n 1, 1) := by decide +kernel
theorem d_L_corrected_4 : decode b_L_corrected 4 = .ok (.invokevirtual 66, 3) := by decide +kernel
theorem d_L_corrected_7 : decode b_L_corrected 7 = .ok (.lastore, 1) := by decide +kernel
theorem d_L_corrected_8 : decode b_L_corrected 8 = .ok (.goto 6, 3) := by decide +kernel
theorem d_L_corrected_11 : decode b_L_corrected 11 = .ok (.astore_n 3, 1) := by decide +kernel
theorem d_L_corrected_12 : decode b_L_corrected 12 = .ok (.iconst 1, 1) := by decide +kernel
theorem d_L_corrected_13 : decode b_L_corrected 13 = .ok (.ireturn, 1) := by decide +kernel
theorem d_L_corrected_14 : decode b_L_corrected 14 = .ok (.iconst 0, 1) := by decide +kernel
theorem d_L_corrected_15 : decode b_L_corrected 15 = .ok (.ireturn, 1) := by decide +kernel
theorem d_L_law_0 : decode b_L_law 0 = .ok (.new 8, 3) := by decide +kernel
theorem d_L_law_3 : decode b_L_law 3 = .ok (.dup, 1) := by decide +kernel
theorem d_L_law_4 : decode b_L_law 4 = .ok (.invokespecial 69, 3) := by decide +kernel
theorem d_L_law_7 : decode b_L_law 7 = .ok (.astore_n 1, 1) := by decide +kernel
theorem d_L_law_8 : decode b_L_law 8 = .ok (.new 70, 3) := by decide +kernel
theorem d_L_law_11 : decode b_L_law 11 = .ok (.dup, 1) := by decide +kernel
theorem d_L_law_12 : decode b_L_law 12 = .ok (.invokespecial 72, 3) := by decide +kernel
theorem d_L_law_15 : decode b_L_law 15 = .ok (.astore_n 2, 1) := by decide +kernel
theorem d_L_law_16 : decode b_L_law 16 = .ok (.iconst 1, 1) := by decide +kernel
theorem d_L_law_17 : decode b_L_law 17 = .ok (.newarray .long, 2) := by decide +kernel
theorem d_L_law_19 : decode b_L_law 19 = .ok (.astore_n 3, 1) := by decide +kernel
theorem d_L_law_20 : decode b_L_law 20 = .ok (.iconst 0, 1) := by decide +kernel
theorem d_L_law_21 : decode b_L_law 21 = .ok (.istore 4, 2) := by decide +kernel
theorem d_L_law_23 : decode b_L_law 23 = .ok (.iload 4, 2) := by decide +kernel
theorem d_L_law_25 : decode b_L_law 25 = .ok (.aload_n 0, 1) := by decide +kernel
theorem d_L_law_26 : decode b_L_law 26 = .ok (.arraylength, 1) := by decide +kernel
theorem d_L_law_27 : decode b_L_law 27 = .ok (.iconst 5, 1) := by decide +kernel
theorem d_L_law_28 : decode b_L_law 28 = .ok (.isub, 1) := by decide +kernel
theorem d_L_law_29 : decode b_L_law 29 = .ok (.if_icmp .gt 1307, 3) := by decide +kernel
theorem d_L_law_32 : decode b_L_law 32 = .ok (.aload_n 0, 1) := by decide +kernel
theorem d_L_law_33 : decode b_L_law 33 = .ok (.iload 4, 2) := by decide +kernel
theorem d_L_law_35 : decode b_L_law 35 = .ok (.iaload, 1) := by decide +kernel
theorem d_L_law_36 : decode b_L_law 36 = .ok (.bipush 15, 2) := by decide +kernel
theorem d_L_law_38 : decode b_L_law 38 = .ok (.iand, 1) := by decide +kernel
theorem d_L_law_39 : decode b_L_law 39 = .ok (.tableswitch 1291 0 14 #[73, 173, 230, 274, 318, 381, 449, 549, 661, 773, 828, 960, 1092, 1180, 1236], 73) := by decide +kernel
theorem d_L_law_112 : decode b_L_law 112 = .ok (.aload_n 1, 1) := by decide +kernel
theorem d_L_law_113 : decode b_L_law 113 = .ok (.aload_n 0, 1) := by decide +kernel
theorem d_L_law_114 : decode b_L_law 114 = .ok (.iload 4, 2) := by decide +kernel
theorem d_L_law_116 : decode b_L_law 116 = .ok (.iconst 1, 1) := by decide +kernel
theorem d_L_law_117 : decode b_L_law 117 = .ok (.iadd, 1) := by decide +kernel
theorem d_L_law_118 : decode b_L_law 118 = .ok (.iaload, 1) := by decide +kernel
theorem d_L_law_119 : decode b_L_law 119 = .ok (.i2l, 1) := by decide +kernel
theorem d_L_law_120 : decode b_L_law 120 = .ok (.bipush 32, 2) := by decide +kernel
theorem d_L_law_122 : decode b_L_law 122 = .ok (.lshl, 1) := by decide +kernel
theorem d_L_law_123 : decode b_L_law 123 = .ok (.aload_n 0, 1) := by decide +kernel
theorem d_L_law_124 : decode b_L_law 124 = .ok (.iload 4, 2) := by decide +kernel
theorem d_L_law_126 : decode b_L_law 126 = .ok (.iconst 2, 1) := by decide +kernel
theorem d_L_law_127 : decode b_L_law 127 = .ok (.iadd, 1) := by decide +kernel
theorem d_L_law_128 : decode b_L_law 128 = .ok (.iaload, 1) := by decide +kernel
theorem d_L_law_129 : decode b_L_law 129 = .ok (.i2l, 1) := by decide +kernel
theorem d_L_law_130 : decode b_L_law 130 = .ok (.ldc2_w 73, 3) := by decide +kernel
theorem d_L_law_133 : decode b_L_law 133 = .ok (.land, 1) := by decide +kernel
theorem d_L_law_134 : decode b_L_law 134 = .ok (.lor, 1) := by decide +kernel
theorem d_L_law_135 : decode b_L_law 135 = .ok (.aload_n 0, 1) := by decide +kernel
theorem d_L_law_136 : decode b_L_law 136 = .ok (.iload 4, 2) := by decide +kernel
theorem d_L_law_138 : decode b_L_law 138 = .ok (.iconst 3, 1) := by decide +kernel
theorem d_L_law_139 : decode b_L_law 139 = .ok (.iadd, 1) := by decide +kernel
theorem d_L_law_140 : decode b_L_law 140 = .ok (.iaload, 1) := by decide +kernel
theorem d_L_law_141 : decode b_L_law 141 = .ok (.aload_n 3, 1) := by decide +kernel
theorem d_L_law_142 : decode b_L_law 142 = .ok (.invokestatic 75, 3) := by decide +kernel
theorem d_L_law_145 : decode b_L_law 145 = .ok (.istore 5, 2) := by decide +kernel
theorem d_L_law_147 : decode b_L_law 147 = .ok (.aload_n 2, 1) := by decide +kernel
theorem d_L_law_148 : decode b_L_law 148 = .ok (.aload_n 0, 1) := by decide +kernel
theorem d_L_law_149 : decode b_L_law 149 = .ok (.iload 4, 2) := by decide +kernel
theorem d_L_law_151 : decode b_L_law 151 = .ok (.iconst 1, 1) := by decide +kernel
theorem d_L_law_152 : decode b_L_law 152 = .ok (.iadd, 1) := by decide +kernel
theorem d_L_law_153 : decode b_L_law 153 = .ok (.iaload, 1) := by decide +kernel
theorem d_L_law_154 : decode b_L_law 154 = .ok (.i2l, 1) := by decide +kernel
theorem d_L_law_155 : decode b_L_law 155 = .ok (.bipush 32, 2) := by decide +kernel
theorem d_L_law_157 : decode b_L_law 157 = .ok (.lshl, 1) := by decide +kernel
theorem d_L_law_158 : decode b_L_law 158 = .ok (.aload_n 0, 1) := by decide +kernel
theorem d_L_law_159 : decode b_L_law 159 = .ok (.iload 4, 2) := by decide +kernel
theorem d_L_law_161 : decode b_L_law 161 = .ok (.iconst 2, 1) := by decide +kernel
theorem d_L_law_162 : decode b_L_law 162 = .ok (.iadd, 1) := by decide +kernel
theorem d_L_law_163 : decode b_L_law 163 = .ok (.iaload, 1) := by decide +kernel
theorem d_L_law_164 : decode b_L_law 164 = .ok (.i2l, 1) := by decide +kernel
theorem d_L_law_165 : decode b_L_law 165 = .ok (.ldc2_w 73, 3) := by decide +kernel
theorem d_L_law_168 : decode b_L_law 168 = .ok (.land, 1) := by decide +kernel
theorem d_L_law_169 : decode b_L_law 169 = .ok (.lor, 1) := by decide +kernel
theorem d_L_law_170 : decode b_L_law 170 = .ok (.aload_n 0, 1) := by decide +kernel
theorem d_L_law_171 : decode b_L_law 171 = .ok (.iload 4, 2) := by decide +kernel
theorem d_L_law_173 : decode b_L_law 173 = .ok (.iconst 3, 1) := by decide +kernel
theorem d_L_law_174 : decode b_L_law 174 = .ok (.iadd, 1) := by decide +kernel
theorem d_L_law_175 : decode b_L_law 175 = .ok (.iaload, 1) := by decide +kernel
theorem d_L_law_176 : decode b_L_law 176 = .ok (.invokevirtual 80, 3) := by decide +kernel
theorem d_L_law_179 : decode b_L_law 179 = .ok (.istore 6, 2) := by decide +kernel
theorem d_L_law_181 : decode b_L_law 181 = .ok (.aload_n 2, 1) := by decide +kernel
theorem d_L_law_182 : decode b_L_law 182 = .ok (.invokevirtual 81, 3) := by decide +kernel
theorem d_L_law_185 : decode b_L_law 185 = .ok (.iload 5, 2) := by decide +kernel
theorem d_L_law_187 : decode b_L_law 187 = .ok (.if_icmp .eq 5, 3) := by decide +kernel
theorem d_L_law_190 : decode b_L_law 190 = .ok (.iconst 0, 1) := by decide +kernel
theorem d_L_law_191 : decode b_L_law 191 = .ok (.ireturn, 1) := by decide +kernel
theorem d_L_law_192 : decode b_L_law 192 = .ok (.iload 5, 2) := by decide +kernel
theorem d_L_law_194 : decode b_L_law 194 = .ok (.ifCond .ne 15, 3) := by decide +kernel
theorem d_L_law_197 : decode b_L_law 197 = .ok (.aload_n 3, 1) := by decide +kernel
theorem d_L_law_198 : decode b_L_law 198 = .ok (.iconst 0, 1) := by decide +kernel
theorem d_L_law_199 : decode b_L_law 199 = .ok (.laload, 1) := by decide +kernel
theorem d_L_law_200 : decode b_L_law 200 = .ok (.iload 6, 2) := by decide +kernel
theorem d_L_law_202 : decode b_L_law 202 = .ok (.i2l, 1) := by decide +kernel
theorem d_L_law_203 : decode b_L_law 203 = .ok (.lcmp, 1) := by decide +kernel
theorem d_L_law_204 : decode b_L_law 204 = .ok (.ifCond .eq 5, 3) := by decide +kernel
theorem d_L_law_207 : decode b_L_law 207 = .ok (.iconst 0, 1) := by decide +kernel
theorem d_L_law_208 : decode b_L_law 208 = .ok (.ireturn, 1) := by decide +kernel
theorem d_L_law_209 : decode b_L_law 209 = .ok (.goto 1121, 3) := by decide +kernel
theorem d_L_law_212 : decode b_L_law 212 = .ok (.aload_n 1, 1) := by decide +kernel
theorem d_L_law_213 : decode b_L_law 213 = .ok (.aload_n 0, 1) := by decide +kernel
theorem d_L_law_214 : decode b_L_law 214 = .ok (.iload 4, 2) := by decide +kernel
theorem d_L_law_216 : decode b_L_law 216 = .ok (.iconst 1, 1) := by decide +kernel
theorem d_L_law_217 : decode b_L_law 217 = .ok (.iadd, 1) := by decide +kernel
theorem d_L_law_218 : decode b_L_law 218 = .ok (.iaload, 1) := by decide +kernel
theorem d_L_law_219 : decode b_L_law 219 = .ok (.i2l, 1) := by decide +kernel
theorem d_L_law_220 : decode b_L_law 220 = .ok (.bipush 32, 2) := by decide +kernel
theorem d_L_law_222 : decode b_L_law 222 = .ok (.lshl, 1) := by decide +kernel
theorem d_L_law_223 : decode b_L_law 223 = .ok (.aload_n 0, 1) := by decide +kernel
theorem d_L_law_224 : decode b_L_law 224 = .ok (.iload 4, 2) := by decide +kernel
theorem d_L_law_226 : decode b_L_law 226 = .ok (.iconst 2, 1) := by decide +kernel
theorem d_L_law_227 : decode b_L_law 227 = .ok (.iadd, 1) := by decide +kernel
theorem d_L_law_228 : decode b_L_law 228 = .ok (.iaload, 1) := by decide +kernel
theorem d_L_law_229 : decode b_L_law 229 = .ok (.i2l, 1) := by decide +kernel
theorem d_L_law_230 : decode b_L_law 230 = .ok (.ldc2_w 73, 3) := by decide +kernel
theorem d_L_law_233 : decode b_L_law 233 = .ok (.land, 1) := by decide +kernel
theorem d_L_law_234 : decode b_L_law 234 = .ok (.lor, 1) := by decide +kernel
theorem d_L_law_235 : decode b_L_law 235 = .ok (.invokevirtual 84, 3) := by decide +kernel
theorem d_L_law_238 : decode b_L_law 238 = .ok (.aload_n 2, 1) := by decide +kernel
theorem d_L_law_239 : decode b_L_law 239 = .ok (.aload_n 0, 1) := by decide +kernel
theorem d_L_law_240 : decode b_L_law 240 = .ok (.iload 4, 2) := by decide +kernel
theorem d_L_law_242 : decode b_L_law 242 = .ok (.iconst 1, 1) := by decide +kernel
theorem d_L_law_243 : decode b_L_law 243 = .ok (.iadd, 1) := by decide +kernel
theorem d_L_law_244 : decode b_L_law 244 = .ok (.iaload, 1) := by decide +kernel
theorem d_L_law_245 : decode b_L_law 245 = .ok (.i2l, 1) := by decide +kernel
theorem d_L_law_246 : decode b_L_law 246 = .ok (.bipush 32, 2) := by decide +kernel
theorem d_L_law_248 : decode b_L_law 248 = .ok (.lshl, 1) := by decide +kernel
theorem d_L_law_249 : decode b_L_law 249 = .ok (.aload_n 0, 1) := by decide +kernel
theorem d_L_law_250 : decode b_L_law 250 = .ok (.iload 4, 2) := by decide +kernel
theorem d_L_law_252 : decode b_L_law 252 = .ok (.iconst 2, 1) := by decide +kernel
theorem d_L_law_253 : decode b_L_law 253 = .ok (.iadd, 1) := by decide +kernel
theorem d_L_law_254 : decode b_L_law 254 = .ok (.iaload, 1) := by decide +kernel
theorem d_L_law_255 : decode b_L_law 255 = .ok (.i2l, 1) := by decide +kernel
theorem d_L_law_256 : decode b_L_law 256 = .ok (.ldc2_w 73, 3) := by decide +kernel
theorem d_L_law_259 : decode b_L_law 259 = .ok (.land, 1) := by decide +kernel
theorem d_L_law_260 : decode b_L_law 260 = .ok (.lor, 1) := by decide +kernel
theorem d_L_law_261 : decode b_L_law 261 = .ok (.invokevirtual 88, 3) := by decide +kernel
theorem d_L_law_264 : decode b_L_law 264 = .ok (.if_icmp .eq 1066, 3) := by decide +kernel
theorem d_L_law_267 : decode b_L_law 267 = .ok (.iconst 0, 1) := by decide +kernel
theorem d_L_law_268 : decode b_L_law 268 = .ok (.ireturn, 1) := by decide +kernel
theorem d_L_law_269 : decode b_L_law 269 = .ok (.aload_n 1, 1) := by decide +kernel
theorem d_L_law_270 : decode b_L_law 270 = .ok (.aload_n 3, 1) := by decide +kernel
theorem d_L_law_271 : decode b_L_law 271 = .ok (.invokestatic 89, 3) := by decide +kernel
theorem d_L_law_274 : decode b_L_law 274 = .ok (.istore 5, 2) := by decide +kernel
theorem d_L_law_276 : decode b_L_law 276 = .ok (.aload_n 2, 1) := by decide +kernel
theorem d_L_law_277 : decode b_L_law 277 = .ok (.invokevirtual 92, 3) := by decide +kernel
theorem d_L_law_280 : decode b_L_law 280 = .ok (.istore 6, 2) := by decide +kernel
theorem d_L_law_282 : decode b_L_law 282 = .ok (.aload_n 2, 1) := by decide +kernel
theorem d_L_law_283 : decode b_L_law 283 = .ok (.invokevirtual 81, 3) := by decide +kernel
theorem d_L_law_286 : decode b_L_law 286 = .ok (.iload 5, 2) := by decide +kernel
theorem d_L_law_288 : decode b_L_law 288 = .ok (.if_icmp .eq 5, 3) := by decide +kernel
theorem d_L_law_291 : decode b_L_law 291 = .ok (.iconst 0, 1) := by decide +kernel
theorem d_L_law_292 : decode b_L_law 292 = .ok (.ireturn, 1) := by decide +kernel
theorem d_L_law_293 : decode b_L_law 293 = .ok (.iload 5, 2) := by decide +kernel
theorem d_L_law_295 : decode b_L_law 295 = .ok (.ifCond .ne 15, 3) := by decide +kernel
theorem d_L_law_298 : decode b_L_law 298 = .ok (.aload_n 3, 1) := by decide +kernel
theorem d_L_law_299 : decode b_L_law 299 = .ok (.iconst 0, 1) := by decide +kernel
theorem d_L_law_300 : decode b_L_law 300 = .ok (.laload, 1) := by decide +kernel
theorem d_L_law_301 : decode b_L_law 301 = .ok (.iload 6, 2) := by decide +kernel
theorem d_L_law_303 : decode b_L_law 303 = .ok (.i2l, 1) := by decide +kernel
theorem d_L_law_304 : decode b_L_law 304 = .ok (.lcmp, 1) := by decide +kernel
theorem d_L_law_305 : decode b_L_law 305 = .ok (.ifCond .eq 5, 3) := by decide +kernel
theorem d_L_law_308 : decode b_L_law 308 = .ok (.iconst 0, 1) := by decide +kernel
theorem d_L_law_309 : decode b_L_law 309 = .ok (.ireturn, 1) := by decide +kernel
theorem d_L_law_310 : decode b_L_law 310 = .ok (.goto 1020, 3) := by decide +kernel
theorem d_L_law_313 : decode b_L_law 313 = .ok (.aload_n 1, 1) := by decide +kernel
theorem d_L_law_314 : decode b_L_law 314 = .ok (.aload_n 3, 1) := by decide +kernel
theorem d_L_law_315 : decode b_L_law 315 = .ok (.invokestatic 93, 3) := by decide +kernel
theorem d_L_law_318 : decode b_L_law 318 = .ok (.istore 5, 2) := by decide +kernel
theorem d_L_law_320 : decode b_L_law 320 = .ok (.aload_n 2, 1) := by decide +kernel
theorem d_L_law_321 : decode b_L_law 321 = .ok (.invokevirtual 95, 3) := by decide +kernel
theorem d_L_law_324 : decode b_L_law 324 = .ok (.istore 6, 2) := by decide +kernel
theorem d_L_law_326 : decode b_L_law 326 = .ok (.aload_n 2, 1) := by decide +kernel
theorem d_L_law_327 : decode b_L_law 327 = .ok (.invokevirtual 81, 3) := by decide +kernel
theorem d_L_law_330 : decode b_L_law 330 = .ok (.iload 5, 2) := by decide +kernel
theorem d_L_law_332 : decode b_L_law 332 = .ok (.if_icmp .eq 5, 3) := by decide +kernel
theorem d_L_law_335 : decode b_L_law 335 = .ok (.iconst 0, 1) := by decide +kernel
theorem d_L_law_336 : decode b_L_law 336 = .ok (.ireturn, 1) := by decide +kernel
theorem d_L_law_337 : decode b_L_law 337 = .ok (.iload 5, 2) := by decide +kernel
theorem d_L_law_339 : decode b_L_law 339 = .ok (.ifCond .ne 15, 3) := by decide +kernel
theorem d_L_law_342 : decode b_L_law 342 = .ok (.aload_n 3, 1) := by decide +kernel
theorem d_L_law_343 : decode b_L_law 343 = .ok (.iconst 0, 1) := by decide +kernel
theorem d_L_law_344 : decode b_L_law 344 = .ok (.laload, 1) := by decide +kernel
theorem d_L_law_345 : decode b_L_law 345 = .ok (.iload 6, 2) := by decide +kernel
theorem d_L_law_347 : decode b_L_law 347 = .ok (.i2l, 1) := by decide +kernel
theorem d_L_law_348 : decode b_L_law 348 = .ok (.lcmp, 1) := by decide +kernel
theorem d_L_law_349 : decode b_L_law 349 = .ok (.ifCond .eq 5, 3) := by decide +kernel
theorem d_L_law_352 : decode b_L_law 352 = .ok (.iconst 0, 1) := by decide +kernel
theorem d_L_law_353 : decode b_L_law 353 = .ok (.ireturn, 1) := by decide +kernel
theorem d_L_law_354 : decode b_L_law 354 = .ok (.goto 976, 3) := by decide +kernel
theorem d_L_law_357 : decode b_L_law 357 = .ok (.aload_n 1, 1) := by decide +kernel
theorem d_L_law_358 : decode b_L_law 358 = .ok (.aload_n 0, 1) := by decide +kernel
theorem d_L_law_359 : decode b_L_law 359 = .ok (.iload 4, 2) := by decide +kernel
theorem d_L_law_361 : decode b_L_law 361 = .ok (.iconst 1, 1) := by decide +kernel
theorem d_L_law_362 : decode b_L_law 362 = .ok (.iadd, 1) := by decide +kernel
theorem d_L_law_363 : decode b_L_law 363 = .ok (.iaload, 1) := by decide +kernel
theorem d_L_law_364 : decode b_L_law 364 = .ok (.aload_n 3, 1) := by decide +kernel
theorem d_L_law_365 : decode b_L_law 365 = .ok (.invokestatic 96, 3) := by decide +kernel
theorem d_L_law_368 : decode b_L_law 368 = .ok (.istore 5, 2) := by decide +kernel
theorem d_L_law_370 : decode b_L_law 370 = .ok (.aload_n 2, 1) := by decide +kernel
theorem d_L_law_371 : decode b_L_law 371 = .ok (.aload_n 0, 1) := by decide +kernel
theorem d_L_law_372 : decode b_L_law 372 = .ok (.iload 4, 2) := by decide +kernel
theorem d_L_law_374 : decode b_L_law 374 = .ok (.iconst 1, 1) := by decide +kernel
theorem d_L_law_375 : decode b_L_law 375 = .ok (.iadd, 1) := by decide +kernel
theorem d_L_law_376 : decode b_L_law 376 = .ok (.iaload, 1) := by decide +kernel
theorem d_L_law_377 : decode b_L_law 377 = .ok (.invokevirtual 99, 3) := by decide +kernel
theorem d_L_law_380 : decode b_L_law 380 = .ok (.istore 6, 2) := by decide +kernel
theorem d_L_law_382 : decode b_L_law 382 = .ok (.aload_n 2, 1) := by decide +kernel
theorem d_L_law_383 : decode b_L_law 383 = .ok (.invokevirtual 81, 3) := by decide +kernel
theorem d_L_law_386 : decode b_L_law 386 = .ok (.iload 5, 2) := by decide +kernel
theorem d_L_law_388 : decode b_L_law 388 = .ok (.if_icmp .eq 5, 3) := by decide +kernel
theorem d_L_law_391 : decode b_L_law 391 = .ok (.iconst 0, 1) := by decide +kernel
theorem d_L_law_392 : decode b_L_law 392 = .ok (.ireturn, 1) := by decide +kernel
theorem d_L_law_393 : decode b_L_law 393 = .ok (.iload 5, 2) := by decide +kernel
theorem d_L_law_395 : decode b_L_law 395 = .ok (.ifCond .ne 22, 3) := by decide +kernel
theorem d_L_law_398 : decode b_L_law 398 = .ok (.aload_n 3, 1) := by decide +kernel
theorem d_L_law_399 : decode b_L_law 399 = .ok (.iconst 0, 1) := by decide +kernel
theorem d_L_law_400 : decode b_L_law 400 = .ok (.laload, 1) := by decide +kernel
theorem d_L_law_401 : decode b_L_law 401 = .ok (.iload 6, 2) := by decide +kernel
theorem d_L_law_403 : decode b_L_law 403 = .ok (.ifCond .eq 7, 3) := by decide +kernel
theorem d_L_law_406 : decode b_L_law 406 = .ok (.lconst 1, 1) := by decide +kernel
theorem d_L_law_407 : decode b_L_law 407 = .ok (.goto 4, 3) := by decide +kernel
theorem d_L_law_410 : decode b_L_law 410 = .ok (.lconst 0, 1) := by decide +kernel
theorem d_L_law_411 : decode b_L_law 411 = .ok (.lcmp, 1) := by decide +kernel
theorem d_L_law_412 : decode b_L_law 412 = .ok (.ifCond .eq 5, 3) := by decide +kernel
theorem d_L_law_415 : decode b_L_law 415 = .ok (.iconst 0, 1) := by decide +kernel
theorem d_L_law_416 : decode b_L_law 416 = .ok (.ireturn, 1) := by decide +kernel
theorem d_L_law_417 : decode b_L_law 417 = .ok (.goto 913, 3) := by decide +kernel
theorem d_L_law_420 : decode b_L_law 420 = .ok (.aload_n 1, 1) := by decide +kernel
theorem d_L_law_421 : decode b_L_law 421 = .ok (.aload_n 0, 1) := by decide +kernel
theorem d_L_law_422 : decode b_L_law 422 = .ok (.iload 4, 2) := by decide +kernel
theorem d_L_law_424 : decode b_L_law 424 = .ok (.iconst 1, 1) := by decide +kernel
theorem d_L_law_425 : decode b_L_law 425 = .ok (.iadd, 1) := by decide +kernel
theorem d_L_law_426 : decode b_L_law 426 = .ok (.iaload, 1) := by decide +kernel
theorem d_L_law_427 : decode b_L_law 427 = .ok (.aload_n 0, 1) := by decide +kernel
theorem d_L_law_428 : decode b_L_law 428 = .ok (.iload 4, 2) := by decide +kernel
theorem d_L_law_430 : decode b_L_law 430 = .ok (.iconst 2, 1) := by decide +kernel
theorem d_L_law_431 : decode b_L_law 431 = .ok (.iadd, 1) := by decide +kernel
theorem d_L_law_432 : decode b_L_law 432 = .ok (.iaload, 1) := by decide +kernel
theorem d_L_law_433 : decode b_L_law 433 = .ok (.aload_n 3, 1) := by decide +kernel
theorem d_L_law_434 : decode b_L_law 434 = .ok (.invokestatic 100, 3) := by decide +kernel
theorem d_L_law_437 : decode b_L_law 437 = .ok (.istore 5, 2) := by decide +kernel
theorem d_L_law_439 : decode b_L_law 439 = .ok (.aload_n 2, 1) := by decide +kernel
theorem d_L_law_440 : decode b_L_law 440 = .ok (.aload_n 0, 1) := by decide +kernel
theorem d_L_law_441 : decode b_L_law 441 = .ok (.iload 4, 2) := by decide +kernel
theorem d_L_law_443 : decode b_L_law 443 = .ok (.iconst 1, 1) := by decide +kernel
theorem d_L_law_444 : decode b_L_law 444 = .ok (.iadd, 1) := by decide +kernel
theorem d_L_law_445 : decode b_L_law 445 = .ok (.iaload, 1) := by decide +kernel
theorem d_L_law_446 : decode b_L_law 446 = .ok (.aload_n 0, 1) := by decide +kernel
theorem d_L_law_447 : decode b_L_law 447 = .ok (.iload 4, 2) := by decide +kernel
theorem d_L_law_449 : decode b_L_law 449 = .ok (.iconst 2, 1) := by decide +kernel
theorem d_L_law_450 : decode b_L_law 450 = .ok (.iadd, 1) := by decide +kernel
theorem d_L_law_451 : decode b_L_law 451 = .ok (.iaload, 1) := by decide +kernel
theorem d_L_law_452 : decode b_L_law 452 = .ok (.invokevirtual 103, 3) := by decide +kernel
theorem d_L_law_455 : decode b_L_law 455 = .ok (.istore 6, 2) := by decide +kernel
theorem d_L_law_457 : decode b_L_law 457 = .ok (.aload_n 2, 1) := by decide +kernel
theorem d_L_law_458 : decode b_L_law 458 = .ok (.invokevirtual 81, 3) := by decide +kernel
theorem d_L_law_461 : decode b_L_law 461 = .ok (.iload 5, 2) := by decide +kernel
theorem d_L_law_463 : decode b_L_law 463 = .ok (.if_icmp .eq 5, 3) := by decide +kernel
theorem d_L_law_466 : decode b_L_law 466 = .ok (.iconst 0, 1) := by decide +kernel
theorem d_L_law_467 : decode b_L_law 467 = .ok (.ireturn, 1) := by decide +kernel
theorem d_L_law_468 : decode b_L_law 468 = .ok (.iload 5, 2) := by decide +kernel
theorem d_L_law_470 : decode b_L_law 470 = .ok (.ifCond .ne 15, 3) := by decide +kernel
theorem d_L_law_473 : decode b_L_law 473 = .ok (.aload_n 3, 1) := by decide +kernel
theorem d_L_law_474 : decode b_L_law 474 = .ok (.iconst 0, 1) := by decide +kernel
theorem d_L_law_475 : decode b_L_law 475 = .ok (.laload, 1) := by decide +kernel
theorem d_L_law_476 : decode b_L_law 476 = .ok (.iload 6, 2) := by decide +kernel
theorem d_L_law_478 : decode b_L_law 478 = .ok (.i2l, 1) := by decide +kernel
theorem d_L_law_479 : decode b_L_law 479 = .ok (.lcmp, 1) := by decide +kernel
theorem d_L_law_480 : decode b_L_law 480 = .ok (.ifCond .eq 5, 3) := by decide +kernel
theorem d_L_law_483 : decode b_L_law 483 = .ok (.iconst 0, 1) := by decide +kernel
theorem d_L_law_484 : decode b_L_law 484 = .ok (.ireturn, 1) := by decide +kernel
theorem d_L_law_485 : decode b_L_law 485 = .ok (.goto 845, 3) := by decide +kernel
theorem d_L_law_488 : decode b_L_law 488 = .ok (.aload_n 1, 1) := by decide +kernel
theorem d_L_law_489 : decode b_L_law 489 = .ok (.aload_n 0, 1) := by decide +kernel
theorem d_L_law_490 : decode b_L_law 490 = .ok (.iload 4, 2) := by decide +kernel
theorem d_L_law_492 : decode b_L_law 492 = .ok (.iconst 1, 1) := by decide +kernel
theorem d_L_law_493 : decode b_L_law 493 = .ok (.iadd, 1) := by decide +kernel
theorem d_L_law_494 : decode b_L_law 494 = .ok (.iaload, 1) := by decide +kernel
theorem d_L_law_495 : decode b_L_law 495 = .ok (.aload_n 0, 1) := by decide +kernel
theorem d_L_law_496 : decode b_L_law 496 = .ok (.iload 4, 2) := by decide +kernel
theorem d_L_law_498 : decode b_L_law 498 = .ok (.iconst 2, 1) := by decide +kernel
theorem d_L_law_499 : decode b_L_law 499 = .ok (.iadd, 1) := by decide +kernel
theorem d_L_law_500 : decode b_L_law 500 = .ok (.iaload, 1) := by decide +kernel
theorem d_L_law_501 : decode b_L_law 501 = .ok (.i2l, 1) := by decide +kernel
theorem d_L_law_502 : decode b_L_law 502 = .ok (.bipush 32, 2) := by decide +kernel
theorem d_L_law_504 : decode b_L_law 504 = .ok (.lshl, 1) := by decide +kernel
theorem d_L_law_505 : decode b_L_law 505 = .ok (.aload_n 0, 1) := by decide +kernel
theorem d_L_law_506 : decode b_L_law 506 = .ok (.iload 4, 2) := by decide +kernel
theorem d_L_law_508 : decode b_L_law 508 = .ok (.iconst 3, 1) := by decide +kernel
theorem d_L_law_509 : decode b_L_law 509 = .ok (.iadd, 1) := by decide +kernel
theorem d_L_law_510 : decode b_L_law 510 = .ok (.iaload, 1) := by decide +kernel
theorem d_L_law_511 : decode b_L_law 511 = .ok (.i2l, 1) := by decide +kernel
theorem d_L_law_512 : decode b_L_law 512 = .ok (.ldc2_w 73, 3) := by decide +kernel
theorem d_L_law_515 : decode b_L_law 515 = .ok (.land, 1) := by decide +kernel
theorem d_L_law_516 : decode b_L_law 516 = .ok (.lor, 1) := by decide +kernel
theorem d_L_law_517 : decode b_L_law 517 = .ok (.aload_n 3, 1) := by decide +kernel
theorem d_L_law_518 : decode b_L_law 518 = .ok (.invokestatic 104, 3) := by decide +kernel
theorem d_L_law_521 : decode b_L_law 521 = .ok (.istore 5, 2) := by decide +kernel
theorem d_L_law_523 : decode b_L_law 523 = .ok (.aload_n 2, 1) := by decide +kernel
theorem d_L_law_524 : decode b_L_law 524 = .ok (.aload_n 0, 1) := by decide +kernel
theorem d_L_law_525 : decode b_L_law 525 = .ok (.iload 4, 2) := by decide +kernel
theorem d_L_law_527 : decode b_L_law 527 = .ok (.iconst 1, 1) := by decide +kernel
theorem d_L_law_528 : decode b_L_law 528 = .ok (.iadd, 1) := by decide +kernel
theorem d_L_law_529 : decode b_L_law 529 = .ok (.iaload, 1) := by decide +kernel
theorem d_L_law_530 : decode b_L_law 530 = .ok (.aload_n 0, 1) := by decide +kernel
theorem d_L_law_531 : decode b_L_law 531 = .ok (.iload 4, 2) := by decide +kernel
theorem d_L_law_533 : decode b_L_law 533 = .ok (.iconst 2, 1) := by decide +kernel
theorem d_L_law_534 : decode b_L_law 534 = .ok (.iadd, 1) := by decide +kernel
theorem d_L_law_535 : decode b_L_law 535 = .ok (.iaload, 1) := by decide +kernel
theorem d_L_law_536 : decode b_L_law 536 = .ok (.i2l, 1) := by decide +kernel
theorem d_L_law_537 : decode b_L_law 537 = .ok (.bipush 32, 2) := by decide +kernel
theorem d_L_law_539 : decode b_L_law 539 = .ok (.lshl, 1) := by decide +kernel
theorem d_L_law_540 : decode b_L_law 540 = .ok (.aload_n 0, 1) := by decide +kernel
theorem d_L_law_541 : decode b_L_law 541 = .ok (.iload 4, 2) := by decide +kernel
theorem d_L_law_543 : decode b_L_law 543 = .ok (.iconst 3, 1) := by decide +kernel
theorem d_L_law_544 : decode b_L_law 544 = .ok (.iadd, 1) := by decide +kernel
theorem d_L_law_545 : decode b_L_law 545 = .ok (.iaload, 1) := by decide +kernel
theorem d_L_law_546 : decode b_L_law 546 = .ok (.i2l, 1) := by decide +kernel
theorem d_L_law_547 : decode b_L_law 547 = .ok (.ldc2_w 73, 3) := by decide +kernel
theorem d_L_law_550 : decode b_L_law 550 = .ok (.land, 1) := by decide +kernel
theorem d_L_law_551 : decode b_L_law 551 = .ok (.lor, 1) := by decide +kernel
theorem d_L_law_552 : decode b_L_law 552 = .ok (.invokevirtual 107, 3) := by decide +kernel
theorem d_L_law_555 : decode b_L_law 555 = .ok (.istore 6, 2) := by decide +kernel
theorem d_L_law_557 : decode b_L_law 557 = .ok (.aload_n 2, 1) := by decide +kernel
theorem d_L_law_558 : decode b_L_law 558 = .ok (.invokevirtual 81, 3) := by decide +kernel
theorem d_L_law_561 : decode b_L_law 561 = .ok (.iload 5, 2) := by decide +kernel
theorem d_L_law_563 : decode b_L_law 563 = .ok (.if_icmp .eq 5, 3) := by decide +kernel
theorem d_L_law_566 : decode b_L_law 566 = .ok (.iconst 0, 1) := by decide +kernel
theorem d_L_law_567 : decode b_L_law 567 = .ok (.ireturn, 1) := by decide +kernel
theorem d_L_law_568 : decode b_L_law 568 = .ok (.iload 5, 2) := by decide +kernel
theorem d_L_law_570 : decode b_L_law 570 = .ok (.ifCond .ne 15, 3) := by decide +kernel
theorem d_L_law_573 : decode b_L_law 573 = .ok (.aload_n 3, 1) := by decide +kernel
theorem d_L_law_574 : decode b_L_law 574 = .ok (.iconst 0, 1) := by decide +kernel
theorem d_L_law_575 : decode b_L_law 575 = .ok (.laload, 1) := by decide +kernel
theorem d_L_law_576 : decode b_L_law 576 = .ok (.iload 6, 2) := by decide +kernel
theorem d_L_law_578 : decode b_L_law 578 = .ok (.i2l, 1) := by decide +kernel
theorem d_L_law_579 : decode b_L_law 579 = .ok (.lcmp, 1) := by decide +kernel
theorem d_L_law_580 : decode b_L_law 580 = .ok (.ifCond .eq 5, 3) := by decide +kernel
theorem d_L_law_583 : decode b_L_law 583 = .ok (.iconst 0, 1) := by decide +kernel
theorem d_L_law_584 : decode b_L_law 584 = .ok (.ireturn, 1) := by decide +kernel
theorem d_L_law_585 : decode b_L_law 585 = .ok (.goto 745, 3) := by decide +kernel
theorem d_L_law_588 : decode b_L_law 588 = .ok (.aload_n 1, 1) := by decide +kernel
theorem d_L_law_589 : decode b_L_law 589 = .ok (.aload_n 0, 1) := by decide +kernel
theorem d_L_law_590 : decode b_L_law 590 = .ok (.iload 4, 2) := by decide +kernel
theorem d_L_law_592 : decode b_L_law 592 = .ok (.iconst 1, 1) := by decide +kernel
theorem d_L_law_593 : decode b_L_law 593 = .ok (.iadd, 1) := by decide +kernel
theorem d_L_law_594 : decode b_L_law 594 = .ok (.iaload, 1) := by decide +kernel
theorem d_L_law_595 : decode b_L_law 595 = .ok (.aload_n 0, 1) := by decide +kernel
theorem d_L_law_596 : decode b_L_law 596 = .ok (.iload 4, 2) := by decide +kernel
theorem d_L_law_598 : decode b_L_law 598 = .ok (.iconst 2, 1) := by decide +kernel
theorem d_L_law_599 : decode b_L_law 599 = .ok (.iadd, 1) := by decide +kernel
theorem d_L_law_600 : decode b_L_law 600 = .ok (.iaload, 1) := by decide +kernel
theorem d_L_law_601 : decode b_L_law 601 = .ok (.i2l, 1) := by decide +kernel
theorem d_L_law_602 : decode b_L_law 602 = .ok (.bipush 32, 2) := by decide +kernel
theorem d_L_law_604 : decode b_L_law 604 = .ok (.lshl, 1) := by decide +kernel
theorem d_L_law_605 : decode b_L_law 605 = .ok (.aload_n 0, 1) := by decide +kernel
theorem d_L_law_606 : decode b_L_law 606 = .ok (.iload 4, 2) := by decide +kernel
theorem d_L_law_608 : decode b_L_law 608 = .ok (.iconst 3, 1) := by decide +kernel
theorem d_L_law_609 : decode b_L_law 609 = .ok (.iadd, 1) := by decide +kernel
theorem d_L_law_610 : decode b_L_law 610 = .ok (.iaload, 1) := by decide +kernel
theorem d_L_law_611 : decode b_L_law 611 = .ok (.i2l, 1) := by decide +kernel
theorem d_L_law_612 : decode b_L_law 612 = .ok (.ldc2_w 73, 3) := by decide +kernel
theorem d_L_law_615 : decode b_L_law 615 = .ok (.land, 1) := by decide +kernel
theorem d_L_law_616 : decode b_L_law 616 = .ok (.lor, 1) := by decide +kernel
theorem d_L_law_617 : decode b_L_law 617 = .ok (.aload_n 0, 1) := by decide +kernel
theorem d_L_law_618 : decode b_L_law 618 = .ok (.iload 4, 2) := by decide +kernel
theorem d_L_law_620 : decode b_L_law 620 = .ok (.iconst 4, 1) := by decide +kernel
theorem d_L_law_621 : decode b_L_law 621 = .ok (.iadd, 1) := by decide +kernel
theorem d_L_law_622 : decode b_L_law 622 = .ok (.iaload, 1) := by decide +kernel
theorem d_L_law_623 : decode b_L_law 623 = .ok (.aload_n 3, 1) := by decide +kernel
theorem d_L_law_624 : decode b_L_law 624 = .ok (.invokestatic 108, 3) := by decide +kernel
theorem d_L_law_627 : decode b_L_law 627 = .ok (.istore 5, 2) := by decide +kernel
theorem d_L_law_629 : decode b_L_law 629 = .ok (.aload_n 2, 1) := by decide +kernel
theorem d_L_law_630 : decode b_L_law 630 = .ok (.aload_n 0, 1) := by decide +kernel
theorem d_L_law_631 : decode b_L_law 631 = .ok (.iload 4, 2) := by decide +kernel
theorem d_L_law_633 : decode b_L_law 633 = .ok (.iconst 1, 1) := by decide +kernel
theorem d_L_law_634 : decode b_L_law 634 = .ok (.iadd, 1) := by decide +kernel
theorem d_L_law_635 : decode b_L_law 635 = .ok (.iaload, 1) := by decide +kernel
theorem d_L_law_636 : decode b_L_law 636 = .ok (.aload_n 0, 1) := by decide +kernel
theorem d_L_law_637 : decode b_L_law 637 = .ok (.iload 4, 2) := by decide +kernel
theorem d_L_law_639 : decode b_L_law 639 = .ok (.iconst 2, 1) := by decide +kernel
theorem d_L_law_640 : decode b_L_law 640 = .ok (.iadd, 1) := by decide +kernel
theorem d_L_law_641 : decode b_L_law 641 = .ok (.iaload, 1) := by decide +kernel
theorem d_L_law_642 : decode b_L_law 642 = .ok (.i2l, 1) := by decide +kernel
theorem d_L_law_643 : decode b_L_law 643 = .ok (.bipush 32, 2) := by decide +kernel
theorem d_L_law_645 : decode b_L_law 645 = .ok (.lshl, 1) := by decide +kernel
theorem d_L_law_646 : decode b_L_law 646 = .ok (.aload_n 0, 1) := by decide +kernel
theorem d_L_law_647 : decode b_L_law 647 = .ok (.iload 4, 2) := by decide +kernel
theorem d_L_law_649 : decode b_L_law 649 = .ok (.iconst 3, 1) := by decide +kernel
theorem d_L_law_650 : decode b_L_law 650 = .ok (.iadd, 1) := by decide +kernel
theorem d_L_law_651 : decode b_L_law 651 = .ok (.iaload, 1) := by decide +kernel
theorem d_L_law_652 : decode b_L_law 652 = .ok (.i2l, 1) := by decide +kernel
theorem d_L_law_653 : decode b_L_law 653 = .ok (.ldc2_w 73, 3) := by decide +kernel
theorem d_L_law_656 : decode b_L_law 656 = .ok (.land, 1) := by decide +kernel
theorem d_L_law_657 : decode b_L_law 657 = .ok (.lor, 1) := by decide +kernel
theorem d_L_law_658 : decode b_L_law 658 = .ok (.aload_n 0, 1) := by decide +kernel
theorem d_L_law_659 : decode b_L_law 659 = .ok (.iload 4, 2) := by decide +kernel
theorem d_L_law_661 : decode b_L_law 661 = .ok (.iconst 4, 1) := by decide +kernel
theorem d_L_law_662 : decode b_L_law 662 = .ok (.iadd, 1) := by decide +kernel
theorem d_L_law_663 : decode b_L_law 663 = .ok (.iaload, 1) := by decide +kernel
theorem d_L_law_664 : decode b_L_law 664 = .ok (.invokevirtual 111, 3) := by decide +kernel
theorem d_L_law_667 : decode b_L_law 667 = .ok (.istore 6, 2) := by decide +kernel
theorem d_L_law_669 : decode b_L_law 669 = .ok (.aload_n 2, 1) := by decide +kernel
theorem d_L_law_670 : decode b_L_law 670 = .ok (.invokevirtual 81, 3) := by decide +kernel
theorem d_L_law_673 : decode b_L_law 673 = .ok (.iload 5, 2) := by decide +kernel
theorem d_L_law_675 : decode b_L_law 675 = .ok (.if_icmp .eq 5, 3) := by decide +kernel
theorem d_L_law_678 : decode b_L_law 678 = .ok (.iconst 0, 1) := by decide +kernel
theorem d_L_law_679 : decode b_L_law 679 = .ok (.ireturn, 1) := by decide +kernel
theorem d_L_law_680 : decode b_L_law 680 = .ok (.iload 5, 2) := by decide +kernel
theorem d_L_law_682 : decode b_L_law 682 = .ok (.ifCond .ne 15, 3) := by decide +kernel
theorem d_L_law_685 : decode b_L_law 685 = .ok (.aload_n 3, 1) := by decide +kernel
theorem d_L_law_686 : decode b_L_law 686 = .ok (.iconst 0, 1) := by decide +kernel
theorem d_L_law_687 : decode b_L_law 687 = .ok (.laload, 1) := by decide +kernel
theorem d_L_law_688 : decode b_L_law 688 = .ok (.iload 6, 2) := by decide +kernel
theorem d_L_law_690 : decode b_L_law 690 = .ok (.i2l, 1) := by decide +kernel
theorem d_L_law_691 : decode b_L_law 691 = .ok (.lcmp, 1) := by decide +kernel
theorem d_L_law_692 : decode b_L_law 692 = .ok (.ifCond .eq 5, 3) := by decide +kernel
theorem d_L_law_695 : decode b_L_law 695 = .ok (.iconst 0, 1) := by decide +kernel
theorem d_L_law_696 : decode b_L_law 696 = .ok (.ireturn, 1) := by decide +kernel
theorem d_L_law_697 : decode b_L_law 697 = .ok (.goto 633, 3) := by decide +kernel
theorem d_L_law_700 : decode b_L_law 700 = .ok (.aload_n 1, 1) := by decide +kernel
theorem d_L_law_701 : decode b_L_law 701 = .ok (.aload_n 0, 1) := by decide +kernel
theorem d_L_law_702 : decode b_L_law 702 = .ok (.iload 4, 2) := by decide +kernel
theorem d_L_law_704 : decode b_L_law 704 = .ok (.iconst 1, 1) := by decide +kernel
theorem d_L_law_705 : decode b_L_law 705 = .ok (.iadd, 1) := by decide +kernel
theorem d_L_law_706 : decode b_L_law 706 = .ok (.iaload, 1) := by decide +kernel
theorem d_L_law_707 : decode b_L_law 707 = .ok (.aload_n 0, 1) := by decide +kernel
theorem d_L_law_708 : decode b_L_law 708 = .ok (.iload 4, 2) := by decide +kernel
theorem d_L_law_710 : decode b_L_law 710 = .ok (.iconst 2, 1) := by decide +kernel
theorem d_L_law_711 : decode b_L_law 711 = .ok (.iadd, 1) := by decide +kernel
theorem d_L_law_712 : decode b_L_law 712 = .ok (.iaload, 1) := by decide +kernel
theorem d_L_law_713 : decode b_L_law 713 = .ok (.i2l, 1) := by decide +kernel
theorem d_L_law_714 : decode b_L_law 714 = .ok (.bipush 32, 2) := by decide +kernel
theorem d_L_law_716 : decode b_L_law 716 = .ok (.lshl, 1) := by decide +kernel
theorem d_L_law_717 : decode b_L_law 717 = .ok (.aload_n 0, 1) := by decide +kernel
theorem d_L_law_718 : decode b_L_law 718 = .ok (.iload 4, 2) := by decide +kernel
theorem d_L_law_720 : decode b_L_law 720 = .ok (.iconst 3, 1) := by decide +kernel
theorem d_L_law_721 : decode b_L_law 721 = .ok (.iadd, 1) := by decide +kernel
theorem d_L_law_722 : decode b_L_law 722 = .ok (.iaload, 1) := by decide +kernel
theorem d_L_law_723 : decode b_L_law 723 = .ok (.i2l, 1) := by decide +kernel
theorem d_L_law_724 : decode b_L_law 724 = .ok (.ldc2_w 73, 3) := by decide +kernel
theorem d_L_law_727 : decode b_L_law 727 = .ok (.land, 1) := by decide +kernel
theorem d_L_law_728 : decode b_L_law 728 = .ok (.lor, 1) := by decide +kernel
theorem d_L_law_729 : decode b_L_law 729 = .ok (.aload_n 0, 1) := by decide +kernel
theorem d_L_law_730 : decode b_L_law 730 = .ok (.iload 4, 2) := by decide +kernel
theorem d_L_law_732 : decode b_L_law 732 = .ok (.iconst 4, 1) := by decide +kernel
theorem d_L_law_733 : decode b_L_law 733 = .ok (.iadd, 1) := by decide +kernel
theorem d_L_law_734 : decode b_L_law 734 = .ok (.iaload, 1) := by decide +kernel
theorem d_L_law_735 : decode b_L_law 735 = .ok (.aload_n 3, 1) := by decide +kernel
theorem d_L_law_736 : decode b_L_law 736 = .ok (.invokestatic 112, 3) := by decide +kernel
theorem d_L_law_739 : decode b_L_law 739 = .ok (.istore 5, 2) := by decide +kernel
theorem d_L_law_741 : decode b_L_law 741 = .ok (.aload_n 2, 1) := by decide +kernel
theorem d_L_law_742 : decode b_L_law 742 = .ok (.aload_n 0, 1) := by decide +kernel
theorem d_L_law_743 : decode b_L_law 743 = .ok (.iload 4, 2) := by decide +kernel
theorem d_L_law_745 : decode b_L_law 745 = .ok (.iconst 1, 1) := by decide +kernel
theorem d_L_law_746 : decode b_L_law 746 = .ok (.iadd, 1) := by decide +kernel
theorem d_L_law_747 : decode b_L_law 747 = .ok (.iaload, 1) := by decide +kernel
theorem d_L_law_748 : decode b_L_law 748 = .ok (.aload_n 0, 1) := by decide +kernel
theorem d_L_law_749 : decode b_L_law 749 = .ok (.iload 4, 2) := by decide +kernel
theorem d_L_law_751 : decode b_L_law 751 = .ok (.iconst 2, 1) := by decide +kernel
theorem d_L_law_752 : decode b_L_law 752 = .ok (.iadd, 1) := by decide +kernel
theorem d_L_law_753 : decode b_L_law 753 = .ok (.iaload, 1) := by decide +kernel
theorem d_L_law_754 : decode b_L_law 754 = .ok (.i2l, 1) := by decide +kernel
theorem d_L_law_755 : decode b_L_law 755 = .ok (.bipush 32, 2) := by decide +kernel
theorem d_L_law_757 : decode b_L_law 757 = .ok (.lshl, 1) := by decide +kernel
theorem d_L_law_758 : decode b_L_law 758 = .ok (.aload_n 0, 1) := by decide +kernel
theorem d_L_law_759 : decode b_L_law 759 = .ok (.iload 4, 2) := by decide +kernel
theorem d_L_law_761 : decode b_L_law 761 = .ok (.iconst 3, 1) := by decide +kernel
theorem d_L_law_762 : decode b_L_law 762 = .ok (.iadd, 1) := by decide +kernel
theorem d_L_law_763 : decode b_L_law 763 = .ok (.iaload, 1) := by decide +kernel
theorem d_L_law_764 : decode b_L_law 764 = .ok (.i2l, 1) := by decide +kernel
theorem d_L_law_765 : decode b_L_law 765 = .ok (.ldc2_w 73, 3) := by decide +kernel
theorem d_L_law_768 : decode b_L_law 768 = .ok (.land, 1) := by decide +kernel
theorem d_L_law_769 : decode b_L_law 769 = .ok (.lor, 1) := by decide +kernel
theorem d_L_law_770 : decode b_L_law 770 = .ok (.aload_n 0, 1) := by decide +kernel
theorem d_L_law_771 : decode b_L_law 771 = .ok (.iload 4, 2) := by decide +kernel
theorem d_L_law_773 : decode b_L_law 773 = .ok (.iconst 4, 1) := by decide +kernel
theorem d_L_law_774 : decode b_L_law 774 = .ok (.iadd, 1) := by decide +kernel
theorem d_L_law_775 : decode b_L_law 775 = .ok (.iaload, 1) := by decide +kernel
theorem d_L_law_776 : decode b_L_law 776 = .ok (.invokevirtual 114, 3) := by decide +kernel
theorem d_L_law_779 : decode b_L_law 779 = .ok (.istore 6, 2) := by decide +kernel
theorem d_L_law_781 : decode b_L_law 781 = .ok (.aload_n 2, 1) := by decide +kernel
theorem d_L_law_782 : decode b_L_law 782 = .ok (.invokevirtual 81, 3) := by decide +kernel
theorem d_L_law_785 : decode b_L_law 785 = .ok (.iload 5, 2) := by decide +kernel
theorem d_L_law_787 : decode b_L_law 787 = .ok (.if_icmp .eq 5, 3) := by decide +kernel
theorem d_L_law_790 : decode b_L_law 790 = .ok (.iconst 0, 1) := by decide +kernel
theorem d_L_law_791 : decode b_L_law 791 = .ok (.ireturn, 1) := by decide +kernel
theorem d_L_law_792 : decode b_L_law 792 = .ok (.iload 5, 2) := by decide +kernel
theorem d_L_law_794 : decode b_L_law 794 = .ok (.ifCond .ne 15, 3) := by decide +kernel
theorem d_L_law_797 : decode b_L_law 797 = .ok (.aload_n 3, 1) := by decide +kernel
theorem d_L_law_798 : decode b_L_law 798 = .ok (.iconst 0, 1) := by decide +kernel
theorem d_L_law_799 : decode b_L_law 799 = .ok (.laload, 1) := by decide +kernel
theorem d_L_law_800 : decode b_L_law 800 = .ok (.iload 6, 2) := by decide +kernel
theorem d_L_law_802 : decode b_L_law 802 = .ok (.i2l, 1) := by decide +kernel
