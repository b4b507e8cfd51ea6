theorem d_S_distance_23 : decode b_S_distance 23 = .ok (.athrow, 1) := by decide +kernel
theorem d_S_distance_24 : decode b_S_distance 24 = .ok (.aload_n 0, 1) := by decide +kernel
theorem d_S_distance_25 : decode b_S_distance 25 = .ok (.getfield 33, 3) := by decide +kernel
theorem d_S_distance_28 : decode b_S_distance 28 = .ok (.lload_n 1, 1) := by decide +kernel
theorem d_S_distance_29 : decode b_S_distance 29 = .ok (.invokestatic 77, 3) := by decide +kernel
theorem d_S_distance_32 : decode b_S_distance 32 = .ok (.lload_n 3, 1) := by decide +kernel
theorem d_S_distance_33 : decode b_S_distance 33 = .ok (.invokestatic 77, 3) := by decide +kernel
theorem d_S_distance_36 : decode b_S_distance 36 = .ok (.invokevirtual 202, 3) := by decide +kernel
theorem d_S_distance_39 : decode b_S_distance 39 = .ok (.ireturn, 1) := by decide +kernel
theorem d_S_learn_0 : decode b_S_learn 0 = .ok (.lload_n 1, 1) := by decide +kernel
theorem d_S_learn_1 : decode b_S_learn 1 = .ok (.invokestatic 62, 3) := by decide +kernel
theorem d_S_learn_4 : decode b_S_learn 4 = .ok (.ifCond .eq 10, 3) := by decide +kernel
theorem d_S_learn_7 : decode b_S_learn 7 = .ok (.lload_n 3, 1) := by decide +kernel
theorem d_S_learn_8 : decode b_S_learn 8 = .ok (.invokestatic 62, 3) := by decide +kernel
theorem d_S_learn_11 : decode b_S_learn 11 = .ok (.ifCond .ne 13, 3) := by decide +kernel
theorem d_S_learn_14 : decode b_S_learn 14 = .ok (.new 68, 3) := by decide +kernel
theorem d_S_learn_17 : decode b_S_learn 17 = .ok (.dup, 1) := by decide +kernel
theorem d_S_learn_18 : decode b_S_learn 18 = .ok (.ldc 70, 2) := by decide +kernel
theorem d_S_learn_20 : decode b_S_learn 20 = .ok (.invokespecial 72, 3) := by decide +kernel
theorem d_S_learn_23 : decode b_S_learn 23 = .ok (.athrow, 1) := by decide +kernel
theorem d_S_learn_24 : decode b_S_learn 24 = .ok (.aload_n 0, 1) := by decide +kernel
theorem d_S_learn_25 : decode b_S_learn 25 = .ok (.getfield 47, 3) := by decide +kernel
theorem d_S_learn_28 : decode b_S_learn 28 = .ok (.lload_n 1, 1) := by decide +kernel
theorem d_S_learn_29 : decode b_S_learn 29 = .ok (.invokestatic 77, 3) := by decide +kernel
theorem d_S_learn_32 : decode b_S_learn 32 = .ok (.lload_n 3, 1) := by decide +kernel
theorem d_S_learn_33 : decode b_S_learn 33 = .ok (.invokestatic 77, 3) := by decide +kernel
theorem d_S_learn_36 : decode b_S_learn 36 = .ok (.invokevirtual 206, 3) := by decide +kernel
theorem d_S_learn_39 : decode b_S_learn 39 = .ok (.istore 5, 2) := by decide +kernel
theorem d_S_learn_41 : decode b_S_learn 41 = .ok (.iload 5, 2) := by decide +kernel
theorem d_S_learn_43 : decode b_S_learn 43 = .ok (.ifCond .ne 13, 3) := by decide +kernel
theorem d_S_learn_46 : decode b_S_learn 46 = .ok (.new 85, 3) := by decide +kernel
theorem d_S_learn_49 : decode b_S_learn 49 = .ok (.dup, 1) := by decide +kernel
theorem d_S_learn_50 : decode b_S_learn 50 = .ok (.ldc 209, 2) := by decide +kernel
theorem d_S_learn_52 : decode b_S_learn 52 = .ok (.invokespecial 89, 3) := by decide +kernel
theorem d_S_learn_55 : decode b_S_learn 55 = .ok (.athrow, 1) := by decide +kernel
theorem d_S_learn_56 : decode b_S_learn 56 = .ok (.iload 5, 2) := by decide +kernel
theorem d_S_learn_58 : decode b_S_learn 58 = .ok (.ireturn, 1) := by decide +kernel
theorem d_S_say_0 : decode b_S_say 0 = .ok (.lload_n 1, 1) := by decide +kernel
theorem d_S_say_1 : decode b_S_say 1 = .ok (.invokestatic 62, 3) := by decide +kernel
theorem d_S_say_4 : decode b_S_say 4 = .ok (.ifCond .ne 13, 3) := by decide +kernel
theorem d_S_say_7 : decode b_S_say 7 = .ok (.new 68, 3) := by decide +kernel
theorem d_S_say_10 : decode b_S_say 10 = .ok (.dup, 1) := by decide +kernel
theorem d_S_say_11 : decode b_S_say 11 = .ok (.ldc 70, 2) := by decide +kernel
theorem d_S_say_13 : decode b_S_say 13 = .ok (.invokespecial 72, 3) := by decide +kernel
theorem d_S_say_16 : decode b_S_say 16 = .ok (.athrow, 1) := by decide +kernel
theorem d_S_say_17 : decode b_S_say 17 = .ok (.aload_n 0, 1) := by decide +kernel
theorem d_S_say_18 : decode b_S_say 18 = .ok (.getfield 54, 3) := by decide +kernel
theorem d_S_say_21 : decode b_S_say 21 = .ok (.lload_n 1, 1) := by decide +kernel
theorem d_S_say_22 : decode b_S_say 22 = .ok (.invokestatic 77, 3) := by decide +kernel
theorem d_S_say_25 : decode b_S_say 25 = .ok (.invokevirtual 211, 3) := by decide +kernel
theorem d_S_say_28 : decode b_S_say 28 = .ok (.ifCond .ne 13, 3) := by decide +kernel
theorem d_S_say_31 : decode b_S_say 31 = .ok (.new 85, 3) := by decide +kernel
theorem d_S_say_34 : decode b_S_say 34 = .ok (.dup, 1) := by decide +kernel
theorem d_S_say_35 : decode b_S_say 35 = .ok (.ldc 213, 2) := by decide +kernel
theorem d_S_say_37 : decode b_S_say 37 = .ok (.invokespecial 89, 3) := by decide +kernel
theorem d_S_say_40 : decode b_S_say 40 = .ok (.athrow, 1) := by decide +kernel
theorem d_S_say_41 : decode b_S_say 41 = .ok (.aload_n 0, 1) := by decide +kernel
theorem d_S_say_42 : decode b_S_say 42 = .ok (.getfield 54, 3) := by decide +kernel
theorem d_S_say_45 : decode b_S_say 45 = .ok (.invokevirtual 215, 3) := by decide +kernel
theorem d_S_say_48 : decode b_S_say 48 = .ok (.ireturn, 1) := by decide +kernel
theorem d_S_correct_0 : decode b_S_correct 0 = .ok (.aload_n 0, 1) := by decide +kernel
theorem d_S_correct_1 : decode b_S_correct 1 = .ok (.iload_n 1, 1) := by decide +kernel
theorem d_S_correct_2 : decode b_S_correct 2 = .ok (.invokevirtual 119, 3) := by decide +kernel
theorem d_S_correct_5 : decode b_S_correct 5 = .ok (.astore_n 2, 1) := by decide +kernel
theorem d_S_correct_6 : decode b_S_correct 6 = .ok (.aload_n 2, 1) := by decide +kernel
theorem d_S_correct_7 : decode b_S_correct 7 = .ok (.ifnonnull 20, 3) := by decide +kernel
theorem d_S_correct_10 : decode b_S_correct 10 = .ok (.aload_n 0, 1) := by decide +kernel
theorem d_S_correct_11 : decode b_S_correct 11 = .ok (.getfield 54, 3) := by decide +kernel
theorem d_S_correct_14 : decode b_S_correct 14 = .ok (.invokevirtual 216, 3) := by decide +kernel
theorem d_S_correct_17 : decode b_S_correct 17 = .ok (.new 145, 3) := by decide +kernel
theorem d_S_correct_20 : decode b_S_correct 20 = .ok (.dup, 1) := by decide +kernel
theorem d_S_correct_21 : decode b_S_correct 21 = .ok (.ldc 147, 2) := by decide +kernel
theorem d_S_correct_23 : decode b_S_correct 23 = .ok (.invokespecial 149, 3) := by decide +kernel
theorem d_S_correct_26 : decode b_S_correct 26 = .ok (.athrow, 1) := by decide +kernel
theorem d_S_correct_27 : decode b_S_correct 27 = .ok (.aload_n 0, 1) := by decide +kernel
theorem d_S_correct_28 : decode b_S_correct 28 = .ok (.getfield 54, 3) := by decide +kernel
theorem d_S_correct_31 : decode b_S_correct 31 = .ok (.invokevirtual 215, 3) := by decide +kernel
theorem d_S_correct_34 : decode b_S_correct 34 = .ok (.ifCond .ne 13, 3) := by decide +kernel
theorem d_S_correct_37 : decode b_S_correct 37 = .ok (.new 85, 3) := by decide +kernel
theorem d_S_correct_40 : decode b_S_correct 40 = .ok (.dup, 1) := by decide +kernel
theorem d_S_correct_41 : decode b_S_correct 41 = .ok (.ldc 217, 2) := by decide +kernel
theorem d_S_correct_43 : decode b_S_correct 43 = .ok (.invokespecial 89, 3) := by decide +kernel
theorem d_S_correct_46 : decode b_S_correct 46 = .ok (.athrow, 1) := by decide +kernel
theorem d_S_correct_47 : decode b_S_correct 47 = .ok (.aload_n 0, 1) := by decide +kernel
theorem d_S_correct_48 : decode b_S_correct 48 = .ok (.getfield 54, 3) := by decide +kernel
theorem d_S_correct_51 : decode b_S_correct 51 = .ok (.aload_n 2, 1) := by decide +kernel
theorem d_S_correct_52 : decode b_S_correct 52 = .ok (.invokevirtual 150, 3) := by decide +kernel
theorem d_S_correct_55 : decode b_S_correct 55 = .ok (.aload_n 0, 1) := by decide +kernel
theorem d_S_correct_56 : decode b_S_correct 56 = .ok (.getfield 33, 3) := by decide +kernel
theorem d_S_correct_59 : decode b_S_correct 59 = .ok (.aload_n 0, 1) := by decide +kernel
theorem d_S_correct_60 : decode b_S_correct 60 = .ok (.getfield 47, 3) := by decide +kernel
theorem d_S_correct_63 : decode b_S_correct 63 = .ok (.invokevirtual 219, 3) := by decide +kernel
theorem d_S_correct_66 : decode b_S_correct 66 = .ok (.istore_n 3, 1) := by decide +kernel
theorem d_S_correct_67 : decode b_S_correct 67 = .ok (.aload_n 0, 1) := by decide +kernel
theorem d_S_correct_68 : decode b_S_correct 68 = .ok (.getfield 54, 3) := by decide +kernel
theorem d_S_correct_71 : decode b_S_correct 71 = .ok (.invokevirtual 216, 3) := by decide +kernel
theorem d_S_correct_74 : decode b_S_correct 74 = .ok (.iload_n 3, 1) := by decide +kernel
theorem d_S_correct_75 : decode b_S_correct 75 = .ok (.ireturn, 1) := by decide +kernel
theorem d_S_corrected_0 : decode b_S_corrected 0 = .ok (.iload_n 1, 1) := by decide +kernel
theorem d_S_corrected_1 : decode b_S_corrected 1 = .ok (.ifCond .lt 14, 3) := by decide +kernel
theorem d_S_corrected_4 : decode b_S_corrected 4 = .ok (.iload_n 1, 1) := by decide +kernel
theorem d_S_corrected_5 : decode b_S_corrected 5 = .ok (.aload_n 0, 1) := by decide +kernel
theorem d_S_corrected_6 : decode b_S_corrected 6 = .ok (.getfield 54, 3) := by decide +kernel
theorem d_S_corrected_9 : decode b_S_corrected 9 = .ok (.invokevirtual 223, 3) := by decide +kernel
theorem d_S_corrected_12 : decode b_S_corrected 12 = .ok (.if_icmp .lt 13, 3) := by decide +kernel
theorem d_S_corrected_15 : decode b_S_corrected 15 = .ok (.new 190, 3) := by decide +kernel
theorem d_S_corrected_18 : decode b_S_corrected 18 = .ok (.dup, 1) := by decide +kernel
theorem d_S_corrected_19 : decode b_S_corrected 19 = .ok (.ldc 226, 2) := by decide +kernel
theorem d_S_corrected_21 : decode b_S_corrected 21 = .ok (.invokespecial 194, 3) := by decide +kernel
theorem d_S_corrected_24 : decode b_S_corrected 24 = .ok (.athrow, 1) := by decide +kernel
theorem d_S_corrected_25 : decode b_S_corrected 25 = .ok (.aload_n 0, 1) := by decide +kernel
theorem d_S_corrected_26 : decode b_S_corrected 26 = .ok (.getfield 54, 3) := by decide +kernel
theorem d_S_corrected_29 : decode b_S_corrected 29 = .ok (.iload_n 1, 1) := by decide +kernel
theorem d_S_corrected_30 : decode b_S_corrected 30 = .ok (.invokevirtual 228, 3) := by decide +kernel
theorem d_S_corrected_33 : decode b_S_corrected 33 = .ok (.invokestatic 199, 3) := by decide +kernel
theorem d_S_corrected_36 : decode b_S_corrected 36 = .ok (.lreturn, 1) := by decide +kernel
theorem d_S_find_0 : decode b_S_find 0 = .ok (.iconst 0, 1) := by decide +kernel
theorem d_S_find_1 : decode b_S_find 1 = .ok (.istore_n 2, 1) := by decide +kernel
theorem d_S_find_2 : decode b_S_find 2 = .ok (.iload_n 2, 1) := by decide +kernel
theorem d_S_find_3 : decode b_S_find 3 = .ok (.iconst 3, 1) := by decide +kernel
theorem d_S_find_4 : decode b_S_find 4 = .ok (.if_icmp .ge 41, 3) := by decide +kernel
theorem d_S_find_7 : decode b_S_find 7 = .ok (.aload_n 0, 1) := by decide +kernel
theorem d_S_find_8 : decode b_S_find 8 = .ok (.getfield 18, 3) := by decide +kernel
theorem d_S_find_11 : decode b_S_find 11 = .ok (.iload_n 2, 1) := by decide +kernel
theorem d_S_find_12 : decode b_S_find 12 = .ok (.aaload, 1) := by decide +kernel
theorem d_S_find_13 : decode b_S_find 13 = .ok (.invokevirtual 141, 3) := by decide +kernel
theorem d_S_find_16 : decode b_S_find 16 = .ok (.ifCond .eq 23, 3) := by decide +kernel
theorem d_S_find_19 : decode b_S_find 19 = .ok (.aload_n 0, 1) := by decide +kernel
theorem d_S_find_20 : decode b_S_find 20 = .ok (.getfield 18, 3) := by decide +kernel
theorem d_S_find_23 : decode b_S_find 23 = .ok (.iload_n 2, 1) := by decide +kernel
theorem d_S_find_24 : decode b_S_find 24 = .ok (.aaload, 1) := by decide +kernel
theorem d_S_find_25 : decode b_S_find 25 = .ok (.invokevirtual 231, 3) := by decide +kernel
theorem d_S_find_28 : decode b_S_find 28 = .ok (.iload_n 1, 1) := by decide +kernel
theorem d_S_find_29 : decode b_S_find 29 = .ok (.if_icmp .ne 10, 3) := by decide +kernel
theorem d_S_find_32 : decode b_S_find 32 = .ok (.aload_n 0, 1) := by decide +kernel
theorem d_S_find_33 : decode b_S_find 33 = .ok (.getfield 18, 3) := by decide +kernel
theorem d_S_find_36 : decode b_S_find 36 = .ok (.iload_n 2, 1) := by decide +kernel
theorem d_S_find_37 : decode b_S_find 37 = .ok (.aaload, 1) := by decide +kernel
theorem d_S_find_38 : decode b_S_find 38 = .ok (.areturn, 1) := by decide +kernel
theorem d_S_find_39 : decode b_S_find 39 = .ok (.iinc 2 1, 3) := by decide +kernel
theorem d_S_find_42 : decode b_S_find 42 = .ok (.goto (-40), 3) := by decide +kernel
theorem d_S_find_45 : decode b_S_find 45 = .ok (.aconst_null, 1) := by decide +kernel
theorem d_S_find_46 : decode b_S_find 46 = .ok (.areturn, 1) := by decide +kernel
theorem d_S_placeForNext_0 : decode b_S_placeForNext 0 = .ok (.aload_n 0, 1) := by decide +kernel
theorem d_S_placeForNext_1 : decode b_S_placeForNext 1 = .ok (.aload_n 0, 1) := by decide +kernel
theorem d_S_placeForNext_2 : decode b_S_placeForNext 2 = .ok (.getfield 58, 3) := by decide +kernel
theorem d_S_placeForNext_5 : decode b_S_placeForNext 5 = .ok (.invokevirtual 119, 3) := by decide +kernel
theorem d_S_placeForNext_8 : decode b_S_placeForNext 8 = .ok (.astore_n 1, 1) := by decide +kernel
theorem d_S_placeForNext_9 : decode b_S_placeForNext 9 = .ok (.aload_n 1, 1) := by decide +kernel
theorem d_S_placeForNext_10 : decode b_S_placeForNext 10 = .ok (.ifnull 12, 3) := by decide +kernel
theorem d_S_placeForNext_13 : decode b_S_placeForNext 13 = .ok (.aload_n 1, 1) := by decide +kernel
theorem d_S_placeForNext_14 : decode b_S_placeForNext 14 = .ok (.invokevirtual 125, 3) := by decide +kernel
theorem d_S_placeForNext_17 : decode b_S_placeForNext 17 = .ok (.ifCond .ne 5, 3) := by decide +kernel
theorem d_S_placeForNext_20 : decode b_S_placeForNext 20 = .ok (.aload_n 1, 1) := by decide +kernel
theorem d_S_placeForNext_21 : decode b_S_placeForNext 21 = .ok (.areturn, 1) := by decide +kernel
theorem d_S_placeForNext_22 : decode b_S_placeForNext 22 = .ok (.iconst 0, 1) := by decide +kernel
theorem d_S_placeForNext_23 : decode b_S_placeForNext 23 = .ok (.istore_n 2, 1) := by decide +kernel
theorem d_S_placeForNext_24 : decode b_S_placeForNext 24 = .ok (.iload_n 2, 1) := by decide +kernel
theorem d_S_placeForNext_25 : decode b_S_placeForNext 25 = .ok (.iconst 3, 1) := by decide +kernel
theorem d_S_placeForNext_26 : decode b_S_placeForNext 26 = .ok (.if_icmp .ge 28, 3) := by decide +kernel
theorem d_S_placeForNext_29 : decode b_S_placeForNext 29 = .ok (.aload_n 0, 1) := by decide +kernel
theorem d_S_placeForNext_30 : decode b_S_placeForNext 30 = .ok (.getfield 18, 3) := by decide +kernel
theorem d_S_placeForNext_33 : decode b_S_placeForNext 33 = .ok (.iload_n 2, 1) := by decide +kernel
theorem d_S_placeForNext_34 : decode b_S_placeForNext 34 = .ok (.aaload, 1) := by decide +kernel
theorem d_S_placeForNext_35 : decode b_S_placeForNext 35 = .ok (.invokevirtual 141, 3) := by decide +kernel
theorem d_S_placeForNext_38 : decode b_S_placeForNext 38 = .ok (.ifCond .ne 10, 3) := by decide +kernel
theorem d_S_placeForNext_41 : decode b_S_placeForNext 41 = .ok (.aload_n 0, 1) := by decide +kernel
theorem d_S_placeForNext_42 : decode b_S_placeForNext 42 = .ok (.getfield 18, 3) := by decide +kernel
theorem d_S_placeForNext_45 : decode b_S_placeForNext 45 = .ok (.iload_n 2, 1) := by decide +kernel
theorem d_S_placeForNext_46 : decode b_S_placeForNext 46 = .ok (.aaload, 1) := by decide +kernel
theorem d_S_placeForNext_47 : decode b_S_placeForNext 47 = .ok (.areturn, 1) := by decide +kernel
theorem d_S_placeForNext_48 : decode b_S_placeForNext 48 = .ok (.iinc 2 1, 3) := by decide +kernel
theorem d_S_placeForNext_51 : decode b_S_placeForNext 51 = .ok (.goto (-27), 3) := by decide +kernel
theorem d_S_placeForNext_54 : decode b_S_placeForNext 54 = .ok (.aconst_null, 1) := by decide +kernel
theorem d_S_placeForNext_55 : decode b_S_placeForNext 55 = .ok (.areturn, 1) := by decide +kernel
theorem d_Dictionary_init_0 : decode b_Dictionary_init 0 = .ok (.aload_n 0, 1) := by decide +kernel
theorem d_Dictionary_init_1 : decode b_Dictionary_init 1 = .ok (.invokespecial 1, 3) := by decide +kernel
theorem d_Dictionary_init_4 : decode b_Dictionary_init 4 = .ok (.aload_n 0, 1) := by decide +kernel
theorem d_Dictionary_init_5 : decode b_Dictionary_init 5 = .ok (.new 7, 3) := by decide +kernel
theorem d_Dictionary_init_8 : decode b_Dictionary_init 8 = .ok (.dup, 1) := by decide +kernel
theorem d_Dictionary_init_9 : decode b_Dictionary_init 9 = .ok (.invokespecial 9, 3) := by decide +kernel
theorem d_Dictionary_init_12 : decode b_Dictionary_init 12 = .ok (.putfield 10, 3) := by decide +kernel
theorem d_Dictionary_init_15 : decode b_Dictionary_init 15 = .ok (.aload_n 0, 1) := by decide +kernel
theorem d_Dictionary_init_16 : decode b_Dictionary_init 16 = .ok (.iconst 0, 1) := by decide +kernel
theorem d_Dictionary_init_17 : decode b_Dictionary_init 17 = .ok (.putfield 16, 3) := by decide +kernel
theorem d_Dictionary_init_20 : decode b_Dictionary_init 20 = .ok (.aload_n 0, 1) := by decide +kernel
theorem d_Dictionary_init_21 : decode b_Dictionary_init 21 = .ok (.iconst 0, 1) := by decide +kernel
theorem d_Dictionary_init_22 : decode b_Dictionary_init 22 = .ok (.putfield 20, 3) := by decide +kernel
theorem d_Dictionary_init_25 : decode b_Dictionary_init 25 = .ok (.aload_n 0, 1) := by decide +kernel
theorem d_Dictionary_init_26 : decode b_Dictionary_init 26 = .ok (.iconst 0, 1) := by decide +kernel
theorem d_Dictionary_init_27 : decode b_Dictionary_init 27 = .ok (.putfield 23, 3) := by decide +kernel
theorem d_Dictionary_init_30 : decode b_Dictionary_init 30 = .ok (.aload_n 0, 1) := by decide +kernel
theorem d_Dictionary_init_31 : decode b_Dictionary_init 31 = .ok (.iconst 0, 1) := by decide +kernel
theorem d_Dictionary_init_32 : decode b_Dictionary_init 32 = .ok (.putfield 26, 3) := by decide +kernel
theorem d_Dictionary_init_35 : decode b_Dictionary_init 35 = .ok (.return_, 1) := by decide +kernel
theorem d_Dictionary_fill_0 : decode b_Dictionary_fill 0 = .ok (.aload_n 0, 1) := by decide +kernel
theorem d_Dictionary_fill_1 : decode b_Dictionary_fill 1 = .ok (.getfield 10, 3) := by decide +kernel
theorem d_Dictionary_fill_4 : decode b_Dictionary_fill 4 = .ok (.aload_n 2, 1) := by decide +kernel
theorem d_Dictionary_fill_5 : decode b_Dictionary_fill 5 = .ok (.invokevirtual 29, 3) := by decide +kernel
theorem d_Dictionary_fill_8 : decode b_Dictionary_fill 8 = .ok (.aload_n 0, 1) := by decide +kernel
theorem d_Dictionary_fill_9 : decode b_Dictionary_fill 9 = .ok (.iload_n 1, 1) := by decide +kernel
theorem d_Dictionary_fill_10 : decode b_Dictionary_fill 10 = .ok (.putfield 16, 3) := by decide +kernel
theorem d_Dictionary_fill_13 : decode b_Dictionary_fill 13 = .ok (.aload_n 0, 1) := by decide +kernel
theorem d_Dictionary_fill_14 : decode b_Dictionary_fill 14 = .ok (.iconst 0, 1) := by decide +kernel
theorem d_Dictionary_fill_15 : decode b_Dictionary_fill 15 = .ok (.putfield 20, 3) := by decide +kernel
theorem d_Dictionary_fill_18 : decode b_Dictionary_fill 18 = .ok (.aload_n 0, 1) := by decide +kernel
theorem d_Dictionary_fill_19 : decode b_Dictionary_fill 19 = .ok (.iload_n 3, 1) := by decide +kernel
theorem d_Dictionary_fill_20 : decode b_Dictionary_fill 20 = .ok (.putfield 23, 3) := by decide +kernel
theorem d_Dictionary_fill_23 : decode b_Dictionary_fill 23 = .ok (.aload_n 0, 1) := by decide +kernel
theorem d_Dictionary_fill_24 : decode b_Dictionary_fill 24 = .ok (.iload 4, 2) := by decide +kernel
theorem d_Dictionary_fill_26 : decode b_Dictionary_fill 26 = .ok (.putfield 26, 3) := by decide +kernel
theorem d_Dictionary_fill_29 : decode b_Dictionary_fill 29 = .ok (.return_, 1) := by decide +kernel
theorem d_Dictionary_clear_0 : decode b_Dictionary_clear 0 = .ok (.aload_n 0, 1) := by decide +kernel
theorem d_Dictionary_clear_1 : decode b_Dictionary_clear 1 = .ok (.iconst 0, 1) := by decide +kernel
theorem d_Dictionary_clear_2 : decode b_Dictionary_clear 2 = .ok (.putfield 16, 3) := by decide +kernel
theorem d_Dictionary_clear_5 : decode b_Dictionary_clear 5 = .ok (.return_, 1) := by decide +kernel
theorem d_Dictionary_isThere_0 : decode b_Dictionary_isThere 0 = .ok (.aload_n 0, 1) := by decide +kernel
theorem d_Dictionary_isThere_1 : decode b_Dictionary_isThere 1 = .ok (.getfield 16, 3) := by decide +kernel
theorem d_Dictionary_isThere_4 : decode b_Dictionary_isThere 4 = .ok (.ifCond .le 7, 3) := by decide +kernel
theorem d_Dictionary_isThere_7 : decode b_Dictionary_isThere 7 = .ok (.iconst 1, 1) := by decide +kernel
theorem d_Dictionary_isThere_8 : decode b_Dictionary_isThere 8 = .ok (.goto 4, 3) := by decide +kernel
theorem d_Dictionary_isThere_11 : decode b_Dictionary_isThere 11 = .ok (.iconst 0, 1) := by decide +kernel
theorem d_Dictionary_isThere_12 : decode b_Dictionary_isThere 12 = .ok (.ireturn, 1) := by decide +kernel
theorem d_Dictionary_number_0 : decode b_Dictionary_number 0 = .ok (.aload_n 0, 1) := by decide +kernel
theorem d_Dictionary_number_1 : decode b_Dictionary_number 1 = .ok (.getfield 16, 3) := by decide +kernel
theorem d_Dictionary_number_4 : decode b_Dictionary_number 4 = .ok (.ireturn, 1) := by decide +kernel
theorem d_Dictionary_words_0 : decode b_Dictionary_words 0 = .ok (.aload_n 0, 1) := by decide +kernel
theorem d_Dictionary_words_1 : decode b_Dictionary_words 1 = .ok (.getfield 10, 3) := by decide +kernel
theorem d_Dictionary_words_4 : decode b_Dictionary_words 4 = .ok (.areturn, 1) := by decide +kernel
theorem d_Dictionary_states_0 : decode b_Dictionary_states 0 = .ok (.aload_n 0, 1) := by decide +kernel
theorem d_Dictionary_states_1 : decode b_Dictionary_states 1 = .ok (.getfield 23, 3) := by decide +kernel
theorem d_Dictionary_states_4 : decode b_Dictionary_states 4 = .ok (.ireturn, 1) := by decide +kernel
theorem d_Dictionary_arcs_0 : decode b_Dictionary_arcs 0 = .ok (.aload_n 0, 1) := by decide +kernel
theorem d_Dictionary_arcs_1 : decode b_Dictionary_arcs 1 = .ok (.getfield 26, 3) := by decide +kernel
theorem d_Dictionary_arcs_4 : decode b_Dictionary_arcs 4 = .ok (.ireturn, 1) := by decide +kernel
theorem d_Dictionary_readers_0 : decode b_Dictionary_readers 0 = .ok (.aload_n 0, 1) := by decide +kernel
theorem d_Dictionary_readers_1 : decode b_Dictionary_readers 1 = .ok (.getfield 20, 3) := by decide +kernel
theorem d_Dictionary_readers_4 : decode b_Dictionary_readers 4 = .ok (.ireturn, 1) := by decide +kernel
theorem d_Dictionary_addReader_0 : decode b_Dictionary_addReader 0 = .ok (.aload_n 0, 1) := by decide +kernel
theorem d_Dictionary_addReader_1 : decode b_Dictionary_addReader 1 = .ok (.dup, 1) := by decide +kernel
theorem d_Dictionary_addReader_2 : decode b_Dictionary_addReader 2 = .ok (.getfield 20, 3) := by decide +kernel
theorem d_Dictionary_addReader_5 : decode b_Dictionary_addReader 5 = .ok (.iconst 1, 1) := by decide +kernel
theorem d_Dictionary_addReader_6 : decode b_Dictionary_addReader 6 = .ok (.iadd, 1) := by decide +kernel
theorem d_Dictionary_addReader_7 : decode b_Dictionary_addReader 7 = .ok (.putfield 20, 3) := by decide +kernel
theorem d_Dictionary_addReader_10 : decode b_Dictionary_addReader 10 = .ok (.return_, 1) := by decide +kernel
theorem d_Dictionary_removeReader_0 : decode b_Dictionary_removeReader 0 = .ok (.aload_n 0, 1) := by decide +kernel
theorem d_Dictionary_removeReader_1 : decode b_Dictionary_removeReader 1 = .ok (.dup, 1) := by decide +kernel
theorem d_Dictionary_removeReader_2 : decode b_Dictionary_removeReader 2 = .ok (.getfield 20, 3) := by decide +kernel
theorem d_Dictionary_removeReader_5 : decode b_Dictionary_removeReader 5 = .ok (.iconst 1, 1) := by decide +kernel
theorem d_Dictionary_removeReader_6 : decode b_Dictionary_removeReader 6 = .ok (.isub, 1) := by decide +kernel
theorem d_Dictionary_removeReader_7 : decode b_Dictionary_removeReader 7 = .ok (.putfield 20, 3) := by decide +kernel
theorem d_Dictionary_removeReader_10 : decode b_Dictionary_removeReader 10 = .ok (.return_, 1) := by decide +kernel
theorem d_Pairs_init_0 : decode b_Pairs_init 0 = .ok (.aload_n 0, 1) := by decide +kernel
theorem d_Pairs_init_1 : decode b_Pairs_init 1 = .ok (.invokespecial 3, 3) := by decide +kernel
theorem d_Pairs_init_4 : decode b_Pairs_init 4 = .ok (.aload_n 0, 1) := by decide +kernel
theorem d_Pairs_init_5 : decode b_Pairs_init 5 = .ok (.bipush 40, 2) := by decide +kernel
theorem d_Pairs_init_7 : decode b_Pairs_init 7 = .ok (.newarray .long, 2) := by decide +kernel
theorem d_Pairs_init_9 : decode b_Pairs_init 9 = .ok (.putfield 9, 3) := by decide +kernel
theorem d_Pairs_init_12 : decode b_Pairs_init 12 = .ok (.aload_n 0, 1) := by decide +kernel
theorem d_Pairs_init_13 : decode b_Pairs_init 13 = .ok (.bipush 40, 2) := by decide +kernel
theorem d_Pairs_init_15 : decode b_Pairs_init 15 = .ok (.newarray .long, 2) := by decide +kernel
theorem d_Pairs_init_17 : decode b_Pairs_init 17 = .ok (.putfield 15, 3) := by decide +kernel
theorem d_Pairs_init_20 : decode b_Pairs_init 20 = .ok (.aload_n 0, 1) := by decide +kernel
theorem d_Pairs_init_21 : decode b_Pairs_init 21 = .ok (.bipush 40, 2) := by decide +kernel
theorem d_Pairs_init_23 : decode b_Pairs_init 23 = .ok (.newarray .int, 2) := by decide +kernel
theorem d_Pairs_init_25 : decode b_Pairs_init 25 = .ok (.putfield 18, 3) := by decide +kernel
theorem d_Pairs_init_28 : decode b_Pairs_init 28 = .ok (.aload_n 0, 1) := by decide +kernel
theorem d_Pairs_init_29 : decode b_Pairs_init 29 = .ok (.iconst 0, 1) := by decide +kernel
theorem d_Pairs_init_30 : decode b_Pairs_init 30 = .ok (.putfield 22, 3) := by decide +kernel
theorem d_Pairs_init_33 : decode b_Pairs_init 33 = .ok (.return_, 1) := by decide +kernel
theorem d_Pairs_add_0 : decode b_Pairs_add 0 = .ok (.aload_n 0, 1) := by decide +kernel
theorem d_Pairs_add_1 : decode b_Pairs_add 1 = .ok (.lload_n 1, 1) := by decide +kernel
theorem d_Pairs_add_2 : decode b_Pairs_add 2 = .ok (.lload_n 3, 1) := by decide +kernel
theorem d_Pairs_add_3 : decode b_Pairs_add 3 = .ok (.invokevirtual 26, 3) := by decide +kernel
theorem d_Pairs_add_6 : decode b_Pairs_add 6 = .ok (.istore 5, 2) := by decide +kernel
theorem d_Pairs_add_8 : decode b_Pairs_add 8 = .ok (.iload 5, 2) := by decide +kernel
theorem d_Pairs_add_10 : decode b_Pairs_add 10 = .ok (.ifCond .ge 54, 3) := by decide +kernel
theorem d_Pairs_add_13 : decode b_Pairs_add 13 = .ok (.aload_n 0, 1) := by decide +kernel
theorem d_Pairs_add_14 : decode b_Pairs_add 14 = .ok (.getfield 22, 3) := by decide +kernel
theorem d_Pairs_add_17 : decode b_Pairs_add 17 = .ok (.bipush 40, 2) := by decide +kernel
theorem d_Pairs_add_19 : decode b_Pairs_add 19 = .ok (.if_icmp .lt 5, 3) := by decide +kernel
theorem d_Pairs_add_22 : decode b_Pairs_add 22 = .ok (.iconst 0, 1) := by decide +kernel
theorem d_Pairs_add_23 : decode b_Pairs_add 23 = .ok (.ireturn, 1) := by decide +kernel
theorem d_Pairs_add_24 : decode b_Pairs_add 24 = .ok (.aload_n 0, 1) := by decide +kernel
theorem d_Pairs_add_25 : decode b_Pairs_add 25 = .ok (.getfield 22, 3) := by decide +kernel
theorem d_Pairs_add_28 : decode b_Pairs_add 28 = .ok (.istore 5, 2) := by decide +kernel
theorem d_Pairs_add_30 : decode b_Pairs_add 30 = .ok (.aload_n 0, 1) := by decide +kernel
theorem d_Pairs_add_31 : decode b_Pairs_add 31 = .ok (.getfield 9, 3) := by decide +kernel
theorem d_Pairs_add_34 : decode b_Pairs_add 34 = .ok (.iload 5, 2) := by decide +kernel
theorem d_Pairs_add_36 : decode b_Pairs_add 36 = .ok (.lload_n 1, 1) := by decide +kernel
theorem d_Pairs_add_37 : decode b_Pairs_add 37 = .ok (.lastore, 1) := by decide +kernel
theorem d_Pairs_add_38 : decode b_Pairs_add 38 = .ok (.aload_n 0, 1) := by decide +kernel
theorem d_Pairs_add_39 : decode b_Pairs_add 39 = .ok (.getfield 15, 3) := by decide +kernel
theorem d_Pairs_add_42 : decode b_Pairs_add 42 = .ok (.iload 5, 2) := by decide +kernel
theorem d_Pairs_add_44 : decode b_Pairs_add 44 = .ok (.lload_n 3, 1) := by decide +kernel
theorem d_Pairs_add_45 : decode b_Pairs_add 45 = .ok (.lastore, 1) := by decide +kernel
theorem d_Pairs_add_46 : decode b_Pairs_add 46 = .ok (.aload_n 0, 1) := by decide +kernel
theorem d_Pairs_add_47 : decode b_Pairs_add 47 = .ok (.getfield 18, 3) := by decide +kernel
theorem d_Pairs_add_50 : decode b_Pairs_add 50 = .ok (.iload 5, 2) := by decide +kernel
theorem d_Pairs_add_52 : decode b_Pairs_add 52 = .ok (.iconst 0, 1) := by decide +kernel
theorem d_Pairs_add_53 : decode b_Pairs_add 53 = .ok (.iastore, 1) := by decide +kernel
theorem d_Pairs_add_54 : decode b_Pairs_add 54 = .ok (.aload_n 0, 1) := by decide +kernel
theorem d_Pairs_add_55 : decode b_Pairs_add 55 = .ok (.dup, 1) := by decide +kernel
theorem d_Pairs_add_56 : decode b_Pairs_add 56 = .ok (.getfield 22, 3) := by decide +kernel
theorem d_Pairs_add_59 : decode b_Pairs_add 59 = .ok (.iconst 1, 1) := by decide +kernel
theorem d_Pairs_add_60 : decode b_Pairs_add 60 = .ok (.iadd, 1) := by decide +kernel
theorem d_Pairs_add_61 : decode b_Pairs_add 61 = .ok (.putfield 22, 3) := by decide +kernel
theorem d_Pairs_add_64 : decode b_Pairs_add 64 = .ok (.aload_n 0, 1) := by decide +kernel
theorem d_Pairs_add_65 : decode b_Pairs_add 65 = .ok (.getfield 18, 3) := by decide +kernel
theorem d_Pairs_add_68 : decode b_Pairs_add 68 = .ok (.iload 5, 2) := by decide +kernel
theorem d_Pairs_add_70 : decode b_Pairs_add 70 = .ok (.dup2, 1) := by decide +kernel
theorem d_Pairs_add_71 : decode b_Pairs_add 71 = .ok (.iaload, 1) := by decide +kernel
theorem d_Pairs_add_72 : decode b_Pairs_add 72 = .ok (.iconst 1, 1) := by decide +kernel
theorem d_Pairs_add_73 : decode b_Pairs_add 73 = .ok (.iadd, 1) := by decide +kernel
theorem d_Pairs_add_74 : decode b_Pairs_add 74 = .ok (.iastore, 1) := by decide +kernel
theorem d_Pairs_add_75 : decode b_Pairs_add 75 = .ok (.aload_n 0, 1) := by decide +kernel
theorem d_Pairs_add_76 : decode b_Pairs_add 76 = .ok (.getfield 18, 3) := by decide +kernel
theorem d_Pairs_add_79 : decode b_Pairs_add 79 = .ok (.iload 5, 2) := by decide +kernel
theorem d_Pairs_add_81 : decode b_Pairs_add 81 = .ok (.iaload, 1) := by decide +kernel
theorem d_Pairs_add_82 : decode b_Pairs_add 82 = .ok (.ireturn, 1) := by decide +kernel
theorem d_Pairs_saving_0 : decode b_Pairs_saving 0 = .ok (.aload_n 0, 1) := by decide +kernel
theorem d_Pairs_saving_1 : decode b_Pairs_saving 1 = .ok (.lload_n 1, 1) := by decide +kernel
theorem d_Pairs_saving_2 : decode b_Pairs_saving 2 = .ok (.lload_n 3, 1) := by decide +kernel
theorem d_Pairs_saving_3 : decode b_Pairs_saving 3 = .ok (.invokevirtual 26, 3) := by decide +kernel
theorem d_Pairs_saving_6 : decode b_Pairs_saving 6 = .ok (.istore 5, 2) := by decide +kernel
theorem d_Pairs_saving_8 : decode b_Pairs_saving 8 = .ok (.iload 5, 2) := by decide +kernel
theorem d_Pairs_saving_10 : decode b_Pairs_saving 10 = .ok (.ifCond .ge 7, 3) := by decide +kernel
theorem d_Pairs_saving_13 : decode b_Pairs_saving 13 = .ok (.iconst 0, 1) := by decide +kernel
theorem d_Pairs_saving_14 : decode b_Pairs_saving 14 = .ok (.goto 18, 3) := by decide +kernel
theorem d_Pairs_saving_17 : decode b_Pairs_saving 17 = .ok (.sipush 400, 3) := by decide +kernel
theorem d_Pairs_saving_20 : decode b_Pairs_saving 20 = .ok (.aload_n 0, 1) := by decide +kernel
theorem d_Pairs_saving_21 : decode b_Pairs_saving 21 = .ok (.getfield 18, 3) := by decide +kernel
theorem d_Pairs_saving_24 : decode b_Pairs_saving 24 = .ok (.iload 5, 2) := by decide +kernel
theorem d_Pairs_saving_26 : decode b_Pairs_saving 26 = .ok (.iaload, 1) := by decide +kernel
theorem d_Pairs_saving_27 : decode b_Pairs_saving 27 = .ok (.iconst 5, 1) := by decide +kernel
theorem d_Pairs_saving_28 : decode b_Pairs_saving 28 = .ok (.invokestatic 30, 3) := by decide +kernel
theorem d_Pairs_saving_31 : decode b_Pairs_saving 31 = .ok (.imul, 1) := by decide +kernel
theorem d_Pairs_saving_32 : decode b_Pairs_saving 32 = .ok (.ireturn, 1) := by decide +kernel
theorem d_Pairs_indexOf_0 : decode b_Pairs_indexOf 0 = .ok (.iconst 0, 1) := by decide +kernel
theorem d_Pairs_indexOf_1 : decode b_Pairs_indexOf 1 = .ok (.istore 5, 2) := by decide +kernel
theorem d_Pairs_indexOf_3 : decode b_Pairs_indexOf 3 = .ok (.iload 5, 2) := by decide +kernel
theorem d_Pairs_indexOf_5 : decode b_Pairs_indexOf 5 = .ok (.aload_n 0, 1) := by decide +kernel
theorem d_Pairs_indexOf_6 : decode b_Pairs_indexOf 6 = .ok (.getfield 22, 3) := by decide +kernel
theorem d_Pairs_indexOf_9 : decode b_Pairs_indexOf 9 = .ok (.if_icmp .ge 36, 3) := by decide +kernel
theorem d_Pairs_indexOf_12 : decode b_Pairs_indexOf 12 = .ok (.aload_n 0, 1) := by decide +kernel
theorem d_Pairs_indexOf_13 : decode b_Pairs_indexOf 13 = .ok (.getfield 9, 3) := by decide +kernel
theorem d_Pairs_indexOf_16 : decode b_Pairs_indexOf 16 = .ok (.iload 5, 2) := by decide +kernel
theorem d_Pairs_indexOf_18 : decode b_Pairs_indexOf 18 = .ok (.laload, 1) := by decide +kernel
theorem d_Pairs_indexOf_19 : decode b_Pairs_indexOf 19 = .ok (.lload_n 1, 1) := by decide +kernel
theorem d_Pairs_indexOf_20 : decode b_Pairs_indexOf 20 = .ok (.lcmp, 1) := by decide +kernel
theorem d_Pairs_indexOf_21 : decode b_Pairs_indexOf 21 = .ok (.ifCond .ne 18, 3) := by decide +kernel
theorem d_Pairs_indexOf_24 : decode b_Pairs_indexOf 24 = .ok (.aload_n 0, 1) := by decide +kernel
theorem d_Pairs_indexOf_25 : decode b_Pairs_indexOf 25 = .ok (.getfield 15, 3) := by decide +kernel
theorem d_Pairs_indexOf_28 : decode b_Pairs_indexOf 28 = .ok (.iload 5, 2) := by decide +kernel
theorem d_Pairs_indexOf_30 : decode b_Pairs_indexOf 30 = .ok (.laload, 1) := by decide +kernel
theorem d_Pairs_indexOf_31 : decode b_Pairs_indexOf 31 = .ok (.lload_n 3, 1) := by decide +kernel
theorem d_Pairs_indexOf_32 : decode b_Pairs_indexOf 32 = .ok (.lcmp, 1) := by decide +kernel
theorem d_Pairs_indexOf_33 : decode b_Pairs_indexOf 33 = .ok (.ifCond .ne 6, 3) := by decide +kernel
theorem d_Pairs_indexOf_36 : decode b_Pairs_indexOf 36 = .ok (.iload 5, 2) := by decide +kernel
theorem d_Pairs_indexOf_38 : decode b_Pairs_indexOf 38 = .ok (.ireturn, 1) := by decide +kernel
theorem d_Pairs_indexOf_39 : decode b_Pairs_indexOf 39 = .ok (.iinc 5 1, 3) := by decide +kernel
theorem d_Pairs_indexOf_42 : decode b_Pairs_indexOf 42 = .ok (.goto (-39), 3) := by decide +kernel
theorem d_Pairs_indexOf_45 : decode b_Pairs_indexOf 45 = .ok (.iconst (-1), 1) := by decide +kernel
theorem d_Pairs_indexOf_46 : decode b_Pairs_indexOf 46 = .ok (.ireturn, 1) := by decide +kernel
theorem d_Phrase_init_0 : decode b_Phrase_init 0 = .ok (.aload_n 0, 1) := by decide +kernel
theorem d_Phrase_init_1 : decode b_Phrase_init 1 = .ok (.invokespecial 3, 3) := by decide +kernel
theorem d_Phrase_init_4 : decode b_Phrase_init 4 = .ok (.aload_n 0, 1) := by decide +kernel
theorem d_Phrase_init_5 : decode b_Phrase_init 5 = .ok (.iconst 4, 1) := by decide +kernel
theorem d_Phrase_init_6 : decode b_Phrase_init 6 = .ok (.newarray .long, 2) := by decide +kernel
theorem d_Phrase_init_8 : decode b_Phrase_init 8 = .ok (.putfield 9, 3) := by decide +kernel
theorem d_Phrase_init_11 : decode b_Phrase_init 11 = .ok (.aload_n 0, 1) := by decide +kernel
theorem d_Phrase_init_12 : decode b_Phrase_init 12 = .ok (.iconst 4, 1) := by decide +kernel
theorem d_Phrase_init_13 : decode b_Phrase_init 13 = .ok (.newarray .long, 2) := by decide +kernel
theorem d_Phrase_init_15 : decode b_Phrase_init 15 = .ok (.putfield 15, 3) := by decide +kernel
theorem d_Phrase_init_18 : decode b_Phrase_init 18 = .ok (.aload_n 0, 1) := by decide +kernel
theorem d_Phrase_init_19 : decode b_Phrase_init 19 = .ok (.iconst 4, 1) := by decide +kernel
theorem d_Phrase_init_20 : decode b_Phrase_init 20 = .ok (.bipush 24, 2) := by decide +kernel
theorem d_Phrase_init_22 : decode b_Phrase_init 22 = .ok (.multianewarray 18 2, 4) := by decide +kernel
theorem d_Phrase_init_26 : decode b_Phrase_init 26 = .ok (.putfield 20, 3) := by decide +kernel
theorem d_Phrase_init_29 : decode b_Phrase_init 29 = .ok (.aload_n 0, 1) := by decide +kernel
theorem d_Phrase_init_30 : decode b_Phrase_init 30 = .ok (.iconst 4, 1) := by decide +kernel
theorem d_Phrase_init_31 : decode b_Phrase_init 31 = .ok (.bipush 24, 2) := by decide +kernel
theorem d_Phrase_init_33 : decode b_Phrase_init 33 = .ok (.multianewarray 23 2, 4) := by decide +kernel
theorem d_Phrase_init_37 : decode b_Phrase_init 37 = .ok (.putfield 25, 3) := by decide +kernel
theorem d_Phrase_init_40 : decode b_Phrase_init 40 = .ok (.aload_n 0, 1) := by decide +kernel
theorem d_Phrase_init_41 : decode b_Phrase_init 41 = .ok (.iconst 4, 1) := by decide +kernel
theorem d_Phrase_init_42 : decode b_Phrase_init 42 = .ok (.bipush 24, 2) := by decide +kernel
theorem d_Phrase_init_44 : decode b_Phrase_init 44 = .ok (.multianewarray 23 2, 4) := by decide +kernel
theorem d_Phrase_init_48 : decode b_Phrase_init 48 = .ok (.putfield 28, 3) := by decide +kernel
theorem d_Phrase_init_51 : decode b_Phrase_init 51 = .ok (.aload_n 0, 1) := by decide +kernel
theorem d_Phrase_init_52 : decode b_Phrase_init 52 = .ok (.iconst 4, 1) := by decide +kernel
theorem d_Phrase_init_53 : decode b_Phrase_init 53 = .ok (.newarray .int, 2) := by decide +kernel
theorem d_Phrase_init_55 : decode b_Phrase_init 55 = .ok (.putfield 31, 3) := by decide +kernel
theorem d_Phrase_init_58 : decode b_Phrase_init 58 = .ok (.aload_n 0, 1) := by decide +kernel
theorem d_Phrase_init_59 : decode b_Phrase_init 59 = .ok (.iconst 0, 1) := by decide +kernel
theorem d_Phrase_init_60 : decode b_Phrase_init 60 = .ok (.putfield 35, 3) := by decide +kernel
theorem d_Phrase_init_63 : decode b_Phrase_init 63 = .ok (.aload_n 0, 1) := by decide +kernel
theorem d_Phrase_init_64 : decode b_Phrase_init 64 = .ok (.iconst 0, 1) := by decide +kernel
theorem d_Phrase_init_65 : decode b_Phrase_init 65 = .ok (.putfield 39, 3) := by decide +kernel
theorem d_Phrase_init_68 : decode b_Phrase_init 68 = .ok (.return_, 1) := by decide +kernel
theorem d_Phrase_size_0 : decode b_Phrase_size 0 = .ok (.aload_n 0, 1) := by decide +kernel
theorem d_Phrase_size_1 : decode b_Phrase_size 1 = .ok (.getfield 35, 3) := by decide +kernel
theorem d_Phrase_size_4 : decode b_Phrase_size 4 = .ok (.ireturn, 1) := by decide +kernel
theorem d_Phrase_add_0 : decode b_Phrase_add 0 = .ok (.aload_n 0, 1) := by decide +kernel
theorem d_Phrase_add_1 : decode b_Phrase_add 1 = .ok (.getfield 35, 3) := by decide +kernel
theorem d_Phrase_add_4 : decode b_Phrase_add 4 = .ok (.iconst 4, 1) := by decide +kernel
theorem d_Phrase_add_5 : decode b_Phrase_add 5 = .ok (.if_icmp .lt 5, 3) := by decide +kernel
theorem d_Phrase_add_8 : decode b_Phrase_add 8 = .ok (.iconst 0, 1) := by decide +kernel
theorem d_Phrase_add_9 : decode b_Phrase_add 9 = .ok (.ireturn, 1) := by decide +kernel
theorem d_Phrase_add_10 : decode b_Phrase_add 10 = .ok (.aload_n 0, 1) := by decide +kernel
theorem d_Phrase_add_11 : decode b_Phrase_add 11 = .ok (.getfield 9, 3) := by decide +kernel
theorem d_Phrase_add_14 : decode b_Phrase_add 14 = .ok (.aload_n 0, 1) := by decide +kernel
theorem d_Phrase_add_15 : decode b_Phrase_add 15 = .ok (.getfield 35, 3) := by decide +kernel
theorem d_Phrase_add_18 : decode b_Phrase_add 18 = .ok (.lload_n 1, 1) := by decide +kernel
theorem d_Phrase_add_19 : decode b_Phrase_add 19 = .ok (.lastore, 1) := by decide +kernel
theorem d_Phrase_add_20 : decode b_Phrase_add 20 = .ok (.aload_n 0, 1) := by decide +kernel
theorem d_Phrase_add_21 : decode b_Phrase_add 21 = .ok (.dup, 1) := by decide +kernel
theorem d_Phrase_add_22 : decode b_Phrase_add 22 = .ok (.getfield 35, 3) := by decide +kernel
theorem d_Phrase_add_25 : decode b_Phrase_add 25 = .ok (.iconst 1, 1) := by decide +kernel
theorem d_Phrase_add_26 : decode b_Phrase_add 26 = .ok (.iadd, 1) := by decide +kernel
theorem d_Phrase_add_27 : decode b_Phrase_add 27 = .ok (.putfield 35, 3) := by decide +kernel
theorem d_Phrase_add_30 : decode b_Phrase_add 30 = .ok (.iconst 1, 1) := by decide +kernel
theorem d_Phrase_add_31 : decode b_Phrase_add 31 = .ok (.ireturn, 1) := by decide +kernel
theorem d_Phrase_clear_0 : decode b_Phrase_clear 0 = .ok (.aload_n 0, 1) := by decide +kernel
theorem d_Phrase_clear_1 : decode b_Phrase_clear 1 = .ok (.iconst 0, 1) := by decide +kernel
theorem d_Phrase_clear_2 : decode b_Phrase_clear 2 = .ok (.putfield 35, 3) := by decide +kernel
theorem d_Phrase_clear_5 : decode b_Phrase_clear 5 = .ok (.return_, 1) := by decide +kernel
theorem d_Phrase_chosenSize_0 : decode b_Phrase_chosenSize 0 = .ok (.aload_n 0, 1) := by decide +kernel
theorem d_Phrase_chosenSize_1 : decode b_Phrase_chosenSize 1 = .ok (.getfield 39, 3) := by decide +kernel
theorem d_Phrase_chosenSize_4 : decode b_Phrase_chosenSize 4 = .ok (.ireturn, 1) := by decide +kernel
theorem d_Phrase_chosenAt_0 : decode b_Phrase_chosenAt 0 = .ok (.aload_n 0, 1) := by decide +kernel
theorem d_Phrase_chosenAt_1 : decode b_Phrase_chosenAt 1 = .ok (.getfield 15, 3) := by decide +kernel
theorem d_Phrase_chosenAt_4 : decode b_Phrase_chosenAt 4 = .ok (.iload_n 1, 1) := by decide +kernel
theorem d_Phrase_chosenAt_5 : decode b_Phrase_chosenAt 5 = .ok (.laload, 1) := by decide +kernel
theorem d_Phrase_chosenAt_6 : decode b_Phrase_chosenAt 6 = .ok (.lreturn, 1) := by decide +kernel
theorem d_Phrase_settle_0 : decode b_Phrase_settle 0 = .ok (.aload_n 0, 1) := by decide +kernel
theorem d_Phrase_settle_1 : decode b_Phrase_settle 1 = .ok (.getfield 35, 3) := by decide +kernel
theorem d_Phrase_settle_4 : decode b_Phrase_settle 4 = .ok (.iconst 1, 1) := by decide +kernel
theorem d_Phrase_settle_5 : decode b_Phrase_settle 5 = .ok (.isub, 1) := by decide +kernel
theorem d_Phrase_settle_6 : decode b_Phrase_settle 6 = .ok (.istore 4, 2) := by decide +kernel
theorem d_Phrase_settle_8 : decode b_Phrase_settle 8 = .ok (.iload 4, 2) := by decide +kernel
theorem d_Phrase_settle_10 : decode b_Phrase_settle 10 = .ok (.ifCond .lt 35, 3) := by decide +kernel
theorem d_Phrase_settle_13 : decode b_Phrase_settle 13 = .ok (.aload_n 0, 1) := by decide +kernel
theorem d_Phrase_settle_14 : decode b_Phrase_settle 14 = .ok (.iload 4, 2) := by decide +kernel
theorem d_Phrase_settle_16 : decode b_Phrase_settle 16 = .ok (.aload_n 1, 1) := by decide +kernel
theorem d_Phrase_settle_17 : decode b_Phrase_settle 17 = .ok (.aload_n 2, 1) := by decide +kernel
theorem d_Phrase_settle_18 : decode b_Phrase_settle 18 = .ok (.invokevirtual 42, 3) := by decide +kernel
theorem d_Phrase_settle_21 : decode b_Phrase_settle 21 = .ok (.iload 4, 2) := by decide +kernel
theorem d_Phrase_settle_23 : decode b_Phrase_settle 23 = .ok (.aload_n 0, 1) := by decide +kernel
theorem d_Phrase_settle_24 : decode b_Phrase_settle 24 = .ok (.getfield 35, 3) := by decide +kernel
theorem d_Phrase_settle_27 : decode b_Phrase_settle 27 = .ok (.iconst 1, 1) := by decide +kernel
theorem d_Phrase_settle_28 : decode b_Phrase_settle 28 = .ok (.isub, 1) := by decide +kernel
theorem d_Phrase_settle_29 : decode b_Phrase_settle 29 = .ok (.if_icmp .ge 10, 3) := by decide +kernel
theorem d_Phrase_settle_32 : decode b_Phrase_settle 32 = .ok (.aload_n 0, 1) := by decide +kernel
theorem d_Phrase_settle_33 : decode b_Phrase_settle 33 = .ok (.iload 4, 2) := by decide +kernel
theorem d_Phrase_settle_35 : decode b_Phrase_settle 35 = .ok (.aload_n 3, 1) := by decide +kernel
theorem d_Phrase_settle_36 : decode b_Phrase_settle 36 = .ok (.invokevirtual 46, 3) := by decide +kernel
theorem d_Phrase_settle_39 : decode b_Phrase_settle 39 = .ok (.iinc 4 (-1), 3) := by decide +kernel
theorem d_Phrase_settle_42 : decode b_Phrase_settle 42 = .ok (.goto (-34), 3) := by decide +kernel
theorem d_Phrase_settle_45 : decode b_Phrase_settle 45 = .ok (.aload_n 0, 1) := by decide +kernel
theorem d_Phrase_settle_46 : decode b_Phrase_settle 46 = .ok (.invokevirtual 50, 3) := by decide +kernel
theorem d_Phrase_settle_49 : decode b_Phrase_settle 49 = .ok (.ireturn, 1) := by decide +kernel
theorem d_Phrase_gather_0 : decode b_Phrase_gather 0 = .ok (.iconst 0, 1) := by decide +kernel
theorem d_Phrase_gather_1 : decode b_Phrase_gather 1 = .ok (.istore 4, 2) := by decide +kernel
theorem d_Phrase_gather_3 : decode b_Phrase_gather 3 = .ok (.iconst 0, 1) := by decide +kernel
theorem d_Phrase_gather_4 : decode b_Phrase_gather 4 = .ok (.istore 5, 2) := by decide +kernel
theorem d_Phrase_gather_6 : decode b_Phrase_gather 6 = .ok (.iload 5, 2) := by decide +kernel
theorem d_Phrase_gather_8 : decode b_Phrase_gather 8 = .ok (.aload_n 2, 1) := by decide +kernel
theorem d_Phrase_gather_9 : decode b_Phrase_gather 9 = .ok (.invokevirtual 54, 3) := by decide +kernel
theorem d_Phrase_gather_12 : decode b_Phrase_gather 12 = .ok (.if_icmp .ge 73, 3) := by decide +kernel
theorem d_Phrase_gather_15 : decode b_Phrase_gather 15 = .ok (.aload_n 3, 1) := by decide +kernel
theorem d_Phrase_gather_16 : decode b_Phrase_gather 16 = .ok (.aload_n 0, 1) := by decide +kernel
theorem d_Phrase_gather_17 : decode b_Phrase_gather 17 = .ok (.getfield 9, 3) := by decide +kernel
theorem d_Phrase_gather_20 : decode b_Phrase_gather 20 = .ok (.iload_n 1, 1) := by decide +kernel
theorem d_Phrase_gather_21 : decode b_Phrase_gather 21 = .ok (.laload, 1) := by decide +kernel
theorem d_Phrase_gather_22 : decode b_Phrase_gather 22 = .ok (.aload_n 2, 1) := by decide +kernel
theorem d_Phrase_gather_23 : decode b_Phrase_gather 23 = .ok (.iload 5, 2) := by decide +kernel
theorem d_Phrase_gather_25 : decode b_Phrase_gather 25 = .ok (.invokevirtual 58, 3) := by decide +kernel
theorem d_Phrase_gather_28 : decode b_Phrase_gather 28 = .ok (.invokevirtual 62, 3) := by decide +kernel
theorem d_Phrase_gather_31 : decode b_Phrase_gather 31 = .ok (.istore 6, 2) := by decide +kernel
theorem d_Phrase_gather_33 : decode b_Phrase_gather 33 = .ok (.iload 6, 2) := by decide +kernel
theorem d_Phrase_gather_35 : decode b_Phrase_gather 35 = .ok (.iconst 1, 1) := by decide +kernel
theorem d_Phrase_gather_36 : decode b_Phrase_gather 36 = .ok (.if_icmp .gt 43, 3) := by decide +kernel
theorem d_Phrase_gather_39 : decode b_Phrase_gather 39 = .ok (.aload_n 0, 1) := by decide +kernel
theorem d_Phrase_gather_40 : decode b_Phrase_gather 40 = .ok (.getfield 20, 3) := by decide +kernel
theorem d_Phrase_gather_43 : decode b_Phrase_gather 43 = .ok (.iload_n 1, 1) := by decide +kernel
theorem d_Phrase_gather_44 : decode b_Phrase_gather 44 = .ok (.aaload, 1) := by decide +kernel
theorem d_Phrase_gather_45 : decode b_Phrase_gather 45 = .ok (.iload 4, 2) := by decide +kernel
theorem d_Phrase_gather_47 : decode b_Phrase_gather 47 = .ok (.aload_n 2, 1) := by decide +kernel
theorem d_Phrase_gather_48 : decode b_Phrase_gather 48 = .ok (.iload 5, 2) := by decide +kernel
theorem d_Phrase_gather_50 : decode b_Phrase_gather 50 = .ok (.invokevirtual 58, 3) := by decide +kernel
theorem d_Phrase_gather_53 : decode b_Phrase_gather 53 = .ok (.lastore, 1) := by decide +kernel
theorem d_Phrase_gather_54 : decode b_Phrase_gather 54 = .ok (.aload_n 0, 1) := by decide +kernel
theorem d_Phrase_gather_55 : decode b_Phrase_gather 55 = .ok (.getfield 25, 3) := by decide +kernel
theorem d_Phrase_gather_58 : decode b_Phrase_gather 58 = .ok (.iload_n 1, 1) := by decide +kernel
theorem d_Phrase_gather_59 : decode b_Phrase_gather 59 = .ok (.aaload, 1) := by decide +kernel
theorem d_Phrase_gather_60 : decode b_Phrase_gather 60 = .ok (.iload 4, 2) := by decide +kernel
theorem d_Phrase_gather_62 : decode b_Phrase_gather 62 = .ok (.sipush 3000, 3) := by decide +kernel
theorem d_Phrase_gather_65 : decode b_Phrase_gather 65 = .ok (.iload 6, 2) := by decide +kernel
theorem d_Phrase_gather_67 : decode b_Phrase_gather 67 = .ok (.imul, 1) := by decide +kernel
theorem d_Phrase_gather_68 : decode b_Phrase_gather 68 = .ok (.aload_n 2, 1) := by decide +kernel
theorem d_Phrase_gather_69 : decode b_Phrase_gather 69 = .ok (.iload 5, 2) := by decide +kernel
theorem d_Phrase_gather_71 : decode b_Phrase_gather 71 = .ok (.invokevirtual 68, 3) := by decide +kernel
theorem d_Phrase_gather_74 : decode b_Phrase_gather 74 = .ok (.iadd, 1) := by decide +kernel
theorem d_Phrase_gather_75 : decode b_Phrase_gather 75 = .ok (.iastore, 1) := by decide +kernel
theorem d_Phrase_gather_76 : decode b_Phrase_gather 76 = .ok (.iinc 4 1, 3) := by decide +kernel
theorem d_Phrase_gather_79 : decode b_Phrase_gather 79 = .ok (.iinc 5 1, 3) := by decide +kernel
theorem d_Phrase_gather_82 : decode b_Phrase_gather 82 = .ok (.goto (-76), 3) := by decide +kernel
theorem d_Phrase_gather_85 : decode b_Phrase_gather 85 = .ok (.iload 4, 2) := by decide +kernel
theorem d_Phrase_gather_87 : decode b_Phrase_gather 87 = .ok (.ifCond .ne 31, 3) := by decide +kernel
theorem d_Phrase_gather_90 : decode b_Phrase_gather 90 = .ok (.aload_n 0, 1) := by decide +kernel
theorem d_Phrase_gather_91 : decode b_Phrase_gather 91 = .ok (.getfield 20, 3) := by decide +kernel
theorem d_Phrase_gather_94 : decode b_Phrase_gather 94 = .ok (.iload_n 1, 1) := by decide +kernel
theorem d_Phrase_gather_95 : decode b_Phrase_gather 95 = .ok (.aaload, 1) := by decide +kernel
theorem d_Phrase_gather_96 : decode b_Phrase_gather 96 = .ok (.iconst 0, 1) := by decide +kernel
theorem d_Phrase_gather_97 : decode b_Phrase_gather 97 = .ok (.aload_n 0, 1) := by decide +kernel
theorem d_Phrase_gather_98 : decode b_Phrase_gather 98 = .ok (.getfield 9, 3) := by decide +kernel
theorem d_Phrase_gather_101 : decode b_Phrase_gather 101 = .ok (.iload_n 1, 1) := by decide +kernel
theorem d_Phrase_gather_102 : decode b_Phrase_gather 102 = .ok (.laload, 1) := by decide +kernel
theorem d_Phrase_gather_103 : decode b_Phrase_gather 103 = .ok (.lastore, 1) := by decide +kernel
theorem d_Phrase_gather_104 : decode b_Phrase_gather 104 = .ok (.aload_n 0, 1) := by decide +kernel
theorem d_Phrase_gather_105 : decode b_Phrase_gather 105 = .ok (.getfield 25, 3) := by decide +kernel
theorem d_Phrase_gather_108 : decode b_Phrase_gather 108 = .ok (.iload_n 1, 1) := by decide +kernel
theorem d_Phrase_gather_109 : decode b_Phrase_gather 109 = .ok (.aaload, 1) := by decide +kernel
theorem d_Phrase_gather_110 : decode b_Phrase_gather 110 = .ok (.iconst 0, 1) := by decide +kernel
theorem d_Phrase_gather_111 : decode b_Phrase_gather 111 = .ok (.sipush 20000, 3) := by decide +kernel
theorem d_Phrase_gather_114 : decode b_Phrase_gather 114 = .ok (.iastore, 1) := by decide +kernel
theorem d_Phrase_gather_115 : decode b_Phrase_gather 115 = .ok (.iconst 1, 1) := by decide +kernel
theorem d_Phrase_gather_116 : decode b_Phrase_gather 116 = .ok (.istore 4, 2) := by decide +kernel
theorem d_Phrase_gather_118 : decode b_Phrase_gather 118 = .ok (.aload_n 0, 1) := by decide +kernel
theorem d_Phrase_gather_119 : decode b_Phrase_gather 119 = .ok (.getfield 31, 3) := by decide +kernel
theorem d_Phrase_gather_122 : decode b_Phrase_gather 122 = .ok (.iload_n 1, 1) := by decide +kernel
theorem d_Phrase_gather_123 : decode b_Phrase_gather 123 = .ok (.iload 4, 2) := by decide +kernel
theorem d_Phrase_gather_125 : decode b_Phrase_gather 125 = .ok (.iastore, 1) := by decide +kernel
theorem d_Phrase_gather_126 : decode b_Phrase_gather 126 = .ok (.return_, 1) := by decide +kernel
theorem d_Phrase_chooseFollowers_0 : decode b_Phrase_chooseFollowers 0 = .ok (.iconst 0, 1) := by decide +kernel
theorem d_Phrase_chooseFollowers_1 : decode b_Phrase_chooseFollowers 1 = .ok (.istore_n 3, 1) := by decide +kernel
theorem d_Phrase_chooseFollowers_2 : decode b_Phrase_chooseFollowers 2 = .ok (.iload_n 3, 1) := by decide +kernel
theorem d_Phrase_chooseFollowers_3 : decode b_Phrase_chooseFollowers 3 = .ok (.aload_n 0, 1) := by decide +kernel
theorem d_Phrase_chooseFollowers_4 : decode b_Phrase_chooseFollowers 4 = .ok (.getfield 31, 3) := by decide +kernel
theorem d_Phrase_chooseFollowers_7 : decode b_Phrase_chooseFollowers 7 = .ok (.iload_n 1, 1) := by decide +kernel
theorem d_Phrase_chooseFollowers_8 : decode b_Phrase_chooseFollowers 8 = .ok (.iaload, 1) := by decide +kernel
theorem d_Phrase_chooseFollowers_9 : decode b_Phrase_chooseFollowers 9 = .ok (.if_icmp .ge 90, 3) := by decide +kernel
theorem d_Phrase_chooseFollowers_12 : decode b_Phrase_chooseFollowers 12 = .ok (.iconst 0, 1) := by decide +kernel
theorem d_Phrase_chooseFollowers_13 : decode b_Phrase_chooseFollowers 13 = .ok (.istore 4, 2) := by decide +kernel
theorem d_Phrase_chooseFollowers_15 : decode b_Phrase_chooseFollowers 15 = .ok (.aload_n 0, 1) := by decide +kernel
theorem d_Phrase_chooseFollowers_16 : decode b_Phrase_chooseFollowers 16 = .ok (.iload_n 1, 1) := by decide +kernel
theorem d_Phrase_chooseFollowers_17 : decode b_Phrase_chooseFollowers 17 = .ok (.iload_n 3, 1) := by decide +kernel
theorem d_Phrase_chooseFollowers_18 : decode b_Phrase_chooseFollowers 18 = .ok (.iconst 0, 1) := by decide +kernel
theorem d_Phrase_chooseFollowers_19 : decode b_Phrase_chooseFollowers 19 = .ok (.aload_n 2, 1) := by decide +kernel
theorem d_Phrase_chooseFollowers_20 : decode b_Phrase_chooseFollowers 20 = .ok (.invokevirtual 72, 3) := by decide +kernel
theorem d_Phrase_chooseFollowers_23 : decode b_Phrase_chooseFollowers 23 = .ok (.istore 5, 2) := by decide +kernel
theorem d_Phrase_chooseFollowers_25 : decode b_Phrase_chooseFollowers 25 = .ok (.iconst 1, 1) := by decide +kernel
theorem d_Phrase_chooseFollowers_26 : decode b_Phrase_chooseFollowers 26 = .ok (.istore 6, 2) := by decide +kernel
theorem d_Phrase_chooseFollowers_28 : decode b_Phrase_chooseFollowers 28 = .ok (.iload 6, 2) := by decide +kernel
theorem d_Phrase_chooseFollowers_30 : decode b_Phrase_chooseFollowers 30 = .ok (.aload_n 0, 1) := by decide +kernel
theorem d_Phrase_chooseFollowers_31 : decode b_Phrase_chooseFollowers 31 = .ok (.getfield 31, 3) := by decide +kernel
theorem d_Phrase_chooseFollowers_34 : decode b_Phrase_chooseFollowers 34 = .ok (.iload_n 1, 1) := by decide +kernel
theorem d_Phrase_chooseFollowers_35 : decode b_Phrase_chooseFollowers 35 = .ok (.iconst 1, 1) := by decide +kernel
theorem d_Phrase_chooseFollowers_36 : decode b_Phrase_chooseFollowers 36 = .ok (.iadd, 1) := by decide +kernel
theorem d_Phrase_chooseFollowers_37 : decode b_Phrase_chooseFollowers 37 = .ok (.iaload, 1) := by decide +kernel
theorem d_Phrase_chooseFollowers_38 : decode b_Phrase_chooseFollowers 38 = .ok (.if_icmp .ge 35, 3) := by decide +kernel
theorem d_Phrase_chooseFollowers_41 : decode b_Phrase_chooseFollowers 41 = .ok (.aload_n 0, 1) := by decide +kernel
theorem d_Phrase_chooseFollowers_42 : decode b_Phrase_chooseFollowers 42 = .ok (.iload_n 1, 1) := by decide +kernel
theorem d_Phrase_chooseFollowers_43 : decode b_Phrase_chooseFollowers 43 = .ok (.iload_n 3, 1) := by decide +kernel
theorem d_Phrase_chooseFollowers_44 : decode b_Phrase_chooseFollowers 44 = .ok (.iload 6, 2) := by decide +kernel
theorem d_Phrase_chooseFollowers_46 : decode b_Phrase_chooseFollowers 46 = .ok (.aload_n 2, 1) := by decide +kernel
theorem d_Phrase_chooseFollowers_47 : decode b_Phrase_chooseFollowers 47 = .ok (.invokevirtual 72, 3) := by decide +kernel
theorem d_Phrase_chooseFollowers_50 : decode b_Phrase_chooseFollowers 50 = .ok (.istore 7, 2) := by decide +kernel
theorem d_Phrase_chooseFollowers_52 : decode b_Phrase_chooseFollowers 52 = .ok (.iload 7, 2) := by decide +kernel
theorem d_Phrase_chooseFollowers_54 : decode b_Phrase_chooseFollowers 54 = .ok (.iload 5, 2) := by decide +kernel
theorem d_Phrase_chooseFollowers_56 : decode b_Phrase_chooseFollowers 56 = .ok (.if_icmp .ge 11, 3) := by decide +kernel
theorem d_Phrase_chooseFollowers_59 : decode b_Phrase_chooseFollowers 59 = .ok (.iload 6, 2) := by decide +kernel
theorem d_Phrase_chooseFollowers_61 : decode b_Phrase_chooseFollowers 61 = .ok (.istore 4, 2) := by decide +kernel
theorem d_Phrase_chooseFollowers_63 : decode b_Phrase_chooseFollowers 63 = .ok (.iload 7, 2) := by decide +kernel
theorem d_Phrase_chooseFollowers_65 : decode b_Phrase_chooseFollowers 65 = .ok (.istore 5, 2) := by decide +kernel
theorem d_Phrase_chooseFollowers_67 : decode b_Phrase_chooseFollowers 67 = .ok (.iinc 6 1, 3) := by decide +kernel
theorem d_Phrase_chooseFollowers_70 : decode b_Phrase_chooseFollowers 70 = .ok (.goto (-42), 3) := by decide +kernel
theorem d_Phrase_chooseFollowers_73 : decode b_Phrase_chooseFollowers 73 = .ok (.aload_n 0, 1) := by decide +kernel
theorem d_Phrase_chooseFollowers_74 : decode b_Phrase_chooseFollowers 74 = .ok (.getfield 28, 3) := by decide +kernel
theorem d_Phrase_chooseFollowers_77 : decode b_Phrase_chooseFollowers 77 = .ok (.iload_n 1, 1) := by decide +kernel
theorem d_Phrase_chooseFollowers_78 : decode b_Phrase_chooseFollowers 78 = .ok (.aaload, 1) := by decide +kernel
theorem d_Phrase_chooseFollowers_79 : decode b_Phrase_chooseFollowers 79 = .ok (.iload_n 3, 1) := by decide +kernel
theorem d_Phrase_chooseFollowers_80 : decode b_Phrase_chooseFollowers 80 = .ok (.iload 4, 2) := by decide +kernel
theorem d_Phrase_chooseFollowers_82 : decode b_Phrase_chooseFollowers 82 = .ok (.iastore, 1) := by decide +kernel
theorem d_Phrase_chooseFollowers_83 : decode b_Phrase_chooseFollowers 83 = .ok (.aload_n 0, 1) := by decide +kernel
theorem d_Phrase_chooseFollowers_84 : decode b_Phrase_chooseFollowers 84 = .ok (.getfield 25, 3) := by decide +kernel
theorem d_Phrase_chooseFollowers_87 : decode b_Phrase_chooseFollowers 87 = .ok (.iload_n 1, 1) := by decide +kernel
theorem d_Phrase_chooseFollowers_88 : decode b_Phrase_chooseFollowers 88 = .ok (.aaload, 1) := by decide +kernel
theorem d_Phrase_chooseFollowers_89 : decode b_Phrase_chooseFollowers 89 = .ok (.iload_n 3, 1) := by decide +kernel
theorem d_Phrase_chooseFollowers_90 : decode b_Phrase_chooseFollowers 90 = .ok (.iload 5, 2) := by decide +kernel
theorem d_Phrase_chooseFollowers_92 : decode b_Phrase_chooseFollowers 92 = .ok (.iastore, 1) := by decide +kernel
theorem d_Phrase_chooseFollowers_93 : decode b_Phrase_chooseFollowers 93 = .ok (.iinc 3 1, 3) := by decide +kernel
theorem d_Phrase_chooseFollowers_96 : decode b_Phrase_chooseFollowers 96 = .ok (.goto (-94), 3) := by decide +kernel
theorem d_Phrase_chooseFollowers_99 : decode b_Phrase_chooseFollowers 99 = .ok (.return_, 1) := by decide +kernel
theorem d_Phrase_costWith_0 : decode b_Phrase_costWith 0 = .ok (.aload_n 0, 1) := by decide +kernel
theorem d_Phrase_costWith_1 : decode b_Phrase_costWith 1 = .ok (.getfield 20, 3) := by decide +kernel
theorem d_Phrase_costWith_4 : decode b_Phrase_costWith 4 = .ok (.iload_n 1, 1) := by decide +kernel
theorem d_Phrase_costWith_5 : decode b_Phrase_costWith 5 = .ok (.aaload, 1) := by decide +kernel
theorem d_Phrase_costWith_6 : decode b_Phrase_costWith 6 = .ok (.iload_n 2, 1) := by decide +kernel
theorem d_Phrase_costWith_7 : decode b_Phrase_costWith 7 = .ok (.laload, 1) := by decide +kernel
theorem d_Phrase_costWith_8 : decode b_Phrase_costWith 8 = .ok (.lstore 5, 2) := by decide +kernel
theorem d_Phrase_costWith_10 : decode b_Phrase_costWith 10 = .ok (.aload_n 0, 1) := by decide +kernel
theorem d_Phrase_costWith_11 : decode b_Phrase_costWith 11 = .ok (.getfield 20, 3) := by decide +kernel
theorem d_Phrase_costWith_14 : decode b_Phrase_costWith 14 = .ok (.iload_n 1, 1) := by decide +kernel
theorem d_Phrase_costWith_15 : decode b_Phrase_costWith 15 = .ok (.iconst 1, 1) := by decide +kernel
theorem d_Phrase_costWith_16 : decode b_Phrase_costWith 16 = .ok (.iadd, 1) := by decide +kernel
theorem d_Phrase_costWith_17 : decode b_Phrase_costWith 17 = .ok (.aaload, 1) := by decide +kernel
theorem d_Phrase_costWith_18 : decode b_Phrase_costWith 18 = .ok (.iload_n 3, 1) := by decide +kernel
theorem d_Phrase_costWith_19 : decode b_Phrase_costWith 19 = .ok (.laload, 1) := by decide +kernel
theorem d_Phrase_costWith_20 : decode b_Phrase_costWith 20 = .ok (.lstore 7, 2) := by decide +kernel
theorem d_Phrase_costWith_22 : decode b_Phrase_costWith 22 = .ok (.aload_n 0, 1) := by decide +kernel
theorem d_Phrase_costWith_23 : decode b_Phrase_costWith 23 = .ok (.getfield 25, 3) := by decide +kernel
theorem d_Phrase_costWith_26 : decode b_Phrase_costWith 26 = .ok (.iload_n 1, 1) := by decide +kernel
theorem d_Phrase_costWith_27 : decode b_Phrase_costWith 27 = .ok (.aaload, 1) := by decide +kernel
theorem d_Phrase_costWith_28 : decode b_Phrase_costWith 28 = .ok (.iload_n 2, 1) := by decide +kernel
theorem d_Phrase_costWith_29 : decode b_Phrase_costWith 29 = .ok (.iaload, 1) := by decide +kernel
theorem d_Phrase_costWith_30 : decode b_Phrase_costWith 30 = .ok (.aload_n 0, 1) := by decide +kernel
theorem d_Phrase_costWith_31 : decode b_Phrase_costWith 31 = .ok (.getfield 25, 3) := by decide +kernel
theorem d_Phrase_costWith_34 : decode b_Phrase_costWith 34 = .ok (.iload_n 1, 1) := by decide +kernel
theorem d_Phrase_costWith_35 : decode b_Phrase_costWith 35 = .ok (.iconst 1, 1) := by decide +kernel
theorem d_Phrase_costWith_36 : decode b_Phrase_costWith 36 = .ok (.iadd, 1) := by decide +kernel
theorem d_Phrase_costWith_37 : decode b_Phrase_costWith 37 = .ok (.aaload, 1) := by decide +kernel
theorem d_Phrase_costWith_38 : decode b_Phrase_costWith 38 = .ok (.iload_n 3, 1) := by decide +kernel
theorem d_Phrase_costWith_39 : decode b_Phrase_costWith 39 = .ok (.iaload, 1) := by decide +kernel
theorem d_Phrase_costWith_40 : decode b_Phrase_costWith 40 = .ok (.iadd, 1) := by decide +kernel
theorem d_Phrase_costWith_41 : decode b_Phrase_costWith 41 = .ok (.aload 4, 2) := by decide +kernel
theorem d_Phrase_costWith_43 : decode b_Phrase_costWith 43 = .ok (.lload 5, 2) := by decide +kernel
theorem d_Phrase_costWith_45 : decode b_Phrase_costWith 45 = .ok (.lload 7, 2) := by decide +kernel
theorem d_Phrase_costWith_47 : decode b_Phrase_costWith 47 = .ok (.invokevirtual 76, 3) := by decide +kernel
theorem d_Phrase_costWith_50 : decode b_Phrase_costWith 50 = .ok (.isub, 1) := by decide +kernel
theorem d_Phrase_costWith_51 : decode b_Phrase_costWith 51 = .ok (.ireturn, 1) := by decide +kernel
theorem d_Phrase_choose_0 : decode b_Phrase_choose 0 = .ok (.iconst 0, 1) := by decide +kernel
theorem d_Phrase_choose_1 : decode b_Phrase_choose 1 = .ok (.istore_n 1, 1) := by decide +kernel
theorem d_Phrase_choose_2 : decode b_Phrase_choose 2 = .ok (.iconst 1, 1) := by decide +kernel
theorem d_Phrase_choose_3 : decode b_Phrase_choose 3 = .ok (.istore_n 2, 1) := by decide +kernel
theorem d_Phrase_choose_4 : decode b_Phrase_choose 4 = .ok (.iload_n 2, 1) := by decide +kernel
theorem d_Phrase_choose_5 : decode b_Phrase_choose 5 = .ok (.aload_n 0, 1) := by decide +kernel
theorem d_Phrase_choose_6 : decode b_Phrase_choose 6 = .ok (.getfield 31, 3) := by decide +kernel
theorem d_Phrase_choose_9 : decode b_Phrase_choose 9 = .ok (.iconst 0, 1) := by decide +kernel
theorem d_Phrase_choose_10 : decode b_Phrase_choose 10 = .ok (.iaload, 1) := by decide +kernel
theorem d_Phrase_choose_11 : decode b_Phrase_choose 11 = .ok (.if_icmp .ge 30, 3) := by decide +kernel
theorem d_Phrase_choose_14 : decode b_Phrase_choose 14 = .ok (.aload_n 0, 1) := by decide +kernel
theorem d_Phrase_choose_15 : decode b_Phrase_choose 15 = .ok (.getfield 25, 3) := by decide +kernel
theorem d_Phrase_choose_18 : decode b_Phrase_choose 18 = .ok (.iconst 0, 1) := by decide +kernel
theorem d_Phrase_choose_19 : decode b_Phrase_choose 19 = .ok (.aaload, 1) := by decide +kernel
theorem d_Phrase_choose_20 : decode b_Phrase_choose 20 = .ok (.iload_n 2, 1) := by decide +kernel
theorem d_Phrase_choose_21 : decode b_Phrase_choose 21 = .ok (.iaload, 1) := by decide +kernel
theorem d_Phrase_choose_22 : decode b_Phrase_choose 22 = .ok (.aload_n 0, 1) := by decide +kernel
theorem d_Phrase_choose_23 : decode b_Phrase_choose 23 = .ok (.getfield 25, 3) := by decide +kernel
theorem d_Phrase_choose_26 : decode b_Phrase_choose 26 = .ok (.iconst 0, 1) := by decide +kernel
theorem d_Phrase_choose_27 : decode b_Phrase_choose 27 = .ok (.aaload, 1) := by decide +kernel
theorem d_Phrase_choose_28 : decode b_Phrase_choose 28 = .ok (.iload_n 1, 1) := by decide +kernel
theorem d_Phrase_choose_29 : decode b_Phrase_choose 29 = .ok (.iaload, 1) := by decide +kernel
theorem d_Phrase_choose_30 : decode b_Phrase_choose 30 = .ok (.if_icmp .ge 5, 3) := by decide +kernel
theorem d_Phrase_choose_33 : decode b_Phrase_choose 33 = .ok (.iload_n 2, 1) := by decide +kernel
theorem d_Phrase_choose_34 : decode b_Phrase_choose 34 = .ok (.istore_n 1, 1) := by decide +kernel
theorem d_Phrase_choose_35 : decode b_Phrase_choose 35 = .ok (.iinc 2 1, 3) := by decide +kernel
theorem d_Phrase_choose_38 : decode b_Phrase_choose 38 = .ok (.goto (-34), 3) := by decide +kernel
theorem d_Phrase_choose_41 : decode b_Phrase_choose 41 = .ok (.iload_n 1, 1) := by decide +kernel
theorem d_Phrase_choose_42 : decode b_Phrase_choose 42 = .ok (.istore_n 2, 1) := by decide +kernel
theorem d_Phrase_choose_43 : decode b_Phrase_choose 43 = .ok (.aload_n 0, 1) := by decide +kernel
theorem d_Phrase_choose_44 : decode b_Phrase_choose 44 = .ok (.getfield 15, 3) := by decide +kernel
theorem d_Phrase_choose_47 : decode b_Phrase_choose 47 = .ok (.iconst 0, 1) := by decide +kernel
theorem d_Phrase_choose_48 : decode b_Phrase_choose 48 = .ok (.aload_n 0, 1) := by decide +kernel
theorem d_Phrase_choose_49 : decode b_Phrase_choose 49 = .ok (.getfield 20, 3) := by decide +kernel
theorem d_Phrase_choose_52 : decode b_Phrase_choose 52 = .ok (.iconst 0, 1) := by decide +kernel
theorem d_Phrase_choose_53 : decode b_Phrase_choose 53 = .ok (.aaload, 1) := by decide +kernel
theorem d_Phrase_choose_54 : decode b_Phrase_choose 54 = .ok (.iload_n 2, 1) := by decide +kernel
theorem d_Phrase_choose_55 : decode b_Phrase_choose 55 = .ok (.laload, 1) := by decide +kernel
theorem d_Phrase_choose_56 : decode b_Phrase_choose 56 = .ok (.lastore, 1) := by decide +kernel
theorem d_Phrase_choose_57 : decode b_Phrase_choose 57 = .ok (.iconst 1, 1) := by decide +kernel
theorem d_Phrase_choose_58 : decode b_Phrase_choose 58 = .ok (.istore_n 3, 1) := by decide +kernel
theorem d_Phrase_choose_59 : decode b_Phrase_choose 59 = .ok (.iload_n 3, 1) := by decide +kernel
theorem d_Phrase_choose_60 : decode b_Phrase_choose 60 = .ok (.aload_n 0, 1) := by decide +kernel
theorem d_Phrase_choose_61 : decode b_Phrase_choose 61 = .ok (.getfield 35, 3) := by decide +kernel
theorem d_Phrase_choose_64 : decode b_Phrase_choose 64 = .ok (.if_icmp .ge 34, 3) := by decide +kernel
theorem d_Phrase_choose_67 : decode b_Phrase_choose 67 = .ok (.aload_n 0, 1) := by decide +kernel
theorem d_Phrase_choose_68 : decode b_Phrase_choose 68 = .ok (.getfield 28, 3) := by decide +kernel
theorem d_Phrase_choose_71 : decode b_Phrase_choose 71 = .ok (.iload_n 3, 1) := by decide +kernel
theorem d_Phrase_choose_72 : decode b_Phrase_choose 72 = .ok (.iconst 1, 1) := by decide +kernel
theorem d_Phrase_choose_73 : decode b_Phrase_choose 73 = .ok (.isub, 1) := by decide +kernel
theorem d_Phrase_choose_74 : decode b_Phrase_choose 74 = .ok (.aaload, 1) := by decide +kernel
theorem d_Phrase_choose_75 : decode b_Phrase_choose 75 = .ok (.iload_n 2, 1) := by decide +kernel
theorem d_Phrase_choose_76 : decode b_Phrase_choose 76 = .ok (.iaload, 1) := by decide +kernel
theorem d_Phrase_choose_77 : decode b_Phrase_choose 77 = .ok (.istore_n 2, 1) := by decide +kernel
theorem d_Phrase_choose_78 : decode b_Phrase_choose 78 = .ok (.aload_n 0, 1) := by decide +kernel
theorem d_Phrase_choose_79 : decode b_Phrase_choose 79 = .ok (.getfield 15, 3) := by decide +kernel
theorem d_Phrase_choose_82 : decode b_Phrase_choose 82 = .ok (.iload_n 3, 1) := by decide +kernel
theorem d_Phrase_choose_83 : decode b_Phrase_choose 83 = .ok (.aload_n 0, 1) := by decide +kernel
theorem d_Phrase_choose_84 : decode b_Phrase_choose 84 = .ok (.getfield 20, 3) := by decide +kernel
theorem d_Phrase_choose_87 : decode b_Phrase_choose 87 = .ok (.iload_n 3, 1) := by decide +kernel
theorem d_Phrase_choose_88 : decode b_Phrase_choose 88 = .ok (.aaload, 1) := by decide +kernel
theorem d_Phrase_choose_89 : decode b_Phrase_choose 89 = .ok (.iload_n 2, 1) := by decide +kernel
theorem d_Phrase_choose_90 : decode b_Phrase_choose 90 = .ok (.laload, 1) := by decide +kernel
theorem d_Phrase_choose_91 : decode b_Phrase_choose 91 = .ok (.lastore, 1) := by decide +kernel
theorem d_Phrase_choose_92 : decode b_Phrase_choose 92 = .ok (.iinc 3 1, 3) := by decide +kernel
theorem d_Phrase_choose_95 : decode b_Phrase_choose 95 = .ok (.goto (-36), 3) := by decide +kernel
theorem d_Phrase_choose_98 : decode b_Phrase_choose 98 = .ok (.aload_n 0, 1) := by decide +kernel
theorem d_Phrase_choose_99 : decode b_Phrase_choose 99 = .ok (.aload_n 0, 1) := by decide +kernel
