theorem d_Automaton_init_0 : decode b_Automaton_init 0 = .ok (.aload_n 0, 1) := by decide +kernel
theorem d_Automaton_init_1 : decode b_Automaton_init 1 = .ok (.invokespecial 3, 3) := by decide +kernel
theorem d_Automaton_init_4 : decode b_Automaton_init 4 = .ok (.aload_n 0, 1) := by decide +kernel
theorem d_Automaton_init_5 : decode b_Automaton_init 5 = .ok (.sipush 193, 3) := by decide +kernel
theorem d_Automaton_init_8 : decode b_Automaton_init 8 = .ok (.newarray .int, 2) := by decide +kernel
theorem d_Automaton_init_10 : decode b_Automaton_init 10 = .ok (.putfield 11, 3) := by decide +kernel
theorem d_Automaton_init_13 : decode b_Automaton_init 13 = .ok (.aload_n 0, 1) := by decide +kernel
theorem d_Automaton_init_14 : decode b_Automaton_init 14 = .ok (.sipush 193, 3) := by decide +kernel
theorem d_Automaton_init_17 : decode b_Automaton_init 17 = .ok (.newarray .int, 2) := by decide +kernel
theorem d_Automaton_init_19 : decode b_Automaton_init 19 = .ok (.putfield 15, 3) := by decide +kernel
theorem d_Automaton_init_22 : decode b_Automaton_init 22 = .ok (.aload_n 0, 1) := by decide +kernel
theorem d_Automaton_init_23 : decode b_Automaton_init 23 = .ok (.sipush 193, 3) := by decide +kernel
theorem d_Automaton_init_26 : decode b_Automaton_init 26 = .ok (.newarray .int, 2) := by decide +kernel
theorem d_Automaton_init_28 : decode b_Automaton_init 28 = .ok (.putfield 18, 3) := by decide +kernel
theorem d_Automaton_init_31 : decode b_Automaton_init 31 = .ok (.aload_n 0, 1) := by decide +kernel
theorem d_Automaton_init_32 : decode b_Automaton_init 32 = .ok (.sipush 193, 3) := by decide +kernel
theorem d_Automaton_init_35 : decode b_Automaton_init 35 = .ok (.newarray .int, 2) := by decide +kernel
theorem d_Automaton_init_37 : decode b_Automaton_init 37 = .ok (.putfield 21, 3) := by decide +kernel
theorem d_Automaton_init_40 : decode b_Automaton_init 40 = .ok (.aload_n 0, 1) := by decide +kernel
theorem d_Automaton_init_41 : decode b_Automaton_init 41 = .ok (.iconst 0, 1) := by decide +kernel
theorem d_Automaton_init_42 : decode b_Automaton_init 42 = .ok (.putfield 24, 3) := by decide +kernel
theorem d_Automaton_init_45 : decode b_Automaton_init 45 = .ok (.aload_n 0, 1) := by decide +kernel
theorem d_Automaton_init_46 : decode b_Automaton_init 46 = .ok (.iconst 0, 1) := by decide +kernel
theorem d_Automaton_init_47 : decode b_Automaton_init 47 = .ok (.putfield 28, 3) := by decide +kernel
theorem d_Automaton_init_50 : decode b_Automaton_init 50 = .ok (.return_, 1) := by decide +kernel
theorem d_Automaton_states_0 : decode b_Automaton_states 0 = .ok (.aload_n 0, 1) := by decide +kernel
theorem d_Automaton_states_1 : decode b_Automaton_states 1 = .ok (.getfield 24, 3) := by decide +kernel
theorem d_Automaton_states_4 : decode b_Automaton_states 4 = .ok (.ireturn, 1) := by decide +kernel
theorem d_Automaton_arcs_0 : decode b_Automaton_arcs 0 = .ok (.aload_n 0, 1) := by decide +kernel
theorem d_Automaton_arcs_1 : decode b_Automaton_arcs 1 = .ok (.getfield 28, 3) := by decide +kernel
theorem d_Automaton_arcs_4 : decode b_Automaton_arcs 4 = .ok (.ireturn, 1) := by decide +kernel
theorem d_Automaton_measure_0 : decode b_Automaton_measure 0 = .ok (.aload_n 0, 1) := by decide +kernel
theorem d_Automaton_measure_1 : decode b_Automaton_measure 1 = .ok (.iconst 0, 1) := by decide +kernel
theorem d_Automaton_measure_2 : decode b_Automaton_measure 2 = .ok (.putfield 24, 3) := by decide +kernel
theorem d_Automaton_measure_5 : decode b_Automaton_measure 5 = .ok (.aload_n 0, 1) := by decide +kernel
theorem d_Automaton_measure_6 : decode b_Automaton_measure 6 = .ok (.iconst 0, 1) := by decide +kernel
theorem d_Automaton_measure_7 : decode b_Automaton_measure 7 = .ok (.putfield 28, 3) := by decide +kernel
theorem d_Automaton_measure_10 : decode b_Automaton_measure 10 = .ok (.iconst 0, 1) := by decide +kernel
theorem d_Automaton_measure_11 : decode b_Automaton_measure 11 = .ok (.istore_n 2, 1) := by decide +kernel
theorem d_Automaton_measure_12 : decode b_Automaton_measure 12 = .ok (.iload_n 2, 1) := by decide +kernel
theorem d_Automaton_measure_13 : decode b_Automaton_measure 13 = .ok (.aload_n 1, 1) := by decide +kernel
theorem d_Automaton_measure_14 : decode b_Automaton_measure 14 = .ok (.invokevirtual 31, 3) := by decide +kernel
theorem d_Automaton_measure_17 : decode b_Automaton_measure 17 = .ok (.if_icmp .ge 69, 3) := by decide +kernel
theorem d_Automaton_measure_20 : decode b_Automaton_measure 20 = .ok (.aload_n 1, 1) := by decide +kernel
theorem d_Automaton_measure_21 : decode b_Automaton_measure 21 = .ok (.iload_n 2, 1) := by decide +kernel
theorem d_Automaton_measure_22 : decode b_Automaton_measure 22 = .ok (.invokevirtual 37, 3) := by decide +kernel
theorem d_Automaton_measure_25 : decode b_Automaton_measure 25 = .ok (.lstore_n 3, 1) := by decide +kernel
theorem d_Automaton_measure_26 : decode b_Automaton_measure 26 = .ok (.iload_n 2, 1) := by decide +kernel
theorem d_Automaton_measure_27 : decode b_Automaton_measure 27 = .ok (.ifCond .ne 7, 3) := by decide +kernel
theorem d_Automaton_measure_30 : decode b_Automaton_measure 30 = .ok (.iconst 0, 1) := by decide +kernel
theorem d_Automaton_measure_31 : decode b_Automaton_measure 31 = .ok (.goto 16, 3) := by decide +kernel
theorem d_Automaton_measure_34 : decode b_Automaton_measure 34 = .ok (.aload_n 1, 1) := by decide +kernel
theorem d_Automaton_measure_35 : decode b_Automaton_measure 35 = .ok (.iload_n 2, 1) := by decide +kernel
theorem d_Automaton_measure_36 : decode b_Automaton_measure 36 = .ok (.iconst 1, 1) := by decide +kernel
theorem d_Automaton_measure_37 : decode b_Automaton_measure 37 = .ok (.isub, 1) := by decide +kernel
theorem d_Automaton_measure_38 : decode b_Automaton_measure 38 = .ok (.invokevirtual 37, 3) := by decide +kernel
theorem d_Automaton_measure_41 : decode b_Automaton_measure 41 = .ok (.lload_n 3, 1) := by decide +kernel
theorem d_Automaton_measure_42 : decode b_Automaton_measure 42 = .ok (.invokestatic 41, 3) := by decide +kernel
theorem d_Automaton_measure_45 : decode b_Automaton_measure 45 = .ok (.iconst 1, 1) := by decide +kernel
theorem d_Automaton_measure_46 : decode b_Automaton_measure 46 = .ok (.iadd, 1) := by decide +kernel
theorem d_Automaton_measure_47 : decode b_Automaton_measure 47 = .ok (.istore 5, 2) := by decide +kernel
theorem d_Automaton_measure_49 : decode b_Automaton_measure 49 = .ok (.lload_n 3, 1) := by decide +kernel
theorem d_Automaton_measure_50 : decode b_Automaton_measure 50 = .ok (.invokestatic 47, 3) := by decide +kernel
theorem d_Automaton_measure_53 : decode b_Automaton_measure 53 = .ok (.istore 6, 2) := by decide +kernel
theorem d_Automaton_measure_55 : decode b_Automaton_measure 55 = .ok (.iload 5, 2) := by decide +kernel
theorem d_Automaton_measure_57 : decode b_Automaton_measure 57 = .ok (.istore 7, 2) := by decide +kernel
theorem d_Automaton_measure_59 : decode b_Automaton_measure 59 = .ok (.iload 7, 2) := by decide +kernel
theorem d_Automaton_measure_61 : decode b_Automaton_measure 61 = .ok (.iload 6, 2) := by decide +kernel
theorem d_Automaton_measure_63 : decode b_Automaton_measure 63 = .ok (.if_icmp .gt 17, 3) := by decide +kernel
theorem d_Automaton_measure_66 : decode b_Automaton_measure 66 = .ok (.aload_n 0, 1) := by decide +kernel
theorem d_Automaton_measure_67 : decode b_Automaton_measure 67 = .ok (.aload_n 1, 1) := by decide +kernel
theorem d_Automaton_measure_68 : decode b_Automaton_measure 68 = .ok (.iload_n 2, 1) := by decide +kernel
theorem d_Automaton_measure_69 : decode b_Automaton_measure 69 = .ok (.iload 7, 2) := by decide +kernel
theorem d_Automaton_measure_71 : decode b_Automaton_measure 71 = .ok (.invokevirtual 51, 3) := by decide +kernel
theorem d_Automaton_measure_74 : decode b_Automaton_measure 74 = .ok (.iinc 7 1, 3) := by decide +kernel
theorem d_Automaton_measure_77 : decode b_Automaton_measure 77 = .ok (.goto (-18), 3) := by decide +kernel
theorem d_Automaton_measure_80 : decode b_Automaton_measure 80 = .ok (.iinc 2 1, 3) := by decide +kernel
theorem d_Automaton_measure_83 : decode b_Automaton_measure 83 = .ok (.goto (-71), 3) := by decide +kernel
theorem d_Automaton_measure_86 : decode b_Automaton_measure 86 = .ok (.return_, 1) := by decide +kernel
theorem d_Automaton_addBeginning_0 : decode b_Automaton_addBeginning 0 = .ok (.aload_n 0, 1) := by decide +kernel
theorem d_Automaton_addBeginning_1 : decode b_Automaton_addBeginning 1 = .ok (.getfield 24, 3) := by decide +kernel
theorem d_Automaton_addBeginning_4 : decode b_Automaton_addBeginning 4 = .ok (.sipush 193, 3) := by decide +kernel
theorem d_Automaton_addBeginning_7 : decode b_Automaton_addBeginning 7 = .ok (.if_icmp .lt 4, 3) := by decide +kernel
theorem d_Automaton_addBeginning_10 : decode b_Automaton_addBeginning 10 = .ok (.return_, 1) := by decide +kernel
theorem d_Automaton_addBeginning_11 : decode b_Automaton_addBeginning 11 = .ok (.aload_n 0, 1) := by decide +kernel
theorem d_Automaton_addBeginning_12 : decode b_Automaton_addBeginning 12 = .ok (.getfield 11, 3) := by decide +kernel
theorem d_Automaton_addBeginning_15 : decode b_Automaton_addBeginning 15 = .ok (.aload_n 0, 1) := by decide +kernel
theorem d_Automaton_addBeginning_16 : decode b_Automaton_addBeginning 16 = .ok (.getfield 24, 3) := by decide +kernel
theorem d_Automaton_addBeginning_19 : decode b_Automaton_addBeginning 19 = .ok (.iload_n 2, 1) := by decide +kernel
theorem d_Automaton_addBeginning_20 : decode b_Automaton_addBeginning 20 = .ok (.iastore, 1) := by decide +kernel
theorem d_Automaton_addBeginning_21 : decode b_Automaton_addBeginning 21 = .ok (.aload_n 0, 1) := by decide +kernel
theorem d_Automaton_addBeginning_22 : decode b_Automaton_addBeginning 22 = .ok (.getfield 15, 3) := by decide +kernel
theorem d_Automaton_addBeginning_25 : decode b_Automaton_addBeginning 25 = .ok (.aload_n 0, 1) := by decide +kernel
theorem d_Automaton_addBeginning_26 : decode b_Automaton_addBeginning 26 = .ok (.getfield 24, 3) := by decide +kernel
theorem d_Automaton_addBeginning_29 : decode b_Automaton_addBeginning 29 = .ok (.aload_n 1, 1) := by decide +kernel
theorem d_Automaton_addBeginning_30 : decode b_Automaton_addBeginning 30 = .ok (.iload_n 2, 1) := by decide +kernel
theorem d_Automaton_addBeginning_31 : decode b_Automaton_addBeginning 31 = .ok (.iload_n 3, 1) := by decide +kernel
theorem d_Automaton_addBeginning_32 : decode b_Automaton_addBeginning 32 = .ok (.invokestatic 55, 3) := by decide +kernel
theorem d_Automaton_addBeginning_35 : decode b_Automaton_addBeginning 35 = .ok (.iastore, 1) := by decide +kernel
theorem d_Automaton_addBeginning_36 : decode b_Automaton_addBeginning 36 = .ok (.aload_n 0, 1) := by decide +kernel
theorem d_Automaton_addBeginning_37 : decode b_Automaton_addBeginning 37 = .ok (.getfield 18, 3) := by decide +kernel
theorem d_Automaton_addBeginning_40 : decode b_Automaton_addBeginning 40 = .ok (.aload_n 0, 1) := by decide +kernel
theorem d_Automaton_addBeginning_41 : decode b_Automaton_addBeginning 41 = .ok (.getfield 24, 3) := by decide +kernel
theorem d_Automaton_addBeginning_44 : decode b_Automaton_addBeginning 44 = .ok (.iload_n 3, 1) := by decide +kernel
theorem d_Automaton_addBeginning_45 : decode b_Automaton_addBeginning 45 = .ok (.iastore, 1) := by decide +kernel
theorem d_Automaton_addBeginning_46 : decode b_Automaton_addBeginning 46 = .ok (.aload_n 0, 1) := by decide +kernel
theorem d_Automaton_addBeginning_47 : decode b_Automaton_addBeginning 47 = .ok (.getfield 21, 3) := by decide +kernel
theorem d_Automaton_addBeginning_50 : decode b_Automaton_addBeginning 50 = .ok (.aload_n 0, 1) := by decide +kernel
theorem d_Automaton_addBeginning_51 : decode b_Automaton_addBeginning 51 = .ok (.getfield 24, 3) := by decide +kernel
theorem d_Automaton_addBeginning_54 : decode b_Automaton_addBeginning 54 = .ok (.aload_n 1, 1) := by decide +kernel
theorem d_Automaton_addBeginning_55 : decode b_Automaton_addBeginning 55 = .ok (.iload_n 2, 1) := by decide +kernel
theorem d_Automaton_addBeginning_56 : decode b_Automaton_addBeginning 56 = .ok (.aload_n 0, 1) := by decide +kernel
theorem d_Automaton_addBeginning_57 : decode b_Automaton_addBeginning 57 = .ok (.getfield 15, 3) := by decide +kernel
theorem d_Automaton_addBeginning_60 : decode b_Automaton_addBeginning 60 = .ok (.aload_n 0, 1) := by decide +kernel
theorem d_Automaton_addBeginning_61 : decode b_Automaton_addBeginning 61 = .ok (.getfield 24, 3) := by decide +kernel
theorem d_Automaton_addBeginning_64 : decode b_Automaton_addBeginning 64 = .ok (.iaload, 1) := by decide +kernel
theorem d_Automaton_addBeginning_65 : decode b_Automaton_addBeginning 65 = .ok (.invokestatic 59, 3) := by decide +kernel
theorem d_Automaton_addBeginning_68 : decode b_Automaton_addBeginning 68 = .ok (.iastore, 1) := by decide +kernel
theorem d_Automaton_addBeginning_69 : decode b_Automaton_addBeginning 69 = .ok (.iconst 0, 1) := by decide +kernel
theorem d_Automaton_addBeginning_70 : decode b_Automaton_addBeginning 70 = .ok (.istore 4, 2) := by decide +kernel
theorem d_Automaton_addBeginning_72 : decode b_Automaton_addBeginning 72 = .ok (.iload 4, 2) := by decide +kernel
theorem d_Automaton_addBeginning_74 : decode b_Automaton_addBeginning 74 = .ok (.aload_n 0, 1) := by decide +kernel
theorem d_Automaton_addBeginning_75 : decode b_Automaton_addBeginning 75 = .ok (.getfield 24, 3) := by decide +kernel
theorem d_Automaton_addBeginning_78 : decode b_Automaton_addBeginning 78 = .ok (.if_icmp .ge 24, 3) := by decide +kernel
theorem d_Automaton_addBeginning_81 : decode b_Automaton_addBeginning 81 = .ok (.aload_n 0, 1) := by decide +kernel
theorem d_Automaton_addBeginning_82 : decode b_Automaton_addBeginning 82 = .ok (.aload_n 1, 1) := by decide +kernel
theorem d_Automaton_addBeginning_83 : decode b_Automaton_addBeginning 83 = .ok (.iload 4, 2) := by decide +kernel
theorem d_Automaton_addBeginning_85 : decode b_Automaton_addBeginning 85 = .ok (.aload_n 0, 1) := by decide +kernel
theorem d_Automaton_addBeginning_86 : decode b_Automaton_addBeginning 86 = .ok (.getfield 24, 3) := by decide +kernel
theorem d_Automaton_addBeginning_89 : decode b_Automaton_addBeginning 89 = .ok (.invokevirtual 62, 3) := by decide +kernel
theorem d_Automaton_addBeginning_92 : decode b_Automaton_addBeginning 92 = .ok (.ifCond .eq 4, 3) := by decide +kernel
theorem d_Automaton_addBeginning_95 : decode b_Automaton_addBeginning 95 = .ok (.return_, 1) := by decide +kernel
theorem d_Automaton_addBeginning_96 : decode b_Automaton_addBeginning 96 = .ok (.iinc 4 1, 3) := by decide +kernel
theorem d_Automaton_addBeginning_99 : decode b_Automaton_addBeginning 99 = .ok (.goto (-27), 3) := by decide +kernel
theorem d_Automaton_addBeginning_102 : decode b_Automaton_addBeginning 102 = .ok (.aload_n 0, 1) := by decide +kernel
theorem d_Automaton_addBeginning_103 : decode b_Automaton_addBeginning 103 = .ok (.dup, 1) := by decide +kernel
theorem d_Automaton_addBeginning_104 : decode b_Automaton_addBeginning 104 = .ok (.getfield 28, 3) := by decide +kernel
theorem d_Automaton_addBeginning_107 : decode b_Automaton_addBeginning 107 = .ok (.aload_n 0, 1) := by decide +kernel
theorem d_Automaton_addBeginning_108 : decode b_Automaton_addBeginning 108 = .ok (.aload_n 1, 1) := by decide +kernel
theorem d_Automaton_addBeginning_109 : decode b_Automaton_addBeginning 109 = .ok (.aload_n 0, 1) := by decide +kernel
theorem d_Automaton_addBeginning_110 : decode b_Automaton_addBeginning 110 = .ok (.getfield 24, 3) := by decide +kernel
theorem d_Automaton_addBeginning_113 : decode b_Automaton_addBeginning 113 = .ok (.invokevirtual 66, 3) := by decide +kernel
theorem d_Automaton_addBeginning_116 : decode b_Automaton_addBeginning 116 = .ok (.iadd, 1) := by decide +kernel
theorem d_Automaton_addBeginning_117 : decode b_Automaton_addBeginning 117 = .ok (.putfield 28, 3) := by decide +kernel
theorem d_Automaton_addBeginning_120 : decode b_Automaton_addBeginning 120 = .ok (.aload_n 0, 1) := by decide +kernel
theorem d_Automaton_addBeginning_121 : decode b_Automaton_addBeginning 121 = .ok (.dup, 1) := by decide +kernel
theorem d_Automaton_addBeginning_122 : decode b_Automaton_addBeginning 122 = .ok (.getfield 24, 3) := by decide +kernel
theorem d_Automaton_addBeginning_125 : decode b_Automaton_addBeginning 125 = .ok (.iconst 1, 1) := by decide +kernel
theorem d_Automaton_addBeginning_126 : decode b_Automaton_addBeginning 126 = .ok (.iadd, 1) := by decide +kernel
theorem d_Automaton_addBeginning_127 : decode b_Automaton_addBeginning 127 = .ok (.putfield 24, 3) := by decide +kernel
theorem d_Automaton_addBeginning_130 : decode b_Automaton_addBeginning 130 = .ok (.return_, 1) := by decide +kernel
theorem d_Automaton_countWords_0 : decode b_Automaton_countWords 0 = .ok (.aload_n 0, 1) := by decide +kernel
theorem d_Automaton_countWords_1 : decode b_Automaton_countWords 1 = .ok (.iload_n 1, 1) := by decide +kernel
theorem d_Automaton_countWords_2 : decode b_Automaton_countWords 2 = .ok (.invokevirtual 37, 3) := by decide +kernel
theorem d_Automaton_countWords_5 : decode b_Automaton_countWords 5 = .ok (.iload_n 2, 1) := by decide +kernel
theorem d_Automaton_countWords_6 : decode b_Automaton_countWords 6 = .ok (.invokestatic 70, 3) := by decide +kernel
theorem d_Automaton_countWords_9 : decode b_Automaton_countWords 9 = .ok (.lstore_n 3, 1) := by decide +kernel
theorem d_Automaton_countWords_10 : decode b_Automaton_countWords 10 = .ok (.iload_n 1, 1) := by decide +kernel
theorem d_Automaton_countWords_11 : decode b_Automaton_countWords 11 = .ok (.iconst 1, 1) := by decide +kernel
theorem d_Automaton_countWords_12 : decode b_Automaton_countWords 12 = .ok (.iadd, 1) := by decide +kernel
theorem d_Automaton_countWords_13 : decode b_Automaton_countWords 13 = .ok (.istore 5, 2) := by decide +kernel
theorem d_Automaton_countWords_15 : decode b_Automaton_countWords 15 = .ok (.iload 5, 2) := by decide +kernel
theorem d_Automaton_countWords_17 : decode b_Automaton_countWords 17 = .ok (.aload_n 0, 1) := by decide +kernel
theorem d_Automaton_countWords_18 : decode b_Automaton_countWords 18 = .ok (.invokevirtual 31, 3) := by decide +kernel
theorem d_Automaton_countWords_21 : decode b_Automaton_countWords 21 = .ok (.if_icmp .ge 24, 3) := by decide +kernel
theorem d_Automaton_countWords_24 : decode b_Automaton_countWords 24 = .ok (.aload_n 0, 1) := by decide +kernel
theorem d_Automaton_countWords_25 : decode b_Automaton_countWords 25 = .ok (.iload 5, 2) := by decide +kernel
theorem d_Automaton_countWords_27 : decode b_Automaton_countWords 27 = .ok (.invokevirtual 37, 3) := by decide +kernel
theorem d_Automaton_countWords_30 : decode b_Automaton_countWords 30 = .ok (.iload_n 2, 1) := by decide +kernel
theorem d_Automaton_countWords_31 : decode b_Automaton_countWords 31 = .ok (.invokestatic 70, 3) := by decide +kernel
theorem d_Automaton_countWords_34 : decode b_Automaton_countWords 34 = .ok (.lload_n 3, 1) := by decide +kernel
theorem d_Automaton_countWords_35 : decode b_Automaton_countWords 35 = .ok (.lcmp, 1) := by decide +kernel
theorem d_Automaton_countWords_36 : decode b_Automaton_countWords 36 = .ok (.ifCond .ne 9, 3) := by decide +kernel
theorem d_Automaton_countWords_39 : decode b_Automaton_countWords 39 = .ok (.iinc 5 1, 3) := by decide +kernel
theorem d_Automaton_countWords_42 : decode b_Automaton_countWords 42 = .ok (.goto (-27), 3) := by decide +kernel
theorem d_Automaton_countWords_45 : decode b_Automaton_countWords 45 = .ok (.iload 5, 2) := by decide +kernel
theorem d_Automaton_countWords_47 : decode b_Automaton_countWords 47 = .ok (.iload_n 1, 1) := by decide +kernel
theorem d_Automaton_countWords_48 : decode b_Automaton_countWords 48 = .ok (.isub, 1) := by decide +kernel
theorem d_Automaton_countWords_49 : decode b_Automaton_countWords 49 = .ok (.ireturn, 1) := by decide +kernel
theorem d_Automaton_lowestCost_0 : decode b_Automaton_lowestCost 0 = .ok (.aload_n 0, 1) := by decide +kernel
theorem d_Automaton_lowestCost_1 : decode b_Automaton_lowestCost 1 = .ok (.iload_n 1, 1) := by decide +kernel
theorem d_Automaton_lowestCost_2 : decode b_Automaton_lowestCost 2 = .ok (.invokevirtual 74, 3) := by decide +kernel
theorem d_Automaton_lowestCost_5 : decode b_Automaton_lowestCost 5 = .ok (.istore_n 3, 1) := by decide +kernel
theorem d_Automaton_lowestCost_6 : decode b_Automaton_lowestCost 6 = .ok (.iconst 1, 1) := by decide +kernel
theorem d_Automaton_lowestCost_7 : decode b_Automaton_lowestCost 7 = .ok (.istore 4, 2) := by decide +kernel
theorem d_Automaton_lowestCost_9 : decode b_Automaton_lowestCost 9 = .ok (.iload 4, 2) := by decide +kernel
theorem d_Automaton_lowestCost_11 : decode b_Automaton_lowestCost 11 = .ok (.iload_n 2, 1) := by decide +kernel
theorem d_Automaton_lowestCost_12 : decode b_Automaton_lowestCost 12 = .ok (.if_icmp .ge 22, 3) := by decide +kernel
theorem d_Automaton_lowestCost_15 : decode b_Automaton_lowestCost 15 = .ok (.iload_n 3, 1) := by decide +kernel
theorem d_Automaton_lowestCost_16 : decode b_Automaton_lowestCost 16 = .ok (.aload_n 0, 1) := by decide +kernel
theorem d_Automaton_lowestCost_17 : decode b_Automaton_lowestCost 17 = .ok (.iload_n 1, 1) := by decide +kernel
theorem d_Automaton_lowestCost_18 : decode b_Automaton_lowestCost 18 = .ok (.iload 4, 2) := by decide +kernel
theorem d_Automaton_lowestCost_20 : decode b_Automaton_lowestCost 20 = .ok (.iadd, 1) := by decide +kernel
theorem d_Automaton_lowestCost_21 : decode b_Automaton_lowestCost 21 = .ok (.invokevirtual 74, 3) := by decide +kernel
theorem d_Automaton_lowestCost_24 : decode b_Automaton_lowestCost 24 = .ok (.invokestatic 78, 3) := by decide +kernel
theorem d_Automaton_lowestCost_27 : decode b_Automaton_lowestCost 27 = .ok (.istore_n 3, 1) := by decide +kernel
theorem d_Automaton_lowestCost_28 : decode b_Automaton_lowestCost 28 = .ok (.iinc 4 1, 3) := by decide +kernel
theorem d_Automaton_lowestCost_31 : decode b_Automaton_lowestCost 31 = .ok (.goto (-22), 3) := by decide +kernel
theorem d_Automaton_lowestCost_34 : decode b_Automaton_lowestCost 34 = .ok (.iload_n 3, 1) := by decide +kernel
theorem d_Automaton_lowestCost_35 : decode b_Automaton_lowestCost 35 = .ok (.ireturn, 1) := by decide +kernel
theorem d_Automaton_behaveTheSame_0 : decode b_Automaton_behaveTheSame 0 = .ok (.aload_n 0, 1) := by decide +kernel
theorem d_Automaton_behaveTheSame_1 : decode b_Automaton_behaveTheSame 1 = .ok (.getfield 15, 3) := by decide +kernel
theorem d_Automaton_behaveTheSame_4 : decode b_Automaton_behaveTheSame 4 = .ok (.iload_n 2, 1) := by decide +kernel
theorem d_Automaton_behaveTheSame_5 : decode b_Automaton_behaveTheSame 5 = .ok (.iaload, 1) := by decide +kernel
theorem d_Automaton_behaveTheSame_6 : decode b_Automaton_behaveTheSame 6 = .ok (.aload_n 0, 1) := by decide +kernel
theorem d_Automaton_behaveTheSame_7 : decode b_Automaton_behaveTheSame 7 = .ok (.getfield 15, 3) := by decide +kernel
theorem d_Automaton_behaveTheSame_10 : decode b_Automaton_behaveTheSame 10 = .ok (.iload_n 3, 1) := by decide +kernel
theorem d_Automaton_behaveTheSame_11 : decode b_Automaton_behaveTheSame 11 = .ok (.iaload, 1) := by decide +kernel
theorem d_Automaton_behaveTheSame_12 : decode b_Automaton_behaveTheSame 12 = .ok (.if_icmp .eq 5, 3) := by decide +kernel
theorem d_Automaton_behaveTheSame_15 : decode b_Automaton_behaveTheSame 15 = .ok (.iconst 0, 1) := by decide +kernel
theorem d_Automaton_behaveTheSame_16 : decode b_Automaton_behaveTheSame 16 = .ok (.ireturn, 1) := by decide +kernel
theorem d_Automaton_behaveTheSame_17 : decode b_Automaton_behaveTheSame 17 = .ok (.iconst 0, 1) := by decide +kernel
theorem d_Automaton_behaveTheSame_18 : decode b_Automaton_behaveTheSame 18 = .ok (.istore 4, 2) := by decide +kernel
theorem d_Automaton_behaveTheSame_20 : decode b_Automaton_behaveTheSame 20 = .ok (.iload 4, 2) := by decide +kernel
theorem d_Automaton_behaveTheSame_22 : decode b_Automaton_behaveTheSame 22 = .ok (.aload_n 0, 1) := by decide +kernel
theorem d_Automaton_behaveTheSame_23 : decode b_Automaton_behaveTheSame 23 = .ok (.getfield 15, 3) := by decide +kernel
theorem d_Automaton_behaveTheSame_26 : decode b_Automaton_behaveTheSame 26 = .ok (.iload_n 2, 1) := by decide +kernel
theorem d_Automaton_behaveTheSame_27 : decode b_Automaton_behaveTheSame 27 = .ok (.iaload, 1) := by decide +kernel
theorem d_Automaton_behaveTheSame_28 : decode b_Automaton_behaveTheSame 28 = .ok (.if_icmp .ge 50, 3) := by decide +kernel
theorem d_Automaton_behaveTheSame_31 : decode b_Automaton_behaveTheSame 31 = .ok (.aload_n 0, 1) := by decide +kernel
theorem d_Automaton_behaveTheSame_32 : decode b_Automaton_behaveTheSame 32 = .ok (.aload_n 1, 1) := by decide +kernel
theorem d_Automaton_behaveTheSame_33 : decode b_Automaton_behaveTheSame 33 = .ok (.iload_n 2, 1) := by decide +kernel
theorem d_Automaton_behaveTheSame_34 : decode b_Automaton_behaveTheSame 34 = .ok (.iload 4, 2) := by decide +kernel
theorem d_Automaton_behaveTheSame_36 : decode b_Automaton_behaveTheSame 36 = .ok (.invokevirtual 84, 3) := by decide +kernel
theorem d_Automaton_behaveTheSame_39 : decode b_Automaton_behaveTheSame 39 = .ok (.aload_n 0, 1) := by decide +kernel
theorem d_Automaton_behaveTheSame_40 : decode b_Automaton_behaveTheSame 40 = .ok (.aload_n 1, 1) := by decide +kernel
theorem d_Automaton_behaveTheSame_41 : decode b_Automaton_behaveTheSame 41 = .ok (.iload_n 3, 1) := by decide +kernel
theorem d_Automaton_behaveTheSame_42 : decode b_Automaton_behaveTheSame 42 = .ok (.iload 4, 2) := by decide +kernel
theorem d_Automaton_behaveTheSame_44 : decode b_Automaton_behaveTheSame 44 = .ok (.invokevirtual 84, 3) := by decide +kernel
theorem d_Automaton_behaveTheSame_47 : decode b_Automaton_behaveTheSame 47 = .ok (.lcmp, 1) := by decide +kernel
theorem d_Automaton_behaveTheSame_48 : decode b_Automaton_behaveTheSame 48 = .ok (.ifCond .ne 22, 3) := by decide +kernel
theorem d_Automaton_behaveTheSame_51 : decode b_Automaton_behaveTheSame 51 = .ok (.aload_n 0, 1) := by decide +kernel
theorem d_Automaton_behaveTheSame_52 : decode b_Automaton_behaveTheSame 52 = .ok (.aload_n 1, 1) := by decide +kernel
theorem d_Automaton_behaveTheSame_53 : decode b_Automaton_behaveTheSame 53 = .ok (.iload_n 2, 1) := by decide +kernel
theorem d_Automaton_behaveTheSame_54 : decode b_Automaton_behaveTheSame 54 = .ok (.iload 4, 2) := by decide +kernel
theorem d_Automaton_behaveTheSame_56 : decode b_Automaton_behaveTheSame 56 = .ok (.invokevirtual 88, 3) := by decide +kernel
theorem d_Automaton_behaveTheSame_59 : decode b_Automaton_behaveTheSame 59 = .ok (.aload_n 0, 1) := by decide +kernel
theorem d_Automaton_behaveTheSame_60 : decode b_Automaton_behaveTheSame 60 = .ok (.aload_n 1, 1) := by decide +kernel
theorem d_Automaton_behaveTheSame_61 : decode b_Automaton_behaveTheSame 61 = .ok (.iload_n 3, 1) := by decide +kernel
theorem d_Automaton_behaveTheSame_62 : decode b_Automaton_behaveTheSame 62 = .ok (.iload 4, 2) := by decide +kernel
theorem d_Automaton_behaveTheSame_64 : decode b_Automaton_behaveTheSame 64 = .ok (.invokevirtual 88, 3) := by decide +kernel
theorem d_Automaton_behaveTheSame_67 : decode b_Automaton_behaveTheSame 67 = .ok (.if_icmp .eq 5, 3) := by decide +kernel
theorem d_Automaton_behaveTheSame_70 : decode b_Automaton_behaveTheSame 70 = .ok (.iconst 0, 1) := by decide +kernel
theorem d_Automaton_behaveTheSame_71 : decode b_Automaton_behaveTheSame 71 = .ok (.ireturn, 1) := by decide +kernel
theorem d_Automaton_behaveTheSame_72 : decode b_Automaton_behaveTheSame 72 = .ok (.iinc 4 1, 3) := by decide +kernel
theorem d_Automaton_behaveTheSame_75 : decode b_Automaton_behaveTheSame 75 = .ok (.goto (-55), 3) := by decide +kernel
theorem d_Automaton_behaveTheSame_78 : decode b_Automaton_behaveTheSame 78 = .ok (.iconst 1, 1) := by decide +kernel
theorem d_Automaton_behaveTheSame_79 : decode b_Automaton_behaveTheSame 79 = .ok (.ireturn, 1) := by decide +kernel
theorem d_Automaton_countArcs_0 : decode b_Automaton_countArcs 0 = .ok (.iconst 0, 1) := by decide +kernel
theorem d_Automaton_countArcs_1 : decode b_Automaton_countArcs 1 = .ok (.istore_n 3, 1) := by decide +kernel
theorem d_Automaton_countArcs_2 : decode b_Automaton_countArcs 2 = .ok (.iconst 0, 1) := by decide +kernel
theorem d_Automaton_countArcs_3 : decode b_Automaton_countArcs 3 = .ok (.istore 4, 2) := by decide +kernel
theorem d_Automaton_countArcs_5 : decode b_Automaton_countArcs 5 = .ok (.iconst 0, 1) := by decide +kernel
theorem d_Automaton_countArcs_6 : decode b_Automaton_countArcs 6 = .ok (.istore 5, 2) := by decide +kernel
theorem d_Automaton_countArcs_8 : decode b_Automaton_countArcs 8 = .ok (.iload 5, 2) := by decide +kernel
theorem d_Automaton_countArcs_10 : decode b_Automaton_countArcs 10 = .ok (.aload_n 0, 1) := by decide +kernel
theorem d_Automaton_countArcs_11 : decode b_Automaton_countArcs 11 = .ok (.getfield 15, 3) := by decide +kernel
theorem d_Automaton_countArcs_14 : decode b_Automaton_countArcs 14 = .ok (.iload_n 2, 1) := by decide +kernel
theorem d_Automaton_countArcs_15 : decode b_Automaton_countArcs 15 = .ok (.iaload, 1) := by decide +kernel
theorem d_Automaton_countArcs_16 : decode b_Automaton_countArcs 16 = .ok (.if_icmp .ge 37, 3) := by decide +kernel
theorem d_Automaton_countArcs_19 : decode b_Automaton_countArcs 19 = .ok (.aload_n 0, 1) := by decide +kernel
theorem d_Automaton_countArcs_20 : decode b_Automaton_countArcs 20 = .ok (.aload_n 1, 1) := by decide +kernel
theorem d_Automaton_countArcs_21 : decode b_Automaton_countArcs 21 = .ok (.iload_n 2, 1) := by decide +kernel
theorem d_Automaton_countArcs_22 : decode b_Automaton_countArcs 22 = .ok (.iload 5, 2) := by decide +kernel
theorem d_Automaton_countArcs_24 : decode b_Automaton_countArcs 24 = .ok (.invokevirtual 84, 3) := by decide +kernel
theorem d_Automaton_countArcs_27 : decode b_Automaton_countArcs 27 = .ok (.iconst 0, 1) := by decide +kernel
theorem d_Automaton_countArcs_28 : decode b_Automaton_countArcs 28 = .ok (.invokestatic 91, 3) := by decide +kernel
theorem d_Automaton_countArcs_31 : decode b_Automaton_countArcs 31 = .ok (.istore 6, 2) := by decide +kernel
theorem d_Automaton_countArcs_33 : decode b_Automaton_countArcs 33 = .ok (.iload 6, 2) := by decide +kernel
theorem d_Automaton_countArcs_35 : decode b_Automaton_countArcs 35 = .ok (.iload 4, 2) := by decide +kernel
theorem d_Automaton_countArcs_37 : decode b_Automaton_countArcs 37 = .ok (.if_icmp .eq 10, 3) := by decide +kernel
theorem d_Automaton_countArcs_40 : decode b_Automaton_countArcs 40 = .ok (.iinc 3 1, 3) := by decide +kernel
theorem d_Automaton_countArcs_43 : decode b_Automaton_countArcs 43 = .ok (.iload 6, 2) := by decide +kernel
theorem d_Automaton_countArcs_45 : decode b_Automaton_countArcs 45 = .ok (.istore 4, 2) := by decide +kernel
theorem d_Automaton_countArcs_47 : decode b_Automaton_countArcs 47 = .ok (.iinc 5 1, 3) := by decide +kernel
theorem d_Automaton_countArcs_50 : decode b_Automaton_countArcs 50 = .ok (.goto (-42), 3) := by decide +kernel
theorem d_Automaton_countArcs_53 : decode b_Automaton_countArcs 53 = .ok (.iload_n 3, 1) := by decide +kernel
theorem d_Automaton_countArcs_54 : decode b_Automaton_countArcs 54 = .ok (.ireturn, 1) := by decide +kernel
theorem d_Automaton_endingAt_0 : decode b_Automaton_endingAt 0 = .ok (.aload_n 1, 1) := by decide +kernel
theorem d_Automaton_endingAt_1 : decode b_Automaton_endingAt 1 = .ok (.aload_n 0, 1) := by decide +kernel
theorem d_Automaton_endingAt_2 : decode b_Automaton_endingAt 2 = .ok (.getfield 11, 3) := by decide +kernel
theorem d_Automaton_endingAt_5 : decode b_Automaton_endingAt 5 = .ok (.iload_n 2, 1) := by decide +kernel
theorem d_Automaton_endingAt_6 : decode b_Automaton_endingAt 6 = .ok (.iaload, 1) := by decide +kernel
theorem d_Automaton_endingAt_7 : decode b_Automaton_endingAt 7 = .ok (.iload_n 3, 1) := by decide +kernel
theorem d_Automaton_endingAt_8 : decode b_Automaton_endingAt 8 = .ok (.iadd, 1) := by decide +kernel
theorem d_Automaton_endingAt_9 : decode b_Automaton_endingAt 9 = .ok (.invokevirtual 37, 3) := by decide +kernel
theorem d_Automaton_endingAt_12 : decode b_Automaton_endingAt 12 = .ok (.aload_n 0, 1) := by decide +kernel
theorem d_Automaton_endingAt_13 : decode b_Automaton_endingAt 13 = .ok (.getfield 18, 3) := by decide +kernel
theorem d_Automaton_endingAt_16 : decode b_Automaton_endingAt 16 = .ok (.iload_n 2, 1) := by decide +kernel
theorem d_Automaton_endingAt_17 : decode b_Automaton_endingAt 17 = .ok (.iaload, 1) := by decide +kernel
theorem d_Automaton_endingAt_18 : decode b_Automaton_endingAt 18 = .ok (.invokestatic 95, 3) := by decide +kernel
theorem d_Automaton_endingAt_21 : decode b_Automaton_endingAt 21 = .ok (.lreturn, 1) := by decide +kernel
theorem d_Automaton_costAbove_0 : decode b_Automaton_costAbove 0 = .ok (.aload_n 1, 1) := by decide +kernel
theorem d_Automaton_costAbove_1 : decode b_Automaton_costAbove 1 = .ok (.aload_n 0, 1) := by decide +kernel
theorem d_Automaton_costAbove_2 : decode b_Automaton_costAbove 2 = .ok (.getfield 11, 3) := by decide +kernel
theorem d_Automaton_costAbove_5 : decode b_Automaton_costAbove 5 = .ok (.iload_n 2, 1) := by decide +kernel
theorem d_Automaton_costAbove_6 : decode b_Automaton_costAbove 6 = .ok (.iaload, 1) := by decide +kernel
theorem d_Automaton_costAbove_7 : decode b_Automaton_costAbove 7 = .ok (.iload_n 3, 1) := by decide +kernel
theorem d_Automaton_costAbove_8 : decode b_Automaton_costAbove 8 = .ok (.iadd, 1) := by decide +kernel
theorem d_Automaton_costAbove_9 : decode b_Automaton_costAbove 9 = .ok (.invokevirtual 74, 3) := by decide +kernel
theorem d_Automaton_costAbove_12 : decode b_Automaton_costAbove 12 = .ok (.aload_n 0, 1) := by decide +kernel
theorem d_Automaton_costAbove_13 : decode b_Automaton_costAbove 13 = .ok (.getfield 21, 3) := by decide +kernel
theorem d_Automaton_costAbove_16 : decode b_Automaton_costAbove 16 = .ok (.iload_n 2, 1) := by decide +kernel
theorem d_Automaton_costAbove_17 : decode b_Automaton_costAbove 17 = .ok (.iaload, 1) := by decide +kernel
theorem d_Automaton_costAbove_18 : decode b_Automaton_costAbove 18 = .ok (.isub, 1) := by decide +kernel
theorem d_Automaton_costAbove_19 : decode b_Automaton_costAbove 19 = .ok (.ireturn, 1) := by decide +kernel
theorem d_S_init_0 : decode b_S_init 0 = .ok (.aload_n 0, 1) := by decide +kernel
theorem d_S_init_1 : decode b_S_init 1 = .ok (.invokespecial 1, 3) := by decide +kernel
theorem d_S_init_4 : decode b_S_init 4 = .ok (.aload_n 0, 1) := by decide +kernel
theorem d_S_init_5 : decode b_S_init 5 = .ok (.new 7, 3) := by decide +kernel
theorem d_S_init_8 : decode b_S_init 8 = .ok (.dup, 1) := by decide +kernel
theorem d_S_init_9 : decode b_S_init 9 = .ok (.invokespecial 9, 3) := by decide +kernel
theorem d_S_init_12 : decode b_S_init 12 = .ok (.putfield 10, 3) := by decide +kernel
theorem d_S_init_15 : decode b_S_init 15 = .ok (.aload_n 0, 1) := by decide +kernel
theorem d_S_init_16 : decode b_S_init 16 = .ok (.iconst 3, 1) := by decide +kernel
theorem d_S_init_17 : decode b_S_init 17 = .ok (.anewarray 16, 3) := by decide +kernel
theorem d_S_init_20 : decode b_S_init 20 = .ok (.putfield 18, 3) := by decide +kernel
theorem d_S_init_23 : decode b_S_init 23 = .ok (.iconst 0, 1) := by decide +kernel
theorem d_S_init_24 : decode b_S_init 24 = .ok (.istore_n 1, 1) := by decide +kernel
theorem d_S_init_25 : decode b_S_init 25 = .ok (.iload_n 1, 1) := by decide +kernel
theorem d_S_init_26 : decode b_S_init 26 = .ok (.iconst 3, 1) := by decide +kernel
theorem d_S_init_27 : decode b_S_init 27 = .ok (.if_icmp .ge 22, 3) := by decide +kernel
theorem d_S_init_30 : decode b_S_init 30 = .ok (.aload_n 0, 1) := by decide +kernel
theorem d_S_init_31 : decode b_S_init 31 = .ok (.getfield 18, 3) := by decide +kernel
theorem d_S_init_34 : decode b_S_init 34 = .ok (.iload_n 1, 1) := by decide +kernel
theorem d_S_init_35 : decode b_S_init 35 = .ok (.new 16, 3) := by decide +kernel
theorem d_S_init_38 : decode b_S_init 38 = .ok (.dup, 1) := by decide +kernel
theorem d_S_init_39 : decode b_S_init 39 = .ok (.invokespecial 22, 3) := by decide +kernel
theorem d_S_init_42 : decode b_S_init 42 = .ok (.aastore, 1) := by decide +kernel
theorem d_S_init_43 : decode b_S_init 43 = .ok (.iinc 1 1, 3) := by decide +kernel
theorem d_S_init_46 : decode b_S_init 46 = .ok (.goto (-21), 3) := by decide +kernel
theorem d_S_init_49 : decode b_S_init 49 = .ok (.aload_n 0, 1) := by decide +kernel
theorem d_S_init_50 : decode b_S_init 50 = .ok (.new 23, 3) := by decide +kernel
theorem d_S_init_53 : decode b_S_init 53 = .ok (.dup, 1) := by decide +kernel
theorem d_S_init_54 : decode b_S_init 54 = .ok (.invokespecial 25, 3) := by decide +kernel
theorem d_S_init_57 : decode b_S_init 57 = .ok (.putfield 26, 3) := by decide +kernel
theorem d_S_init_60 : decode b_S_init 60 = .ok (.aload_n 0, 1) := by decide +kernel
theorem d_S_init_61 : decode b_S_init 61 = .ok (.new 30, 3) := by decide +kernel
theorem d_S_init_64 : decode b_S_init 64 = .ok (.dup, 1) := by decide +kernel
theorem d_S_init_65 : decode b_S_init 65 = .ok (.invokespecial 32, 3) := by decide +kernel
theorem d_S_init_68 : decode b_S_init 68 = .ok (.putfield 33, 3) := by decide +kernel
theorem d_S_init_71 : decode b_S_init 71 = .ok (.aload_n 0, 1) := by decide +kernel
theorem d_S_init_72 : decode b_S_init 72 = .ok (.new 37, 3) := by decide +kernel
theorem d_S_init_75 : decode b_S_init 75 = .ok (.dup, 1) := by decide +kernel
theorem d_S_init_76 : decode b_S_init 76 = .ok (.invokespecial 39, 3) := by decide +kernel
theorem d_S_init_79 : decode b_S_init 79 = .ok (.putfield 40, 3) := by decide +kernel
theorem d_S_init_82 : decode b_S_init 82 = .ok (.aload_n 0, 1) := by decide +kernel
theorem d_S_init_83 : decode b_S_init 83 = .ok (.new 44, 3) := by decide +kernel
theorem d_S_init_86 : decode b_S_init 86 = .ok (.dup, 1) := by decide +kernel
theorem d_S_init_87 : decode b_S_init 87 = .ok (.invokespecial 46, 3) := by decide +kernel
theorem d_S_init_90 : decode b_S_init 90 = .ok (.putfield 47, 3) := by decide +kernel
theorem d_S_init_93 : decode b_S_init 93 = .ok (.aload_n 0, 1) := by decide +kernel
theorem d_S_init_94 : decode b_S_init 94 = .ok (.new 51, 3) := by decide +kernel
theorem d_S_init_97 : decode b_S_init 97 = .ok (.dup, 1) := by decide +kernel
theorem d_S_init_98 : decode b_S_init 98 = .ok (.invokespecial 53, 3) := by decide +kernel
theorem d_S_init_101 : decode b_S_init 101 = .ok (.putfield 54, 3) := by decide +kernel
theorem d_S_init_104 : decode b_S_init 104 = .ok (.aload_n 0, 1) := by decide +kernel
theorem d_S_init_105 : decode b_S_init 105 = .ok (.iconst 0, 1) := by decide +kernel
theorem d_S_init_106 : decode b_S_init 106 = .ok (.putfield 58, 3) := by decide +kernel
theorem d_S_init_109 : decode b_S_init 109 = .ok (.return_, 1) := by decide +kernel
theorem d_S_word_0 : decode b_S_word 0 = .ok (.lload_n 1, 1) := by decide +kernel
theorem d_S_word_1 : decode b_S_word 1 = .ok (.invokestatic 62, 3) := by decide +kernel
theorem d_S_word_4 : decode b_S_word 4 = .ok (.ifCond .ne 13, 3) := by decide +kernel
theorem d_S_word_7 : decode b_S_word 7 = .ok (.new 68, 3) := by decide +kernel
theorem d_S_word_10 : decode b_S_word 10 = .ok (.dup, 1) := by decide +kernel
theorem d_S_word_11 : decode b_S_word 11 = .ok (.ldc 70, 2) := by decide +kernel
theorem d_S_word_13 : decode b_S_word 13 = .ok (.invokespecial 72, 3) := by decide +kernel
theorem d_S_word_16 : decode b_S_word 16 = .ok (.athrow, 1) := by decide +kernel
theorem d_S_word_17 : decode b_S_word 17 = .ok (.iload_n 3, 1) := by decide +kernel
theorem d_S_word_18 : decode b_S_word 18 = .ok (.ifCond .lt 10, 3) := by decide +kernel
theorem d_S_word_21 : decode b_S_word 21 = .ok (.iload_n 3, 1) := by decide +kernel
theorem d_S_word_22 : decode b_S_word 22 = .ok (.sipush 9999, 3) := by decide +kernel
theorem d_S_word_25 : decode b_S_word 25 = .ok (.if_icmp .le 13, 3) := by decide +kernel
theorem d_S_word_28 : decode b_S_word 28 = .ok (.new 68, 3) := by decide +kernel
theorem d_S_word_31 : decode b_S_word 31 = .ok (.dup, 1) := by decide +kernel
theorem d_S_word_32 : decode b_S_word 32 = .ok (.ldc 75, 2) := by decide +kernel
theorem d_S_word_34 : decode b_S_word 34 = .ok (.invokespecial 72, 3) := by decide +kernel
theorem d_S_word_37 : decode b_S_word 37 = .ok (.athrow, 1) := by decide +kernel
theorem d_S_word_38 : decode b_S_word 38 = .ok (.aload_n 0, 1) := by decide +kernel
theorem d_S_word_39 : decode b_S_word 39 = .ok (.getfield 10, 3) := by decide +kernel
theorem d_S_word_42 : decode b_S_word 42 = .ok (.lload_n 1, 1) := by decide +kernel
theorem d_S_word_43 : decode b_S_word 43 = .ok (.invokestatic 77, 3) := by decide +kernel
theorem d_S_word_46 : decode b_S_word 46 = .ok (.sipush 9999, 3) := by decide +kernel
theorem d_S_word_49 : decode b_S_word 49 = .ok (.iload_n 3, 1) := by decide +kernel
theorem d_S_word_50 : decode b_S_word 50 = .ok (.isub, 1) := by decide +kernel
theorem d_S_word_51 : decode b_S_word 51 = .ok (.invokevirtual 81, 3) := by decide +kernel
theorem d_S_word_54 : decode b_S_word 54 = .ok (.ifCond .ne 13, 3) := by decide +kernel
theorem d_S_word_57 : decode b_S_word 57 = .ok (.new 85, 3) := by decide +kernel
theorem d_S_word_60 : decode b_S_word 60 = .ok (.dup, 1) := by decide +kernel
theorem d_S_word_61 : decode b_S_word 61 = .ok (.ldc 87, 2) := by decide +kernel
theorem d_S_word_63 : decode b_S_word 63 = .ok (.invokespecial 89, 3) := by decide +kernel
theorem d_S_word_66 : decode b_S_word 66 = .ok (.athrow, 1) := by decide +kernel
theorem d_S_word_67 : decode b_S_word 67 = .ok (.aload_n 0, 1) := by decide +kernel
theorem d_S_word_68 : decode b_S_word 68 = .ok (.getfield 10, 3) := by decide +kernel
theorem d_S_word_71 : decode b_S_word 71 = .ok (.invokevirtual 90, 3) := by decide +kernel
theorem d_S_word_74 : decode b_S_word 74 = .ok (.ireturn, 1) := by decide +kernel
theorem d_S_drop_0 : decode b_S_drop 0 = .ok (.lload_n 1, 1) := by decide +kernel
theorem d_S_drop_1 : decode b_S_drop 1 = .ok (.invokestatic 62, 3) := by decide +kernel
theorem d_S_drop_4 : decode b_S_drop 4 = .ok (.ifCond .eq 21, 3) := by decide +kernel
theorem d_S_drop_7 : decode b_S_drop 7 = .ok (.aload_n 0, 1) := by decide +kernel
theorem d_S_drop_8 : decode b_S_drop 8 = .ok (.getfield 10, 3) := by decide +kernel
theorem d_S_drop_11 : decode b_S_drop 11 = .ok (.lload_n 1, 1) := by decide +kernel
theorem d_S_drop_12 : decode b_S_drop 12 = .ok (.invokestatic 77, 3) := by decide +kernel
theorem d_S_drop_15 : decode b_S_drop 15 = .ok (.invokevirtual 94, 3) := by decide +kernel
theorem d_S_drop_18 : decode b_S_drop 18 = .ok (.ifCond .eq 7, 3) := by decide +kernel
theorem d_S_drop_21 : decode b_S_drop 21 = .ok (.iconst 1, 1) := by decide +kernel
theorem d_S_drop_22 : decode b_S_drop 22 = .ok (.goto 4, 3) := by decide +kernel
theorem d_S_drop_25 : decode b_S_drop 25 = .ok (.iconst 0, 1) := by decide +kernel
theorem d_S_drop_26 : decode b_S_drop 26 = .ok (.ireturn, 1) := by decide +kernel
theorem d_S_build_0 : decode b_S_build 0 = .ok (.aload_n 0, 1) := by decide +kernel
theorem d_S_build_1 : decode b_S_build 1 = .ok (.getfield 10, 3) := by decide +kernel
theorem d_S_build_4 : decode b_S_build 4 = .ok (.invokevirtual 90, 3) := by decide +kernel
theorem d_S_build_7 : decode b_S_build 7 = .ok (.ifCond .ne 13, 3) := by decide +kernel
theorem d_S_build_10 : decode b_S_build 10 = .ok (.new 85, 3) := by decide +kernel
theorem d_S_build_13 : decode b_S_build 13 = .ok (.dup, 1) := by decide +kernel
theorem d_S_build_14 : decode b_S_build 14 = .ok (.ldc 97, 2) := by decide +kernel
theorem d_S_build_16 : decode b_S_build 16 = .ok (.invokespecial 89, 3) := by decide +kernel
theorem d_S_build_19 : decode b_S_build 19 = .ok (.athrow, 1) := by decide +kernel
theorem d_S_build_20 : decode b_S_build 20 = .ok (.aload_n 0, 1) := by decide +kernel
theorem d_S_build_21 : decode b_S_build 21 = .ok (.invokevirtual 99, 3) := by decide +kernel
theorem d_S_build_24 : decode b_S_build 24 = .ok (.astore_n 1, 1) := by decide +kernel
theorem d_S_build_25 : decode b_S_build 25 = .ok (.aload_n 1, 1) := by decide +kernel
theorem d_S_build_26 : decode b_S_build 26 = .ok (.ifnonnull 13, 3) := by decide +kernel
theorem d_S_build_29 : decode b_S_build 29 = .ok (.new 85, 3) := by decide +kernel
theorem d_S_build_32 : decode b_S_build 32 = .ok (.dup, 1) := by decide +kernel
theorem d_S_build_33 : decode b_S_build 33 = .ok (.ldc 103, 2) := by decide +kernel
theorem d_S_build_35 : decode b_S_build 35 = .ok (.invokespecial 89, 3) := by decide +kernel
theorem d_S_build_38 : decode b_S_build 38 = .ok (.athrow, 1) := by decide +kernel
theorem d_S_build_39 : decode b_S_build 39 = .ok (.aload_n 0, 1) := by decide +kernel
theorem d_S_build_40 : decode b_S_build 40 = .ok (.dup, 1) := by decide +kernel
theorem d_S_build_41 : decode b_S_build 41 = .ok (.getfield 58, 3) := by decide +kernel
theorem d_S_build_44 : decode b_S_build 44 = .ok (.iconst 1, 1) := by decide +kernel
theorem d_S_build_45 : decode b_S_build 45 = .ok (.iadd, 1) := by decide +kernel
theorem d_S_build_46 : decode b_S_build 46 = .ok (.putfield 58, 3) := by decide +kernel
theorem d_S_build_49 : decode b_S_build 49 = .ok (.aload_n 0, 1) := by decide +kernel
theorem d_S_build_50 : decode b_S_build 50 = .ok (.getfield 26, 3) := by decide +kernel
theorem d_S_build_53 : decode b_S_build 53 = .ok (.aload_n 0, 1) := by decide +kernel
theorem d_S_build_54 : decode b_S_build 54 = .ok (.getfield 10, 3) := by decide +kernel
theorem d_S_build_57 : decode b_S_build 57 = .ok (.invokevirtual 105, 3) := by decide +kernel
theorem d_S_build_60 : decode b_S_build 60 = .ok (.aload_n 1, 1) := by decide +kernel
theorem d_S_build_61 : decode b_S_build 61 = .ok (.aload_n 0, 1) := by decide +kernel
theorem d_S_build_62 : decode b_S_build 62 = .ok (.getfield 58, 3) := by decide +kernel
theorem d_S_build_65 : decode b_S_build 65 = .ok (.aload_n 0, 1) := by decide +kernel
theorem d_S_build_66 : decode b_S_build 66 = .ok (.getfield 10, 3) := by decide +kernel
theorem d_S_build_69 : decode b_S_build 69 = .ok (.aload_n 0, 1) := by decide +kernel
theorem d_S_build_70 : decode b_S_build 70 = .ok (.getfield 26, 3) := by decide +kernel
theorem d_S_build_73 : decode b_S_build 73 = .ok (.invokevirtual 109, 3) := by decide +kernel
theorem d_S_build_76 : decode b_S_build 76 = .ok (.aload_n 0, 1) := by decide +kernel
theorem d_S_build_77 : decode b_S_build 77 = .ok (.getfield 26, 3) := by decide +kernel
theorem d_S_build_80 : decode b_S_build 80 = .ok (.invokevirtual 112, 3) := by decide +kernel
theorem d_S_build_83 : decode b_S_build 83 = .ok (.invokevirtual 115, 3) := by decide +kernel
theorem d_S_build_86 : decode b_S_build 86 = .ok (.aload_n 0, 1) := by decide +kernel
theorem d_S_build_87 : decode b_S_build 87 = .ok (.getfield 58, 3) := by decide +kernel
theorem d_S_build_90 : decode b_S_build 90 = .ok (.ireturn, 1) := by decide +kernel
theorem d_S_hold_0 : decode b_S_hold 0 = .ok (.aload_n 0, 1) := by decide +kernel
theorem d_S_hold_1 : decode b_S_hold 1 = .ok (.aload_n 0, 1) := by decide +kernel
theorem d_S_hold_2 : decode b_S_hold 2 = .ok (.getfield 58, 3) := by decide +kernel
theorem d_S_hold_5 : decode b_S_hold 5 = .ok (.invokevirtual 119, 3) := by decide +kernel
theorem d_S_hold_8 : decode b_S_hold 8 = .ok (.astore_n 1, 1) := by decide +kernel
theorem d_S_hold_9 : decode b_S_hold 9 = .ok (.aload_n 1, 1) := by decide +kernel
theorem d_S_hold_10 : decode b_S_hold 10 = .ok (.ifnonnull 13, 3) := by decide +kernel
theorem d_S_hold_13 : decode b_S_hold 13 = .ok (.new 85, 3) := by decide +kernel
theorem d_S_hold_16 : decode b_S_hold 16 = .ok (.dup, 1) := by decide +kernel
theorem d_S_hold_17 : decode b_S_hold 17 = .ok (.ldc 123, 2) := by decide +kernel
theorem d_S_hold_19 : decode b_S_hold 19 = .ok (.invokespecial 89, 3) := by decide +kernel
theorem d_S_hold_22 : decode b_S_hold 22 = .ok (.athrow, 1) := by decide +kernel
theorem d_S_hold_23 : decode b_S_hold 23 = .ok (.aload_n 1, 1) := by decide +kernel
theorem d_S_hold_24 : decode b_S_hold 24 = .ok (.invokevirtual 125, 3) := by decide +kernel
theorem d_S_hold_27 : decode b_S_hold 27 = .ok (.bipush 9, 2) := by decide +kernel
theorem d_S_hold_29 : decode b_S_hold 29 = .ok (.if_icmp .lt 13, 3) := by decide +kernel
theorem d_S_hold_32 : decode b_S_hold 32 = .ok (.new 85, 3) := by decide +kernel
theorem d_S_hold_35 : decode b_S_hold 35 = .ok (.dup, 1) := by decide +kernel
theorem d_S_hold_36 : decode b_S_hold 36 = .ok (.ldc 128, 2) := by decide +kernel
theorem d_S_hold_38 : decode b_S_hold 38 = .ok (.invokespecial 89, 3) := by decide +kernel
theorem d_S_hold_41 : decode b_S_hold 41 = .ok (.athrow, 1) := by decide +kernel
theorem d_S_hold_42 : decode b_S_hold 42 = .ok (.aload_n 1, 1) := by decide +kernel
theorem d_S_hold_43 : decode b_S_hold 43 = .ok (.invokevirtual 130, 3) := by decide +kernel
theorem d_S_hold_46 : decode b_S_hold 46 = .ok (.aload_n 0, 1) := by decide +kernel
theorem d_S_hold_47 : decode b_S_hold 47 = .ok (.getfield 58, 3) := by decide +kernel
theorem d_S_hold_50 : decode b_S_hold 50 = .ok (.ireturn, 1) := by decide +kernel
theorem d_S_release_0 : decode b_S_release 0 = .ok (.aload_n 0, 1) := by decide +kernel
theorem d_S_release_1 : decode b_S_release 1 = .ok (.iload_n 1, 1) := by decide +kernel
theorem d_S_release_2 : decode b_S_release 2 = .ok (.invokevirtual 119, 3) := by decide +kernel
theorem d_S_release_5 : decode b_S_release 5 = .ok (.astore_n 2, 1) := by decide +kernel
theorem d_S_release_6 : decode b_S_release 6 = .ok (.aload_n 2, 1) := by decide +kernel
theorem d_S_release_7 : decode b_S_release 7 = .ok (.ifnull 10, 3) := by decide +kernel
theorem d_S_release_10 : decode b_S_release 10 = .ok (.aload_n 2, 1) := by decide +kernel
theorem d_S_release_11 : decode b_S_release 11 = .ok (.invokevirtual 125, 3) := by decide +kernel
theorem d_S_release_14 : decode b_S_release 14 = .ok (.ifCond .ne 13, 3) := by decide +kernel
theorem d_S_release_17 : decode b_S_release 17 = .ok (.new 68, 3) := by decide +kernel
theorem d_S_release_20 : decode b_S_release 20 = .ok (.dup, 1) := by decide +kernel
theorem d_S_release_21 : decode b_S_release 21 = .ok (.ldc 133, 2) := by decide +kernel
theorem d_S_release_23 : decode b_S_release 23 = .ok (.invokespecial 72, 3) := by decide +kernel
theorem d_S_release_26 : decode b_S_release 26 = .ok (.athrow, 1) := by decide +kernel
theorem d_S_release_27 : decode b_S_release 27 = .ok (.aload_n 2, 1) := by decide +kernel
theorem d_S_release_28 : decode b_S_release 28 = .ok (.invokevirtual 135, 3) := by decide +kernel
theorem d_S_release_31 : decode b_S_release 31 = .ok (.aload_n 2, 1) := by decide +kernel
theorem d_S_release_32 : decode b_S_release 32 = .ok (.invokevirtual 125, 3) := by decide +kernel
theorem d_S_release_35 : decode b_S_release 35 = .ok (.ifCond .ne 15, 3) := by decide +kernel
theorem d_S_release_38 : decode b_S_release 38 = .ok (.iload_n 1, 1) := by decide +kernel
theorem d_S_release_39 : decode b_S_release 39 = .ok (.aload_n 0, 1) := by decide +kernel
theorem d_S_release_40 : decode b_S_release 40 = .ok (.getfield 58, 3) := by decide +kernel
theorem d_S_release_43 : decode b_S_release 43 = .ok (.if_icmp .eq 7, 3) := by decide +kernel
theorem d_S_release_46 : decode b_S_release 46 = .ok (.aload_n 2, 1) := by decide +kernel
theorem d_S_release_47 : decode b_S_release 47 = .ok (.invokevirtual 138, 3) := by decide +kernel
theorem d_S_release_50 : decode b_S_release 50 = .ok (.aload_n 2, 1) := by decide +kernel
theorem d_S_release_51 : decode b_S_release 51 = .ok (.invokevirtual 141, 3) := by decide +kernel
theorem d_S_release_54 : decode b_S_release 54 = .ok (.ireturn, 1) := by decide +kernel
theorem d_S_look_0 : decode b_S_look 0 = .ok (.aload_n 0, 1) := by decide +kernel
theorem d_S_look_1 : decode b_S_look 1 = .ok (.iload_n 1, 1) := by decide +kernel
theorem d_S_look_2 : decode b_S_look 2 = .ok (.invokevirtual 119, 3) := by decide +kernel
theorem d_S_look_5 : decode b_S_look 5 = .ok (.astore_n 3, 1) := by decide +kernel
theorem d_S_look_6 : decode b_S_look 6 = .ok (.aload_n 3, 1) := by decide +kernel
theorem d_S_look_7 : decode b_S_look 7 = .ok (.ifnonnull 13, 3) := by decide +kernel
theorem d_S_look_10 : decode b_S_look 10 = .ok (.new 145, 3) := by decide +kernel
theorem d_S_look_13 : decode b_S_look 13 = .ok (.dup, 1) := by decide +kernel
theorem d_S_look_14 : decode b_S_look 14 = .ok (.ldc 147, 2) := by decide +kernel
theorem d_S_look_16 : decode b_S_look 16 = .ok (.invokespecial 149, 3) := by decide +kernel
theorem d_S_look_19 : decode b_S_look 19 = .ok (.athrow, 1) := by decide +kernel
theorem d_S_look_20 : decode b_S_look 20 = .ok (.iload_n 2, 1) := by decide +kernel
theorem d_S_look_21 : decode b_S_look 21 = .ok (.tableswitch 54 0 3 #[31, 39, 44, 49], 31) := by decide +kernel
theorem d_S_look_52 : decode b_S_look 52 = .ok (.aload_n 3, 1) := by decide +kernel
theorem d_S_look_53 : decode b_S_look 53 = .ok (.invokevirtual 150, 3) := by decide +kernel
theorem d_S_look_56 : decode b_S_look 56 = .ok (.invokevirtual 90, 3) := by decide +kernel
theorem d_S_look_59 : decode b_S_look 59 = .ok (.ireturn, 1) := by decide +kernel
theorem d_S_look_60 : decode b_S_look 60 = .ok (.aload_n 3, 1) := by decide +kernel
theorem d_S_look_61 : decode b_S_look 61 = .ok (.invokevirtual 154, 3) := by decide +kernel
theorem d_S_look_64 : decode b_S_look 64 = .ok (.ireturn, 1) := by decide +kernel
theorem d_S_look_65 : decode b_S_look 65 = .ok (.aload_n 3, 1) := by decide +kernel
theorem d_S_look_66 : decode b_S_look 66 = .ok (.invokevirtual 155, 3) := by decide +kernel
theorem d_S_look_69 : decode b_S_look 69 = .ok (.ireturn, 1) := by decide +kernel
theorem d_S_look_70 : decode b_S_look 70 = .ok (.aload_n 3, 1) := by decide +kernel
theorem d_S_look_71 : decode b_S_look 71 = .ok (.invokevirtual 125, 3) := by decide +kernel
theorem d_S_look_74 : decode b_S_look 74 = .ok (.ireturn, 1) := by decide +kernel
theorem d_S_look_75 : decode b_S_look 75 = .ok (.new 68, 3) := by decide +kernel
theorem d_S_look_78 : decode b_S_look 78 = .ok (.dup, 1) := by decide +kernel
theorem d_S_look_79 : decode b_S_look 79 = .ok (.ldc 156, 2) := by decide +kernel
theorem d_S_look_81 : decode b_S_look 81 = .ok (.invokespecial 72, 3) := by decide +kernel
theorem d_S_look_84 : decode b_S_look 84 = .ok (.athrow, 1) := by decide +kernel
theorem d_S_cost_0 : decode b_S_cost 0 = .ok (.aload_n 0, 1) := by decide +kernel
theorem d_S_cost_1 : decode b_S_cost 1 = .ok (.iload_n 1, 1) := by decide +kernel
theorem d_S_cost_2 : decode b_S_cost 2 = .ok (.invokevirtual 119, 3) := by decide +kernel
theorem d_S_cost_5 : decode b_S_cost 5 = .ok (.astore 4, 2) := by decide +kernel
theorem d_S_cost_7 : decode b_S_cost 7 = .ok (.aload 4, 2) := by decide +kernel
theorem d_S_cost_9 : decode b_S_cost 9 = .ok (.ifnonnull 13, 3) := by decide +kernel
theorem d_S_cost_12 : decode b_S_cost 12 = .ok (.new 145, 3) := by decide +kernel
theorem d_S_cost_15 : decode b_S_cost 15 = .ok (.dup, 1) := by decide +kernel
theorem d_S_cost_16 : decode b_S_cost 16 = .ok (.ldc 147, 2) := by decide +kernel
theorem d_S_cost_18 : decode b_S_cost 18 = .ok (.invokespecial 149, 3) := by decide +kernel
theorem d_S_cost_21 : decode b_S_cost 21 = .ok (.athrow, 1) := by decide +kernel
theorem d_S_cost_22 : decode b_S_cost 22 = .ok (.lload_n 2, 1) := by decide +kernel
theorem d_S_cost_23 : decode b_S_cost 23 = .ok (.invokestatic 62, 3) := by decide +kernel
theorem d_S_cost_26 : decode b_S_cost 26 = .ok (.ifCond .eq 18, 3) := by decide +kernel
theorem d_S_cost_29 : decode b_S_cost 29 = .ok (.aload 4, 2) := by decide +kernel
theorem d_S_cost_31 : decode b_S_cost 31 = .ok (.invokevirtual 150, 3) := by decide +kernel
theorem d_S_cost_34 : decode b_S_cost 34 = .ok (.lload_n 2, 1) := by decide +kernel
theorem d_S_cost_35 : decode b_S_cost 35 = .ok (.invokestatic 77, 3) := by decide +kernel
theorem d_S_cost_38 : decode b_S_cost 38 = .ok (.invokevirtual 158, 3) := by decide +kernel
theorem d_S_cost_41 : decode b_S_cost 41 = .ok (.goto 4, 3) := by decide +kernel
theorem d_S_cost_44 : decode b_S_cost 44 = .ok (.iconst (-1), 1) := by decide +kernel
theorem d_S_cost_45 : decode b_S_cost 45 = .ok (.istore 5, 2) := by decide +kernel
theorem d_S_cost_47 : decode b_S_cost 47 = .ok (.iload 5, 2) := by decide +kernel
theorem d_S_cost_49 : decode b_S_cost 49 = .ok (.ifCond .ge 13, 3) := by decide +kernel
theorem d_S_cost_52 : decode b_S_cost 52 = .ok (.new 145, 3) := by decide +kernel
theorem d_S_cost_55 : decode b_S_cost 55 = .ok (.dup, 1) := by decide +kernel
theorem d_S_cost_56 : decode b_S_cost 56 = .ok (.ldc 162, 2) := by decide +kernel
theorem d_S_cost_58 : decode b_S_cost 58 = .ok (.invokespecial 149, 3) := by decide +kernel
theorem d_S_cost_61 : decode b_S_cost 61 = .ok (.athrow, 1) := by decide +kernel
theorem d_S_cost_62 : decode b_S_cost 62 = .ok (.aload 4, 2) := by decide +kernel
theorem d_S_cost_64 : decode b_S_cost 64 = .ok (.invokevirtual 150, 3) := by decide +kernel
theorem d_S_cost_67 : decode b_S_cost 67 = .ok (.iload 5, 2) := by decide +kernel
theorem d_S_cost_69 : decode b_S_cost 69 = .ok (.invokevirtual 164, 3) := by decide +kernel
theorem d_S_cost_72 : decode b_S_cost 72 = .ok (.ireturn, 1) := by decide +kernel
theorem d_S_complete_0 : decode b_S_complete 0 = .ok (.aload_n 0, 1) := by decide +kernel
theorem d_S_complete_1 : decode b_S_complete 1 = .ok (.getfield 40, 3) := by decide +kernel
theorem d_S_complete_4 : decode b_S_complete 4 = .ok (.iconst 0, 1) := by decide +kernel
theorem d_S_complete_5 : decode b_S_complete 5 = .ok (.invokevirtual 168, 3) := by decide +kernel
theorem d_S_complete_8 : decode b_S_complete 8 = .ok (.lload_n 2, 1) := by decide +kernel
theorem d_S_complete_9 : decode b_S_complete 9 = .ok (.invokestatic 172, 3) := by decide +kernel
theorem d_S_complete_12 : decode b_S_complete 12 = .ok (.ifCond .ne 13, 3) := by decide +kernel
theorem d_S_complete_15 : decode b_S_complete 15 = .ok (.new 68, 3) := by decide +kernel
theorem d_S_complete_18 : decode b_S_complete 18 = .ok (.dup, 1) := by decide +kernel
theorem d_S_complete_19 : decode b_S_complete 19 = .ok (.ldc 175, 2) := by decide +kernel
theorem d_S_complete_21 : decode b_S_complete 21 = .ok (.invokespecial 72, 3) := by decide +kernel
theorem d_S_complete_24 : decode b_S_complete 24 = .ok (.athrow, 1) := by decide +kernel
theorem d_S_complete_25 : decode b_S_complete 25 = .ok (.iload 4, 2) := by decide +kernel
theorem d_S_complete_27 : decode b_S_complete 27 = .ok (.ifCond .lt 10, 3) := by decide +kernel
theorem d_S_complete_30 : decode b_S_complete 30 = .ok (.iload 4, 2) := by decide +kernel
theorem d_S_complete_32 : decode b_S_complete 32 = .ok (.bipush 24, 2) := by decide +kernel
theorem d_S_complete_34 : decode b_S_complete 34 = .ok (.if_icmp .le 13, 3) := by decide +kernel
theorem d_S_complete_37 : decode b_S_complete 37 = .ok (.new 68, 3) := by decide +kernel
theorem d_S_complete_40 : decode b_S_complete 40 = .ok (.dup, 1) := by decide +kernel
theorem d_S_complete_41 : decode b_S_complete 41 = .ok (.ldc 177, 2) := by decide +kernel
theorem d_S_complete_43 : decode b_S_complete 43 = .ok (.invokespecial 72, 3) := by decide +kernel
theorem d_S_complete_46 : decode b_S_complete 46 = .ok (.athrow, 1) := by decide +kernel
theorem d_S_complete_47 : decode b_S_complete 47 = .ok (.aload_n 0, 1) := by decide +kernel
theorem d_S_complete_48 : decode b_S_complete 48 = .ok (.iload_n 1, 1) := by decide +kernel
theorem d_S_complete_49 : decode b_S_complete 49 = .ok (.invokevirtual 119, 3) := by decide +kernel
theorem d_S_complete_52 : decode b_S_complete 52 = .ok (.astore 5, 2) := by decide +kernel
theorem d_S_complete_54 : decode b_S_complete 54 = .ok (.aload 5, 2) := by decide +kernel
theorem d_S_complete_56 : decode b_S_complete 56 = .ok (.ifnonnull 13, 3) := by decide +kernel
theorem d_S_complete_59 : decode b_S_complete 59 = .ok (.new 145, 3) := by decide +kernel
theorem d_S_complete_62 : decode b_S_complete 62 = .ok (.dup, 1) := by decide +kernel
theorem d_S_complete_63 : decode b_S_complete 63 = .ok (.ldc 147, 2) := by decide +kernel
theorem d_S_complete_65 : decode b_S_complete 65 = .ok (.invokespecial 149, 3) := by decide +kernel
theorem d_S_complete_68 : decode b_S_complete 68 = .ok (.athrow, 1) := by decide +kernel
theorem d_S_complete_69 : decode b_S_complete 69 = .ok (.aload_n 0, 1) := by decide +kernel
theorem d_S_complete_70 : decode b_S_complete 70 = .ok (.getfield 40, 3) := by decide +kernel
theorem d_S_complete_73 : decode b_S_complete 73 = .ok (.iload 4, 2) := by decide +kernel
theorem d_S_complete_75 : decode b_S_complete 75 = .ok (.invokevirtual 168, 3) := by decide +kernel
theorem d_S_complete_78 : decode b_S_complete 78 = .ok (.aload_n 0, 1) := by decide +kernel
theorem d_S_complete_79 : decode b_S_complete 79 = .ok (.getfield 40, 3) := by decide +kernel
theorem d_S_complete_82 : decode b_S_complete 82 = .ok (.aload 5, 2) := by decide +kernel
theorem d_S_complete_84 : decode b_S_complete 84 = .ok (.invokevirtual 150, 3) := by decide +kernel
theorem d_S_complete_87 : decode b_S_complete 87 = .ok (.lload_n 2, 1) := by decide +kernel
theorem d_S_complete_88 : decode b_S_complete 88 = .ok (.invokestatic 77, 3) := by decide +kernel
theorem d_S_complete_91 : decode b_S_complete 91 = .ok (.invokevirtual 179, 3) := by decide +kernel
theorem d_S_complete_94 : decode b_S_complete 94 = .ok (.aload_n 0, 1) := by decide +kernel
theorem d_S_complete_95 : decode b_S_complete 95 = .ok (.getfield 40, 3) := by decide +kernel
theorem d_S_complete_98 : decode b_S_complete 98 = .ok (.invokevirtual 183, 3) := by decide +kernel
theorem d_S_complete_101 : decode b_S_complete 101 = .ok (.ireturn, 1) := by decide +kernel
theorem d_S_near_0 : decode b_S_near 0 = .ok (.aload_n 0, 1) := by decide +kernel
theorem d_S_near_1 : decode b_S_near 1 = .ok (.getfield 40, 3) := by decide +kernel
theorem d_S_near_4 : decode b_S_near 4 = .ok (.iconst 0, 1) := by decide +kernel
theorem d_S_near_5 : decode b_S_near 5 = .ok (.invokevirtual 168, 3) := by decide +kernel
theorem d_S_near_8 : decode b_S_near 8 = .ok (.lload_n 2, 1) := by decide +kernel
theorem d_S_near_9 : decode b_S_near 9 = .ok (.invokestatic 62, 3) := by decide +kernel
theorem d_S_near_12 : decode b_S_near 12 = .ok (.ifCond .ne 13, 3) := by decide +kernel
theorem d_S_near_15 : decode b_S_near 15 = .ok (.new 68, 3) := by decide +kernel
theorem d_S_near_18 : decode b_S_near 18 = .ok (.dup, 1) := by decide +kernel
theorem d_S_near_19 : decode b_S_near 19 = .ok (.ldc 70, 2) := by decide +kernel
theorem d_S_near_21 : decode b_S_near 21 = .ok (.invokespecial 72, 3) := by decide +kernel
theorem d_S_near_24 : decode b_S_near 24 = .ok (.athrow, 1) := by decide +kernel
theorem d_S_near_25 : decode b_S_near 25 = .ok (.iload 4, 2) := by decide +kernel
theorem d_S_near_27 : decode b_S_near 27 = .ok (.ifCond .lt 9, 3) := by decide +kernel
theorem d_S_near_30 : decode b_S_near 30 = .ok (.iload 4, 2) := by decide +kernel
theorem d_S_near_32 : decode b_S_near 32 = .ok (.iconst 2, 1) := by decide +kernel
theorem d_S_near_33 : decode b_S_near 33 = .ok (.if_icmp .le 13, 3) := by decide +kernel
theorem d_S_near_36 : decode b_S_near 36 = .ok (.new 68, 3) := by decide +kernel
theorem d_S_near_39 : decode b_S_near 39 = .ok (.dup, 1) := by decide +kernel
theorem d_S_near_40 : decode b_S_near 40 = .ok (.ldc 184, 2) := by decide +kernel
theorem d_S_near_42 : decode b_S_near 42 = .ok (.invokespecial 72, 3) := by decide +kernel
theorem d_S_near_45 : decode b_S_near 45 = .ok (.athrow, 1) := by decide +kernel
theorem d_S_near_46 : decode b_S_near 46 = .ok (.aload_n 0, 1) := by decide +kernel
theorem d_S_near_47 : decode b_S_near 47 = .ok (.iload_n 1, 1) := by decide +kernel
theorem d_S_near_48 : decode b_S_near 48 = .ok (.invokevirtual 119, 3) := by decide +kernel
theorem d_S_near_51 : decode b_S_near 51 = .ok (.astore 5, 2) := by decide +kernel
theorem d_S_near_53 : decode b_S_near 53 = .ok (.aload 5, 2) := by decide +kernel
theorem d_S_near_55 : decode b_S_near 55 = .ok (.ifnonnull 13, 3) := by decide +kernel
theorem d_S_near_58 : decode b_S_near 58 = .ok (.new 145, 3) := by decide +kernel
theorem d_S_near_61 : decode b_S_near 61 = .ok (.dup, 1) := by decide +kernel
theorem d_S_near_62 : decode b_S_near 62 = .ok (.ldc 147, 2) := by decide +kernel
theorem d_S_near_64 : decode b_S_near 64 = .ok (.invokespecial 149, 3) := by decide +kernel
theorem d_S_near_67 : decode b_S_near 67 = .ok (.athrow, 1) := by decide +kernel
theorem d_S_near_68 : decode b_S_near 68 = .ok (.aload_n 0, 1) := by decide +kernel
theorem d_S_near_69 : decode b_S_near 69 = .ok (.getfield 40, 3) := by decide +kernel
theorem d_S_near_72 : decode b_S_near 72 = .ok (.bipush 24, 2) := by decide +kernel
theorem d_S_near_74 : decode b_S_near 74 = .ok (.invokevirtual 168, 3) := by decide +kernel
theorem d_S_near_77 : decode b_S_near 77 = .ok (.aload_n 0, 1) := by decide +kernel
theorem d_S_near_78 : decode b_S_near 78 = .ok (.getfield 40, 3) := by decide +kernel
theorem d_S_near_81 : decode b_S_near 81 = .ok (.aload 5, 2) := by decide +kernel
theorem d_S_near_83 : decode b_S_near 83 = .ok (.invokevirtual 150, 3) := by decide +kernel
theorem d_S_near_86 : decode b_S_near 86 = .ok (.lload_n 2, 1) := by decide +kernel
theorem d_S_near_87 : decode b_S_near 87 = .ok (.invokestatic 77, 3) := by decide +kernel
theorem d_S_near_90 : decode b_S_near 90 = .ok (.iload 4, 2) := by decide +kernel
theorem d_S_near_92 : decode b_S_near 92 = .ok (.aload_n 0, 1) := by decide +kernel
theorem d_S_near_93 : decode b_S_near 93 = .ok (.getfield 33, 3) := by decide +kernel
theorem d_S_near_96 : decode b_S_near 96 = .ok (.invokevirtual 186, 3) := by decide +kernel
theorem d_S_near_99 : decode b_S_near 99 = .ok (.aload_n 0, 1) := by decide +kernel
theorem d_S_near_100 : decode b_S_near 100 = .ok (.getfield 40, 3) := by decide +kernel
theorem d_S_near_103 : decode b_S_near 103 = .ok (.invokevirtual 183, 3) := by decide +kernel
theorem d_S_near_106 : decode b_S_near 106 = .ok (.ireturn, 1) := by decide +kernel
theorem d_S_given_0 : decode b_S_given 0 = .ok (.iload_n 1, 1) := by decide +kernel
theorem d_S_given_1 : decode b_S_given 1 = .ok (.ifCond .lt 14, 3) := by decide +kernel
theorem d_S_given_4 : decode b_S_given 4 = .ok (.iload_n 1, 1) := by decide +kernel
theorem d_S_given_5 : decode b_S_given 5 = .ok (.aload_n 0, 1) := by decide +kernel
theorem d_S_given_6 : decode b_S_given 6 = .ok (.getfield 40, 3) := by decide +kernel
theorem d_S_given_9 : decode b_S_given 9 = .ok (.invokevirtual 183, 3) := by decide +kernel
theorem d_S_given_12 : decode b_S_given 12 = .ok (.if_icmp .lt 13, 3) := by decide +kernel
theorem d_S_given_15 : decode b_S_given 15 = .ok (.new 190, 3) := by decide +kernel
theorem d_S_given_18 : decode b_S_given 18 = .ok (.dup, 1) := by decide +kernel
theorem d_S_given_19 : decode b_S_given 19 = .ok (.ldc 192, 2) := by decide +kernel
theorem d_S_given_21 : decode b_S_given 21 = .ok (.invokespecial 194, 3) := by decide +kernel
theorem d_S_given_24 : decode b_S_given 24 = .ok (.athrow, 1) := by decide +kernel
theorem d_S_given_25 : decode b_S_given 25 = .ok (.aload_n 0, 1) := by decide +kernel
theorem d_S_given_26 : decode b_S_given 26 = .ok (.getfield 40, 3) := by decide +kernel
theorem d_S_given_29 : decode b_S_given 29 = .ok (.iload_n 1, 1) := by decide +kernel
theorem d_S_given_30 : decode b_S_given 30 = .ok (.invokevirtual 195, 3) := by decide +kernel
theorem d_S_given_33 : decode b_S_given 33 = .ok (.invokestatic 199, 3) := by decide +kernel
theorem d_S_given_36 : decode b_S_given 36 = .ok (.lreturn, 1) := by decide +kernel
theorem d_S_distance_0 : decode b_S_distance 0 = .ok (.lload_n 1, 1) := by decide +kernel
theorem d_S_distance_1 : decode b_S_distance 1 = .ok (.invokestatic 62, 3) := by decide +kernel
theorem d_S_distance_4 : decode b_S_distance 4 = .ok (.ifCond .eq 10, 3) := by decide +kernel
theorem d_S_distance_7 : decode b_S_distance 7 = .ok (.lload_n 3, 1) := by decide +kernel
theorem d_S_distance_8 : decode b_S_distance 8 = .ok (.invokestatic 62, 3) := by decide +kernel
theorem d_S_distance_11 : decode b_S_distance 11 = .ok (.ifCond .ne 13, 3) := by decide +kernel
theorem d_S_distance_14 : decode b_S_distance 14 = .ok (.new 68, 3) := by decide +kernel
theorem d_S_distance_17 : decode b_S_distance 17 = .ok (.dup, 1) := by decide +kernel
theorem d_S_distance_18 : decode b_S_distance 18 = .ok (.ldc 70, 2) := by decide +kernel
theorem d_S_distance_20 : decode b_S_distance 20 = .ok (.invokespecial 72, 3) := by decide +kernel
