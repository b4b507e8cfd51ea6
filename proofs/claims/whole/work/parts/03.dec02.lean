theorem d_Phrase_choose_100 : decode b_Phrase_choose 100 = .ok (.getfield 35, 3) := by decide +kernel
theorem d_Phrase_choose_103 : decode b_Phrase_choose 103 = .ok (.putfield 39, 3) := by decide +kernel
theorem d_Phrase_choose_106 : decode b_Phrase_choose 106 = .ok (.aload_n 0, 1) := by decide +kernel
theorem d_Phrase_choose_107 : decode b_Phrase_choose 107 = .ok (.getfield 25, 3) := by decide +kernel
theorem d_Phrase_choose_110 : decode b_Phrase_choose 110 = .ok (.iconst 0, 1) := by decide +kernel
theorem d_Phrase_choose_111 : decode b_Phrase_choose 111 = .ok (.aaload, 1) := by decide +kernel
theorem d_Phrase_choose_112 : decode b_Phrase_choose 112 = .ok (.iload_n 1, 1) := by decide +kernel
theorem d_Phrase_choose_113 : decode b_Phrase_choose 113 = .ok (.iaload, 1) := by decide +kernel
theorem d_Phrase_choose_114 : decode b_Phrase_choose 114 = .ok (.ireturn, 1) := by decide +kernel
theorem d_Ruler_init_0 : decode b_Ruler_init 0 = .ok (.aload_n 0, 1) := by decide +kernel
theorem d_Ruler_init_1 : decode b_Ruler_init 1 = .ok (.invokespecial 3, 3) := by decide +kernel
theorem d_Ruler_init_4 : decode b_Ruler_init 4 = .ok (.aload_n 0, 1) := by decide +kernel
theorem d_Ruler_init_5 : decode b_Ruler_init 5 = .ok (.bipush 9, 2) := by decide +kernel
theorem d_Ruler_init_7 : decode b_Ruler_init 7 = .ok (.bipush 9, 2) := by decide +kernel
theorem d_Ruler_init_9 : decode b_Ruler_init 9 = .ok (.multianewarray 9 2, 4) := by decide +kernel
theorem d_Ruler_init_13 : decode b_Ruler_init 13 = .ok (.putfield 11, 3) := by decide +kernel
theorem d_Ruler_init_16 : decode b_Ruler_init 16 = .ok (.iconst 0, 1) := by decide +kernel
theorem d_Ruler_init_17 : decode b_Ruler_init 17 = .ok (.istore_n 1, 1) := by decide +kernel
theorem d_Ruler_init_18 : decode b_Ruler_init 18 = .ok (.iload_n 1, 1) := by decide +kernel
theorem d_Ruler_init_19 : decode b_Ruler_init 19 = .ok (.bipush 8, 2) := by decide +kernel
theorem d_Ruler_init_21 : decode b_Ruler_init 21 = .ok (.if_icmp .gt 27, 3) := by decide +kernel
theorem d_Ruler_init_24 : decode b_Ruler_init 24 = .ok (.aload_n 0, 1) := by decide +kernel
theorem d_Ruler_init_25 : decode b_Ruler_init 25 = .ok (.getfield 11, 3) := by decide +kernel
theorem d_Ruler_init_28 : decode b_Ruler_init 28 = .ok (.iload_n 1, 1) := by decide +kernel
theorem d_Ruler_init_29 : decode b_Ruler_init 29 = .ok (.aaload, 1) := by decide +kernel
theorem d_Ruler_init_30 : decode b_Ruler_init 30 = .ok (.iconst 0, 1) := by decide +kernel
theorem d_Ruler_init_31 : decode b_Ruler_init 31 = .ok (.iload_n 1, 1) := by decide +kernel
theorem d_Ruler_init_32 : decode b_Ruler_init 32 = .ok (.iastore, 1) := by decide +kernel
theorem d_Ruler_init_33 : decode b_Ruler_init 33 = .ok (.aload_n 0, 1) := by decide +kernel
theorem d_Ruler_init_34 : decode b_Ruler_init 34 = .ok (.getfield 11, 3) := by decide +kernel
theorem d_Ruler_init_37 : decode b_Ruler_init 37 = .ok (.iconst 0, 1) := by decide +kernel
theorem d_Ruler_init_38 : decode b_Ruler_init 38 = .ok (.aaload, 1) := by decide +kernel
theorem d_Ruler_init_39 : decode b_Ruler_init 39 = .ok (.iload_n 1, 1) := by decide +kernel
theorem d_Ruler_init_40 : decode b_Ruler_init 40 = .ok (.iload_n 1, 1) := by decide +kernel
theorem d_Ruler_init_41 : decode b_Ruler_init 41 = .ok (.iastore, 1) := by decide +kernel
theorem d_Ruler_init_42 : decode b_Ruler_init 42 = .ok (.iinc 1 1, 3) := by decide +kernel
theorem d_Ruler_init_45 : decode b_Ruler_init 45 = .ok (.goto (-27), 3) := by decide +kernel
theorem d_Ruler_init_48 : decode b_Ruler_init 48 = .ok (.return_, 1) := by decide +kernel
theorem d_Ruler_between_0 : decode b_Ruler_between 0 = .ok (.lload_n 1, 1) := by decide +kernel
theorem d_Ruler_between_1 : decode b_Ruler_between 1 = .ok (.invokestatic 16, 3) := by decide +kernel
theorem d_Ruler_between_4 : decode b_Ruler_between 4 = .ok (.istore 5, 2) := by decide +kernel
theorem d_Ruler_between_6 : decode b_Ruler_between 6 = .ok (.lload_n 3, 1) := by decide +kernel
theorem d_Ruler_between_7 : decode b_Ruler_between 7 = .ok (.invokestatic 16, 3) := by decide +kernel
theorem d_Ruler_between_10 : decode b_Ruler_between 10 = .ok (.istore 6, 2) := by decide +kernel
theorem d_Ruler_between_12 : decode b_Ruler_between 12 = .ok (.iconst 1, 1) := by decide +kernel
theorem d_Ruler_between_13 : decode b_Ruler_between 13 = .ok (.istore 7, 2) := by decide +kernel
theorem d_Ruler_between_15 : decode b_Ruler_between 15 = .ok (.iload 7, 2) := by decide +kernel
theorem d_Ruler_between_17 : decode b_Ruler_between 17 = .ok (.iload 5, 2) := by decide +kernel
theorem d_Ruler_between_19 : decode b_Ruler_between 19 = .ok (.if_icmp .gt 45, 3) := by decide +kernel
theorem d_Ruler_between_22 : decode b_Ruler_between 22 = .ok (.iconst 1, 1) := by decide +kernel
theorem d_Ruler_between_23 : decode b_Ruler_between 23 = .ok (.istore 8, 2) := by decide +kernel
theorem d_Ruler_between_25 : decode b_Ruler_between 25 = .ok (.iload 8, 2) := by decide +kernel
theorem d_Ruler_between_27 : decode b_Ruler_between 27 = .ok (.iload 6, 2) := by decide +kernel
theorem d_Ruler_between_29 : decode b_Ruler_between 29 = .ok (.if_icmp .gt 29, 3) := by decide +kernel
theorem d_Ruler_between_32 : decode b_Ruler_between 32 = .ok (.aload_n 0, 1) := by decide +kernel
theorem d_Ruler_between_33 : decode b_Ruler_between 33 = .ok (.getfield 11, 3) := by decide +kernel
theorem d_Ruler_between_36 : decode b_Ruler_between 36 = .ok (.iload 7, 2) := by decide +kernel
theorem d_Ruler_between_38 : decode b_Ruler_between 38 = .ok (.aaload, 1) := by decide +kernel
theorem d_Ruler_between_39 : decode b_Ruler_between 39 = .ok (.iload 8, 2) := by decide +kernel
theorem d_Ruler_between_41 : decode b_Ruler_between 41 = .ok (.aload_n 0, 1) := by decide +kernel
theorem d_Ruler_between_42 : decode b_Ruler_between 42 = .ok (.lload_n 1, 1) := by decide +kernel
theorem d_Ruler_between_43 : decode b_Ruler_between 43 = .ok (.lload_n 3, 1) := by decide +kernel
theorem d_Ruler_between_44 : decode b_Ruler_between 44 = .ok (.iload 7, 2) := by decide +kernel
theorem d_Ruler_between_46 : decode b_Ruler_between 46 = .ok (.iload 8, 2) := by decide +kernel
theorem d_Ruler_between_48 : decode b_Ruler_between 48 = .ok (.invokevirtual 22, 3) := by decide +kernel
theorem d_Ruler_between_51 : decode b_Ruler_between 51 = .ok (.iastore, 1) := by decide +kernel
theorem d_Ruler_between_52 : decode b_Ruler_between 52 = .ok (.iinc 8 1, 3) := by decide +kernel
theorem d_Ruler_between_55 : decode b_Ruler_between 55 = .ok (.goto (-30), 3) := by decide +kernel
theorem d_Ruler_between_58 : decode b_Ruler_between 58 = .ok (.iinc 7 1, 3) := by decide +kernel
theorem d_Ruler_between_61 : decode b_Ruler_between 61 = .ok (.goto (-46), 3) := by decide +kernel
theorem d_Ruler_between_64 : decode b_Ruler_between 64 = .ok (.aload_n 0, 1) := by decide +kernel
theorem d_Ruler_between_65 : decode b_Ruler_between 65 = .ok (.getfield 11, 3) := by decide +kernel
theorem d_Ruler_between_68 : decode b_Ruler_between 68 = .ok (.iload 5, 2) := by decide +kernel
theorem d_Ruler_between_70 : decode b_Ruler_between 70 = .ok (.aaload, 1) := by decide +kernel
theorem d_Ruler_between_71 : decode b_Ruler_between 71 = .ok (.iload 6, 2) := by decide +kernel
theorem d_Ruler_between_73 : decode b_Ruler_between 73 = .ok (.iaload, 1) := by decide +kernel
theorem d_Ruler_between_74 : decode b_Ruler_between 74 = .ok (.ireturn, 1) := by decide +kernel
theorem d_Ruler_leastChanges_0 : decode b_Ruler_leastChanges 0 = .ok (.lload_n 1, 1) := by decide +kernel
theorem d_Ruler_leastChanges_1 : decode b_Ruler_leastChanges 1 = .ok (.iload 5, 2) := by decide +kernel
theorem d_Ruler_leastChanges_3 : decode b_Ruler_leastChanges 3 = .ok (.iconst 1, 1) := by decide +kernel
theorem d_Ruler_leastChanges_4 : decode b_Ruler_leastChanges 4 = .ok (.isub, 1) := by decide +kernel
theorem d_Ruler_leastChanges_5 : decode b_Ruler_leastChanges 5 = .ok (.invokestatic 26, 3) := by decide +kernel
theorem d_Ruler_leastChanges_8 : decode b_Ruler_leastChanges 8 = .ok (.istore 7, 2) := by decide +kernel
theorem d_Ruler_leastChanges_10 : decode b_Ruler_leastChanges 10 = .ok (.lload_n 3, 1) := by decide +kernel
theorem d_Ruler_leastChanges_11 : decode b_Ruler_leastChanges 11 = .ok (.iload 6, 2) := by decide +kernel
theorem d_Ruler_leastChanges_13 : decode b_Ruler_leastChanges 13 = .ok (.iconst 1, 1) := by decide +kernel
theorem d_Ruler_leastChanges_14 : decode b_Ruler_leastChanges 14 = .ok (.isub, 1) := by decide +kernel
theorem d_Ruler_leastChanges_15 : decode b_Ruler_leastChanges 15 = .ok (.invokestatic 26, 3) := by decide +kernel
theorem d_Ruler_leastChanges_18 : decode b_Ruler_leastChanges 18 = .ok (.istore 8, 2) := by decide +kernel
theorem d_Ruler_leastChanges_20 : decode b_Ruler_leastChanges 20 = .ok (.aload_n 0, 1) := by decide +kernel
theorem d_Ruler_leastChanges_21 : decode b_Ruler_leastChanges 21 = .ok (.getfield 11, 3) := by decide +kernel
theorem d_Ruler_leastChanges_24 : decode b_Ruler_leastChanges 24 = .ok (.iload 5, 2) := by decide +kernel
theorem d_Ruler_leastChanges_26 : decode b_Ruler_leastChanges 26 = .ok (.iconst 1, 1) := by decide +kernel
theorem d_Ruler_leastChanges_27 : decode b_Ruler_leastChanges 27 = .ok (.isub, 1) := by decide +kernel
theorem d_Ruler_leastChanges_28 : decode b_Ruler_leastChanges 28 = .ok (.aaload, 1) := by decide +kernel
theorem d_Ruler_leastChanges_29 : decode b_Ruler_leastChanges 29 = .ok (.iload 6, 2) := by decide +kernel
theorem d_Ruler_leastChanges_31 : decode b_Ruler_leastChanges 31 = .ok (.iconst 1, 1) := by decide +kernel
theorem d_Ruler_leastChanges_32 : decode b_Ruler_leastChanges 32 = .ok (.isub, 1) := by decide +kernel
theorem d_Ruler_leastChanges_33 : decode b_Ruler_leastChanges 33 = .ok (.iaload, 1) := by decide +kernel
theorem d_Ruler_leastChanges_34 : decode b_Ruler_leastChanges 34 = .ok (.iload 7, 2) := by decide +kernel
theorem d_Ruler_leastChanges_36 : decode b_Ruler_leastChanges 36 = .ok (.iload 8, 2) := by decide +kernel
theorem d_Ruler_leastChanges_38 : decode b_Ruler_leastChanges 38 = .ok (.if_icmp .ne 7, 3) := by decide +kernel
theorem d_Ruler_leastChanges_41 : decode b_Ruler_leastChanges 41 = .ok (.iconst 0, 1) := by decide +kernel
theorem d_Ruler_leastChanges_42 : decode b_Ruler_leastChanges 42 = .ok (.goto 4, 3) := by decide +kernel
theorem d_Ruler_leastChanges_45 : decode b_Ruler_leastChanges 45 = .ok (.iconst 1, 1) := by decide +kernel
theorem d_Ruler_leastChanges_46 : decode b_Ruler_leastChanges 46 = .ok (.iadd, 1) := by decide +kernel
theorem d_Ruler_leastChanges_47 : decode b_Ruler_leastChanges 47 = .ok (.istore 9, 2) := by decide +kernel
theorem d_Ruler_leastChanges_49 : decode b_Ruler_leastChanges 49 = .ok (.iload 9, 2) := by decide +kernel
theorem d_Ruler_leastChanges_51 : decode b_Ruler_leastChanges 51 = .ok (.aload_n 0, 1) := by decide +kernel
theorem d_Ruler_leastChanges_52 : decode b_Ruler_leastChanges 52 = .ok (.getfield 11, 3) := by decide +kernel
theorem d_Ruler_leastChanges_55 : decode b_Ruler_leastChanges 55 = .ok (.iload 5, 2) := by decide +kernel
theorem d_Ruler_leastChanges_57 : decode b_Ruler_leastChanges 57 = .ok (.iconst 1, 1) := by decide +kernel
theorem d_Ruler_leastChanges_58 : decode b_Ruler_leastChanges 58 = .ok (.isub, 1) := by decide +kernel
theorem d_Ruler_leastChanges_59 : decode b_Ruler_leastChanges 59 = .ok (.aaload, 1) := by decide +kernel
theorem d_Ruler_leastChanges_60 : decode b_Ruler_leastChanges 60 = .ok (.iload 6, 2) := by decide +kernel
theorem d_Ruler_leastChanges_62 : decode b_Ruler_leastChanges 62 = .ok (.iaload, 1) := by decide +kernel
theorem d_Ruler_leastChanges_63 : decode b_Ruler_leastChanges 63 = .ok (.iconst 1, 1) := by decide +kernel
theorem d_Ruler_leastChanges_64 : decode b_Ruler_leastChanges 64 = .ok (.iadd, 1) := by decide +kernel
theorem d_Ruler_leastChanges_65 : decode b_Ruler_leastChanges 65 = .ok (.invokestatic 30, 3) := by decide +kernel
theorem d_Ruler_leastChanges_68 : decode b_Ruler_leastChanges 68 = .ok (.istore 9, 2) := by decide +kernel
theorem d_Ruler_leastChanges_70 : decode b_Ruler_leastChanges 70 = .ok (.iload 9, 2) := by decide +kernel
theorem d_Ruler_leastChanges_72 : decode b_Ruler_leastChanges 72 = .ok (.aload_n 0, 1) := by decide +kernel
theorem d_Ruler_leastChanges_73 : decode b_Ruler_leastChanges 73 = .ok (.getfield 11, 3) := by decide +kernel
theorem d_Ruler_leastChanges_76 : decode b_Ruler_leastChanges 76 = .ok (.iload 5, 2) := by decide +kernel
theorem d_Ruler_leastChanges_78 : decode b_Ruler_leastChanges 78 = .ok (.aaload, 1) := by decide +kernel
theorem d_Ruler_leastChanges_79 : decode b_Ruler_leastChanges 79 = .ok (.iload 6, 2) := by decide +kernel
theorem d_Ruler_leastChanges_81 : decode b_Ruler_leastChanges 81 = .ok (.iconst 1, 1) := by decide +kernel
theorem d_Ruler_leastChanges_82 : decode b_Ruler_leastChanges 82 = .ok (.isub, 1) := by decide +kernel
theorem d_Ruler_leastChanges_83 : decode b_Ruler_leastChanges 83 = .ok (.iaload, 1) := by decide +kernel
theorem d_Ruler_leastChanges_84 : decode b_Ruler_leastChanges 84 = .ok (.iconst 1, 1) := by decide +kernel
theorem d_Ruler_leastChanges_85 : decode b_Ruler_leastChanges 85 = .ok (.iadd, 1) := by decide +kernel
theorem d_Ruler_leastChanges_86 : decode b_Ruler_leastChanges 86 = .ok (.invokestatic 30, 3) := by decide +kernel
theorem d_Ruler_leastChanges_89 : decode b_Ruler_leastChanges 89 = .ok (.istore 9, 2) := by decide +kernel
theorem d_Ruler_leastChanges_91 : decode b_Ruler_leastChanges 91 = .ok (.iload 5, 2) := by decide +kernel
theorem d_Ruler_leastChanges_93 : decode b_Ruler_leastChanges 93 = .ok (.iconst 1, 1) := by decide +kernel
theorem d_Ruler_leastChanges_94 : decode b_Ruler_leastChanges 94 = .ok (.if_icmp .le 58, 3) := by decide +kernel
theorem d_Ruler_leastChanges_97 : decode b_Ruler_leastChanges 97 = .ok (.iload 6, 2) := by decide +kernel
theorem d_Ruler_leastChanges_99 : decode b_Ruler_leastChanges 99 = .ok (.iconst 1, 1) := by decide +kernel
theorem d_Ruler_leastChanges_100 : decode b_Ruler_leastChanges 100 = .ok (.if_icmp .le 52, 3) := by decide +kernel
theorem d_Ruler_leastChanges_103 : decode b_Ruler_leastChanges 103 = .ok (.iload 7, 2) := by decide +kernel
theorem d_Ruler_leastChanges_105 : decode b_Ruler_leastChanges 105 = .ok (.lload_n 3, 1) := by decide +kernel
theorem d_Ruler_leastChanges_106 : decode b_Ruler_leastChanges 106 = .ok (.iload 6, 2) := by decide +kernel
theorem d_Ruler_leastChanges_108 : decode b_Ruler_leastChanges 108 = .ok (.iconst 2, 1) := by decide +kernel
theorem d_Ruler_leastChanges_109 : decode b_Ruler_leastChanges 109 = .ok (.isub, 1) := by decide +kernel
theorem d_Ruler_leastChanges_110 : decode b_Ruler_leastChanges 110 = .ok (.invokestatic 26, 3) := by decide +kernel
theorem d_Ruler_leastChanges_113 : decode b_Ruler_leastChanges 113 = .ok (.if_icmp .ne 39, 3) := by decide +kernel
theorem d_Ruler_leastChanges_116 : decode b_Ruler_leastChanges 116 = .ok (.iload 8, 2) := by decide +kernel
theorem d_Ruler_leastChanges_118 : decode b_Ruler_leastChanges 118 = .ok (.lload_n 1, 1) := by decide +kernel
theorem d_Ruler_leastChanges_119 : decode b_Ruler_leastChanges 119 = .ok (.iload 5, 2) := by decide +kernel
theorem d_Ruler_leastChanges_121 : decode b_Ruler_leastChanges 121 = .ok (.iconst 2, 1) := by decide +kernel
theorem d_Ruler_leastChanges_122 : decode b_Ruler_leastChanges 122 = .ok (.isub, 1) := by decide +kernel
theorem d_Ruler_leastChanges_123 : decode b_Ruler_leastChanges 123 = .ok (.invokestatic 26, 3) := by decide +kernel
theorem d_Ruler_leastChanges_126 : decode b_Ruler_leastChanges 126 = .ok (.if_icmp .ne 26, 3) := by decide +kernel
theorem d_Ruler_leastChanges_129 : decode b_Ruler_leastChanges 129 = .ok (.iload 9, 2) := by decide +kernel
theorem d_Ruler_leastChanges_131 : decode b_Ruler_leastChanges 131 = .ok (.aload_n 0, 1) := by decide +kernel
theorem d_Ruler_leastChanges_132 : decode b_Ruler_leastChanges 132 = .ok (.getfield 11, 3) := by decide +kernel
theorem d_Ruler_leastChanges_135 : decode b_Ruler_leastChanges 135 = .ok (.iload 5, 2) := by decide +kernel
theorem d_Ruler_leastChanges_137 : decode b_Ruler_leastChanges 137 = .ok (.iconst 2, 1) := by decide +kernel
theorem d_Ruler_leastChanges_138 : decode b_Ruler_leastChanges 138 = .ok (.isub, 1) := by decide +kernel
theorem d_Ruler_leastChanges_139 : decode b_Ruler_leastChanges 139 = .ok (.aaload, 1) := by decide +kernel
theorem d_Ruler_leastChanges_140 : decode b_Ruler_leastChanges 140 = .ok (.iload 6, 2) := by decide +kernel
theorem d_Ruler_leastChanges_142 : decode b_Ruler_leastChanges 142 = .ok (.iconst 2, 1) := by decide +kernel
theorem d_Ruler_leastChanges_143 : decode b_Ruler_leastChanges 143 = .ok (.isub, 1) := by decide +kernel
theorem d_Ruler_leastChanges_144 : decode b_Ruler_leastChanges 144 = .ok (.iaload, 1) := by decide +kernel
theorem d_Ruler_leastChanges_145 : decode b_Ruler_leastChanges 145 = .ok (.iconst 1, 1) := by decide +kernel
theorem d_Ruler_leastChanges_146 : decode b_Ruler_leastChanges 146 = .ok (.iadd, 1) := by decide +kernel
theorem d_Ruler_leastChanges_147 : decode b_Ruler_leastChanges 147 = .ok (.invokestatic 30, 3) := by decide +kernel
theorem d_Ruler_leastChanges_150 : decode b_Ruler_leastChanges 150 = .ok (.istore 9, 2) := by decide +kernel
theorem d_Ruler_leastChanges_152 : decode b_Ruler_leastChanges 152 = .ok (.iload 9, 2) := by decide +kernel
theorem d_Ruler_leastChanges_154 : decode b_Ruler_leastChanges 154 = .ok (.ireturn, 1) := by decide +kernel
theorem d_Suggestions_init_0 : decode b_Suggestions_init 0 = .ok (.aload_n 0, 1) := by decide +kernel
theorem d_Suggestions_init_1 : decode b_Suggestions_init 1 = .ok (.invokespecial 3, 3) := by decide +kernel
theorem d_Suggestions_init_4 : decode b_Suggestions_init 4 = .ok (.aload_n 0, 1) := by decide +kernel
theorem d_Suggestions_init_5 : decode b_Suggestions_init 5 = .ok (.bipush 24, 2) := by decide +kernel
theorem d_Suggestions_init_7 : decode b_Suggestions_init 7 = .ok (.newarray .long, 2) := by decide +kernel
theorem d_Suggestions_init_9 : decode b_Suggestions_init 9 = .ok (.putfield 9, 3) := by decide +kernel
theorem d_Suggestions_init_12 : decode b_Suggestions_init 12 = .ok (.aload_n 0, 1) := by decide +kernel
theorem d_Suggestions_init_13 : decode b_Suggestions_init 13 = .ok (.bipush 24, 2) := by decide +kernel
theorem d_Suggestions_init_15 : decode b_Suggestions_init 15 = .ok (.newarray .int, 2) := by decide +kernel
theorem d_Suggestions_init_17 : decode b_Suggestions_init 17 = .ok (.putfield 15, 3) := by decide +kernel
theorem d_Suggestions_init_20 : decode b_Suggestions_init 20 = .ok (.aload_n 0, 1) := by decide +kernel
theorem d_Suggestions_init_21 : decode b_Suggestions_init 21 = .ok (.iconst 0, 1) := by decide +kernel
theorem d_Suggestions_init_22 : decode b_Suggestions_init 22 = .ok (.putfield 19, 3) := by decide +kernel
theorem d_Suggestions_init_25 : decode b_Suggestions_init 25 = .ok (.aload_n 0, 1) := by decide +kernel
theorem d_Suggestions_init_26 : decode b_Suggestions_init 26 = .ok (.iconst 0, 1) := by decide +kernel
theorem d_Suggestions_init_27 : decode b_Suggestions_init 27 = .ok (.putfield 23, 3) := by decide +kernel
theorem d_Suggestions_init_30 : decode b_Suggestions_init 30 = .ok (.return_, 1) := by decide +kernel
theorem d_Suggestions_startAnew_0 : decode b_Suggestions_startAnew 0 = .ok (.aload_n 0, 1) := by decide +kernel
theorem d_Suggestions_startAnew_1 : decode b_Suggestions_startAnew 1 = .ok (.iconst 0, 1) := by decide +kernel
theorem d_Suggestions_startAnew_2 : decode b_Suggestions_startAnew 2 = .ok (.putfield 19, 3) := by decide +kernel
theorem d_Suggestions_startAnew_5 : decode b_Suggestions_startAnew 5 = .ok (.aload_n 0, 1) := by decide +kernel
theorem d_Suggestions_startAnew_6 : decode b_Suggestions_startAnew 6 = .ok (.iload_n 1, 1) := by decide +kernel
theorem d_Suggestions_startAnew_7 : decode b_Suggestions_startAnew 7 = .ok (.bipush 24, 2) := by decide +kernel
theorem d_Suggestions_startAnew_9 : decode b_Suggestions_startAnew 9 = .ok (.invokestatic 26, 3) := by decide +kernel
theorem d_Suggestions_startAnew_12 : decode b_Suggestions_startAnew 12 = .ok (.putfield 23, 3) := by decide +kernel
theorem d_Suggestions_startAnew_15 : decode b_Suggestions_startAnew 15 = .ok (.return_, 1) := by decide +kernel
theorem d_Suggestions_size_0 : decode b_Suggestions_size 0 = .ok (.aload_n 0, 1) := by decide +kernel
theorem d_Suggestions_size_1 : decode b_Suggestions_size 1 = .ok (.getfield 19, 3) := by decide +kernel
theorem d_Suggestions_size_4 : decode b_Suggestions_size 4 = .ok (.ireturn, 1) := by decide +kernel
theorem d_Suggestions_textAt_0 : decode b_Suggestions_textAt 0 = .ok (.aload_n 0, 1) := by decide +kernel
theorem d_Suggestions_textAt_1 : decode b_Suggestions_textAt 1 = .ok (.getfield 9, 3) := by decide +kernel
theorem d_Suggestions_textAt_4 : decode b_Suggestions_textAt 4 = .ok (.iload_n 1, 1) := by decide +kernel
theorem d_Suggestions_textAt_5 : decode b_Suggestions_textAt 5 = .ok (.laload, 1) := by decide +kernel
theorem d_Suggestions_textAt_6 : decode b_Suggestions_textAt 6 = .ok (.lreturn, 1) := by decide +kernel
theorem d_Suggestions_takeBeginning_0 : decode b_Suggestions_takeBeginning 0 = .ok (.lload_n 2, 1) := by decide +kernel
theorem d_Suggestions_takeBeginning_1 : decode b_Suggestions_takeBeginning 1 = .ok (.invokestatic 32, 3) := by decide +kernel
theorem d_Suggestions_takeBeginning_4 : decode b_Suggestions_takeBeginning 4 = .ok (.istore 4, 2) := by decide +kernel
theorem d_Suggestions_takeBeginning_6 : decode b_Suggestions_takeBeginning 6 = .ok (.iconst 0, 1) := by decide +kernel
theorem d_Suggestions_takeBeginning_7 : decode b_Suggestions_takeBeginning 7 = .ok (.istore 5, 2) := by decide +kernel
theorem d_Suggestions_takeBeginning_9 : decode b_Suggestions_takeBeginning 9 = .ok (.iload 5, 2) := by decide +kernel
theorem d_Suggestions_takeBeginning_11 : decode b_Suggestions_takeBeginning 11 = .ok (.aload_n 1, 1) := by decide +kernel
theorem d_Suggestions_takeBeginning_12 : decode b_Suggestions_takeBeginning 12 = .ok (.invokevirtual 38, 3) := by decide +kernel
theorem d_Suggestions_takeBeginning_15 : decode b_Suggestions_takeBeginning 15 = .ok (.if_icmp .ge 41, 3) := by decide +kernel
theorem d_Suggestions_takeBeginning_18 : decode b_Suggestions_takeBeginning 18 = .ok (.aload_n 1, 1) := by decide +kernel
theorem d_Suggestions_takeBeginning_19 : decode b_Suggestions_takeBeginning 19 = .ok (.iload 5, 2) := by decide +kernel
theorem d_Suggestions_takeBeginning_21 : decode b_Suggestions_takeBeginning 21 = .ok (.invokevirtual 43, 3) := by decide +kernel
theorem d_Suggestions_takeBeginning_24 : decode b_Suggestions_takeBeginning 24 = .ok (.iload 4, 2) := by decide +kernel
theorem d_Suggestions_takeBeginning_26 : decode b_Suggestions_takeBeginning 26 = .ok (.invokestatic 47, 3) := by decide +kernel
theorem d_Suggestions_takeBeginning_29 : decode b_Suggestions_takeBeginning 29 = .ok (.lload_n 2, 1) := by decide +kernel
theorem d_Suggestions_takeBeginning_30 : decode b_Suggestions_takeBeginning 30 = .ok (.lcmp, 1) := by decide +kernel
theorem d_Suggestions_takeBeginning_31 : decode b_Suggestions_takeBeginning 31 = .ok (.ifCond .ne 19, 3) := by decide +kernel
theorem d_Suggestions_takeBeginning_34 : decode b_Suggestions_takeBeginning 34 = .ok (.aload_n 0, 1) := by decide +kernel
theorem d_Suggestions_takeBeginning_35 : decode b_Suggestions_takeBeginning 35 = .ok (.aload_n 1, 1) := by decide +kernel
theorem d_Suggestions_takeBeginning_36 : decode b_Suggestions_takeBeginning 36 = .ok (.iload 5, 2) := by decide +kernel
theorem d_Suggestions_takeBeginning_38 : decode b_Suggestions_takeBeginning 38 = .ok (.invokevirtual 43, 3) := by decide +kernel
theorem d_Suggestions_takeBeginning_41 : decode b_Suggestions_takeBeginning 41 = .ok (.aload_n 1, 1) := by decide +kernel
theorem d_Suggestions_takeBeginning_42 : decode b_Suggestions_takeBeginning 42 = .ok (.iload 5, 2) := by decide +kernel
theorem d_Suggestions_takeBeginning_44 : decode b_Suggestions_takeBeginning 44 = .ok (.invokevirtual 51, 3) := by decide +kernel
theorem d_Suggestions_takeBeginning_47 : decode b_Suggestions_takeBeginning 47 = .ok (.invokevirtual 55, 3) := by decide +kernel
theorem d_Suggestions_takeBeginning_50 : decode b_Suggestions_takeBeginning 50 = .ok (.iinc 5 1, 3) := by decide +kernel
theorem d_Suggestions_takeBeginning_53 : decode b_Suggestions_takeBeginning 53 = .ok (.goto (-44), 3) := by decide +kernel
theorem d_Suggestions_takeBeginning_56 : decode b_Suggestions_takeBeginning 56 = .ok (.return_, 1) := by decide +kernel
theorem d_Suggestions_takeNear_0 : decode b_Suggestions_takeNear 0 = .ok (.iconst 0, 1) := by decide +kernel
theorem d_Suggestions_takeNear_1 : decode b_Suggestions_takeNear 1 = .ok (.istore 6, 2) := by decide +kernel
theorem d_Suggestions_takeNear_3 : decode b_Suggestions_takeNear 3 = .ok (.iload 6, 2) := by decide +kernel
theorem d_Suggestions_takeNear_5 : decode b_Suggestions_takeNear 5 = .ok (.aload_n 1, 1) := by decide +kernel
theorem d_Suggestions_takeNear_6 : decode b_Suggestions_takeNear 6 = .ok (.invokevirtual 38, 3) := by decide +kernel
theorem d_Suggestions_takeNear_9 : decode b_Suggestions_takeNear 9 = .ok (.if_icmp .ge 53, 3) := by decide +kernel
theorem d_Suggestions_takeNear_12 : decode b_Suggestions_takeNear 12 = .ok (.aload 5, 2) := by decide +kernel
theorem d_Suggestions_takeNear_14 : decode b_Suggestions_takeNear 14 = .ok (.lload_n 2, 1) := by decide +kernel
theorem d_Suggestions_takeNear_15 : decode b_Suggestions_takeNear 15 = .ok (.aload_n 1, 1) := by decide +kernel
theorem d_Suggestions_takeNear_16 : decode b_Suggestions_takeNear 16 = .ok (.iload 6, 2) := by decide +kernel
theorem d_Suggestions_takeNear_18 : decode b_Suggestions_takeNear 18 = .ok (.invokevirtual 43, 3) := by decide +kernel
theorem d_Suggestions_takeNear_21 : decode b_Suggestions_takeNear 21 = .ok (.invokevirtual 59, 3) := by decide +kernel
theorem d_Suggestions_takeNear_24 : decode b_Suggestions_takeNear 24 = .ok (.istore 7, 2) := by decide +kernel
theorem d_Suggestions_takeNear_26 : decode b_Suggestions_takeNear 26 = .ok (.iload 7, 2) := by decide +kernel
theorem d_Suggestions_takeNear_28 : decode b_Suggestions_takeNear 28 = .ok (.iload 4, 2) := by decide +kernel
theorem d_Suggestions_takeNear_30 : decode b_Suggestions_takeNear 30 = .ok (.if_icmp .gt 26, 3) := by decide +kernel
theorem d_Suggestions_takeNear_33 : decode b_Suggestions_takeNear 33 = .ok (.aload_n 0, 1) := by decide +kernel
theorem d_Suggestions_takeNear_34 : decode b_Suggestions_takeNear 34 = .ok (.aload_n 1, 1) := by decide +kernel
theorem d_Suggestions_takeNear_35 : decode b_Suggestions_takeNear 35 = .ok (.iload 6, 2) := by decide +kernel
theorem d_Suggestions_takeNear_37 : decode b_Suggestions_takeNear 37 = .ok (.invokevirtual 43, 3) := by decide +kernel
theorem d_Suggestions_takeNear_40 : decode b_Suggestions_takeNear 40 = .ok (.iload 7, 2) := by decide +kernel
theorem d_Suggestions_takeNear_42 : decode b_Suggestions_takeNear 42 = .ok (.sipush 10000, 3) := by decide +kernel
theorem d_Suggestions_takeNear_45 : decode b_Suggestions_takeNear 45 = .ok (.imul, 1) := by decide +kernel
theorem d_Suggestions_takeNear_46 : decode b_Suggestions_takeNear 46 = .ok (.aload_n 1, 1) := by decide +kernel
theorem d_Suggestions_takeNear_47 : decode b_Suggestions_takeNear 47 = .ok (.iload 6, 2) := by decide +kernel
theorem d_Suggestions_takeNear_49 : decode b_Suggestions_takeNear 49 = .ok (.invokevirtual 51, 3) := by decide +kernel
theorem d_Suggestions_takeNear_52 : decode b_Suggestions_takeNear 52 = .ok (.iadd, 1) := by decide +kernel
theorem d_Suggestions_takeNear_53 : decode b_Suggestions_takeNear 53 = .ok (.invokevirtual 55, 3) := by decide +kernel
theorem d_Suggestions_takeNear_56 : decode b_Suggestions_takeNear 56 = .ok (.iinc 6 1, 3) := by decide +kernel
theorem d_Suggestions_takeNear_59 : decode b_Suggestions_takeNear 59 = .ok (.goto (-56), 3) := by decide +kernel
theorem d_Suggestions_takeNear_62 : decode b_Suggestions_takeNear 62 = .ok (.return_, 1) := by decide +kernel
theorem d_Suggestions_offer_0 : decode b_Suggestions_offer 0 = .ok (.aload_n 0, 1) := by decide +kernel
theorem d_Suggestions_offer_1 : decode b_Suggestions_offer 1 = .ok (.getfield 19, 3) := by decide +kernel
theorem d_Suggestions_offer_4 : decode b_Suggestions_offer 4 = .ok (.istore 4, 2) := by decide +kernel
theorem d_Suggestions_offer_6 : decode b_Suggestions_offer 6 = .ok (.iload 4, 2) := by decide +kernel
theorem d_Suggestions_offer_8 : decode b_Suggestions_offer 8 = .ok (.ifCond .le 22, 3) := by decide +kernel
theorem d_Suggestions_offer_11 : decode b_Suggestions_offer 11 = .ok (.aload_n 0, 1) := by decide +kernel
theorem d_Suggestions_offer_12 : decode b_Suggestions_offer 12 = .ok (.getfield 15, 3) := by decide +kernel
theorem d_Suggestions_offer_15 : decode b_Suggestions_offer 15 = .ok (.iload 4, 2) := by decide +kernel
theorem d_Suggestions_offer_17 : decode b_Suggestions_offer 17 = .ok (.iconst 1, 1) := by decide +kernel
theorem d_Suggestions_offer_18 : decode b_Suggestions_offer 18 = .ok (.isub, 1) := by decide +kernel
theorem d_Suggestions_offer_19 : decode b_Suggestions_offer 19 = .ok (.iaload, 1) := by decide +kernel
theorem d_Suggestions_offer_20 : decode b_Suggestions_offer 20 = .ok (.iload_n 3, 1) := by decide +kernel
theorem d_Suggestions_offer_21 : decode b_Suggestions_offer 21 = .ok (.if_icmp .le 9, 3) := by decide +kernel
theorem d_Suggestions_offer_24 : decode b_Suggestions_offer 24 = .ok (.iinc 4 (-1), 3) := by decide +kernel
theorem d_Suggestions_offer_27 : decode b_Suggestions_offer 27 = .ok (.goto (-21), 3) := by decide +kernel
theorem d_Suggestions_offer_30 : decode b_Suggestions_offer 30 = .ok (.iload 4, 2) := by decide +kernel
theorem d_Suggestions_offer_32 : decode b_Suggestions_offer 32 = .ok (.aload_n 0, 1) := by decide +kernel
theorem d_Suggestions_offer_33 : decode b_Suggestions_offer 33 = .ok (.getfield 23, 3) := by decide +kernel
theorem d_Suggestions_offer_36 : decode b_Suggestions_offer 36 = .ok (.if_icmp .lt 4, 3) := by decide +kernel
theorem d_Suggestions_offer_39 : decode b_Suggestions_offer 39 = .ok (.return_, 1) := by decide +kernel
theorem d_Suggestions_offer_40 : decode b_Suggestions_offer 40 = .ok (.aload_n 0, 1) := by decide +kernel
theorem d_Suggestions_offer_41 : decode b_Suggestions_offer 41 = .ok (.getfield 19, 3) := by decide +kernel
theorem d_Suggestions_offer_44 : decode b_Suggestions_offer 44 = .ok (.aload_n 0, 1) := by decide +kernel
theorem d_Suggestions_offer_45 : decode b_Suggestions_offer 45 = .ok (.getfield 23, 3) := by decide +kernel
theorem d_Suggestions_offer_48 : decode b_Suggestions_offer 48 = .ok (.iconst 1, 1) := by decide +kernel
theorem d_Suggestions_offer_49 : decode b_Suggestions_offer 49 = .ok (.isub, 1) := by decide +kernel
theorem d_Suggestions_offer_50 : decode b_Suggestions_offer 50 = .ok (.invokestatic 26, 3) := by decide +kernel
theorem d_Suggestions_offer_53 : decode b_Suggestions_offer 53 = .ok (.istore 5, 2) := by decide +kernel
theorem d_Suggestions_offer_55 : decode b_Suggestions_offer 55 = .ok (.iload 5, 2) := by decide +kernel
theorem d_Suggestions_offer_57 : decode b_Suggestions_offer 57 = .ok (.istore 6, 2) := by decide +kernel
theorem d_Suggestions_offer_59 : decode b_Suggestions_offer 59 = .ok (.iload 6, 2) := by decide +kernel
theorem d_Suggestions_offer_61 : decode b_Suggestions_offer 61 = .ok (.iload 4, 2) := by decide +kernel
theorem d_Suggestions_offer_63 : decode b_Suggestions_offer 63 = .ok (.if_icmp .le 41, 3) := by decide +kernel
theorem d_Suggestions_offer_66 : decode b_Suggestions_offer 66 = .ok (.aload_n 0, 1) := by decide +kernel
theorem d_Suggestions_offer_67 : decode b_Suggestions_offer 67 = .ok (.getfield 9, 3) := by decide +kernel
theorem d_Suggestions_offer_70 : decode b_Suggestions_offer 70 = .ok (.iload 6, 2) := by decide +kernel
theorem d_Suggestions_offer_72 : decode b_Suggestions_offer 72 = .ok (.aload_n 0, 1) := by decide +kernel
theorem d_Suggestions_offer_73 : decode b_Suggestions_offer 73 = .ok (.getfield 9, 3) := by decide +kernel
theorem d_Suggestions_offer_76 : decode b_Suggestions_offer 76 = .ok (.iload 6, 2) := by decide +kernel
theorem d_Suggestions_offer_78 : decode b_Suggestions_offer 78 = .ok (.iconst 1, 1) := by decide +kernel
theorem d_Suggestions_offer_79 : decode b_Suggestions_offer 79 = .ok (.isub, 1) := by decide +kernel
theorem d_Suggestions_offer_80 : decode b_Suggestions_offer 80 = .ok (.laload, 1) := by decide +kernel
theorem d_Suggestions_offer_81 : decode b_Suggestions_offer 81 = .ok (.lastore, 1) := by decide +kernel
theorem d_Suggestions_offer_82 : decode b_Suggestions_offer 82 = .ok (.aload_n 0, 1) := by decide +kernel
theorem d_Suggestions_offer_83 : decode b_Suggestions_offer 83 = .ok (.getfield 15, 3) := by decide +kernel
theorem d_Suggestions_offer_86 : decode b_Suggestions_offer 86 = .ok (.iload 6, 2) := by decide +kernel
theorem d_Suggestions_offer_88 : decode b_Suggestions_offer 88 = .ok (.aload_n 0, 1) := by decide +kernel
theorem d_Suggestions_offer_89 : decode b_Suggestions_offer 89 = .ok (.getfield 15, 3) := by decide +kernel
theorem d_Suggestions_offer_92 : decode b_Suggestions_offer 92 = .ok (.iload 6, 2) := by decide +kernel
theorem d_Suggestions_offer_94 : decode b_Suggestions_offer 94 = .ok (.iconst 1, 1) := by decide +kernel
theorem d_Suggestions_offer_95 : decode b_Suggestions_offer 95 = .ok (.isub, 1) := by decide +kernel
theorem d_Suggestions_offer_96 : decode b_Suggestions_offer 96 = .ok (.iaload, 1) := by decide +kernel
theorem d_Suggestions_offer_97 : decode b_Suggestions_offer 97 = .ok (.iastore, 1) := by decide +kernel
theorem d_Suggestions_offer_98 : decode b_Suggestions_offer 98 = .ok (.iinc 6 (-1), 3) := by decide +kernel
theorem d_Suggestions_offer_101 : decode b_Suggestions_offer 101 = .ok (.goto (-42), 3) := by decide +kernel
theorem d_Suggestions_offer_104 : decode b_Suggestions_offer 104 = .ok (.aload_n 0, 1) := by decide +kernel
theorem d_Suggestions_offer_105 : decode b_Suggestions_offer 105 = .ok (.getfield 9, 3) := by decide +kernel
theorem d_Suggestions_offer_108 : decode b_Suggestions_offer 108 = .ok (.iload 4, 2) := by decide +kernel
theorem d_Suggestions_offer_110 : decode b_Suggestions_offer 110 = .ok (.lload_n 1, 1) := by decide +kernel
theorem d_Suggestions_offer_111 : decode b_Suggestions_offer 111 = .ok (.lastore, 1) := by decide +kernel
theorem d_Suggestions_offer_112 : decode b_Suggestions_offer 112 = .ok (.aload_n 0, 1) := by decide +kernel
theorem d_Suggestions_offer_113 : decode b_Suggestions_offer 113 = .ok (.getfield 15, 3) := by decide +kernel
theorem d_Suggestions_offer_116 : decode b_Suggestions_offer 116 = .ok (.iload 4, 2) := by decide +kernel
theorem d_Suggestions_offer_118 : decode b_Suggestions_offer 118 = .ok (.iload_n 3, 1) := by decide +kernel
theorem d_Suggestions_offer_119 : decode b_Suggestions_offer 119 = .ok (.iastore, 1) := by decide +kernel
theorem d_Suggestions_offer_120 : decode b_Suggestions_offer 120 = .ok (.aload_n 0, 1) := by decide +kernel
theorem d_Suggestions_offer_121 : decode b_Suggestions_offer 121 = .ok (.iload 5, 2) := by decide +kernel
theorem d_Suggestions_offer_123 : decode b_Suggestions_offer 123 = .ok (.iconst 1, 1) := by decide +kernel
theorem d_Suggestions_offer_124 : decode b_Suggestions_offer 124 = .ok (.iadd, 1) := by decide +kernel
theorem d_Suggestions_offer_125 : decode b_Suggestions_offer 125 = .ok (.putfield 19, 3) := by decide +kernel
theorem d_Suggestions_offer_128 : decode b_Suggestions_offer 128 = .ok (.return_, 1) := by decide +kernel
theorem d_Texts_isWord_0 : decode b_Texts_isWord 0 = .ok (.lload_n 0, 1) := by decide +kernel
theorem d_Texts_isWord_1 : decode b_Texts_isWord 1 = .ok (.lconst 0, 1) := by decide +kernel
theorem d_Texts_isWord_2 : decode b_Texts_isWord 2 = .ok (.lcmp, 1) := by decide +kernel
theorem d_Texts_isWord_3 : decode b_Texts_isWord 3 = .ok (.ifCond .eq 14, 3) := by decide +kernel
theorem d_Texts_isWord_6 : decode b_Texts_isWord 6 = .ok (.lload_n 0, 1) := by decide +kernel
theorem d_Texts_isWord_7 : decode b_Texts_isWord 7 = .ok (.invokestatic 9, 3) := by decide +kernel
theorem d_Texts_isWord_10 : decode b_Texts_isWord 10 = .ok (.ifCond .eq 7, 3) := by decide +kernel
theorem d_Texts_isWord_13 : decode b_Texts_isWord 13 = .ok (.iconst 1, 1) := by decide +kernel
theorem d_Texts_isWord_14 : decode b_Texts_isWord 14 = .ok (.goto 4, 3) := by decide +kernel
theorem d_Texts_isWord_17 : decode b_Texts_isWord 17 = .ok (.iconst 0, 1) := by decide +kernel
theorem d_Texts_isWord_18 : decode b_Texts_isWord 18 = .ok (.ireturn, 1) := by decide +kernel
theorem d_Texts_isBeginning_0 : decode b_Texts_isBeginning 0 = .ok (.lload_n 0, 1) := by decide +kernel
theorem d_Texts_isBeginning_1 : decode b_Texts_isBeginning 1 = .ok (.lstore_n 2, 1) := by decide +kernel
theorem d_Texts_isBeginning_2 : decode b_Texts_isBeginning 2 = .ok (.iconst 0, 1) := by decide +kernel
theorem d_Texts_isBeginning_3 : decode b_Texts_isBeginning 3 = .ok (.istore 4, 2) := by decide +kernel
theorem d_Texts_isBeginning_5 : decode b_Texts_isBeginning 5 = .ok (.iload 4, 2) := by decide +kernel
theorem d_Texts_isBeginning_7 : decode b_Texts_isBeginning 7 = .ok (.bipush 8, 2) := by decide +kernel
theorem d_Texts_isBeginning_9 : decode b_Texts_isBeginning 9 = .ok (.if_icmp .ge 47, 3) := by decide +kernel
theorem d_Texts_isBeginning_12 : decode b_Texts_isBeginning 12 = .ok (.lload_n 2, 1) := by decide +kernel
theorem d_Texts_isBeginning_13 : decode b_Texts_isBeginning 13 = .ok (.lconst 0, 1) := by decide +kernel
theorem d_Texts_isBeginning_14 : decode b_Texts_isBeginning 14 = .ok (.lcmp, 1) := by decide +kernel
theorem d_Texts_isBeginning_15 : decode b_Texts_isBeginning 15 = .ok (.ifCond .eq 41, 3) := by decide +kernel
theorem d_Texts_isBeginning_18 : decode b_Texts_isBeginning 18 = .ok (.lload_n 2, 1) := by decide +kernel
theorem d_Texts_isBeginning_19 : decode b_Texts_isBeginning 19 = .ok (.ldc2_w 15, 3) := by decide +kernel
theorem d_Texts_isBeginning_22 : decode b_Texts_isBeginning 22 = .ok (.land, 1) := by decide +kernel
theorem d_Texts_isBeginning_23 : decode b_Texts_isBeginning 23 = .ok (.lstore 5, 2) := by decide +kernel
theorem d_Texts_isBeginning_25 : decode b_Texts_isBeginning 25 = .ok (.lload 5, 2) := by decide +kernel
theorem d_Texts_isBeginning_27 : decode b_Texts_isBeginning 27 = .ok (.ldc2_w 17, 3) := by decide +kernel
theorem d_Texts_isBeginning_30 : decode b_Texts_isBeginning 30 = .ok (.lcmp, 1) := by decide +kernel
theorem d_Texts_isBeginning_31 : decode b_Texts_isBeginning 31 = .ok (.ifCond .lt 12, 3) := by decide +kernel
theorem d_Texts_isBeginning_34 : decode b_Texts_isBeginning 34 = .ok (.lload 5, 2) := by decide +kernel
theorem d_Texts_isBeginning_36 : decode b_Texts_isBeginning 36 = .ok (.ldc2_w 19, 3) := by decide +kernel
theorem d_Texts_isBeginning_39 : decode b_Texts_isBeginning 39 = .ok (.lcmp, 1) := by decide +kernel
theorem d_Texts_isBeginning_40 : decode b_Texts_isBeginning 40 = .ok (.ifCond .le 5, 3) := by decide +kernel
theorem d_Texts_isBeginning_43 : decode b_Texts_isBeginning 43 = .ok (.iconst 0, 1) := by decide +kernel
theorem d_Texts_isBeginning_44 : decode b_Texts_isBeginning 44 = .ok (.ireturn, 1) := by decide +kernel
theorem d_Texts_isBeginning_45 : decode b_Texts_isBeginning 45 = .ok (.lload_n 2, 1) := by decide +kernel
theorem d_Texts_isBeginning_46 : decode b_Texts_isBeginning 46 = .ok (.bipush 8, 2) := by decide +kernel
theorem d_Texts_isBeginning_48 : decode b_Texts_isBeginning 48 = .ok (.lushr, 1) := by decide +kernel
theorem d_Texts_isBeginning_49 : decode b_Texts_isBeginning 49 = .ok (.lstore_n 2, 1) := by decide +kernel
theorem d_Texts_isBeginning_50 : decode b_Texts_isBeginning 50 = .ok (.iinc 4 1, 3) := by decide +kernel
theorem d_Texts_isBeginning_53 : decode b_Texts_isBeginning 53 = .ok (.goto (-48), 3) := by decide +kernel
theorem d_Texts_isBeginning_56 : decode b_Texts_isBeginning 56 = .ok (.iconst 1, 1) := by decide +kernel
theorem d_Texts_isBeginning_57 : decode b_Texts_isBeginning 57 = .ok (.ireturn, 1) := by decide +kernel
theorem d_Texts_ofNumber_0 : decode b_Texts_ofNumber 0 = .ok (.lload_n 0, 1) := by decide +kernel
theorem d_Texts_ofNumber_1 : decode b_Texts_ofNumber 1 = .ok (.lstore_n 2, 1) := by decide +kernel
theorem d_Texts_ofNumber_2 : decode b_Texts_ofNumber 2 = .ok (.iconst 0, 1) := by decide +kernel
theorem d_Texts_ofNumber_3 : decode b_Texts_ofNumber 3 = .ok (.istore 4, 2) := by decide +kernel
theorem d_Texts_ofNumber_5 : decode b_Texts_ofNumber 5 = .ok (.iload 4, 2) := by decide +kernel
theorem d_Texts_ofNumber_7 : decode b_Texts_ofNumber 7 = .ok (.bipush 8, 2) := by decide +kernel
theorem d_Texts_ofNumber_9 : decode b_Texts_ofNumber 9 = .ok (.if_icmp .ge 22, 3) := by decide +kernel
theorem d_Texts_ofNumber_12 : decode b_Texts_ofNumber 12 = .ok (.lload_n 2, 1) := by decide +kernel
theorem d_Texts_ofNumber_13 : decode b_Texts_ofNumber 13 = .ok (.iconst 0, 1) := by decide +kernel
theorem d_Texts_ofNumber_14 : decode b_Texts_ofNumber 14 = .ok (.invokestatic 21, 3) := by decide +kernel
theorem d_Texts_ofNumber_17 : decode b_Texts_ofNumber 17 = .ok (.ifCond .ne 14, 3) := by decide +kernel
theorem d_Texts_ofNumber_20 : decode b_Texts_ofNumber 20 = .ok (.lload_n 2, 1) := by decide +kernel
theorem d_Texts_ofNumber_21 : decode b_Texts_ofNumber 21 = .ok (.bipush 8, 2) := by decide +kernel
theorem d_Texts_ofNumber_23 : decode b_Texts_ofNumber 23 = .ok (.lshl, 1) := by decide +kernel
theorem d_Texts_ofNumber_24 : decode b_Texts_ofNumber 24 = .ok (.lstore_n 2, 1) := by decide +kernel
theorem d_Texts_ofNumber_25 : decode b_Texts_ofNumber 25 = .ok (.iinc 4 1, 3) := by decide +kernel
theorem d_Texts_ofNumber_28 : decode b_Texts_ofNumber 28 = .ok (.goto (-23), 3) := by decide +kernel
theorem d_Texts_ofNumber_31 : decode b_Texts_ofNumber 31 = .ok (.lload_n 2, 1) := by decide +kernel
theorem d_Texts_ofNumber_32 : decode b_Texts_ofNumber 32 = .ok (.lreturn, 1) := by decide +kernel
theorem d_Texts_toNumber_0 : decode b_Texts_toNumber 0 = .ok (.lload_n 0, 1) := by decide +kernel
theorem d_Texts_toNumber_1 : decode b_Texts_toNumber 1 = .ok (.lstore_n 2, 1) := by decide +kernel
theorem d_Texts_toNumber_2 : decode b_Texts_toNumber 2 = .ok (.iconst 0, 1) := by decide +kernel
theorem d_Texts_toNumber_3 : decode b_Texts_toNumber 3 = .ok (.istore 4, 2) := by decide +kernel
theorem d_Texts_toNumber_5 : decode b_Texts_toNumber 5 = .ok (.iload 4, 2) := by decide +kernel
theorem d_Texts_toNumber_7 : decode b_Texts_toNumber 7 = .ok (.bipush 8, 2) := by decide +kernel
theorem d_Texts_toNumber_9 : decode b_Texts_toNumber 9 = .ok (.if_icmp .ge 24, 3) := by decide +kernel
theorem d_Texts_toNumber_12 : decode b_Texts_toNumber 12 = .ok (.lload_n 2, 1) := by decide +kernel
theorem d_Texts_toNumber_13 : decode b_Texts_toNumber 13 = .ok (.ldc2_w 15, 3) := by decide +kernel
theorem d_Texts_toNumber_16 : decode b_Texts_toNumber 16 = .ok (.land, 1) := by decide +kernel
theorem d_Texts_toNumber_17 : decode b_Texts_toNumber 17 = .ok (.lconst 0, 1) := by decide +kernel
theorem d_Texts_toNumber_18 : decode b_Texts_toNumber 18 = .ok (.lcmp, 1) := by decide +kernel
theorem d_Texts_toNumber_19 : decode b_Texts_toNumber 19 = .ok (.ifCond .ne 14, 3) := by decide +kernel
theorem d_Texts_toNumber_22 : decode b_Texts_toNumber 22 = .ok (.lload_n 2, 1) := by decide +kernel
theorem d_Texts_toNumber_23 : decode b_Texts_toNumber 23 = .ok (.bipush 8, 2) := by decide +kernel
theorem d_Texts_toNumber_25 : decode b_Texts_toNumber 25 = .ok (.lushr, 1) := by decide +kernel
theorem d_Texts_toNumber_26 : decode b_Texts_toNumber 26 = .ok (.lstore_n 2, 1) := by decide +kernel
theorem d_Texts_toNumber_27 : decode b_Texts_toNumber 27 = .ok (.iinc 4 1, 3) := by decide +kernel
theorem d_Texts_toNumber_30 : decode b_Texts_toNumber 30 = .ok (.goto (-25), 3) := by decide +kernel
theorem d_Texts_toNumber_33 : decode b_Texts_toNumber 33 = .ok (.lload_n 2, 1) := by decide +kernel
theorem d_Texts_toNumber_34 : decode b_Texts_toNumber 34 = .ok (.lreturn, 1) := by decide +kernel
theorem d_Texts_lengthOf_0 : decode b_Texts_lengthOf 0 = .ok (.iconst 0, 1) := by decide +kernel
theorem d_Texts_lengthOf_1 : decode b_Texts_lengthOf 1 = .ok (.istore_n 2, 1) := by decide +kernel
theorem d_Texts_lengthOf_2 : decode b_Texts_lengthOf 2 = .ok (.iload_n 2, 1) := by decide +kernel
theorem d_Texts_lengthOf_3 : decode b_Texts_lengthOf 3 = .ok (.bipush 8, 2) := by decide +kernel
theorem d_Texts_lengthOf_5 : decode b_Texts_lengthOf 5 = .ok (.if_icmp .ge 17, 3) := by decide +kernel
theorem d_Texts_lengthOf_8 : decode b_Texts_lengthOf 8 = .ok (.lload_n 0, 1) := by decide +kernel
theorem d_Texts_lengthOf_9 : decode b_Texts_lengthOf 9 = .ok (.iload_n 2, 1) := by decide +kernel
theorem d_Texts_lengthOf_10 : decode b_Texts_lengthOf 10 = .ok (.invokestatic 21, 3) := by decide +kernel
theorem d_Texts_lengthOf_13 : decode b_Texts_lengthOf 13 = .ok (.ifCond .eq 9, 3) := by decide +kernel
theorem d_Texts_lengthOf_16 : decode b_Texts_lengthOf 16 = .ok (.iinc 2 1, 3) := by decide +kernel
theorem d_Texts_lengthOf_19 : decode b_Texts_lengthOf 19 = .ok (.goto (-17), 3) := by decide +kernel
theorem d_Texts_lengthOf_22 : decode b_Texts_lengthOf 22 = .ok (.iload_n 2, 1) := by decide +kernel
theorem d_Texts_lengthOf_23 : decode b_Texts_lengthOf 23 = .ok (.ireturn, 1) := by decide +kernel
theorem d_Texts_letterAt_0 : decode b_Texts_letterAt 0 = .ok (.lload_n 0, 1) := by decide +kernel
theorem d_Texts_letterAt_1 : decode b_Texts_letterAt 1 = .ok (.bipush 64, 2) := by decide +kernel
theorem d_Texts_letterAt_3 : decode b_Texts_letterAt 3 = .ok (.bipush 8, 2) := by decide +kernel
theorem d_Texts_letterAt_5 : decode b_Texts_letterAt 5 = .ok (.iload_n 2, 1) := by decide +kernel
theorem d_Texts_letterAt_6 : decode b_Texts_letterAt 6 = .ok (.iconst 1, 1) := by decide +kernel
theorem d_Texts_letterAt_7 : decode b_Texts_letterAt 7 = .ok (.iadd, 1) := by decide +kernel
theorem d_Texts_letterAt_8 : decode b_Texts_letterAt 8 = .ok (.imul, 1) := by decide +kernel
theorem d_Texts_letterAt_9 : decode b_Texts_letterAt 9 = .ok (.isub, 1) := by decide +kernel
theorem d_Texts_letterAt_10 : decode b_Texts_letterAt 10 = .ok (.lushr, 1) := by decide +kernel
theorem d_Texts_letterAt_11 : decode b_Texts_letterAt 11 = .ok (.l2i, 1) := by decide +kernel
theorem d_Texts_letterAt_12 : decode b_Texts_letterAt 12 = .ok (.sipush 255, 3) := by decide +kernel
theorem d_Texts_letterAt_15 : decode b_Texts_letterAt 15 = .ok (.iand, 1) := by decide +kernel
theorem d_Texts_letterAt_16 : decode b_Texts_letterAt 16 = .ok (.ireturn, 1) := by decide +kernel
theorem d_Texts_head_0 : decode b_Texts_head 0 = .ok (.iload_n 2, 1) := by decide +kernel
theorem d_Texts_head_1 : decode b_Texts_head 1 = .ok (.ifCond .gt 7, 3) := by decide +kernel
theorem d_Texts_head_4 : decode b_Texts_head 4 = .ok (.lconst 0, 1) := by decide +kernel
theorem d_Texts_head_5 : decode b_Texts_head 5 = .ok (.goto 16, 3) := by decide +kernel
theorem d_Texts_head_8 : decode b_Texts_head 8 = .ok (.lload_n 0, 1) := by decide +kernel
theorem d_Texts_head_9 : decode b_Texts_head 9 = .ok (.ldc2_w 25, 3) := by decide +kernel
theorem d_Texts_head_12 : decode b_Texts_head 12 = .ok (.bipush 64, 2) := by decide +kernel
theorem d_Texts_head_14 : decode b_Texts_head 14 = .ok (.bipush 8, 2) := by decide +kernel
theorem d_Texts_head_16 : decode b_Texts_head 16 = .ok (.iload_n 2, 1) := by decide +kernel
theorem d_Texts_head_17 : decode b_Texts_head 17 = .ok (.imul, 1) := by decide +kernel
theorem d_Texts_head_18 : decode b_Texts_head 18 = .ok (.isub, 1) := by decide +kernel
theorem d_Texts_head_19 : decode b_Texts_head 19 = .ok (.lshl, 1) := by decide +kernel
theorem d_Texts_head_20 : decode b_Texts_head 20 = .ok (.land, 1) := by decide +kernel
theorem d_Texts_head_21 : decode b_Texts_head 21 = .ok (.lreturn, 1) := by decide +kernel
theorem d_Texts_tail_0 : decode b_Texts_tail 0 = .ok (.iload_n 2, 1) := by decide +kernel
theorem d_Texts_tail_1 : decode b_Texts_tail 1 = .ok (.bipush 8, 2) := by decide +kernel
theorem d_Texts_tail_3 : decode b_Texts_tail 3 = .ok (.if_icmp .lt 7, 3) := by decide +kernel
theorem d_Texts_tail_6 : decode b_Texts_tail 6 = .ok (.lconst 0, 1) := by decide +kernel
theorem d_Texts_tail_7 : decode b_Texts_tail 7 = .ok (.goto 9, 3) := by decide +kernel
theorem d_Texts_tail_10 : decode b_Texts_tail 10 = .ok (.lload_n 0, 1) := by decide +kernel
theorem d_Texts_tail_11 : decode b_Texts_tail 11 = .ok (.bipush 8, 2) := by decide +kernel
theorem d_Texts_tail_13 : decode b_Texts_tail 13 = .ok (.iload_n 2, 1) := by decide +kernel
theorem d_Texts_tail_14 : decode b_Texts_tail 14 = .ok (.imul, 1) := by decide +kernel
theorem d_Texts_tail_15 : decode b_Texts_tail 15 = .ok (.lshl, 1) := by decide +kernel
theorem d_Texts_tail_16 : decode b_Texts_tail 16 = .ok (.lreturn, 1) := by decide +kernel
theorem d_Texts_sharedLetters_0 : decode b_Texts_sharedLetters 0 = .ok (.iconst 0, 1) := by decide +kernel
theorem d_Texts_sharedLetters_1 : decode b_Texts_sharedLetters 1 = .ok (.istore 4, 2) := by decide +kernel
theorem d_Texts_sharedLetters_3 : decode b_Texts_sharedLetters 3 = .ok (.iload 4, 2) := by decide +kernel
theorem d_Texts_sharedLetters_5 : decode b_Texts_sharedLetters 5 = .ok (.bipush 8, 2) := by decide +kernel
theorem d_Texts_sharedLetters_7 : decode b_Texts_sharedLetters 7 = .ok (.if_icmp .ge 33, 3) := by decide +kernel
theorem d_Texts_sharedLetters_10 : decode b_Texts_sharedLetters 10 = .ok (.lload_n 0, 1) := by decide +kernel
theorem d_Texts_sharedLetters_11 : decode b_Texts_sharedLetters 11 = .ok (.iload 4, 2) := by decide +kernel
theorem d_Texts_sharedLetters_13 : decode b_Texts_sharedLetters 13 = .ok (.invokestatic 21, 3) := by decide +kernel
theorem d_Texts_sharedLetters_16 : decode b_Texts_sharedLetters 16 = .ok (.ifCond .eq 24, 3) := by decide +kernel
theorem d_Texts_sharedLetters_19 : decode b_Texts_sharedLetters 19 = .ok (.lload_n 0, 1) := by decide +kernel
theorem d_Texts_sharedLetters_20 : decode b_Texts_sharedLetters 20 = .ok (.iload 4, 2) := by decide +kernel
theorem d_Texts_sharedLetters_22 : decode b_Texts_sharedLetters 22 = .ok (.invokestatic 21, 3) := by decide +kernel
theorem d_Texts_sharedLetters_25 : decode b_Texts_sharedLetters 25 = .ok (.lload_n 2, 1) := by decide +kernel
theorem d_Texts_sharedLetters_26 : decode b_Texts_sharedLetters 26 = .ok (.iload 4, 2) := by decide +kernel
theorem d_Texts_sharedLetters_28 : decode b_Texts_sharedLetters 28 = .ok (.invokestatic 21, 3) := by decide +kernel
theorem d_Texts_sharedLetters_31 : decode b_Texts_sharedLetters 31 = .ok (.if_icmp .ne 9, 3) := by decide +kernel
theorem d_Texts_sharedLetters_34 : decode b_Texts_sharedLetters 34 = .ok (.iinc 4 1, 3) := by decide +kernel
theorem d_Texts_sharedLetters_37 : decode b_Texts_sharedLetters 37 = .ok (.goto (-34), 3) := by decide +kernel
theorem d_Texts_sharedLetters_40 : decode b_Texts_sharedLetters 40 = .ok (.iload 4, 2) := by decide +kernel
theorem d_Texts_sharedLetters_42 : decode b_Texts_sharedLetters 42 = .ok (.ireturn, 1) := by decide +kernel
theorem d_WordList_init_0 : decode b_WordList_init 0 = .ok (.aload_n 0, 1) := by decide +kernel
theorem d_WordList_init_1 : decode b_WordList_init 1 = .ok (.invokespecial 3, 3) := by decide +kernel
theorem d_WordList_init_4 : decode b_WordList_init 4 = .ok (.aload_n 0, 1) := by decide +kernel
theorem d_WordList_init_5 : decode b_WordList_init 5 = .ok (.bipush 24, 2) := by decide +kernel
theorem d_WordList_init_7 : decode b_WordList_init 7 = .ok (.newarray .long, 2) := by decide +kernel
theorem d_WordList_init_9 : decode b_WordList_init 9 = .ok (.putfield 9, 3) := by decide +kernel
theorem d_WordList_init_12 : decode b_WordList_init 12 = .ok (.aload_n 0, 1) := by decide +kernel
theorem d_WordList_init_13 : decode b_WordList_init 13 = .ok (.bipush 24, 2) := by decide +kernel
theorem d_WordList_init_15 : decode b_WordList_init 15 = .ok (.newarray .int, 2) := by decide +kernel
theorem d_WordList_init_17 : decode b_WordList_init 17 = .ok (.putfield 15, 3) := by decide +kernel
theorem d_WordList_init_20 : decode b_WordList_init 20 = .ok (.aload_n 0, 1) := by decide +kernel
theorem d_WordList_init_21 : decode b_WordList_init 21 = .ok (.iconst 0, 1) := by decide +kernel
theorem d_WordList_init_22 : decode b_WordList_init 22 = .ok (.putfield 19, 3) := by decide +kernel
theorem d_WordList_init_25 : decode b_WordList_init 25 = .ok (.return_, 1) := by decide +kernel
theorem d_WordList_size_0 : decode b_WordList_size 0 = .ok (.aload_n 0, 1) := by decide +kernel
theorem d_WordList_size_1 : decode b_WordList_size 1 = .ok (.getfield 19, 3) := by decide +kernel
theorem d_WordList_size_4 : decode b_WordList_size 4 = .ok (.ireturn, 1) := by decide +kernel
theorem d_WordList_textAt_0 : decode b_WordList_textAt 0 = .ok (.aload_n 0, 1) := by decide +kernel
theorem d_WordList_textAt_1 : decode b_WordList_textAt 1 = .ok (.getfield 9, 3) := by decide +kernel
theorem d_WordList_textAt_4 : decode b_WordList_textAt 4 = .ok (.iload_n 1, 1) := by decide +kernel
theorem d_WordList_textAt_5 : decode b_WordList_textAt 5 = .ok (.laload, 1) := by decide +kernel
theorem d_WordList_textAt_6 : decode b_WordList_textAt 6 = .ok (.lreturn, 1) := by decide +kernel
theorem d_WordList_costAt_0 : decode b_WordList_costAt 0 = .ok (.aload_n 0, 1) := by decide +kernel
theorem d_WordList_costAt_1 : decode b_WordList_costAt 1 = .ok (.getfield 15, 3) := by decide +kernel
theorem d_WordList_costAt_4 : decode b_WordList_costAt 4 = .ok (.iload_n 1, 1) := by decide +kernel
theorem d_WordList_costAt_5 : decode b_WordList_costAt 5 = .ok (.iaload, 1) := by decide +kernel
theorem d_WordList_costAt_6 : decode b_WordList_costAt 6 = .ok (.ireturn, 1) := by decide +kernel
theorem d_WordList_indexOf_0 : decode b_WordList_indexOf 0 = .ok (.aload_n 0, 1) := by decide +kernel
theorem d_WordList_indexOf_1 : decode b_WordList_indexOf 1 = .ok (.lload_n 1, 1) := by decide +kernel
theorem d_WordList_indexOf_2 : decode b_WordList_indexOf 2 = .ok (.invokevirtual 23, 3) := by decide +kernel
theorem d_WordList_indexOf_5 : decode b_WordList_indexOf 5 = .ok (.istore_n 3, 1) := by decide +kernel
theorem d_WordList_indexOf_6 : decode b_WordList_indexOf 6 = .ok (.iload_n 3, 1) := by decide +kernel
theorem d_WordList_indexOf_7 : decode b_WordList_indexOf 7 = .ok (.aload_n 0, 1) := by decide +kernel
theorem d_WordList_indexOf_8 : decode b_WordList_indexOf 8 = .ok (.getfield 19, 3) := by decide +kernel
theorem d_WordList_indexOf_11 : decode b_WordList_indexOf 11 = .ok (.if_icmp .ge 18, 3) := by decide +kernel
theorem d_WordList_indexOf_14 : decode b_WordList_indexOf 14 = .ok (.aload_n 0, 1) := by decide +kernel
theorem d_WordList_indexOf_15 : decode b_WordList_indexOf 15 = .ok (.getfield 9, 3) := by decide +kernel
theorem d_WordList_indexOf_18 : decode b_WordList_indexOf 18 = .ok (.iload_n 3, 1) := by decide +kernel
theorem d_WordList_indexOf_19 : decode b_WordList_indexOf 19 = .ok (.laload, 1) := by decide +kernel
theorem d_WordList_indexOf_20 : decode b_WordList_indexOf 20 = .ok (.lload_n 1, 1) := by decide +kernel
theorem d_WordList_indexOf_21 : decode b_WordList_indexOf 21 = .ok (.lcmp, 1) := by decide +kernel
theorem d_WordList_indexOf_22 : decode b_WordList_indexOf 22 = .ok (.ifCond .ne 7, 3) := by decide +kernel
theorem d_WordList_indexOf_25 : decode b_WordList_indexOf 25 = .ok (.iload_n 3, 1) := by decide +kernel
theorem d_WordList_indexOf_26 : decode b_WordList_indexOf 26 = .ok (.goto 4, 3) := by decide +kernel
theorem d_WordList_indexOf_29 : decode b_WordList_indexOf 29 = .ok (.iconst (-1), 1) := by decide +kernel
theorem d_WordList_indexOf_30 : decode b_WordList_indexOf 30 = .ok (.ireturn, 1) := by decide +kernel
theorem d_WordList_put_0 : decode b_WordList_put 0 = .ok (.aload_n 0, 1) := by decide +kernel
theorem d_WordList_put_1 : decode b_WordList_put 1 = .ok (.lload_n 1, 1) := by decide +kernel
theorem d_WordList_put_2 : decode b_WordList_put 2 = .ok (.invokevirtual 23, 3) := by decide +kernel
theorem d_WordList_put_5 : decode b_WordList_put 5 = .ok (.istore 4, 2) := by decide +kernel
theorem d_WordList_put_7 : decode b_WordList_put 7 = .ok (.iload 4, 2) := by decide +kernel
theorem d_WordList_put_9 : decode b_WordList_put 9 = .ok (.aload_n 0, 1) := by decide +kernel
theorem d_WordList_put_10 : decode b_WordList_put 10 = .ok (.getfield 19, 3) := by decide +kernel
theorem d_WordList_put_13 : decode b_WordList_put 13 = .ok (.if_icmp .ge 25, 3) := by decide +kernel
theorem d_WordList_put_16 : decode b_WordList_put 16 = .ok (.aload_n 0, 1) := by decide +kernel
theorem d_WordList_put_17 : decode b_WordList_put 17 = .ok (.getfield 9, 3) := by decide +kernel
theorem d_WordList_put_20 : decode b_WordList_put 20 = .ok (.iload 4, 2) := by decide +kernel
theorem d_WordList_put_22 : decode b_WordList_put 22 = .ok (.laload, 1) := by decide +kernel
theorem d_WordList_put_23 : decode b_WordList_put 23 = .ok (.lload_n 1, 1) := by decide +kernel
theorem d_WordList_put_24 : decode b_WordList_put 24 = .ok (.lcmp, 1) := by decide +kernel
theorem d_WordList_put_25 : decode b_WordList_put 25 = .ok (.ifCond .ne 13, 3) := by decide +kernel
theorem d_WordList_put_28 : decode b_WordList_put 28 = .ok (.aload_n 0, 1) := by decide +kernel
theorem d_WordList_put_29 : decode b_WordList_put 29 = .ok (.getfield 15, 3) := by decide +kernel
theorem d_WordList_put_32 : decode b_WordList_put 32 = .ok (.iload 4, 2) := by decide +kernel
theorem d_WordList_put_34 : decode b_WordList_put 34 = .ok (.iload_n 3, 1) := by decide +kernel
theorem d_WordList_put_35 : decode b_WordList_put 35 = .ok (.iastore, 1) := by decide +kernel
theorem d_WordList_put_36 : decode b_WordList_put 36 = .ok (.iconst 1, 1) := by decide +kernel
theorem d_WordList_put_37 : decode b_WordList_put 37 = .ok (.ireturn, 1) := by decide +kernel
theorem d_WordList_put_38 : decode b_WordList_put 38 = .ok (.aload_n 0, 1) := by decide +kernel
theorem d_WordList_put_39 : decode b_WordList_put 39 = .ok (.getfield 19, 3) := by decide +kernel
theorem d_WordList_put_42 : decode b_WordList_put 42 = .ok (.bipush 24, 2) := by decide +kernel
theorem d_WordList_put_44 : decode b_WordList_put 44 = .ok (.if_icmp .lt 5, 3) := by decide +kernel
theorem d_WordList_put_47 : decode b_WordList_put 47 = .ok (.iconst 0, 1) := by decide +kernel
theorem d_WordList_put_48 : decode b_WordList_put 48 = .ok (.ireturn, 1) := by decide +kernel
theorem d_WordList_put_49 : decode b_WordList_put 49 = .ok (.aload_n 0, 1) := by decide +kernel
theorem d_WordList_put_50 : decode b_WordList_put 50 = .ok (.getfield 19, 3) := by decide +kernel
theorem d_WordList_put_53 : decode b_WordList_put 53 = .ok (.istore 5, 2) := by decide +kernel
theorem d_WordList_put_55 : decode b_WordList_put 55 = .ok (.iload 5, 2) := by decide +kernel
theorem d_WordList_put_57 : decode b_WordList_put 57 = .ok (.iload 4, 2) := by decide +kernel
theorem d_WordList_put_59 : decode b_WordList_put 59 = .ok (.if_icmp .le 41, 3) := by decide +kernel
theorem d_WordList_put_62 : decode b_WordList_put 62 = .ok (.aload_n 0, 1) := by decide +kernel
theorem d_WordList_put_63 : decode b_WordList_put 63 = .ok (.getfield 9, 3) := by decide +kernel
theorem d_WordList_put_66 : decode b_WordList_put 66 = .ok (.iload 5, 2) := by decide +kernel
theorem d_WordList_put_68 : decode b_WordList_put 68 = .ok (.aload_n 0, 1) := by decide +kernel
theorem d_WordList_put_69 : decode b_WordList_put 69 = .ok (.getfield 9, 3) := by decide +kernel
theorem d_WordList_put_72 : decode b_WordList_put 72 = .ok (.iload 5, 2) := by decide +kernel
theorem d_WordList_put_74 : decode b_WordList_put 74 = .ok (.iconst 1, 1) := by decide +kernel
theorem d_WordList_put_75 : decode b_WordList_put 75 = .ok (.isub, 1) := by decide +kernel
theorem d_WordList_put_76 : decode b_WordList_put 76 = .ok (.laload, 1) := by decide +kernel
theorem d_WordList_put_77 : decode b_WordList_put 77 = .ok (.lastore, 1) := by decide +kernel
theorem d_WordList_put_78 : decode b_WordList_put 78 = .ok (.aload_n 0, 1) := by decide +kernel
theorem d_WordList_put_79 : decode b_WordList_put 79 = .ok (.getfield 15, 3) := by decide +kernel
theorem d_WordList_put_82 : decode b_WordList_put 82 = .ok (.iload 5, 2) := by decide +kernel
theorem d_WordList_put_84 : decode b_WordList_put 84 = .ok (.aload_n 0, 1) := by decide +kernel
theorem d_WordList_put_85 : decode b_WordList_put 85 = .ok (.getfield 15, 3) := by decide +kernel
theorem d_WordList_put_88 : decode b_WordList_put 88 = .ok (.iload 5, 2) := by decide +kernel
theorem d_WordList_put_90 : decode b_WordList_put 90 = .ok (.iconst 1, 1) := by decide +kernel
theorem d_WordList_put_91 : decode b_WordList_put 91 = .ok (.isub, 1) := by decide +kernel
theorem d_WordList_put_92 : decode b_WordList_put 92 = .ok (.iaload, 1) := by decide +kernel
theorem d_WordList_put_93 : decode b_WordList_put 93 = .ok (.iastore, 1) := by decide +kernel
theorem d_WordList_put_94 : decode b_WordList_put 94 = .ok (.iinc 5 (-1), 3) := by decide +kernel
theorem d_WordList_put_97 : decode b_WordList_put 97 = .ok (.goto (-42), 3) := by decide +kernel
theorem d_WordList_put_100 : decode b_WordList_put 100 = .ok (.aload_n 0, 1) := by decide +kernel
theorem d_WordList_put_101 : decode b_WordList_put 101 = .ok (.getfield 9, 3) := by decide +kernel
theorem d_WordList_put_104 : decode b_WordList_put 104 = .ok (.iload 4, 2) := by decide +kernel
theorem d_WordList_put_106 : decode b_WordList_put 106 = .ok (.lload_n 1, 1) := by decide +kernel
theorem d_WordList_put_107 : decode b_WordList_put 107 = .ok (.lastore, 1) := by decide +kernel
theorem d_WordList_put_108 : decode b_WordList_put 108 = .ok (.aload_n 0, 1) := by decide +kernel
theorem d_WordList_put_109 : decode b_WordList_put 109 = .ok (.getfield 15, 3) := by decide +kernel
theorem d_WordList_put_112 : decode b_WordList_put 112 = .ok (.iload 4, 2) := by decide +kernel
theorem d_WordList_put_114 : decode b_WordList_put 114 = .ok (.iload_n 3, 1) := by decide +kernel
theorem d_WordList_put_115 : decode b_WordList_put 115 = .ok (.iastore, 1) := by decide +kernel
theorem d_WordList_put_116 : decode b_WordList_put 116 = .ok (.aload_n 0, 1) := by decide +kernel
theorem d_WordList_put_117 : decode b_WordList_put 117 = .ok (.dup, 1) := by decide +kernel
theorem d_WordList_put_118 : decode b_WordList_put 118 = .ok (.getfield 19, 3) := by decide +kernel
theorem d_WordList_put_121 : decode b_WordList_put 121 = .ok (.iconst 1, 1) := by decide +kernel
theorem d_WordList_put_122 : decode b_WordList_put 122 = .ok (.iadd, 1) := by decide +kernel
theorem d_WordList_put_123 : decode b_WordList_put 123 = .ok (.putfield 19, 3) := by decide +kernel
theorem d_WordList_put_126 : decode b_WordList_put 126 = .ok (.iconst 1, 1) := by decide +kernel
theorem d_WordList_put_127 : decode b_WordList_put 127 = .ok (.ireturn, 1) := by decide +kernel
theorem d_WordList_remove_0 : decode b_WordList_remove 0 = .ok (.aload_n 0, 1) := by decide +kernel
theorem d_WordList_remove_1 : decode b_WordList_remove 1 = .ok (.lload_n 1, 1) := by decide +kernel
theorem d_WordList_remove_2 : decode b_WordList_remove 2 = .ok (.invokevirtual 27, 3) := by decide +kernel
theorem d_WordList_remove_5 : decode b_WordList_remove 5 = .ok (.istore_n 3, 1) := by decide +kernel
theorem d_WordList_remove_6 : decode b_WordList_remove 6 = .ok (.iload_n 3, 1) := by decide +kernel
theorem d_WordList_remove_7 : decode b_WordList_remove 7 = .ok (.ifCond .ge 5, 3) := by decide +kernel
theorem d_WordList_remove_10 : decode b_WordList_remove 10 = .ok (.iconst 0, 1) := by decide +kernel
theorem d_WordList_remove_11 : decode b_WordList_remove 11 = .ok (.ireturn, 1) := by decide +kernel
theorem d_WordList_remove_12 : decode b_WordList_remove 12 = .ok (.aload_n 0, 1) := by decide +kernel
theorem d_WordList_remove_13 : decode b_WordList_remove 13 = .ok (.dup, 1) := by decide +kernel
theorem d_WordList_remove_14 : decode b_WordList_remove 14 = .ok (.getfield 19, 3) := by decide +kernel
theorem d_WordList_remove_17 : decode b_WordList_remove 17 = .ok (.iconst 1, 1) := by decide +kernel
theorem d_WordList_remove_18 : decode b_WordList_remove 18 = .ok (.isub, 1) := by decide +kernel
theorem d_WordList_remove_19 : decode b_WordList_remove 19 = .ok (.putfield 19, 3) := by decide +kernel
theorem d_WordList_remove_22 : decode b_WordList_remove 22 = .ok (.iload_n 3, 1) := by decide +kernel
theorem d_WordList_remove_23 : decode b_WordList_remove 23 = .ok (.istore 4, 2) := by decide +kernel
theorem d_WordList_remove_25 : decode b_WordList_remove 25 = .ok (.iload 4, 2) := by decide +kernel
theorem d_WordList_remove_27 : decode b_WordList_remove 27 = .ok (.aload_n 0, 1) := by decide +kernel
theorem d_WordList_remove_28 : decode b_WordList_remove 28 = .ok (.getfield 19, 3) := by decide +kernel
theorem d_WordList_remove_31 : decode b_WordList_remove 31 = .ok (.if_icmp .ge 41, 3) := by decide +kernel
theorem d_WordList_remove_34 : decode b_WordList_remove 34 = .ok (.aload_n 0, 1) := by decide +kernel
theorem d_WordList_remove_35 : decode b_WordList_remove 35 = .ok (.getfield 9, 3) := by decide +kernel
theorem d_WordList_remove_38 : decode b_WordList_remove 38 = .ok (.iload 4, 2) := by decide +kernel
theorem d_WordList_remove_40 : decode b_WordList_remove 40 = .ok (.aload_n 0, 1) := by decide +kernel
theorem d_WordList_remove_41 : decode b_WordList_remove 41 = .ok (.getfield 9, 3) := by decide +kernel
theorem d_WordList_remove_44 : decode b_WordList_remove 44 = .ok (.iload 4, 2) := by decide +kernel
theorem d_WordList_remove_46 : decode b_WordList_remove 46 = .ok (.iconst 1, 1) := by decide +kernel
theorem d_WordList_remove_47 : decode b_WordList_remove 47 = .ok (.iadd, 1) := by decide +kernel
theorem d_WordList_remove_48 : decode b_WordList_remove 48 = .ok (.laload, 1) := by decide +kernel
theorem d_WordList_remove_49 : decode b_WordList_remove 49 = .ok (.lastore, 1) := by decide +kernel
theorem d_WordList_remove_50 : decode b_WordList_remove 50 = .ok (.aload_n 0, 1) := by decide +kernel
theorem d_WordList_remove_51 : decode b_WordList_remove 51 = .ok (.getfield 15, 3) := by decide +kernel
theorem d_WordList_remove_54 : decode b_WordList_remove 54 = .ok (.iload 4, 2) := by decide +kernel
theorem d_WordList_remove_56 : decode b_WordList_remove 56 = .ok (.aload_n 0, 1) := by decide +kernel
theorem d_WordList_remove_57 : decode b_WordList_remove 57 = .ok (.getfield 15, 3) := by decide +kernel
theorem d_WordList_remove_60 : decode b_WordList_remove 60 = .ok (.iload 4, 2) := by decide +kernel
theorem d_WordList_remove_62 : decode b_WordList_remove 62 = .ok (.iconst 1, 1) := by decide +kernel
theorem d_WordList_remove_63 : decode b_WordList_remove 63 = .ok (.iadd, 1) := by decide +kernel
theorem d_WordList_remove_64 : decode b_WordList_remove 64 = .ok (.iaload, 1) := by decide +kernel
theorem d_WordList_remove_65 : decode b_WordList_remove 65 = .ok (.iastore, 1) := by decide +kernel
theorem d_WordList_remove_66 : decode b_WordList_remove 66 = .ok (.iinc 4 1, 3) := by decide +kernel
theorem d_WordList_remove_69 : decode b_WordList_remove 69 = .ok (.goto (-44), 3) := by decide +kernel
theorem d_WordList_remove_72 : decode b_WordList_remove 72 = .ok (.iconst 1, 1) := by decide +kernel
theorem d_WordList_remove_73 : decode b_WordList_remove 73 = .ok (.ireturn, 1) := by decide +kernel
theorem d_WordList_copyFrom_0 : decode b_WordList_copyFrom 0 = .ok (.aload_n 0, 1) := by decide +kernel
theorem d_WordList_copyFrom_1 : decode b_WordList_copyFrom 1 = .ok (.aload_n 1, 1) := by decide +kernel
theorem d_WordList_copyFrom_2 : decode b_WordList_copyFrom 2 = .ok (.getfield 19, 3) := by decide +kernel
theorem d_WordList_copyFrom_5 : decode b_WordList_copyFrom 5 = .ok (.putfield 19, 3) := by decide +kernel
theorem d_WordList_copyFrom_8 : decode b_WordList_copyFrom 8 = .ok (.iconst 0, 1) := by decide +kernel
theorem d_WordList_copyFrom_9 : decode b_WordList_copyFrom 9 = .ok (.istore_n 2, 1) := by decide +kernel
theorem d_WordList_copyFrom_10 : decode b_WordList_copyFrom 10 = .ok (.iload_n 2, 1) := by decide +kernel
theorem d_WordList_copyFrom_11 : decode b_WordList_copyFrom 11 = .ok (.aload_n 0, 1) := by decide +kernel
theorem d_WordList_copyFrom_12 : decode b_WordList_copyFrom 12 = .ok (.getfield 19, 3) := by decide +kernel
theorem d_WordList_copyFrom_15 : decode b_WordList_copyFrom 15 = .ok (.if_icmp .ge 33, 3) := by decide +kernel
theorem d_WordList_copyFrom_18 : decode b_WordList_copyFrom 18 = .ok (.aload_n 0, 1) := by decide +kernel
theorem d_WordList_copyFrom_19 : decode b_WordList_copyFrom 19 = .ok (.getfield 9, 3) := by decide +kernel
theorem d_WordList_copyFrom_22 : decode b_WordList_copyFrom 22 = .ok (.iload_n 2, 1) := by decide +kernel
theorem d_WordList_copyFrom_23 : decode b_WordList_copyFrom 23 = .ok (.aload_n 1, 1) := by decide +kernel
theorem d_WordList_copyFrom_24 : decode b_WordList_copyFrom 24 = .ok (.getfield 9, 3) := by decide +kernel
theorem d_WordList_copyFrom_27 : decode b_WordList_copyFrom 27 = .ok (.iload_n 2, 1) := by decide +kernel
theorem d_WordList_copyFrom_28 : decode b_WordList_copyFrom 28 = .ok (.laload, 1) := by decide +kernel
theorem d_WordList_copyFrom_29 : decode b_WordList_copyFrom 29 = .ok (.lastore, 1) := by decide +kernel
theorem d_WordList_copyFrom_30 : decode b_WordList_copyFrom 30 = .ok (.aload_n 0, 1) := by decide +kernel
theorem d_WordList_copyFrom_31 : decode b_WordList_copyFrom 31 = .ok (.getfield 15, 3) := by decide +kernel
theorem d_WordList_copyFrom_34 : decode b_WordList_copyFrom 34 = .ok (.iload_n 2, 1) := by decide +kernel
theorem d_WordList_copyFrom_35 : decode b_WordList_copyFrom 35 = .ok (.aload_n 1, 1) := by decide +kernel
theorem d_WordList_copyFrom_36 : decode b_WordList_copyFrom 36 = .ok (.getfield 15, 3) := by decide +kernel
theorem d_WordList_copyFrom_39 : decode b_WordList_copyFrom 39 = .ok (.iload_n 2, 1) := by decide +kernel
theorem d_WordList_copyFrom_40 : decode b_WordList_copyFrom 40 = .ok (.iaload, 1) := by decide +kernel
theorem d_WordList_copyFrom_41 : decode b_WordList_copyFrom 41 = .ok (.iastore, 1) := by decide +kernel
theorem d_WordList_copyFrom_42 : decode b_WordList_copyFrom 42 = .ok (.iinc 2 1, 3) := by decide +kernel
theorem d_WordList_copyFrom_45 : decode b_WordList_copyFrom 45 = .ok (.goto (-35), 3) := by decide +kernel
theorem d_WordList_copyFrom_48 : decode b_WordList_copyFrom 48 = .ok (.return_, 1) := by decide +kernel
theorem d_WordList_firstNotBefore_0 : decode b_WordList_firstNotBefore 0 = .ok (.iconst 0, 1) := by decide +kernel
theorem d_WordList_firstNotBefore_1 : decode b_WordList_firstNotBefore 1 = .ok (.istore_n 3, 1) := by decide +kernel
theorem d_WordList_firstNotBefore_2 : decode b_WordList_firstNotBefore 2 = .ok (.iload_n 3, 1) := by decide +kernel
theorem d_WordList_firstNotBefore_3 : decode b_WordList_firstNotBefore 3 = .ok (.aload_n 0, 1) := by decide +kernel
theorem d_WordList_firstNotBefore_4 : decode b_WordList_firstNotBefore 4 = .ok (.getfield 19, 3) := by decide +kernel
theorem d_WordList_firstNotBefore_7 : decode b_WordList_firstNotBefore 7 = .ok (.if_icmp .ge 20, 3) := by decide +kernel
theorem d_WordList_firstNotBefore_10 : decode b_WordList_firstNotBefore 10 = .ok (.aload_n 0, 1) := by decide +kernel
theorem d_WordList_firstNotBefore_11 : decode b_WordList_firstNotBefore 11 = .ok (.getfield 9, 3) := by decide +kernel
theorem d_WordList_firstNotBefore_14 : decode b_WordList_firstNotBefore 14 = .ok (.iload_n 3, 1) := by decide +kernel
theorem d_WordList_firstNotBefore_15 : decode b_WordList_firstNotBefore 15 = .ok (.laload, 1) := by decide +kernel
theorem d_WordList_firstNotBefore_16 : decode b_WordList_firstNotBefore 16 = .ok (.lload_n 1, 1) := by decide +kernel
theorem d_WordList_firstNotBefore_17 : decode b_WordList_firstNotBefore 17 = .ok (.lcmp, 1) := by decide +kernel
theorem d_WordList_firstNotBefore_18 : decode b_WordList_firstNotBefore 18 = .ok (.ifCond .ge 9, 3) := by decide +kernel
theorem d_WordList_firstNotBefore_21 : decode b_WordList_firstNotBefore 21 = .ok (.iinc 3 1, 3) := by decide +kernel
theorem d_WordList_firstNotBefore_24 : decode b_WordList_firstNotBefore 24 = .ok (.goto (-22), 3) := by decide +kernel
theorem d_WordList_firstNotBefore_27 : decode b_WordList_firstNotBefore 27 = .ok (.iload_n 3, 1) := by decide +kernel
theorem d_WordList_firstNotBefore_28 : decode b_WordList_firstNotBefore 28 = .ok (.ireturn, 1) := by decide +kernel
theorem d_L_word_0 : decode b_L_word 0 = .ok (.aload 4, 2) := by decide +kernel
