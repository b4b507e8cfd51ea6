theorem d_M_learn_29 : decode b_M_learn 29 = .ok (.aload_n 0, 1) := by decide +kernel
theorem d_M_learn_30 : decode b_M_learn 30 = .ok (.iload 5, 2) := by decide +kernel
theorem d_M_learn_32 : decode b_M_learn 32 = .ok (.iload 5, 2) := by decide +kernel
theorem d_M_learn_34 : decode b_M_learn 34 = .ok (.ifCond .ne 14, 3) := by decide +kernel
theorem d_M_learn_37 : decode b_M_learn 37 = .ok (.iload 6, 2) := by decide +kernel
theorem d_M_learn_39 : decode b_M_learn 39 = .ok (.bipush 40, 2) := by decide +kernel
theorem d_M_learn_41 : decode b_M_learn 41 = .ok (.if_icmp .ne 7, 3) := by decide +kernel
theorem d_M_learn_44 : decode b_M_learn 44 = .ok (.iconst 1, 1) := by decide +kernel
theorem d_M_learn_45 : decode b_M_learn 45 = .ok (.goto 4, 3) := by decide +kernel
theorem d_M_learn_48 : decode b_M_learn 48 = .ok (.iconst 0, 1) := by decide +kernel
theorem d_M_learn_49 : decode b_M_learn 49 = .ok (.invokevirtual 117, 3) := by decide +kernel
theorem d_M_learn_52 : decode b_M_learn 52 = .ok (.ifCond .eq 5, 3) := by decide +kernel
theorem d_M_learn_55 : decode b_M_learn 55 = .ok (.iconst 0, 1) := by decide +kernel
theorem d_M_learn_56 : decode b_M_learn 56 = .ok (.ireturn, 1) := by decide +kernel
theorem d_M_learn_57 : decode b_M_learn 57 = .ok (.iload 6, 2) := by decide +kernel
theorem d_M_learn_59 : decode b_M_learn 59 = .ok (.aload_n 0, 1) := by decide +kernel
theorem d_M_learn_60 : decode b_M_learn 60 = .ok (.getfield 179, 3) := by decide +kernel
theorem d_M_learn_63 : decode b_M_learn 63 = .ok (.if_icmp .ne 37, 3) := by decide +kernel
theorem d_M_learn_66 : decode b_M_learn 66 = .ok (.aload_n 0, 1) := by decide +kernel
theorem d_M_learn_67 : decode b_M_learn 67 = .ok (.dup, 1) := by decide +kernel
theorem d_M_learn_68 : decode b_M_learn 68 = .ok (.getfield 179, 3) := by decide +kernel
theorem d_M_learn_71 : decode b_M_learn 71 = .ok (.iconst 1, 1) := by decide +kernel
theorem d_M_learn_72 : decode b_M_learn 72 = .ok (.iadd, 1) := by decide +kernel
theorem d_M_learn_73 : decode b_M_learn 73 = .ok (.putfield 179, 3) := by decide +kernel
theorem d_M_learn_76 : decode b_M_learn 76 = .ok (.aload_n 0, 1) := by decide +kernel
theorem d_M_learn_77 : decode b_M_learn 77 = .ok (.getfield 62, 3) := by decide +kernel
theorem d_M_learn_80 : decode b_M_learn 80 = .ok (.iload 6, 2) := by decide +kernel
theorem d_M_learn_82 : decode b_M_learn 82 = .ok (.lload_n 1, 1) := by decide +kernel
theorem d_M_learn_83 : decode b_M_learn 83 = .ok (.lastore, 1) := by decide +kernel
theorem d_M_learn_84 : decode b_M_learn 84 = .ok (.aload_n 0, 1) := by decide +kernel
theorem d_M_learn_85 : decode b_M_learn 85 = .ok (.getfield 65, 3) := by decide +kernel
theorem d_M_learn_88 : decode b_M_learn 88 = .ok (.iload 6, 2) := by decide +kernel
theorem d_M_learn_90 : decode b_M_learn 90 = .ok (.lload_n 3, 1) := by decide +kernel
theorem d_M_learn_91 : decode b_M_learn 91 = .ok (.lastore, 1) := by decide +kernel
theorem d_M_learn_92 : decode b_M_learn 92 = .ok (.aload_n 0, 1) := by decide +kernel
theorem d_M_learn_93 : decode b_M_learn 93 = .ok (.getfield 68, 3) := by decide +kernel
theorem d_M_learn_96 : decode b_M_learn 96 = .ok (.iload 6, 2) := by decide +kernel
theorem d_M_learn_98 : decode b_M_learn 98 = .ok (.iconst 0, 1) := by decide +kernel
theorem d_M_learn_99 : decode b_M_learn 99 = .ok (.iastore, 1) := by decide +kernel
theorem d_M_learn_100 : decode b_M_learn 100 = .ok (.aload_n 0, 1) := by decide +kernel
theorem d_M_learn_101 : decode b_M_learn 101 = .ok (.getfield 68, 3) := by decide +kernel
theorem d_M_learn_104 : decode b_M_learn 104 = .ok (.iload 6, 2) := by decide +kernel
theorem d_M_learn_106 : decode b_M_learn 106 = .ok (.dup2, 1) := by decide +kernel
theorem d_M_learn_107 : decode b_M_learn 107 = .ok (.iaload, 1) := by decide +kernel
theorem d_M_learn_108 : decode b_M_learn 108 = .ok (.iconst 1, 1) := by decide +kernel
theorem d_M_learn_109 : decode b_M_learn 109 = .ok (.iadd, 1) := by decide +kernel
theorem d_M_learn_110 : decode b_M_learn 110 = .ok (.iastore, 1) := by decide +kernel
theorem d_M_learn_111 : decode b_M_learn 111 = .ok (.aload_n 0, 1) := by decide +kernel
theorem d_M_learn_112 : decode b_M_learn 112 = .ok (.getfield 68, 3) := by decide +kernel
theorem d_M_learn_115 : decode b_M_learn 115 = .ok (.iload 6, 2) := by decide +kernel
theorem d_M_learn_117 : decode b_M_learn 117 = .ok (.iaload, 1) := by decide +kernel
theorem d_M_learn_118 : decode b_M_learn 118 = .ok (.ireturn, 1) := by decide +kernel
theorem d_M_say_0 : decode b_M_say 0 = .ok (.lload_n 1, 1) := by decide +kernel
theorem d_M_say_1 : decode b_M_say 1 = .ok (.invokestatic 111, 3) := by decide +kernel
theorem d_M_say_4 : decode b_M_say 4 = .ok (.ifCond .ne 7, 3) := by decide +kernel
theorem d_M_say_7 : decode b_M_say 7 = .ok (.iconst 1, 1) := by decide +kernel
theorem d_M_say_8 : decode b_M_say 8 = .ok (.goto 4, 3) := by decide +kernel
theorem d_M_say_11 : decode b_M_say 11 = .ok (.iconst 0, 1) := by decide +kernel
theorem d_M_say_12 : decode b_M_say 12 = .ok (.istore_n 3, 1) := by decide +kernel
theorem d_M_say_13 : decode b_M_say 13 = .ok (.aload_n 0, 1) := by decide +kernel
theorem d_M_say_14 : decode b_M_say 14 = .ok (.iload_n 3, 1) := by decide +kernel
theorem d_M_say_15 : decode b_M_say 15 = .ok (.iload_n 3, 1) := by decide +kernel
theorem d_M_say_16 : decode b_M_say 16 = .ok (.ifCond .ne 15, 3) := by decide +kernel
theorem d_M_say_19 : decode b_M_say 19 = .ok (.aload_n 0, 1) := by decide +kernel
theorem d_M_say_20 : decode b_M_say 20 = .ok (.getfield 185, 3) := by decide +kernel
theorem d_M_say_23 : decode b_M_say 23 = .ok (.iconst 4, 1) := by decide +kernel
theorem d_M_say_24 : decode b_M_say 24 = .ok (.if_icmp .ne 7, 3) := by decide +kernel
theorem d_M_say_27 : decode b_M_say 27 = .ok (.iconst 1, 1) := by decide +kernel
theorem d_M_say_28 : decode b_M_say 28 = .ok (.goto 4, 3) := by decide +kernel
theorem d_M_say_31 : decode b_M_say 31 = .ok (.iconst 0, 1) := by decide +kernel
theorem d_M_say_32 : decode b_M_say 32 = .ok (.invokevirtual 117, 3) := by decide +kernel
theorem d_M_say_35 : decode b_M_say 35 = .ok (.ifCond .eq 5, 3) := by decide +kernel
theorem d_M_say_38 : decode b_M_say 38 = .ok (.iconst 0, 1) := by decide +kernel
theorem d_M_say_39 : decode b_M_say 39 = .ok (.ireturn, 1) := by decide +kernel
theorem d_M_say_40 : decode b_M_say 40 = .ok (.aload_n 0, 1) := by decide +kernel
theorem d_M_say_41 : decode b_M_say 41 = .ok (.getfield 71, 3) := by decide +kernel
theorem d_M_say_44 : decode b_M_say 44 = .ok (.aload_n 0, 1) := by decide +kernel
theorem d_M_say_45 : decode b_M_say 45 = .ok (.getfield 185, 3) := by decide +kernel
theorem d_M_say_48 : decode b_M_say 48 = .ok (.lload_n 1, 1) := by decide +kernel
theorem d_M_say_49 : decode b_M_say 49 = .ok (.lastore, 1) := by decide +kernel
theorem d_M_say_50 : decode b_M_say 50 = .ok (.aload_n 0, 1) := by decide +kernel
theorem d_M_say_51 : decode b_M_say 51 = .ok (.dup, 1) := by decide +kernel
theorem d_M_say_52 : decode b_M_say 52 = .ok (.getfield 185, 3) := by decide +kernel
theorem d_M_say_55 : decode b_M_say 55 = .ok (.iconst 1, 1) := by decide +kernel
theorem d_M_say_56 : decode b_M_say 56 = .ok (.iadd, 1) := by decide +kernel
theorem d_M_say_57 : decode b_M_say 57 = .ok (.putfield 185, 3) := by decide +kernel
theorem d_M_say_60 : decode b_M_say 60 = .ok (.aload_n 0, 1) := by decide +kernel
theorem d_M_say_61 : decode b_M_say 61 = .ok (.getfield 185, 3) := by decide +kernel
theorem d_M_say_64 : decode b_M_say 64 = .ok (.ireturn, 1) := by decide +kernel
theorem d_M_gather_0 : decode b_M_gather 0 = .ok (.aload_n 0, 1) := by decide +kernel
theorem d_M_gather_1 : decode b_M_gather 1 = .ok (.getfield 77, 3) := by decide +kernel
theorem d_M_gather_4 : decode b_M_gather 4 = .ok (.iload_n 2, 1) := by decide +kernel
theorem d_M_gather_5 : decode b_M_gather 5 = .ok (.iconst 0, 1) := by decide +kernel
theorem d_M_gather_6 : decode b_M_gather 6 = .ok (.iastore, 1) := by decide +kernel
theorem d_M_gather_7 : decode b_M_gather 7 = .ok (.iconst 0, 1) := by decide +kernel
theorem d_M_gather_8 : decode b_M_gather 8 = .ok (.istore_n 3, 1) := by decide +kernel
theorem d_M_gather_9 : decode b_M_gather 9 = .ok (.iload_n 3, 1) := by decide +kernel
theorem d_M_gather_10 : decode b_M_gather 10 = .ok (.aload_n 0, 1) := by decide +kernel
theorem d_M_gather_11 : decode b_M_gather 11 = .ok (.getfield 20, 3) := by decide +kernel
theorem d_M_gather_14 : decode b_M_gather 14 = .ok (.iload_n 1, 1) := by decide +kernel
theorem d_M_gather_15 : decode b_M_gather 15 = .ok (.iaload, 1) := by decide +kernel
theorem d_M_gather_16 : decode b_M_gather 16 = .ok (.if_icmp .ge 112, 3) := by decide +kernel
theorem d_M_gather_19 : decode b_M_gather 19 = .ok (.aload_n 0, 1) := by decide +kernel
theorem d_M_gather_20 : decode b_M_gather 20 = .ok (.aload_n 0, 1) := by decide +kernel
theorem d_M_gather_21 : decode b_M_gather 21 = .ok (.getfield 71, 3) := by decide +kernel
theorem d_M_gather_24 : decode b_M_gather 24 = .ok (.iload_n 2, 1) := by decide +kernel
theorem d_M_gather_25 : decode b_M_gather 25 = .ok (.laload, 1) := by decide +kernel
theorem d_M_gather_26 : decode b_M_gather 26 = .ok (.aload_n 0, 1) := by decide +kernel
theorem d_M_gather_27 : decode b_M_gather 27 = .ok (.getfield 26, 3) := by decide +kernel
theorem d_M_gather_30 : decode b_M_gather 30 = .ok (.bipush 24, 2) := by decide +kernel
theorem d_M_gather_32 : decode b_M_gather 32 = .ok (.iload_n 1, 1) := by decide +kernel
theorem d_M_gather_33 : decode b_M_gather 33 = .ok (.imul, 1) := by decide +kernel
theorem d_M_gather_34 : decode b_M_gather 34 = .ok (.iload_n 3, 1) := by decide +kernel
theorem d_M_gather_35 : decode b_M_gather 35 = .ok (.iadd, 1) := by decide +kernel
theorem d_M_gather_36 : decode b_M_gather 36 = .ok (.laload, 1) := by decide +kernel
theorem d_M_gather_37 : decode b_M_gather 37 = .ok (.invokevirtual 176, 3) := by decide +kernel
theorem d_M_gather_40 : decode b_M_gather 40 = .ok (.istore 4, 2) := by decide +kernel
theorem d_M_gather_42 : decode b_M_gather 42 = .ok (.iload 4, 2) := by decide +kernel
theorem d_M_gather_44 : decode b_M_gather 44 = .ok (.iconst 1, 1) := by decide +kernel
theorem d_M_gather_45 : decode b_M_gather 45 = .ok (.if_icmp .le 6, 3) := by decide +kernel
theorem d_M_gather_48 : decode b_M_gather 48 = .ok (.goto 74, 3) := by decide +kernel
theorem d_M_gather_51 : decode b_M_gather 51 = .ok (.aload_n 0, 1) := by decide +kernel
theorem d_M_gather_52 : decode b_M_gather 52 = .ok (.getfield 80, 3) := by decide +kernel
theorem d_M_gather_55 : decode b_M_gather 55 = .ok (.bipush 24, 2) := by decide +kernel
theorem d_M_gather_57 : decode b_M_gather 57 = .ok (.iload_n 2, 1) := by decide +kernel
theorem d_M_gather_58 : decode b_M_gather 58 = .ok (.imul, 1) := by decide +kernel
theorem d_M_gather_59 : decode b_M_gather 59 = .ok (.aload_n 0, 1) := by decide +kernel
theorem d_M_gather_60 : decode b_M_gather 60 = .ok (.getfield 77, 3) := by decide +kernel
theorem d_M_gather_63 : decode b_M_gather 63 = .ok (.iload_n 2, 1) := by decide +kernel
theorem d_M_gather_64 : decode b_M_gather 64 = .ok (.iaload, 1) := by decide +kernel
theorem d_M_gather_65 : decode b_M_gather 65 = .ok (.iadd, 1) := by decide +kernel
theorem d_M_gather_66 : decode b_M_gather 66 = .ok (.aload_n 0, 1) := by decide +kernel
theorem d_M_gather_67 : decode b_M_gather 67 = .ok (.getfield 26, 3) := by decide +kernel
theorem d_M_gather_70 : decode b_M_gather 70 = .ok (.bipush 24, 2) := by decide +kernel
theorem d_M_gather_72 : decode b_M_gather 72 = .ok (.iload_n 1, 1) := by decide +kernel
theorem d_M_gather_73 : decode b_M_gather 73 = .ok (.imul, 1) := by decide +kernel
theorem d_M_gather_74 : decode b_M_gather 74 = .ok (.iload_n 3, 1) := by decide +kernel
theorem d_M_gather_75 : decode b_M_gather 75 = .ok (.iadd, 1) := by decide +kernel
theorem d_M_gather_76 : decode b_M_gather 76 = .ok (.laload, 1) := by decide +kernel
theorem d_M_gather_77 : decode b_M_gather 77 = .ok (.lastore, 1) := by decide +kernel
theorem d_M_gather_78 : decode b_M_gather 78 = .ok (.aload_n 0, 1) := by decide +kernel
theorem d_M_gather_79 : decode b_M_gather 79 = .ok (.getfield 83, 3) := by decide +kernel
theorem d_M_gather_82 : decode b_M_gather 82 = .ok (.bipush 24, 2) := by decide +kernel
theorem d_M_gather_84 : decode b_M_gather 84 = .ok (.iload_n 2, 1) := by decide +kernel
theorem d_M_gather_85 : decode b_M_gather 85 = .ok (.imul, 1) := by decide +kernel
theorem d_M_gather_86 : decode b_M_gather 86 = .ok (.aload_n 0, 1) := by decide +kernel
theorem d_M_gather_87 : decode b_M_gather 87 = .ok (.getfield 77, 3) := by decide +kernel
theorem d_M_gather_90 : decode b_M_gather 90 = .ok (.iload_n 2, 1) := by decide +kernel
theorem d_M_gather_91 : decode b_M_gather 91 = .ok (.iaload, 1) := by decide +kernel
theorem d_M_gather_92 : decode b_M_gather 92 = .ok (.iadd, 1) := by decide +kernel
theorem d_M_gather_93 : decode b_M_gather 93 = .ok (.sipush 3000, 3) := by decide +kernel
theorem d_M_gather_96 : decode b_M_gather 96 = .ok (.iload 4, 2) := by decide +kernel
theorem d_M_gather_98 : decode b_M_gather 98 = .ok (.imul, 1) := by decide +kernel
theorem d_M_gather_99 : decode b_M_gather 99 = .ok (.aload_n 0, 1) := by decide +kernel
theorem d_M_gather_100 : decode b_M_gather 100 = .ok (.getfield 29, 3) := by decide +kernel
theorem d_M_gather_103 : decode b_M_gather 103 = .ok (.bipush 24, 2) := by decide +kernel
theorem d_M_gather_105 : decode b_M_gather 105 = .ok (.iload_n 1, 1) := by decide +kernel
theorem d_M_gather_106 : decode b_M_gather 106 = .ok (.imul, 1) := by decide +kernel
theorem d_M_gather_107 : decode b_M_gather 107 = .ok (.iload_n 3, 1) := by decide +kernel
theorem d_M_gather_108 : decode b_M_gather 108 = .ok (.iadd, 1) := by decide +kernel
theorem d_M_gather_109 : decode b_M_gather 109 = .ok (.iaload, 1) := by decide +kernel
theorem d_M_gather_110 : decode b_M_gather 110 = .ok (.iadd, 1) := by decide +kernel
theorem d_M_gather_111 : decode b_M_gather 111 = .ok (.iastore, 1) := by decide +kernel
theorem d_M_gather_112 : decode b_M_gather 112 = .ok (.aload_n 0, 1) := by decide +kernel
theorem d_M_gather_113 : decode b_M_gather 113 = .ok (.getfield 77, 3) := by decide +kernel
theorem d_M_gather_116 : decode b_M_gather 116 = .ok (.iload_n 2, 1) := by decide +kernel
theorem d_M_gather_117 : decode b_M_gather 117 = .ok (.dup2, 1) := by decide +kernel
theorem d_M_gather_118 : decode b_M_gather 118 = .ok (.iaload, 1) := by decide +kernel
theorem d_M_gather_119 : decode b_M_gather 119 = .ok (.iconst 1, 1) := by decide +kernel
theorem d_M_gather_120 : decode b_M_gather 120 = .ok (.iadd, 1) := by decide +kernel
theorem d_M_gather_121 : decode b_M_gather 121 = .ok (.iastore, 1) := by decide +kernel
theorem d_M_gather_122 : decode b_M_gather 122 = .ok (.iinc 3 1, 3) := by decide +kernel
theorem d_M_gather_125 : decode b_M_gather 125 = .ok (.goto (-116), 3) := by decide +kernel
theorem d_M_gather_128 : decode b_M_gather 128 = .ok (.aload_n 0, 1) := by decide +kernel
theorem d_M_gather_129 : decode b_M_gather 129 = .ok (.getfield 77, 3) := by decide +kernel
theorem d_M_gather_132 : decode b_M_gather 132 = .ok (.iload_n 2, 1) := by decide +kernel
theorem d_M_gather_133 : decode b_M_gather 133 = .ok (.iaload, 1) := by decide +kernel
theorem d_M_gather_134 : decode b_M_gather 134 = .ok (.ifCond .le 4, 3) := by decide +kernel
theorem d_M_gather_137 : decode b_M_gather 137 = .ok (.return_, 1) := by decide +kernel
theorem d_M_gather_138 : decode b_M_gather 138 = .ok (.aload_n 0, 1) := by decide +kernel
theorem d_M_gather_139 : decode b_M_gather 139 = .ok (.getfield 77, 3) := by decide +kernel
theorem d_M_gather_142 : decode b_M_gather 142 = .ok (.iload_n 2, 1) := by decide +kernel
theorem d_M_gather_143 : decode b_M_gather 143 = .ok (.iconst 1, 1) := by decide +kernel
theorem d_M_gather_144 : decode b_M_gather 144 = .ok (.iastore, 1) := by decide +kernel
theorem d_M_gather_145 : decode b_M_gather 145 = .ok (.aload_n 0, 1) := by decide +kernel
theorem d_M_gather_146 : decode b_M_gather 146 = .ok (.getfield 80, 3) := by decide +kernel
theorem d_M_gather_149 : decode b_M_gather 149 = .ok (.bipush 24, 2) := by decide +kernel
theorem d_M_gather_151 : decode b_M_gather 151 = .ok (.iload_n 2, 1) := by decide +kernel
theorem d_M_gather_152 : decode b_M_gather 152 = .ok (.imul, 1) := by decide +kernel
theorem d_M_gather_153 : decode b_M_gather 153 = .ok (.aload_n 0, 1) := by decide +kernel
theorem d_M_gather_154 : decode b_M_gather 154 = .ok (.getfield 71, 3) := by decide +kernel
theorem d_M_gather_157 : decode b_M_gather 157 = .ok (.iload_n 2, 1) := by decide +kernel
theorem d_M_gather_158 : decode b_M_gather 158 = .ok (.laload, 1) := by decide +kernel
theorem d_M_gather_159 : decode b_M_gather 159 = .ok (.lastore, 1) := by decide +kernel
theorem d_M_gather_160 : decode b_M_gather 160 = .ok (.aload_n 0, 1) := by decide +kernel
theorem d_M_gather_161 : decode b_M_gather 161 = .ok (.getfield 83, 3) := by decide +kernel
theorem d_M_gather_164 : decode b_M_gather 164 = .ok (.bipush 24, 2) := by decide +kernel
theorem d_M_gather_166 : decode b_M_gather 166 = .ok (.iload_n 2, 1) := by decide +kernel
theorem d_M_gather_167 : decode b_M_gather 167 = .ok (.imul, 1) := by decide +kernel
theorem d_M_gather_168 : decode b_M_gather 168 = .ok (.sipush 20000, 3) := by decide +kernel
theorem d_M_gather_171 : decode b_M_gather 171 = .ok (.iastore, 1) := by decide +kernel
theorem d_M_gather_172 : decode b_M_gather 172 = .ok (.return_, 1) := by decide +kernel
theorem d_M_costOf_0 : decode b_M_costOf 0 = .ok (.iconst 0, 1) := by decide +kernel
theorem d_M_costOf_1 : decode b_M_costOf 1 = .ok (.istore_n 2, 1) := by decide +kernel
theorem d_M_costOf_2 : decode b_M_costOf 2 = .ok (.iconst 0, 1) := by decide +kernel
theorem d_M_costOf_3 : decode b_M_costOf 3 = .ok (.istore_n 3, 1) := by decide +kernel
theorem d_M_costOf_4 : decode b_M_costOf 4 = .ok (.iload_n 3, 1) := by decide +kernel
theorem d_M_costOf_5 : decode b_M_costOf 5 = .ok (.iload_n 1, 1) := by decide +kernel
theorem d_M_costOf_6 : decode b_M_costOf 6 = .ok (.if_icmp .ge 119, 3) := by decide +kernel
theorem d_M_costOf_9 : decode b_M_costOf 9 = .ok (.iload_n 2, 1) := by decide +kernel
theorem d_M_costOf_10 : decode b_M_costOf 10 = .ok (.aload_n 0, 1) := by decide +kernel
theorem d_M_costOf_11 : decode b_M_costOf 11 = .ok (.getfield 83, 3) := by decide +kernel
theorem d_M_costOf_14 : decode b_M_costOf 14 = .ok (.bipush 24, 2) := by decide +kernel
theorem d_M_costOf_16 : decode b_M_costOf 16 = .ok (.iload_n 3, 1) := by decide +kernel
theorem d_M_costOf_17 : decode b_M_costOf 17 = .ok (.imul, 1) := by decide +kernel
theorem d_M_costOf_18 : decode b_M_costOf 18 = .ok (.aload_n 0, 1) := by decide +kernel
theorem d_M_costOf_19 : decode b_M_costOf 19 = .ok (.getfield 86, 3) := by decide +kernel
theorem d_M_costOf_22 : decode b_M_costOf 22 = .ok (.iload_n 3, 1) := by decide +kernel
theorem d_M_costOf_23 : decode b_M_costOf 23 = .ok (.iaload, 1) := by decide +kernel
theorem d_M_costOf_24 : decode b_M_costOf 24 = .ok (.iadd, 1) := by decide +kernel
theorem d_M_costOf_25 : decode b_M_costOf 25 = .ok (.iaload, 1) := by decide +kernel
theorem d_M_costOf_26 : decode b_M_costOf 26 = .ok (.iadd, 1) := by decide +kernel
theorem d_M_costOf_27 : decode b_M_costOf 27 = .ok (.istore_n 2, 1) := by decide +kernel
theorem d_M_costOf_28 : decode b_M_costOf 28 = .ok (.iload_n 3, 1) := by decide +kernel
theorem d_M_costOf_29 : decode b_M_costOf 29 = .ok (.ifCond .ne 6, 3) := by decide +kernel
theorem d_M_costOf_32 : decode b_M_costOf 32 = .ok (.goto 87, 3) := by decide +kernel
theorem d_M_costOf_35 : decode b_M_costOf 35 = .ok (.aload_n 0, 1) := by decide +kernel
theorem d_M_costOf_36 : decode b_M_costOf 36 = .ok (.aload_n 0, 1) := by decide +kernel
theorem d_M_costOf_37 : decode b_M_costOf 37 = .ok (.getfield 80, 3) := by decide +kernel
theorem d_M_costOf_40 : decode b_M_costOf 40 = .ok (.bipush 24, 2) := by decide +kernel
theorem d_M_costOf_42 : decode b_M_costOf 42 = .ok (.iload_n 3, 1) := by decide +kernel
theorem d_M_costOf_43 : decode b_M_costOf 43 = .ok (.imul, 1) := by decide +kernel
theorem d_M_costOf_44 : decode b_M_costOf 44 = .ok (.bipush 24, 2) := by decide +kernel
theorem d_M_costOf_46 : decode b_M_costOf 46 = .ok (.isub, 1) := by decide +kernel
theorem d_M_costOf_47 : decode b_M_costOf 47 = .ok (.aload_n 0, 1) := by decide +kernel
theorem d_M_costOf_48 : decode b_M_costOf 48 = .ok (.getfield 86, 3) := by decide +kernel
theorem d_M_costOf_51 : decode b_M_costOf 51 = .ok (.iload_n 3, 1) := by decide +kernel
theorem d_M_costOf_52 : decode b_M_costOf 52 = .ok (.iconst 1, 1) := by decide +kernel
theorem d_M_costOf_53 : decode b_M_costOf 53 = .ok (.isub, 1) := by decide +kernel
theorem d_M_costOf_54 : decode b_M_costOf 54 = .ok (.iaload, 1) := by decide +kernel
theorem d_M_costOf_55 : decode b_M_costOf 55 = .ok (.iadd, 1) := by decide +kernel
theorem d_M_costOf_56 : decode b_M_costOf 56 = .ok (.laload, 1) := by decide +kernel
theorem d_M_costOf_57 : decode b_M_costOf 57 = .ok (.aload_n 0, 1) := by decide +kernel
theorem d_M_costOf_58 : decode b_M_costOf 58 = .ok (.getfield 80, 3) := by decide +kernel
theorem d_M_costOf_61 : decode b_M_costOf 61 = .ok (.bipush 24, 2) := by decide +kernel
theorem d_M_costOf_63 : decode b_M_costOf 63 = .ok (.iload_n 3, 1) := by decide +kernel
theorem d_M_costOf_64 : decode b_M_costOf 64 = .ok (.imul, 1) := by decide +kernel
theorem d_M_costOf_65 : decode b_M_costOf 65 = .ok (.aload_n 0, 1) := by decide +kernel
theorem d_M_costOf_66 : decode b_M_costOf 66 = .ok (.getfield 86, 3) := by decide +kernel
theorem d_M_costOf_69 : decode b_M_costOf 69 = .ok (.iload_n 3, 1) := by decide +kernel
theorem d_M_costOf_70 : decode b_M_costOf 70 = .ok (.iaload, 1) := by decide +kernel
theorem d_M_costOf_71 : decode b_M_costOf 71 = .ok (.iadd, 1) := by decide +kernel
theorem d_M_costOf_72 : decode b_M_costOf 72 = .ok (.laload, 1) := by decide +kernel
theorem d_M_costOf_73 : decode b_M_costOf 73 = .ok (.invokevirtual 182, 3) := by decide +kernel
theorem d_M_costOf_76 : decode b_M_costOf 76 = .ok (.istore 4, 2) := by decide +kernel
theorem d_M_costOf_78 : decode b_M_costOf 78 = .ok (.iload 4, 2) := by decide +kernel
theorem d_M_costOf_80 : decode b_M_costOf 80 = .ok (.aload_n 0, 1) := by decide +kernel
theorem d_M_costOf_81 : decode b_M_costOf 81 = .ok (.getfield 179, 3) := by decide +kernel
theorem d_M_costOf_84 : decode b_M_costOf 84 = .ok (.if_icmp .ge 13, 3) := by decide +kernel
theorem d_M_costOf_87 : decode b_M_costOf 87 = .ok (.aload_n 0, 1) := by decide +kernel
theorem d_M_costOf_88 : decode b_M_costOf 88 = .ok (.getfield 68, 3) := by decide +kernel
theorem d_M_costOf_91 : decode b_M_costOf 91 = .ok (.iload 4, 2) := by decide +kernel
theorem d_M_costOf_93 : decode b_M_costOf 93 = .ok (.iaload, 1) := by decide +kernel
theorem d_M_costOf_94 : decode b_M_costOf 94 = .ok (.goto 4, 3) := by decide +kernel
theorem d_M_costOf_97 : decode b_M_costOf 97 = .ok (.iconst 0, 1) := by decide +kernel
theorem d_M_costOf_98 : decode b_M_costOf 98 = .ok (.istore 5, 2) := by decide +kernel
theorem d_M_costOf_100 : decode b_M_costOf 100 = .ok (.iload_n 2, 1) := by decide +kernel
theorem d_M_costOf_101 : decode b_M_costOf 101 = .ok (.sipush 400, 3) := by decide +kernel
theorem d_M_costOf_104 : decode b_M_costOf 104 = .ok (.iload 5, 2) := by decide +kernel
theorem d_M_costOf_106 : decode b_M_costOf 106 = .ok (.iconst 5, 1) := by decide +kernel
theorem d_M_costOf_107 : decode b_M_costOf 107 = .ok (.if_icmp .ge 8, 3) := by decide +kernel
theorem d_M_costOf_110 : decode b_M_costOf 110 = .ok (.iload 5, 2) := by decide +kernel
theorem d_M_costOf_112 : decode b_M_costOf 112 = .ok (.goto 4, 3) := by decide +kernel
theorem d_M_costOf_115 : decode b_M_costOf 115 = .ok (.iconst 5, 1) := by decide +kernel
theorem d_M_costOf_116 : decode b_M_costOf 116 = .ok (.imul, 1) := by decide +kernel
theorem d_M_costOf_117 : decode b_M_costOf 117 = .ok (.isub, 1) := by decide +kernel
theorem d_M_costOf_118 : decode b_M_costOf 118 = .ok (.istore_n 2, 1) := by decide +kernel
theorem d_M_costOf_119 : decode b_M_costOf 119 = .ok (.iinc 3 1, 3) := by decide +kernel
theorem d_M_costOf_122 : decode b_M_costOf 122 = .ok (.goto (-118), 3) := by decide +kernel
theorem d_M_costOf_125 : decode b_M_costOf 125 = .ok (.iload_n 2, 1) := by decide +kernel
theorem d_M_costOf_126 : decode b_M_costOf 126 = .ok (.ireturn, 1) := by decide +kernel
theorem d_M_next_0 : decode b_M_next 0 = .ok (.iload_n 1, 1) := by decide +kernel
theorem d_M_next_1 : decode b_M_next 1 = .ok (.iconst 1, 1) := by decide +kernel
theorem d_M_next_2 : decode b_M_next 2 = .ok (.isub, 1) := by decide +kernel
theorem d_M_next_3 : decode b_M_next 3 = .ok (.istore_n 2, 1) := by decide +kernel
theorem d_M_next_4 : decode b_M_next 4 = .ok (.iload_n 2, 1) := by decide +kernel
theorem d_M_next_5 : decode b_M_next 5 = .ok (.ifCond .lt 43, 3) := by decide +kernel
theorem d_M_next_8 : decode b_M_next 8 = .ok (.aload_n 0, 1) := by decide +kernel
theorem d_M_next_9 : decode b_M_next 9 = .ok (.getfield 86, 3) := by decide +kernel
theorem d_M_next_12 : decode b_M_next 12 = .ok (.iload_n 2, 1) := by decide +kernel
theorem d_M_next_13 : decode b_M_next 13 = .ok (.dup2, 1) := by decide +kernel
theorem d_M_next_14 : decode b_M_next 14 = .ok (.iaload, 1) := by decide +kernel
theorem d_M_next_15 : decode b_M_next 15 = .ok (.iconst 1, 1) := by decide +kernel
theorem d_M_next_16 : decode b_M_next 16 = .ok (.iadd, 1) := by decide +kernel
theorem d_M_next_17 : decode b_M_next 17 = .ok (.iastore, 1) := by decide +kernel
theorem d_M_next_18 : decode b_M_next 18 = .ok (.aload_n 0, 1) := by decide +kernel
theorem d_M_next_19 : decode b_M_next 19 = .ok (.getfield 86, 3) := by decide +kernel
theorem d_M_next_22 : decode b_M_next 22 = .ok (.iload_n 2, 1) := by decide +kernel
theorem d_M_next_23 : decode b_M_next 23 = .ok (.iaload, 1) := by decide +kernel
theorem d_M_next_24 : decode b_M_next 24 = .ok (.aload_n 0, 1) := by decide +kernel
theorem d_M_next_25 : decode b_M_next 25 = .ok (.getfield 77, 3) := by decide +kernel
theorem d_M_next_28 : decode b_M_next 28 = .ok (.iload_n 2, 1) := by decide +kernel
theorem d_M_next_29 : decode b_M_next 29 = .ok (.iaload, 1) := by decide +kernel
theorem d_M_next_30 : decode b_M_next 30 = .ok (.if_icmp .ge 5, 3) := by decide +kernel
theorem d_M_next_33 : decode b_M_next 33 = .ok (.iconst 1, 1) := by decide +kernel
theorem d_M_next_34 : decode b_M_next 34 = .ok (.ireturn, 1) := by decide +kernel
theorem d_M_next_35 : decode b_M_next 35 = .ok (.aload_n 0, 1) := by decide +kernel
theorem d_M_next_36 : decode b_M_next 36 = .ok (.getfield 86, 3) := by decide +kernel
theorem d_M_next_39 : decode b_M_next 39 = .ok (.iload_n 2, 1) := by decide +kernel
theorem d_M_next_40 : decode b_M_next 40 = .ok (.iconst 0, 1) := by decide +kernel
theorem d_M_next_41 : decode b_M_next 41 = .ok (.iastore, 1) := by decide +kernel
theorem d_M_next_42 : decode b_M_next 42 = .ok (.iinc 2 (-1), 3) := by decide +kernel
theorem d_M_next_45 : decode b_M_next 45 = .ok (.goto (-41), 3) := by decide +kernel
theorem d_M_next_48 : decode b_M_next 48 = .ok (.iconst 0, 1) := by decide +kernel
theorem d_M_next_49 : decode b_M_next 49 = .ok (.ireturn, 1) := by decide +kernel
theorem d_M_correct_0 : decode b_M_correct 0 = .ok (.aload_n 0, 1) := by decide +kernel
theorem d_M_correct_1 : decode b_M_correct 1 = .ok (.getfield 185, 3) := by decide +kernel
theorem d_M_correct_4 : decode b_M_correct 4 = .ok (.istore_n 2, 1) := by decide +kernel
theorem d_M_correct_5 : decode b_M_correct 5 = .ok (.aload_n 0, 1) := by decide +kernel
theorem d_M_correct_6 : decode b_M_correct 6 = .ok (.iload_n 1, 1) := by decide +kernel
theorem d_M_correct_7 : decode b_M_correct 7 = .ok (.invokevirtual 135, 3) := by decide +kernel
theorem d_M_correct_10 : decode b_M_correct 10 = .ok (.istore_n 3, 1) := by decide +kernel
theorem d_M_correct_11 : decode b_M_correct 11 = .ok (.aload_n 0, 1) := by decide +kernel
theorem d_M_correct_12 : decode b_M_correct 12 = .ok (.iconst 0, 1) := by decide +kernel
theorem d_M_correct_13 : decode b_M_correct 13 = .ok (.putfield 185, 3) := by decide +kernel
theorem d_M_correct_16 : decode b_M_correct 16 = .ok (.aload_n 0, 1) := by decide +kernel
theorem d_M_correct_17 : decode b_M_correct 17 = .ok (.iload_n 3, 1) := by decide +kernel
theorem d_M_correct_18 : decode b_M_correct 18 = .ok (.ifCond .ge 7, 3) := by decide +kernel
theorem d_M_correct_21 : decode b_M_correct 21 = .ok (.iconst 1, 1) := by decide +kernel
theorem d_M_correct_22 : decode b_M_correct 22 = .ok (.goto 4, 3) := by decide +kernel
theorem d_M_correct_25 : decode b_M_correct 25 = .ok (.iconst 0, 1) := by decide +kernel
theorem d_M_correct_26 : decode b_M_correct 26 = .ok (.iload_n 2, 1) := by decide +kernel
theorem d_M_correct_27 : decode b_M_correct 27 = .ok (.ifCond .ne 7, 3) := by decide +kernel
theorem d_M_correct_30 : decode b_M_correct 30 = .ok (.iconst 1, 1) := by decide +kernel
theorem d_M_correct_31 : decode b_M_correct 31 = .ok (.goto 4, 3) := by decide +kernel
theorem d_M_correct_34 : decode b_M_correct 34 = .ok (.iconst 0, 1) := by decide +kernel
theorem d_M_correct_35 : decode b_M_correct 35 = .ok (.invokevirtual 117, 3) := by decide +kernel
theorem d_M_correct_38 : decode b_M_correct 38 = .ok (.ifCond .eq 5, 3) := by decide +kernel
theorem d_M_correct_41 : decode b_M_correct 41 = .ok (.iconst 0, 1) := by decide +kernel
theorem d_M_correct_42 : decode b_M_correct 42 = .ok (.ireturn, 1) := by decide +kernel
theorem d_M_correct_43 : decode b_M_correct 43 = .ok (.iconst 0, 1) := by decide +kernel
theorem d_M_correct_44 : decode b_M_correct 44 = .ok (.istore 4, 2) := by decide +kernel
theorem d_M_correct_46 : decode b_M_correct 46 = .ok (.iload 4, 2) := by decide +kernel
theorem d_M_correct_48 : decode b_M_correct 48 = .ok (.iload_n 2, 1) := by decide +kernel
theorem d_M_correct_49 : decode b_M_correct 49 = .ok (.if_icmp .ge 24, 3) := by decide +kernel
theorem d_M_correct_52 : decode b_M_correct 52 = .ok (.aload_n 0, 1) := by decide +kernel
theorem d_M_correct_53 : decode b_M_correct 53 = .ok (.iload_n 3, 1) := by decide +kernel
theorem d_M_correct_54 : decode b_M_correct 54 = .ok (.iload 4, 2) := by decide +kernel
theorem d_M_correct_56 : decode b_M_correct 56 = .ok (.invokevirtual 188, 3) := by decide +kernel
theorem d_M_correct_59 : decode b_M_correct 59 = .ok (.aload_n 0, 1) := by decide +kernel
theorem d_M_correct_60 : decode b_M_correct 60 = .ok (.getfield 86, 3) := by decide +kernel
theorem d_M_correct_63 : decode b_M_correct 63 = .ok (.iload 4, 2) := by decide +kernel
theorem d_M_correct_65 : decode b_M_correct 65 = .ok (.iconst 0, 1) := by decide +kernel
theorem d_M_correct_66 : decode b_M_correct 66 = .ok (.iastore, 1) := by decide +kernel
theorem d_M_correct_67 : decode b_M_correct 67 = .ok (.iinc 4 1, 3) := by decide +kernel
theorem d_M_correct_70 : decode b_M_correct 70 = .ok (.goto (-24), 3) := by decide +kernel
theorem d_M_correct_73 : decode b_M_correct 73 = .ok (.ldc 191, 2) := by decide +kernel
theorem d_M_correct_75 : decode b_M_correct 75 = .ok (.istore 4, 2) := by decide +kernel
theorem d_M_correct_77 : decode b_M_correct 77 = .ok (.iconst 1, 1) := by decide +kernel
theorem d_M_correct_78 : decode b_M_correct 78 = .ok (.istore 5, 2) := by decide +kernel
theorem d_M_correct_80 : decode b_M_correct 80 = .ok (.iload 5, 2) := by decide +kernel
theorem d_M_correct_82 : decode b_M_correct 82 = .ok (.ifCond .eq 83, 3) := by decide +kernel
theorem d_M_correct_85 : decode b_M_correct 85 = .ok (.aload_n 0, 1) := by decide +kernel
theorem d_M_correct_86 : decode b_M_correct 86 = .ok (.iload_n 2, 1) := by decide +kernel
theorem d_M_correct_87 : decode b_M_correct 87 = .ok (.invokevirtual 192, 3) := by decide +kernel
theorem d_M_correct_90 : decode b_M_correct 90 = .ok (.istore 6, 2) := by decide +kernel
theorem d_M_correct_92 : decode b_M_correct 92 = .ok (.iconst 0, 1) := by decide +kernel
theorem d_M_correct_93 : decode b_M_correct 93 = .ok (.istore 7, 2) := by decide +kernel
theorem d_M_correct_95 : decode b_M_correct 95 = .ok (.iload 7, 2) := by decide +kernel
theorem d_M_correct_97 : decode b_M_correct 97 = .ok (.iload_n 2, 1) := by decide +kernel
theorem d_M_correct_98 : decode b_M_correct 98 = .ok (.if_icmp .ge 41, 3) := by decide +kernel
theorem d_M_correct_101 : decode b_M_correct 101 = .ok (.iload 6, 2) := by decide +kernel
theorem d_M_correct_103 : decode b_M_correct 103 = .ok (.iload 4, 2) := by decide +kernel
theorem d_M_correct_105 : decode b_M_correct 105 = .ok (.if_icmp .ge 34, 3) := by decide +kernel
theorem d_M_correct_108 : decode b_M_correct 108 = .ok (.aload_n 0, 1) := by decide +kernel
theorem d_M_correct_109 : decode b_M_correct 109 = .ok (.getfield 74, 3) := by decide +kernel
theorem d_M_correct_112 : decode b_M_correct 112 = .ok (.iload 7, 2) := by decide +kernel
theorem d_M_correct_114 : decode b_M_correct 114 = .ok (.aload_n 0, 1) := by decide +kernel
theorem d_M_correct_115 : decode b_M_correct 115 = .ok (.getfield 80, 3) := by decide +kernel
theorem d_M_correct_118 : decode b_M_correct 118 = .ok (.bipush 24, 2) := by decide +kernel
theorem d_M_correct_120 : decode b_M_correct 120 = .ok (.iload 7, 2) := by decide +kernel
theorem d_M_correct_122 : decode b_M_correct 122 = .ok (.imul, 1) := by decide +kernel
theorem d_M_correct_123 : decode b_M_correct 123 = .ok (.aload_n 0, 1) := by decide +kernel
theorem d_M_correct_124 : decode b_M_correct 124 = .ok (.getfield 86, 3) := by decide +kernel
theorem d_M_correct_127 : decode b_M_correct 127 = .ok (.iload 7, 2) := by decide +kernel
theorem d_M_correct_129 : decode b_M_correct 129 = .ok (.iaload, 1) := by decide +kernel
theorem d_M_correct_130 : decode b_M_correct 130 = .ok (.iadd, 1) := by decide +kernel
theorem d_M_correct_131 : decode b_M_correct 131 = .ok (.laload, 1) := by decide +kernel
theorem d_M_correct_132 : decode b_M_correct 132 = .ok (.lastore, 1) := by decide +kernel
theorem d_M_correct_133 : decode b_M_correct 133 = .ok (.iinc 7 1, 3) := by decide +kernel
theorem d_M_correct_136 : decode b_M_correct 136 = .ok (.goto (-41), 3) := by decide +kernel
theorem d_M_correct_139 : decode b_M_correct 139 = .ok (.iload 6, 2) := by decide +kernel
theorem d_M_correct_141 : decode b_M_correct 141 = .ok (.iload 4, 2) := by decide +kernel
theorem d_M_correct_143 : decode b_M_correct 143 = .ok (.if_icmp .ge 8, 3) := by decide +kernel
theorem d_M_correct_146 : decode b_M_correct 146 = .ok (.iload 6, 2) := by decide +kernel
theorem d_M_correct_148 : decode b_M_correct 148 = .ok (.goto 5, 3) := by decide +kernel
theorem d_M_correct_151 : decode b_M_correct 151 = .ok (.iload 4, 2) := by decide +kernel
theorem d_M_correct_153 : decode b_M_correct 153 = .ok (.istore 4, 2) := by decide +kernel
theorem d_M_correct_155 : decode b_M_correct 155 = .ok (.aload_n 0, 1) := by decide +kernel
theorem d_M_correct_156 : decode b_M_correct 156 = .ok (.iload_n 2, 1) := by decide +kernel
theorem d_M_correct_157 : decode b_M_correct 157 = .ok (.invokevirtual 195, 3) := by decide +kernel
theorem d_M_correct_160 : decode b_M_correct 160 = .ok (.istore 5, 2) := by decide +kernel
theorem d_M_correct_162 : decode b_M_correct 162 = .ok (.goto (-82), 3) := by decide +kernel
theorem d_M_correct_165 : decode b_M_correct 165 = .ok (.aload_n 0, 1) := by decide +kernel
theorem d_M_correct_166 : decode b_M_correct 166 = .ok (.iload_n 2, 1) := by decide +kernel
theorem d_M_correct_167 : decode b_M_correct 167 = .ok (.putfield 199, 3) := by decide +kernel
theorem d_M_correct_170 : decode b_M_correct 170 = .ok (.iload 4, 2) := by decide +kernel
theorem d_M_correct_172 : decode b_M_correct 172 = .ok (.ireturn, 1) := by decide +kernel
theorem d_M_corrected_0 : decode b_M_corrected 0 = .ok (.aload_n 0, 1) := by decide +kernel
theorem d_M_corrected_1 : decode b_M_corrected 1 = .ok (.iload_n 1, 1) := by decide +kernel
theorem d_M_corrected_2 : decode b_M_corrected 2 = .ok (.ifCond .lt 11, 3) := by decide +kernel
theorem d_M_corrected_5 : decode b_M_corrected 5 = .ok (.iload_n 1, 1) := by decide +kernel
theorem d_M_corrected_6 : decode b_M_corrected 6 = .ok (.aload_n 0, 1) := by decide +kernel
theorem d_M_corrected_7 : decode b_M_corrected 7 = .ok (.getfield 199, 3) := by decide +kernel
theorem d_M_corrected_10 : decode b_M_corrected 10 = .ok (.if_icmp .lt 7, 3) := by decide +kernel
theorem d_M_corrected_13 : decode b_M_corrected 13 = .ok (.iconst 1, 1) := by decide +kernel
theorem d_M_corrected_14 : decode b_M_corrected 14 = .ok (.goto 4, 3) := by decide +kernel
theorem d_M_corrected_17 : decode b_M_corrected 17 = .ok (.iconst 0, 1) := by decide +kernel
theorem d_M_corrected_18 : decode b_M_corrected 18 = .ok (.iconst 0, 1) := by decide +kernel
theorem d_M_corrected_19 : decode b_M_corrected 19 = .ok (.invokevirtual 117, 3) := by decide +kernel
theorem d_M_corrected_22 : decode b_M_corrected 22 = .ok (.ifCond .eq 7, 3) := by decide +kernel
theorem d_M_corrected_25 : decode b_M_corrected 25 = .ok (.lconst 0, 1) := by decide +kernel
theorem d_M_corrected_26 : decode b_M_corrected 26 = .ok (.goto 9, 3) := by decide +kernel
theorem d_M_corrected_29 : decode b_M_corrected 29 = .ok (.aload_n 0, 1) := by decide +kernel
theorem d_M_corrected_30 : decode b_M_corrected 30 = .ok (.getfield 74, 3) := by decide +kernel
theorem d_M_corrected_33 : decode b_M_corrected 33 = .ok (.iload_n 1, 1) := by decide +kernel
theorem d_M_corrected_34 : decode b_M_corrected 34 = .ok (.laload, 1) := by decide +kernel
theorem d_M_corrected_35 : decode b_M_corrected 35 = .ok (.lreturn, 1) := by decide +kernel
