theorem d_M_followers_51 : decode b_M_followers 51 = .ok (.iload_n 2, 1) := by decide +kernel
theorem d_M_followers_52 : decode b_M_followers 52 = .ok (.iaload, 1) := by decide +kernel
theorem d_M_followers_53 : decode b_M_followers 53 = .ok (.invokestatic 107, 3) := by decide +kernel
theorem d_M_followers_56 : decode b_M_followers 56 = .ok (.goto 4, 3) := by decide +kernel
theorem d_M_followers_59 : decode b_M_followers 59 = .ok (.iconst 0, 1) := by decide +kernel
theorem d_M_followers_60 : decode b_M_followers 60 = .ok (.istore 6, 2) := by decide +kernel
theorem d_M_followers_62 : decode b_M_followers 62 = .ok (.iload 6, 2) := by decide +kernel
theorem d_M_followers_64 : decode b_M_followers 64 = .ok (.iload 4, 2) := by decide +kernel
theorem d_M_followers_66 : decode b_M_followers 66 = .ok (.if_icmp .le 9, 3) := by decide +kernel
theorem d_M_followers_69 : decode b_M_followers 69 = .ok (.iload_n 3, 1) := by decide +kernel
theorem d_M_followers_70 : decode b_M_followers 70 = .ok (.iconst 1, 1) := by decide +kernel
theorem d_M_followers_71 : decode b_M_followers 71 = .ok (.iadd, 1) := by decide +kernel
theorem d_M_followers_72 : decode b_M_followers 72 = .ok (.goto 4, 3) := by decide +kernel
theorem d_M_followers_75 : decode b_M_followers 75 = .ok (.iload_n 3, 1) := by decide +kernel
theorem d_M_followers_76 : decode b_M_followers 76 = .ok (.istore_n 3, 1) := by decide +kernel
theorem d_M_followers_77 : decode b_M_followers 77 = .ok (.iload 6, 2) := by decide +kernel
theorem d_M_followers_79 : decode b_M_followers 79 = .ok (.istore 4, 2) := by decide +kernel
theorem d_M_followers_81 : decode b_M_followers 81 = .ok (.iinc 5 1, 3) := by decide +kernel
theorem d_M_followers_84 : decode b_M_followers 84 = .ok (.goto (-71), 3) := by decide +kernel
theorem d_M_followers_87 : decode b_M_followers 87 = .ok (.iload_n 3, 1) := by decide +kernel
theorem d_M_followers_88 : decode b_M_followers 88 = .ok (.ireturn, 1) := by decide +kernel
theorem d_M_count_0 : decode b_M_count 0 = .ok (.aload_n 0, 1) := by decide +kernel
theorem d_M_count_1 : decode b_M_count 1 = .ok (.iconst 0, 1) := by decide +kernel
theorem d_M_count_2 : decode b_M_count 2 = .ok (.putfield 139, 3) := by decide +kernel
theorem d_M_count_5 : decode b_M_count 5 = .ok (.iconst 0, 1) := by decide +kernel
theorem d_M_count_6 : decode b_M_count 6 = .ok (.istore_n 2, 1) := by decide +kernel
theorem d_M_count_7 : decode b_M_count 7 = .ok (.iload_n 2, 1) := by decide +kernel
theorem d_M_count_8 : decode b_M_count 8 = .ok (.aload_n 0, 1) := by decide +kernel
theorem d_M_count_9 : decode b_M_count 9 = .ok (.getfield 20, 3) := by decide +kernel
theorem d_M_count_12 : decode b_M_count 12 = .ok (.iload_n 1, 1) := by decide +kernel
theorem d_M_count_13 : decode b_M_count 13 = .ok (.iaload, 1) := by decide +kernel
theorem d_M_count_14 : decode b_M_count 14 = .ok (.if_icmp .ge 83, 3) := by decide +kernel
theorem d_M_count_17 : decode b_M_count 17 = .ok (.iload_n 2, 1) := by decide +kernel
theorem d_M_count_18 : decode b_M_count 18 = .ok (.ifCond .ne 7, 3) := by decide +kernel
theorem d_M_count_21 : decode b_M_count 21 = .ok (.iconst (-1), 1) := by decide +kernel
theorem d_M_count_22 : decode b_M_count 22 = .ok (.goto 30, 3) := by decide +kernel
theorem d_M_count_25 : decode b_M_count 25 = .ok (.aload_n 0, 1) := by decide +kernel
theorem d_M_count_26 : decode b_M_count 26 = .ok (.getfield 26, 3) := by decide +kernel
theorem d_M_count_29 : decode b_M_count 29 = .ok (.bipush 24, 2) := by decide +kernel
theorem d_M_count_31 : decode b_M_count 31 = .ok (.iload_n 1, 1) := by decide +kernel
theorem d_M_count_32 : decode b_M_count 32 = .ok (.imul, 1) := by decide +kernel
theorem d_M_count_33 : decode b_M_count 33 = .ok (.iload_n 2, 1) := by decide +kernel
theorem d_M_count_34 : decode b_M_count 34 = .ok (.iadd, 1) := by decide +kernel
theorem d_M_count_35 : decode b_M_count 35 = .ok (.iconst 1, 1) := by decide +kernel
theorem d_M_count_36 : decode b_M_count 36 = .ok (.isub, 1) := by decide +kernel
theorem d_M_count_37 : decode b_M_count 37 = .ok (.laload, 1) := by decide +kernel
theorem d_M_count_38 : decode b_M_count 38 = .ok (.aload_n 0, 1) := by decide +kernel
theorem d_M_count_39 : decode b_M_count 39 = .ok (.getfield 26, 3) := by decide +kernel
theorem d_M_count_42 : decode b_M_count 42 = .ok (.bipush 24, 2) := by decide +kernel
theorem d_M_count_44 : decode b_M_count 44 = .ok (.iload_n 1, 1) := by decide +kernel
theorem d_M_count_45 : decode b_M_count 45 = .ok (.imul, 1) := by decide +kernel
theorem d_M_count_46 : decode b_M_count 46 = .ok (.iload_n 2, 1) := by decide +kernel
theorem d_M_count_47 : decode b_M_count 47 = .ok (.iadd, 1) := by decide +kernel
theorem d_M_count_48 : decode b_M_count 48 = .ok (.laload, 1) := by decide +kernel
theorem d_M_count_49 : decode b_M_count 49 = .ok (.invokestatic 142, 3) := by decide +kernel
theorem d_M_count_52 : decode b_M_count 52 = .ok (.istore_n 3, 1) := by decide +kernel
theorem d_M_count_53 : decode b_M_count 53 = .ok (.iload_n 3, 1) := by decide +kernel
theorem d_M_count_54 : decode b_M_count 54 = .ok (.iconst 1, 1) := by decide +kernel
theorem d_M_count_55 : decode b_M_count 55 = .ok (.iadd, 1) := by decide +kernel
theorem d_M_count_56 : decode b_M_count 56 = .ok (.istore 4, 2) := by decide +kernel
theorem d_M_count_58 : decode b_M_count 58 = .ok (.iload 4, 2) := by decide +kernel
theorem d_M_count_60 : decode b_M_count 60 = .ok (.aload_n 0, 1) := by decide +kernel
theorem d_M_count_61 : decode b_M_count 61 = .ok (.getfield 26, 3) := by decide +kernel
theorem d_M_count_64 : decode b_M_count 64 = .ok (.bipush 24, 2) := by decide +kernel
theorem d_M_count_66 : decode b_M_count 66 = .ok (.iload_n 1, 1) := by decide +kernel
theorem d_M_count_67 : decode b_M_count 67 = .ok (.imul, 1) := by decide +kernel
theorem d_M_count_68 : decode b_M_count 68 = .ok (.iload_n 2, 1) := by decide +kernel
theorem d_M_count_69 : decode b_M_count 69 = .ok (.iadd, 1) := by decide +kernel
theorem d_M_count_70 : decode b_M_count 70 = .ok (.laload, 1) := by decide +kernel
theorem d_M_count_71 : decode b_M_count 71 = .ok (.invokestatic 93, 3) := by decide +kernel
theorem d_M_count_74 : decode b_M_count 74 = .ok (.if_icmp .gt 17, 3) := by decide +kernel
theorem d_M_count_77 : decode b_M_count 77 = .ok (.aload_n 0, 1) := by decide +kernel
theorem d_M_count_78 : decode b_M_count 78 = .ok (.iload_n 1, 1) := by decide +kernel
theorem d_M_count_79 : decode b_M_count 79 = .ok (.iload_n 2, 1) := by decide +kernel
theorem d_M_count_80 : decode b_M_count 80 = .ok (.iload 4, 2) := by decide +kernel
theorem d_M_count_82 : decode b_M_count 82 = .ok (.invokevirtual 150, 3) := by decide +kernel
theorem d_M_count_85 : decode b_M_count 85 = .ok (.iinc 4 1, 3) := by decide +kernel
theorem d_M_count_88 : decode b_M_count 88 = .ok (.goto (-30), 3) := by decide +kernel
theorem d_M_count_91 : decode b_M_count 91 = .ok (.iinc 2 1, 3) := by decide +kernel
theorem d_M_count_94 : decode b_M_count 94 = .ok (.goto (-87), 3) := by decide +kernel
theorem d_M_count_97 : decode b_M_count 97 = .ok (.aload_n 0, 1) := by decide +kernel
theorem d_M_count_98 : decode b_M_count 98 = .ok (.getfield 32, 3) := by decide +kernel
theorem d_M_count_101 : decode b_M_count 101 = .ok (.iload_n 1, 1) := by decide +kernel
theorem d_M_count_102 : decode b_M_count 102 = .ok (.iconst 0, 1) := by decide +kernel
theorem d_M_count_103 : decode b_M_count 103 = .ok (.iastore, 1) := by decide +kernel
theorem d_M_count_104 : decode b_M_count 104 = .ok (.aload_n 0, 1) := by decide +kernel
theorem d_M_count_105 : decode b_M_count 105 = .ok (.getfield 35, 3) := by decide +kernel
theorem d_M_count_108 : decode b_M_count 108 = .ok (.iload_n 1, 1) := by decide +kernel
theorem d_M_count_109 : decode b_M_count 109 = .ok (.iconst 0, 1) := by decide +kernel
theorem d_M_count_110 : decode b_M_count 110 = .ok (.iastore, 1) := by decide +kernel
theorem d_M_count_111 : decode b_M_count 111 = .ok (.iconst 0, 1) := by decide +kernel
theorem d_M_count_112 : decode b_M_count 112 = .ok (.istore_n 2, 1) := by decide +kernel
theorem d_M_count_113 : decode b_M_count 113 = .ok (.iload_n 2, 1) := by decide +kernel
theorem d_M_count_114 : decode b_M_count 114 = .ok (.aload_n 0, 1) := by decide +kernel
theorem d_M_count_115 : decode b_M_count 115 = .ok (.getfield 139, 3) := by decide +kernel
theorem d_M_count_118 : decode b_M_count 118 = .ok (.if_icmp .ge 83, 3) := by decide +kernel
theorem d_M_count_121 : decode b_M_count 121 = .ok (.iconst 1, 1) := by decide +kernel
theorem d_M_count_122 : decode b_M_count 122 = .ok (.istore_n 3, 1) := by decide +kernel
theorem d_M_count_123 : decode b_M_count 123 = .ok (.iconst 0, 1) := by decide +kernel
theorem d_M_count_124 : decode b_M_count 124 = .ok (.istore 4, 2) := by decide +kernel
theorem d_M_count_126 : decode b_M_count 126 = .ok (.iload 4, 2) := by decide +kernel
theorem d_M_count_128 : decode b_M_count 128 = .ok (.iload_n 2, 1) := by decide +kernel
theorem d_M_count_129 : decode b_M_count 129 = .ok (.if_icmp .ge 30, 3) := by decide +kernel
theorem d_M_count_132 : decode b_M_count 132 = .ok (.iload_n 3, 1) := by decide +kernel
theorem d_M_count_133 : decode b_M_count 133 = .ok (.ifCond .eq 26, 3) := by decide +kernel
theorem d_M_count_136 : decode b_M_count 136 = .ok (.aload_n 0, 1) := by decide +kernel
theorem d_M_count_137 : decode b_M_count 137 = .ok (.iload_n 1, 1) := by decide +kernel
theorem d_M_count_138 : decode b_M_count 138 = .ok (.iload 4, 2) := by decide +kernel
theorem d_M_count_140 : decode b_M_count 140 = .ok (.iload_n 2, 1) := by decide +kernel
theorem d_M_count_141 : decode b_M_count 141 = .ok (.invokevirtual 154, 3) := by decide +kernel
theorem d_M_count_144 : decode b_M_count 144 = .ok (.ifCond .ne 7, 3) := by decide +kernel
theorem d_M_count_147 : decode b_M_count 147 = .ok (.iconst 1, 1) := by decide +kernel
theorem d_M_count_148 : decode b_M_count 148 = .ok (.goto 4, 3) := by decide +kernel
theorem d_M_count_151 : decode b_M_count 151 = .ok (.iconst 0, 1) := by decide +kernel
theorem d_M_count_152 : decode b_M_count 152 = .ok (.istore_n 3, 1) := by decide +kernel
theorem d_M_count_153 : decode b_M_count 153 = .ok (.iinc 4 1, 3) := by decide +kernel
theorem d_M_count_156 : decode b_M_count 156 = .ok (.goto (-30), 3) := by decide +kernel
theorem d_M_count_159 : decode b_M_count 159 = .ok (.iload_n 3, 1) := by decide +kernel
theorem d_M_count_160 : decode b_M_count 160 = .ok (.ifCond .ne 6, 3) := by decide +kernel
theorem d_M_count_163 : decode b_M_count 163 = .ok (.goto 32, 3) := by decide +kernel
theorem d_M_count_166 : decode b_M_count 166 = .ok (.aload_n 0, 1) := by decide +kernel
theorem d_M_count_167 : decode b_M_count 167 = .ok (.getfield 32, 3) := by decide +kernel
theorem d_M_count_170 : decode b_M_count 170 = .ok (.iload_n 1, 1) := by decide +kernel
theorem d_M_count_171 : decode b_M_count 171 = .ok (.dup2, 1) := by decide +kernel
theorem d_M_count_172 : decode b_M_count 172 = .ok (.iaload, 1) := by decide +kernel
theorem d_M_count_173 : decode b_M_count 173 = .ok (.iconst 1, 1) := by decide +kernel
theorem d_M_count_174 : decode b_M_count 174 = .ok (.iadd, 1) := by decide +kernel
theorem d_M_count_175 : decode b_M_count 175 = .ok (.iastore, 1) := by decide +kernel
theorem d_M_count_176 : decode b_M_count 176 = .ok (.aload_n 0, 1) := by decide +kernel
theorem d_M_count_177 : decode b_M_count 177 = .ok (.getfield 35, 3) := by decide +kernel
theorem d_M_count_180 : decode b_M_count 180 = .ok (.iload_n 1, 1) := by decide +kernel
theorem d_M_count_181 : decode b_M_count 181 = .ok (.aload_n 0, 1) := by decide +kernel
theorem d_M_count_182 : decode b_M_count 182 = .ok (.getfield 35, 3) := by decide +kernel
theorem d_M_count_185 : decode b_M_count 185 = .ok (.iload_n 1, 1) := by decide +kernel
theorem d_M_count_186 : decode b_M_count 186 = .ok (.iaload, 1) := by decide +kernel
theorem d_M_count_187 : decode b_M_count 187 = .ok (.aload_n 0, 1) := by decide +kernel
theorem d_M_count_188 : decode b_M_count 188 = .ok (.iload_n 1, 1) := by decide +kernel
theorem d_M_count_189 : decode b_M_count 189 = .ok (.iload_n 2, 1) := by decide +kernel
theorem d_M_count_190 : decode b_M_count 190 = .ok (.invokevirtual 158, 3) := by decide +kernel
theorem d_M_count_193 : decode b_M_count 193 = .ok (.iadd, 1) := by decide +kernel
theorem d_M_count_194 : decode b_M_count 194 = .ok (.iastore, 1) := by decide +kernel
theorem d_M_count_195 : decode b_M_count 195 = .ok (.iinc 2 1, 3) := by decide +kernel
theorem d_M_count_198 : decode b_M_count 198 = .ok (.goto (-85), 3) := by decide +kernel
theorem d_M_count_201 : decode b_M_count 201 = .ok (.return_, 1) := by decide +kernel
theorem d_M_look_0 : decode b_M_look 0 = .ok (.aload_n 0, 1) := by decide +kernel
theorem d_M_look_1 : decode b_M_look 1 = .ok (.iload_n 1, 1) := by decide +kernel
theorem d_M_look_2 : decode b_M_look 2 = .ok (.invokevirtual 135, 3) := by decide +kernel
theorem d_M_look_5 : decode b_M_look 5 = .ok (.istore_n 3, 1) := by decide +kernel
theorem d_M_look_6 : decode b_M_look 6 = .ok (.aload_n 0, 1) := by decide +kernel
theorem d_M_look_7 : decode b_M_look 7 = .ok (.iload_n 3, 1) := by decide +kernel
theorem d_M_look_8 : decode b_M_look 8 = .ok (.ifCond .ge 7, 3) := by decide +kernel
theorem d_M_look_11 : decode b_M_look 11 = .ok (.iconst 1, 1) := by decide +kernel
theorem d_M_look_12 : decode b_M_look 12 = .ok (.goto 4, 3) := by decide +kernel
theorem d_M_look_15 : decode b_M_look 15 = .ok (.iconst 0, 1) := by decide +kernel
theorem d_M_look_16 : decode b_M_look 16 = .ok (.iload_n 2, 1) := by decide +kernel
theorem d_M_look_17 : decode b_M_look 17 = .ok (.ifCond .lt 8, 3) := by decide +kernel
theorem d_M_look_20 : decode b_M_look 20 = .ok (.iload_n 2, 1) := by decide +kernel
theorem d_M_look_21 : decode b_M_look 21 = .ok (.iconst 3, 1) := by decide +kernel
theorem d_M_look_22 : decode b_M_look 22 = .ok (.if_icmp .le 7, 3) := by decide +kernel
theorem d_M_look_25 : decode b_M_look 25 = .ok (.iconst 1, 1) := by decide +kernel
theorem d_M_look_26 : decode b_M_look 26 = .ok (.goto 4, 3) := by decide +kernel
theorem d_M_look_29 : decode b_M_look 29 = .ok (.iconst 0, 1) := by decide +kernel
theorem d_M_look_30 : decode b_M_look 30 = .ok (.invokevirtual 117, 3) := by decide +kernel
theorem d_M_look_33 : decode b_M_look 33 = .ok (.ifCond .eq 5, 3) := by decide +kernel
theorem d_M_look_36 : decode b_M_look 36 = .ok (.iconst 0, 1) := by decide +kernel
theorem d_M_look_37 : decode b_M_look 37 = .ok (.ireturn, 1) := by decide +kernel
theorem d_M_look_38 : decode b_M_look 38 = .ok (.aload_n 0, 1) := by decide +kernel
theorem d_M_look_39 : decode b_M_look 39 = .ok (.getfield 32, 3) := by decide +kernel
theorem d_M_look_42 : decode b_M_look 42 = .ok (.iload_n 3, 1) := by decide +kernel
theorem d_M_look_43 : decode b_M_look 43 = .ok (.iaload, 1) := by decide +kernel
theorem d_M_look_44 : decode b_M_look 44 = .ok (.ifCond .ge 8, 3) := by decide +kernel
theorem d_M_look_47 : decode b_M_look 47 = .ok (.aload_n 0, 1) := by decide +kernel
theorem d_M_look_48 : decode b_M_look 48 = .ok (.iload_n 3, 1) := by decide +kernel
theorem d_M_look_49 : decode b_M_look 49 = .ok (.invokevirtual 162, 3) := by decide +kernel
theorem d_M_look_52 : decode b_M_look 52 = .ok (.iload_n 2, 1) := by decide +kernel
theorem d_M_look_53 : decode b_M_look 53 = .ok (.ifCond .ne 12, 3) := by decide +kernel
theorem d_M_look_56 : decode b_M_look 56 = .ok (.aload_n 0, 1) := by decide +kernel
theorem d_M_look_57 : decode b_M_look 57 = .ok (.getfield 20, 3) := by decide +kernel
theorem d_M_look_60 : decode b_M_look 60 = .ok (.iload_n 3, 1) := by decide +kernel
theorem d_M_look_61 : decode b_M_look 61 = .ok (.iaload, 1) := by decide +kernel
theorem d_M_look_62 : decode b_M_look 62 = .ok (.goto 37, 3) := by decide +kernel
theorem d_M_look_65 : decode b_M_look 65 = .ok (.iload_n 2, 1) := by decide +kernel
theorem d_M_look_66 : decode b_M_look 66 = .ok (.iconst 1, 1) := by decide +kernel
theorem d_M_look_67 : decode b_M_look 67 = .ok (.if_icmp .ne 12, 3) := by decide +kernel
theorem d_M_look_70 : decode b_M_look 70 = .ok (.aload_n 0, 1) := by decide +kernel
theorem d_M_look_71 : decode b_M_look 71 = .ok (.getfield 32, 3) := by decide +kernel
theorem d_M_look_74 : decode b_M_look 74 = .ok (.iload_n 3, 1) := by decide +kernel
theorem d_M_look_75 : decode b_M_look 75 = .ok (.iaload, 1) := by decide +kernel
theorem d_M_look_76 : decode b_M_look 76 = .ok (.goto 23, 3) := by decide +kernel
theorem d_M_look_79 : decode b_M_look 79 = .ok (.iload_n 2, 1) := by decide +kernel
theorem d_M_look_80 : decode b_M_look 80 = .ok (.iconst 2, 1) := by decide +kernel
theorem d_M_look_81 : decode b_M_look 81 = .ok (.if_icmp .ne 12, 3) := by decide +kernel
theorem d_M_look_84 : decode b_M_look 84 = .ok (.aload_n 0, 1) := by decide +kernel
theorem d_M_look_85 : decode b_M_look 85 = .ok (.getfield 35, 3) := by decide +kernel
theorem d_M_look_88 : decode b_M_look 88 = .ok (.iload_n 3, 1) := by decide +kernel
theorem d_M_look_89 : decode b_M_look 89 = .ok (.iaload, 1) := by decide +kernel
theorem d_M_look_90 : decode b_M_look 90 = .ok (.goto 9, 3) := by decide +kernel
theorem d_M_look_93 : decode b_M_look 93 = .ok (.aload_n 0, 1) := by decide +kernel
theorem d_M_look_94 : decode b_M_look 94 = .ok (.getfield 23, 3) := by decide +kernel
theorem d_M_look_97 : decode b_M_look 97 = .ok (.iload_n 3, 1) := by decide +kernel
theorem d_M_look_98 : decode b_M_look 98 = .ok (.iaload, 1) := by decide +kernel
theorem d_M_look_99 : decode b_M_look 99 = .ok (.ireturn, 1) := by decide +kernel
theorem d_M_cost_0 : decode b_M_cost 0 = .ok (.aload_n 0, 1) := by decide +kernel
theorem d_M_cost_1 : decode b_M_cost 1 = .ok (.iload_n 1, 1) := by decide +kernel
theorem d_M_cost_2 : decode b_M_cost 2 = .ok (.invokevirtual 135, 3) := by decide +kernel
theorem d_M_cost_5 : decode b_M_cost 5 = .ok (.istore 4, 2) := by decide +kernel
theorem d_M_cost_7 : decode b_M_cost 7 = .ok (.iconst (-1), 1) := by decide +kernel
theorem d_M_cost_8 : decode b_M_cost 8 = .ok (.istore 5, 2) := by decide +kernel
theorem d_M_cost_10 : decode b_M_cost 10 = .ok (.iconst 0, 1) := by decide +kernel
theorem d_M_cost_11 : decode b_M_cost 11 = .ok (.istore 6, 2) := by decide +kernel
theorem d_M_cost_13 : decode b_M_cost 13 = .ok (.iload 4, 2) := by decide +kernel
theorem d_M_cost_15 : decode b_M_cost 15 = .ok (.ifCond .lt 59, 3) := by decide +kernel
theorem d_M_cost_18 : decode b_M_cost 18 = .ok (.iload 6, 2) := by decide +kernel
theorem d_M_cost_20 : decode b_M_cost 20 = .ok (.aload_n 0, 1) := by decide +kernel
theorem d_M_cost_21 : decode b_M_cost 21 = .ok (.getfield 20, 3) := by decide +kernel
theorem d_M_cost_24 : decode b_M_cost 24 = .ok (.iload 4, 2) := by decide +kernel
theorem d_M_cost_26 : decode b_M_cost 26 = .ok (.iaload, 1) := by decide +kernel
theorem d_M_cost_27 : decode b_M_cost 27 = .ok (.if_icmp .ge 47, 3) := by decide +kernel
theorem d_M_cost_30 : decode b_M_cost 30 = .ok (.aload_n 0, 1) := by decide +kernel
theorem d_M_cost_31 : decode b_M_cost 31 = .ok (.getfield 26, 3) := by decide +kernel
theorem d_M_cost_34 : decode b_M_cost 34 = .ok (.bipush 24, 2) := by decide +kernel
theorem d_M_cost_36 : decode b_M_cost 36 = .ok (.iload 4, 2) := by decide +kernel
theorem d_M_cost_38 : decode b_M_cost 38 = .ok (.imul, 1) := by decide +kernel
theorem d_M_cost_39 : decode b_M_cost 39 = .ok (.iload 6, 2) := by decide +kernel
theorem d_M_cost_41 : decode b_M_cost 41 = .ok (.iadd, 1) := by decide +kernel
theorem d_M_cost_42 : decode b_M_cost 42 = .ok (.laload, 1) := by decide +kernel
theorem d_M_cost_43 : decode b_M_cost 43 = .ok (.lload_n 2, 1) := by decide +kernel
theorem d_M_cost_44 : decode b_M_cost 44 = .ok (.lcmp, 1) := by decide +kernel
theorem d_M_cost_45 : decode b_M_cost 45 = .ok (.ifCond .ne 19, 3) := by decide +kernel
theorem d_M_cost_48 : decode b_M_cost 48 = .ok (.aload_n 0, 1) := by decide +kernel
theorem d_M_cost_49 : decode b_M_cost 49 = .ok (.getfield 29, 3) := by decide +kernel
theorem d_M_cost_52 : decode b_M_cost 52 = .ok (.bipush 24, 2) := by decide +kernel
theorem d_M_cost_54 : decode b_M_cost 54 = .ok (.iload 4, 2) := by decide +kernel
theorem d_M_cost_56 : decode b_M_cost 56 = .ok (.imul, 1) := by decide +kernel
theorem d_M_cost_57 : decode b_M_cost 57 = .ok (.iload 6, 2) := by decide +kernel
theorem d_M_cost_59 : decode b_M_cost 59 = .ok (.iadd, 1) := by decide +kernel
theorem d_M_cost_60 : decode b_M_cost 60 = .ok (.iaload, 1) := by decide +kernel
theorem d_M_cost_61 : decode b_M_cost 61 = .ok (.goto 5, 3) := by decide +kernel
theorem d_M_cost_64 : decode b_M_cost 64 = .ok (.iload 5, 2) := by decide +kernel
theorem d_M_cost_66 : decode b_M_cost 66 = .ok (.istore 5, 2) := by decide +kernel
theorem d_M_cost_68 : decode b_M_cost 68 = .ok (.iinc 6 1, 3) := by decide +kernel
theorem d_M_cost_71 : decode b_M_cost 71 = .ok (.goto (-58), 3) := by decide +kernel
theorem d_M_cost_74 : decode b_M_cost 74 = .ok (.aload_n 0, 1) := by decide +kernel
theorem d_M_cost_75 : decode b_M_cost 75 = .ok (.iload 5, 2) := by decide +kernel
theorem d_M_cost_77 : decode b_M_cost 77 = .ok (.ifCond .ge 7, 3) := by decide +kernel
theorem d_M_cost_80 : decode b_M_cost 80 = .ok (.iconst 1, 1) := by decide +kernel
theorem d_M_cost_81 : decode b_M_cost 81 = .ok (.goto 4, 3) := by decide +kernel
theorem d_M_cost_84 : decode b_M_cost 84 = .ok (.iconst 0, 1) := by decide +kernel
theorem d_M_cost_85 : decode b_M_cost 85 = .ok (.iconst 0, 1) := by decide +kernel
theorem d_M_cost_86 : decode b_M_cost 86 = .ok (.invokevirtual 117, 3) := by decide +kernel
theorem d_M_cost_89 : decode b_M_cost 89 = .ok (.ifCond .eq 7, 3) := by decide +kernel
theorem d_M_cost_92 : decode b_M_cost 92 = .ok (.iconst 0, 1) := by decide +kernel
theorem d_M_cost_93 : decode b_M_cost 93 = .ok (.goto 5, 3) := by decide +kernel
theorem d_M_cost_96 : decode b_M_cost 96 = .ok (.iload 5, 2) := by decide +kernel
theorem d_M_cost_98 : decode b_M_cost 98 = .ok (.ireturn, 1) := by decide +kernel
theorem d_M_give_0 : decode b_M_give 0 = .ok (.aload_n 0, 1) := by decide +kernel
theorem d_M_give_1 : decode b_M_give 1 = .ok (.getfield 166, 3) := by decide +kernel
theorem d_M_give_4 : decode b_M_give 4 = .ok (.istore 4, 2) := by decide +kernel
theorem d_M_give_6 : decode b_M_give 6 = .ok (.iload 4, 2) := by decide +kernel
theorem d_M_give_8 : decode b_M_give 8 = .ok (.ifCond .le 54, 3) := by decide +kernel
theorem d_M_give_11 : decode b_M_give 11 = .ok (.aload_n 0, 1) := by decide +kernel
theorem d_M_give_12 : decode b_M_give 12 = .ok (.getfield 56, 3) := by decide +kernel
theorem d_M_give_15 : decode b_M_give 15 = .ok (.iload 4, 2) := by decide +kernel
theorem d_M_give_17 : decode b_M_give 17 = .ok (.iconst 1, 1) := by decide +kernel
theorem d_M_give_18 : decode b_M_give 18 = .ok (.isub, 1) := by decide +kernel
theorem d_M_give_19 : decode b_M_give 19 = .ok (.iaload, 1) := by decide +kernel
theorem d_M_give_20 : decode b_M_give 20 = .ok (.iload_n 3, 1) := by decide +kernel
theorem d_M_give_21 : decode b_M_give 21 = .ok (.if_icmp .le 41, 3) := by decide +kernel
theorem d_M_give_24 : decode b_M_give 24 = .ok (.aload_n 0, 1) := by decide +kernel
theorem d_M_give_25 : decode b_M_give 25 = .ok (.getfield 53, 3) := by decide +kernel
theorem d_M_give_28 : decode b_M_give 28 = .ok (.iload 4, 2) := by decide +kernel
theorem d_M_give_30 : decode b_M_give 30 = .ok (.aload_n 0, 1) := by decide +kernel
theorem d_M_give_31 : decode b_M_give 31 = .ok (.getfield 53, 3) := by decide +kernel
theorem d_M_give_34 : decode b_M_give 34 = .ok (.iload 4, 2) := by decide +kernel
theorem d_M_give_36 : decode b_M_give 36 = .ok (.iconst 1, 1) := by decide +kernel
theorem d_M_give_37 : decode b_M_give 37 = .ok (.isub, 1) := by decide +kernel
theorem d_M_give_38 : decode b_M_give 38 = .ok (.laload, 1) := by decide +kernel
theorem d_M_give_39 : decode b_M_give 39 = .ok (.lastore, 1) := by decide +kernel
theorem d_M_give_40 : decode b_M_give 40 = .ok (.aload_n 0, 1) := by decide +kernel
theorem d_M_give_41 : decode b_M_give 41 = .ok (.getfield 56, 3) := by decide +kernel
theorem d_M_give_44 : decode b_M_give 44 = .ok (.iload 4, 2) := by decide +kernel
theorem d_M_give_46 : decode b_M_give 46 = .ok (.aload_n 0, 1) := by decide +kernel
theorem d_M_give_47 : decode b_M_give 47 = .ok (.getfield 56, 3) := by decide +kernel
theorem d_M_give_50 : decode b_M_give 50 = .ok (.iload 4, 2) := by decide +kernel
theorem d_M_give_52 : decode b_M_give 52 = .ok (.iconst 1, 1) := by decide +kernel
theorem d_M_give_53 : decode b_M_give 53 = .ok (.isub, 1) := by decide +kernel
theorem d_M_give_54 : decode b_M_give 54 = .ok (.iaload, 1) := by decide +kernel
theorem d_M_give_55 : decode b_M_give 55 = .ok (.iastore, 1) := by decide +kernel
theorem d_M_give_56 : decode b_M_give 56 = .ok (.iinc 4 (-1), 3) := by decide +kernel
theorem d_M_give_59 : decode b_M_give 59 = .ok (.goto (-53), 3) := by decide +kernel
theorem d_M_give_62 : decode b_M_give 62 = .ok (.aload_n 0, 1) := by decide +kernel
theorem d_M_give_63 : decode b_M_give 63 = .ok (.getfield 53, 3) := by decide +kernel
theorem d_M_give_66 : decode b_M_give 66 = .ok (.iload 4, 2) := by decide +kernel
theorem d_M_give_68 : decode b_M_give 68 = .ok (.lload_n 1, 1) := by decide +kernel
theorem d_M_give_69 : decode b_M_give 69 = .ok (.lastore, 1) := by decide +kernel
theorem d_M_give_70 : decode b_M_give 70 = .ok (.aload_n 0, 1) := by decide +kernel
theorem d_M_give_71 : decode b_M_give 71 = .ok (.getfield 56, 3) := by decide +kernel
theorem d_M_give_74 : decode b_M_give 74 = .ok (.iload 4, 2) := by decide +kernel
theorem d_M_give_76 : decode b_M_give 76 = .ok (.iload_n 3, 1) := by decide +kernel
theorem d_M_give_77 : decode b_M_give 77 = .ok (.iastore, 1) := by decide +kernel
theorem d_M_give_78 : decode b_M_give 78 = .ok (.aload_n 0, 1) := by decide +kernel
theorem d_M_give_79 : decode b_M_give 79 = .ok (.dup, 1) := by decide +kernel
theorem d_M_give_80 : decode b_M_give 80 = .ok (.getfield 166, 3) := by decide +kernel
theorem d_M_give_83 : decode b_M_give 83 = .ok (.iconst 1, 1) := by decide +kernel
theorem d_M_give_84 : decode b_M_give 84 = .ok (.iadd, 1) := by decide +kernel
theorem d_M_give_85 : decode b_M_give 85 = .ok (.putfield 166, 3) := by decide +kernel
theorem d_M_give_88 : decode b_M_give 88 = .ok (.return_, 1) := by decide +kernel
theorem d_M_complete_0 : decode b_M_complete 0 = .ok (.aload_n 0, 1) := by decide +kernel
theorem d_M_complete_1 : decode b_M_complete 1 = .ok (.iconst 0, 1) := by decide +kernel
theorem d_M_complete_2 : decode b_M_complete 2 = .ok (.putfield 166, 3) := by decide +kernel
theorem d_M_complete_5 : decode b_M_complete 5 = .ok (.lload_n 2, 1) := by decide +kernel
theorem d_M_complete_6 : decode b_M_complete 6 = .ok (.invokestatic 103, 3) := by decide +kernel
theorem d_M_complete_9 : decode b_M_complete 9 = .ok (.ifCond .eq 15, 3) := by decide +kernel
theorem d_M_complete_12 : decode b_M_complete 12 = .ok (.iload 4, 2) := by decide +kernel
theorem d_M_complete_14 : decode b_M_complete 14 = .ok (.ifCond .lt 10, 3) := by decide +kernel
theorem d_M_complete_17 : decode b_M_complete 17 = .ok (.iload 4, 2) := by decide +kernel
theorem d_M_complete_19 : decode b_M_complete 19 = .ok (.bipush 24, 2) := by decide +kernel
theorem d_M_complete_21 : decode b_M_complete 21 = .ok (.if_icmp .le 7, 3) := by decide +kernel
theorem d_M_complete_24 : decode b_M_complete 24 = .ok (.iconst 1, 1) := by decide +kernel
theorem d_M_complete_25 : decode b_M_complete 25 = .ok (.goto 4, 3) := by decide +kernel
theorem d_M_complete_28 : decode b_M_complete 28 = .ok (.iconst 0, 1) := by decide +kernel
theorem d_M_complete_29 : decode b_M_complete 29 = .ok (.istore 5, 2) := by decide +kernel
theorem d_M_complete_31 : decode b_M_complete 31 = .ok (.aload_n 0, 1) := by decide +kernel
theorem d_M_complete_32 : decode b_M_complete 32 = .ok (.iload_n 1, 1) := by decide +kernel
theorem d_M_complete_33 : decode b_M_complete 33 = .ok (.invokevirtual 135, 3) := by decide +kernel
theorem d_M_complete_36 : decode b_M_complete 36 = .ok (.istore 6, 2) := by decide +kernel
theorem d_M_complete_38 : decode b_M_complete 38 = .ok (.aload_n 0, 1) := by decide +kernel
theorem d_M_complete_39 : decode b_M_complete 39 = .ok (.iload 5, 2) := by decide +kernel
theorem d_M_complete_41 : decode b_M_complete 41 = .ok (.iload 6, 2) := by decide +kernel
theorem d_M_complete_43 : decode b_M_complete 43 = .ok (.ifCond .ge 7, 3) := by decide +kernel
theorem d_M_complete_46 : decode b_M_complete 46 = .ok (.iconst 1, 1) := by decide +kernel
theorem d_M_complete_47 : decode b_M_complete 47 = .ok (.goto 4, 3) := by decide +kernel
theorem d_M_complete_50 : decode b_M_complete 50 = .ok (.iconst 0, 1) := by decide +kernel
theorem d_M_complete_51 : decode b_M_complete 51 = .ok (.invokevirtual 117, 3) := by decide +kernel
theorem d_M_complete_54 : decode b_M_complete 54 = .ok (.ifCond .eq 5, 3) := by decide +kernel
theorem d_M_complete_57 : decode b_M_complete 57 = .ok (.iconst 0, 1) := by decide +kernel
theorem d_M_complete_58 : decode b_M_complete 58 = .ok (.ireturn, 1) := by decide +kernel
theorem d_M_complete_59 : decode b_M_complete 59 = .ok (.lload_n 2, 1) := by decide +kernel
theorem d_M_complete_60 : decode b_M_complete 60 = .ok (.invokestatic 93, 3) := by decide +kernel
theorem d_M_complete_63 : decode b_M_complete 63 = .ok (.istore 7, 2) := by decide +kernel
theorem d_M_complete_65 : decode b_M_complete 65 = .ok (.iconst 0, 1) := by decide +kernel
theorem d_M_complete_66 : decode b_M_complete 66 = .ok (.istore 8, 2) := by decide +kernel
theorem d_M_complete_68 : decode b_M_complete 68 = .ok (.iload 8, 2) := by decide +kernel
theorem d_M_complete_70 : decode b_M_complete 70 = .ok (.aload_n 0, 1) := by decide +kernel
theorem d_M_complete_71 : decode b_M_complete 71 = .ok (.getfield 20, 3) := by decide +kernel
theorem d_M_complete_74 : decode b_M_complete 74 = .ok (.iload 6, 2) := by decide +kernel
theorem d_M_complete_76 : decode b_M_complete 76 = .ok (.iaload, 1) := by decide +kernel
theorem d_M_complete_77 : decode b_M_complete 77 = .ok (.if_icmp .ge 61, 3) := by decide +kernel
theorem d_M_complete_80 : decode b_M_complete 80 = .ok (.aload_n 0, 1) := by decide +kernel
theorem d_M_complete_81 : decode b_M_complete 81 = .ok (.getfield 26, 3) := by decide +kernel
theorem d_M_complete_84 : decode b_M_complete 84 = .ok (.bipush 24, 2) := by decide +kernel
theorem d_M_complete_86 : decode b_M_complete 86 = .ok (.iload 6, 2) := by decide +kernel
theorem d_M_complete_88 : decode b_M_complete 88 = .ok (.imul, 1) := by decide +kernel
theorem d_M_complete_89 : decode b_M_complete 89 = .ok (.iload 8, 2) := by decide +kernel
theorem d_M_complete_91 : decode b_M_complete 91 = .ok (.iadd, 1) := by decide +kernel
theorem d_M_complete_92 : decode b_M_complete 92 = .ok (.laload, 1) := by decide +kernel
theorem d_M_complete_93 : decode b_M_complete 93 = .ok (.lload_n 2, 1) := by decide +kernel
theorem d_M_complete_94 : decode b_M_complete 94 = .ok (.invokestatic 142, 3) := by decide +kernel
theorem d_M_complete_97 : decode b_M_complete 97 = .ok (.iload 7, 2) := by decide +kernel
theorem d_M_complete_99 : decode b_M_complete 99 = .ok (.if_icmp .ne 33, 3) := by decide +kernel
theorem d_M_complete_102 : decode b_M_complete 102 = .ok (.aload_n 0, 1) := by decide +kernel
theorem d_M_complete_103 : decode b_M_complete 103 = .ok (.aload_n 0, 1) := by decide +kernel
theorem d_M_complete_104 : decode b_M_complete 104 = .ok (.getfield 26, 3) := by decide +kernel
theorem d_M_complete_107 : decode b_M_complete 107 = .ok (.bipush 24, 2) := by decide +kernel
theorem d_M_complete_109 : decode b_M_complete 109 = .ok (.iload 6, 2) := by decide +kernel
theorem d_M_complete_111 : decode b_M_complete 111 = .ok (.imul, 1) := by decide +kernel
theorem d_M_complete_112 : decode b_M_complete 112 = .ok (.iload 8, 2) := by decide +kernel
theorem d_M_complete_114 : decode b_M_complete 114 = .ok (.iadd, 1) := by decide +kernel
theorem d_M_complete_115 : decode b_M_complete 115 = .ok (.laload, 1) := by decide +kernel
theorem d_M_complete_116 : decode b_M_complete 116 = .ok (.aload_n 0, 1) := by decide +kernel
theorem d_M_complete_117 : decode b_M_complete 117 = .ok (.getfield 29, 3) := by decide +kernel
theorem d_M_complete_120 : decode b_M_complete 120 = .ok (.bipush 24, 2) := by decide +kernel
theorem d_M_complete_122 : decode b_M_complete 122 = .ok (.iload 6, 2) := by decide +kernel
theorem d_M_complete_124 : decode b_M_complete 124 = .ok (.imul, 1) := by decide +kernel
theorem d_M_complete_125 : decode b_M_complete 125 = .ok (.iload 8, 2) := by decide +kernel
theorem d_M_complete_127 : decode b_M_complete 127 = .ok (.iadd, 1) := by decide +kernel
theorem d_M_complete_128 : decode b_M_complete 128 = .ok (.iaload, 1) := by decide +kernel
theorem d_M_complete_129 : decode b_M_complete 129 = .ok (.invokevirtual 169, 3) := by decide +kernel
theorem d_M_complete_132 : decode b_M_complete 132 = .ok (.iinc 8 1, 3) := by decide +kernel
theorem d_M_complete_135 : decode b_M_complete 135 = .ok (.goto (-67), 3) := by decide +kernel
theorem d_M_complete_138 : decode b_M_complete 138 = .ok (.aload_n 0, 1) := by decide +kernel
theorem d_M_complete_139 : decode b_M_complete 139 = .ok (.aload_n 0, 1) := by decide +kernel
theorem d_M_complete_140 : decode b_M_complete 140 = .ok (.getfield 166, 3) := by decide +kernel
theorem d_M_complete_143 : decode b_M_complete 143 = .ok (.iload 4, 2) := by decide +kernel
theorem d_M_complete_145 : decode b_M_complete 145 = .ok (.if_icmp .ge 10, 3) := by decide +kernel
theorem d_M_complete_148 : decode b_M_complete 148 = .ok (.aload_n 0, 1) := by decide +kernel
theorem d_M_complete_149 : decode b_M_complete 149 = .ok (.getfield 166, 3) := by decide +kernel
theorem d_M_complete_152 : decode b_M_complete 152 = .ok (.goto 5, 3) := by decide +kernel
theorem d_M_complete_155 : decode b_M_complete 155 = .ok (.iload 4, 2) := by decide +kernel
theorem d_M_complete_157 : decode b_M_complete 157 = .ok (.putfield 166, 3) := by decide +kernel
theorem d_M_complete_160 : decode b_M_complete 160 = .ok (.aload_n 0, 1) := by decide +kernel
theorem d_M_complete_161 : decode b_M_complete 161 = .ok (.getfield 166, 3) := by decide +kernel
theorem d_M_complete_164 : decode b_M_complete 164 = .ok (.ireturn, 1) := by decide +kernel
theorem d_M_lesser_0 : decode b_M_lesser 0 = .ok (.iload_n 0, 1) := by decide +kernel
theorem d_M_lesser_1 : decode b_M_lesser 1 = .ok (.iload_n 1, 1) := by decide +kernel
theorem d_M_lesser_2 : decode b_M_lesser 2 = .ok (.if_icmp .ge 7, 3) := by decide +kernel
theorem d_M_lesser_5 : decode b_M_lesser 5 = .ok (.iload_n 0, 1) := by decide +kernel
theorem d_M_lesser_6 : decode b_M_lesser 6 = .ok (.goto 4, 3) := by decide +kernel
theorem d_M_lesser_9 : decode b_M_lesser 9 = .ok (.iload_n 1, 1) := by decide +kernel
theorem d_M_lesser_10 : decode b_M_lesser 10 = .ok (.ireturn, 1) := by decide +kernel
theorem d_M_distanceOf_0 : decode b_M_distanceOf 0 = .ok (.lload_n 1, 1) := by decide +kernel
theorem d_M_distanceOf_1 : decode b_M_distanceOf 1 = .ok (.invokestatic 93, 3) := by decide +kernel
theorem d_M_distanceOf_4 : decode b_M_distanceOf 4 = .ok (.istore 5, 2) := by decide +kernel
theorem d_M_distanceOf_6 : decode b_M_distanceOf 6 = .ok (.lload_n 3, 1) := by decide +kernel
theorem d_M_distanceOf_7 : decode b_M_distanceOf 7 = .ok (.invokestatic 93, 3) := by decide +kernel
theorem d_M_distanceOf_10 : decode b_M_distanceOf 10 = .ok (.istore 6, 2) := by decide +kernel
theorem d_M_distanceOf_12 : decode b_M_distanceOf 12 = .ok (.iconst 0, 1) := by decide +kernel
theorem d_M_distanceOf_13 : decode b_M_distanceOf 13 = .ok (.istore 7, 2) := by decide +kernel
theorem d_M_distanceOf_15 : decode b_M_distanceOf 15 = .ok (.iload 7, 2) := by decide +kernel
theorem d_M_distanceOf_17 : decode b_M_distanceOf 17 = .ok (.iload 5, 2) := by decide +kernel
theorem d_M_distanceOf_19 : decode b_M_distanceOf 19 = .ok (.if_icmp .gt 218, 3) := by decide +kernel
theorem d_M_distanceOf_22 : decode b_M_distanceOf 22 = .ok (.iconst 0, 1) := by decide +kernel
theorem d_M_distanceOf_23 : decode b_M_distanceOf 23 = .ok (.istore 8, 2) := by decide +kernel
theorem d_M_distanceOf_25 : decode b_M_distanceOf 25 = .ok (.iload 8, 2) := by decide +kernel
theorem d_M_distanceOf_27 : decode b_M_distanceOf 27 = .ok (.iload 6, 2) := by decide +kernel
theorem d_M_distanceOf_29 : decode b_M_distanceOf 29 = .ok (.if_icmp .gt 202, 3) := by decide +kernel
theorem d_M_distanceOf_32 : decode b_M_distanceOf 32 = .ok (.iload 7, 2) := by decide +kernel
theorem d_M_distanceOf_34 : decode b_M_distanceOf 34 = .ok (.iload 8, 2) := by decide +kernel
theorem d_M_distanceOf_36 : decode b_M_distanceOf 36 = .ok (.iadd, 1) := by decide +kernel
theorem d_M_distanceOf_37 : decode b_M_distanceOf 37 = .ok (.istore 9, 2) := by decide +kernel
theorem d_M_distanceOf_39 : decode b_M_distanceOf 39 = .ok (.iload 7, 2) := by decide +kernel
theorem d_M_distanceOf_41 : decode b_M_distanceOf 41 = .ok (.ifCond .le 94, 3) := by decide +kernel
theorem d_M_distanceOf_44 : decode b_M_distanceOf 44 = .ok (.iload 8, 2) := by decide +kernel
theorem d_M_distanceOf_46 : decode b_M_distanceOf 46 = .ok (.ifCond .le 89, 3) := by decide +kernel
theorem d_M_distanceOf_49 : decode b_M_distanceOf 49 = .ok (.lload_n 1, 1) := by decide +kernel
theorem d_M_distanceOf_50 : decode b_M_distanceOf 50 = .ok (.iload 7, 2) := by decide +kernel
theorem d_M_distanceOf_52 : decode b_M_distanceOf 52 = .ok (.iconst 1, 1) := by decide +kernel
theorem d_M_distanceOf_53 : decode b_M_distanceOf 53 = .ok (.isub, 1) := by decide +kernel
theorem d_M_distanceOf_54 : decode b_M_distanceOf 54 = .ok (.invokestatic 107, 3) := by decide +kernel
theorem d_M_distanceOf_57 : decode b_M_distanceOf 57 = .ok (.lload_n 3, 1) := by decide +kernel
theorem d_M_distanceOf_58 : decode b_M_distanceOf 58 = .ok (.iload 8, 2) := by decide +kernel
theorem d_M_distanceOf_60 : decode b_M_distanceOf 60 = .ok (.iconst 1, 1) := by decide +kernel
theorem d_M_distanceOf_61 : decode b_M_distanceOf 61 = .ok (.isub, 1) := by decide +kernel
theorem d_M_distanceOf_62 : decode b_M_distanceOf 62 = .ok (.invokestatic 107, 3) := by decide +kernel
theorem d_M_distanceOf_65 : decode b_M_distanceOf 65 = .ok (.if_icmp .ne 7, 3) := by decide +kernel
theorem d_M_distanceOf_68 : decode b_M_distanceOf 68 = .ok (.iconst 0, 1) := by decide +kernel
theorem d_M_distanceOf_69 : decode b_M_distanceOf 69 = .ok (.goto 4, 3) := by decide +kernel
theorem d_M_distanceOf_72 : decode b_M_distanceOf 72 = .ok (.iconst 1, 1) := by decide +kernel
theorem d_M_distanceOf_73 : decode b_M_distanceOf 73 = .ok (.istore 10, 2) := by decide +kernel
theorem d_M_distanceOf_75 : decode b_M_distanceOf 75 = .ok (.aload_n 0, 1) := by decide +kernel
theorem d_M_distanceOf_76 : decode b_M_distanceOf 76 = .ok (.getfield 59, 3) := by decide +kernel
theorem d_M_distanceOf_79 : decode b_M_distanceOf 79 = .ok (.bipush 9, 2) := by decide +kernel
theorem d_M_distanceOf_81 : decode b_M_distanceOf 81 = .ok (.iload 7, 2) := by decide +kernel
theorem d_M_distanceOf_83 : decode b_M_distanceOf 83 = .ok (.imul, 1) := by decide +kernel
theorem d_M_distanceOf_84 : decode b_M_distanceOf 84 = .ok (.bipush 9, 2) := by decide +kernel
theorem d_M_distanceOf_86 : decode b_M_distanceOf 86 = .ok (.isub, 1) := by decide +kernel
theorem d_M_distanceOf_87 : decode b_M_distanceOf 87 = .ok (.iload 8, 2) := by decide +kernel
theorem d_M_distanceOf_89 : decode b_M_distanceOf 89 = .ok (.iadd, 1) := by decide +kernel
theorem d_M_distanceOf_90 : decode b_M_distanceOf 90 = .ok (.iaload, 1) := by decide +kernel
theorem d_M_distanceOf_91 : decode b_M_distanceOf 91 = .ok (.aload_n 0, 1) := by decide +kernel
theorem d_M_distanceOf_92 : decode b_M_distanceOf 92 = .ok (.getfield 59, 3) := by decide +kernel
theorem d_M_distanceOf_95 : decode b_M_distanceOf 95 = .ok (.bipush 9, 2) := by decide +kernel
theorem d_M_distanceOf_97 : decode b_M_distanceOf 97 = .ok (.iload 7, 2) := by decide +kernel
theorem d_M_distanceOf_99 : decode b_M_distanceOf 99 = .ok (.imul, 1) := by decide +kernel
theorem d_M_distanceOf_100 : decode b_M_distanceOf 100 = .ok (.iload 8, 2) := by decide +kernel
theorem d_M_distanceOf_102 : decode b_M_distanceOf 102 = .ok (.iadd, 1) := by decide +kernel
theorem d_M_distanceOf_103 : decode b_M_distanceOf 103 = .ok (.iconst 1, 1) := by decide +kernel
theorem d_M_distanceOf_104 : decode b_M_distanceOf 104 = .ok (.isub, 1) := by decide +kernel
theorem d_M_distanceOf_105 : decode b_M_distanceOf 105 = .ok (.iaload, 1) := by decide +kernel
theorem d_M_distanceOf_106 : decode b_M_distanceOf 106 = .ok (.invokestatic 173, 3) := by decide +kernel
theorem d_M_distanceOf_109 : decode b_M_distanceOf 109 = .ok (.iconst 1, 1) := by decide +kernel
theorem d_M_distanceOf_110 : decode b_M_distanceOf 110 = .ok (.iadd, 1) := by decide +kernel
theorem d_M_distanceOf_111 : decode b_M_distanceOf 111 = .ok (.aload_n 0, 1) := by decide +kernel
theorem d_M_distanceOf_112 : decode b_M_distanceOf 112 = .ok (.getfield 59, 3) := by decide +kernel
theorem d_M_distanceOf_115 : decode b_M_distanceOf 115 = .ok (.bipush 9, 2) := by decide +kernel
theorem d_M_distanceOf_117 : decode b_M_distanceOf 117 = .ok (.iload 7, 2) := by decide +kernel
theorem d_M_distanceOf_119 : decode b_M_distanceOf 119 = .ok (.imul, 1) := by decide +kernel
theorem d_M_distanceOf_120 : decode b_M_distanceOf 120 = .ok (.iload 8, 2) := by decide +kernel
theorem d_M_distanceOf_122 : decode b_M_distanceOf 122 = .ok (.iadd, 1) := by decide +kernel
theorem d_M_distanceOf_123 : decode b_M_distanceOf 123 = .ok (.bipush 10, 2) := by decide +kernel
theorem d_M_distanceOf_125 : decode b_M_distanceOf 125 = .ok (.isub, 1) := by decide +kernel
theorem d_M_distanceOf_126 : decode b_M_distanceOf 126 = .ok (.iaload, 1) := by decide +kernel
theorem d_M_distanceOf_127 : decode b_M_distanceOf 127 = .ok (.iload 10, 2) := by decide +kernel
theorem d_M_distanceOf_129 : decode b_M_distanceOf 129 = .ok (.iadd, 1) := by decide +kernel
theorem d_M_distanceOf_130 : decode b_M_distanceOf 130 = .ok (.invokestatic 173, 3) := by decide +kernel
theorem d_M_distanceOf_133 : decode b_M_distanceOf 133 = .ok (.istore 9, 2) := by decide +kernel
theorem d_M_distanceOf_135 : decode b_M_distanceOf 135 = .ok (.iload 7, 2) := by decide +kernel
theorem d_M_distanceOf_137 : decode b_M_distanceOf 137 = .ok (.iconst 1, 1) := by decide +kernel
theorem d_M_distanceOf_138 : decode b_M_distanceOf 138 = .ok (.if_icmp .le 72, 3) := by decide +kernel
theorem d_M_distanceOf_141 : decode b_M_distanceOf 141 = .ok (.iload 8, 2) := by decide +kernel
theorem d_M_distanceOf_143 : decode b_M_distanceOf 143 = .ok (.iconst 1, 1) := by decide +kernel
theorem d_M_distanceOf_144 : decode b_M_distanceOf 144 = .ok (.if_icmp .le 66, 3) := by decide +kernel
theorem d_M_distanceOf_147 : decode b_M_distanceOf 147 = .ok (.lload_n 1, 1) := by decide +kernel
theorem d_M_distanceOf_148 : decode b_M_distanceOf 148 = .ok (.iload 7, 2) := by decide +kernel
theorem d_M_distanceOf_150 : decode b_M_distanceOf 150 = .ok (.iconst 2, 1) := by decide +kernel
theorem d_M_distanceOf_151 : decode b_M_distanceOf 151 = .ok (.isub, 1) := by decide +kernel
theorem d_M_distanceOf_152 : decode b_M_distanceOf 152 = .ok (.invokestatic 107, 3) := by decide +kernel
theorem d_M_distanceOf_155 : decode b_M_distanceOf 155 = .ok (.lload_n 3, 1) := by decide +kernel
theorem d_M_distanceOf_156 : decode b_M_distanceOf 156 = .ok (.iload 8, 2) := by decide +kernel
theorem d_M_distanceOf_158 : decode b_M_distanceOf 158 = .ok (.iconst 1, 1) := by decide +kernel
theorem d_M_distanceOf_159 : decode b_M_distanceOf 159 = .ok (.isub, 1) := by decide +kernel
theorem d_M_distanceOf_160 : decode b_M_distanceOf 160 = .ok (.invokestatic 107, 3) := by decide +kernel
theorem d_M_distanceOf_163 : decode b_M_distanceOf 163 = .ok (.if_icmp .ne 47, 3) := by decide +kernel
theorem d_M_distanceOf_166 : decode b_M_distanceOf 166 = .ok (.lload_n 1, 1) := by decide +kernel
theorem d_M_distanceOf_167 : decode b_M_distanceOf 167 = .ok (.iload 7, 2) := by decide +kernel
theorem d_M_distanceOf_169 : decode b_M_distanceOf 169 = .ok (.iconst 1, 1) := by decide +kernel
theorem d_M_distanceOf_170 : decode b_M_distanceOf 170 = .ok (.isub, 1) := by decide +kernel
theorem d_M_distanceOf_171 : decode b_M_distanceOf 171 = .ok (.invokestatic 107, 3) := by decide +kernel
theorem d_M_distanceOf_174 : decode b_M_distanceOf 174 = .ok (.lload_n 3, 1) := by decide +kernel
theorem d_M_distanceOf_175 : decode b_M_distanceOf 175 = .ok (.iload 8, 2) := by decide +kernel
theorem d_M_distanceOf_177 : decode b_M_distanceOf 177 = .ok (.iconst 2, 1) := by decide +kernel
theorem d_M_distanceOf_178 : decode b_M_distanceOf 178 = .ok (.isub, 1) := by decide +kernel
theorem d_M_distanceOf_179 : decode b_M_distanceOf 179 = .ok (.invokestatic 107, 3) := by decide +kernel
theorem d_M_distanceOf_182 : decode b_M_distanceOf 182 = .ok (.if_icmp .ne 28, 3) := by decide +kernel
theorem d_M_distanceOf_185 : decode b_M_distanceOf 185 = .ok (.iload 9, 2) := by decide +kernel
theorem d_M_distanceOf_187 : decode b_M_distanceOf 187 = .ok (.aload_n 0, 1) := by decide +kernel
theorem d_M_distanceOf_188 : decode b_M_distanceOf 188 = .ok (.getfield 59, 3) := by decide +kernel
theorem d_M_distanceOf_191 : decode b_M_distanceOf 191 = .ok (.bipush 9, 2) := by decide +kernel
theorem d_M_distanceOf_193 : decode b_M_distanceOf 193 = .ok (.iload 7, 2) := by decide +kernel
theorem d_M_distanceOf_195 : decode b_M_distanceOf 195 = .ok (.imul, 1) := by decide +kernel
theorem d_M_distanceOf_196 : decode b_M_distanceOf 196 = .ok (.iload 8, 2) := by decide +kernel
theorem d_M_distanceOf_198 : decode b_M_distanceOf 198 = .ok (.iadd, 1) := by decide +kernel
theorem d_M_distanceOf_199 : decode b_M_distanceOf 199 = .ok (.bipush 20, 2) := by decide +kernel
theorem d_M_distanceOf_201 : decode b_M_distanceOf 201 = .ok (.isub, 1) := by decide +kernel
theorem d_M_distanceOf_202 : decode b_M_distanceOf 202 = .ok (.iaload, 1) := by decide +kernel
theorem d_M_distanceOf_203 : decode b_M_distanceOf 203 = .ok (.iconst 1, 1) := by decide +kernel
theorem d_M_distanceOf_204 : decode b_M_distanceOf 204 = .ok (.iadd, 1) := by decide +kernel
theorem d_M_distanceOf_205 : decode b_M_distanceOf 205 = .ok (.invokestatic 173, 3) := by decide +kernel
theorem d_M_distanceOf_208 : decode b_M_distanceOf 208 = .ok (.istore 9, 2) := by decide +kernel
theorem d_M_distanceOf_210 : decode b_M_distanceOf 210 = .ok (.aload_n 0, 1) := by decide +kernel
theorem d_M_distanceOf_211 : decode b_M_distanceOf 211 = .ok (.getfield 59, 3) := by decide +kernel
theorem d_M_distanceOf_214 : decode b_M_distanceOf 214 = .ok (.bipush 9, 2) := by decide +kernel
theorem d_M_distanceOf_216 : decode b_M_distanceOf 216 = .ok (.iload 7, 2) := by decide +kernel
theorem d_M_distanceOf_218 : decode b_M_distanceOf 218 = .ok (.imul, 1) := by decide +kernel
theorem d_M_distanceOf_219 : decode b_M_distanceOf 219 = .ok (.iload 8, 2) := by decide +kernel
theorem d_M_distanceOf_221 : decode b_M_distanceOf 221 = .ok (.iadd, 1) := by decide +kernel
theorem d_M_distanceOf_222 : decode b_M_distanceOf 222 = .ok (.iload 9, 2) := by decide +kernel
theorem d_M_distanceOf_224 : decode b_M_distanceOf 224 = .ok (.iastore, 1) := by decide +kernel
theorem d_M_distanceOf_225 : decode b_M_distanceOf 225 = .ok (.iinc 8 1, 3) := by decide +kernel
theorem d_M_distanceOf_228 : decode b_M_distanceOf 228 = .ok (.goto (-203), 3) := by decide +kernel
theorem d_M_distanceOf_231 : decode b_M_distanceOf 231 = .ok (.iinc 7 1, 3) := by decide +kernel
theorem d_M_distanceOf_234 : decode b_M_distanceOf 234 = .ok (.goto (-219), 3) := by decide +kernel
theorem d_M_distanceOf_237 : decode b_M_distanceOf 237 = .ok (.aload_n 0, 1) := by decide +kernel
theorem d_M_distanceOf_238 : decode b_M_distanceOf 238 = .ok (.getfield 59, 3) := by decide +kernel
theorem d_M_distanceOf_241 : decode b_M_distanceOf 241 = .ok (.bipush 9, 2) := by decide +kernel
theorem d_M_distanceOf_243 : decode b_M_distanceOf 243 = .ok (.iload 5, 2) := by decide +kernel
theorem d_M_distanceOf_245 : decode b_M_distanceOf 245 = .ok (.imul, 1) := by decide +kernel
theorem d_M_distanceOf_246 : decode b_M_distanceOf 246 = .ok (.iload 6, 2) := by decide +kernel
theorem d_M_distanceOf_248 : decode b_M_distanceOf 248 = .ok (.iadd, 1) := by decide +kernel
theorem d_M_distanceOf_249 : decode b_M_distanceOf 249 = .ok (.iaload, 1) := by decide +kernel
theorem d_M_distanceOf_250 : decode b_M_distanceOf 250 = .ok (.ireturn, 1) := by decide +kernel
theorem d_M_near_0 : decode b_M_near 0 = .ok (.aload_n 0, 1) := by decide +kernel
theorem d_M_near_1 : decode b_M_near 1 = .ok (.iconst 0, 1) := by decide +kernel
theorem d_M_near_2 : decode b_M_near 2 = .ok (.putfield 166, 3) := by decide +kernel
theorem d_M_near_5 : decode b_M_near 5 = .ok (.lload_n 2, 1) := by decide +kernel
theorem d_M_near_6 : decode b_M_near 6 = .ok (.invokestatic 111, 3) := by decide +kernel
theorem d_M_near_9 : decode b_M_near 9 = .ok (.ifCond .eq 14, 3) := by decide +kernel
theorem d_M_near_12 : decode b_M_near 12 = .ok (.iload 4, 2) := by decide +kernel
theorem d_M_near_14 : decode b_M_near 14 = .ok (.ifCond .lt 9, 3) := by decide +kernel
theorem d_M_near_17 : decode b_M_near 17 = .ok (.iload 4, 2) := by decide +kernel
theorem d_M_near_19 : decode b_M_near 19 = .ok (.iconst 2, 1) := by decide +kernel
theorem d_M_near_20 : decode b_M_near 20 = .ok (.if_icmp .le 7, 3) := by decide +kernel
theorem d_M_near_23 : decode b_M_near 23 = .ok (.iconst 1, 1) := by decide +kernel
theorem d_M_near_24 : decode b_M_near 24 = .ok (.goto 4, 3) := by decide +kernel
theorem d_M_near_27 : decode b_M_near 27 = .ok (.iconst 0, 1) := by decide +kernel
theorem d_M_near_28 : decode b_M_near 28 = .ok (.istore 5, 2) := by decide +kernel
theorem d_M_near_30 : decode b_M_near 30 = .ok (.aload_n 0, 1) := by decide +kernel
theorem d_M_near_31 : decode b_M_near 31 = .ok (.iload_n 1, 1) := by decide +kernel
theorem d_M_near_32 : decode b_M_near 32 = .ok (.invokevirtual 135, 3) := by decide +kernel
theorem d_M_near_35 : decode b_M_near 35 = .ok (.istore 6, 2) := by decide +kernel
theorem d_M_near_37 : decode b_M_near 37 = .ok (.aload_n 0, 1) := by decide +kernel
theorem d_M_near_38 : decode b_M_near 38 = .ok (.iload 5, 2) := by decide +kernel
theorem d_M_near_40 : decode b_M_near 40 = .ok (.iload 6, 2) := by decide +kernel
theorem d_M_near_42 : decode b_M_near 42 = .ok (.ifCond .ge 7, 3) := by decide +kernel
theorem d_M_near_45 : decode b_M_near 45 = .ok (.iconst 1, 1) := by decide +kernel
theorem d_M_near_46 : decode b_M_near 46 = .ok (.goto 4, 3) := by decide +kernel
theorem d_M_near_49 : decode b_M_near 49 = .ok (.iconst 0, 1) := by decide +kernel
theorem d_M_near_50 : decode b_M_near 50 = .ok (.invokevirtual 117, 3) := by decide +kernel
theorem d_M_near_53 : decode b_M_near 53 = .ok (.ifCond .eq 5, 3) := by decide +kernel
theorem d_M_near_56 : decode b_M_near 56 = .ok (.iconst 0, 1) := by decide +kernel
theorem d_M_near_57 : decode b_M_near 57 = .ok (.ireturn, 1) := by decide +kernel
theorem d_M_near_58 : decode b_M_near 58 = .ok (.iconst 0, 1) := by decide +kernel
theorem d_M_near_59 : decode b_M_near 59 = .ok (.istore 7, 2) := by decide +kernel
theorem d_M_near_61 : decode b_M_near 61 = .ok (.iload 7, 2) := by decide +kernel
theorem d_M_near_63 : decode b_M_near 63 = .ok (.aload_n 0, 1) := by decide +kernel
theorem d_M_near_64 : decode b_M_near 64 = .ok (.getfield 20, 3) := by decide +kernel
theorem d_M_near_67 : decode b_M_near 67 = .ok (.iload 6, 2) := by decide +kernel
theorem d_M_near_69 : decode b_M_near 69 = .ok (.iaload, 1) := by decide +kernel
theorem d_M_near_70 : decode b_M_near 70 = .ok (.if_icmp .ge 73, 3) := by decide +kernel
theorem d_M_near_73 : decode b_M_near 73 = .ok (.aload_n 0, 1) := by decide +kernel
theorem d_M_near_74 : decode b_M_near 74 = .ok (.lload_n 2, 1) := by decide +kernel
theorem d_M_near_75 : decode b_M_near 75 = .ok (.aload_n 0, 1) := by decide +kernel
theorem d_M_near_76 : decode b_M_near 76 = .ok (.getfield 26, 3) := by decide +kernel
theorem d_M_near_79 : decode b_M_near 79 = .ok (.bipush 24, 2) := by decide +kernel
theorem d_M_near_81 : decode b_M_near 81 = .ok (.iload 6, 2) := by decide +kernel
theorem d_M_near_83 : decode b_M_near 83 = .ok (.imul, 1) := by decide +kernel
theorem d_M_near_84 : decode b_M_near 84 = .ok (.iload 7, 2) := by decide +kernel
theorem d_M_near_86 : decode b_M_near 86 = .ok (.iadd, 1) := by decide +kernel
theorem d_M_near_87 : decode b_M_near 87 = .ok (.laload, 1) := by decide +kernel
theorem d_M_near_88 : decode b_M_near 88 = .ok (.invokevirtual 176, 3) := by decide +kernel
theorem d_M_near_91 : decode b_M_near 91 = .ok (.istore 8, 2) := by decide +kernel
theorem d_M_near_93 : decode b_M_near 93 = .ok (.iload 8, 2) := by decide +kernel
theorem d_M_near_95 : decode b_M_near 95 = .ok (.iload 4, 2) := by decide +kernel
theorem d_M_near_97 : decode b_M_near 97 = .ok (.if_icmp .gt 40, 3) := by decide +kernel
theorem d_M_near_100 : decode b_M_near 100 = .ok (.aload_n 0, 1) := by decide +kernel
theorem d_M_near_101 : decode b_M_near 101 = .ok (.aload_n 0, 1) := by decide +kernel
theorem d_M_near_102 : decode b_M_near 102 = .ok (.getfield 26, 3) := by decide +kernel
theorem d_M_near_105 : decode b_M_near 105 = .ok (.bipush 24, 2) := by decide +kernel
theorem d_M_near_107 : decode b_M_near 107 = .ok (.iload 6, 2) := by decide +kernel
theorem d_M_near_109 : decode b_M_near 109 = .ok (.imul, 1) := by decide +kernel
theorem d_M_near_110 : decode b_M_near 110 = .ok (.iload 7, 2) := by decide +kernel
theorem d_M_near_112 : decode b_M_near 112 = .ok (.iadd, 1) := by decide +kernel
theorem d_M_near_113 : decode b_M_near 113 = .ok (.laload, 1) := by decide +kernel
theorem d_M_near_114 : decode b_M_near 114 = .ok (.sipush 10000, 3) := by decide +kernel
theorem d_M_near_117 : decode b_M_near 117 = .ok (.iload 8, 2) := by decide +kernel
theorem d_M_near_119 : decode b_M_near 119 = .ok (.imul, 1) := by decide +kernel
theorem d_M_near_120 : decode b_M_near 120 = .ok (.aload_n 0, 1) := by decide +kernel
theorem d_M_near_121 : decode b_M_near 121 = .ok (.getfield 29, 3) := by decide +kernel
theorem d_M_near_124 : decode b_M_near 124 = .ok (.bipush 24, 2) := by decide +kernel
theorem d_M_near_126 : decode b_M_near 126 = .ok (.iload 6, 2) := by decide +kernel
theorem d_M_near_128 : decode b_M_near 128 = .ok (.imul, 1) := by decide +kernel
theorem d_M_near_129 : decode b_M_near 129 = .ok (.iload 7, 2) := by decide +kernel
theorem d_M_near_131 : decode b_M_near 131 = .ok (.iadd, 1) := by decide +kernel
theorem d_M_near_132 : decode b_M_near 132 = .ok (.iaload, 1) := by decide +kernel
theorem d_M_near_133 : decode b_M_near 133 = .ok (.iadd, 1) := by decide +kernel
theorem d_M_near_134 : decode b_M_near 134 = .ok (.invokevirtual 169, 3) := by decide +kernel
theorem d_M_near_137 : decode b_M_near 137 = .ok (.iinc 7 1, 3) := by decide +kernel
theorem d_M_near_140 : decode b_M_near 140 = .ok (.goto (-79), 3) := by decide +kernel
theorem d_M_near_143 : decode b_M_near 143 = .ok (.aload_n 0, 1) := by decide +kernel
theorem d_M_near_144 : decode b_M_near 144 = .ok (.getfield 166, 3) := by decide +kernel
theorem d_M_near_147 : decode b_M_near 147 = .ok (.ireturn, 1) := by decide +kernel
theorem d_M_given_0 : decode b_M_given 0 = .ok (.aload_n 0, 1) := by decide +kernel
theorem d_M_given_1 : decode b_M_given 1 = .ok (.iload_n 1, 1) := by decide +kernel
theorem d_M_given_2 : decode b_M_given 2 = .ok (.ifCond .lt 11, 3) := by decide +kernel
theorem d_M_given_5 : decode b_M_given 5 = .ok (.iload_n 1, 1) := by decide +kernel
theorem d_M_given_6 : decode b_M_given 6 = .ok (.aload_n 0, 1) := by decide +kernel
theorem d_M_given_7 : decode b_M_given 7 = .ok (.getfield 166, 3) := by decide +kernel
theorem d_M_given_10 : decode b_M_given 10 = .ok (.if_icmp .lt 7, 3) := by decide +kernel
theorem d_M_given_13 : decode b_M_given 13 = .ok (.iconst 1, 1) := by decide +kernel
theorem d_M_given_14 : decode b_M_given 14 = .ok (.goto 4, 3) := by decide +kernel
theorem d_M_given_17 : decode b_M_given 17 = .ok (.iconst 0, 1) := by decide +kernel
theorem d_M_given_18 : decode b_M_given 18 = .ok (.iconst 0, 1) := by decide +kernel
theorem d_M_given_19 : decode b_M_given 19 = .ok (.invokevirtual 117, 3) := by decide +kernel
theorem d_M_given_22 : decode b_M_given 22 = .ok (.ifCond .eq 7, 3) := by decide +kernel
theorem d_M_given_25 : decode b_M_given 25 = .ok (.lconst 0, 1) := by decide +kernel
theorem d_M_given_26 : decode b_M_given 26 = .ok (.goto 9, 3) := by decide +kernel
theorem d_M_given_29 : decode b_M_given 29 = .ok (.aload_n 0, 1) := by decide +kernel
theorem d_M_given_30 : decode b_M_given 30 = .ok (.getfield 53, 3) := by decide +kernel
theorem d_M_given_33 : decode b_M_given 33 = .ok (.iload_n 1, 1) := by decide +kernel
theorem d_M_given_34 : decode b_M_given 34 = .ok (.laload, 1) := by decide +kernel
theorem d_M_given_35 : decode b_M_given 35 = .ok (.lreturn, 1) := by decide +kernel
theorem d_M_distance_0 : decode b_M_distance 0 = .ok (.aload_n 0, 1) := by decide +kernel
theorem d_M_distance_1 : decode b_M_distance 1 = .ok (.lload_n 1, 1) := by decide +kernel
theorem d_M_distance_2 : decode b_M_distance 2 = .ok (.invokestatic 111, 3) := by decide +kernel
theorem d_M_distance_5 : decode b_M_distance 5 = .ok (.ifCond .eq 10, 3) := by decide +kernel
theorem d_M_distance_8 : decode b_M_distance 8 = .ok (.lload_n 3, 1) := by decide +kernel
theorem d_M_distance_9 : decode b_M_distance 9 = .ok (.invokestatic 111, 3) := by decide +kernel
theorem d_M_distance_12 : decode b_M_distance 12 = .ok (.ifCond .ne 7, 3) := by decide +kernel
theorem d_M_distance_15 : decode b_M_distance 15 = .ok (.iconst 1, 1) := by decide +kernel
theorem d_M_distance_16 : decode b_M_distance 16 = .ok (.goto 4, 3) := by decide +kernel
theorem d_M_distance_19 : decode b_M_distance 19 = .ok (.iconst 0, 1) := by decide +kernel
theorem d_M_distance_20 : decode b_M_distance 20 = .ok (.iconst 0, 1) := by decide +kernel
theorem d_M_distance_21 : decode b_M_distance 21 = .ok (.invokevirtual 117, 3) := by decide +kernel
theorem d_M_distance_24 : decode b_M_distance 24 = .ok (.ifCond .eq 7, 3) := by decide +kernel
theorem d_M_distance_27 : decode b_M_distance 27 = .ok (.iconst 0, 1) := by decide +kernel
theorem d_M_distance_28 : decode b_M_distance 28 = .ok (.goto 9, 3) := by decide +kernel
theorem d_M_distance_31 : decode b_M_distance 31 = .ok (.aload_n 0, 1) := by decide +kernel
theorem d_M_distance_32 : decode b_M_distance 32 = .ok (.lload_n 1, 1) := by decide +kernel
theorem d_M_distance_33 : decode b_M_distance 33 = .ok (.lload_n 3, 1) := by decide +kernel
theorem d_M_distance_34 : decode b_M_distance 34 = .ok (.invokevirtual 176, 3) := by decide +kernel
theorem d_M_distance_37 : decode b_M_distance 37 = .ok (.ireturn, 1) := by decide +kernel
theorem d_M_pairOf_0 : decode b_M_pairOf 0 = .ok (.iconst 0, 1) := by decide +kernel
theorem d_M_pairOf_1 : decode b_M_pairOf 1 = .ok (.istore 5, 2) := by decide +kernel
theorem d_M_pairOf_3 : decode b_M_pairOf 3 = .ok (.iload 5, 2) := by decide +kernel
theorem d_M_pairOf_5 : decode b_M_pairOf 5 = .ok (.aload_n 0, 1) := by decide +kernel
theorem d_M_pairOf_6 : decode b_M_pairOf 6 = .ok (.getfield 179, 3) := by decide +kernel
theorem d_M_pairOf_9 : decode b_M_pairOf 9 = .ok (.if_icmp .ge 33, 3) := by decide +kernel
theorem d_M_pairOf_12 : decode b_M_pairOf 12 = .ok (.aload_n 0, 1) := by decide +kernel
theorem d_M_pairOf_13 : decode b_M_pairOf 13 = .ok (.getfield 62, 3) := by decide +kernel
theorem d_M_pairOf_16 : decode b_M_pairOf 16 = .ok (.iload 5, 2) := by decide +kernel
theorem d_M_pairOf_18 : decode b_M_pairOf 18 = .ok (.laload, 1) := by decide +kernel
theorem d_M_pairOf_19 : decode b_M_pairOf 19 = .ok (.lload_n 1, 1) := by decide +kernel
theorem d_M_pairOf_20 : decode b_M_pairOf 20 = .ok (.lcmp, 1) := by decide +kernel
theorem d_M_pairOf_21 : decode b_M_pairOf 21 = .ok (.ifCond .ne 15, 3) := by decide +kernel
theorem d_M_pairOf_24 : decode b_M_pairOf 24 = .ok (.aload_n 0, 1) := by decide +kernel
theorem d_M_pairOf_25 : decode b_M_pairOf 25 = .ok (.getfield 65, 3) := by decide +kernel
theorem d_M_pairOf_28 : decode b_M_pairOf 28 = .ok (.iload 5, 2) := by decide +kernel
theorem d_M_pairOf_30 : decode b_M_pairOf 30 = .ok (.laload, 1) := by decide +kernel
theorem d_M_pairOf_31 : decode b_M_pairOf 31 = .ok (.lload_n 3, 1) := by decide +kernel
theorem d_M_pairOf_32 : decode b_M_pairOf 32 = .ok (.lcmp, 1) := by decide +kernel
theorem d_M_pairOf_33 : decode b_M_pairOf 33 = .ok (.ifCond .eq 9, 3) := by decide +kernel
theorem d_M_pairOf_36 : decode b_M_pairOf 36 = .ok (.iinc 5 1, 3) := by decide +kernel
theorem d_M_pairOf_39 : decode b_M_pairOf 39 = .ok (.goto (-36), 3) := by decide +kernel
theorem d_M_pairOf_42 : decode b_M_pairOf 42 = .ok (.iload 5, 2) := by decide +kernel
theorem d_M_pairOf_44 : decode b_M_pairOf 44 = .ok (.ireturn, 1) := by decide +kernel
theorem d_M_learn_0 : decode b_M_learn 0 = .ok (.lload_n 1, 1) := by decide +kernel
theorem d_M_learn_1 : decode b_M_learn 1 = .ok (.invokestatic 111, 3) := by decide +kernel
theorem d_M_learn_4 : decode b_M_learn 4 = .ok (.ifCond .eq 10, 3) := by decide +kernel
theorem d_M_learn_7 : decode b_M_learn 7 = .ok (.lload_n 3, 1) := by decide +kernel
theorem d_M_learn_8 : decode b_M_learn 8 = .ok (.invokestatic 111, 3) := by decide +kernel
theorem d_M_learn_11 : decode b_M_learn 11 = .ok (.ifCond .ne 7, 3) := by decide +kernel
theorem d_M_learn_14 : decode b_M_learn 14 = .ok (.iconst 1, 1) := by decide +kernel
theorem d_M_learn_15 : decode b_M_learn 15 = .ok (.goto 4, 3) := by decide +kernel
theorem d_M_learn_18 : decode b_M_learn 18 = .ok (.iconst 0, 1) := by decide +kernel
theorem d_M_learn_19 : decode b_M_learn 19 = .ok (.istore 5, 2) := by decide +kernel
theorem d_M_learn_21 : decode b_M_learn 21 = .ok (.aload_n 0, 1) := by decide +kernel
theorem d_M_learn_22 : decode b_M_learn 22 = .ok (.lload_n 1, 1) := by decide +kernel
theorem d_M_learn_23 : decode b_M_learn 23 = .ok (.lload_n 3, 1) := by decide +kernel
theorem d_M_learn_24 : decode b_M_learn 24 = .ok (.invokevirtual 182, 3) := by decide +kernel
theorem d_M_learn_27 : decode b_M_learn 27 = .ok (.istore 6, 2) := by decide +kernel
