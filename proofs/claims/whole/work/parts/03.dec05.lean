theorem d_M_drop_23 : decode b_M_drop 23 = .ok (.ifCond .eq 6, 3) := by decide +kernel
theorem d_M_drop_26 : decode b_M_drop 26 = .ok (.goto 45, 3) := by decide +kernel
theorem d_M_drop_29 : decode b_M_drop 29 = .ok (.aload_n 0, 1) := by decide +kernel
theorem d_M_drop_30 : decode b_M_drop 30 = .ok (.dup, 1) := by decide +kernel
theorem d_M_drop_31 : decode b_M_drop 31 = .ok (.getfield 114, 3) := by decide +kernel
theorem d_M_drop_34 : decode b_M_drop 34 = .ok (.iconst 1, 1) := by decide +kernel
theorem d_M_drop_35 : decode b_M_drop 35 = .ok (.isub, 1) := by decide +kernel
theorem d_M_drop_36 : decode b_M_drop 36 = .ok (.putfield 114, 3) := by decide +kernel
theorem d_M_drop_39 : decode b_M_drop 39 = .ok (.aload_n 0, 1) := by decide +kernel
theorem d_M_drop_40 : decode b_M_drop 40 = .ok (.getfield 7, 3) := by decide +kernel
theorem d_M_drop_43 : decode b_M_drop 43 = .ok (.iload_n 3, 1) := by decide +kernel
theorem d_M_drop_44 : decode b_M_drop 44 = .ok (.aload_n 0, 1) := by decide +kernel
theorem d_M_drop_45 : decode b_M_drop 45 = .ok (.getfield 7, 3) := by decide +kernel
theorem d_M_drop_48 : decode b_M_drop 48 = .ok (.aload_n 0, 1) := by decide +kernel
theorem d_M_drop_49 : decode b_M_drop 49 = .ok (.getfield 114, 3) := by decide +kernel
theorem d_M_drop_52 : decode b_M_drop 52 = .ok (.laload, 1) := by decide +kernel
theorem d_M_drop_53 : decode b_M_drop 53 = .ok (.lastore, 1) := by decide +kernel
theorem d_M_drop_54 : decode b_M_drop 54 = .ok (.aload_n 0, 1) := by decide +kernel
theorem d_M_drop_55 : decode b_M_drop 55 = .ok (.getfield 13, 3) := by decide +kernel
theorem d_M_drop_58 : decode b_M_drop 58 = .ok (.iload_n 3, 1) := by decide +kernel
theorem d_M_drop_59 : decode b_M_drop 59 = .ok (.aload_n 0, 1) := by decide +kernel
theorem d_M_drop_60 : decode b_M_drop 60 = .ok (.getfield 13, 3) := by decide +kernel
theorem d_M_drop_63 : decode b_M_drop 63 = .ok (.aload_n 0, 1) := by decide +kernel
theorem d_M_drop_64 : decode b_M_drop 64 = .ok (.getfield 114, 3) := by decide +kernel
theorem d_M_drop_67 : decode b_M_drop 67 = .ok (.iaload, 1) := by decide +kernel
theorem d_M_drop_68 : decode b_M_drop 68 = .ok (.iastore, 1) := by decide +kernel
theorem d_M_drop_69 : decode b_M_drop 69 = .ok (.iconst 1, 1) := by decide +kernel
theorem d_M_drop_70 : decode b_M_drop 70 = .ok (.ireturn, 1) := by decide +kernel
theorem d_M_drop_71 : decode b_M_drop 71 = .ok (.iinc 3 1, 3) := by decide +kernel
theorem d_M_drop_74 : decode b_M_drop 74 = .ok (.goto (-67), 3) := by decide +kernel
theorem d_M_drop_77 : decode b_M_drop 77 = .ok (.iconst 0, 1) := by decide +kernel
theorem d_M_drop_78 : decode b_M_drop 78 = .ok (.ireturn, 1) := by decide +kernel
theorem d_M_move_0 : decode b_M_move 0 = .ok (.aload_n 0, 1) := by decide +kernel
theorem d_M_move_1 : decode b_M_move 1 = .ok (.getfield 17, 3) := by decide +kernel
theorem d_M_move_4 : decode b_M_move 4 = .ok (.iload_n 2, 1) := by decide +kernel
theorem d_M_move_5 : decode b_M_move 5 = .ok (.aload_n 0, 1) := by decide +kernel
theorem d_M_move_6 : decode b_M_move 6 = .ok (.getfield 17, 3) := by decide +kernel
theorem d_M_move_9 : decode b_M_move 9 = .ok (.iload_n 1, 1) := by decide +kernel
theorem d_M_move_10 : decode b_M_move 10 = .ok (.iaload, 1) := by decide +kernel
theorem d_M_move_11 : decode b_M_move 11 = .ok (.iastore, 1) := by decide +kernel
theorem d_M_move_12 : decode b_M_move 12 = .ok (.aload_n 0, 1) := by decide +kernel
theorem d_M_move_13 : decode b_M_move 13 = .ok (.getfield 20, 3) := by decide +kernel
theorem d_M_move_16 : decode b_M_move 16 = .ok (.iload_n 2, 1) := by decide +kernel
theorem d_M_move_17 : decode b_M_move 17 = .ok (.aload_n 0, 1) := by decide +kernel
theorem d_M_move_18 : decode b_M_move 18 = .ok (.getfield 20, 3) := by decide +kernel
theorem d_M_move_21 : decode b_M_move 21 = .ok (.iload_n 1, 1) := by decide +kernel
theorem d_M_move_22 : decode b_M_move 22 = .ok (.iaload, 1) := by decide +kernel
theorem d_M_move_23 : decode b_M_move 23 = .ok (.iastore, 1) := by decide +kernel
theorem d_M_move_24 : decode b_M_move 24 = .ok (.aload_n 0, 1) := by decide +kernel
theorem d_M_move_25 : decode b_M_move 25 = .ok (.getfield 23, 3) := by decide +kernel
theorem d_M_move_28 : decode b_M_move 28 = .ok (.iload_n 2, 1) := by decide +kernel
theorem d_M_move_29 : decode b_M_move 29 = .ok (.aload_n 0, 1) := by decide +kernel
theorem d_M_move_30 : decode b_M_move 30 = .ok (.getfield 23, 3) := by decide +kernel
theorem d_M_move_33 : decode b_M_move 33 = .ok (.iload_n 1, 1) := by decide +kernel
theorem d_M_move_34 : decode b_M_move 34 = .ok (.iaload, 1) := by decide +kernel
theorem d_M_move_35 : decode b_M_move 35 = .ok (.iastore, 1) := by decide +kernel
theorem d_M_move_36 : decode b_M_move 36 = .ok (.aload_n 0, 1) := by decide +kernel
theorem d_M_move_37 : decode b_M_move 37 = .ok (.getfield 32, 3) := by decide +kernel
theorem d_M_move_40 : decode b_M_move 40 = .ok (.iload_n 2, 1) := by decide +kernel
theorem d_M_move_41 : decode b_M_move 41 = .ok (.aload_n 0, 1) := by decide +kernel
theorem d_M_move_42 : decode b_M_move 42 = .ok (.getfield 32, 3) := by decide +kernel
theorem d_M_move_45 : decode b_M_move 45 = .ok (.iload_n 1, 1) := by decide +kernel
theorem d_M_move_46 : decode b_M_move 46 = .ok (.iaload, 1) := by decide +kernel
theorem d_M_move_47 : decode b_M_move 47 = .ok (.iastore, 1) := by decide +kernel
theorem d_M_move_48 : decode b_M_move 48 = .ok (.aload_n 0, 1) := by decide +kernel
theorem d_M_move_49 : decode b_M_move 49 = .ok (.getfield 35, 3) := by decide +kernel
theorem d_M_move_52 : decode b_M_move 52 = .ok (.iload_n 2, 1) := by decide +kernel
theorem d_M_move_53 : decode b_M_move 53 = .ok (.aload_n 0, 1) := by decide +kernel
theorem d_M_move_54 : decode b_M_move 54 = .ok (.getfield 35, 3) := by decide +kernel
theorem d_M_move_57 : decode b_M_move 57 = .ok (.iload_n 1, 1) := by decide +kernel
theorem d_M_move_58 : decode b_M_move 58 = .ok (.iaload, 1) := by decide +kernel
theorem d_M_move_59 : decode b_M_move 59 = .ok (.iastore, 1) := by decide +kernel
theorem d_M_move_60 : decode b_M_move 60 = .ok (.iconst 0, 1) := by decide +kernel
theorem d_M_move_61 : decode b_M_move 61 = .ok (.istore_n 3, 1) := by decide +kernel
theorem d_M_move_62 : decode b_M_move 62 = .ok (.iload_n 3, 1) := by decide +kernel
theorem d_M_move_63 : decode b_M_move 63 = .ok (.bipush 24, 2) := by decide +kernel
theorem d_M_move_65 : decode b_M_move 65 = .ok (.if_icmp .ge 53, 3) := by decide +kernel
theorem d_M_move_68 : decode b_M_move 68 = .ok (.aload_n 0, 1) := by decide +kernel
theorem d_M_move_69 : decode b_M_move 69 = .ok (.getfield 26, 3) := by decide +kernel
theorem d_M_move_72 : decode b_M_move 72 = .ok (.bipush 24, 2) := by decide +kernel
theorem d_M_move_74 : decode b_M_move 74 = .ok (.iload_n 2, 1) := by decide +kernel
theorem d_M_move_75 : decode b_M_move 75 = .ok (.imul, 1) := by decide +kernel
theorem d_M_move_76 : decode b_M_move 76 = .ok (.iload_n 3, 1) := by decide +kernel
theorem d_M_move_77 : decode b_M_move 77 = .ok (.iadd, 1) := by decide +kernel
theorem d_M_move_78 : decode b_M_move 78 = .ok (.aload_n 0, 1) := by decide +kernel
theorem d_M_move_79 : decode b_M_move 79 = .ok (.getfield 26, 3) := by decide +kernel
theorem d_M_move_82 : decode b_M_move 82 = .ok (.bipush 24, 2) := by decide +kernel
theorem d_M_move_84 : decode b_M_move 84 = .ok (.iload_n 1, 1) := by decide +kernel
theorem d_M_move_85 : decode b_M_move 85 = .ok (.imul, 1) := by decide +kernel
theorem d_M_move_86 : decode b_M_move 86 = .ok (.iload_n 3, 1) := by decide +kernel
theorem d_M_move_87 : decode b_M_move 87 = .ok (.iadd, 1) := by decide +kernel
theorem d_M_move_88 : decode b_M_move 88 = .ok (.laload, 1) := by decide +kernel
theorem d_M_move_89 : decode b_M_move 89 = .ok (.lastore, 1) := by decide +kernel
theorem d_M_move_90 : decode b_M_move 90 = .ok (.aload_n 0, 1) := by decide +kernel
theorem d_M_move_91 : decode b_M_move 91 = .ok (.getfield 29, 3) := by decide +kernel
theorem d_M_move_94 : decode b_M_move 94 = .ok (.bipush 24, 2) := by decide +kernel
theorem d_M_move_96 : decode b_M_move 96 = .ok (.iload_n 2, 1) := by decide +kernel
theorem d_M_move_97 : decode b_M_move 97 = .ok (.imul, 1) := by decide +kernel
theorem d_M_move_98 : decode b_M_move 98 = .ok (.iload_n 3, 1) := by decide +kernel
theorem d_M_move_99 : decode b_M_move 99 = .ok (.iadd, 1) := by decide +kernel
theorem d_M_move_100 : decode b_M_move 100 = .ok (.aload_n 0, 1) := by decide +kernel
theorem d_M_move_101 : decode b_M_move 101 = .ok (.getfield 29, 3) := by decide +kernel
theorem d_M_move_104 : decode b_M_move 104 = .ok (.bipush 24, 2) := by decide +kernel
theorem d_M_move_106 : decode b_M_move 106 = .ok (.iload_n 1, 1) := by decide +kernel
theorem d_M_move_107 : decode b_M_move 107 = .ok (.imul, 1) := by decide +kernel
theorem d_M_move_108 : decode b_M_move 108 = .ok (.iload_n 3, 1) := by decide +kernel
theorem d_M_move_109 : decode b_M_move 109 = .ok (.iadd, 1) := by decide +kernel
theorem d_M_move_110 : decode b_M_move 110 = .ok (.iaload, 1) := by decide +kernel
theorem d_M_move_111 : decode b_M_move 111 = .ok (.iastore, 1) := by decide +kernel
theorem d_M_move_112 : decode b_M_move 112 = .ok (.iinc 3 1, 3) := by decide +kernel
theorem d_M_move_115 : decode b_M_move 115 = .ok (.goto (-53), 3) := by decide +kernel
theorem d_M_move_118 : decode b_M_move 118 = .ok (.return_, 1) := by decide +kernel
theorem d_M_build_0 : decode b_M_build 0 = .ok (.aload_n 0, 1) := by decide +kernel
theorem d_M_build_1 : decode b_M_build 1 = .ok (.getfield 121, 3) := by decide +kernel
theorem d_M_build_4 : decode b_M_build 4 = .ok (.ifCond .le 16, 3) := by decide +kernel
theorem d_M_build_7 : decode b_M_build 7 = .ok (.aload_n 0, 1) := by decide +kernel
theorem d_M_build_8 : decode b_M_build 8 = .ok (.getfield 23, 3) := by decide +kernel
theorem d_M_build_11 : decode b_M_build 11 = .ok (.iconst 0, 1) := by decide +kernel
theorem d_M_build_12 : decode b_M_build 12 = .ok (.iaload, 1) := by decide +kernel
theorem d_M_build_13 : decode b_M_build 13 = .ok (.ifCond .ne 7, 3) := by decide +kernel
theorem d_M_build_16 : decode b_M_build 16 = .ok (.iconst 1, 1) := by decide +kernel
theorem d_M_build_17 : decode b_M_build 17 = .ok (.goto 4, 3) := by decide +kernel
theorem d_M_build_20 : decode b_M_build 20 = .ok (.iconst 0, 1) := by decide +kernel
theorem d_M_build_21 : decode b_M_build 21 = .ok (.istore_n 1, 1) := by decide +kernel
theorem d_M_build_22 : decode b_M_build 22 = .ok (.aload_n 0, 1) := by decide +kernel
theorem d_M_build_23 : decode b_M_build 23 = .ok (.aload_n 0, 1) := by decide +kernel
theorem d_M_build_24 : decode b_M_build 24 = .ok (.getfield 114, 3) := by decide +kernel
theorem d_M_build_27 : decode b_M_build 27 = .ok (.ifCond .eq 15, 3) := by decide +kernel
theorem d_M_build_30 : decode b_M_build 30 = .ok (.aload_n 0, 1) := by decide +kernel
theorem d_M_build_31 : decode b_M_build 31 = .ok (.getfield 121, 3) := by decide +kernel
theorem d_M_build_34 : decode b_M_build 34 = .ok (.iconst 3, 1) := by decide +kernel
theorem d_M_build_35 : decode b_M_build 35 = .ok (.if_icmp .ne 11, 3) := by decide +kernel
theorem d_M_build_38 : decode b_M_build 38 = .ok (.iload_n 1, 1) := by decide +kernel
theorem d_M_build_39 : decode b_M_build 39 = .ok (.ifCond .ne 7, 3) := by decide +kernel
theorem d_M_build_42 : decode b_M_build 42 = .ok (.iconst 1, 1) := by decide +kernel
theorem d_M_build_43 : decode b_M_build 43 = .ok (.goto 4, 3) := by decide +kernel
theorem d_M_build_46 : decode b_M_build 46 = .ok (.iconst 0, 1) := by decide +kernel
theorem d_M_build_47 : decode b_M_build 47 = .ok (.iconst 0, 1) := by decide +kernel
theorem d_M_build_48 : decode b_M_build 48 = .ok (.invokevirtual 117, 3) := by decide +kernel
theorem d_M_build_51 : decode b_M_build 51 = .ok (.ifCond .eq 5, 3) := by decide +kernel
theorem d_M_build_54 : decode b_M_build 54 = .ok (.iconst 0, 1) := by decide +kernel
theorem d_M_build_55 : decode b_M_build 55 = .ok (.ireturn, 1) := by decide +kernel
theorem d_M_build_56 : decode b_M_build 56 = .ok (.iload_n 1, 1) := by decide +kernel
theorem d_M_build_57 : decode b_M_build 57 = .ok (.ifCond .ne 36, 3) := by decide +kernel
theorem d_M_build_60 : decode b_M_build 60 = .ok (.aload_n 0, 1) := by decide +kernel
theorem d_M_build_61 : decode b_M_build 61 = .ok (.getfield 121, 3) := by decide +kernel
theorem d_M_build_64 : decode b_M_build 64 = .ok (.istore_n 2, 1) := by decide +kernel
theorem d_M_build_65 : decode b_M_build 65 = .ok (.iload_n 2, 1) := by decide +kernel
theorem d_M_build_66 : decode b_M_build 66 = .ok (.ifCond .le 17, 3) := by decide +kernel
theorem d_M_build_69 : decode b_M_build 69 = .ok (.aload_n 0, 1) := by decide +kernel
theorem d_M_build_70 : decode b_M_build 70 = .ok (.iload_n 2, 1) := by decide +kernel
theorem d_M_build_71 : decode b_M_build 71 = .ok (.iconst 1, 1) := by decide +kernel
theorem d_M_build_72 : decode b_M_build 72 = .ok (.isub, 1) := by decide +kernel
theorem d_M_build_73 : decode b_M_build 73 = .ok (.iload_n 2, 1) := by decide +kernel
theorem d_M_build_74 : decode b_M_build 74 = .ok (.invokevirtual 124, 3) := by decide +kernel
theorem d_M_build_77 : decode b_M_build 77 = .ok (.iinc 2 (-1), 3) := by decide +kernel
theorem d_M_build_80 : decode b_M_build 80 = .ok (.goto (-15), 3) := by decide +kernel
theorem d_M_build_83 : decode b_M_build 83 = .ok (.aload_n 0, 1) := by decide +kernel
theorem d_M_build_84 : decode b_M_build 84 = .ok (.dup, 1) := by decide +kernel
theorem d_M_build_85 : decode b_M_build 85 = .ok (.getfield 121, 3) := by decide +kernel
theorem d_M_build_88 : decode b_M_build 88 = .ok (.iconst 1, 1) := by decide +kernel
theorem d_M_build_89 : decode b_M_build 89 = .ok (.iadd, 1) := by decide +kernel
theorem d_M_build_90 : decode b_M_build 90 = .ok (.putfield 121, 3) := by decide +kernel
theorem d_M_build_93 : decode b_M_build 93 = .ok (.aload_n 0, 1) := by decide +kernel
theorem d_M_build_94 : decode b_M_build 94 = .ok (.dup, 1) := by decide +kernel
theorem d_M_build_95 : decode b_M_build 95 = .ok (.getfield 128, 3) := by decide +kernel
theorem d_M_build_98 : decode b_M_build 98 = .ok (.iconst 1, 1) := by decide +kernel
theorem d_M_build_99 : decode b_M_build 99 = .ok (.iadd, 1) := by decide +kernel
theorem d_M_build_100 : decode b_M_build 100 = .ok (.putfield 128, 3) := by decide +kernel
theorem d_M_build_103 : decode b_M_build 103 = .ok (.aload_n 0, 1) := by decide +kernel
theorem d_M_build_104 : decode b_M_build 104 = .ok (.getfield 17, 3) := by decide +kernel
theorem d_M_build_107 : decode b_M_build 107 = .ok (.iconst 0, 1) := by decide +kernel
theorem d_M_build_108 : decode b_M_build 108 = .ok (.aload_n 0, 1) := by decide +kernel
theorem d_M_build_109 : decode b_M_build 109 = .ok (.getfield 128, 3) := by decide +kernel
theorem d_M_build_112 : decode b_M_build 112 = .ok (.iastore, 1) := by decide +kernel
theorem d_M_build_113 : decode b_M_build 113 = .ok (.aload_n 0, 1) := by decide +kernel
theorem d_M_build_114 : decode b_M_build 114 = .ok (.getfield 20, 3) := by decide +kernel
theorem d_M_build_117 : decode b_M_build 117 = .ok (.iconst 0, 1) := by decide +kernel
theorem d_M_build_118 : decode b_M_build 118 = .ok (.aload_n 0, 1) := by decide +kernel
theorem d_M_build_119 : decode b_M_build 119 = .ok (.getfield 114, 3) := by decide +kernel
theorem d_M_build_122 : decode b_M_build 122 = .ok (.iastore, 1) := by decide +kernel
theorem d_M_build_123 : decode b_M_build 123 = .ok (.aload_n 0, 1) := by decide +kernel
theorem d_M_build_124 : decode b_M_build 124 = .ok (.getfield 23, 3) := by decide +kernel
theorem d_M_build_127 : decode b_M_build 127 = .ok (.iconst 0, 1) := by decide +kernel
theorem d_M_build_128 : decode b_M_build 128 = .ok (.iconst 0, 1) := by decide +kernel
theorem d_M_build_129 : decode b_M_build 129 = .ok (.iastore, 1) := by decide +kernel
theorem d_M_build_130 : decode b_M_build 130 = .ok (.aload_n 0, 1) := by decide +kernel
theorem d_M_build_131 : decode b_M_build 131 = .ok (.getfield 32, 3) := by decide +kernel
theorem d_M_build_134 : decode b_M_build 134 = .ok (.iconst 0, 1) := by decide +kernel
theorem d_M_build_135 : decode b_M_build 135 = .ok (.iconst (-1), 1) := by decide +kernel
theorem d_M_build_136 : decode b_M_build 136 = .ok (.iastore, 1) := by decide +kernel
theorem d_M_build_137 : decode b_M_build 137 = .ok (.iconst 0, 1) := by decide +kernel
theorem d_M_build_138 : decode b_M_build 138 = .ok (.istore_n 2, 1) := by decide +kernel
theorem d_M_build_139 : decode b_M_build 139 = .ok (.iload_n 2, 1) := by decide +kernel
theorem d_M_build_140 : decode b_M_build 140 = .ok (.aload_n 0, 1) := by decide +kernel
theorem d_M_build_141 : decode b_M_build 141 = .ok (.getfield 114, 3) := by decide +kernel
theorem d_M_build_144 : decode b_M_build 144 = .ok (.if_icmp .ge 84, 3) := by decide +kernel
theorem d_M_build_147 : decode b_M_build 147 = .ok (.iconst 0, 1) := by decide +kernel
theorem d_M_build_148 : decode b_M_build 148 = .ok (.istore_n 3, 1) := by decide +kernel
theorem d_M_build_149 : decode b_M_build 149 = .ok (.iconst 0, 1) := by decide +kernel
theorem d_M_build_150 : decode b_M_build 150 = .ok (.istore 4, 2) := by decide +kernel
theorem d_M_build_152 : decode b_M_build 152 = .ok (.iload 4, 2) := by decide +kernel
theorem d_M_build_154 : decode b_M_build 154 = .ok (.aload_n 0, 1) := by decide +kernel
theorem d_M_build_155 : decode b_M_build 155 = .ok (.getfield 114, 3) := by decide +kernel
theorem d_M_build_158 : decode b_M_build 158 = .ok (.if_icmp .ge 36, 3) := by decide +kernel
theorem d_M_build_161 : decode b_M_build 161 = .ok (.aload_n 0, 1) := by decide +kernel
theorem d_M_build_162 : decode b_M_build 162 = .ok (.getfield 7, 3) := by decide +kernel
theorem d_M_build_165 : decode b_M_build 165 = .ok (.iload 4, 2) := by decide +kernel
theorem d_M_build_167 : decode b_M_build 167 = .ok (.laload, 1) := by decide +kernel
theorem d_M_build_168 : decode b_M_build 168 = .ok (.aload_n 0, 1) := by decide +kernel
theorem d_M_build_169 : decode b_M_build 169 = .ok (.getfield 7, 3) := by decide +kernel
theorem d_M_build_172 : decode b_M_build 172 = .ok (.iload_n 2, 1) := by decide +kernel
theorem d_M_build_173 : decode b_M_build 173 = .ok (.laload, 1) := by decide +kernel
theorem d_M_build_174 : decode b_M_build 174 = .ok (.invokestatic 131, 3) := by decide +kernel
theorem d_M_build_177 : decode b_M_build 177 = .ok (.ifCond .eq 9, 3) := by decide +kernel
theorem d_M_build_180 : decode b_M_build 180 = .ok (.iload_n 3, 1) := by decide +kernel
theorem d_M_build_181 : decode b_M_build 181 = .ok (.iconst 1, 1) := by decide +kernel
theorem d_M_build_182 : decode b_M_build 182 = .ok (.iadd, 1) := by decide +kernel
theorem d_M_build_183 : decode b_M_build 183 = .ok (.goto 4, 3) := by decide +kernel
theorem d_M_build_186 : decode b_M_build 186 = .ok (.iload_n 3, 1) := by decide +kernel
theorem d_M_build_187 : decode b_M_build 187 = .ok (.istore_n 3, 1) := by decide +kernel
theorem d_M_build_188 : decode b_M_build 188 = .ok (.iinc 4 1, 3) := by decide +kernel
theorem d_M_build_191 : decode b_M_build 191 = .ok (.goto (-39), 3) := by decide +kernel
theorem d_M_build_194 : decode b_M_build 194 = .ok (.aload_n 0, 1) := by decide +kernel
theorem d_M_build_195 : decode b_M_build 195 = .ok (.getfield 26, 3) := by decide +kernel
theorem d_M_build_198 : decode b_M_build 198 = .ok (.iload_n 3, 1) := by decide +kernel
theorem d_M_build_199 : decode b_M_build 199 = .ok (.aload_n 0, 1) := by decide +kernel
theorem d_M_build_200 : decode b_M_build 200 = .ok (.getfield 7, 3) := by decide +kernel
theorem d_M_build_203 : decode b_M_build 203 = .ok (.iload_n 2, 1) := by decide +kernel
theorem d_M_build_204 : decode b_M_build 204 = .ok (.laload, 1) := by decide +kernel
theorem d_M_build_205 : decode b_M_build 205 = .ok (.lastore, 1) := by decide +kernel
theorem d_M_build_206 : decode b_M_build 206 = .ok (.aload_n 0, 1) := by decide +kernel
theorem d_M_build_207 : decode b_M_build 207 = .ok (.getfield 29, 3) := by decide +kernel
theorem d_M_build_210 : decode b_M_build 210 = .ok (.iload_n 3, 1) := by decide +kernel
theorem d_M_build_211 : decode b_M_build 211 = .ok (.sipush 9999, 3) := by decide +kernel
theorem d_M_build_214 : decode b_M_build 214 = .ok (.aload_n 0, 1) := by decide +kernel
theorem d_M_build_215 : decode b_M_build 215 = .ok (.getfield 13, 3) := by decide +kernel
theorem d_M_build_218 : decode b_M_build 218 = .ok (.iload_n 2, 1) := by decide +kernel
theorem d_M_build_219 : decode b_M_build 219 = .ok (.iaload, 1) := by decide +kernel
theorem d_M_build_220 : decode b_M_build 220 = .ok (.isub, 1) := by decide +kernel
theorem d_M_build_221 : decode b_M_build 221 = .ok (.iastore, 1) := by decide +kernel
theorem d_M_build_222 : decode b_M_build 222 = .ok (.iinc 2 1, 3) := by decide +kernel
theorem d_M_build_225 : decode b_M_build 225 = .ok (.goto (-86), 3) := by decide +kernel
theorem d_M_build_228 : decode b_M_build 228 = .ok (.aload_n 0, 1) := by decide +kernel
theorem d_M_build_229 : decode b_M_build 229 = .ok (.getfield 128, 3) := by decide +kernel
theorem d_M_build_232 : decode b_M_build 232 = .ok (.ireturn, 1) := by decide +kernel
theorem d_M_hold_0 : decode b_M_hold 0 = .ok (.aload_n 0, 1) := by decide +kernel
theorem d_M_hold_1 : decode b_M_hold 1 = .ok (.aload_n 0, 1) := by decide +kernel
theorem d_M_hold_2 : decode b_M_hold 2 = .ok (.getfield 121, 3) := by decide +kernel
theorem d_M_hold_5 : decode b_M_hold 5 = .ok (.ifCond .eq 14, 3) := by decide +kernel
theorem d_M_hold_8 : decode b_M_hold 8 = .ok (.aload_n 0, 1) := by decide +kernel
theorem d_M_hold_9 : decode b_M_hold 9 = .ok (.getfield 23, 3) := by decide +kernel
theorem d_M_hold_12 : decode b_M_hold 12 = .ok (.iconst 0, 1) := by decide +kernel
theorem d_M_hold_13 : decode b_M_hold 13 = .ok (.iaload, 1) := by decide +kernel
theorem d_M_hold_14 : decode b_M_hold 14 = .ok (.bipush 9, 2) := by decide +kernel
theorem d_M_hold_16 : decode b_M_hold 16 = .ok (.if_icmp .ne 7, 3) := by decide +kernel
theorem d_M_hold_19 : decode b_M_hold 19 = .ok (.iconst 1, 1) := by decide +kernel
theorem d_M_hold_20 : decode b_M_hold 20 = .ok (.goto 4, 3) := by decide +kernel
theorem d_M_hold_23 : decode b_M_hold 23 = .ok (.iconst 0, 1) := by decide +kernel
theorem d_M_hold_24 : decode b_M_hold 24 = .ok (.iconst 0, 1) := by decide +kernel
theorem d_M_hold_25 : decode b_M_hold 25 = .ok (.invokevirtual 117, 3) := by decide +kernel
theorem d_M_hold_28 : decode b_M_hold 28 = .ok (.ifCond .eq 5, 3) := by decide +kernel
theorem d_M_hold_31 : decode b_M_hold 31 = .ok (.iconst 0, 1) := by decide +kernel
theorem d_M_hold_32 : decode b_M_hold 32 = .ok (.ireturn, 1) := by decide +kernel
theorem d_M_hold_33 : decode b_M_hold 33 = .ok (.aload_n 0, 1) := by decide +kernel
theorem d_M_hold_34 : decode b_M_hold 34 = .ok (.getfield 23, 3) := by decide +kernel
theorem d_M_hold_37 : decode b_M_hold 37 = .ok (.iconst 0, 1) := by decide +kernel
theorem d_M_hold_38 : decode b_M_hold 38 = .ok (.dup2, 1) := by decide +kernel
theorem d_M_hold_39 : decode b_M_hold 39 = .ok (.iaload, 1) := by decide +kernel
theorem d_M_hold_40 : decode b_M_hold 40 = .ok (.iconst 1, 1) := by decide +kernel
theorem d_M_hold_41 : decode b_M_hold 41 = .ok (.iadd, 1) := by decide +kernel
theorem d_M_hold_42 : decode b_M_hold 42 = .ok (.iastore, 1) := by decide +kernel
theorem d_M_hold_43 : decode b_M_hold 43 = .ok (.aload_n 0, 1) := by decide +kernel
theorem d_M_hold_44 : decode b_M_hold 44 = .ok (.getfield 17, 3) := by decide +kernel
theorem d_M_hold_47 : decode b_M_hold 47 = .ok (.iconst 0, 1) := by decide +kernel
theorem d_M_hold_48 : decode b_M_hold 48 = .ok (.iaload, 1) := by decide +kernel
theorem d_M_hold_49 : decode b_M_hold 49 = .ok (.ireturn, 1) := by decide +kernel
theorem d_M_placeOf_0 : decode b_M_placeOf 0 = .ok (.iconst (-1), 1) := by decide +kernel
theorem d_M_placeOf_1 : decode b_M_placeOf 1 = .ok (.istore_n 2, 1) := by decide +kernel
theorem d_M_placeOf_2 : decode b_M_placeOf 2 = .ok (.iconst 0, 1) := by decide +kernel
theorem d_M_placeOf_3 : decode b_M_placeOf 3 = .ok (.istore_n 3, 1) := by decide +kernel
theorem d_M_placeOf_4 : decode b_M_placeOf 4 = .ok (.iload_n 3, 1) := by decide +kernel
theorem d_M_placeOf_5 : decode b_M_placeOf 5 = .ok (.aload_n 0, 1) := by decide +kernel
theorem d_M_placeOf_6 : decode b_M_placeOf 6 = .ok (.getfield 121, 3) := by decide +kernel
theorem d_M_placeOf_9 : decode b_M_placeOf 9 = .ok (.if_icmp .ge 25, 3) := by decide +kernel
theorem d_M_placeOf_12 : decode b_M_placeOf 12 = .ok (.aload_n 0, 1) := by decide +kernel
theorem d_M_placeOf_13 : decode b_M_placeOf 13 = .ok (.getfield 17, 3) := by decide +kernel
theorem d_M_placeOf_16 : decode b_M_placeOf 16 = .ok (.iload_n 3, 1) := by decide +kernel
theorem d_M_placeOf_17 : decode b_M_placeOf 17 = .ok (.iaload, 1) := by decide +kernel
theorem d_M_placeOf_18 : decode b_M_placeOf 18 = .ok (.iload_n 1, 1) := by decide +kernel
theorem d_M_placeOf_19 : decode b_M_placeOf 19 = .ok (.if_icmp .ne 7, 3) := by decide +kernel
theorem d_M_placeOf_22 : decode b_M_placeOf 22 = .ok (.iload_n 3, 1) := by decide +kernel
theorem d_M_placeOf_23 : decode b_M_placeOf 23 = .ok (.goto 4, 3) := by decide +kernel
theorem d_M_placeOf_26 : decode b_M_placeOf 26 = .ok (.iload_n 2, 1) := by decide +kernel
theorem d_M_placeOf_27 : decode b_M_placeOf 27 = .ok (.istore_n 2, 1) := by decide +kernel
theorem d_M_placeOf_28 : decode b_M_placeOf 28 = .ok (.iinc 3 1, 3) := by decide +kernel
theorem d_M_placeOf_31 : decode b_M_placeOf 31 = .ok (.goto (-27), 3) := by decide +kernel
theorem d_M_placeOf_34 : decode b_M_placeOf 34 = .ok (.iload_n 2, 1) := by decide +kernel
theorem d_M_placeOf_35 : decode b_M_placeOf 35 = .ok (.ireturn, 1) := by decide +kernel
theorem d_M_release_0 : decode b_M_release 0 = .ok (.aload_n 0, 1) := by decide +kernel
theorem d_M_release_1 : decode b_M_release 1 = .ok (.iload_n 1, 1) := by decide +kernel
theorem d_M_release_2 : decode b_M_release 2 = .ok (.invokevirtual 135, 3) := by decide +kernel
theorem d_M_release_5 : decode b_M_release 5 = .ok (.istore_n 2, 1) := by decide +kernel
theorem d_M_release_6 : decode b_M_release 6 = .ok (.aload_n 0, 1) := by decide +kernel
theorem d_M_release_7 : decode b_M_release 7 = .ok (.iload_n 2, 1) := by decide +kernel
theorem d_M_release_8 : decode b_M_release 8 = .ok (.ifCond .lt 12, 3) := by decide +kernel
theorem d_M_release_11 : decode b_M_release 11 = .ok (.aload_n 0, 1) := by decide +kernel
theorem d_M_release_12 : decode b_M_release 12 = .ok (.getfield 23, 3) := by decide +kernel
theorem d_M_release_15 : decode b_M_release 15 = .ok (.iload_n 2, 1) := by decide +kernel
theorem d_M_release_16 : decode b_M_release 16 = .ok (.iaload, 1) := by decide +kernel
theorem d_M_release_17 : decode b_M_release 17 = .ok (.ifCond .ne 7, 3) := by decide +kernel
theorem d_M_release_20 : decode b_M_release 20 = .ok (.iconst 1, 1) := by decide +kernel
theorem d_M_release_21 : decode b_M_release 21 = .ok (.goto 4, 3) := by decide +kernel
theorem d_M_release_24 : decode b_M_release 24 = .ok (.iconst 0, 1) := by decide +kernel
theorem d_M_release_25 : decode b_M_release 25 = .ok (.iconst 0, 1) := by decide +kernel
theorem d_M_release_26 : decode b_M_release 26 = .ok (.invokevirtual 117, 3) := by decide +kernel
theorem d_M_release_29 : decode b_M_release 29 = .ok (.ifCond .eq 5, 3) := by decide +kernel
theorem d_M_release_32 : decode b_M_release 32 = .ok (.iconst 0, 1) := by decide +kernel
theorem d_M_release_33 : decode b_M_release 33 = .ok (.ireturn, 1) := by decide +kernel
theorem d_M_release_34 : decode b_M_release 34 = .ok (.aload_n 0, 1) := by decide +kernel
theorem d_M_release_35 : decode b_M_release 35 = .ok (.getfield 23, 3) := by decide +kernel
theorem d_M_release_38 : decode b_M_release 38 = .ok (.iload_n 2, 1) := by decide +kernel
theorem d_M_release_39 : decode b_M_release 39 = .ok (.dup2, 1) := by decide +kernel
theorem d_M_release_40 : decode b_M_release 40 = .ok (.iaload, 1) := by decide +kernel
theorem d_M_release_41 : decode b_M_release 41 = .ok (.iconst 1, 1) := by decide +kernel
theorem d_M_release_42 : decode b_M_release 42 = .ok (.isub, 1) := by decide +kernel
theorem d_M_release_43 : decode b_M_release 43 = .ok (.iastore, 1) := by decide +kernel
theorem d_M_release_44 : decode b_M_release 44 = .ok (.iload_n 2, 1) := by decide +kernel
theorem d_M_release_45 : decode b_M_release 45 = .ok (.ifCond .eq 12, 3) := by decide +kernel
theorem d_M_release_48 : decode b_M_release 48 = .ok (.aload_n 0, 1) := by decide +kernel
theorem d_M_release_49 : decode b_M_release 49 = .ok (.getfield 23, 3) := by decide +kernel
theorem d_M_release_52 : decode b_M_release 52 = .ok (.iload_n 2, 1) := by decide +kernel
theorem d_M_release_53 : decode b_M_release 53 = .ok (.iaload, 1) := by decide +kernel
theorem d_M_release_54 : decode b_M_release 54 = .ok (.ifCond .le 5, 3) := by decide +kernel
theorem d_M_release_57 : decode b_M_release 57 = .ok (.iconst 1, 1) := by decide +kernel
theorem d_M_release_58 : decode b_M_release 58 = .ok (.ireturn, 1) := by decide +kernel
theorem d_M_release_59 : decode b_M_release 59 = .ok (.iload_n 2, 1) := by decide +kernel
theorem d_M_release_60 : decode b_M_release 60 = .ok (.istore_n 3, 1) := by decide +kernel
theorem d_M_release_61 : decode b_M_release 61 = .ok (.iload_n 3, 1) := by decide +kernel
theorem d_M_release_62 : decode b_M_release 62 = .ok (.iconst 1, 1) := by decide +kernel
theorem d_M_release_63 : decode b_M_release 63 = .ok (.iadd, 1) := by decide +kernel
theorem d_M_release_64 : decode b_M_release 64 = .ok (.aload_n 0, 1) := by decide +kernel
theorem d_M_release_65 : decode b_M_release 65 = .ok (.getfield 121, 3) := by decide +kernel
theorem d_M_release_68 : decode b_M_release 68 = .ok (.if_icmp .ge 17, 3) := by decide +kernel
theorem d_M_release_71 : decode b_M_release 71 = .ok (.aload_n 0, 1) := by decide +kernel
theorem d_M_release_72 : decode b_M_release 72 = .ok (.iload_n 3, 1) := by decide +kernel
theorem d_M_release_73 : decode b_M_release 73 = .ok (.iconst 1, 1) := by decide +kernel
theorem d_M_release_74 : decode b_M_release 74 = .ok (.iadd, 1) := by decide +kernel
theorem d_M_release_75 : decode b_M_release 75 = .ok (.iload_n 3, 1) := by decide +kernel
theorem d_M_release_76 : decode b_M_release 76 = .ok (.invokevirtual 124, 3) := by decide +kernel
theorem d_M_release_79 : decode b_M_release 79 = .ok (.iinc 3 1, 3) := by decide +kernel
theorem d_M_release_82 : decode b_M_release 82 = .ok (.goto (-21), 3) := by decide +kernel
theorem d_M_release_85 : decode b_M_release 85 = .ok (.aload_n 0, 1) := by decide +kernel
theorem d_M_release_86 : decode b_M_release 86 = .ok (.dup, 1) := by decide +kernel
theorem d_M_release_87 : decode b_M_release 87 = .ok (.getfield 121, 3) := by decide +kernel
theorem d_M_release_90 : decode b_M_release 90 = .ok (.iconst 1, 1) := by decide +kernel
theorem d_M_release_91 : decode b_M_release 91 = .ok (.isub, 1) := by decide +kernel
theorem d_M_release_92 : decode b_M_release 92 = .ok (.putfield 121, 3) := by decide +kernel
theorem d_M_release_95 : decode b_M_release 95 = .ok (.iconst 0, 1) := by decide +kernel
theorem d_M_release_96 : decode b_M_release 96 = .ok (.ireturn, 1) := by decide +kernel
theorem d_M_begin_0 : decode b_M_begin 0 = .ok (.aload_n 0, 1) := by decide +kernel
theorem d_M_begin_1 : decode b_M_begin 1 = .ok (.getfield 139, 3) := by decide +kernel
theorem d_M_begin_4 : decode b_M_begin 4 = .ok (.istore 4, 2) := by decide +kernel
theorem d_M_begin_6 : decode b_M_begin 6 = .ok (.aload_n 0, 1) := by decide +kernel
theorem d_M_begin_7 : decode b_M_begin 7 = .ok (.dup, 1) := by decide +kernel
theorem d_M_begin_8 : decode b_M_begin 8 = .ok (.getfield 139, 3) := by decide +kernel
theorem d_M_begin_11 : decode b_M_begin 11 = .ok (.iconst 1, 1) := by decide +kernel
theorem d_M_begin_12 : decode b_M_begin 12 = .ok (.iadd, 1) := by decide +kernel
theorem d_M_begin_13 : decode b_M_begin 13 = .ok (.putfield 139, 3) := by decide +kernel
theorem d_M_begin_16 : decode b_M_begin 16 = .ok (.aload_n 0, 1) := by decide +kernel
theorem d_M_begin_17 : decode b_M_begin 17 = .ok (.getfield 38, 3) := by decide +kernel
theorem d_M_begin_20 : decode b_M_begin 20 = .ok (.iload 4, 2) := by decide +kernel
theorem d_M_begin_22 : decode b_M_begin 22 = .ok (.iload_n 2, 1) := by decide +kernel
theorem d_M_begin_23 : decode b_M_begin 23 = .ok (.iastore, 1) := by decide +kernel
theorem d_M_begin_24 : decode b_M_begin 24 = .ok (.aload_n 0, 1) := by decide +kernel
theorem d_M_begin_25 : decode b_M_begin 25 = .ok (.getfield 41, 3) := by decide +kernel
theorem d_M_begin_28 : decode b_M_begin 28 = .ok (.iload 4, 2) := by decide +kernel
theorem d_M_begin_30 : decode b_M_begin 30 = .ok (.iload_n 3, 1) := by decide +kernel
theorem d_M_begin_31 : decode b_M_begin 31 = .ok (.iastore, 1) := by decide +kernel
theorem d_M_begin_32 : decode b_M_begin 32 = .ok (.iload_n 2, 1) := by decide +kernel
theorem d_M_begin_33 : decode b_M_begin 33 = .ok (.istore 5, 2) := by decide +kernel
theorem d_M_begin_35 : decode b_M_begin 35 = .ok (.aload_n 0, 1) := by decide +kernel
theorem d_M_begin_36 : decode b_M_begin 36 = .ok (.getfield 47, 3) := by decide +kernel
theorem d_M_begin_39 : decode b_M_begin 39 = .ok (.iload 4, 2) := by decide +kernel
theorem d_M_begin_41 : decode b_M_begin 41 = .ok (.sipush 10000, 3) := by decide +kernel
theorem d_M_begin_44 : decode b_M_begin 44 = .ok (.iastore, 1) := by decide +kernel
theorem d_M_begin_45 : decode b_M_begin 45 = .ok (.iload 5, 2) := by decide +kernel
theorem d_M_begin_47 : decode b_M_begin 47 = .ok (.aload_n 0, 1) := by decide +kernel
theorem d_M_begin_48 : decode b_M_begin 48 = .ok (.getfield 20, 3) := by decide +kernel
theorem d_M_begin_51 : decode b_M_begin 51 = .ok (.iload_n 1, 1) := by decide +kernel
theorem d_M_begin_52 : decode b_M_begin 52 = .ok (.iaload, 1) := by decide +kernel
theorem d_M_begin_53 : decode b_M_begin 53 = .ok (.if_icmp .ge 94, 3) := by decide +kernel
theorem d_M_begin_56 : decode b_M_begin 56 = .ok (.iload_n 3, 1) := by decide +kernel
theorem d_M_begin_57 : decode b_M_begin 57 = .ok (.ifCond .eq 33, 3) := by decide +kernel
theorem d_M_begin_60 : decode b_M_begin 60 = .ok (.aload_n 0, 1) := by decide +kernel
theorem d_M_begin_61 : decode b_M_begin 61 = .ok (.getfield 26, 3) := by decide +kernel
theorem d_M_begin_64 : decode b_M_begin 64 = .ok (.bipush 24, 2) := by decide +kernel
theorem d_M_begin_66 : decode b_M_begin 66 = .ok (.iload_n 1, 1) := by decide +kernel
theorem d_M_begin_67 : decode b_M_begin 67 = .ok (.imul, 1) := by decide +kernel
theorem d_M_begin_68 : decode b_M_begin 68 = .ok (.iload 5, 2) := by decide +kernel
theorem d_M_begin_70 : decode b_M_begin 70 = .ok (.iadd, 1) := by decide +kernel
theorem d_M_begin_71 : decode b_M_begin 71 = .ok (.laload, 1) := by decide +kernel
theorem d_M_begin_72 : decode b_M_begin 72 = .ok (.aload_n 0, 1) := by decide +kernel
theorem d_M_begin_73 : decode b_M_begin 73 = .ok (.getfield 26, 3) := by decide +kernel
theorem d_M_begin_76 : decode b_M_begin 76 = .ok (.bipush 24, 2) := by decide +kernel
theorem d_M_begin_78 : decode b_M_begin 78 = .ok (.iload_n 1, 1) := by decide +kernel
theorem d_M_begin_79 : decode b_M_begin 79 = .ok (.imul, 1) := by decide +kernel
theorem d_M_begin_80 : decode b_M_begin 80 = .ok (.iload_n 2, 1) := by decide +kernel
theorem d_M_begin_81 : decode b_M_begin 81 = .ok (.iadd, 1) := by decide +kernel
theorem d_M_begin_82 : decode b_M_begin 82 = .ok (.laload, 1) := by decide +kernel
theorem d_M_begin_83 : decode b_M_begin 83 = .ok (.invokestatic 142, 3) := by decide +kernel
theorem d_M_begin_86 : decode b_M_begin 86 = .ok (.iload_n 3, 1) := by decide +kernel
theorem d_M_begin_87 : decode b_M_begin 87 = .ok (.if_icmp .lt 60, 3) := by decide +kernel
theorem d_M_begin_90 : decode b_M_begin 90 = .ok (.aload_n 0, 1) := by decide +kernel
theorem d_M_begin_91 : decode b_M_begin 91 = .ok (.getfield 47, 3) := by decide +kernel
theorem d_M_begin_94 : decode b_M_begin 94 = .ok (.iload 4, 2) := by decide +kernel
theorem d_M_begin_96 : decode b_M_begin 96 = .ok (.aload_n 0, 1) := by decide +kernel
theorem d_M_begin_97 : decode b_M_begin 97 = .ok (.getfield 29, 3) := by decide +kernel
theorem d_M_begin_100 : decode b_M_begin 100 = .ok (.bipush 24, 2) := by decide +kernel
theorem d_M_begin_102 : decode b_M_begin 102 = .ok (.iload_n 1, 1) := by decide +kernel
theorem d_M_begin_103 : decode b_M_begin 103 = .ok (.imul, 1) := by decide +kernel
theorem d_M_begin_104 : decode b_M_begin 104 = .ok (.iload 5, 2) := by decide +kernel
theorem d_M_begin_106 : decode b_M_begin 106 = .ok (.iadd, 1) := by decide +kernel
theorem d_M_begin_107 : decode b_M_begin 107 = .ok (.iaload, 1) := by decide +kernel
theorem d_M_begin_108 : decode b_M_begin 108 = .ok (.aload_n 0, 1) := by decide +kernel
theorem d_M_begin_109 : decode b_M_begin 109 = .ok (.getfield 47, 3) := by decide +kernel
theorem d_M_begin_112 : decode b_M_begin 112 = .ok (.iload 4, 2) := by decide +kernel
theorem d_M_begin_114 : decode b_M_begin 114 = .ok (.iaload, 1) := by decide +kernel
theorem d_M_begin_115 : decode b_M_begin 115 = .ok (.if_icmp .ge 18, 3) := by decide +kernel
theorem d_M_begin_118 : decode b_M_begin 118 = .ok (.aload_n 0, 1) := by decide +kernel
theorem d_M_begin_119 : decode b_M_begin 119 = .ok (.getfield 29, 3) := by decide +kernel
theorem d_M_begin_122 : decode b_M_begin 122 = .ok (.bipush 24, 2) := by decide +kernel
theorem d_M_begin_124 : decode b_M_begin 124 = .ok (.iload_n 1, 1) := by decide +kernel
theorem d_M_begin_125 : decode b_M_begin 125 = .ok (.imul, 1) := by decide +kernel
theorem d_M_begin_126 : decode b_M_begin 126 = .ok (.iload 5, 2) := by decide +kernel
theorem d_M_begin_128 : decode b_M_begin 128 = .ok (.iadd, 1) := by decide +kernel
theorem d_M_begin_129 : decode b_M_begin 129 = .ok (.iaload, 1) := by decide +kernel
theorem d_M_begin_130 : decode b_M_begin 130 = .ok (.goto 10, 3) := by decide +kernel
theorem d_M_begin_133 : decode b_M_begin 133 = .ok (.aload_n 0, 1) := by decide +kernel
theorem d_M_begin_134 : decode b_M_begin 134 = .ok (.getfield 47, 3) := by decide +kernel
theorem d_M_begin_137 : decode b_M_begin 137 = .ok (.iload 4, 2) := by decide +kernel
theorem d_M_begin_139 : decode b_M_begin 139 = .ok (.iaload, 1) := by decide +kernel
theorem d_M_begin_140 : decode b_M_begin 140 = .ok (.iastore, 1) := by decide +kernel
theorem d_M_begin_141 : decode b_M_begin 141 = .ok (.iinc 5 1, 3) := by decide +kernel
theorem d_M_begin_144 : decode b_M_begin 144 = .ok (.goto (-99), 3) := by decide +kernel
theorem d_M_begin_147 : decode b_M_begin 147 = .ok (.aload_n 0, 1) := by decide +kernel
theorem d_M_begin_148 : decode b_M_begin 148 = .ok (.getfield 44, 3) := by decide +kernel
theorem d_M_begin_151 : decode b_M_begin 151 = .ok (.iload 4, 2) := by decide +kernel
theorem d_M_begin_153 : decode b_M_begin 153 = .ok (.iload 5, 2) := by decide +kernel
theorem d_M_begin_155 : decode b_M_begin 155 = .ok (.iastore, 1) := by decide +kernel
theorem d_M_begin_156 : decode b_M_begin 156 = .ok (.aload_n 0, 1) := by decide +kernel
theorem d_M_begin_157 : decode b_M_begin 157 = .ok (.getfield 50, 3) := by decide +kernel
theorem d_M_begin_160 : decode b_M_begin 160 = .ok (.iload 4, 2) := by decide +kernel
theorem d_M_begin_162 : decode b_M_begin 162 = .ok (.lconst 0, 1) := by decide +kernel
theorem d_M_begin_163 : decode b_M_begin 163 = .ok (.lastore, 1) := by decide +kernel
theorem d_M_begin_164 : decode b_M_begin 164 = .ok (.iload_n 2, 1) := by decide +kernel
theorem d_M_begin_165 : decode b_M_begin 165 = .ok (.istore 6, 2) := by decide +kernel
theorem d_M_begin_167 : decode b_M_begin 167 = .ok (.iload 6, 2) := by decide +kernel
theorem d_M_begin_169 : decode b_M_begin 169 = .ok (.iload 5, 2) := by decide +kernel
theorem d_M_begin_171 : decode b_M_begin 171 = .ok (.if_icmp .ge 120, 3) := by decide +kernel
theorem d_M_begin_174 : decode b_M_begin 174 = .ok (.aload_n 0, 1) := by decide +kernel
theorem d_M_begin_175 : decode b_M_begin 175 = .ok (.getfield 50, 3) := by decide +kernel
theorem d_M_begin_178 : decode b_M_begin 178 = .ok (.iload 4, 2) := by decide +kernel
theorem d_M_begin_180 : decode b_M_begin 180 = .ok (.ldc2_w 146, 3) := by decide +kernel
theorem d_M_begin_183 : decode b_M_begin 183 = .ok (.aload_n 0, 1) := by decide +kernel
theorem d_M_begin_184 : decode b_M_begin 184 = .ok (.getfield 50, 3) := by decide +kernel
theorem d_M_begin_187 : decode b_M_begin 187 = .ok (.iload 4, 2) := by decide +kernel
theorem d_M_begin_189 : decode b_M_begin 189 = .ok (.laload, 1) := by decide +kernel
theorem d_M_begin_190 : decode b_M_begin 190 = .ok (.lmul, 1) := by decide +kernel
theorem d_M_begin_191 : decode b_M_begin 191 = .ok (.aload_n 0, 1) := by decide +kernel
theorem d_M_begin_192 : decode b_M_begin 192 = .ok (.getfield 29, 3) := by decide +kernel
theorem d_M_begin_195 : decode b_M_begin 195 = .ok (.bipush 24, 2) := by decide +kernel
theorem d_M_begin_197 : decode b_M_begin 197 = .ok (.iload_n 1, 1) := by decide +kernel
theorem d_M_begin_198 : decode b_M_begin 198 = .ok (.imul, 1) := by decide +kernel
theorem d_M_begin_199 : decode b_M_begin 199 = .ok (.iload 6, 2) := by decide +kernel
theorem d_M_begin_201 : decode b_M_begin 201 = .ok (.iadd, 1) := by decide +kernel
theorem d_M_begin_202 : decode b_M_begin 202 = .ok (.iaload, 1) := by decide +kernel
theorem d_M_begin_203 : decode b_M_begin 203 = .ok (.i2l, 1) := by decide +kernel
theorem d_M_begin_204 : decode b_M_begin 204 = .ok (.ladd, 1) := by decide +kernel
theorem d_M_begin_205 : decode b_M_begin 205 = .ok (.aload_n 0, 1) := by decide +kernel
theorem d_M_begin_206 : decode b_M_begin 206 = .ok (.getfield 47, 3) := by decide +kernel
theorem d_M_begin_209 : decode b_M_begin 209 = .ok (.iload 4, 2) := by decide +kernel
theorem d_M_begin_211 : decode b_M_begin 211 = .ok (.iaload, 1) := by decide +kernel
theorem d_M_begin_212 : decode b_M_begin 212 = .ok (.i2l, 1) := by decide +kernel
theorem d_M_begin_213 : decode b_M_begin 213 = .ok (.lsub, 1) := by decide +kernel
theorem d_M_begin_214 : decode b_M_begin 214 = .ok (.lastore, 1) := by decide +kernel
theorem d_M_begin_215 : decode b_M_begin 215 = .ok (.aload_n 0, 1) := by decide +kernel
theorem d_M_begin_216 : decode b_M_begin 216 = .ok (.getfield 26, 3) := by decide +kernel
theorem d_M_begin_219 : decode b_M_begin 219 = .ok (.bipush 24, 2) := by decide +kernel
theorem d_M_begin_221 : decode b_M_begin 221 = .ok (.iload_n 1, 1) := by decide +kernel
theorem d_M_begin_222 : decode b_M_begin 222 = .ok (.imul, 1) := by decide +kernel
theorem d_M_begin_223 : decode b_M_begin 223 = .ok (.iload 6, 2) := by decide +kernel
theorem d_M_begin_225 : decode b_M_begin 225 = .ok (.iadd, 1) := by decide +kernel
theorem d_M_begin_226 : decode b_M_begin 226 = .ok (.laload, 1) := by decide +kernel
theorem d_M_begin_227 : decode b_M_begin 227 = .ok (.invokestatic 93, 3) := by decide +kernel
theorem d_M_begin_230 : decode b_M_begin 230 = .ok (.istore 7, 2) := by decide +kernel
theorem d_M_begin_232 : decode b_M_begin 232 = .ok (.iload_n 3, 1) := by decide +kernel
theorem d_M_begin_233 : decode b_M_begin 233 = .ok (.istore 8, 2) := by decide +kernel
theorem d_M_begin_235 : decode b_M_begin 235 = .ok (.iload 8, 2) := by decide +kernel
theorem d_M_begin_237 : decode b_M_begin 237 = .ok (.iload 7, 2) := by decide +kernel
theorem d_M_begin_239 : decode b_M_begin 239 = .ok (.if_icmp .ge 46, 3) := by decide +kernel
theorem d_M_begin_242 : decode b_M_begin 242 = .ok (.aload_n 0, 1) := by decide +kernel
theorem d_M_begin_243 : decode b_M_begin 243 = .ok (.getfield 50, 3) := by decide +kernel
theorem d_M_begin_246 : decode b_M_begin 246 = .ok (.iload 4, 2) := by decide +kernel
theorem d_M_begin_248 : decode b_M_begin 248 = .ok (.ldc2_w 148, 3) := by decide +kernel
theorem d_M_begin_251 : decode b_M_begin 251 = .ok (.aload_n 0, 1) := by decide +kernel
theorem d_M_begin_252 : decode b_M_begin 252 = .ok (.getfield 50, 3) := by decide +kernel
theorem d_M_begin_255 : decode b_M_begin 255 = .ok (.iload 4, 2) := by decide +kernel
theorem d_M_begin_257 : decode b_M_begin 257 = .ok (.laload, 1) := by decide +kernel
theorem d_M_begin_258 : decode b_M_begin 258 = .ok (.lmul, 1) := by decide +kernel
theorem d_M_begin_259 : decode b_M_begin 259 = .ok (.aload_n 0, 1) := by decide +kernel
theorem d_M_begin_260 : decode b_M_begin 260 = .ok (.getfield 26, 3) := by decide +kernel
theorem d_M_begin_263 : decode b_M_begin 263 = .ok (.bipush 24, 2) := by decide +kernel
theorem d_M_begin_265 : decode b_M_begin 265 = .ok (.iload_n 1, 1) := by decide +kernel
theorem d_M_begin_266 : decode b_M_begin 266 = .ok (.imul, 1) := by decide +kernel
theorem d_M_begin_267 : decode b_M_begin 267 = .ok (.iload 6, 2) := by decide +kernel
theorem d_M_begin_269 : decode b_M_begin 269 = .ok (.iadd, 1) := by decide +kernel
theorem d_M_begin_270 : decode b_M_begin 270 = .ok (.laload, 1) := by decide +kernel
theorem d_M_begin_271 : decode b_M_begin 271 = .ok (.iload 8, 2) := by decide +kernel
theorem d_M_begin_273 : decode b_M_begin 273 = .ok (.invokestatic 107, 3) := by decide +kernel
theorem d_M_begin_276 : decode b_M_begin 276 = .ok (.i2l, 1) := by decide +kernel
theorem d_M_begin_277 : decode b_M_begin 277 = .ok (.ladd, 1) := by decide +kernel
theorem d_M_begin_278 : decode b_M_begin 278 = .ok (.lastore, 1) := by decide +kernel
theorem d_M_begin_279 : decode b_M_begin 279 = .ok (.iinc 8 1, 3) := by decide +kernel
theorem d_M_begin_282 : decode b_M_begin 282 = .ok (.goto (-47), 3) := by decide +kernel
theorem d_M_begin_285 : decode b_M_begin 285 = .ok (.iinc 6 1, 3) := by decide +kernel
theorem d_M_begin_288 : decode b_M_begin 288 = .ok (.goto (-121), 3) := by decide +kernel
theorem d_M_begin_291 : decode b_M_begin 291 = .ok (.return_, 1) := by decide +kernel
theorem d_M_same_0 : decode b_M_same 0 = .ok (.aload_n 0, 1) := by decide +kernel
theorem d_M_same_1 : decode b_M_same 1 = .ok (.getfield 44, 3) := by decide +kernel
theorem d_M_same_4 : decode b_M_same 4 = .ok (.iload_n 2, 1) := by decide +kernel
theorem d_M_same_5 : decode b_M_same 5 = .ok (.iaload, 1) := by decide +kernel
theorem d_M_same_6 : decode b_M_same 6 = .ok (.aload_n 0, 1) := by decide +kernel
theorem d_M_same_7 : decode b_M_same 7 = .ok (.getfield 38, 3) := by decide +kernel
theorem d_M_same_10 : decode b_M_same 10 = .ok (.iload_n 2, 1) := by decide +kernel
theorem d_M_same_11 : decode b_M_same 11 = .ok (.iaload, 1) := by decide +kernel
theorem d_M_same_12 : decode b_M_same 12 = .ok (.isub, 1) := by decide +kernel
theorem d_M_same_13 : decode b_M_same 13 = .ok (.istore 4, 2) := by decide +kernel
theorem d_M_same_15 : decode b_M_same 15 = .ok (.aload_n 0, 1) := by decide +kernel
theorem d_M_same_16 : decode b_M_same 16 = .ok (.getfield 50, 3) := by decide +kernel
theorem d_M_same_19 : decode b_M_same 19 = .ok (.iload_n 2, 1) := by decide +kernel
theorem d_M_same_20 : decode b_M_same 20 = .ok (.laload, 1) := by decide +kernel
theorem d_M_same_21 : decode b_M_same 21 = .ok (.aload_n 0, 1) := by decide +kernel
theorem d_M_same_22 : decode b_M_same 22 = .ok (.getfield 50, 3) := by decide +kernel
theorem d_M_same_25 : decode b_M_same 25 = .ok (.iload_n 3, 1) := by decide +kernel
theorem d_M_same_26 : decode b_M_same 26 = .ok (.laload, 1) := by decide +kernel
theorem d_M_same_27 : decode b_M_same 27 = .ok (.lcmp, 1) := by decide +kernel
theorem d_M_same_28 : decode b_M_same 28 = .ok (.ifCond .ne 21, 3) := by decide +kernel
theorem d_M_same_31 : decode b_M_same 31 = .ok (.iload 4, 2) := by decide +kernel
theorem d_M_same_33 : decode b_M_same 33 = .ok (.aload_n 0, 1) := by decide +kernel
theorem d_M_same_34 : decode b_M_same 34 = .ok (.getfield 44, 3) := by decide +kernel
theorem d_M_same_37 : decode b_M_same 37 = .ok (.iload_n 3, 1) := by decide +kernel
theorem d_M_same_38 : decode b_M_same 38 = .ok (.iaload, 1) := by decide +kernel
theorem d_M_same_39 : decode b_M_same 39 = .ok (.aload_n 0, 1) := by decide +kernel
theorem d_M_same_40 : decode b_M_same 40 = .ok (.getfield 38, 3) := by decide +kernel
theorem d_M_same_43 : decode b_M_same 43 = .ok (.iload_n 3, 1) := by decide +kernel
theorem d_M_same_44 : decode b_M_same 44 = .ok (.iaload, 1) := by decide +kernel
theorem d_M_same_45 : decode b_M_same 45 = .ok (.isub, 1) := by decide +kernel
theorem d_M_same_46 : decode b_M_same 46 = .ok (.if_icmp .eq 5, 3) := by decide +kernel
theorem d_M_same_49 : decode b_M_same 49 = .ok (.iconst 0, 1) := by decide +kernel
theorem d_M_same_50 : decode b_M_same 50 = .ok (.ireturn, 1) := by decide +kernel
theorem d_M_same_51 : decode b_M_same 51 = .ok (.iconst 0, 1) := by decide +kernel
theorem d_M_same_52 : decode b_M_same 52 = .ok (.istore 5, 2) := by decide +kernel
theorem d_M_same_54 : decode b_M_same 54 = .ok (.iload 5, 2) := by decide +kernel
theorem d_M_same_56 : decode b_M_same 56 = .ok (.iload 4, 2) := by decide +kernel
theorem d_M_same_58 : decode b_M_same 58 = .ok (.if_icmp .ge 177, 3) := by decide +kernel
theorem d_M_same_61 : decode b_M_same 61 = .ok (.bipush 24, 2) := by decide +kernel
theorem d_M_same_63 : decode b_M_same 63 = .ok (.iload_n 1, 1) := by decide +kernel
theorem d_M_same_64 : decode b_M_same 64 = .ok (.imul, 1) := by decide +kernel
theorem d_M_same_65 : decode b_M_same 65 = .ok (.aload_n 0, 1) := by decide +kernel
theorem d_M_same_66 : decode b_M_same 66 = .ok (.getfield 38, 3) := by decide +kernel
theorem d_M_same_69 : decode b_M_same 69 = .ok (.iload_n 2, 1) := by decide +kernel
theorem d_M_same_70 : decode b_M_same 70 = .ok (.iaload, 1) := by decide +kernel
theorem d_M_same_71 : decode b_M_same 71 = .ok (.iadd, 1) := by decide +kernel
theorem d_M_same_72 : decode b_M_same 72 = .ok (.iload 5, 2) := by decide +kernel
theorem d_M_same_74 : decode b_M_same 74 = .ok (.iadd, 1) := by decide +kernel
theorem d_M_same_75 : decode b_M_same 75 = .ok (.istore 6, 2) := by decide +kernel
theorem d_M_same_77 : decode b_M_same 77 = .ok (.bipush 24, 2) := by decide +kernel
theorem d_M_same_79 : decode b_M_same 79 = .ok (.iload_n 1, 1) := by decide +kernel
theorem d_M_same_80 : decode b_M_same 80 = .ok (.imul, 1) := by decide +kernel
theorem d_M_same_81 : decode b_M_same 81 = .ok (.aload_n 0, 1) := by decide +kernel
theorem d_M_same_82 : decode b_M_same 82 = .ok (.getfield 38, 3) := by decide +kernel
theorem d_M_same_85 : decode b_M_same 85 = .ok (.iload_n 3, 1) := by decide +kernel
theorem d_M_same_86 : decode b_M_same 86 = .ok (.iaload, 1) := by decide +kernel
theorem d_M_same_87 : decode b_M_same 87 = .ok (.iadd, 1) := by decide +kernel
theorem d_M_same_88 : decode b_M_same 88 = .ok (.iload 5, 2) := by decide +kernel
theorem d_M_same_90 : decode b_M_same 90 = .ok (.iadd, 1) := by decide +kernel
theorem d_M_same_91 : decode b_M_same 91 = .ok (.istore 7, 2) := by decide +kernel
theorem d_M_same_93 : decode b_M_same 93 = .ok (.aload_n 0, 1) := by decide +kernel
theorem d_M_same_94 : decode b_M_same 94 = .ok (.getfield 29, 3) := by decide +kernel
theorem d_M_same_97 : decode b_M_same 97 = .ok (.iload 6, 2) := by decide +kernel
theorem d_M_same_99 : decode b_M_same 99 = .ok (.iaload, 1) := by decide +kernel
theorem d_M_same_100 : decode b_M_same 100 = .ok (.aload_n 0, 1) := by decide +kernel
theorem d_M_same_101 : decode b_M_same 101 = .ok (.getfield 47, 3) := by decide +kernel
theorem d_M_same_104 : decode b_M_same 104 = .ok (.iload_n 2, 1) := by decide +kernel
theorem d_M_same_105 : decode b_M_same 105 = .ok (.iaload, 1) := by decide +kernel
theorem d_M_same_106 : decode b_M_same 106 = .ok (.isub, 1) := by decide +kernel
theorem d_M_same_107 : decode b_M_same 107 = .ok (.aload_n 0, 1) := by decide +kernel
theorem d_M_same_108 : decode b_M_same 108 = .ok (.getfield 29, 3) := by decide +kernel
theorem d_M_same_111 : decode b_M_same 111 = .ok (.iload 7, 2) := by decide +kernel
theorem d_M_same_113 : decode b_M_same 113 = .ok (.iaload, 1) := by decide +kernel
theorem d_M_same_114 : decode b_M_same 114 = .ok (.aload_n 0, 1) := by decide +kernel
theorem d_M_same_115 : decode b_M_same 115 = .ok (.getfield 47, 3) := by decide +kernel
theorem d_M_same_118 : decode b_M_same 118 = .ok (.iload_n 3, 1) := by decide +kernel
theorem d_M_same_119 : decode b_M_same 119 = .ok (.iaload, 1) := by decide +kernel
theorem d_M_same_120 : decode b_M_same 120 = .ok (.isub, 1) := by decide +kernel
theorem d_M_same_121 : decode b_M_same 121 = .ok (.if_icmp .eq 5, 3) := by decide +kernel
theorem d_M_same_124 : decode b_M_same 124 = .ok (.iconst 0, 1) := by decide +kernel
theorem d_M_same_125 : decode b_M_same 125 = .ok (.ireturn, 1) := by decide +kernel
theorem d_M_same_126 : decode b_M_same 126 = .ok (.iconst 0, 1) := by decide +kernel
theorem d_M_same_127 : decode b_M_same 127 = .ok (.istore 8, 2) := by decide +kernel
theorem d_M_same_129 : decode b_M_same 129 = .ok (.iload 8, 2) := by decide +kernel
theorem d_M_same_131 : decode b_M_same 131 = .ok (.bipush 8, 2) := by decide +kernel
theorem d_M_same_133 : decode b_M_same 133 = .ok (.if_icmp .ge 96, 3) := by decide +kernel
theorem d_M_same_136 : decode b_M_same 136 = .ok (.aload_n 0, 1) := by decide +kernel
theorem d_M_same_137 : decode b_M_same 137 = .ok (.getfield 41, 3) := by decide +kernel
theorem d_M_same_140 : decode b_M_same 140 = .ok (.iload_n 2, 1) := by decide +kernel
theorem d_M_same_141 : decode b_M_same 141 = .ok (.iaload, 1) := by decide +kernel
theorem d_M_same_142 : decode b_M_same 142 = .ok (.iload 8, 2) := by decide +kernel
theorem d_M_same_144 : decode b_M_same 144 = .ok (.iadd, 1) := by decide +kernel
theorem d_M_same_145 : decode b_M_same 145 = .ok (.bipush 8, 2) := by decide +kernel
theorem d_M_same_147 : decode b_M_same 147 = .ok (.if_icmp .ge 25, 3) := by decide +kernel
theorem d_M_same_150 : decode b_M_same 150 = .ok (.aload_n 0, 1) := by decide +kernel
theorem d_M_same_151 : decode b_M_same 151 = .ok (.getfield 26, 3) := by decide +kernel
theorem d_M_same_154 : decode b_M_same 154 = .ok (.iload 6, 2) := by decide +kernel
theorem d_M_same_156 : decode b_M_same 156 = .ok (.laload, 1) := by decide +kernel
theorem d_M_same_157 : decode b_M_same 157 = .ok (.aload_n 0, 1) := by decide +kernel
theorem d_M_same_158 : decode b_M_same 158 = .ok (.getfield 41, 3) := by decide +kernel
theorem d_M_same_161 : decode b_M_same 161 = .ok (.iload_n 2, 1) := by decide +kernel
theorem d_M_same_162 : decode b_M_same 162 = .ok (.iaload, 1) := by decide +kernel
theorem d_M_same_163 : decode b_M_same 163 = .ok (.iload 8, 2) := by decide +kernel
theorem d_M_same_165 : decode b_M_same 165 = .ok (.iadd, 1) := by decide +kernel
theorem d_M_same_166 : decode b_M_same 166 = .ok (.invokestatic 107, 3) := by decide +kernel
theorem d_M_same_169 : decode b_M_same 169 = .ok (.goto 4, 3) := by decide +kernel
theorem d_M_same_172 : decode b_M_same 172 = .ok (.iconst 0, 1) := by decide +kernel
theorem d_M_same_173 : decode b_M_same 173 = .ok (.istore 9, 2) := by decide +kernel
theorem d_M_same_175 : decode b_M_same 175 = .ok (.aload_n 0, 1) := by decide +kernel
theorem d_M_same_176 : decode b_M_same 176 = .ok (.getfield 41, 3) := by decide +kernel
theorem d_M_same_179 : decode b_M_same 179 = .ok (.iload_n 3, 1) := by decide +kernel
theorem d_M_same_180 : decode b_M_same 180 = .ok (.iaload, 1) := by decide +kernel
theorem d_M_same_181 : decode b_M_same 181 = .ok (.iload 8, 2) := by decide +kernel
theorem d_M_same_183 : decode b_M_same 183 = .ok (.iadd, 1) := by decide +kernel
theorem d_M_same_184 : decode b_M_same 184 = .ok (.bipush 8, 2) := by decide +kernel
theorem d_M_same_186 : decode b_M_same 186 = .ok (.if_icmp .ge 25, 3) := by decide +kernel
theorem d_M_same_189 : decode b_M_same 189 = .ok (.aload_n 0, 1) := by decide +kernel
theorem d_M_same_190 : decode b_M_same 190 = .ok (.getfield 26, 3) := by decide +kernel
theorem d_M_same_193 : decode b_M_same 193 = .ok (.iload 7, 2) := by decide +kernel
theorem d_M_same_195 : decode b_M_same 195 = .ok (.laload, 1) := by decide +kernel
theorem d_M_same_196 : decode b_M_same 196 = .ok (.aload_n 0, 1) := by decide +kernel
theorem d_M_same_197 : decode b_M_same 197 = .ok (.getfield 41, 3) := by decide +kernel
theorem d_M_same_200 : decode b_M_same 200 = .ok (.iload_n 3, 1) := by decide +kernel
theorem d_M_same_201 : decode b_M_same 201 = .ok (.iaload, 1) := by decide +kernel
theorem d_M_same_202 : decode b_M_same 202 = .ok (.iload 8, 2) := by decide +kernel
theorem d_M_same_204 : decode b_M_same 204 = .ok (.iadd, 1) := by decide +kernel
theorem d_M_same_205 : decode b_M_same 205 = .ok (.invokestatic 107, 3) := by decide +kernel
theorem d_M_same_208 : decode b_M_same 208 = .ok (.goto 4, 3) := by decide +kernel
theorem d_M_same_211 : decode b_M_same 211 = .ok (.iconst 0, 1) := by decide +kernel
theorem d_M_same_212 : decode b_M_same 212 = .ok (.istore 10, 2) := by decide +kernel
theorem d_M_same_214 : decode b_M_same 214 = .ok (.iload 9, 2) := by decide +kernel
theorem d_M_same_216 : decode b_M_same 216 = .ok (.iload 10, 2) := by decide +kernel
theorem d_M_same_218 : decode b_M_same 218 = .ok (.if_icmp .eq 5, 3) := by decide +kernel
theorem d_M_same_221 : decode b_M_same 221 = .ok (.iconst 0, 1) := by decide +kernel
theorem d_M_same_222 : decode b_M_same 222 = .ok (.ireturn, 1) := by decide +kernel
theorem d_M_same_223 : decode b_M_same 223 = .ok (.iinc 8 1, 3) := by decide +kernel
theorem d_M_same_226 : decode b_M_same 226 = .ok (.goto (-97), 3) := by decide +kernel
theorem d_M_same_229 : decode b_M_same 229 = .ok (.iinc 5 1, 3) := by decide +kernel
theorem d_M_same_232 : decode b_M_same 232 = .ok (.goto (-178), 3) := by decide +kernel
theorem d_M_same_235 : decode b_M_same 235 = .ok (.iconst 1, 1) := by decide +kernel
theorem d_M_same_236 : decode b_M_same 236 = .ok (.ireturn, 1) := by decide +kernel
theorem d_M_followers_0 : decode b_M_followers 0 = .ok (.iconst 0, 1) := by decide +kernel
theorem d_M_followers_1 : decode b_M_followers 1 = .ok (.istore_n 3, 1) := by decide +kernel
theorem d_M_followers_2 : decode b_M_followers 2 = .ok (.iconst 0, 1) := by decide +kernel
theorem d_M_followers_3 : decode b_M_followers 3 = .ok (.istore 4, 2) := by decide +kernel
theorem d_M_followers_5 : decode b_M_followers 5 = .ok (.aload_n 0, 1) := by decide +kernel
theorem d_M_followers_6 : decode b_M_followers 6 = .ok (.getfield 38, 3) := by decide +kernel
theorem d_M_followers_9 : decode b_M_followers 9 = .ok (.iload_n 2, 1) := by decide +kernel
theorem d_M_followers_10 : decode b_M_followers 10 = .ok (.iaload, 1) := by decide +kernel
theorem d_M_followers_11 : decode b_M_followers 11 = .ok (.istore 5, 2) := by decide +kernel
theorem d_M_followers_13 : decode b_M_followers 13 = .ok (.iload 5, 2) := by decide +kernel
theorem d_M_followers_15 : decode b_M_followers 15 = .ok (.aload_n 0, 1) := by decide +kernel
theorem d_M_followers_16 : decode b_M_followers 16 = .ok (.getfield 44, 3) := by decide +kernel
theorem d_M_followers_19 : decode b_M_followers 19 = .ok (.iload_n 2, 1) := by decide +kernel
theorem d_M_followers_20 : decode b_M_followers 20 = .ok (.iaload, 1) := by decide +kernel
theorem d_M_followers_21 : decode b_M_followers 21 = .ok (.if_icmp .ge 66, 3) := by decide +kernel
theorem d_M_followers_24 : decode b_M_followers 24 = .ok (.aload_n 0, 1) := by decide +kernel
theorem d_M_followers_25 : decode b_M_followers 25 = .ok (.getfield 41, 3) := by decide +kernel
theorem d_M_followers_28 : decode b_M_followers 28 = .ok (.iload_n 2, 1) := by decide +kernel
theorem d_M_followers_29 : decode b_M_followers 29 = .ok (.iaload, 1) := by decide +kernel
theorem d_M_followers_30 : decode b_M_followers 30 = .ok (.bipush 8, 2) := by decide +kernel
theorem d_M_followers_32 : decode b_M_followers 32 = .ok (.if_icmp .ge 27, 3) := by decide +kernel
theorem d_M_followers_35 : decode b_M_followers 35 = .ok (.aload_n 0, 1) := by decide +kernel
theorem d_M_followers_36 : decode b_M_followers 36 = .ok (.getfield 26, 3) := by decide +kernel
theorem d_M_followers_39 : decode b_M_followers 39 = .ok (.bipush 24, 2) := by decide +kernel
theorem d_M_followers_41 : decode b_M_followers 41 = .ok (.iload_n 1, 1) := by decide +kernel
theorem d_M_followers_42 : decode b_M_followers 42 = .ok (.imul, 1) := by decide +kernel
theorem d_M_followers_43 : decode b_M_followers 43 = .ok (.iload 5, 2) := by decide +kernel
theorem d_M_followers_45 : decode b_M_followers 45 = .ok (.iadd, 1) := by decide +kernel
theorem d_M_followers_46 : decode b_M_followers 46 = .ok (.laload, 1) := by decide +kernel
theorem d_M_followers_47 : decode b_M_followers 47 = .ok (.aload_n 0, 1) := by decide +kernel
theorem d_M_followers_48 : decode b_M_followers 48 = .ok (.getfield 41, 3) := by decide +kernel
