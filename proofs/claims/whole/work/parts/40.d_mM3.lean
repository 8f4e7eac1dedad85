theorem d_M_turn_0 : decode b_M_turn 0 = .ok (.aload_n 0, 1) := by decide +kernel
theorem d_M_turn_1 : decode b_M_turn 1 = .ok (.iconst 0, 1) := by decide +kernel
theorem d_M_turn_2 : decode b_M_turn 2 = .ok (.putfield 55, 3) := by decide +kernel
theorem d_M_turn_5 : decode b_M_turn 5 = .ok (.aload_n 0, 1) := by decide +kernel
theorem d_M_turn_6 : decode b_M_turn 6 = .ok (.iload_n 1, 1) := by decide +kernel
theorem d_M_turn_7 : decode b_M_turn 7 = .ok (.invokevirtual 86, 3) := by decide +kernel
theorem d_M_turn_10 : decode b_M_turn 10 = .ok (.ifCond .eq 22, 3) := by decide +kernel
theorem d_M_turn_13 : decode b_M_turn 13 = .ok (.aload_n 0, 1) := by decide +kernel
theorem d_M_turn_14 : decode b_M_turn 14 = .ok (.iload_n 2, 1) := by decide +kernel
theorem d_M_turn_15 : decode b_M_turn 15 = .ok (.invokevirtual 113, 3) := by decide +kernel
theorem d_M_turn_18 : decode b_M_turn 18 = .ok (.ifCond .eq 14, 3) := by decide +kernel
theorem d_M_turn_21 : decode b_M_turn 21 = .ok (.iload_n 3, 1) := by decide +kernel
theorem d_M_turn_22 : decode b_M_turn 22 = .ok (.iconst 1, 1) := by decide +kernel
theorem d_M_turn_23 : decode b_M_turn 23 = .ok (.if_icmp .lt 9, 3) := by decide +kernel
theorem d_M_turn_26 : decode b_M_turn 26 = .ok (.iload_n 3, 1) := by decide +kernel
theorem d_M_turn_27 : decode b_M_turn 27 = .ok (.bipush 12, 2) := by decide +kernel
theorem d_M_turn_29 : decode b_M_turn 29 = .ok (.if_icmp .le 5, 3) := by decide +kernel
theorem d_M_turn_32 : decode b_M_turn 32 = .ok (.iconst (-1), 1) := by decide +kernel
theorem d_M_turn_33 : decode b_M_turn 33 = .ok (.ireturn, 1) := by decide +kernel
theorem d_M_turn_34 : decode b_M_turn 34 = .ok (.aload_n 0, 1) := by decide +kernel
theorem d_M_turn_35 : decode b_M_turn 35 = .ok (.iload_n 1, 1) := by decide +kernel
theorem d_M_turn_36 : decode b_M_turn 36 = .ok (.iload_n 2, 1) := by decide +kernel
theorem d_M_turn_37 : decode b_M_turn 37 = .ok (.invokevirtual 147, 3) := by decide +kernel
theorem d_M_turn_40 : decode b_M_turn 40 = .ok (.istore 4, 2) := by decide +kernel
theorem d_M_turn_42 : decode b_M_turn 42 = .ok (.iload 4, 2) := by decide +kernel
theorem d_M_turn_44 : decode b_M_turn 44 = .ok (.ifCond .le 6, 3) := by decide +kernel
theorem d_M_turn_47 : decode b_M_turn 47 = .ok (.iload 4, 2) := by decide +kernel
theorem d_M_turn_49 : decode b_M_turn 49 = .ok (.ireturn, 1) := by decide +kernel
theorem d_M_turn_50 : decode b_M_turn 50 = .ok (.aload_n 0, 1) := by decide +kernel
theorem d_M_turn_51 : decode b_M_turn 51 = .ok (.iconst 0, 1) := by decide +kernel
theorem d_M_turn_52 : decode b_M_turn 52 = .ok (.iload_n 1, 1) := by decide +kernel
theorem d_M_turn_53 : decode b_M_turn 53 = .ok (.iload_n 2, 1) := by decide +kernel
theorem d_M_turn_54 : decode b_M_turn 54 = .ok (.invokevirtual 150, 3) := by decide +kernel
theorem d_M_turn_57 : decode b_M_turn 57 = .ok (.iconst 0, 1) := by decide +kernel
theorem d_M_turn_58 : decode b_M_turn 58 = .ok (.istore 5, 2) := by decide +kernel
theorem d_M_turn_60 : decode b_M_turn 60 = .ok (.iload 5, 2) := by decide +kernel
theorem d_M_turn_62 : decode b_M_turn 62 = .ok (.iload_n 3, 1) := by decide +kernel
theorem d_M_turn_63 : decode b_M_turn 63 = .ok (.if_icmp .ge 15, 3) := by decide +kernel
theorem d_M_turn_66 : decode b_M_turn 66 = .ok (.aload_n 0, 1) := by decide +kernel
theorem d_M_turn_67 : decode b_M_turn 67 = .ok (.iconst 0, 1) := by decide +kernel
theorem d_M_turn_68 : decode b_M_turn 68 = .ok (.iload_n 1, 1) := by decide +kernel
theorem d_M_turn_69 : decode b_M_turn 69 = .ok (.invokevirtual 154, 3) := by decide +kernel
theorem d_M_turn_72 : decode b_M_turn 72 = .ok (.iinc 5 1, 3) := by decide +kernel
theorem d_M_turn_75 : decode b_M_turn 75 = .ok (.goto (-15), 3) := by decide +kernel
theorem d_M_turn_78 : decode b_M_turn 78 = .ok (.iconst 0, 1) := by decide +kernel
theorem d_M_turn_79 : decode b_M_turn 79 = .ok (.ireturn, 1) := by decide +kernel
theorem d_M_rounds_0 : decode b_M_rounds 0 = .ok (.aload_n 0, 1) := by decide +kernel
theorem d_M_rounds_1 : decode b_M_rounds 1 = .ok (.iconst 0, 1) := by decide +kernel
theorem d_M_rounds_2 : decode b_M_rounds 2 = .ok (.putfield 55, 3) := by decide +kernel
theorem d_M_rounds_5 : decode b_M_rounds 5 = .ok (.iload_n 1, 1) := by decide +kernel
theorem d_M_rounds_6 : decode b_M_rounds 6 = .ok (.iconst 1, 1) := by decide +kernel
theorem d_M_rounds_7 : decode b_M_rounds 7 = .ok (.if_icmp .lt 25, 3) := by decide +kernel
theorem d_M_rounds_10 : decode b_M_rounds 10 = .ok (.iload_n 1, 1) := by decide +kernel
theorem d_M_rounds_11 : decode b_M_rounds 11 = .ok (.bipush 13, 2) := by decide +kernel
theorem d_M_rounds_13 : decode b_M_rounds 13 = .ok (.if_icmp .gt 19, 3) := by decide +kernel
theorem d_M_rounds_16 : decode b_M_rounds 16 = .ok (.iload_n 1, 1) := by decide +kernel
theorem d_M_rounds_17 : decode b_M_rounds 17 = .ok (.aload_n 0, 1) := by decide +kernel
theorem d_M_rounds_18 : decode b_M_rounds 18 = .ok (.getfield 65, 3) := by decide +kernel
theorem d_M_rounds_21 : decode b_M_rounds 21 = .ok (.if_icmp .gt 11, 3) := by decide +kernel
theorem d_M_rounds_24 : decode b_M_rounds 24 = .ok (.iload_n 1, 1) := by decide +kernel
theorem d_M_rounds_25 : decode b_M_rounds 25 = .ok (.aload_n 0, 1) := by decide +kernel
theorem d_M_rounds_26 : decode b_M_rounds 26 = .ok (.getfield 62, 3) := by decide +kernel
theorem d_M_rounds_29 : decode b_M_rounds 29 = .ok (.if_icmp .le 5, 3) := by decide +kernel
theorem d_M_rounds_32 : decode b_M_rounds 32 = .ok (.iconst 0, 1) := by decide +kernel
theorem d_M_rounds_33 : decode b_M_rounds 33 = .ok (.ireturn, 1) := by decide +kernel
theorem d_M_rounds_34 : decode b_M_rounds 34 = .ok (.iconst 0, 1) := by decide +kernel
theorem d_M_rounds_35 : decode b_M_rounds 35 = .ok (.istore_n 2, 1) := by decide +kernel
theorem d_M_rounds_36 : decode b_M_rounds 36 = .ok (.iload_n 2, 1) := by decide +kernel
theorem d_M_rounds_37 : decode b_M_rounds 37 = .ok (.iload_n 1, 1) := by decide +kernel
theorem d_M_rounds_38 : decode b_M_rounds 38 = .ok (.if_icmp .ge 20, 3) := by decide +kernel
theorem d_M_rounds_41 : decode b_M_rounds 41 = .ok (.aload_n 0, 1) := by decide +kernel
theorem d_M_rounds_42 : decode b_M_rounds 42 = .ok (.iload_n 2, 1) := by decide +kernel
theorem d_M_rounds_43 : decode b_M_rounds 43 = .ok (.iload_n 2, 1) := by decide +kernel
theorem d_M_rounds_44 : decode b_M_rounds 44 = .ok (.invokevirtual 147, 3) := by decide +kernel
theorem d_M_rounds_47 : decode b_M_rounds 47 = .ok (.ifCond .le 5, 3) := by decide +kernel
theorem d_M_rounds_50 : decode b_M_rounds 50 = .ok (.iconst 0, 1) := by decide +kernel
theorem d_M_rounds_51 : decode b_M_rounds 51 = .ok (.ireturn, 1) := by decide +kernel
theorem d_M_rounds_52 : decode b_M_rounds 52 = .ok (.iinc 2 1, 3) := by decide +kernel
theorem d_M_rounds_55 : decode b_M_rounds 55 = .ok (.goto (-19), 3) := by decide +kernel
theorem d_M_rounds_58 : decode b_M_rounds 58 = .ok (.iconst 0, 1) := by decide +kernel
theorem d_M_rounds_59 : decode b_M_rounds 59 = .ok (.istore_n 2, 1) := by decide +kernel
theorem d_M_rounds_60 : decode b_M_rounds 60 = .ok (.iload_n 2, 1) := by decide +kernel
theorem d_M_rounds_61 : decode b_M_rounds 61 = .ok (.iload_n 1, 1) := by decide +kernel
theorem d_M_rounds_62 : decode b_M_rounds 62 = .ok (.if_icmp .ge 16, 3) := by decide +kernel
theorem d_M_rounds_65 : decode b_M_rounds 65 = .ok (.aload_n 0, 1) := by decide +kernel
theorem d_M_rounds_66 : decode b_M_rounds 66 = .ok (.iload_n 2, 1) := by decide +kernel
theorem d_M_rounds_67 : decode b_M_rounds 67 = .ok (.iload_n 2, 1) := by decide +kernel
theorem d_M_rounds_68 : decode b_M_rounds 68 = .ok (.iload_n 2, 1) := by decide +kernel
theorem d_M_rounds_69 : decode b_M_rounds 69 = .ok (.invokevirtual 150, 3) := by decide +kernel
theorem d_M_rounds_72 : decode b_M_rounds 72 = .ok (.iinc 2 1, 3) := by decide +kernel
theorem d_M_rounds_75 : decode b_M_rounds 75 = .ok (.goto (-15), 3) := by decide +kernel
theorem d_M_rounds_78 : decode b_M_rounds 78 = .ok (.iconst 0, 1) := by decide +kernel
theorem d_M_rounds_79 : decode b_M_rounds 79 = .ok (.istore_n 2, 1) := by decide +kernel
theorem d_M_rounds_80 : decode b_M_rounds 80 = .ok (.iload_n 2, 1) := by decide +kernel
theorem d_M_rounds_81 : decode b_M_rounds 81 = .ok (.aload_n 0, 1) := by decide +kernel
theorem d_M_rounds_82 : decode b_M_rounds 82 = .ok (.getfield 59, 3) := by decide +kernel
theorem d_M_rounds_85 : decode b_M_rounds 85 = .ok (.if_icmp .ge 33, 3) := by decide +kernel
theorem d_M_rounds_88 : decode b_M_rounds 88 = .ok (.aload_n 0, 1) := by decide +kernel
theorem d_M_rounds_89 : decode b_M_rounds 89 = .ok (.getfield 46, 3) := by decide +kernel
theorem d_M_rounds_92 : decode b_M_rounds 92 = .ok (.iload_n 2, 1) := by decide +kernel
theorem d_M_rounds_93 : decode b_M_rounds 93 = .ok (.aload_n 0, 1) := by decide +kernel
theorem d_M_rounds_94 : decode b_M_rounds 94 = .ok (.getfield 25, 3) := by decide +kernel
theorem d_M_rounds_97 : decode b_M_rounds 97 = .ok (.iload_n 2, 1) := by decide +kernel
theorem d_M_rounds_98 : decode b_M_rounds 98 = .ok (.iaload, 1) := by decide +kernel
theorem d_M_rounds_99 : decode b_M_rounds 99 = .ok (.iastore, 1) := by decide +kernel
theorem d_M_rounds_100 : decode b_M_rounds 100 = .ok (.aload_n 0, 1) := by decide +kernel
theorem d_M_rounds_101 : decode b_M_rounds 101 = .ok (.getfield 49, 3) := by decide +kernel
theorem d_M_rounds_104 : decode b_M_rounds 104 = .ok (.iload_n 2, 1) := by decide +kernel
theorem d_M_rounds_105 : decode b_M_rounds 105 = .ok (.aload_n 0, 1) := by decide +kernel
theorem d_M_rounds_106 : decode b_M_rounds 106 = .ok (.getfield 28, 3) := by decide +kernel
theorem d_M_rounds_109 : decode b_M_rounds 109 = .ok (.iload_n 2, 1) := by decide +kernel
theorem d_M_rounds_110 : decode b_M_rounds 110 = .ok (.iaload, 1) := by decide +kernel
theorem d_M_rounds_111 : decode b_M_rounds 111 = .ok (.iastore, 1) := by decide +kernel
theorem d_M_rounds_112 : decode b_M_rounds 112 = .ok (.iinc 2 1, 3) := by decide +kernel
theorem d_M_rounds_115 : decode b_M_rounds 115 = .ok (.goto (-35), 3) := by decide +kernel
theorem d_M_rounds_118 : decode b_M_rounds 118 = .ok (.iconst 0, 1) := by decide +kernel
theorem d_M_rounds_119 : decode b_M_rounds 119 = .ok (.istore_n 2, 1) := by decide +kernel
theorem d_M_rounds_120 : decode b_M_rounds 120 = .ok (.iconst 0, 1) := by decide +kernel
theorem d_M_rounds_121 : decode b_M_rounds 121 = .ok (.istore_n 3, 1) := by decide +kernel
theorem d_M_rounds_122 : decode b_M_rounds 122 = .ok (.iload_n 3, 1) := by decide +kernel
theorem d_M_rounds_123 : decode b_M_rounds 123 = .ok (.ifCond .ne 44, 3) := by decide +kernel
theorem d_M_rounds_126 : decode b_M_rounds 126 = .ok (.iload_n 2, 1) := by decide +kernel
theorem d_M_rounds_127 : decode b_M_rounds 127 = .ok (.sipush 2000, 3) := by decide +kernel
theorem d_M_rounds_130 : decode b_M_rounds 130 = .ok (.if_icmp .ge 37, 3) := by decide +kernel
theorem d_M_rounds_133 : decode b_M_rounds 133 = .ok (.iconst 0, 1) := by decide +kernel
theorem d_M_rounds_134 : decode b_M_rounds 134 = .ok (.istore 4, 2) := by decide +kernel
theorem d_M_rounds_136 : decode b_M_rounds 136 = .ok (.iload 4, 2) := by decide +kernel
theorem d_M_rounds_138 : decode b_M_rounds 138 = .ok (.iload_n 1, 1) := by decide +kernel
theorem d_M_rounds_139 : decode b_M_rounds 139 = .ok (.if_icmp .ge 17, 3) := by decide +kernel
theorem d_M_rounds_142 : decode b_M_rounds 142 = .ok (.aload_n 0, 1) := by decide +kernel
theorem d_M_rounds_143 : decode b_M_rounds 143 = .ok (.iload 4, 2) := by decide +kernel
theorem d_M_rounds_145 : decode b_M_rounds 145 = .ok (.iload 4, 2) := by decide +kernel
theorem d_M_rounds_147 : decode b_M_rounds 147 = .ok (.invokevirtual 154, 3) := by decide +kernel
theorem d_M_rounds_150 : decode b_M_rounds 150 = .ok (.iinc 4 1, 3) := by decide +kernel
theorem d_M_rounds_153 : decode b_M_rounds 153 = .ok (.goto (-17), 3) := by decide +kernel
theorem d_M_rounds_156 : decode b_M_rounds 156 = .ok (.iinc 2 1, 3) := by decide +kernel
theorem d_M_rounds_159 : decode b_M_rounds 159 = .ok (.aload_n 0, 1) := by decide +kernel
theorem d_M_rounds_160 : decode b_M_rounds 160 = .ok (.invokevirtual 165, 3) := by decide +kernel
theorem d_M_rounds_163 : decode b_M_rounds 163 = .ok (.istore_n 3, 1) := by decide +kernel
theorem d_M_rounds_164 : decode b_M_rounds 164 = .ok (.goto (-42), 3) := by decide +kernel
theorem d_M_rounds_167 : decode b_M_rounds 167 = .ok (.iconst 0, 1) := by decide +kernel
theorem d_M_rounds_168 : decode b_M_rounds 168 = .ok (.istore 4, 2) := by decide +kernel
theorem d_M_rounds_170 : decode b_M_rounds 170 = .ok (.iload 4, 2) := by decide +kernel
theorem d_M_rounds_172 : decode b_M_rounds 172 = .ok (.aload_n 0, 1) := by decide +kernel
theorem d_M_rounds_173 : decode b_M_rounds 173 = .ok (.getfield 59, 3) := by decide +kernel
theorem d_M_rounds_176 : decode b_M_rounds 176 = .ok (.if_icmp .ge 37, 3) := by decide +kernel
theorem d_M_rounds_179 : decode b_M_rounds 179 = .ok (.aload_n 0, 1) := by decide +kernel
theorem d_M_rounds_180 : decode b_M_rounds 180 = .ok (.getfield 25, 3) := by decide +kernel
theorem d_M_rounds_183 : decode b_M_rounds 183 = .ok (.iload 4, 2) := by decide +kernel
theorem d_M_rounds_185 : decode b_M_rounds 185 = .ok (.aload_n 0, 1) := by decide +kernel
theorem d_M_rounds_186 : decode b_M_rounds 186 = .ok (.getfield 46, 3) := by decide +kernel
theorem d_M_rounds_189 : decode b_M_rounds 189 = .ok (.iload 4, 2) := by decide +kernel
theorem d_M_rounds_191 : decode b_M_rounds 191 = .ok (.iaload, 1) := by decide +kernel
theorem d_M_rounds_192 : decode b_M_rounds 192 = .ok (.iastore, 1) := by decide +kernel
theorem d_M_rounds_193 : decode b_M_rounds 193 = .ok (.aload_n 0, 1) := by decide +kernel
theorem d_M_rounds_194 : decode b_M_rounds 194 = .ok (.getfield 28, 3) := by decide +kernel
theorem d_M_rounds_197 : decode b_M_rounds 197 = .ok (.iload 4, 2) := by decide +kernel
theorem d_M_rounds_199 : decode b_M_rounds 199 = .ok (.aload_n 0, 1) := by decide +kernel
theorem d_M_rounds_200 : decode b_M_rounds 200 = .ok (.getfield 49, 3) := by decide +kernel
theorem d_M_rounds_203 : decode b_M_rounds 203 = .ok (.iload 4, 2) := by decide +kernel
theorem d_M_rounds_205 : decode b_M_rounds 205 = .ok (.iaload, 1) := by decide +kernel
theorem d_M_rounds_206 : decode b_M_rounds 206 = .ok (.iastore, 1) := by decide +kernel
theorem d_M_rounds_207 : decode b_M_rounds 207 = .ok (.iinc 4 1, 3) := by decide +kernel
theorem d_M_rounds_210 : decode b_M_rounds 210 = .ok (.goto (-40), 3) := by decide +kernel
theorem d_M_rounds_213 : decode b_M_rounds 213 = .ok (.iload_n 3, 1) := by decide +kernel
theorem d_M_rounds_214 : decode b_M_rounds 214 = .ok (.ifCond .eq 7, 3) := by decide +kernel
theorem d_M_rounds_217 : decode b_M_rounds 217 = .ok (.iload_n 2, 1) := by decide +kernel
theorem d_M_rounds_218 : decode b_M_rounds 218 = .ok (.goto 4, 3) := by decide +kernel
theorem d_M_rounds_221 : decode b_M_rounds 221 = .ok (.iconst (-1), 1) := by decide +kernel
theorem d_M_rounds_222 : decode b_M_rounds 222 = .ok (.ireturn, 1) := by decide +kernel
theorem d_M_keep_0 : decode b_M_keep 0 = .ok (.aload_n 0, 1) := by decide +kernel
theorem d_M_keep_1 : decode b_M_keep 1 = .ok (.iconst 0, 1) := by decide +kernel
theorem d_M_keep_2 : decode b_M_keep 2 = .ok (.putfield 55, 3) := by decide +kernel
theorem d_M_keep_5 : decode b_M_keep 5 = .ok (.aload_n 0, 1) := by decide +kernel
theorem d_M_keep_6 : decode b_M_keep 6 = .ok (.getfield 169, 3) := by decide +kernel
theorem d_M_keep_9 : decode b_M_keep 9 = .ok (.bipush 10, 2) := by decide +kernel
theorem d_M_keep_11 : decode b_M_keep 11 = .ok (.if_icmp .ne 5, 3) := by decide +kernel
theorem d_M_keep_14 : decode b_M_keep 14 = .ok (.iconst (-1), 1) := by decide +kernel
theorem d_M_keep_15 : decode b_M_keep 15 = .ok (.ireturn, 1) := by decide +kernel
theorem d_M_keep_16 : decode b_M_keep 16 = .ok (.iconst 0, 1) := by decide +kernel
theorem d_M_keep_17 : decode b_M_keep 17 = .ok (.istore_n 1, 1) := by decide +kernel
theorem d_M_keep_18 : decode b_M_keep 18 = .ok (.iload_n 1, 1) := by decide +kernel
theorem d_M_keep_19 : decode b_M_keep 19 = .ok (.aload_n 0, 1) := by decide +kernel
theorem d_M_keep_20 : decode b_M_keep 20 = .ok (.getfield 59, 3) := by decide +kernel
theorem d_M_keep_23 : decode b_M_keep 23 = .ok (.if_icmp .ge 49, 3) := by decide +kernel
theorem d_M_keep_26 : decode b_M_keep 26 = .ok (.aload_n 0, 1) := by decide +kernel
theorem d_M_keep_27 : decode b_M_keep 27 = .ok (.getfield 31, 3) := by decide +kernel
theorem d_M_keep_30 : decode b_M_keep 30 = .ok (.bipush 60, 2) := by decide +kernel
theorem d_M_keep_32 : decode b_M_keep 32 = .ok (.aload_n 0, 1) := by decide +kernel
theorem d_M_keep_33 : decode b_M_keep 33 = .ok (.getfield 169, 3) := by decide +kernel
theorem d_M_keep_36 : decode b_M_keep 36 = .ok (.imul, 1) := by decide +kernel
theorem d_M_keep_37 : decode b_M_keep 37 = .ok (.iload_n 1, 1) := by decide +kernel
theorem d_M_keep_38 : decode b_M_keep 38 = .ok (.iadd, 1) := by decide +kernel
theorem d_M_keep_39 : decode b_M_keep 39 = .ok (.aload_n 0, 1) := by decide +kernel
theorem d_M_keep_40 : decode b_M_keep 40 = .ok (.getfield 25, 3) := by decide +kernel
theorem d_M_keep_43 : decode b_M_keep 43 = .ok (.iload_n 1, 1) := by decide +kernel
theorem d_M_keep_44 : decode b_M_keep 44 = .ok (.iaload, 1) := by decide +kernel
theorem d_M_keep_45 : decode b_M_keep 45 = .ok (.iastore, 1) := by decide +kernel
theorem d_M_keep_46 : decode b_M_keep 46 = .ok (.aload_n 0, 1) := by decide +kernel
theorem d_M_keep_47 : decode b_M_keep 47 = .ok (.getfield 34, 3) := by decide +kernel
theorem d_M_keep_50 : decode b_M_keep 50 = .ok (.bipush 60, 2) := by decide +kernel
theorem d_M_keep_52 : decode b_M_keep 52 = .ok (.aload_n 0, 1) := by decide +kernel
theorem d_M_keep_53 : decode b_M_keep 53 = .ok (.getfield 169, 3) := by decide +kernel
theorem d_M_keep_56 : decode b_M_keep 56 = .ok (.imul, 1) := by decide +kernel
theorem d_M_keep_57 : decode b_M_keep 57 = .ok (.iload_n 1, 1) := by decide +kernel
theorem d_M_keep_58 : decode b_M_keep 58 = .ok (.iadd, 1) := by decide +kernel
theorem d_M_keep_59 : decode b_M_keep 59 = .ok (.aload_n 0, 1) := by decide +kernel
theorem d_M_keep_60 : decode b_M_keep 60 = .ok (.getfield 28, 3) := by decide +kernel
theorem d_M_keep_63 : decode b_M_keep 63 = .ok (.iload_n 1, 1) := by decide +kernel
theorem d_M_keep_64 : decode b_M_keep 64 = .ok (.iaload, 1) := by decide +kernel
theorem d_M_keep_65 : decode b_M_keep 65 = .ok (.iastore, 1) := by decide +kernel
theorem d_M_keep_66 : decode b_M_keep 66 = .ok (.iinc 1 1, 3) := by decide +kernel
theorem d_M_keep_69 : decode b_M_keep 69 = .ok (.goto (-51), 3) := by decide +kernel
theorem d_M_keep_72 : decode b_M_keep 72 = .ok (.aload_n 0, 1) := by decide +kernel
theorem d_M_keep_73 : decode b_M_keep 73 = .ok (.getfield 37, 3) := by decide +kernel
theorem d_M_keep_76 : decode b_M_keep 76 = .ok (.aload_n 0, 1) := by decide +kernel
theorem d_M_keep_77 : decode b_M_keep 77 = .ok (.getfield 169, 3) := by decide +kernel
theorem d_M_keep_80 : decode b_M_keep 80 = .ok (.aload_n 0, 1) := by decide +kernel
theorem d_M_keep_81 : decode b_M_keep 81 = .ok (.getfield 59, 3) := by decide +kernel
theorem d_M_keep_84 : decode b_M_keep 84 = .ok (.iastore, 1) := by decide +kernel
theorem d_M_keep_85 : decode b_M_keep 85 = .ok (.aload_n 0, 1) := by decide +kernel
theorem d_M_keep_86 : decode b_M_keep 86 = .ok (.dup, 1) := by decide +kernel
theorem d_M_keep_87 : decode b_M_keep 87 = .ok (.getfield 169, 3) := by decide +kernel
theorem d_M_keep_90 : decode b_M_keep 90 = .ok (.iconst 1, 1) := by decide +kernel
theorem d_M_keep_91 : decode b_M_keep 91 = .ok (.iadd, 1) := by decide +kernel
theorem d_M_keep_92 : decode b_M_keep 92 = .ok (.putfield 169, 3) := by decide +kernel
theorem d_M_keep_95 : decode b_M_keep 95 = .ok (.aload_n 0, 1) := by decide +kernel
theorem d_M_keep_96 : decode b_M_keep 96 = .ok (.getfield 169, 3) := by decide +kernel
theorem d_M_keep_99 : decode b_M_keep 99 = .ok (.iconst 1, 1) := by decide +kernel
theorem d_M_keep_100 : decode b_M_keep 100 = .ok (.isub, 1) := by decide +kernel
theorem d_M_keep_101 : decode b_M_keep 101 = .ok (.ireturn, 1) := by decide +kernel
theorem d_M_back_0 : decode b_M_back 0 = .ok (.aload_n 0, 1) := by decide +kernel
theorem d_M_back_1 : decode b_M_back 1 = .ok (.iconst 0, 1) := by decide +kernel
theorem d_M_back_2 : decode b_M_back 2 = .ok (.putfield 55, 3) := by decide +kernel
theorem d_M_back_5 : decode b_M_back 5 = .ok (.iload_n 1, 1) := by decide +kernel
theorem d_M_back_6 : decode b_M_back 6 = .ok (.ifCond .lt 24, 3) := by decide +kernel
theorem d_M_back_9 : decode b_M_back 9 = .ok (.iload_n 1, 1) := by decide +kernel
theorem d_M_back_10 : decode b_M_back 10 = .ok (.aload_n 0, 1) := by decide +kernel
theorem d_M_back_11 : decode b_M_back 11 = .ok (.getfield 169, 3) := by decide +kernel
theorem d_M_back_14 : decode b_M_back 14 = .ok (.if_icmp .ge 16, 3) := by decide +kernel
theorem d_M_back_17 : decode b_M_back 17 = .ok (.aload_n 0, 1) := by decide +kernel
theorem d_M_back_18 : decode b_M_back 18 = .ok (.getfield 37, 3) := by decide +kernel
theorem d_M_back_21 : decode b_M_back 21 = .ok (.iload_n 1, 1) := by decide +kernel
theorem d_M_back_22 : decode b_M_back 22 = .ok (.iaload, 1) := by decide +kernel
theorem d_M_back_23 : decode b_M_back 23 = .ok (.aload_n 0, 1) := by decide +kernel
theorem d_M_back_24 : decode b_M_back 24 = .ok (.getfield 59, 3) := by decide +kernel
theorem d_M_back_27 : decode b_M_back 27 = .ok (.if_icmp .eq 5, 3) := by decide +kernel
theorem d_M_back_30 : decode b_M_back 30 = .ok (.iconst 0, 1) := by decide +kernel
theorem d_M_back_31 : decode b_M_back 31 = .ok (.ireturn, 1) := by decide +kernel
theorem d_M_back_32 : decode b_M_back 32 = .ok (.iconst 0, 1) := by decide +kernel
theorem d_M_back_33 : decode b_M_back 33 = .ok (.istore_n 2, 1) := by decide +kernel
theorem d_M_back_34 : decode b_M_back 34 = .ok (.iload_n 2, 1) := by decide +kernel
theorem d_M_back_35 : decode b_M_back 35 = .ok (.aload_n 0, 1) := by decide +kernel
theorem d_M_back_36 : decode b_M_back 36 = .ok (.getfield 59, 3) := by decide +kernel
theorem d_M_back_39 : decode b_M_back 39 = .ok (.if_icmp .ge 43, 3) := by decide +kernel
theorem d_M_back_42 : decode b_M_back 42 = .ok (.aload_n 0, 1) := by decide +kernel
theorem d_M_back_43 : decode b_M_back 43 = .ok (.getfield 25, 3) := by decide +kernel
theorem d_M_back_46 : decode b_M_back 46 = .ok (.iload_n 2, 1) := by decide +kernel
theorem d_M_back_47 : decode b_M_back 47 = .ok (.aload_n 0, 1) := by decide +kernel
theorem d_M_back_48 : decode b_M_back 48 = .ok (.getfield 31, 3) := by decide +kernel
theorem d_M_back_51 : decode b_M_back 51 = .ok (.bipush 60, 2) := by decide +kernel
theorem d_M_back_53 : decode b_M_back 53 = .ok (.iload_n 1, 1) := by decide +kernel
theorem d_M_back_54 : decode b_M_back 54 = .ok (.imul, 1) := by decide +kernel
theorem d_M_back_55 : decode b_M_back 55 = .ok (.iload_n 2, 1) := by decide +kernel
theorem d_M_back_56 : decode b_M_back 56 = .ok (.iadd, 1) := by decide +kernel
theorem d_M_back_57 : decode b_M_back 57 = .ok (.iaload, 1) := by decide +kernel
theorem d_M_back_58 : decode b_M_back 58 = .ok (.iastore, 1) := by decide +kernel
theorem d_M_back_59 : decode b_M_back 59 = .ok (.aload_n 0, 1) := by decide +kernel
theorem d_M_back_60 : decode b_M_back 60 = .ok (.getfield 28, 3) := by decide +kernel
theorem d_M_back_63 : decode b_M_back 63 = .ok (.iload_n 2, 1) := by decide +kernel
theorem d_M_back_64 : decode b_M_back 64 = .ok (.aload_n 0, 1) := by decide +kernel
theorem d_M_back_65 : decode b_M_back 65 = .ok (.getfield 34, 3) := by decide +kernel
theorem d_M_back_68 : decode b_M_back 68 = .ok (.bipush 60, 2) := by decide +kernel
theorem d_M_back_70 : decode b_M_back 70 = .ok (.iload_n 1, 1) := by decide +kernel
theorem d_M_back_71 : decode b_M_back 71 = .ok (.imul, 1) := by decide +kernel
theorem d_M_back_72 : decode b_M_back 72 = .ok (.iload_n 2, 1) := by decide +kernel
theorem d_M_back_73 : decode b_M_back 73 = .ok (.iadd, 1) := by decide +kernel
theorem d_M_back_74 : decode b_M_back 74 = .ok (.iaload, 1) := by decide +kernel
theorem d_M_back_75 : decode b_M_back 75 = .ok (.iastore, 1) := by decide +kernel
theorem d_M_back_76 : decode b_M_back 76 = .ok (.iinc 2 1, 3) := by decide +kernel
theorem d_M_back_79 : decode b_M_back 79 = .ok (.goto (-45), 3) := by decide +kernel
theorem d_M_back_82 : decode b_M_back 82 = .ok (.iconst 1, 1) := by decide +kernel
theorem d_M_back_83 : decode b_M_back 83 = .ok (.ireturn, 1) := by decide +kernel
