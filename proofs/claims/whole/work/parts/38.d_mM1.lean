theorem d_M_own_0 : decode b_M_own 0 = .ok (.iconst 0, 1) := by decide +kernel
theorem d_M_own_1 : decode b_M_own 1 = .ok (.istore_n 1, 1) := by decide +kernel
theorem d_M_own_2 : decode b_M_own 2 = .ok (.iload_n 1, 1) := by decide +kernel
theorem d_M_own_3 : decode b_M_own 3 = .ok (.aload_n 0, 1) := by decide +kernel
theorem d_M_own_4 : decode b_M_own 4 = .ok (.getfield 59, 3) := by decide +kernel
theorem d_M_own_7 : decode b_M_own 7 = .ok (.if_icmp .ge 23, 3) := by decide +kernel
theorem d_M_own_10 : decode b_M_own 10 = .ok (.aload_n 0, 1) := by decide +kernel
theorem d_M_own_11 : decode b_M_own 11 = .ok (.getfield 25, 3) := by decide +kernel
theorem d_M_own_14 : decode b_M_own 14 = .ok (.iload_n 1, 1) := by decide +kernel
theorem d_M_own_15 : decode b_M_own 15 = .ok (.iload_n 1, 1) := by decide +kernel
theorem d_M_own_16 : decode b_M_own 16 = .ok (.iastore, 1) := by decide +kernel
theorem d_M_own_17 : decode b_M_own 17 = .ok (.aload_n 0, 1) := by decide +kernel
theorem d_M_own_18 : decode b_M_own 18 = .ok (.getfield 28, 3) := by decide +kernel
theorem d_M_own_21 : decode b_M_own 21 = .ok (.iload_n 1, 1) := by decide +kernel
theorem d_M_own_22 : decode b_M_own 22 = .ok (.iconst 0, 1) := by decide +kernel
theorem d_M_own_23 : decode b_M_own 23 = .ok (.iastore, 1) := by decide +kernel
theorem d_M_own_24 : decode b_M_own 24 = .ok (.iinc 1 1, 3) := by decide +kernel
theorem d_M_own_27 : decode b_M_own 27 = .ok (.goto (-25), 3) := by decide +kernel
theorem d_M_own_30 : decode b_M_own 30 = .ok (.return_, 1) := by decide +kernel
theorem d_M_add_0 : decode b_M_add 0 = .ok (.aload_n 0, 1) := by decide +kernel
theorem d_M_add_1 : decode b_M_add 1 = .ok (.iload_n 1, 1) := by decide +kernel
theorem d_M_add_2 : decode b_M_add 2 = .ok (.iload_n 2, 1) := by decide +kernel
theorem d_M_add_3 : decode b_M_add 3 = .ok (.iload_n 3, 1) := by decide +kernel
theorem d_M_add_4 : decode b_M_add 4 = .ok (.invokevirtual 68, 3) := by decide +kernel
theorem d_M_add_7 : decode b_M_add 7 = .ok (.ifCond .ge 12, 3) := by decide +kernel
theorem d_M_add_10 : decode b_M_add 10 = .ok (.aload_n 0, 1) := by decide +kernel
theorem d_M_add_11 : decode b_M_add 11 = .ok (.getfield 59, 3) := by decide +kernel
theorem d_M_add_14 : decode b_M_add 14 = .ok (.bipush 60, 2) := by decide +kernel
theorem d_M_add_16 : decode b_M_add 16 = .ok (.if_icmp .ne 5, 3) := by decide +kernel
theorem d_M_add_19 : decode b_M_add 19 = .ok (.iconst 0, 1) := by decide +kernel
theorem d_M_add_20 : decode b_M_add 20 = .ok (.ireturn, 1) := by decide +kernel
theorem d_M_add_21 : decode b_M_add 21 = .ok (.aload_n 0, 1) := by decide +kernel
theorem d_M_add_22 : decode b_M_add 22 = .ok (.getfield 7, 3) := by decide +kernel
theorem d_M_add_25 : decode b_M_add 25 = .ok (.aload_n 0, 1) := by decide +kernel
theorem d_M_add_26 : decode b_M_add 26 = .ok (.getfield 59, 3) := by decide +kernel
theorem d_M_add_29 : decode b_M_add 29 = .ok (.iload_n 1, 1) := by decide +kernel
theorem d_M_add_30 : decode b_M_add 30 = .ok (.iastore, 1) := by decide +kernel
theorem d_M_add_31 : decode b_M_add 31 = .ok (.aload_n 0, 1) := by decide +kernel
theorem d_M_add_32 : decode b_M_add 32 = .ok (.getfield 13, 3) := by decide +kernel
theorem d_M_add_35 : decode b_M_add 35 = .ok (.aload_n 0, 1) := by decide +kernel
theorem d_M_add_36 : decode b_M_add 36 = .ok (.getfield 59, 3) := by decide +kernel
theorem d_M_add_39 : decode b_M_add 39 = .ok (.iload_n 2, 1) := by decide +kernel
theorem d_M_add_40 : decode b_M_add 40 = .ok (.iastore, 1) := by decide +kernel
theorem d_M_add_41 : decode b_M_add 41 = .ok (.aload_n 0, 1) := by decide +kernel
theorem d_M_add_42 : decode b_M_add 42 = .ok (.getfield 16, 3) := by decide +kernel
theorem d_M_add_45 : decode b_M_add 45 = .ok (.aload_n 0, 1) := by decide +kernel
theorem d_M_add_46 : decode b_M_add 46 = .ok (.getfield 59, 3) := by decide +kernel
theorem d_M_add_49 : decode b_M_add 49 = .ok (.iload_n 3, 1) := by decide +kernel
theorem d_M_add_50 : decode b_M_add 50 = .ok (.iastore, 1) := by decide +kernel
theorem d_M_add_51 : decode b_M_add 51 = .ok (.aload_n 0, 1) := by decide +kernel
theorem d_M_add_52 : decode b_M_add 52 = .ok (.dup, 1) := by decide +kernel
theorem d_M_add_53 : decode b_M_add 53 = .ok (.getfield 59, 3) := by decide +kernel
theorem d_M_add_56 : decode b_M_add 56 = .ok (.iconst 1, 1) := by decide +kernel
theorem d_M_add_57 : decode b_M_add 57 = .ok (.iadd, 1) := by decide +kernel
theorem d_M_add_58 : decode b_M_add 58 = .ok (.putfield 59, 3) := by decide +kernel
theorem d_M_add_61 : decode b_M_add 61 = .ok (.iconst 1, 1) := by decide +kernel
theorem d_M_add_62 : decode b_M_add 62 = .ok (.ireturn, 1) := by decide +kernel
theorem d_M_step_0 : decode b_M_step 0 = .ok (.aload_n 0, 1) := by decide +kernel
theorem d_M_step_1 : decode b_M_step 1 = .ok (.getfield 22, 3) := by decide +kernel
theorem d_M_step_4 : decode b_M_step 4 = .ok (.iconst 3, 1) := by decide +kernel
theorem d_M_step_5 : decode b_M_step 5 = .ok (.iload_n 1, 1) := by decide +kernel
theorem d_M_step_6 : decode b_M_step 6 = .ok (.imul, 1) := by decide +kernel
theorem d_M_step_7 : decode b_M_step 7 = .ok (.iaload, 1) := by decide +kernel
theorem d_M_step_8 : decode b_M_step 8 = .ok (.istore 5, 2) := by decide +kernel
theorem d_M_step_10 : decode b_M_step 10 = .ok (.aload_n 0, 1) := by decide +kernel
theorem d_M_step_11 : decode b_M_step 11 = .ok (.getfield 22, 3) := by decide +kernel
theorem d_M_step_14 : decode b_M_step 14 = .ok (.iconst 3, 1) := by decide +kernel
theorem d_M_step_15 : decode b_M_step 15 = .ok (.iload_n 1, 1) := by decide +kernel
theorem d_M_step_16 : decode b_M_step 16 = .ok (.imul, 1) := by decide +kernel
theorem d_M_step_17 : decode b_M_step 17 = .ok (.iconst 1, 1) := by decide +kernel
theorem d_M_step_18 : decode b_M_step 18 = .ok (.iadd, 1) := by decide +kernel
theorem d_M_step_19 : decode b_M_step 19 = .ok (.iaload, 1) := by decide +kernel
theorem d_M_step_20 : decode b_M_step 20 = .ok (.istore 6, 2) := by decide +kernel
theorem d_M_step_22 : decode b_M_step 22 = .ok (.aload_n 0, 1) := by decide +kernel
theorem d_M_step_23 : decode b_M_step 23 = .ok (.getfield 22, 3) := by decide +kernel
theorem d_M_step_26 : decode b_M_step 26 = .ok (.iconst 3, 1) := by decide +kernel
theorem d_M_step_27 : decode b_M_step 27 = .ok (.iload_n 1, 1) := by decide +kernel
theorem d_M_step_28 : decode b_M_step 28 = .ok (.imul, 1) := by decide +kernel
theorem d_M_step_29 : decode b_M_step 29 = .ok (.iconst 2, 1) := by decide +kernel
theorem d_M_step_30 : decode b_M_step 30 = .ok (.iadd, 1) := by decide +kernel
theorem d_M_step_31 : decode b_M_step 31 = .ok (.iaload, 1) := by decide +kernel
theorem d_M_step_32 : decode b_M_step 32 = .ok (.istore 7, 2) := by decide +kernel
theorem d_M_step_34 : decode b_M_step 34 = .ok (.iload 5, 2) := by decide +kernel
theorem d_M_step_36 : decode b_M_step 36 = .ok (.iload_n 2, 1) := by decide +kernel
theorem d_M_step_37 : decode b_M_step 37 = .ok (.imul, 1) := by decide +kernel
theorem d_M_step_38 : decode b_M_step 38 = .ok (.iload 6, 2) := by decide +kernel
theorem d_M_step_40 : decode b_M_step 40 = .ok (.iload_n 3, 1) := by decide +kernel
theorem d_M_step_41 : decode b_M_step 41 = .ok (.imul, 1) := by decide +kernel
theorem d_M_step_42 : decode b_M_step 42 = .ok (.iadd, 1) := by decide +kernel
theorem d_M_step_43 : decode b_M_step 43 = .ok (.iload 7, 2) := by decide +kernel
theorem d_M_step_45 : decode b_M_step 45 = .ok (.iload 4, 2) := by decide +kernel
theorem d_M_step_47 : decode b_M_step 47 = .ok (.imul, 1) := by decide +kernel
theorem d_M_step_48 : decode b_M_step 48 = .ok (.iadd, 1) := by decide +kernel
theorem d_M_step_49 : decode b_M_step 49 = .ok (.istore 8, 2) := by decide +kernel
theorem d_M_step_51 : decode b_M_step 51 = .ok (.iload 6, 2) := by decide +kernel
theorem d_M_step_53 : decode b_M_step 53 = .ok (.iload 4, 2) := by decide +kernel
theorem d_M_step_55 : decode b_M_step 55 = .ok (.imul, 1) := by decide +kernel
theorem d_M_step_56 : decode b_M_step 56 = .ok (.iload 7, 2) := by decide +kernel
theorem d_M_step_58 : decode b_M_step 58 = .ok (.iload_n 3, 1) := by decide +kernel
theorem d_M_step_59 : decode b_M_step 59 = .ok (.imul, 1) := by decide +kernel
theorem d_M_step_60 : decode b_M_step 60 = .ok (.isub, 1) := by decide +kernel
theorem d_M_step_61 : decode b_M_step 61 = .ok (.istore 9, 2) := by decide +kernel
theorem d_M_step_63 : decode b_M_step 63 = .ok (.iload 7, 2) := by decide +kernel
theorem d_M_step_65 : decode b_M_step 65 = .ok (.iload_n 2, 1) := by decide +kernel
theorem d_M_step_66 : decode b_M_step 66 = .ok (.imul, 1) := by decide +kernel
theorem d_M_step_67 : decode b_M_step 67 = .ok (.iload 5, 2) := by decide +kernel
theorem d_M_step_69 : decode b_M_step 69 = .ok (.iload 4, 2) := by decide +kernel
theorem d_M_step_71 : decode b_M_step 71 = .ok (.imul, 1) := by decide +kernel
theorem d_M_step_72 : decode b_M_step 72 = .ok (.isub, 1) := by decide +kernel
theorem d_M_step_73 : decode b_M_step 73 = .ok (.istore 10, 2) := by decide +kernel
theorem d_M_step_75 : decode b_M_step 75 = .ok (.iload 5, 2) := by decide +kernel
theorem d_M_step_77 : decode b_M_step 77 = .ok (.iload_n 3, 1) := by decide +kernel
theorem d_M_step_78 : decode b_M_step 78 = .ok (.imul, 1) := by decide +kernel
theorem d_M_step_79 : decode b_M_step 79 = .ok (.iload 6, 2) := by decide +kernel
theorem d_M_step_81 : decode b_M_step 81 = .ok (.iload_n 2, 1) := by decide +kernel
theorem d_M_step_82 : decode b_M_step 82 = .ok (.imul, 1) := by decide +kernel
theorem d_M_step_83 : decode b_M_step 83 = .ok (.isub, 1) := by decide +kernel
theorem d_M_step_84 : decode b_M_step 84 = .ok (.istore 11, 2) := by decide +kernel
theorem d_M_step_86 : decode b_M_step 86 = .ok (.aload_n 0, 1) := by decide +kernel
theorem d_M_step_87 : decode b_M_step 87 = .ok (.iload_n 1, 1) := by decide +kernel
theorem d_M_step_88 : decode b_M_step 88 = .ok (.invokevirtual 89, 3) := by decide +kernel
theorem d_M_step_91 : decode b_M_step 91 = .ok (.istore 12, 2) := by decide +kernel
theorem d_M_step_93 : decode b_M_step 93 = .ok (.aload_n 0, 1) := by decide +kernel
theorem d_M_step_94 : decode b_M_step 94 = .ok (.iload 12, 2) := by decide +kernel
theorem d_M_step_96 : decode b_M_step 96 = .ok (.iconst 1, 1) := by decide +kernel
theorem d_M_step_97 : decode b_M_step 97 = .ok (.if_icmp .ne 14, 3) := by decide +kernel
theorem d_M_step_100 : decode b_M_step 100 = .ok (.iload 5, 2) := by decide +kernel
theorem d_M_step_102 : decode b_M_step 102 = .ok (.iload 8, 2) := by decide +kernel
theorem d_M_step_104 : decode b_M_step 104 = .ok (.imul, 1) := by decide +kernel
theorem d_M_step_105 : decode b_M_step 105 = .ok (.iload 9, 2) := by decide +kernel
theorem d_M_step_107 : decode b_M_step 107 = .ok (.iadd, 1) := by decide +kernel
theorem d_M_step_108 : decode b_M_step 108 = .ok (.goto 31, 3) := by decide +kernel
theorem d_M_step_111 : decode b_M_step 111 = .ok (.iload 12, 2) := by decide +kernel
theorem d_M_step_113 : decode b_M_step 113 = .ok (.iconst 2, 1) := by decide +kernel
theorem d_M_step_114 : decode b_M_step 114 = .ok (.if_icmp .ne 13, 3) := by decide +kernel
theorem d_M_step_117 : decode b_M_step 117 = .ok (.iload 5, 2) := by decide +kernel
theorem d_M_step_119 : decode b_M_step 119 = .ok (.iload 8, 2) := by decide +kernel
theorem d_M_step_121 : decode b_M_step 121 = .ok (.imul, 1) := by decide +kernel
theorem d_M_step_122 : decode b_M_step 122 = .ok (.iload_n 2, 1) := by decide +kernel
theorem d_M_step_123 : decode b_M_step 123 = .ok (.isub, 1) := by decide +kernel
theorem d_M_step_124 : decode b_M_step 124 = .ok (.goto 15, 3) := by decide +kernel
theorem d_M_step_127 : decode b_M_step 127 = .ok (.iload 5, 2) := by decide +kernel
theorem d_M_step_129 : decode b_M_step 129 = .ok (.iload 8, 2) := by decide +kernel
theorem d_M_step_131 : decode b_M_step 131 = .ok (.imul, 1) := by decide +kernel
theorem d_M_step_132 : decode b_M_step 132 = .ok (.iload 9, 2) := by decide +kernel
theorem d_M_step_134 : decode b_M_step 134 = .ok (.iadd, 1) := by decide +kernel
theorem d_M_step_135 : decode b_M_step 135 = .ok (.iload_n 2, 1) := by decide +kernel
theorem d_M_step_136 : decode b_M_step 136 = .ok (.isub, 1) := by decide +kernel
theorem d_M_step_137 : decode b_M_step 137 = .ok (.iconst 2, 1) := by decide +kernel
theorem d_M_step_138 : decode b_M_step 138 = .ok (.idiv, 1) := by decide +kernel
theorem d_M_step_139 : decode b_M_step 139 = .ok (.putfield 93, 3) := by decide +kernel
theorem d_M_step_142 : decode b_M_step 142 = .ok (.aload_n 0, 1) := by decide +kernel
theorem d_M_step_143 : decode b_M_step 143 = .ok (.iload 12, 2) := by decide +kernel
theorem d_M_step_145 : decode b_M_step 145 = .ok (.iconst 1, 1) := by decide +kernel
theorem d_M_step_146 : decode b_M_step 146 = .ok (.if_icmp .ne 14, 3) := by decide +kernel
theorem d_M_step_149 : decode b_M_step 149 = .ok (.iload 6, 2) := by decide +kernel
theorem d_M_step_151 : decode b_M_step 151 = .ok (.iload 8, 2) := by decide +kernel
theorem d_M_step_153 : decode b_M_step 153 = .ok (.imul, 1) := by decide +kernel
theorem d_M_step_154 : decode b_M_step 154 = .ok (.iload 10, 2) := by decide +kernel
theorem d_M_step_156 : decode b_M_step 156 = .ok (.iadd, 1) := by decide +kernel
theorem d_M_step_157 : decode b_M_step 157 = .ok (.goto 31, 3) := by decide +kernel
theorem d_M_step_160 : decode b_M_step 160 = .ok (.iload 12, 2) := by decide +kernel
theorem d_M_step_162 : decode b_M_step 162 = .ok (.iconst 2, 1) := by decide +kernel
theorem d_M_step_163 : decode b_M_step 163 = .ok (.if_icmp .ne 13, 3) := by decide +kernel
theorem d_M_step_166 : decode b_M_step 166 = .ok (.iload 6, 2) := by decide +kernel
theorem d_M_step_168 : decode b_M_step 168 = .ok (.iload 8, 2) := by decide +kernel
theorem d_M_step_170 : decode b_M_step 170 = .ok (.imul, 1) := by decide +kernel
theorem d_M_step_171 : decode b_M_step 171 = .ok (.iload_n 3, 1) := by decide +kernel
theorem d_M_step_172 : decode b_M_step 172 = .ok (.isub, 1) := by decide +kernel
theorem d_M_step_173 : decode b_M_step 173 = .ok (.goto 15, 3) := by decide +kernel
theorem d_M_step_176 : decode b_M_step 176 = .ok (.iload 6, 2) := by decide +kernel
theorem d_M_step_178 : decode b_M_step 178 = .ok (.iload 8, 2) := by decide +kernel
theorem d_M_step_180 : decode b_M_step 180 = .ok (.imul, 1) := by decide +kernel
theorem d_M_step_181 : decode b_M_step 181 = .ok (.iload 10, 2) := by decide +kernel
theorem d_M_step_183 : decode b_M_step 183 = .ok (.iadd, 1) := by decide +kernel
theorem d_M_step_184 : decode b_M_step 184 = .ok (.iload_n 3, 1) := by decide +kernel
theorem d_M_step_185 : decode b_M_step 185 = .ok (.isub, 1) := by decide +kernel
theorem d_M_step_186 : decode b_M_step 186 = .ok (.iconst 2, 1) := by decide +kernel
theorem d_M_step_187 : decode b_M_step 187 = .ok (.idiv, 1) := by decide +kernel
theorem d_M_step_188 : decode b_M_step 188 = .ok (.putfield 96, 3) := by decide +kernel
theorem d_M_step_191 : decode b_M_step 191 = .ok (.aload_n 0, 1) := by decide +kernel
theorem d_M_step_192 : decode b_M_step 192 = .ok (.iload 12, 2) := by decide +kernel
theorem d_M_step_194 : decode b_M_step 194 = .ok (.iconst 1, 1) := by decide +kernel
theorem d_M_step_195 : decode b_M_step 195 = .ok (.if_icmp .ne 14, 3) := by decide +kernel
theorem d_M_step_198 : decode b_M_step 198 = .ok (.iload 7, 2) := by decide +kernel
theorem d_M_step_200 : decode b_M_step 200 = .ok (.iload 8, 2) := by decide +kernel
theorem d_M_step_202 : decode b_M_step 202 = .ok (.imul, 1) := by decide +kernel
theorem d_M_step_203 : decode b_M_step 203 = .ok (.iload 11, 2) := by decide +kernel
theorem d_M_step_205 : decode b_M_step 205 = .ok (.iadd, 1) := by decide +kernel
theorem d_M_step_206 : decode b_M_step 206 = .ok (.goto 33, 3) := by decide +kernel
theorem d_M_step_209 : decode b_M_step 209 = .ok (.iload 12, 2) := by decide +kernel
theorem d_M_step_211 : decode b_M_step 211 = .ok (.iconst 2, 1) := by decide +kernel
theorem d_M_step_212 : decode b_M_step 212 = .ok (.if_icmp .ne 14, 3) := by decide +kernel
theorem d_M_step_215 : decode b_M_step 215 = .ok (.iload 7, 2) := by decide +kernel
theorem d_M_step_217 : decode b_M_step 217 = .ok (.iload 8, 2) := by decide +kernel
theorem d_M_step_219 : decode b_M_step 219 = .ok (.imul, 1) := by decide +kernel
theorem d_M_step_220 : decode b_M_step 220 = .ok (.iload 4, 2) := by decide +kernel
theorem d_M_step_222 : decode b_M_step 222 = .ok (.isub, 1) := by decide +kernel
theorem d_M_step_223 : decode b_M_step 223 = .ok (.goto 16, 3) := by decide +kernel
theorem d_M_step_226 : decode b_M_step 226 = .ok (.iload 7, 2) := by decide +kernel
theorem d_M_step_228 : decode b_M_step 228 = .ok (.iload 8, 2) := by decide +kernel
theorem d_M_step_230 : decode b_M_step 230 = .ok (.imul, 1) := by decide +kernel
theorem d_M_step_231 : decode b_M_step 231 = .ok (.iload 11, 2) := by decide +kernel
theorem d_M_step_233 : decode b_M_step 233 = .ok (.iadd, 1) := by decide +kernel
theorem d_M_step_234 : decode b_M_step 234 = .ok (.iload 4, 2) := by decide +kernel
theorem d_M_step_236 : decode b_M_step 236 = .ok (.isub, 1) := by decide +kernel
theorem d_M_step_237 : decode b_M_step 237 = .ok (.iconst 2, 1) := by decide +kernel
theorem d_M_step_238 : decode b_M_step 238 = .ok (.idiv, 1) := by decide +kernel
theorem d_M_step_239 : decode b_M_step 239 = .ok (.putfield 99, 3) := by decide +kernel
theorem d_M_step_242 : decode b_M_step 242 = .ok (.return_, 1) := by decide +kernel
theorem d_M_imageOf_0 : decode b_M_imageOf 0 = .ok (.aload_n 0, 1) := by decide +kernel
theorem d_M_imageOf_1 : decode b_M_imageOf 1 = .ok (.iload_n 1, 1) := by decide +kernel
theorem d_M_imageOf_2 : decode b_M_imageOf 2 = .ok (.aload_n 0, 1) := by decide +kernel
theorem d_M_imageOf_3 : decode b_M_imageOf 3 = .ok (.getfield 7, 3) := by decide +kernel
theorem d_M_imageOf_6 : decode b_M_imageOf 6 = .ok (.iload_n 2, 1) := by decide +kernel
theorem d_M_imageOf_7 : decode b_M_imageOf 7 = .ok (.iaload, 1) := by decide +kernel
theorem d_M_imageOf_8 : decode b_M_imageOf 8 = .ok (.aload_n 0, 1) := by decide +kernel
theorem d_M_imageOf_9 : decode b_M_imageOf 9 = .ok (.getfield 13, 3) := by decide +kernel
theorem d_M_imageOf_12 : decode b_M_imageOf 12 = .ok (.iload_n 2, 1) := by decide +kernel
theorem d_M_imageOf_13 : decode b_M_imageOf 13 = .ok (.iaload, 1) := by decide +kernel
theorem d_M_imageOf_14 : decode b_M_imageOf 14 = .ok (.aload_n 0, 1) := by decide +kernel
theorem d_M_imageOf_15 : decode b_M_imageOf 15 = .ok (.getfield 16, 3) := by decide +kernel
theorem d_M_imageOf_18 : decode b_M_imageOf 18 = .ok (.iload_n 2, 1) := by decide +kernel
theorem d_M_imageOf_19 : decode b_M_imageOf 19 = .ok (.iaload, 1) := by decide +kernel
theorem d_M_imageOf_20 : decode b_M_imageOf 20 = .ok (.invokevirtual 102, 3) := by decide +kernel
theorem d_M_imageOf_23 : decode b_M_imageOf 23 = .ok (.aload_n 0, 1) := by decide +kernel
theorem d_M_imageOf_24 : decode b_M_imageOf 24 = .ok (.aload_n 0, 1) := by decide +kernel
theorem d_M_imageOf_25 : decode b_M_imageOf 25 = .ok (.getfield 93, 3) := by decide +kernel
theorem d_M_imageOf_28 : decode b_M_imageOf 28 = .ok (.aload_n 0, 1) := by decide +kernel
theorem d_M_imageOf_29 : decode b_M_imageOf 29 = .ok (.getfield 96, 3) := by decide +kernel
theorem d_M_imageOf_32 : decode b_M_imageOf 32 = .ok (.aload_n 0, 1) := by decide +kernel
theorem d_M_imageOf_33 : decode b_M_imageOf 33 = .ok (.getfield 99, 3) := by decide +kernel
theorem d_M_imageOf_36 : decode b_M_imageOf 36 = .ok (.invokevirtual 68, 3) := by decide +kernel
theorem d_M_imageOf_39 : decode b_M_imageOf 39 = .ok (.ireturn, 1) := by decide +kernel
theorem d_M_taken_0 : decode b_M_taken 0 = .ok (.aload_n 0, 1) := by decide +kernel
theorem d_M_taken_1 : decode b_M_taken 1 = .ok (.iload_n 1, 1) := by decide +kernel
theorem d_M_taken_2 : decode b_M_taken 2 = .ok (.iload_n 2, 1) := by decide +kernel
theorem d_M_taken_3 : decode b_M_taken 3 = .ok (.iconst 0, 1) := by decide +kernel
theorem d_M_taken_4 : decode b_M_taken 4 = .ok (.invokestatic 129, 3) := by decide +kernel
theorem d_M_taken_7 : decode b_M_taken 7 = .ok (.iload_n 2, 1) := by decide +kernel
theorem d_M_taken_8 : decode b_M_taken 8 = .ok (.iconst 1, 1) := by decide +kernel
theorem d_M_taken_9 : decode b_M_taken 9 = .ok (.invokestatic 129, 3) := by decide +kernel
theorem d_M_taken_12 : decode b_M_taken 12 = .ok (.iload_n 2, 1) := by decide +kernel
theorem d_M_taken_13 : decode b_M_taken 13 = .ok (.iconst 2, 1) := by decide +kernel
theorem d_M_taken_14 : decode b_M_taken 14 = .ok (.invokestatic 129, 3) := by decide +kernel
theorem d_M_taken_17 : decode b_M_taken 17 = .ok (.invokevirtual 102, 3) := by decide +kernel
theorem d_M_taken_20 : decode b_M_taken 20 = .ok (.aload_n 0, 1) := by decide +kernel
theorem d_M_taken_21 : decode b_M_taken 21 = .ok (.getfield 93, 3) := by decide +kernel
theorem d_M_taken_24 : decode b_M_taken 24 = .ok (.aload_n 0, 1) := by decide +kernel
theorem d_M_taken_25 : decode b_M_taken 25 = .ok (.getfield 96, 3) := by decide +kernel
theorem d_M_taken_28 : decode b_M_taken 28 = .ok (.aload_n 0, 1) := by decide +kernel
theorem d_M_taken_29 : decode b_M_taken 29 = .ok (.getfield 99, 3) := by decide +kernel
theorem d_M_taken_32 : decode b_M_taken 32 = .ok (.invokestatic 132, 3) := by decide +kernel
theorem d_M_taken_35 : decode b_M_taken 35 = .ok (.ireturn, 1) := by decide +kernel
theorem d_M_wayBehind_0 : decode b_M_wayBehind 0 = .ok (.aload_n 0, 1) := by decide +kernel
theorem d_M_wayBehind_1 : decode b_M_wayBehind 1 = .ok (.iload_n 1, 1) := by decide +kernel
theorem d_M_wayBehind_2 : decode b_M_wayBehind 2 = .ok (.iload_n 2, 1) := by decide +kernel
theorem d_M_wayBehind_3 : decode b_M_wayBehind 3 = .ok (.iconst 4, 1) := by decide +kernel
theorem d_M_wayBehind_4 : decode b_M_wayBehind 4 = .ok (.idiv, 1) := by decide +kernel
theorem d_M_wayBehind_5 : decode b_M_wayBehind 5 = .ok (.invokevirtual 135, 3) := by decide +kernel
theorem d_M_wayBehind_8 : decode b_M_wayBehind 8 = .ok (.aload_n 0, 1) := by decide +kernel
theorem d_M_wayBehind_9 : decode b_M_wayBehind 9 = .ok (.iload_n 1, 1) := by decide +kernel
theorem d_M_wayBehind_10 : decode b_M_wayBehind 10 = .ok (.iload_n 2, 1) := by decide +kernel
theorem d_M_wayBehind_11 : decode b_M_wayBehind 11 = .ok (.invokestatic 138, 3) := by decide +kernel
theorem d_M_wayBehind_14 : decode b_M_wayBehind 14 = .ok (.invokevirtual 135, 3) := by decide +kernel
theorem d_M_wayBehind_17 : decode b_M_wayBehind 17 = .ok (.invokestatic 141, 3) := by decide +kernel
theorem d_M_wayBehind_20 : decode b_M_wayBehind 20 = .ok (.ireturn, 1) := by decide +kernel
theorem d_M_blocked_0 : decode b_M_blocked 0 = .ok (.iconst 0, 1) := by decide +kernel
theorem d_M_blocked_1 : decode b_M_blocked 1 = .ok (.istore_n 3, 1) := by decide +kernel
theorem d_M_blocked_2 : decode b_M_blocked 2 = .ok (.iload_n 3, 1) := by decide +kernel
theorem d_M_blocked_3 : decode b_M_blocked 3 = .ok (.aload_n 0, 1) := by decide +kernel
theorem d_M_blocked_4 : decode b_M_blocked 4 = .ok (.getfield 59, 3) := by decide +kernel
theorem d_M_blocked_7 : decode b_M_blocked 7 = .ok (.if_icmp .ge 50, 3) := by decide +kernel
theorem d_M_blocked_10 : decode b_M_blocked 10 = .ok (.aload_n 0, 1) := by decide +kernel
theorem d_M_blocked_11 : decode b_M_blocked 11 = .ok (.iload_n 3, 1) := by decide +kernel
theorem d_M_blocked_12 : decode b_M_blocked 12 = .ok (.iload_n 2, 1) := by decide +kernel
theorem d_M_blocked_13 : decode b_M_blocked 13 = .ok (.invokevirtual 116, 3) := by decide +kernel
theorem d_M_blocked_16 : decode b_M_blocked 16 = .ok (.iconst 2, 1) := by decide +kernel
theorem d_M_blocked_17 : decode b_M_blocked 17 = .ok (.if_icmp .eq 6, 3) := by decide +kernel
theorem d_M_blocked_20 : decode b_M_blocked 20 = .ok (.goto 31, 3) := by decide +kernel
theorem d_M_blocked_23 : decode b_M_blocked 23 = .ok (.aload_n 0, 1) := by decide +kernel
theorem d_M_blocked_24 : decode b_M_blocked 24 = .ok (.iload_n 1, 1) := by decide +kernel
theorem d_M_blocked_25 : decode b_M_blocked 25 = .ok (.iload_n 3, 1) := by decide +kernel
theorem d_M_blocked_26 : decode b_M_blocked 26 = .ok (.invokevirtual 109, 3) := by decide +kernel
theorem d_M_blocked_29 : decode b_M_blocked 29 = .ok (.istore 4, 2) := by decide +kernel
theorem d_M_blocked_31 : decode b_M_blocked 31 = .ok (.iload 4, 2) := by decide +kernel
theorem d_M_blocked_33 : decode b_M_blocked 33 = .ok (.ifCond .lt 14, 3) := by decide +kernel
theorem d_M_blocked_36 : decode b_M_blocked 36 = .ok (.aload_n 0, 1) := by decide +kernel
theorem d_M_blocked_37 : decode b_M_blocked 37 = .ok (.iload 4, 2) := by decide +kernel
theorem d_M_blocked_39 : decode b_M_blocked 39 = .ok (.iload_n 2, 1) := by decide +kernel
theorem d_M_blocked_40 : decode b_M_blocked 40 = .ok (.invokevirtual 116, 3) := by decide +kernel
theorem d_M_blocked_43 : decode b_M_blocked 43 = .ok (.iconst 2, 1) := by decide +kernel
theorem d_M_blocked_44 : decode b_M_blocked 44 = .ok (.if_icmp .eq 7, 3) := by decide +kernel
theorem d_M_blocked_47 : decode b_M_blocked 47 = .ok (.iconst 1, 1) := by decide +kernel
theorem d_M_blocked_48 : decode b_M_blocked 48 = .ok (.iload_n 3, 1) := by decide +kernel
theorem d_M_blocked_49 : decode b_M_blocked 49 = .ok (.iadd, 1) := by decide +kernel
theorem d_M_blocked_50 : decode b_M_blocked 50 = .ok (.ireturn, 1) := by decide +kernel
theorem d_M_blocked_51 : decode b_M_blocked 51 = .ok (.iinc 3 1, 3) := by decide +kernel
theorem d_M_blocked_54 : decode b_M_blocked 54 = .ok (.goto (-52), 3) := by decide +kernel
theorem d_M_blocked_57 : decode b_M_blocked 57 = .ok (.iconst 0, 1) := by decide +kernel
theorem d_M_blocked_58 : decode b_M_blocked 58 = .ok (.ireturn, 1) := by decide +kernel
theorem d_M_plan_0 : decode b_M_plan 0 = .ok (.iconst 0, 1) := by decide +kernel
theorem d_M_plan_1 : decode b_M_plan 1 = .ok (.istore 4, 2) := by decide +kernel
theorem d_M_plan_3 : decode b_M_plan 3 = .ok (.iload 4, 2) := by decide +kernel
theorem d_M_plan_5 : decode b_M_plan 5 = .ok (.aload_n 0, 1) := by decide +kernel
theorem d_M_plan_6 : decode b_M_plan 6 = .ok (.getfield 59, 3) := by decide +kernel
theorem d_M_plan_9 : decode b_M_plan 9 = .ok (.if_icmp .ge 43, 3) := by decide +kernel
theorem d_M_plan_12 : decode b_M_plan 12 = .ok (.aload_n 0, 1) := by decide +kernel
theorem d_M_plan_13 : decode b_M_plan 13 = .ok (.getfield 52, 3) := by decide +kernel
theorem d_M_plan_16 : decode b_M_plan 16 = .ok (.bipush 60, 2) := by decide +kernel
theorem d_M_plan_18 : decode b_M_plan 18 = .ok (.iload_n 1, 1) := by decide +kernel
theorem d_M_plan_19 : decode b_M_plan 19 = .ok (.imul, 1) := by decide +kernel
theorem d_M_plan_20 : decode b_M_plan 20 = .ok (.iload 4, 2) := by decide +kernel
theorem d_M_plan_22 : decode b_M_plan 22 = .ok (.iadd, 1) := by decide +kernel
theorem d_M_plan_23 : decode b_M_plan 23 = .ok (.aload_n 0, 1) := by decide +kernel
theorem d_M_plan_24 : decode b_M_plan 24 = .ok (.iload 4, 2) := by decide +kernel
theorem d_M_plan_26 : decode b_M_plan 26 = .ok (.iload_n 3, 1) := by decide +kernel
theorem d_M_plan_27 : decode b_M_plan 27 = .ok (.invokevirtual 116, 3) := by decide +kernel
theorem d_M_plan_30 : decode b_M_plan 30 = .ok (.iconst 2, 1) := by decide +kernel
theorem d_M_plan_31 : decode b_M_plan 31 = .ok (.if_icmp .ne 13, 3) := by decide +kernel
theorem d_M_plan_34 : decode b_M_plan 34 = .ok (.aload_n 0, 1) := by decide +kernel
theorem d_M_plan_35 : decode b_M_plan 35 = .ok (.iload_n 2, 1) := by decide +kernel
theorem d_M_plan_36 : decode b_M_plan 36 = .ok (.iload 4, 2) := by decide +kernel
theorem d_M_plan_38 : decode b_M_plan 38 = .ok (.invokevirtual 109, 3) := by decide +kernel
theorem d_M_plan_41 : decode b_M_plan 41 = .ok (.goto 4, 3) := by decide +kernel
theorem d_M_plan_44 : decode b_M_plan 44 = .ok (.iconst (-1), 1) := by decide +kernel
theorem d_M_plan_45 : decode b_M_plan 45 = .ok (.iastore, 1) := by decide +kernel
theorem d_M_plan_46 : decode b_M_plan 46 = .ok (.iinc 4 1, 3) := by decide +kernel
theorem d_M_plan_49 : decode b_M_plan 49 = .ok (.goto (-46), 3) := by decide +kernel
theorem d_M_plan_52 : decode b_M_plan 52 = .ok (.return_, 1) := by decide +kernel
theorem d_M_turnOnce_0 : decode b_M_turnOnce 0 = .ok (.iconst 0, 1) := by decide +kernel
theorem d_M_turnOnce_1 : decode b_M_turnOnce 1 = .ok (.istore_n 3, 1) := by decide +kernel
theorem d_M_turnOnce_2 : decode b_M_turnOnce 2 = .ok (.iload_n 3, 1) := by decide +kernel
theorem d_M_turnOnce_3 : decode b_M_turnOnce 3 = .ok (.aload_n 0, 1) := by decide +kernel
theorem d_M_turnOnce_4 : decode b_M_turnOnce 4 = .ok (.getfield 59, 3) := by decide +kernel
theorem d_M_turnOnce_7 : decode b_M_turnOnce 7 = .ok (.if_icmp .ge 33, 3) := by decide +kernel
theorem d_M_turnOnce_10 : decode b_M_turnOnce 10 = .ok (.aload_n 0, 1) := by decide +kernel
theorem d_M_turnOnce_11 : decode b_M_turnOnce 11 = .ok (.getfield 40, 3) := by decide +kernel
theorem d_M_turnOnce_14 : decode b_M_turnOnce 14 = .ok (.iload_n 3, 1) := by decide +kernel
theorem d_M_turnOnce_15 : decode b_M_turnOnce 15 = .ok (.aload_n 0, 1) := by decide +kernel
theorem d_M_turnOnce_16 : decode b_M_turnOnce 16 = .ok (.getfield 25, 3) := by decide +kernel
theorem d_M_turnOnce_19 : decode b_M_turnOnce 19 = .ok (.iload_n 3, 1) := by decide +kernel
theorem d_M_turnOnce_20 : decode b_M_turnOnce 20 = .ok (.iaload, 1) := by decide +kernel
theorem d_M_turnOnce_21 : decode b_M_turnOnce 21 = .ok (.iastore, 1) := by decide +kernel
theorem d_M_turnOnce_22 : decode b_M_turnOnce 22 = .ok (.aload_n 0, 1) := by decide +kernel
theorem d_M_turnOnce_23 : decode b_M_turnOnce 23 = .ok (.getfield 43, 3) := by decide +kernel
theorem d_M_turnOnce_26 : decode b_M_turnOnce 26 = .ok (.iload_n 3, 1) := by decide +kernel
theorem d_M_turnOnce_27 : decode b_M_turnOnce 27 = .ok (.aload_n 0, 1) := by decide +kernel
theorem d_M_turnOnce_28 : decode b_M_turnOnce 28 = .ok (.getfield 28, 3) := by decide +kernel
theorem d_M_turnOnce_31 : decode b_M_turnOnce 31 = .ok (.iload_n 3, 1) := by decide +kernel
theorem d_M_turnOnce_32 : decode b_M_turnOnce 32 = .ok (.iaload, 1) := by decide +kernel
theorem d_M_turnOnce_33 : decode b_M_turnOnce 33 = .ok (.iastore, 1) := by decide +kernel
theorem d_M_turnOnce_34 : decode b_M_turnOnce 34 = .ok (.iinc 3 1, 3) := by decide +kernel
theorem d_M_turnOnce_37 : decode b_M_turnOnce 37 = .ok (.goto (-35), 3) := by decide +kernel
theorem d_M_turnOnce_40 : decode b_M_turnOnce 40 = .ok (.iconst 0, 1) := by decide +kernel
theorem d_M_turnOnce_41 : decode b_M_turnOnce 41 = .ok (.istore_n 3, 1) := by decide +kernel
theorem d_M_turnOnce_42 : decode b_M_turnOnce 42 = .ok (.iload_n 3, 1) := by decide +kernel
theorem d_M_turnOnce_43 : decode b_M_turnOnce 43 = .ok (.aload_n 0, 1) := by decide +kernel
theorem d_M_turnOnce_44 : decode b_M_turnOnce 44 = .ok (.getfield 59, 3) := by decide +kernel
theorem d_M_turnOnce_47 : decode b_M_turnOnce 47 = .ok (.if_icmp .ge 61, 3) := by decide +kernel
theorem d_M_turnOnce_50 : decode b_M_turnOnce 50 = .ok (.aload_n 0, 1) := by decide +kernel
theorem d_M_turnOnce_51 : decode b_M_turnOnce 51 = .ok (.getfield 52, 3) := by decide +kernel
theorem d_M_turnOnce_54 : decode b_M_turnOnce 54 = .ok (.bipush 60, 2) := by decide +kernel
theorem d_M_turnOnce_56 : decode b_M_turnOnce 56 = .ok (.iload_n 1, 1) := by decide +kernel
theorem d_M_turnOnce_57 : decode b_M_turnOnce 57 = .ok (.imul, 1) := by decide +kernel
theorem d_M_turnOnce_58 : decode b_M_turnOnce 58 = .ok (.iload_n 3, 1) := by decide +kernel
theorem d_M_turnOnce_59 : decode b_M_turnOnce 59 = .ok (.iadd, 1) := by decide +kernel
theorem d_M_turnOnce_60 : decode b_M_turnOnce 60 = .ok (.iaload, 1) := by decide +kernel
theorem d_M_turnOnce_61 : decode b_M_turnOnce 61 = .ok (.istore 4, 2) := by decide +kernel
theorem d_M_turnOnce_63 : decode b_M_turnOnce 63 = .ok (.iload 4, 2) := by decide +kernel
theorem d_M_turnOnce_65 : decode b_M_turnOnce 65 = .ok (.ifCond .ge 6, 3) := by decide +kernel
theorem d_M_turnOnce_68 : decode b_M_turnOnce 68 = .ok (.goto 34, 3) := by decide +kernel
theorem d_M_turnOnce_71 : decode b_M_turnOnce 71 = .ok (.aload_n 0, 1) := by decide +kernel
theorem d_M_turnOnce_72 : decode b_M_turnOnce 72 = .ok (.getfield 40, 3) := by decide +kernel
theorem d_M_turnOnce_75 : decode b_M_turnOnce 75 = .ok (.iload 4, 2) := by decide +kernel
theorem d_M_turnOnce_77 : decode b_M_turnOnce 77 = .ok (.aload_n 0, 1) := by decide +kernel
theorem d_M_turnOnce_78 : decode b_M_turnOnce 78 = .ok (.getfield 25, 3) := by decide +kernel
theorem d_M_turnOnce_81 : decode b_M_turnOnce 81 = .ok (.iload_n 3, 1) := by decide +kernel
theorem d_M_turnOnce_82 : decode b_M_turnOnce 82 = .ok (.iaload, 1) := by decide +kernel
theorem d_M_turnOnce_83 : decode b_M_turnOnce 83 = .ok (.iastore, 1) := by decide +kernel
theorem d_M_turnOnce_84 : decode b_M_turnOnce 84 = .ok (.aload_n 0, 1) := by decide +kernel
theorem d_M_turnOnce_85 : decode b_M_turnOnce 85 = .ok (.getfield 43, 3) := by decide +kernel
theorem d_M_turnOnce_88 : decode b_M_turnOnce 88 = .ok (.iload 4, 2) := by decide +kernel
theorem d_M_turnOnce_90 : decode b_M_turnOnce 90 = .ok (.aload_n 0, 1) := by decide +kernel
theorem d_M_turnOnce_91 : decode b_M_turnOnce 91 = .ok (.iload_n 2, 1) := by decide +kernel
theorem d_M_turnOnce_92 : decode b_M_turnOnce 92 = .ok (.aload_n 0, 1) := by decide +kernel
theorem d_M_turnOnce_93 : decode b_M_turnOnce 93 = .ok (.getfield 28, 3) := by decide +kernel
theorem d_M_turnOnce_96 : decode b_M_turnOnce 96 = .ok (.iload_n 3, 1) := by decide +kernel
theorem d_M_turnOnce_97 : decode b_M_turnOnce 97 = .ok (.iaload, 1) := by decide +kernel
theorem d_M_turnOnce_98 : decode b_M_turnOnce 98 = .ok (.invokevirtual 144, 3) := by decide +kernel
theorem d_M_turnOnce_101 : decode b_M_turnOnce 101 = .ok (.iastore, 1) := by decide +kernel
theorem d_M_turnOnce_102 : decode b_M_turnOnce 102 = .ok (.iinc 3 1, 3) := by decide +kernel
theorem d_M_turnOnce_105 : decode b_M_turnOnce 105 = .ok (.goto (-63), 3) := by decide +kernel
theorem d_M_turnOnce_108 : decode b_M_turnOnce 108 = .ok (.iconst 0, 1) := by decide +kernel
theorem d_M_turnOnce_109 : decode b_M_turnOnce 109 = .ok (.istore_n 3, 1) := by decide +kernel
theorem d_M_turnOnce_110 : decode b_M_turnOnce 110 = .ok (.iload_n 3, 1) := by decide +kernel
theorem d_M_turnOnce_111 : decode b_M_turnOnce 111 = .ok (.aload_n 0, 1) := by decide +kernel
theorem d_M_turnOnce_112 : decode b_M_turnOnce 112 = .ok (.getfield 59, 3) := by decide +kernel
theorem d_M_turnOnce_115 : decode b_M_turnOnce 115 = .ok (.if_icmp .ge 33, 3) := by decide +kernel
theorem d_M_turnOnce_118 : decode b_M_turnOnce 118 = .ok (.aload_n 0, 1) := by decide +kernel
theorem d_M_turnOnce_119 : decode b_M_turnOnce 119 = .ok (.getfield 25, 3) := by decide +kernel
theorem d_M_turnOnce_122 : decode b_M_turnOnce 122 = .ok (.iload_n 3, 1) := by decide +kernel
theorem d_M_turnOnce_123 : decode b_M_turnOnce 123 = .ok (.aload_n 0, 1) := by decide +kernel
theorem d_M_turnOnce_124 : decode b_M_turnOnce 124 = .ok (.getfield 40, 3) := by decide +kernel
theorem d_M_turnOnce_127 : decode b_M_turnOnce 127 = .ok (.iload_n 3, 1) := by decide +kernel
theorem d_M_turnOnce_128 : decode b_M_turnOnce 128 = .ok (.iaload, 1) := by decide +kernel
theorem d_M_turnOnce_129 : decode b_M_turnOnce 129 = .ok (.iastore, 1) := by decide +kernel
theorem d_M_turnOnce_130 : decode b_M_turnOnce 130 = .ok (.aload_n 0, 1) := by decide +kernel
theorem d_M_turnOnce_131 : decode b_M_turnOnce 131 = .ok (.getfield 28, 3) := by decide +kernel
theorem d_M_turnOnce_134 : decode b_M_turnOnce 134 = .ok (.iload_n 3, 1) := by decide +kernel
theorem d_M_turnOnce_135 : decode b_M_turnOnce 135 = .ok (.aload_n 0, 1) := by decide +kernel
theorem d_M_turnOnce_136 : decode b_M_turnOnce 136 = .ok (.getfield 43, 3) := by decide +kernel
theorem d_M_turnOnce_139 : decode b_M_turnOnce 139 = .ok (.iload_n 3, 1) := by decide +kernel
theorem d_M_turnOnce_140 : decode b_M_turnOnce 140 = .ok (.iaload, 1) := by decide +kernel
theorem d_M_turnOnce_141 : decode b_M_turnOnce 141 = .ok (.iastore, 1) := by decide +kernel
theorem d_M_turnOnce_142 : decode b_M_turnOnce 142 = .ok (.iinc 3 1, 3) := by decide +kernel
theorem d_M_turnOnce_145 : decode b_M_turnOnce 145 = .ok (.goto (-35), 3) := by decide +kernel
theorem d_M_turnOnce_148 : decode b_M_turnOnce 148 = .ok (.return_, 1) := by decide +kernel
theorem d_M_isThere_0 : decode b_M_isThere 0 = .ok (.aload_n 0, 1) := by decide +kernel
theorem d_M_isThere_1 : decode b_M_isThere 1 = .ok (.iload_n 1, 1) := by decide +kernel
theorem d_M_isThere_2 : decode b_M_isThere 2 = .ok (.aload_n 0, 1) := by decide +kernel
theorem d_M_isThere_3 : decode b_M_isThere 3 = .ok (.getfield 19, 3) := by decide +kernel
theorem d_M_isThere_6 : decode b_M_isThere 6 = .ok (.iconst 4, 1) := by decide +kernel
theorem d_M_isThere_7 : decode b_M_isThere 7 = .ok (.iload_n 2, 1) := by decide +kernel
theorem d_M_isThere_8 : decode b_M_isThere 8 = .ok (.imul, 1) := by decide +kernel
theorem d_M_isThere_9 : decode b_M_isThere 9 = .ok (.iaload, 1) := by decide +kernel
theorem d_M_isThere_10 : decode b_M_isThere 10 = .ok (.aload_n 0, 1) := by decide +kernel
theorem d_M_isThere_11 : decode b_M_isThere 11 = .ok (.getfield 19, 3) := by decide +kernel
theorem d_M_isThere_14 : decode b_M_isThere 14 = .ok (.iconst 4, 1) := by decide +kernel
theorem d_M_isThere_15 : decode b_M_isThere 15 = .ok (.iload_n 2, 1) := by decide +kernel
theorem d_M_isThere_16 : decode b_M_isThere 16 = .ok (.imul, 1) := by decide +kernel
theorem d_M_isThere_17 : decode b_M_isThere 17 = .ok (.iconst 1, 1) := by decide +kernel
theorem d_M_isThere_18 : decode b_M_isThere 18 = .ok (.iadd, 1) := by decide +kernel
theorem d_M_isThere_19 : decode b_M_isThere 19 = .ok (.iaload, 1) := by decide +kernel
theorem d_M_isThere_20 : decode b_M_isThere 20 = .ok (.aload_n 0, 1) := by decide +kernel
theorem d_M_isThere_21 : decode b_M_isThere 21 = .ok (.getfield 19, 3) := by decide +kernel
theorem d_M_isThere_24 : decode b_M_isThere 24 = .ok (.iconst 4, 1) := by decide +kernel
theorem d_M_isThere_25 : decode b_M_isThere 25 = .ok (.iload_n 2, 1) := by decide +kernel
theorem d_M_isThere_26 : decode b_M_isThere 26 = .ok (.imul, 1) := by decide +kernel
theorem d_M_isThere_27 : decode b_M_isThere 27 = .ok (.iconst 2, 1) := by decide +kernel
theorem d_M_isThere_28 : decode b_M_isThere 28 = .ok (.iadd, 1) := by decide +kernel
theorem d_M_isThere_29 : decode b_M_isThere 29 = .ok (.iaload, 1) := by decide +kernel
theorem d_M_isThere_30 : decode b_M_isThere 30 = .ok (.invokevirtual 102, 3) := by decide +kernel
theorem d_M_isThere_33 : decode b_M_isThere 33 = .ok (.aload_n 0, 1) := by decide +kernel
theorem d_M_isThere_34 : decode b_M_isThere 34 = .ok (.getfield 19, 3) := by decide +kernel
theorem d_M_isThere_37 : decode b_M_isThere 37 = .ok (.iconst 4, 1) := by decide +kernel
theorem d_M_isThere_38 : decode b_M_isThere 38 = .ok (.iload_n 2, 1) := by decide +kernel
theorem d_M_isThere_39 : decode b_M_isThere 39 = .ok (.imul, 1) := by decide +kernel
theorem d_M_isThere_40 : decode b_M_isThere 40 = .ok (.iconst 3, 1) := by decide +kernel
theorem d_M_isThere_41 : decode b_M_isThere 41 = .ok (.iadd, 1) := by decide +kernel
theorem d_M_isThere_42 : decode b_M_isThere 42 = .ok (.iaload, 1) := by decide +kernel
theorem d_M_isThere_43 : decode b_M_isThere 43 = .ok (.istore_n 3, 1) := by decide +kernel
theorem d_M_isThere_44 : decode b_M_isThere 44 = .ok (.iconst 0, 1) := by decide +kernel
theorem d_M_isThere_45 : decode b_M_isThere 45 = .ok (.istore 4, 2) := by decide +kernel
theorem d_M_isThere_47 : decode b_M_isThere 47 = .ok (.iload 4, 2) := by decide +kernel
theorem d_M_isThere_49 : decode b_M_isThere 49 = .ok (.aload_n 0, 1) := by decide +kernel
theorem d_M_isThere_50 : decode b_M_isThere 50 = .ok (.getfield 62, 3) := by decide +kernel
theorem d_M_isThere_53 : decode b_M_isThere 53 = .ok (.if_icmp .ge 160, 3) := by decide +kernel
theorem d_M_isThere_56 : decode b_M_isThere 56 = .ok (.aload_n 0, 1) := by decide +kernel
theorem d_M_isThere_57 : decode b_M_isThere 57 = .ok (.getfield 19, 3) := by decide +kernel
theorem d_M_isThere_60 : decode b_M_isThere 60 = .ok (.iconst 4, 1) := by decide +kernel
theorem d_M_isThere_61 : decode b_M_isThere 61 = .ok (.iload 4, 2) := by decide +kernel
theorem d_M_isThere_63 : decode b_M_isThere 63 = .ok (.imul, 1) := by decide +kernel
theorem d_M_isThere_64 : decode b_M_isThere 64 = .ok (.iaload, 1) := by decide +kernel
theorem d_M_isThere_65 : decode b_M_isThere 65 = .ok (.istore 5, 2) := by decide +kernel
theorem d_M_isThere_67 : decode b_M_isThere 67 = .ok (.aload_n 0, 1) := by decide +kernel
theorem d_M_isThere_68 : decode b_M_isThere 68 = .ok (.getfield 19, 3) := by decide +kernel
theorem d_M_isThere_71 : decode b_M_isThere 71 = .ok (.iconst 4, 1) := by decide +kernel
theorem d_M_isThere_72 : decode b_M_isThere 72 = .ok (.iload 4, 2) := by decide +kernel
theorem d_M_isThere_74 : decode b_M_isThere 74 = .ok (.imul, 1) := by decide +kernel
theorem d_M_isThere_75 : decode b_M_isThere 75 = .ok (.iconst 1, 1) := by decide +kernel
theorem d_M_isThere_76 : decode b_M_isThere 76 = .ok (.iadd, 1) := by decide +kernel
theorem d_M_isThere_77 : decode b_M_isThere 77 = .ok (.iaload, 1) := by decide +kernel
theorem d_M_isThere_78 : decode b_M_isThere 78 = .ok (.istore 6, 2) := by decide +kernel
theorem d_M_isThere_80 : decode b_M_isThere 80 = .ok (.aload_n 0, 1) := by decide +kernel
theorem d_M_isThere_81 : decode b_M_isThere 81 = .ok (.getfield 19, 3) := by decide +kernel
theorem d_M_isThere_84 : decode b_M_isThere 84 = .ok (.iconst 4, 1) := by decide +kernel
theorem d_M_isThere_85 : decode b_M_isThere 85 = .ok (.iload 4, 2) := by decide +kernel
theorem d_M_isThere_87 : decode b_M_isThere 87 = .ok (.imul, 1) := by decide +kernel
theorem d_M_isThere_88 : decode b_M_isThere 88 = .ok (.iconst 2, 1) := by decide +kernel
theorem d_M_isThere_89 : decode b_M_isThere 89 = .ok (.iadd, 1) := by decide +kernel
theorem d_M_isThere_90 : decode b_M_isThere 90 = .ok (.iaload, 1) := by decide +kernel
theorem d_M_isThere_91 : decode b_M_isThere 91 = .ok (.istore 7, 2) := by decide +kernel
theorem d_M_isThere_93 : decode b_M_isThere 93 = .ok (.aload_n 0, 1) := by decide +kernel
theorem d_M_isThere_94 : decode b_M_isThere 94 = .ok (.getfield 19, 3) := by decide +kernel
theorem d_M_isThere_97 : decode b_M_isThere 97 = .ok (.iconst 4, 1) := by decide +kernel
theorem d_M_isThere_98 : decode b_M_isThere 98 = .ok (.iload 4, 2) := by decide +kernel
theorem d_M_isThere_100 : decode b_M_isThere 100 = .ok (.imul, 1) := by decide +kernel
theorem d_M_isThere_101 : decode b_M_isThere 101 = .ok (.iconst 3, 1) := by decide +kernel
theorem d_M_isThere_102 : decode b_M_isThere 102 = .ok (.iadd, 1) := by decide +kernel
theorem d_M_isThere_103 : decode b_M_isThere 103 = .ok (.iaload, 1) := by decide +kernel
theorem d_M_isThere_104 : decode b_M_isThere 104 = .ok (.istore 8, 2) := by decide +kernel
theorem d_M_isThere_106 : decode b_M_isThere 106 = .ok (.aload_n 0, 1) := by decide +kernel
theorem d_M_isThere_107 : decode b_M_isThere 107 = .ok (.getfield 93, 3) := by decide +kernel
theorem d_M_isThere_110 : decode b_M_isThere 110 = .ok (.aload_n 0, 1) := by decide +kernel
theorem d_M_isThere_111 : decode b_M_isThere 111 = .ok (.getfield 96, 3) := by decide +kernel
theorem d_M_isThere_114 : decode b_M_isThere 114 = .ok (.iload 5, 2) := by decide +kernel
theorem d_M_isThere_116 : decode b_M_isThere 116 = .ok (.iload 6, 2) := by decide +kernel
theorem d_M_isThere_118 : decode b_M_isThere 118 = .ok (.invokestatic 158, 3) := by decide +kernel
theorem d_M_isThere_121 : decode b_M_isThere 121 = .ok (.ifCond .eq 86, 3) := by decide +kernel
theorem d_M_isThere_124 : decode b_M_isThere 124 = .ok (.aload_n 0, 1) := by decide +kernel
theorem d_M_isThere_125 : decode b_M_isThere 125 = .ok (.getfield 93, 3) := by decide +kernel
theorem d_M_isThere_128 : decode b_M_isThere 128 = .ok (.aload_n 0, 1) := by decide +kernel
theorem d_M_isThere_129 : decode b_M_isThere 129 = .ok (.getfield 99, 3) := by decide +kernel
theorem d_M_isThere_132 : decode b_M_isThere 132 = .ok (.iload 5, 2) := by decide +kernel
theorem d_M_isThere_134 : decode b_M_isThere 134 = .ok (.iload 7, 2) := by decide +kernel
theorem d_M_isThere_136 : decode b_M_isThere 136 = .ok (.invokestatic 158, 3) := by decide +kernel
theorem d_M_isThere_139 : decode b_M_isThere 139 = .ok (.ifCond .eq 68, 3) := by decide +kernel
theorem d_M_isThere_142 : decode b_M_isThere 142 = .ok (.aload_n 0, 1) := by decide +kernel
theorem d_M_isThere_143 : decode b_M_isThere 143 = .ok (.getfield 96, 3) := by decide +kernel
theorem d_M_isThere_146 : decode b_M_isThere 146 = .ok (.aload_n 0, 1) := by decide +kernel
theorem d_M_isThere_147 : decode b_M_isThere 147 = .ok (.getfield 99, 3) := by decide +kernel
theorem d_M_isThere_150 : decode b_M_isThere 150 = .ok (.iload 6, 2) := by decide +kernel
theorem d_M_isThere_152 : decode b_M_isThere 152 = .ok (.iload 7, 2) := by decide +kernel
theorem d_M_isThere_154 : decode b_M_isThere 154 = .ok (.invokestatic 158, 3) := by decide +kernel
theorem d_M_isThere_157 : decode b_M_isThere 157 = .ok (.ifCond .eq 50, 3) := by decide +kernel
theorem d_M_isThere_160 : decode b_M_isThere 160 = .ok (.aload_n 0, 1) := by decide +kernel
theorem d_M_isThere_161 : decode b_M_isThere 161 = .ok (.getfield 93, 3) := by decide +kernel
theorem d_M_isThere_164 : decode b_M_isThere 164 = .ok (.iload_n 3, 1) := by decide +kernel
theorem d_M_isThere_165 : decode b_M_isThere 165 = .ok (.iload 5, 2) := by decide +kernel
theorem d_M_isThere_167 : decode b_M_isThere 167 = .ok (.iload 8, 2) := by decide +kernel
theorem d_M_isThere_169 : decode b_M_isThere 169 = .ok (.invokestatic 158, 3) := by decide +kernel
theorem d_M_isThere_172 : decode b_M_isThere 172 = .ok (.ifCond .eq 35, 3) := by decide +kernel
theorem d_M_isThere_175 : decode b_M_isThere 175 = .ok (.aload_n 0, 1) := by decide +kernel
theorem d_M_isThere_176 : decode b_M_isThere 176 = .ok (.getfield 96, 3) := by decide +kernel
theorem d_M_isThere_179 : decode b_M_isThere 179 = .ok (.iload_n 3, 1) := by decide +kernel
theorem d_M_isThere_180 : decode b_M_isThere 180 = .ok (.iload 6, 2) := by decide +kernel
theorem d_M_isThere_182 : decode b_M_isThere 182 = .ok (.iload 8, 2) := by decide +kernel
theorem d_M_isThere_184 : decode b_M_isThere 184 = .ok (.invokestatic 158, 3) := by decide +kernel
theorem d_M_isThere_187 : decode b_M_isThere 187 = .ok (.ifCond .eq 20, 3) := by decide +kernel
theorem d_M_isThere_190 : decode b_M_isThere 190 = .ok (.aload_n 0, 1) := by decide +kernel
theorem d_M_isThere_191 : decode b_M_isThere 191 = .ok (.getfield 99, 3) := by decide +kernel
theorem d_M_isThere_194 : decode b_M_isThere 194 = .ok (.iload_n 3, 1) := by decide +kernel
theorem d_M_isThere_195 : decode b_M_isThere 195 = .ok (.iload 7, 2) := by decide +kernel
theorem d_M_isThere_197 : decode b_M_isThere 197 = .ok (.iload 8, 2) := by decide +kernel
theorem d_M_isThere_199 : decode b_M_isThere 199 = .ok (.invokestatic 158, 3) := by decide +kernel
theorem d_M_isThere_202 : decode b_M_isThere 202 = .ok (.ifCond .eq 5, 3) := by decide +kernel
theorem d_M_isThere_205 : decode b_M_isThere 205 = .ok (.iconst 1, 1) := by decide +kernel
theorem d_M_isThere_206 : decode b_M_isThere 206 = .ok (.ireturn, 1) := by decide +kernel
theorem d_M_isThere_207 : decode b_M_isThere 207 = .ok (.iinc 4 1, 3) := by decide +kernel
theorem d_M_isThere_210 : decode b_M_isThere 210 = .ok (.goto (-163), 3) := by decide +kernel
theorem d_M_isThere_213 : decode b_M_isThere 213 = .ok (.iconst 0, 1) := by decide +kernel
theorem d_M_isThere_214 : decode b_M_isThere 214 = .ok (.ireturn, 1) := by decide +kernel
