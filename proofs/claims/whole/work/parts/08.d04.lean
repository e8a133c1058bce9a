theorem d_MOD_d_0 : decode prog_8_method_22_code 0 = .ok (.aload_n 0, 1) := by decide +kernel
theorem d_MOD_d_1 : decode prog_8_method_22_code 1 = .ok (.bipush 7, 2) := by decide +kernel
theorem d_MOD_d_3 : decode prog_8_method_22_code 3 = .ok (.iconst 5, 1) := by decide +kernel
theorem d_MOD_d_4 : decode prog_8_method_22_code 4 = .ok (.invokevirtual 110, 3) := by decide +kernel
theorem d_MOD_d_7 : decode prog_8_method_22_code 7 = .ok (.ireturn, 1) := by decide +kernel
theorem d_MOD_s_0 : decode prog_8_method_23_code 0 = .ok (.aload_n 0, 1) := by decide +kernel
theorem d_MOD_s_1 : decode prog_8_method_23_code 1 = .ok (.aload_n 0, 1) := by decide +kernel
theorem d_MOD_s_2 : decode prog_8_method_23_code 2 = .ok (.bipush 15, 2) := by decide +kernel
theorem d_MOD_s_4 : decode prog_8_method_23_code 4 = .ok (.iconst 5, 1) := by decide +kernel
theorem d_MOD_s_5 : decode prog_8_method_23_code 5 = .ok (.invokevirtual 110, 3) := by decide +kernel
theorem d_MOD_s_8 : decode prog_8_method_23_code 8 = .ok (.invokevirtual 113, 3) := by decide +kernel
theorem d_MOD_s_11 : decode prog_8_method_23_code 11 = .ok (.ireturn, 1) := by decide +kernel
theorem d_MOD_t_0 : decode prog_8_method_24_code 0 = .ok (.aload_n 0, 1) := by decide +kernel
theorem d_MOD_t_1 : decode prog_8_method_24_code 1 = .ok (.aload_n 0, 1) := by decide +kernel
theorem d_MOD_t_2 : decode prog_8_method_24_code 2 = .ok (.bipush 20, 2) := by decide +kernel
theorem d_MOD_t_4 : decode prog_8_method_24_code 4 = .ok (.iconst 5, 1) := by decide +kernel
theorem d_MOD_t_5 : decode prog_8_method_24_code 5 = .ok (.invokevirtual 110, 3) := by decide +kernel
theorem d_MOD_t_8 : decode prog_8_method_24_code 8 = .ok (.invokevirtual 113, 3) := by decide +kernel
theorem d_MOD_t_11 : decode prog_8_method_24_code 11 = .ok (.ireturn, 1) := by decide +kernel
theorem d_MOD_less_0 : decode prog_8_method_25_code 0 = .ok (.iload_n 2, 1) := by decide +kernel
theorem d_MOD_less_1 : decode prog_8_method_25_code 1 = .ok (.ifCond .eq 16, 3) := by decide +kernel
theorem d_MOD_less_4 : decode prog_8_method_25_code 4 = .ok (.iload_n 0, 1) := by decide +kernel
theorem d_MOD_less_5 : decode prog_8_method_25_code 5 = .ok (.iload_n 1, 1) := by decide +kernel
theorem d_MOD_less_6 : decode prog_8_method_25_code 6 = .ok (.if_icmp .ge 7, 3) := by decide +kernel
theorem d_MOD_less_9 : decode prog_8_method_25_code 9 = .ok (.iconst 1, 1) := by decide +kernel
theorem d_MOD_less_10 : decode prog_8_method_25_code 10 = .ok (.goto 28, 3) := by decide +kernel
theorem d_MOD_less_13 : decode prog_8_method_25_code 13 = .ok (.iconst 0, 1) := by decide +kernel
theorem d_MOD_less_14 : decode prog_8_method_25_code 14 = .ok (.goto 24, 3) := by decide +kernel
theorem d_MOD_less_17 : decode prog_8_method_25_code 17 = .ok (.iload_n 0, 1) := by decide +kernel
theorem d_MOD_less_18 : decode prog_8_method_25_code 18 = .ok (.i2l, 1) := by decide +kernel
theorem d_MOD_less_19 : decode prog_8_method_25_code 19 = .ok (.ldc2_w 116, 3) := by decide +kernel
theorem d_MOD_less_22 : decode prog_8_method_25_code 22 = .ok (.land, 1) := by decide +kernel
theorem d_MOD_less_23 : decode prog_8_method_25_code 23 = .ok (.iload_n 1, 1) := by decide +kernel
theorem d_MOD_less_24 : decode prog_8_method_25_code 24 = .ok (.i2l, 1) := by decide +kernel
theorem d_MOD_less_25 : decode prog_8_method_25_code 25 = .ok (.ldc2_w 116, 3) := by decide +kernel
theorem d_MOD_less_28 : decode prog_8_method_25_code 28 = .ok (.land, 1) := by decide +kernel
theorem d_MOD_less_29 : decode prog_8_method_25_code 29 = .ok (.lcmp, 1) := by decide +kernel
theorem d_MOD_less_30 : decode prog_8_method_25_code 30 = .ok (.ifCond .ge 7, 3) := by decide +kernel
theorem d_MOD_less_33 : decode prog_8_method_25_code 33 = .ok (.iconst 1, 1) := by decide +kernel
theorem d_MOD_less_34 : decode prog_8_method_25_code 34 = .ok (.goto 4, 3) := by decide +kernel
theorem d_MOD_less_37 : decode prog_8_method_25_code 37 = .ok (.iconst 0, 1) := by decide +kernel
theorem d_MOD_less_38 : decode prog_8_method_25_code 38 = .ok (.ireturn, 1) := by decide +kernel
theorem d_MOD_instruction_0 : decode prog_8_method_26_code 0 = .ok (.aload_n 0, 1) := by decide +kernel
theorem d_MOD_instruction_1 : decode prog_8_method_26_code 1 = .ok (.getfield 28, 3) := by decide +kernel
theorem d_MOD_instruction_4 : decode prog_8_method_26_code 4 = .ok (.aload_n 0, 1) := by decide +kernel
theorem d_MOD_instruction_5 : decode prog_8_method_26_code 5 = .ok (.getfield 97, 3) := by decide +kernel
theorem d_MOD_instruction_8 : decode prog_8_method_26_code 8 = .ok (.iaload, 1) := by decide +kernel
theorem d_MOD_instruction_9 : decode prog_8_method_26_code 9 = .ok (.istore_n 1, 1) := by decide +kernel
theorem d_MOD_instruction_10 : decode prog_8_method_26_code 10 = .ok (.aload_n 0, 1) := by decide +kernel
theorem d_MOD_instruction_11 : decode prog_8_method_26_code 11 = .ok (.iconst 1, 1) := by decide +kernel
theorem d_MOD_instruction_12 : decode prog_8_method_26_code 12 = .ok (.putfield 100, 3) := by decide +kernel
theorem d_MOD_instruction_15 : decode prog_8_method_26_code 15 = .ok (.aload_n 0, 1) := by decide +kernel
theorem d_MOD_instruction_16 : decode prog_8_method_26_code 16 = .ok (.iconst 0, 1) := by decide +kernel
theorem d_MOD_instruction_17 : decode prog_8_method_26_code 17 = .ok (.putfield 118, 3) := by decide +kernel
theorem d_MOD_instruction_20 : decode prog_8_method_26_code 20 = .ok (.aload_n 0, 1) := by decide +kernel
theorem d_MOD_instruction_21 : decode prog_8_method_26_code 21 = .ok (.iload_n 1, 1) := by decide +kernel
theorem d_MOD_instruction_22 : decode prog_8_method_26_code 22 = .ok (.iconst 4, 1) := by decide +kernel
theorem d_MOD_instruction_23 : decode prog_8_method_26_code 23 = .ok (.iadd, 1) := by decide +kernel
theorem d_MOD_instruction_24 : decode prog_8_method_26_code 24 = .ok (.putfield 121, 3) := by decide +kernel
theorem d_MOD_instruction_27 : decode prog_8_method_26_code 27 = .ok (.aload_n 0, 1) := by decide +kernel
theorem d_MOD_instruction_28 : decode prog_8_method_26_code 28 = .ok (.aload_n 0, 1) := by decide +kernel
theorem d_MOD_instruction_29 : decode prog_8_method_26_code 29 = .ok (.getfield 97, 3) := by decide +kernel
theorem d_MOD_instruction_32 : decode prog_8_method_26_code 32 = .ok (.iload_n 1, 1) := by decide +kernel
theorem d_MOD_instruction_33 : decode prog_8_method_26_code 33 = .ok (.invokevirtual 124, 3) := by decide +kernel
theorem d_MOD_instruction_36 : decode prog_8_method_26_code 36 = .ok (.ifCond .ne 9, 3) := by decide +kernel
theorem d_MOD_instruction_39 : decode prog_8_method_26_code 39 = .ok (.aload_n 0, 1) := by decide +kernel
theorem d_MOD_instruction_40 : decode prog_8_method_26_code 40 = .ok (.iconst 1, 1) := by decide +kernel
theorem d_MOD_instruction_41 : decode prog_8_method_26_code 41 = .ok (.invokevirtual 128, 3) := by decide +kernel
theorem d_MOD_instruction_44 : decode prog_8_method_26_code 44 = .ok (.return_, 1) := by decide +kernel
theorem d_MOD_instruction_45 : decode prog_8_method_26_code 45 = .ok (.aload_n 0, 1) := by decide +kernel
theorem d_MOD_instruction_46 : decode prog_8_method_26_code 46 = .ok (.aload_n 0, 1) := by decide +kernel
theorem d_MOD_instruction_47 : decode prog_8_method_26_code 47 = .ok (.getfield 7, 3) := by decide +kernel
theorem d_MOD_instruction_50 : decode prog_8_method_26_code 50 = .ok (.aload_n 0, 1) := by decide +kernel
theorem d_MOD_instruction_51 : decode prog_8_method_26_code 51 = .ok (.aload_n 0, 1) := by decide +kernel
theorem d_MOD_instruction_52 : decode prog_8_method_26_code 52 = .ok (.getfield 97, 3) := by decide +kernel
theorem d_MOD_instruction_55 : decode prog_8_method_26_code 55 = .ok (.iload_n 1, 1) := by decide +kernel
theorem d_MOD_instruction_56 : decode prog_8_method_26_code 56 = .ok (.invokevirtual 80, 3) := by decide +kernel
theorem d_MOD_instruction_59 : decode prog_8_method_26_code 59 = .ok (.iaload, 1) := by decide +kernel
theorem d_MOD_instruction_60 : decode prog_8_method_26_code 60 = .ok (.putfield 107, 3) := by decide +kernel
theorem d_MOD_instruction_63 : decode prog_8_method_26_code 63 = .ok (.aload_n 0, 1) := by decide +kernel
theorem d_MOD_instruction_64 : decode prog_8_method_26_code 64 = .ok (.iconst 0, 1) := by decide +kernel
theorem d_MOD_instruction_65 : decode prog_8_method_26_code 65 = .ok (.bipush 7, 2) := by decide +kernel
theorem d_MOD_instruction_67 : decode prog_8_method_26_code 67 = .ok (.invokevirtual 110, 3) := by decide +kernel
theorem d_MOD_instruction_70 : decode prog_8_method_26_code 70 = .ok (.istore_n 2, 1) := by decide +kernel
theorem d_MOD_instruction_71 : decode prog_8_method_26_code 71 = .ok (.iload_n 2, 1) := by decide +kernel
theorem d_MOD_instruction_72 : decode prog_8_method_26_code 72 = .ok (.bipush 55, 2) := by decide +kernel
theorem d_MOD_instruction_74 : decode prog_8_method_26_code 74 = .ok (.if_icmp .ne 22, 3) := by decide +kernel
theorem d_MOD_instruction_77 : decode prog_8_method_26_code 77 = .ok (.aload_n 0, 1) := by decide +kernel
theorem d_MOD_instruction_78 : decode prog_8_method_26_code 78 = .ok (.aload_n 0, 1) := by decide +kernel
theorem d_MOD_instruction_79 : decode prog_8_method_26_code 79 = .ok (.invokevirtual 131, 3) := by decide +kernel
theorem d_MOD_instruction_82 : decode prog_8_method_26_code 82 = .ok (.aload_n 0, 1) := by decide +kernel
theorem d_MOD_instruction_83 : decode prog_8_method_26_code 83 = .ok (.getfield 107, 3) := by decide +kernel
theorem d_MOD_instruction_86 : decode prog_8_method_26_code 86 = .ok (.sipush (-4096), 3) := by decide +kernel
theorem d_MOD_instruction_89 : decode prog_8_method_26_code 89 = .ok (.iand, 1) := by decide +kernel
theorem d_MOD_instruction_90 : decode prog_8_method_26_code 90 = .ok (.invokevirtual 135, 3) := by decide +kernel
theorem d_MOD_instruction_93 : decode prog_8_method_26_code 93 = .ok (.goto 256, 3) := by decide +kernel
theorem d_MOD_instruction_96 : decode prog_8_method_26_code 96 = .ok (.iload_n 2, 1) := by decide +kernel
theorem d_MOD_instruction_97 : decode prog_8_method_26_code 97 = .ok (.bipush 23, 2) := by decide +kernel
theorem d_MOD_instruction_99 : decode prog_8_method_26_code 99 = .ok (.if_icmp .ne 24, 3) := by decide +kernel
theorem d_MOD_instruction_102 : decode prog_8_method_26_code 102 = .ok (.aload_n 0, 1) := by decide +kernel
theorem d_MOD_instruction_103 : decode prog_8_method_26_code 103 = .ok (.aload_n 0, 1) := by decide +kernel
theorem d_MOD_instruction_104 : decode prog_8_method_26_code 104 = .ok (.invokevirtual 131, 3) := by decide +kernel
theorem d_MOD_instruction_107 : decode prog_8_method_26_code 107 = .ok (.iload_n 1, 1) := by decide +kernel
theorem d_MOD_instruction_108 : decode prog_8_method_26_code 108 = .ok (.aload_n 0, 1) := by decide +kernel
theorem d_MOD_instruction_109 : decode prog_8_method_26_code 109 = .ok (.getfield 107, 3) := by decide +kernel
theorem d_MOD_instruction_112 : decode prog_8_method_26_code 112 = .ok (.sipush (-4096), 3) := by decide +kernel
theorem d_MOD_instruction_115 : decode prog_8_method_26_code 115 = .ok (.iand, 1) := by decide +kernel
theorem d_MOD_instruction_116 : decode prog_8_method_26_code 116 = .ok (.iadd, 1) := by decide +kernel
theorem d_MOD_instruction_117 : decode prog_8_method_26_code 117 = .ok (.invokevirtual 135, 3) := by decide +kernel
theorem d_MOD_instruction_120 : decode prog_8_method_26_code 120 = .ok (.goto 229, 3) := by decide +kernel
theorem d_MOD_instruction_123 : decode prog_8_method_26_code 123 = .ok (.iload_n 2, 1) := by decide +kernel
theorem d_MOD_instruction_124 : decode prog_8_method_26_code 124 = .ok (.bipush 111, 2) := by decide +kernel
theorem d_MOD_instruction_126 : decode prog_8_method_26_code 126 = .ok (.if_icmp .ne 56, 3) := by decide +kernel
theorem d_MOD_instruction_129 : decode prog_8_method_26_code 129 = .ok (.aload_n 0, 1) := by decide +kernel
theorem d_MOD_instruction_130 : decode prog_8_method_26_code 130 = .ok (.iload_n 1, 1) := by decide +kernel
theorem d_MOD_instruction_131 : decode prog_8_method_26_code 131 = .ok (.aload_n 0, 1) := by decide +kernel
theorem d_MOD_instruction_132 : decode prog_8_method_26_code 132 = .ok (.getfield 107, 3) := by decide +kernel
theorem d_MOD_instruction_135 : decode prog_8_method_26_code 135 = .ok (.bipush 31, 2) := by decide +kernel
theorem d_MOD_instruction_137 : decode prog_8_method_26_code 137 = .ok (.ishr, 1) := by decide +kernel
theorem d_MOD_instruction_138 : decode prog_8_method_26_code 138 = .ok (.bipush 20, 2) := by decide +kernel
theorem d_MOD_instruction_140 : decode prog_8_method_26_code 140 = .ok (.ishl, 1) := by decide +kernel
theorem d_MOD_instruction_141 : decode prog_8_method_26_code 141 = .ok (.aload_n 0, 1) := by decide +kernel
theorem d_MOD_instruction_142 : decode prog_8_method_26_code 142 = .ok (.bipush 12, 2) := by decide +kernel
theorem d_MOD_instruction_144 : decode prog_8_method_26_code 144 = .ok (.bipush 8, 2) := by decide +kernel
theorem d_MOD_instruction_146 : decode prog_8_method_26_code 146 = .ok (.invokevirtual 110, 3) := by decide +kernel
theorem d_MOD_instruction_149 : decode prog_8_method_26_code 149 = .ok (.bipush 12, 2) := by decide +kernel
theorem d_MOD_instruction_151 : decode prog_8_method_26_code 151 = .ok (.ishl, 1) := by decide +kernel
theorem d_MOD_instruction_152 : decode prog_8_method_26_code 152 = .ok (.ior, 1) := by decide +kernel
theorem d_MOD_instruction_153 : decode prog_8_method_26_code 153 = .ok (.aload_n 0, 1) := by decide +kernel
theorem d_MOD_instruction_154 : decode prog_8_method_26_code 154 = .ok (.bipush 20, 2) := by decide +kernel
theorem d_MOD_instruction_156 : decode prog_8_method_26_code 156 = .ok (.iconst 1, 1) := by decide +kernel
theorem d_MOD_instruction_157 : decode prog_8_method_26_code 157 = .ok (.invokevirtual 110, 3) := by decide +kernel
theorem d_MOD_instruction_160 : decode prog_8_method_26_code 160 = .ok (.bipush 11, 2) := by decide +kernel
theorem d_MOD_instruction_162 : decode prog_8_method_26_code 162 = .ok (.ishl, 1) := by decide +kernel
theorem d_MOD_instruction_163 : decode prog_8_method_26_code 163 = .ok (.ior, 1) := by decide +kernel
theorem d_MOD_instruction_164 : decode prog_8_method_26_code 164 = .ok (.aload_n 0, 1) := by decide +kernel
theorem d_MOD_instruction_165 : decode prog_8_method_26_code 165 = .ok (.bipush 21, 2) := by decide +kernel
theorem d_MOD_instruction_167 : decode prog_8_method_26_code 167 = .ok (.bipush 10, 2) := by decide +kernel
theorem d_MOD_instruction_169 : decode prog_8_method_26_code 169 = .ok (.invokevirtual 110, 3) := by decide +kernel
theorem d_MOD_instruction_172 : decode prog_8_method_26_code 172 = .ok (.iconst 1, 1) := by decide +kernel
theorem d_MOD_instruction_173 : decode prog_8_method_26_code 173 = .ok (.ishl, 1) := by decide +kernel
theorem d_MOD_instruction_174 : decode prog_8_method_26_code 174 = .ok (.ior, 1) := by decide +kernel
theorem d_MOD_instruction_175 : decode prog_8_method_26_code 175 = .ok (.iadd, 1) := by decide +kernel
theorem d_MOD_instruction_176 : decode prog_8_method_26_code 176 = .ok (.invokevirtual 138, 3) := by decide +kernel
theorem d_MOD_instruction_179 : decode prog_8_method_26_code 179 = .ok (.goto 170, 3) := by decide +kernel
theorem d_MOD_instruction_182 : decode prog_8_method_26_code 182 = .ok (.iload_n 2, 1) := by decide +kernel
theorem d_MOD_instruction_183 : decode prog_8_method_26_code 183 = .ok (.bipush 103, 2) := by decide +kernel
theorem d_MOD_instruction_185 : decode prog_8_method_26_code 185 = .ok (.if_icmp .ne 35, 3) := by decide +kernel
theorem d_MOD_instruction_188 : decode prog_8_method_26_code 188 = .ok (.aload_n 0, 1) := by decide +kernel
theorem d_MOD_instruction_189 : decode prog_8_method_26_code 189 = .ok (.bipush 12, 2) := by decide +kernel
theorem d_MOD_instruction_191 : decode prog_8_method_26_code 191 = .ok (.iconst 3, 1) := by decide +kernel
theorem d_MOD_instruction_192 : decode prog_8_method_26_code 192 = .ok (.invokevirtual 110, 3) := by decide +kernel
theorem d_MOD_instruction_195 : decode prog_8_method_26_code 195 = .ok (.ifCond .ne 25, 3) := by decide +kernel
theorem d_MOD_instruction_198 : decode prog_8_method_26_code 198 = .ok (.aload_n 0, 1) := by decide +kernel
theorem d_MOD_instruction_199 : decode prog_8_method_26_code 199 = .ok (.aload_n 0, 1) := by decide +kernel
theorem d_MOD_instruction_200 : decode prog_8_method_26_code 200 = .ok (.invokevirtual 141, 3) := by decide +kernel
theorem d_MOD_instruction_203 : decode prog_8_method_26_code 203 = .ok (.aload_n 0, 1) := by decide +kernel
theorem d_MOD_instruction_204 : decode prog_8_method_26_code 204 = .ok (.getfield 107, 3) := by decide +kernel
theorem d_MOD_instruction_207 : decode prog_8_method_26_code 207 = .ok (.bipush 20, 2) := by decide +kernel
theorem d_MOD_instruction_209 : decode prog_8_method_26_code 209 = .ok (.ishr, 1) := by decide +kernel
theorem d_MOD_instruction_210 : decode prog_8_method_26_code 210 = .ok (.iadd, 1) := by decide +kernel
theorem d_MOD_instruction_211 : decode prog_8_method_26_code 211 = .ok (.bipush (-2), 2) := by decide +kernel
theorem d_MOD_instruction_213 : decode prog_8_method_26_code 213 = .ok (.iand, 1) := by decide +kernel
theorem d_MOD_instruction_214 : decode prog_8_method_26_code 214 = .ok (.invokevirtual 138, 3) := by decide +kernel
theorem d_MOD_instruction_217 : decode prog_8_method_26_code 217 = .ok (.goto 132, 3) := by decide +kernel
theorem d_MOD_instruction_220 : decode prog_8_method_26_code 220 = .ok (.iload_n 2, 1) := by decide +kernel
theorem d_MOD_instruction_221 : decode prog_8_method_26_code 221 = .ok (.bipush 99, 2) := by decide +kernel
theorem d_MOD_instruction_223 : decode prog_8_method_26_code 223 = .ok (.if_icmp .ne 11, 3) := by decide +kernel
theorem d_MOD_instruction_226 : decode prog_8_method_26_code 226 = .ok (.aload_n 0, 1) := by decide +kernel
theorem d_MOD_instruction_227 : decode prog_8_method_26_code 227 = .ok (.iload_n 1, 1) := by decide +kernel
theorem d_MOD_instruction_228 : decode prog_8_method_26_code 228 = .ok (.invokevirtual 144, 3) := by decide +kernel
theorem d_MOD_instruction_231 : decode prog_8_method_26_code 231 = .ok (.goto 118, 3) := by decide +kernel
theorem d_MOD_instruction_234 : decode prog_8_method_26_code 234 = .ok (.iload_n 2, 1) := by decide +kernel
theorem d_MOD_instruction_235 : decode prog_8_method_26_code 235 = .ok (.iconst 3, 1) := by decide +kernel
theorem d_MOD_instruction_236 : decode prog_8_method_26_code 236 = .ok (.if_icmp .ne 10, 3) := by decide +kernel
theorem d_MOD_instruction_239 : decode prog_8_method_26_code 239 = .ok (.aload_n 0, 1) := by decide +kernel
theorem d_MOD_instruction_240 : decode prog_8_method_26_code 240 = .ok (.invokevirtual 147, 3) := by decide +kernel
theorem d_MOD_instruction_243 : decode prog_8_method_26_code 243 = .ok (.goto 106, 3) := by decide +kernel
theorem d_MOD_instruction_246 : decode prog_8_method_26_code 246 = .ok (.iload_n 2, 1) := by decide +kernel
theorem d_MOD_instruction_247 : decode prog_8_method_26_code 247 = .ok (.bipush 35, 2) := by decide +kernel
theorem d_MOD_instruction_249 : decode prog_8_method_26_code 249 = .ok (.if_icmp .ne 10, 3) := by decide +kernel
theorem d_MOD_instruction_252 : decode prog_8_method_26_code 252 = .ok (.aload_n 0, 1) := by decide +kernel
theorem d_MOD_instruction_253 : decode prog_8_method_26_code 253 = .ok (.invokevirtual 150, 3) := by decide +kernel
theorem d_MOD_instruction_256 : decode prog_8_method_26_code 256 = .ok (.goto 93, 3) := by decide +kernel
theorem d_MOD_instruction_259 : decode prog_8_method_26_code 259 = .ok (.iload_n 2, 1) := by decide +kernel
theorem d_MOD_instruction_260 : decode prog_8_method_26_code 260 = .ok (.bipush 19, 2) := by decide +kernel
theorem d_MOD_instruction_262 : decode prog_8_method_26_code 262 = .ok (.if_icmp .eq 9, 3) := by decide +kernel
theorem d_MOD_instruction_265 : decode prog_8_method_26_code 265 = .ok (.iload_n 2, 1) := by decide +kernel
theorem d_MOD_instruction_266 : decode prog_8_method_26_code 266 = .ok (.bipush 51, 2) := by decide +kernel
theorem d_MOD_instruction_268 : decode prog_8_method_26_code 268 = .ok (.if_icmp .ne 21, 3) := by decide +kernel
theorem d_MOD_instruction_271 : decode prog_8_method_26_code 271 = .ok (.aload_n 0, 1) := by decide +kernel
theorem d_MOD_instruction_272 : decode prog_8_method_26_code 272 = .ok (.iload_n 2, 1) := by decide +kernel
theorem d_MOD_instruction_273 : decode prog_8_method_26_code 273 = .ok (.bipush 51, 2) := by decide +kernel
theorem d_MOD_instruction_275 : decode prog_8_method_26_code 275 = .ok (.if_icmp .ne 7, 3) := by decide +kernel
theorem d_MOD_instruction_278 : decode prog_8_method_26_code 278 = .ok (.iconst 1, 1) := by decide +kernel
theorem d_MOD_instruction_279 : decode prog_8_method_26_code 279 = .ok (.goto 4, 3) := by decide +kernel
theorem d_MOD_instruction_282 : decode prog_8_method_26_code 282 = .ok (.iconst 0, 1) := by decide +kernel
theorem d_MOD_instruction_283 : decode prog_8_method_26_code 283 = .ok (.invokevirtual 153, 3) := by decide +kernel
theorem d_MOD_instruction_286 : decode prog_8_method_26_code 286 = .ok (.goto 63, 3) := by decide +kernel
theorem d_MOD_instruction_289 : decode prog_8_method_26_code 289 = .ok (.iload_n 2, 1) := by decide +kernel
theorem d_MOD_instruction_290 : decode prog_8_method_26_code 290 = .ok (.bipush 115, 2) := by decide +kernel
theorem d_MOD_instruction_292 : decode prog_8_method_26_code 292 = .ok (.if_icmp .ne 19, 3) := by decide +kernel
theorem d_MOD_instruction_295 : decode prog_8_method_26_code 295 = .ok (.aload_n 0, 1) := by decide +kernel
theorem d_MOD_instruction_296 : decode prog_8_method_26_code 296 = .ok (.getfield 107, 3) := by decide +kernel
theorem d_MOD_instruction_299 : decode prog_8_method_26_code 299 = .ok (.bipush 115, 2) := by decide +kernel
theorem d_MOD_instruction_301 : decode prog_8_method_26_code 301 = .ok (.if_icmp .ne 10, 3) := by decide +kernel
theorem d_MOD_instruction_304 : decode prog_8_method_26_code 304 = .ok (.aload_n 0, 1) := by decide +kernel
theorem d_MOD_instruction_305 : decode prog_8_method_26_code 305 = .ok (.invokevirtual 157, 3) := by decide +kernel
theorem d_MOD_instruction_308 : decode prog_8_method_26_code 308 = .ok (.goto 41, 3) := by decide +kernel
theorem d_MOD_instruction_311 : decode prog_8_method_26_code 311 = .ok (.aload_n 0, 1) := by decide +kernel
theorem d_MOD_instruction_312 : decode prog_8_method_26_code 312 = .ok (.getfield 107, 3) := by decide +kernel
theorem d_MOD_instruction_315 : decode prog_8_method_26_code 315 = .ok (.ldc 160, 2) := by decide +kernel
theorem d_MOD_instruction_317 : decode prog_8_method_26_code 317 = .ok (.if_icmp .ne 11, 3) := by decide +kernel
theorem d_MOD_instruction_320 : decode prog_8_method_26_code 320 = .ok (.aload_n 0, 1) := by decide +kernel
theorem d_MOD_instruction_321 : decode prog_8_method_26_code 321 = .ok (.iconst 3, 1) := by decide +kernel
theorem d_MOD_instruction_322 : decode prog_8_method_26_code 322 = .ok (.invokevirtual 128, 3) := by decide +kernel
theorem d_MOD_instruction_325 : decode prog_8_method_26_code 325 = .ok (.goto 24, 3) := by decide +kernel
theorem d_MOD_instruction_328 : decode prog_8_method_26_code 328 = .ok (.iload_n 2, 1) := by decide +kernel
theorem d_MOD_instruction_329 : decode prog_8_method_26_code 329 = .ok (.bipush 15, 2) := by decide +kernel
theorem d_MOD_instruction_331 : decode prog_8_method_26_code 331 = .ok (.if_icmp .ne 13, 3) := by decide +kernel
theorem d_MOD_instruction_334 : decode prog_8_method_26_code 334 = .ok (.aload_n 0, 1) := by decide +kernel
theorem d_MOD_instruction_335 : decode prog_8_method_26_code 335 = .ok (.bipush 12, 2) := by decide +kernel
theorem d_MOD_instruction_337 : decode prog_8_method_26_code 337 = .ok (.iconst 3, 1) := by decide +kernel
theorem d_MOD_instruction_338 : decode prog_8_method_26_code 338 = .ok (.invokevirtual 110, 3) := by decide +kernel
theorem d_MOD_instruction_341 : decode prog_8_method_26_code 341 = .ok (.ifCond .eq 8, 3) := by decide +kernel
theorem d_MOD_instruction_344 : decode prog_8_method_26_code 344 = .ok (.aload_n 0, 1) := by decide +kernel
theorem d_MOD_instruction_345 : decode prog_8_method_26_code 345 = .ok (.iconst 2, 1) := by decide +kernel
theorem d_MOD_instruction_346 : decode prog_8_method_26_code 346 = .ok (.invokevirtual 128, 3) := by decide +kernel
theorem d_MOD_instruction_349 : decode prog_8_method_26_code 349 = .ok (.aload_n 0, 1) := by decide +kernel
theorem d_MOD_instruction_350 : decode prog_8_method_26_code 350 = .ok (.getfield 100, 3) := by decide +kernel
theorem d_MOD_instruction_353 : decode prog_8_method_26_code 353 = .ok (.ifCond .eq 16, 3) := by decide +kernel
theorem d_MOD_instruction_356 : decode prog_8_method_26_code 356 = .ok (.aload_n 0, 1) := by decide +kernel
theorem d_MOD_instruction_357 : decode prog_8_method_26_code 357 = .ok (.getfield 28, 3) := by decide +kernel
theorem d_MOD_instruction_360 : decode prog_8_method_26_code 360 = .ok (.aload_n 0, 1) := by decide +kernel
theorem d_MOD_instruction_361 : decode prog_8_method_26_code 361 = .ok (.getfield 97, 3) := by decide +kernel
theorem d_MOD_instruction_364 : decode prog_8_method_26_code 364 = .ok (.aload_n 0, 1) := by decide +kernel
theorem d_MOD_instruction_365 : decode prog_8_method_26_code 365 = .ok (.getfield 121, 3) := by decide +kernel
theorem d_MOD_instruction_368 : decode prog_8_method_26_code 368 = .ok (.iastore, 1) := by decide +kernel
theorem d_MOD_instruction_369 : decode prog_8_method_26_code 369 = .ok (.return_, 1) := by decide +kernel
theorem d_MOD_jump_0 : decode prog_8_method_27_code 0 = .ok (.iload_n 1, 1) := by decide +kernel
theorem d_MOD_jump_1 : decode prog_8_method_27_code 1 = .ok (.iconst 4, 1) := by decide +kernel
theorem d_MOD_jump_2 : decode prog_8_method_27_code 2 = .ok (.irem, 1) := by decide +kernel
theorem d_MOD_jump_3 : decode prog_8_method_27_code 3 = .ok (.ifCond .eq 9, 3) := by decide +kernel
theorem d_MOD_jump_6 : decode prog_8_method_27_code 6 = .ok (.aload_n 0, 1) := by decide +kernel
theorem d_MOD_jump_7 : decode prog_8_method_27_code 7 = .ok (.iconst 0, 1) := by decide +kernel
theorem d_MOD_jump_8 : decode prog_8_method_27_code 8 = .ok (.invokevirtual 128, 3) := by decide +kernel
theorem d_MOD_jump_11 : decode prog_8_method_27_code 11 = .ok (.return_, 1) := by decide +kernel
theorem d_MOD_jump_12 : decode prog_8_method_27_code 12 = .ok (.aload_n 0, 1) := by decide +kernel
theorem d_MOD_jump_13 : decode prog_8_method_27_code 13 = .ok (.aload_n 0, 1) := by decide +kernel
theorem d_MOD_jump_14 : decode prog_8_method_27_code 14 = .ok (.invokevirtual 131, 3) := by decide +kernel
theorem d_MOD_jump_17 : decode prog_8_method_27_code 17 = .ok (.aload_n 0, 1) := by decide +kernel
theorem d_MOD_jump_18 : decode prog_8_method_27_code 18 = .ok (.getfield 28, 3) := by decide +kernel
theorem d_MOD_jump_21 : decode prog_8_method_27_code 21 = .ok (.aload_n 0, 1) := by decide +kernel
theorem d_MOD_jump_22 : decode prog_8_method_27_code 22 = .ok (.getfield 97, 3) := by decide +kernel
theorem d_MOD_jump_25 : decode prog_8_method_27_code 25 = .ok (.iaload, 1) := by decide +kernel
theorem d_MOD_jump_26 : decode prog_8_method_27_code 26 = .ok (.iconst 4, 1) := by decide +kernel
theorem d_MOD_jump_27 : decode prog_8_method_27_code 27 = .ok (.iadd, 1) := by decide +kernel
theorem d_MOD_jump_28 : decode prog_8_method_27_code 28 = .ok (.invokevirtual 135, 3) := by decide +kernel
theorem d_MOD_jump_31 : decode prog_8_method_27_code 31 = .ok (.aload_n 0, 1) := by decide +kernel
theorem d_MOD_jump_32 : decode prog_8_method_27_code 32 = .ok (.iload_n 1, 1) := by decide +kernel
theorem d_MOD_jump_33 : decode prog_8_method_27_code 33 = .ok (.putfield 121, 3) := by decide +kernel
theorem d_MOD_jump_36 : decode prog_8_method_27_code 36 = .ok (.return_, 1) := by decide +kernel
theorem d_MOD_branch_0 : decode prog_8_method_28_code 0 = .ok (.aload_n 0, 1) := by decide +kernel
theorem d_MOD_branch_1 : decode prog_8_method_28_code 1 = .ok (.bipush 12, 2) := by decide +kernel
theorem d_MOD_branch_3 : decode prog_8_method_28_code 3 = .ok (.iconst 3, 1) := by decide +kernel
theorem d_MOD_branch_4 : decode prog_8_method_28_code 4 = .ok (.invokevirtual 110, 3) := by decide +kernel
theorem d_MOD_branch_7 : decode prog_8_method_28_code 7 = .ok (.istore_n 2, 1) := by decide +kernel
theorem d_MOD_branch_8 : decode prog_8_method_28_code 8 = .ok (.aload_n 0, 1) := by decide +kernel
theorem d_MOD_branch_9 : decode prog_8_method_28_code 9 = .ok (.invokevirtual 141, 3) := by decide +kernel
theorem d_MOD_branch_12 : decode prog_8_method_28_code 12 = .ok (.istore_n 3, 1) := by decide +kernel
theorem d_MOD_branch_13 : decode prog_8_method_28_code 13 = .ok (.aload_n 0, 1) := by decide +kernel
theorem d_MOD_branch_14 : decode prog_8_method_28_code 14 = .ok (.invokevirtual 161, 3) := by decide +kernel
theorem d_MOD_branch_17 : decode prog_8_method_28_code 17 = .ok (.istore 4, 2) := by decide +kernel
theorem d_MOD_branch_19 : decode prog_8_method_28_code 19 = .ok (.iload_n 2, 1) := by decide +kernel
theorem d_MOD_branch_20 : decode prog_8_method_28_code 20 = .ok (.iconst 2, 1) := by decide +kernel
theorem d_MOD_branch_21 : decode prog_8_method_28_code 21 = .ok (.if_icmp .eq 8, 3) := by decide +kernel
theorem d_MOD_branch_24 : decode prog_8_method_28_code 24 = .ok (.iload_n 2, 1) := by decide +kernel
theorem d_MOD_branch_25 : decode prog_8_method_28_code 25 = .ok (.iconst 3, 1) := by decide +kernel
theorem d_MOD_branch_26 : decode prog_8_method_28_code 26 = .ok (.if_icmp .ne 9, 3) := by decide +kernel
theorem d_MOD_branch_29 : decode prog_8_method_28_code 29 = .ok (.aload_n 0, 1) := by decide +kernel
theorem d_MOD_branch_30 : decode prog_8_method_28_code 30 = .ok (.iconst 2, 1) := by decide +kernel
theorem d_MOD_branch_31 : decode prog_8_method_28_code 31 = .ok (.invokevirtual 128, 3) := by decide +kernel
theorem d_MOD_branch_34 : decode prog_8_method_28_code 34 = .ok (.return_, 1) := by decide +kernel
theorem d_MOD_branch_35 : decode prog_8_method_28_code 35 = .ok (.iload_n 2, 1) := by decide +kernel
theorem d_MOD_branch_36 : decode prog_8_method_28_code 36 = .ok (.iconst 2, 1) := by decide +kernel
theorem d_MOD_branch_37 : decode prog_8_method_28_code 37 = .ok (.if_icmp .ge 17, 3) := by decide +kernel
theorem d_MOD_branch_40 : decode prog_8_method_28_code 40 = .ok (.iload_n 3, 1) := by decide +kernel
theorem d_MOD_branch_41 : decode prog_8_method_28_code 41 = .ok (.iload 4, 2) := by decide +kernel
theorem d_MOD_branch_43 : decode prog_8_method_28_code 43 = .ok (.if_icmp .ne 7, 3) := by decide +kernel
theorem d_MOD_branch_46 : decode prog_8_method_28_code 46 = .ok (.iconst 1, 1) := by decide +kernel
theorem d_MOD_branch_47 : decode prog_8_method_28_code 47 = .ok (.goto 24, 3) := by decide +kernel
theorem d_MOD_branch_50 : decode prog_8_method_28_code 50 = .ok (.iconst 0, 1) := by decide +kernel
theorem d_MOD_branch_51 : decode prog_8_method_28_code 51 = .ok (.goto 20, 3) := by decide +kernel
theorem d_MOD_branch_54 : decode prog_8_method_28_code 54 = .ok (.iload_n 3, 1) := by decide +kernel
theorem d_MOD_branch_55 : decode prog_8_method_28_code 55 = .ok (.iload 4, 2) := by decide +kernel
theorem d_MOD_branch_57 : decode prog_8_method_28_code 57 = .ok (.iload_n 2, 1) := by decide +kernel
theorem d_MOD_branch_58 : decode prog_8_method_28_code 58 = .ok (.bipush 6, 2) := by decide +kernel
theorem d_MOD_branch_60 : decode prog_8_method_28_code 60 = .ok (.if_icmp .ge 7, 3) := by decide +kernel
theorem d_MOD_branch_63 : decode prog_8_method_28_code 63 = .ok (.iconst 1, 1) := by decide +kernel
theorem d_MOD_branch_64 : decode prog_8_method_28_code 64 = .ok (.goto 4, 3) := by decide +kernel
theorem d_MOD_branch_67 : decode prog_8_method_28_code 67 = .ok (.iconst 0, 1) := by decide +kernel
theorem d_MOD_branch_68 : decode prog_8_method_28_code 68 = .ok (.invokestatic 164, 3) := by decide +kernel
theorem d_MOD_branch_71 : decode prog_8_method_28_code 71 = .ok (.istore 5, 2) := by decide +kernel
theorem d_MOD_branch_73 : decode prog_8_method_28_code 73 = .ok (.iload 5, 2) := by decide +kernel
theorem d_MOD_branch_75 : decode prog_8_method_28_code 75 = .ok (.iload_n 2, 1) := by decide +kernel
theorem d_MOD_branch_76 : decode prog_8_method_28_code 76 = .ok (.iconst 2, 1) := by decide +kernel
theorem d_MOD_branch_77 : decode prog_8_method_28_code 77 = .ok (.irem, 1) := by decide +kernel
theorem d_MOD_branch_78 : decode prog_8_method_28_code 78 = .ok (.iconst 1, 1) := by decide +kernel
theorem d_MOD_branch_79 : decode prog_8_method_28_code 79 = .ok (.if_icmp .ne 7, 3) := by decide +kernel
theorem d_MOD_branch_82 : decode prog_8_method_28_code 82 = .ok (.iconst 1, 1) := by decide +kernel
theorem d_MOD_branch_83 : decode prog_8_method_28_code 83 = .ok (.goto 4, 3) := by decide +kernel
theorem d_MOD_branch_86 : decode prog_8_method_28_code 86 = .ok (.iconst 0, 1) := by decide +kernel
theorem d_MOD_branch_87 : decode prog_8_method_28_code 87 = .ok (.if_icmp .ne 4, 3) := by decide +kernel
theorem d_MOD_branch_90 : decode prog_8_method_28_code 90 = .ok (.return_, 1) := by decide +kernel
theorem d_MOD_branch_91 : decode prog_8_method_28_code 91 = .ok (.iload_n 1, 1) := by decide +kernel
theorem d_MOD_branch_92 : decode prog_8_method_28_code 92 = .ok (.aload_n 0, 1) := by decide +kernel
theorem d_MOD_branch_93 : decode prog_8_method_28_code 93 = .ok (.getfield 107, 3) := by decide +kernel
theorem d_MOD_branch_96 : decode prog_8_method_28_code 96 = .ok (.bipush 31, 2) := by decide +kernel
theorem d_MOD_branch_98 : decode prog_8_method_28_code 98 = .ok (.ishr, 1) := by decide +kernel
theorem d_MOD_branch_99 : decode prog_8_method_28_code 99 = .ok (.bipush 12, 2) := by decide +kernel
theorem d_MOD_branch_101 : decode prog_8_method_28_code 101 = .ok (.ishl, 1) := by decide +kernel
theorem d_MOD_branch_102 : decode prog_8_method_28_code 102 = .ok (.aload_n 0, 1) := by decide +kernel
theorem d_MOD_branch_103 : decode prog_8_method_28_code 103 = .ok (.bipush 7, 2) := by decide +kernel
theorem d_MOD_branch_105 : decode prog_8_method_28_code 105 = .ok (.iconst 1, 1) := by decide +kernel
theorem d_MOD_branch_106 : decode prog_8_method_28_code 106 = .ok (.invokevirtual 110, 3) := by decide +kernel
theorem d_MOD_branch_109 : decode prog_8_method_28_code 109 = .ok (.bipush 11, 2) := by decide +kernel
theorem d_MOD_branch_111 : decode prog_8_method_28_code 111 = .ok (.ishl, 1) := by decide +kernel
theorem d_MOD_branch_112 : decode prog_8_method_28_code 112 = .ok (.ior, 1) := by decide +kernel
theorem d_MOD_branch_113 : decode prog_8_method_28_code 113 = .ok (.aload_n 0, 1) := by decide +kernel
theorem d_MOD_branch_114 : decode prog_8_method_28_code 114 = .ok (.bipush 25, 2) := by decide +kernel
theorem d_MOD_branch_116 : decode prog_8_method_28_code 116 = .ok (.bipush 6, 2) := by decide +kernel
theorem d_MOD_branch_118 : decode prog_8_method_28_code 118 = .ok (.invokevirtual 110, 3) := by decide +kernel
theorem d_MOD_branch_121 : decode prog_8_method_28_code 121 = .ok (.iconst 5, 1) := by decide +kernel
theorem d_MOD_branch_122 : decode prog_8_method_28_code 122 = .ok (.ishl, 1) := by decide +kernel
theorem d_MOD_branch_123 : decode prog_8_method_28_code 123 = .ok (.ior, 1) := by decide +kernel
theorem d_MOD_branch_124 : decode prog_8_method_28_code 124 = .ok (.aload_n 0, 1) := by decide +kernel
theorem d_MOD_branch_125 : decode prog_8_method_28_code 125 = .ok (.bipush 8, 2) := by decide +kernel
theorem d_MOD_branch_127 : decode prog_8_method_28_code 127 = .ok (.iconst 4, 1) := by decide +kernel
theorem d_MOD_branch_128 : decode prog_8_method_28_code 128 = .ok (.invokevirtual 110, 3) := by decide +kernel
theorem d_MOD_branch_131 : decode prog_8_method_28_code 131 = .ok (.iconst 1, 1) := by decide +kernel
theorem d_MOD_branch_132 : decode prog_8_method_28_code 132 = .ok (.ishl, 1) := by decide +kernel
theorem d_MOD_branch_133 : decode prog_8_method_28_code 133 = .ok (.ior, 1) := by decide +kernel
theorem d_MOD_branch_134 : decode prog_8_method_28_code 134 = .ok (.iadd, 1) := by decide +kernel
theorem d_MOD_branch_135 : decode prog_8_method_28_code 135 = .ok (.istore 6, 2) := by decide +kernel
theorem d_MOD_branch_137 : decode prog_8_method_28_code 137 = .ok (.iload 6, 2) := by decide +kernel
theorem d_MOD_branch_139 : decode prog_8_method_28_code 139 = .ok (.iconst 4, 1) := by decide +kernel
theorem d_MOD_branch_140 : decode prog_8_method_28_code 140 = .ok (.irem, 1) := by decide +kernel
theorem d_MOD_branch_141 : decode prog_8_method_28_code 141 = .ok (.ifCond .eq 11, 3) := by decide +kernel
theorem d_MOD_branch_144 : decode prog_8_method_28_code 144 = .ok (.aload_n 0, 1) := by decide +kernel
theorem d_MOD_branch_145 : decode prog_8_method_28_code 145 = .ok (.iconst 0, 1) := by decide +kernel
theorem d_MOD_branch_146 : decode prog_8_method_28_code 146 = .ok (.invokevirtual 128, 3) := by decide +kernel
theorem d_MOD_branch_149 : decode prog_8_method_28_code 149 = .ok (.goto 9, 3) := by decide +kernel
theorem d_MOD_branch_152 : decode prog_8_method_28_code 152 = .ok (.aload_n 0, 1) := by decide +kernel
theorem d_MOD_branch_153 : decode prog_8_method_28_code 153 = .ok (.iload 6, 2) := by decide +kernel
theorem d_MOD_branch_155 : decode prog_8_method_28_code 155 = .ok (.putfield 121, 3) := by decide +kernel
theorem d_MOD_branch_158 : decode prog_8_method_28_code 158 = .ok (.return_, 1) := by decide +kernel
theorem d_MOD_reach_0 : decode prog_8_method_29_code 0 = .ok (.iload_n 1, 1) := by decide +kernel
theorem d_MOD_reach_1 : decode prog_8_method_29_code 1 = .ok (.iload_n 2, 1) := by decide +kernel
theorem d_MOD_reach_2 : decode prog_8_method_29_code 2 = .ok (.irem, 1) := by decide +kernel
theorem d_MOD_reach_3 : decode prog_8_method_29_code 3 = .ok (.ifCond .eq 11, 3) := by decide +kernel
theorem d_MOD_reach_6 : decode prog_8_method_29_code 6 = .ok (.aload_n 0, 1) := by decide +kernel
theorem d_MOD_reach_7 : decode prog_8_method_29_code 7 = .ok (.iload_n 3, 1) := by decide +kernel
theorem d_MOD_reach_8 : decode prog_8_method_29_code 8 = .ok (.invokevirtual 128, 3) := by decide +kernel
theorem d_MOD_reach_11 : decode prog_8_method_29_code 11 = .ok (.goto 22, 3) := by decide +kernel
theorem d_MOD_reach_14 : decode prog_8_method_29_code 14 = .ok (.aload_n 0, 1) := by decide +kernel
theorem d_MOD_reach_15 : decode prog_8_method_29_code 15 = .ok (.aload_n 0, 1) := by decide +kernel
theorem d_MOD_reach_16 : decode prog_8_method_29_code 16 = .ok (.getfield 97, 3) := by decide +kernel
theorem d_MOD_reach_19 : decode prog_8_method_29_code 19 = .ok (.iload_n 1, 1) := by decide +kernel
theorem d_MOD_reach_20 : decode prog_8_method_29_code 20 = .ok (.invokevirtual 124, 3) := by decide +kernel
theorem d_MOD_reach_23 : decode prog_8_method_29_code 23 = .ok (.ifCond .ne 10, 3) := by decide +kernel
theorem d_MOD_reach_26 : decode prog_8_method_29_code 26 = .ok (.aload_n 0, 1) := by decide +kernel
theorem d_MOD_reach_27 : decode prog_8_method_29_code 27 = .ok (.iload_n 3, 1) := by decide +kernel
theorem d_MOD_reach_28 : decode prog_8_method_29_code 28 = .ok (.iconst 1, 1) := by decide +kernel
theorem d_MOD_reach_29 : decode prog_8_method_29_code 29 = .ok (.iadd, 1) := by decide +kernel
theorem d_MOD_reach_30 : decode prog_8_method_29_code 30 = .ok (.invokevirtual 128, 3) := by decide +kernel
theorem d_MOD_reach_33 : decode prog_8_method_29_code 33 = .ok (.aload_n 0, 1) := by decide +kernel
theorem d_MOD_reach_34 : decode prog_8_method_29_code 34 = .ok (.getfield 100, 3) := by decide +kernel
theorem d_MOD_reach_37 : decode prog_8_method_29_code 37 = .ok (.ireturn, 1) := by decide +kernel
theorem d_MOD_read_0 : decode prog_8_method_30_code 0 = .ok (.aload_n 0, 1) := by decide +kernel
theorem d_MOD_read_1 : decode prog_8_method_30_code 1 = .ok (.bipush 12, 2) := by decide +kernel
theorem d_MOD_read_3 : decode prog_8_method_30_code 3 = .ok (.iconst 3, 1) := by decide +kernel
theorem d_MOD_read_4 : decode prog_8_method_30_code 4 = .ok (.invokevirtual 110, 3) := by decide +kernel
theorem d_MOD_read_7 : decode prog_8_method_30_code 7 = .ok (.istore_n 1, 1) := by decide +kernel
theorem d_MOD_read_8 : decode prog_8_method_30_code 8 = .ok (.aload_n 0, 1) := by decide +kernel
theorem d_MOD_read_9 : decode prog_8_method_30_code 9 = .ok (.invokevirtual 141, 3) := by decide +kernel
theorem d_MOD_read_12 : decode prog_8_method_30_code 12 = .ok (.aload_n 0, 1) := by decide +kernel
theorem d_MOD_read_13 : decode prog_8_method_30_code 13 = .ok (.getfield 107, 3) := by decide +kernel
theorem d_MOD_read_16 : decode prog_8_method_30_code 16 = .ok (.bipush 20, 2) := by decide +kernel
theorem d_MOD_read_18 : decode prog_8_method_30_code 18 = .ok (.ishr, 1) := by decide +kernel
theorem d_MOD_read_19 : decode prog_8_method_30_code 19 = .ok (.iadd, 1) := by decide +kernel
theorem d_MOD_read_20 : decode prog_8_method_30_code 20 = .ok (.istore_n 2, 1) := by decide +kernel
theorem d_MOD_read_21 : decode prog_8_method_30_code 21 = .ok (.iload_n 1, 1) := by decide +kernel
theorem d_MOD_read_22 : decode prog_8_method_30_code 22 = .ok (.iconst 4, 1) := by decide +kernel
theorem d_MOD_read_23 : decode prog_8_method_30_code 23 = .ok (.irem, 1) := by decide +kernel
theorem d_MOD_read_24 : decode prog_8_method_30_code 24 = .ok (.ifCond .ne 7, 3) := by decide +kernel
theorem d_MOD_read_27 : decode prog_8_method_30_code 27 = .ok (.iconst 1, 1) := by decide +kernel
theorem d_MOD_read_28 : decode prog_8_method_30_code 28 = .ok (.goto 15, 3) := by decide +kernel
theorem d_MOD_read_31 : decode prog_8_method_30_code 31 = .ok (.iload_n 1, 1) := by decide +kernel
theorem d_MOD_read_32 : decode prog_8_method_30_code 32 = .ok (.iconst 4, 1) := by decide +kernel
theorem d_MOD_read_33 : decode prog_8_method_30_code 33 = .ok (.irem, 1) := by decide +kernel
theorem d_MOD_read_34 : decode prog_8_method_30_code 34 = .ok (.iconst 1, 1) := by decide +kernel
theorem d_MOD_read_35 : decode prog_8_method_30_code 35 = .ok (.if_icmp .ne 7, 3) := by decide +kernel
theorem d_MOD_read_38 : decode prog_8_method_30_code 38 = .ok (.iconst 2, 1) := by decide +kernel
theorem d_MOD_read_39 : decode prog_8_method_30_code 39 = .ok (.goto 4, 3) := by decide +kernel
theorem d_MOD_read_42 : decode prog_8_method_30_code 42 = .ok (.iconst 4, 1) := by decide +kernel
theorem d_MOD_read_43 : decode prog_8_method_30_code 43 = .ok (.istore_n 3, 1) := by decide +kernel
theorem d_MOD_read_44 : decode prog_8_method_30_code 44 = .ok (.iload_n 1, 1) := by decide +kernel
theorem d_MOD_read_45 : decode prog_8_method_30_code 45 = .ok (.iconst 3, 1) := by decide +kernel
theorem d_MOD_read_46 : decode prog_8_method_30_code 46 = .ok (.if_icmp .eq 8, 3) := by decide +kernel
theorem d_MOD_read_49 : decode prog_8_method_30_code 49 = .ok (.iload_n 1, 1) := by decide +kernel
theorem d_MOD_read_50 : decode prog_8_method_30_code 50 = .ok (.iconst 5, 1) := by decide +kernel
theorem d_MOD_read_51 : decode prog_8_method_30_code 51 = .ok (.if_icmp .le 9, 3) := by decide +kernel
theorem d_MOD_read_54 : decode prog_8_method_30_code 54 = .ok (.aload_n 0, 1) := by decide +kernel
theorem d_MOD_read_55 : decode prog_8_method_30_code 55 = .ok (.iconst 2, 1) := by decide +kernel
theorem d_MOD_read_56 : decode prog_8_method_30_code 56 = .ok (.invokevirtual 128, 3) := by decide +kernel
theorem d_MOD_read_59 : decode prog_8_method_30_code 59 = .ok (.return_, 1) := by decide +kernel
theorem d_MOD_read_60 : decode prog_8_method_30_code 60 = .ok (.aload_n 0, 1) := by decide +kernel
theorem d_MOD_read_61 : decode prog_8_method_30_code 61 = .ok (.iload_n 2, 1) := by decide +kernel
theorem d_MOD_read_62 : decode prog_8_method_30_code 62 = .ok (.iload_n 3, 1) := by decide +kernel
theorem d_MOD_read_63 : decode prog_8_method_30_code 63 = .ok (.iconst 4, 1) := by decide +kernel
theorem d_MOD_read_64 : decode prog_8_method_30_code 64 = .ok (.invokevirtual 168, 3) := by decide +kernel
theorem d_MOD_read_67 : decode prog_8_method_30_code 67 = .ok (.ifCond .ne 4, 3) := by decide +kernel
theorem d_MOD_read_70 : decode prog_8_method_30_code 70 = .ok (.return_, 1) := by decide +kernel
theorem d_MOD_read_71 : decode prog_8_method_30_code 71 = .ok (.iconst 0, 1) := by decide +kernel
theorem d_MOD_read_72 : decode prog_8_method_30_code 72 = .ok (.istore 4, 2) := by decide +kernel
theorem d_MOD_read_74 : decode prog_8_method_30_code 74 = .ok (.iload_n 3, 1) := by decide +kernel
theorem d_MOD_read_75 : decode prog_8_method_30_code 75 = .ok (.iconst 1, 1) := by decide +kernel
theorem d_MOD_read_76 : decode prog_8_method_30_code 76 = .ok (.isub, 1) := by decide +kernel
theorem d_MOD_read_77 : decode prog_8_method_30_code 77 = .ok (.istore 5, 2) := by decide +kernel
theorem d_MOD_read_79 : decode prog_8_method_30_code 79 = .ok (.iload 5, 2) := by decide +kernel
theorem d_MOD_read_81 : decode prog_8_method_30_code 81 = .ok (.ifCond .lt 29, 3) := by decide +kernel
theorem d_MOD_read_84 : decode prog_8_method_30_code 84 = .ok (.iload 4, 2) := by decide +kernel
theorem d_MOD_read_86 : decode prog_8_method_30_code 86 = .ok (.bipush 8, 2) := by decide +kernel
theorem d_MOD_read_88 : decode prog_8_method_30_code 88 = .ok (.ishl, 1) := by decide +kernel
theorem d_MOD_read_89 : decode prog_8_method_30_code 89 = .ok (.aload_n 0, 1) := by decide +kernel
theorem d_MOD_read_90 : decode prog_8_method_30_code 90 = .ok (.aload_n 0, 1) := by decide +kernel
theorem d_MOD_read_91 : decode prog_8_method_30_code 91 = .ok (.getfield 97, 3) := by decide +kernel
theorem d_MOD_read_94 : decode prog_8_method_30_code 94 = .ok (.iload_n 2, 1) := by decide +kernel
theorem d_MOD_read_95 : decode prog_8_method_30_code 95 = .ok (.iload 5, 2) := by decide +kernel
theorem d_MOD_read_97 : decode prog_8_method_30_code 97 = .ok (.iadd, 1) := by decide +kernel
theorem d_MOD_read_98 : decode prog_8_method_30_code 98 = .ok (.invokevirtual 172, 3) := by decide +kernel
theorem d_MOD_read_101 : decode prog_8_method_30_code 101 = .ok (.ior, 1) := by decide +kernel
theorem d_MOD_read_102 : decode prog_8_method_30_code 102 = .ok (.istore 4, 2) := by decide +kernel
theorem d_MOD_read_104 : decode prog_8_method_30_code 104 = .ok (.iinc 5 (-1), 3) := by decide +kernel
theorem d_MOD_read_107 : decode prog_8_method_30_code 107 = .ok (.goto (-28), 3) := by decide +kernel
theorem d_MOD_read_110 : decode prog_8_method_30_code 110 = .ok (.bipush 32, 2) := by decide +kernel
theorem d_MOD_read_112 : decode prog_8_method_30_code 112 = .ok (.bipush 8, 2) := by decide +kernel
theorem d_MOD_read_114 : decode prog_8_method_30_code 114 = .ok (.iload_n 3, 1) := by decide +kernel
theorem d_MOD_read_115 : decode prog_8_method_30_code 115 = .ok (.imul, 1) := by decide +kernel
theorem d_MOD_read_116 : decode prog_8_method_30_code 116 = .ok (.isub, 1) := by decide +kernel
theorem d_MOD_read_117 : decode prog_8_method_30_code 117 = .ok (.istore 5, 2) := by decide +kernel
theorem d_MOD_read_119 : decode prog_8_method_30_code 119 = .ok (.aload_n 0, 1) := by decide +kernel
theorem d_MOD_read_120 : decode prog_8_method_30_code 120 = .ok (.aload_n 0, 1) := by decide +kernel
theorem d_MOD_read_121 : decode prog_8_method_30_code 121 = .ok (.invokevirtual 131, 3) := by decide +kernel
theorem d_MOD_read_124 : decode prog_8_method_30_code 124 = .ok (.iload_n 1, 1) := by decide +kernel
theorem d_MOD_read_125 : decode prog_8_method_30_code 125 = .ok (.iconst 3, 1) := by decide +kernel
theorem d_MOD_read_126 : decode prog_8_method_30_code 126 = .ok (.if_icmp .ge 14, 3) := by decide +kernel
theorem d_MOD_read_129 : decode prog_8_method_30_code 129 = .ok (.iload 4, 2) := by decide +kernel
theorem d_MOD_read_131 : decode prog_8_method_30_code 131 = .ok (.iload 5, 2) := by decide +kernel
theorem d_MOD_read_133 : decode prog_8_method_30_code 133 = .ok (.ishl, 1) := by decide +kernel
theorem d_MOD_read_134 : decode prog_8_method_30_code 134 = .ok (.iload 5, 2) := by decide +kernel
theorem d_MOD_read_136 : decode prog_8_method_30_code 136 = .ok (.ishr, 1) := by decide +kernel
theorem d_MOD_read_137 : decode prog_8_method_30_code 137 = .ok (.goto 5, 3) := by decide +kernel
theorem d_MOD_read_140 : decode prog_8_method_30_code 140 = .ok (.iload 4, 2) := by decide +kernel
theorem d_MOD_read_142 : decode prog_8_method_30_code 142 = .ok (.invokevirtual 135, 3) := by decide +kernel
theorem d_MOD_read_145 : decode prog_8_method_30_code 145 = .ok (.return_, 1) := by decide +kernel
