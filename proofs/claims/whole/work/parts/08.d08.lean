theorem d_MOD_consoleLength_0 : decode prog_8_method_60_code 0 = .ok (.aload_n 0, 1) := by decide +kernel
theorem d_MOD_consoleLength_1 : decode prog_8_method_60_code 1 = .ok (.getfield 221, 3) := by decide +kernel
theorem d_MOD_consoleLength_4 : decode prog_8_method_60_code 4 = .ok (.ireturn, 1) := by decide +kernel
theorem d_MOD_console_0 : decode prog_8_method_61_code 0 = .ok (.iload_n 1, 1) := by decide +kernel
theorem d_MOD_console_1 : decode prog_8_method_61_code 1 = .ok (.ifCond .lt 20, 3) := by decide +kernel
theorem d_MOD_console_4 : decode prog_8_method_61_code 4 = .ok (.iload_n 1, 1) := by decide +kernel
theorem d_MOD_console_5 : decode prog_8_method_61_code 5 = .ok (.aload_n 0, 1) := by decide +kernel
theorem d_MOD_console_6 : decode prog_8_method_61_code 6 = .ok (.getfield 221, 3) := by decide +kernel
theorem d_MOD_console_9 : decode prog_8_method_61_code 9 = .ok (.if_icmp .ge 12, 3) := by decide +kernel
theorem d_MOD_console_12 : decode prog_8_method_61_code 12 = .ok (.aload_n 0, 1) := by decide +kernel
theorem d_MOD_console_13 : decode prog_8_method_61_code 13 = .ok (.getfield 52, 3) := by decide +kernel
theorem d_MOD_console_16 : decode prog_8_method_61_code 16 = .ok (.iload_n 1, 1) := by decide +kernel
theorem d_MOD_console_17 : decode prog_8_method_61_code 17 = .ok (.iaload, 1) := by decide +kernel
theorem d_MOD_console_18 : decode prog_8_method_61_code 18 = .ok (.goto 4, 3) := by decide +kernel
theorem d_MOD_console_21 : decode prog_8_method_61_code 21 = .ok (.iconst (-1), 1) := by decide +kernel
theorem d_MOD_console_22 : decode prog_8_method_61_code 22 = .ok (.ireturn, 1) := by decide +kernel
theorem d_MOD_waitingTurn_0 : decode prog_8_method_62_code 0 = .ok (.iload_n 1, 1) := by decide +kernel
theorem d_MOD_waitingTurn_1 : decode prog_8_method_62_code 1 = .ok (.ifCond .lt 20, 3) := by decide +kernel
theorem d_MOD_waitingTurn_4 : decode prog_8_method_62_code 4 = .ok (.iload_n 1, 1) := by decide +kernel
theorem d_MOD_waitingTurn_5 : decode prog_8_method_62_code 5 = .ok (.aload_n 0, 1) := by decide +kernel
theorem d_MOD_waitingTurn_6 : decode prog_8_method_62_code 6 = .ok (.getfield 77, 3) := by decide +kernel
theorem d_MOD_waitingTurn_9 : decode prog_8_method_62_code 9 = .ok (.if_icmp .ge 12, 3) := by decide +kernel
theorem d_MOD_waitingTurn_12 : decode prog_8_method_62_code 12 = .ok (.aload_n 0, 1) := by decide +kernel
theorem d_MOD_waitingTurn_13 : decode prog_8_method_62_code 13 = .ok (.getfield 43, 3) := by decide +kernel
theorem d_MOD_waitingTurn_16 : decode prog_8_method_62_code 16 = .ok (.iload_n 1, 1) := by decide +kernel
theorem d_MOD_waitingTurn_17 : decode prog_8_method_62_code 17 = .ok (.iaload, 1) := by decide +kernel
theorem d_MOD_waitingTurn_18 : decode prog_8_method_62_code 18 = .ok (.goto 4, 3) := by decide +kernel
theorem d_MOD_waitingTurn_21 : decode prog_8_method_62_code 21 = .ok (.iconst 0, 1) := by decide +kernel
theorem d_MOD_waitingTurn_22 : decode prog_8_method_62_code 22 = .ok (.ireturn, 1) := by decide +kernel
theorem d_X_execute_0 : decode prog_2_method_2_code 0 = .ok (.aload_n 0, 1) := by decide +kernel
theorem d_X_execute_1 : decode prog_2_method_2_code 1 = .ok (.aload_n 1, 1) := by decide +kernel
theorem d_X_execute_2 : decode prog_2_method_2_code 2 = .ok (.aload_n 1, 1) := by decide +kernel
theorem d_X_execute_3 : decode prog_2_method_2_code 3 = .ok (.getfield 9, 3) := by decide +kernel
theorem d_X_execute_6 : decode prog_2_method_2_code 6 = .ok (.invokevirtual 15, 3) := by decide +kernel
theorem d_X_execute_9 : decode prog_2_method_2_code 9 = .ok (.istore_n 2, 1) := by decide +kernel
theorem d_X_execute_10 : decode prog_2_method_2_code 10 = .ok (.iload_n 2, 1) := by decide +kernel
theorem d_X_execute_11 : decode prog_2_method_2_code 11 = .ok (.iconst (-1), 1) := by decide +kernel
theorem d_X_execute_12 : decode prog_2_method_2_code 12 = .ok (.if_icmp .ne 5, 3) := by decide +kernel
theorem d_X_execute_15 : decode prog_2_method_2_code 15 = .ok (.iconst 1, 1) := by decide +kernel
theorem d_X_execute_16 : decode prog_2_method_2_code 16 = .ok (.ireturn, 1) := by decide +kernel
theorem d_X_execute_17 : decode prog_2_method_2_code 17 = .ok (.aload_n 0, 1) := by decide +kernel
theorem d_X_execute_18 : decode prog_2_method_2_code 18 = .ok (.getfield 21, 3) := by decide +kernel
theorem d_X_execute_21 : decode prog_2_method_2_code 21 = .ok (.iload_n 2, 1) := by decide +kernel
theorem d_X_execute_22 : decode prog_2_method_2_code 22 = .ok (.iaload, 1) := by decide +kernel
theorem d_X_execute_23 : decode prog_2_method_2_code 23 = .ok (.istore_n 3, 1) := by decide +kernel
theorem d_X_execute_24 : decode prog_2_method_2_code 24 = .ok (.iload_n 3, 1) := by decide +kernel
theorem d_X_execute_25 : decode prog_2_method_2_code 25 = .ok (.bipush 127, 2) := by decide +kernel
theorem d_X_execute_27 : decode prog_2_method_2_code 27 = .ok (.iand, 1) := by decide +kernel
theorem d_X_execute_28 : decode prog_2_method_2_code 28 = .ok (.lookupswitch 199 #[(3, 152), (15, 178), (19, 166), (23, 110), (35, 159), (51, 172), (55, 100), (99, 146), (103, 140), (111, 125), (115, 194)], 100) := by decide +kernel
theorem d_X_execute_128 : decode prog_2_method_2_code 128 = .ok (.aload_n 1, 1) := by decide +kernel
theorem d_X_execute_129 : decode prog_2_method_2_code 129 = .ok (.iload_n 3, 1) := by decide +kernel
theorem d_X_execute_130 : decode prog_2_method_2_code 130 = .ok (.iload_n 3, 1) := by decide +kernel
theorem d_X_execute_131 : decode prog_2_method_2_code 131 = .ok (.invokestatic 25, 3) := by decide +kernel
theorem d_X_execute_134 : decode prog_2_method_2_code 134 = .ok (.invokestatic 31, 3) := by decide +kernel
theorem d_X_execute_137 : decode prog_2_method_2_code 137 = .ok (.ireturn, 1) := by decide +kernel
theorem d_X_execute_138 : decode prog_2_method_2_code 138 = .ok (.aload_n 1, 1) := by decide +kernel
theorem d_X_execute_139 : decode prog_2_method_2_code 139 = .ok (.iload_n 3, 1) := by decide +kernel
theorem d_X_execute_140 : decode prog_2_method_2_code 140 = .ok (.aload_n 1, 1) := by decide +kernel
theorem d_X_execute_141 : decode prog_2_method_2_code 141 = .ok (.getfield 9, 3) := by decide +kernel
theorem d_X_execute_144 : decode prog_2_method_2_code 144 = .ok (.iload_n 3, 1) := by decide +kernel
theorem d_X_execute_145 : decode prog_2_method_2_code 145 = .ok (.invokestatic 25, 3) := by decide +kernel
theorem d_X_execute_148 : decode prog_2_method_2_code 148 = .ok (.iadd, 1) := by decide +kernel
theorem d_X_execute_149 : decode prog_2_method_2_code 149 = .ok (.invokestatic 31, 3) := by decide +kernel
theorem d_X_execute_152 : decode prog_2_method_2_code 152 = .ok (.ireturn, 1) := by decide +kernel
theorem d_X_execute_153 : decode prog_2_method_2_code 153 = .ok (.aload_n 1, 1) := by decide +kernel
theorem d_X_execute_154 : decode prog_2_method_2_code 154 = .ok (.iload_n 3, 1) := by decide +kernel
theorem d_X_execute_155 : decode prog_2_method_2_code 155 = .ok (.aload_n 1, 1) := by decide +kernel
theorem d_X_execute_156 : decode prog_2_method_2_code 156 = .ok (.getfield 9, 3) := by decide +kernel
theorem d_X_execute_159 : decode prog_2_method_2_code 159 = .ok (.iload_n 3, 1) := by decide +kernel
theorem d_X_execute_160 : decode prog_2_method_2_code 160 = .ok (.invokestatic 35, 3) := by decide +kernel
theorem d_X_execute_163 : decode prog_2_method_2_code 163 = .ok (.iadd, 1) := by decide +kernel
theorem d_X_execute_164 : decode prog_2_method_2_code 164 = .ok (.invokestatic 38, 3) := by decide +kernel
theorem d_X_execute_167 : decode prog_2_method_2_code 167 = .ok (.ireturn, 1) := by decide +kernel
theorem d_X_execute_168 : decode prog_2_method_2_code 168 = .ok (.aload_n 1, 1) := by decide +kernel
theorem d_X_execute_169 : decode prog_2_method_2_code 169 = .ok (.iload_n 3, 1) := by decide +kernel
theorem d_X_execute_170 : decode prog_2_method_2_code 170 = .ok (.invokestatic 41, 3) := by decide +kernel
theorem d_X_execute_173 : decode prog_2_method_2_code 173 = .ok (.ireturn, 1) := by decide +kernel
theorem d_X_execute_174 : decode prog_2_method_2_code 174 = .ok (.aload_n 1, 1) := by decide +kernel
theorem d_X_execute_175 : decode prog_2_method_2_code 175 = .ok (.iload_n 3, 1) := by decide +kernel
theorem d_X_execute_176 : decode prog_2_method_2_code 176 = .ok (.invokestatic 44, 3) := by decide +kernel
theorem d_X_execute_179 : decode prog_2_method_2_code 179 = .ok (.ireturn, 1) := by decide +kernel
theorem d_X_execute_180 : decode prog_2_method_2_code 180 = .ok (.aload_n 0, 1) := by decide +kernel
theorem d_X_execute_181 : decode prog_2_method_2_code 181 = .ok (.aload_n 1, 1) := by decide +kernel
theorem d_X_execute_182 : decode prog_2_method_2_code 182 = .ok (.iload_n 3, 1) := by decide +kernel
theorem d_X_execute_183 : decode prog_2_method_2_code 183 = .ok (.invokestatic 47, 3) := by decide +kernel
theorem d_X_execute_186 : decode prog_2_method_2_code 186 = .ok (.ireturn, 1) := by decide +kernel
theorem d_X_execute_187 : decode prog_2_method_2_code 187 = .ok (.aload_n 0, 1) := by decide +kernel
theorem d_X_execute_188 : decode prog_2_method_2_code 188 = .ok (.aload_n 1, 1) := by decide +kernel
theorem d_X_execute_189 : decode prog_2_method_2_code 189 = .ok (.iload_n 3, 1) := by decide +kernel
theorem d_X_execute_190 : decode prog_2_method_2_code 190 = .ok (.invokestatic 51, 3) := by decide +kernel
theorem d_X_execute_193 : decode prog_2_method_2_code 193 = .ok (.ireturn, 1) := by decide +kernel
theorem d_X_execute_194 : decode prog_2_method_2_code 194 = .ok (.aload_n 1, 1) := by decide +kernel
theorem d_X_execute_195 : decode prog_2_method_2_code 195 = .ok (.iload_n 3, 1) := by decide +kernel
theorem d_X_execute_196 : decode prog_2_method_2_code 196 = .ok (.invokestatic 54, 3) := by decide +kernel
theorem d_X_execute_199 : decode prog_2_method_2_code 199 = .ok (.ireturn, 1) := by decide +kernel
theorem d_X_execute_200 : decode prog_2_method_2_code 200 = .ok (.aload_n 1, 1) := by decide +kernel
theorem d_X_execute_201 : decode prog_2_method_2_code 201 = .ok (.iload_n 3, 1) := by decide +kernel
theorem d_X_execute_202 : decode prog_2_method_2_code 202 = .ok (.invokestatic 57, 3) := by decide +kernel
theorem d_X_execute_205 : decode prog_2_method_2_code 205 = .ok (.ireturn, 1) := by decide +kernel
theorem d_X_execute_206 : decode prog_2_method_2_code 206 = .ok (.iload_n 3, 1) := by decide +kernel
theorem d_X_execute_207 : decode prog_2_method_2_code 207 = .ok (.invokestatic 60, 3) := by decide +kernel
theorem d_X_execute_210 : decode prog_2_method_2_code 210 = .ok (.ifCond .ne 10, 3) := by decide +kernel
theorem d_X_execute_213 : decode prog_2_method_2_code 213 = .ok (.aload_n 1, 1) := by decide +kernel
theorem d_X_execute_214 : decode prog_2_method_2_code 214 = .ok (.invokestatic 63, 3) := by decide +kernel
theorem d_X_execute_217 : decode prog_2_method_2_code 217 = .ok (.goto 4, 3) := by decide +kernel
theorem d_X_execute_220 : decode prog_2_method_2_code 220 = .ok (.iconst 2, 1) := by decide +kernel
theorem d_X_execute_221 : decode prog_2_method_2_code 221 = .ok (.ireturn, 1) := by decide +kernel
theorem d_X_execute_222 : decode prog_2_method_2_code 222 = .ok (.iload_n 3, 1) := by decide +kernel
theorem d_X_execute_223 : decode prog_2_method_2_code 223 = .ok (.invokestatic 67, 3) := by decide +kernel
theorem d_X_execute_226 : decode prog_2_method_2_code 226 = .ok (.ireturn, 1) := by decide +kernel
theorem d_X_execute_227 : decode prog_2_method_2_code 227 = .ok (.iconst 2, 1) := by decide +kernel
theorem d_X_execute_228 : decode prog_2_method_2_code 228 = .ok (.ireturn, 1) := by decide +kernel
theorem d_X_special_0 : decode prog_2_method_3_code 0 = .ok (.iload_n 0, 1) := by decide +kernel
theorem d_X_special_1 : decode prog_2_method_3_code 1 = .ok (.bipush 115, 2) := by decide +kernel
theorem d_X_special_3 : decode prog_2_method_3_code 3 = .ok (.if_icmp .ne 6, 3) := by decide +kernel
theorem d_X_special_6 : decode prog_2_method_3_code 6 = .ok (.bipush (-2), 2) := by decide +kernel
theorem d_X_special_8 : decode prog_2_method_3_code 8 = .ok (.ireturn, 1) := by decide +kernel
theorem d_X_special_9 : decode prog_2_method_3_code 9 = .ok (.iload_n 0, 1) := by decide +kernel
theorem d_X_special_10 : decode prog_2_method_3_code 10 = .ok (.ldc 70, 2) := by decide +kernel
theorem d_X_special_12 : decode prog_2_method_3_code 12 = .ok (.if_icmp .ne 7, 3) := by decide +kernel
theorem d_X_special_15 : decode prog_2_method_3_code 15 = .ok (.iconst 3, 1) := by decide +kernel
theorem d_X_special_16 : decode prog_2_method_3_code 16 = .ok (.goto 4, 3) := by decide +kernel
theorem d_X_special_19 : decode prog_2_method_3_code 19 = .ok (.iconst 2, 1) := by decide +kernel
theorem d_X_special_20 : decode prog_2_method_3_code 20 = .ok (.ireturn, 1) := by decide +kernel
theorem d_X_go_0 : decode prog_2_method_4_code 0 = .ok (.aload_n 0, 1) := by decide +kernel
theorem d_X_go_1 : decode prog_2_method_4_code 1 = .ok (.dup, 1) := by decide +kernel
theorem d_X_go_2 : decode prog_2_method_4_code 2 = .ok (.getfield 9, 3) := by decide +kernel
theorem d_X_go_5 : decode prog_2_method_4_code 5 = .ok (.iconst 4, 1) := by decide +kernel
theorem d_X_go_6 : decode prog_2_method_4_code 6 = .ok (.iadd, 1) := by decide +kernel
theorem d_X_go_7 : decode prog_2_method_4_code 7 = .ok (.putfield 9, 3) := by decide +kernel
theorem d_X_go_10 : decode prog_2_method_4_code 10 = .ok (.iconst (-1), 1) := by decide +kernel
theorem d_X_go_11 : decode prog_2_method_4_code 11 = .ok (.ireturn, 1) := by decide +kernel
theorem d_X_setAndGo_0 : decode prog_2_method_5_code 0 = .ok (.aload_n 0, 1) := by decide +kernel
theorem d_X_setAndGo_1 : decode prog_2_method_5_code 1 = .ok (.iload_n 1, 1) := by decide +kernel
theorem d_X_setAndGo_2 : decode prog_2_method_5_code 2 = .ok (.bipush 7, 2) := by decide +kernel
theorem d_X_setAndGo_4 : decode prog_2_method_5_code 4 = .ok (.iushr, 1) := by decide +kernel
theorem d_X_setAndGo_5 : decode prog_2_method_5_code 5 = .ok (.bipush 31, 2) := by decide +kernel
theorem d_X_setAndGo_7 : decode prog_2_method_5_code 7 = .ok (.iand, 1) := by decide +kernel
theorem d_X_setAndGo_8 : decode prog_2_method_5_code 8 = .ok (.iload_n 2, 1) := by decide +kernel
theorem d_X_setAndGo_9 : decode prog_2_method_5_code 9 = .ok (.invokevirtual 71, 3) := by decide +kernel
theorem d_X_setAndGo_12 : decode prog_2_method_5_code 12 = .ok (.aload_n 0, 1) := by decide +kernel
theorem d_X_setAndGo_13 : decode prog_2_method_5_code 13 = .ok (.invokestatic 63, 3) := by decide +kernel
theorem d_X_setAndGo_16 : decode prog_2_method_5_code 16 = .ok (.ireturn, 1) := by decide +kernel
theorem d_X_jump_0 : decode prog_2_method_6_code 0 = .ok (.iload_n 2, 1) := by decide +kernel
theorem d_X_jump_1 : decode prog_2_method_6_code 1 = .ok (.iconst 3, 1) := by decide +kernel
theorem d_X_jump_2 : decode prog_2_method_6_code 2 = .ok (.iand, 1) := by decide +kernel
theorem d_X_jump_3 : decode prog_2_method_6_code 3 = .ok (.ifCond .eq 5, 3) := by decide +kernel
theorem d_X_jump_6 : decode prog_2_method_6_code 6 = .ok (.iconst 0, 1) := by decide +kernel
theorem d_X_jump_7 : decode prog_2_method_6_code 7 = .ok (.ireturn, 1) := by decide +kernel
theorem d_X_jump_8 : decode prog_2_method_6_code 8 = .ok (.aload_n 0, 1) := by decide +kernel
theorem d_X_jump_9 : decode prog_2_method_6_code 9 = .ok (.iload_n 1, 1) := by decide +kernel
theorem d_X_jump_10 : decode prog_2_method_6_code 10 = .ok (.bipush 7, 2) := by decide +kernel
theorem d_X_jump_12 : decode prog_2_method_6_code 12 = .ok (.iushr, 1) := by decide +kernel
theorem d_X_jump_13 : decode prog_2_method_6_code 13 = .ok (.bipush 31, 2) := by decide +kernel
theorem d_X_jump_15 : decode prog_2_method_6_code 15 = .ok (.iand, 1) := by decide +kernel
theorem d_X_jump_16 : decode prog_2_method_6_code 16 = .ok (.aload_n 0, 1) := by decide +kernel
theorem d_X_jump_17 : decode prog_2_method_6_code 17 = .ok (.getfield 9, 3) := by decide +kernel
theorem d_X_jump_20 : decode prog_2_method_6_code 20 = .ok (.iconst 4, 1) := by decide +kernel
theorem d_X_jump_21 : decode prog_2_method_6_code 21 = .ok (.iadd, 1) := by decide +kernel
theorem d_X_jump_22 : decode prog_2_method_6_code 22 = .ok (.invokevirtual 71, 3) := by decide +kernel
theorem d_X_jump_25 : decode prog_2_method_6_code 25 = .ok (.aload_n 0, 1) := by decide +kernel
theorem d_X_jump_26 : decode prog_2_method_6_code 26 = .ok (.iload_n 2, 1) := by decide +kernel
theorem d_X_jump_27 : decode prog_2_method_6_code 27 = .ok (.putfield 9, 3) := by decide +kernel
theorem d_X_jump_30 : decode prog_2_method_6_code 30 = .ok (.iconst (-1), 1) := by decide +kernel
theorem d_X_jump_31 : decode prog_2_method_6_code 31 = .ok (.ireturn, 1) := by decide +kernel
theorem d_X_jumpByRegister_0 : decode prog_2_method_7_code 0 = .ok (.iload_n 1, 1) := by decide +kernel
theorem d_X_jumpByRegister_1 : decode prog_2_method_7_code 1 = .ok (.invokestatic 60, 3) := by decide +kernel
theorem d_X_jumpByRegister_4 : decode prog_2_method_7_code 4 = .ok (.ifCond .eq 5, 3) := by decide +kernel
theorem d_X_jumpByRegister_7 : decode prog_2_method_7_code 7 = .ok (.iconst 2, 1) := by decide +kernel
theorem d_X_jumpByRegister_8 : decode prog_2_method_7_code 8 = .ok (.ireturn, 1) := by decide +kernel
theorem d_X_jumpByRegister_9 : decode prog_2_method_7_code 9 = .ok (.aload_n 0, 1) := by decide +kernel
theorem d_X_jumpByRegister_10 : decode prog_2_method_7_code 10 = .ok (.iload_n 1, 1) := by decide +kernel
theorem d_X_jumpByRegister_11 : decode prog_2_method_7_code 11 = .ok (.aload_n 0, 1) := by decide +kernel
theorem d_X_jumpByRegister_12 : decode prog_2_method_7_code 12 = .ok (.iload_n 1, 1) := by decide +kernel
theorem d_X_jumpByRegister_13 : decode prog_2_method_7_code 13 = .ok (.invokestatic 75, 3) := by decide +kernel
theorem d_X_jumpByRegister_16 : decode prog_2_method_7_code 16 = .ok (.iload_n 1, 1) := by decide +kernel
theorem d_X_jumpByRegister_17 : decode prog_2_method_7_code 17 = .ok (.invokestatic 78, 3) := by decide +kernel
theorem d_X_jumpByRegister_20 : decode prog_2_method_7_code 20 = .ok (.iadd, 1) := by decide +kernel
theorem d_X_jumpByRegister_21 : decode prog_2_method_7_code 21 = .ok (.bipush (-2), 2) := by decide +kernel
theorem d_X_jumpByRegister_23 : decode prog_2_method_7_code 23 = .ok (.iand, 1) := by decide +kernel
theorem d_X_jumpByRegister_24 : decode prog_2_method_7_code 24 = .ok (.invokestatic 38, 3) := by decide +kernel
theorem d_X_jumpByRegister_27 : decode prog_2_method_7_code 27 = .ok (.ireturn, 1) := by decide +kernel
theorem d_X_branch_0 : decode prog_2_method_8_code 0 = .ok (.iload_n 1, 1) := by decide +kernel
theorem d_X_branch_1 : decode prog_2_method_8_code 1 = .ok (.invokestatic 60, 3) := by decide +kernel
theorem d_X_branch_4 : decode prog_2_method_8_code 4 = .ok (.istore_n 2, 1) := by decide +kernel
theorem d_X_branch_5 : decode prog_2_method_8_code 5 = .ok (.iload_n 2, 1) := by decide +kernel
theorem d_X_branch_6 : decode prog_2_method_8_code 6 = .ok (.iconst 2, 1) := by decide +kernel
theorem d_X_branch_7 : decode prog_2_method_8_code 7 = .ok (.if_icmp .eq 8, 3) := by decide +kernel
theorem d_X_branch_10 : decode prog_2_method_8_code 10 = .ok (.iload_n 2, 1) := by decide +kernel
theorem d_X_branch_11 : decode prog_2_method_8_code 11 = .ok (.iconst 3, 1) := by decide +kernel
theorem d_X_branch_12 : decode prog_2_method_8_code 12 = .ok (.if_icmp .ne 5, 3) := by decide +kernel
theorem d_X_branch_15 : decode prog_2_method_8_code 15 = .ok (.iconst 2, 1) := by decide +kernel
theorem d_X_branch_16 : decode prog_2_method_8_code 16 = .ok (.ireturn, 1) := by decide +kernel
theorem d_X_branch_17 : decode prog_2_method_8_code 17 = .ok (.iload_n 2, 1) := by decide +kernel
theorem d_X_branch_18 : decode prog_2_method_8_code 18 = .ok (.aload_n 0, 1) := by decide +kernel
theorem d_X_branch_19 : decode prog_2_method_8_code 19 = .ok (.iload_n 1, 1) := by decide +kernel
theorem d_X_branch_20 : decode prog_2_method_8_code 20 = .ok (.invokestatic 75, 3) := by decide +kernel
theorem d_X_branch_23 : decode prog_2_method_8_code 23 = .ok (.aload_n 0, 1) := by decide +kernel
theorem d_X_branch_24 : decode prog_2_method_8_code 24 = .ok (.iload_n 1, 1) := by decide +kernel
theorem d_X_branch_25 : decode prog_2_method_8_code 25 = .ok (.invokestatic 81, 3) := by decide +kernel
theorem d_X_branch_28 : decode prog_2_method_8_code 28 = .ok (.invokestatic 84, 3) := by decide +kernel
theorem d_X_branch_31 : decode prog_2_method_8_code 31 = .ok (.ifCond .ne 8, 3) := by decide +kernel
theorem d_X_branch_34 : decode prog_2_method_8_code 34 = .ok (.aload_n 0, 1) := by decide +kernel
theorem d_X_branch_35 : decode prog_2_method_8_code 35 = .ok (.invokestatic 63, 3) := by decide +kernel
theorem d_X_branch_38 : decode prog_2_method_8_code 38 = .ok (.ireturn, 1) := by decide +kernel
theorem d_X_branch_39 : decode prog_2_method_8_code 39 = .ok (.aload_n 0, 1) := by decide +kernel
theorem d_X_branch_40 : decode prog_2_method_8_code 40 = .ok (.getfield 9, 3) := by decide +kernel
theorem d_X_branch_43 : decode prog_2_method_8_code 43 = .ok (.iload_n 1, 1) := by decide +kernel
theorem d_X_branch_44 : decode prog_2_method_8_code 44 = .ok (.invokestatic 88, 3) := by decide +kernel
theorem d_X_branch_47 : decode prog_2_method_8_code 47 = .ok (.iadd, 1) := by decide +kernel
theorem d_X_branch_48 : decode prog_2_method_8_code 48 = .ok (.istore_n 3, 1) := by decide +kernel
theorem d_X_branch_49 : decode prog_2_method_8_code 49 = .ok (.iload_n 3, 1) := by decide +kernel
theorem d_X_branch_50 : decode prog_2_method_8_code 50 = .ok (.iconst 3, 1) := by decide +kernel
theorem d_X_branch_51 : decode prog_2_method_8_code 51 = .ok (.iand, 1) := by decide +kernel
theorem d_X_branch_52 : decode prog_2_method_8_code 52 = .ok (.ifCond .eq 5, 3) := by decide +kernel
theorem d_X_branch_55 : decode prog_2_method_8_code 55 = .ok (.iconst 0, 1) := by decide +kernel
theorem d_X_branch_56 : decode prog_2_method_8_code 56 = .ok (.ireturn, 1) := by decide +kernel
theorem d_X_branch_57 : decode prog_2_method_8_code 57 = .ok (.aload_n 0, 1) := by decide +kernel
theorem d_X_branch_58 : decode prog_2_method_8_code 58 = .ok (.iload_n 3, 1) := by decide +kernel
theorem d_X_branch_59 : decode prog_2_method_8_code 59 = .ok (.putfield 9, 3) := by decide +kernel
theorem d_X_branch_62 : decode prog_2_method_8_code 62 = .ok (.iconst (-1), 1) := by decide +kernel
theorem d_X_branch_63 : decode prog_2_method_8_code 63 = .ok (.ireturn, 1) := by decide +kernel
theorem d_X_holdsTrue_0 : decode prog_2_method_9_code 0 = .ok (.iload_n 0, 1) := by decide +kernel
theorem d_X_holdsTrue_1 : decode prog_2_method_9_code 1 = .ok (.tableswitch 93 0 6 #[43, 54, 93, 93, 65, 76, 87], 43) := by decide +kernel
theorem d_X_holdsTrue_44 : decode prog_2_method_9_code 44 = .ok (.iload_n 1, 1) := by decide +kernel
theorem d_X_holdsTrue_45 : decode prog_2_method_9_code 45 = .ok (.iload_n 2, 1) := by decide +kernel
theorem d_X_holdsTrue_46 : decode prog_2_method_9_code 46 = .ok (.if_icmp .ne 7, 3) := by decide +kernel
theorem d_X_holdsTrue_49 : decode prog_2_method_9_code 49 = .ok (.iconst 1, 1) := by decide +kernel
theorem d_X_holdsTrue_50 : decode prog_2_method_9_code 50 = .ok (.goto 4, 3) := by decide +kernel
theorem d_X_holdsTrue_53 : decode prog_2_method_9_code 53 = .ok (.iconst 0, 1) := by decide +kernel
theorem d_X_holdsTrue_54 : decode prog_2_method_9_code 54 = .ok (.ireturn, 1) := by decide +kernel
theorem d_X_holdsTrue_55 : decode prog_2_method_9_code 55 = .ok (.iload_n 1, 1) := by decide +kernel
theorem d_X_holdsTrue_56 : decode prog_2_method_9_code 56 = .ok (.iload_n 2, 1) := by decide +kernel
theorem d_X_holdsTrue_57 : decode prog_2_method_9_code 57 = .ok (.if_icmp .eq 7, 3) := by decide +kernel
theorem d_X_holdsTrue_60 : decode prog_2_method_9_code 60 = .ok (.iconst 1, 1) := by decide +kernel
theorem d_X_holdsTrue_61 : decode prog_2_method_9_code 61 = .ok (.goto 4, 3) := by decide +kernel
theorem d_X_holdsTrue_64 : decode prog_2_method_9_code 64 = .ok (.iconst 0, 1) := by decide +kernel
theorem d_X_holdsTrue_65 : decode prog_2_method_9_code 65 = .ok (.ireturn, 1) := by decide +kernel
theorem d_X_holdsTrue_66 : decode prog_2_method_9_code 66 = .ok (.iload_n 1, 1) := by decide +kernel
theorem d_X_holdsTrue_67 : decode prog_2_method_9_code 67 = .ok (.iload_n 2, 1) := by decide +kernel
theorem d_X_holdsTrue_68 : decode prog_2_method_9_code 68 = .ok (.if_icmp .ge 7, 3) := by decide +kernel
theorem d_X_holdsTrue_71 : decode prog_2_method_9_code 71 = .ok (.iconst 1, 1) := by decide +kernel
theorem d_X_holdsTrue_72 : decode prog_2_method_9_code 72 = .ok (.goto 4, 3) := by decide +kernel
theorem d_X_holdsTrue_75 : decode prog_2_method_9_code 75 = .ok (.iconst 0, 1) := by decide +kernel
theorem d_X_holdsTrue_76 : decode prog_2_method_9_code 76 = .ok (.ireturn, 1) := by decide +kernel
theorem d_X_holdsTrue_77 : decode prog_2_method_9_code 77 = .ok (.iload_n 1, 1) := by decide +kernel
theorem d_X_holdsTrue_78 : decode prog_2_method_9_code 78 = .ok (.iload_n 2, 1) := by decide +kernel
theorem d_X_holdsTrue_79 : decode prog_2_method_9_code 79 = .ok (.if_icmp .lt 7, 3) := by decide +kernel
theorem d_X_holdsTrue_82 : decode prog_2_method_9_code 82 = .ok (.iconst 1, 1) := by decide +kernel
theorem d_X_holdsTrue_83 : decode prog_2_method_9_code 83 = .ok (.goto 4, 3) := by decide +kernel
theorem d_X_holdsTrue_86 : decode prog_2_method_9_code 86 = .ok (.iconst 0, 1) := by decide +kernel
theorem d_X_holdsTrue_87 : decode prog_2_method_9_code 87 = .ok (.ireturn, 1) := by decide +kernel
theorem d_X_holdsTrue_88 : decode prog_2_method_9_code 88 = .ok (.iload_n 1, 1) := by decide +kernel
theorem d_X_holdsTrue_89 : decode prog_2_method_9_code 89 = .ok (.iload_n 2, 1) := by decide +kernel
theorem d_X_holdsTrue_90 : decode prog_2_method_9_code 90 = .ok (.invokestatic 91, 3) := by decide +kernel
theorem d_X_holdsTrue_93 : decode prog_2_method_9_code 93 = .ok (.ireturn, 1) := by decide +kernel
theorem d_X_holdsTrue_94 : decode prog_2_method_9_code 94 = .ok (.iload_n 1, 1) := by decide +kernel
theorem d_X_holdsTrue_95 : decode prog_2_method_9_code 95 = .ok (.iload_n 2, 1) := by decide +kernel
theorem d_X_holdsTrue_96 : decode prog_2_method_9_code 96 = .ok (.invokestatic 91, 3) := by decide +kernel
theorem d_X_holdsTrue_99 : decode prog_2_method_9_code 99 = .ok (.ifCond .ne 7, 3) := by decide +kernel
theorem d_X_holdsTrue_102 : decode prog_2_method_9_code 102 = .ok (.iconst 1, 1) := by decide +kernel
theorem d_X_holdsTrue_103 : decode prog_2_method_9_code 103 = .ok (.goto 4, 3) := by decide +kernel
theorem d_X_holdsTrue_106 : decode prog_2_method_9_code 106 = .ok (.iconst 0, 1) := by decide +kernel
theorem d_X_holdsTrue_107 : decode prog_2_method_9_code 107 = .ok (.ireturn, 1) := by decide +kernel
theorem d_X_fetch_0 : decode prog_2_method_10_code 0 = .ok (.iload_n 2, 1) := by decide +kernel
theorem d_X_fetch_1 : decode prog_2_method_10_code 1 = .ok (.invokestatic 60, 3) := by decide +kernel
theorem d_X_fetch_4 : decode prog_2_method_10_code 4 = .ok (.istore_n 3, 1) := by decide +kernel
theorem d_X_fetch_5 : decode prog_2_method_10_code 5 = .ok (.iload_n 3, 1) := by decide +kernel
theorem d_X_fetch_6 : decode prog_2_method_10_code 6 = .ok (.iconst 3, 1) := by decide +kernel
theorem d_X_fetch_7 : decode prog_2_method_10_code 7 = .ok (.if_icmp .eq 8, 3) := by decide +kernel
theorem d_X_fetch_10 : decode prog_2_method_10_code 10 = .ok (.iload_n 3, 1) := by decide +kernel
theorem d_X_fetch_11 : decode prog_2_method_10_code 11 = .ok (.iconst 5, 1) := by decide +kernel
theorem d_X_fetch_12 : decode prog_2_method_10_code 12 = .ok (.if_icmp .le 5, 3) := by decide +kernel
theorem d_X_fetch_15 : decode prog_2_method_10_code 15 = .ok (.iconst 2, 1) := by decide +kernel
theorem d_X_fetch_16 : decode prog_2_method_10_code 16 = .ok (.ireturn, 1) := by decide +kernel
theorem d_X_fetch_17 : decode prog_2_method_10_code 17 = .ok (.aload_n 1, 1) := by decide +kernel
theorem d_X_fetch_18 : decode prog_2_method_10_code 18 = .ok (.iload_n 2, 1) := by decide +kernel
theorem d_X_fetch_19 : decode prog_2_method_10_code 19 = .ok (.invokestatic 75, 3) := by decide +kernel
theorem d_X_fetch_22 : decode prog_2_method_10_code 22 = .ok (.iload_n 2, 1) := by decide +kernel
theorem d_X_fetch_23 : decode prog_2_method_10_code 23 = .ok (.invokestatic 78, 3) := by decide +kernel
theorem d_X_fetch_26 : decode prog_2_method_10_code 26 = .ok (.iadd, 1) := by decide +kernel
theorem d_X_fetch_27 : decode prog_2_method_10_code 27 = .ok (.istore 4, 2) := by decide +kernel
theorem d_X_fetch_29 : decode prog_2_method_10_code 29 = .ok (.iload 4, 2) := by decide +kernel
theorem d_X_fetch_31 : decode prog_2_method_10_code 31 = .ok (.iload_n 3, 1) := by decide +kernel
theorem d_X_fetch_32 : decode prog_2_method_10_code 32 = .ok (.iconst 3, 1) := by decide +kernel
theorem d_X_fetch_33 : decode prog_2_method_10_code 33 = .ok (.iand, 1) := by decide +kernel
theorem d_X_fetch_34 : decode prog_2_method_10_code 34 = .ok (.invokestatic 95, 3) := by decide +kernel
theorem d_X_fetch_37 : decode prog_2_method_10_code 37 = .ok (.ifCond .eq 5, 3) := by decide +kernel
theorem d_X_fetch_40 : decode prog_2_method_10_code 40 = .ok (.iconst 4, 1) := by decide +kernel
theorem d_X_fetch_41 : decode prog_2_method_10_code 41 = .ok (.ireturn, 1) := by decide +kernel
theorem d_X_fetch_42 : decode prog_2_method_10_code 42 = .ok (.aload_n 0, 1) := by decide +kernel
theorem d_X_fetch_43 : decode prog_2_method_10_code 43 = .ok (.aload_n 1, 1) := by decide +kernel
theorem d_X_fetch_44 : decode prog_2_method_10_code 44 = .ok (.iload 4, 2) := by decide +kernel
theorem d_X_fetch_46 : decode prog_2_method_10_code 46 = .ok (.invokevirtual 15, 3) := by decide +kernel
theorem d_X_fetch_49 : decode prog_2_method_10_code 49 = .ok (.istore 5, 2) := by decide +kernel
theorem d_X_fetch_51 : decode prog_2_method_10_code 51 = .ok (.iload 5, 2) := by decide +kernel
theorem d_X_fetch_53 : decode prog_2_method_10_code 53 = .ok (.iconst (-1), 1) := by decide +kernel
theorem d_X_fetch_54 : decode prog_2_method_10_code 54 = .ok (.if_icmp .ne 5, 3) := by decide +kernel
theorem d_X_fetch_57 : decode prog_2_method_10_code 57 = .ok (.iconst 5, 1) := by decide +kernel
theorem d_X_fetch_58 : decode prog_2_method_10_code 58 = .ok (.ireturn, 1) := by decide +kernel
theorem d_X_fetch_59 : decode prog_2_method_10_code 59 = .ok (.aload_n 1, 1) := by decide +kernel
theorem d_X_fetch_60 : decode prog_2_method_10_code 60 = .ok (.iload_n 2, 1) := by decide +kernel
theorem d_X_fetch_61 : decode prog_2_method_10_code 61 = .ok (.iload_n 3, 1) := by decide +kernel
theorem d_X_fetch_62 : decode prog_2_method_10_code 62 = .ok (.aload_n 0, 1) := by decide +kernel
theorem d_X_fetch_63 : decode prog_2_method_10_code 63 = .ok (.getfield 21, 3) := by decide +kernel
theorem d_X_fetch_66 : decode prog_2_method_10_code 66 = .ok (.iload 5, 2) := by decide +kernel
theorem d_X_fetch_68 : decode prog_2_method_10_code 68 = .ok (.iaload, 1) := by decide +kernel
theorem d_X_fetch_69 : decode prog_2_method_10_code 69 = .ok (.bipush 8, 2) := by decide +kernel
theorem d_X_fetch_71 : decode prog_2_method_10_code 71 = .ok (.iload 4, 2) := by decide +kernel
theorem d_X_fetch_73 : decode prog_2_method_10_code 73 = .ok (.iconst 3, 1) := by decide +kernel
theorem d_X_fetch_74 : decode prog_2_method_10_code 74 = .ok (.iand, 1) := by decide +kernel
theorem d_X_fetch_75 : decode prog_2_method_10_code 75 = .ok (.imul, 1) := by decide +kernel
theorem d_X_fetch_76 : decode prog_2_method_10_code 76 = .ok (.iushr, 1) := by decide +kernel
theorem d_X_fetch_77 : decode prog_2_method_10_code 77 = .ok (.invokestatic 98, 3) := by decide +kernel
theorem d_X_fetch_80 : decode prog_2_method_10_code 80 = .ok (.invokestatic 31, 3) := by decide +kernel
theorem d_X_fetch_83 : decode prog_2_method_10_code 83 = .ok (.ireturn, 1) := by decide +kernel
theorem d_X_widen_0 : decode prog_2_method_11_code 0 = .ok (.iload_n 0, 1) := by decide +kernel
theorem d_X_widen_1 : decode prog_2_method_11_code 1 = .ok (.tableswitch 66 0 5 #[39, 47, 66, 66, 55, 61], 39) := by decide +kernel
theorem d_X_widen_40 : decode prog_2_method_11_code 40 = .ok (.iload_n 1, 1) := by decide +kernel
theorem d_X_widen_41 : decode prog_2_method_11_code 41 = .ok (.bipush 24, 2) := by decide +kernel
theorem d_X_widen_43 : decode prog_2_method_11_code 43 = .ok (.ishl, 1) := by decide +kernel
theorem d_X_widen_44 : decode prog_2_method_11_code 44 = .ok (.bipush 24, 2) := by decide +kernel
theorem d_X_widen_46 : decode prog_2_method_11_code 46 = .ok (.ishr, 1) := by decide +kernel
theorem d_X_widen_47 : decode prog_2_method_11_code 47 = .ok (.ireturn, 1) := by decide +kernel
theorem d_X_widen_48 : decode prog_2_method_11_code 48 = .ok (.iload_n 1, 1) := by decide +kernel
theorem d_X_widen_49 : decode prog_2_method_11_code 49 = .ok (.bipush 16, 2) := by decide +kernel
theorem d_X_widen_51 : decode prog_2_method_11_code 51 = .ok (.ishl, 1) := by decide +kernel
theorem d_X_widen_52 : decode prog_2_method_11_code 52 = .ok (.bipush 16, 2) := by decide +kernel
theorem d_X_widen_54 : decode prog_2_method_11_code 54 = .ok (.ishr, 1) := by decide +kernel
theorem d_X_widen_55 : decode prog_2_method_11_code 55 = .ok (.ireturn, 1) := by decide +kernel
theorem d_X_widen_56 : decode prog_2_method_11_code 56 = .ok (.iload_n 1, 1) := by decide +kernel
theorem d_X_widen_57 : decode prog_2_method_11_code 57 = .ok (.sipush 255, 3) := by decide +kernel
theorem d_X_widen_60 : decode prog_2_method_11_code 60 = .ok (.iand, 1) := by decide +kernel
theorem d_X_widen_61 : decode prog_2_method_11_code 61 = .ok (.ireturn, 1) := by decide +kernel
theorem d_X_widen_62 : decode prog_2_method_11_code 62 = .ok (.iload_n 1, 1) := by decide +kernel
theorem d_X_widen_63 : decode prog_2_method_11_code 63 = .ok (.ldc 102, 2) := by decide +kernel
theorem d_X_widen_65 : decode prog_2_method_11_code 65 = .ok (.iand, 1) := by decide +kernel
theorem d_X_widen_66 : decode prog_2_method_11_code 66 = .ok (.ireturn, 1) := by decide +kernel
theorem d_X_widen_67 : decode prog_2_method_11_code 67 = .ok (.iload_n 1, 1) := by decide +kernel
theorem d_X_widen_68 : decode prog_2_method_11_code 68 = .ok (.ireturn, 1) := by decide +kernel
theorem d_X_put_0 : decode prog_2_method_12_code 0 = .ok (.iload_n 2, 1) := by decide +kernel
theorem d_X_put_1 : decode prog_2_method_12_code 1 = .ok (.invokestatic 60, 3) := by decide +kernel
theorem d_X_put_4 : decode prog_2_method_12_code 4 = .ok (.istore_n 3, 1) := by decide +kernel
theorem d_X_put_5 : decode prog_2_method_12_code 5 = .ok (.iload_n 3, 1) := by decide +kernel
theorem d_X_put_6 : decode prog_2_method_12_code 6 = .ok (.iconst 2, 1) := by decide +kernel
theorem d_X_put_7 : decode prog_2_method_12_code 7 = .ok (.if_icmp .le 5, 3) := by decide +kernel
theorem d_X_put_10 : decode prog_2_method_12_code 10 = .ok (.iconst 2, 1) := by decide +kernel
theorem d_X_put_11 : decode prog_2_method_12_code 11 = .ok (.ireturn, 1) := by decide +kernel
theorem d_X_put_12 : decode prog_2_method_12_code 12 = .ok (.aload_n 1, 1) := by decide +kernel
theorem d_X_put_13 : decode prog_2_method_12_code 13 = .ok (.iload_n 2, 1) := by decide +kernel
theorem d_X_put_14 : decode prog_2_method_12_code 14 = .ok (.invokestatic 75, 3) := by decide +kernel
theorem d_X_put_17 : decode prog_2_method_12_code 17 = .ok (.iload_n 2, 1) := by decide +kernel
theorem d_X_put_18 : decode prog_2_method_12_code 18 = .ok (.invokestatic 103, 3) := by decide +kernel
theorem d_X_put_21 : decode prog_2_method_12_code 21 = .ok (.iadd, 1) := by decide +kernel
theorem d_X_put_22 : decode prog_2_method_12_code 22 = .ok (.istore 4, 2) := by decide +kernel
theorem d_X_put_24 : decode prog_2_method_12_code 24 = .ok (.iload 4, 2) := by decide +kernel
theorem d_X_put_26 : decode prog_2_method_12_code 26 = .ok (.iload_n 3, 1) := by decide +kernel
theorem d_X_put_27 : decode prog_2_method_12_code 27 = .ok (.invokestatic 95, 3) := by decide +kernel
theorem d_X_put_30 : decode prog_2_method_12_code 30 = .ok (.ifCond .eq 6, 3) := by decide +kernel
theorem d_X_put_33 : decode prog_2_method_12_code 33 = .ok (.bipush 6, 2) := by decide +kernel
theorem d_X_put_35 : decode prog_2_method_12_code 35 = .ok (.ireturn, 1) := by decide +kernel
theorem d_X_put_36 : decode prog_2_method_12_code 36 = .ok (.aload_n 0, 1) := by decide +kernel
theorem d_X_put_37 : decode prog_2_method_12_code 37 = .ok (.aload_n 1, 1) := by decide +kernel
theorem d_X_put_38 : decode prog_2_method_12_code 38 = .ok (.iload 4, 2) := by decide +kernel
theorem d_X_put_40 : decode prog_2_method_12_code 40 = .ok (.invokevirtual 15, 3) := by decide +kernel
theorem d_X_put_43 : decode prog_2_method_12_code 43 = .ok (.istore 5, 2) := by decide +kernel
theorem d_X_put_45 : decode prog_2_method_12_code 45 = .ok (.iload 5, 2) := by decide +kernel
theorem d_X_put_47 : decode prog_2_method_12_code 47 = .ok (.iconst (-1), 1) := by decide +kernel
theorem d_X_put_48 : decode prog_2_method_12_code 48 = .ok (.if_icmp .ne 6, 3) := by decide +kernel
theorem d_X_put_51 : decode prog_2_method_12_code 51 = .ok (.bipush 7, 2) := by decide +kernel
theorem d_X_put_53 : decode prog_2_method_12_code 53 = .ok (.ireturn, 1) := by decide +kernel
theorem d_X_put_54 : decode prog_2_method_12_code 54 = .ok (.bipush 8, 2) := by decide +kernel
theorem d_X_put_56 : decode prog_2_method_12_code 56 = .ok (.iload 4, 2) := by decide +kernel
theorem d_X_put_58 : decode prog_2_method_12_code 58 = .ok (.iconst 3, 1) := by decide +kernel
theorem d_X_put_59 : decode prog_2_method_12_code 59 = .ok (.iand, 1) := by decide +kernel
theorem d_X_put_60 : decode prog_2_method_12_code 60 = .ok (.imul, 1) := by decide +kernel
theorem d_X_put_61 : decode prog_2_method_12_code 61 = .ok (.istore 6, 2) := by decide +kernel
theorem d_X_put_63 : decode prog_2_method_12_code 63 = .ok (.iload_n 3, 1) := by decide +kernel
theorem d_X_put_64 : decode prog_2_method_12_code 64 = .ok (.invokestatic 106, 3) := by decide +kernel
theorem d_X_put_67 : decode prog_2_method_12_code 67 = .ok (.iload 6, 2) := by decide +kernel
theorem d_X_put_69 : decode prog_2_method_12_code 69 = .ok (.ishl, 1) := by decide +kernel
theorem d_X_put_70 : decode prog_2_method_12_code 70 = .ok (.istore 7, 2) := by decide +kernel
theorem d_X_put_72 : decode prog_2_method_12_code 72 = .ok (.aload_n 0, 1) := by decide +kernel
theorem d_X_put_73 : decode prog_2_method_12_code 73 = .ok (.getfield 21, 3) := by decide +kernel
theorem d_X_put_76 : decode prog_2_method_12_code 76 = .ok (.iload 5, 2) := by decide +kernel
theorem d_X_put_78 : decode prog_2_method_12_code 78 = .ok (.aload_n 0, 1) := by decide +kernel
theorem d_X_put_79 : decode prog_2_method_12_code 79 = .ok (.getfield 21, 3) := by decide +kernel
theorem d_X_put_82 : decode prog_2_method_12_code 82 = .ok (.iload 5, 2) := by decide +kernel
theorem d_X_put_84 : decode prog_2_method_12_code 84 = .ok (.iaload, 1) := by decide +kernel
theorem d_X_put_85 : decode prog_2_method_12_code 85 = .ok (.iload 7, 2) := by decide +kernel
theorem d_X_put_87 : decode prog_2_method_12_code 87 = .ok (.iconst (-1), 1) := by decide +kernel
theorem d_X_put_88 : decode prog_2_method_12_code 88 = .ok (.ixor, 1) := by decide +kernel
theorem d_X_put_89 : decode prog_2_method_12_code 89 = .ok (.iand, 1) := by decide +kernel
theorem d_X_put_90 : decode prog_2_method_12_code 90 = .ok (.aload_n 1, 1) := by decide +kernel
theorem d_X_put_91 : decode prog_2_method_12_code 91 = .ok (.iload_n 2, 1) := by decide +kernel
theorem d_X_put_92 : decode prog_2_method_12_code 92 = .ok (.invokestatic 81, 3) := by decide +kernel
theorem d_X_put_95 : decode prog_2_method_12_code 95 = .ok (.iload 6, 2) := by decide +kernel
theorem d_X_put_97 : decode prog_2_method_12_code 97 = .ok (.ishl, 1) := by decide +kernel
theorem d_X_put_98 : decode prog_2_method_12_code 98 = .ok (.iload 7, 2) := by decide +kernel
theorem d_X_put_100 : decode prog_2_method_12_code 100 = .ok (.iand, 1) := by decide +kernel
theorem d_X_put_101 : decode prog_2_method_12_code 101 = .ok (.ior, 1) := by decide +kernel
theorem d_X_put_102 : decode prog_2_method_12_code 102 = .ok (.iastore, 1) := by decide +kernel
theorem d_X_put_103 : decode prog_2_method_12_code 103 = .ok (.aload_n 1, 1) := by decide +kernel
theorem d_X_put_104 : decode prog_2_method_12_code 104 = .ok (.invokestatic 63, 3) := by decide +kernel
theorem d_X_put_107 : decode prog_2_method_12_code 107 = .ok (.ireturn, 1) := by decide +kernel
theorem d_X_maskOf_0 : decode prog_2_method_13_code 0 = .ok (.iload_n 0, 1) := by decide +kernel
theorem d_X_maskOf_1 : decode prog_2_method_13_code 1 = .ok (.ifCond .ne 7, 3) := by decide +kernel
theorem d_X_maskOf_4 : decode prog_2_method_13_code 4 = .ok (.sipush 255, 3) := by decide +kernel
theorem d_X_maskOf_7 : decode prog_2_method_13_code 7 = .ok (.ireturn, 1) := by decide +kernel
theorem d_X_maskOf_8 : decode prog_2_method_13_code 8 = .ok (.iload_n 0, 1) := by decide +kernel
theorem d_X_maskOf_9 : decode prog_2_method_13_code 9 = .ok (.iconst 1, 1) := by decide +kernel
theorem d_X_maskOf_10 : decode prog_2_method_13_code 10 = .ok (.if_icmp .ne 8, 3) := by decide +kernel
theorem d_X_maskOf_13 : decode prog_2_method_13_code 13 = .ok (.ldc 102, 2) := by decide +kernel
theorem d_X_maskOf_15 : decode prog_2_method_13_code 15 = .ok (.goto 4, 3) := by decide +kernel
theorem d_X_maskOf_18 : decode prog_2_method_13_code 18 = .ok (.iconst (-1), 1) := by decide +kernel
theorem d_X_maskOf_19 : decode prog_2_method_13_code 19 = .ok (.ireturn, 1) := by decide +kernel
theorem d_X_isCrooked_0 : decode prog_2_method_14_code 0 = .ok (.iload_n 0, 1) := by decide +kernel
theorem d_X_isCrooked_1 : decode prog_2_method_14_code 1 = .ok (.iconst 1, 1) := by decide +kernel
theorem d_X_isCrooked_2 : decode prog_2_method_14_code 2 = .ok (.iload_n 1, 1) := by decide +kernel
theorem d_X_isCrooked_3 : decode prog_2_method_14_code 3 = .ok (.ishl, 1) := by decide +kernel
theorem d_X_isCrooked_4 : decode prog_2_method_14_code 4 = .ok (.iconst 1, 1) := by decide +kernel
theorem d_X_isCrooked_5 : decode prog_2_method_14_code 5 = .ok (.isub, 1) := by decide +kernel
theorem d_X_isCrooked_6 : decode prog_2_method_14_code 6 = .ok (.iand, 1) := by decide +kernel
theorem d_X_isCrooked_7 : decode prog_2_method_14_code 7 = .ok (.ifCond .eq 7, 3) := by decide +kernel
theorem d_X_isCrooked_10 : decode prog_2_method_14_code 10 = .ok (.iconst 1, 1) := by decide +kernel
theorem d_X_isCrooked_11 : decode prog_2_method_14_code 11 = .ok (.goto 4, 3) := by decide +kernel
theorem d_X_isCrooked_14 : decode prog_2_method_14_code 14 = .ok (.iconst 0, 1) := by decide +kernel
theorem d_X_isCrooked_15 : decode prog_2_method_14_code 15 = .ok (.ireturn, 1) := by decide +kernel
