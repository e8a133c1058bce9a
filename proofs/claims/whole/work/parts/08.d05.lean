theorem d_MOD_write_0 : decode prog_8_method_31_code 0 = .ok (.aload_n 0, 1) := by decide +kernel
theorem d_MOD_write_1 : decode prog_8_method_31_code 1 = .ok (.bipush 12, 2) := by decide +kernel
theorem d_MOD_write_3 : decode prog_8_method_31_code 3 = .ok (.iconst 3, 1) := by decide +kernel
theorem d_MOD_write_4 : decode prog_8_method_31_code 4 = .ok (.invokevirtual 110, 3) := by decide +kernel
theorem d_MOD_write_7 : decode prog_8_method_31_code 7 = .ok (.istore_n 1, 1) := by decide +kernel
theorem d_MOD_write_8 : decode prog_8_method_31_code 8 = .ok (.aload_n 0, 1) := by decide +kernel
theorem d_MOD_write_9 : decode prog_8_method_31_code 9 = .ok (.invokevirtual 141, 3) := by decide +kernel
theorem d_MOD_write_12 : decode prog_8_method_31_code 12 = .ok (.aload_n 0, 1) := by decide +kernel
theorem d_MOD_write_13 : decode prog_8_method_31_code 13 = .ok (.getfield 107, 3) := by decide +kernel
theorem d_MOD_write_16 : decode prog_8_method_31_code 16 = .ok (.bipush 25, 2) := by decide +kernel
theorem d_MOD_write_18 : decode prog_8_method_31_code 18 = .ok (.ishr, 1) := by decide +kernel
theorem d_MOD_write_19 : decode prog_8_method_31_code 19 = .ok (.iconst 5, 1) := by decide +kernel
theorem d_MOD_write_20 : decode prog_8_method_31_code 20 = .ok (.ishl, 1) := by decide +kernel
theorem d_MOD_write_21 : decode prog_8_method_31_code 21 = .ok (.aload_n 0, 1) := by decide +kernel
theorem d_MOD_write_22 : decode prog_8_method_31_code 22 = .ok (.bipush 7, 2) := by decide +kernel
theorem d_MOD_write_24 : decode prog_8_method_31_code 24 = .ok (.iconst 5, 1) := by decide +kernel
theorem d_MOD_write_25 : decode prog_8_method_31_code 25 = .ok (.invokevirtual 110, 3) := by decide +kernel
theorem d_MOD_write_28 : decode prog_8_method_31_code 28 = .ok (.ior, 1) := by decide +kernel
theorem d_MOD_write_29 : decode prog_8_method_31_code 29 = .ok (.iadd, 1) := by decide +kernel
theorem d_MOD_write_30 : decode prog_8_method_31_code 30 = .ok (.istore_n 2, 1) := by decide +kernel
theorem d_MOD_write_31 : decode prog_8_method_31_code 31 = .ok (.aload_n 0, 1) := by decide +kernel
theorem d_MOD_write_32 : decode prog_8_method_31_code 32 = .ok (.invokevirtual 161, 3) := by decide +kernel
theorem d_MOD_write_35 : decode prog_8_method_31_code 35 = .ok (.istore_n 3, 1) := by decide +kernel
theorem d_MOD_write_36 : decode prog_8_method_31_code 36 = .ok (.iload_n 1, 1) := by decide +kernel
theorem d_MOD_write_37 : decode prog_8_method_31_code 37 = .ok (.iconst 2, 1) := by decide +kernel
theorem d_MOD_write_38 : decode prog_8_method_31_code 38 = .ok (.if_icmp .le 9, 3) := by decide +kernel
theorem d_MOD_write_41 : decode prog_8_method_31_code 41 = .ok (.aload_n 0, 1) := by decide +kernel
theorem d_MOD_write_42 : decode prog_8_method_31_code 42 = .ok (.iconst 2, 1) := by decide +kernel
theorem d_MOD_write_43 : decode prog_8_method_31_code 43 = .ok (.invokevirtual 128, 3) := by decide +kernel
theorem d_MOD_write_46 : decode prog_8_method_31_code 46 = .ok (.return_, 1) := by decide +kernel
theorem d_MOD_write_47 : decode prog_8_method_31_code 47 = .ok (.iload_n 1, 1) := by decide +kernel
theorem d_MOD_write_48 : decode prog_8_method_31_code 48 = .ok (.ifCond .ne 7, 3) := by decide +kernel
theorem d_MOD_write_51 : decode prog_8_method_31_code 51 = .ok (.iconst 1, 1) := by decide +kernel
theorem d_MOD_write_52 : decode prog_8_method_31_code 52 = .ok (.goto 13, 3) := by decide +kernel
theorem d_MOD_write_55 : decode prog_8_method_31_code 55 = .ok (.iload_n 1, 1) := by decide +kernel
theorem d_MOD_write_56 : decode prog_8_method_31_code 56 = .ok (.iconst 1, 1) := by decide +kernel
theorem d_MOD_write_57 : decode prog_8_method_31_code 57 = .ok (.if_icmp .ne 7, 3) := by decide +kernel
theorem d_MOD_write_60 : decode prog_8_method_31_code 60 = .ok (.iconst 2, 1) := by decide +kernel
theorem d_MOD_write_61 : decode prog_8_method_31_code 61 = .ok (.goto 4, 3) := by decide +kernel
theorem d_MOD_write_64 : decode prog_8_method_31_code 64 = .ok (.iconst 4, 1) := by decide +kernel
theorem d_MOD_write_65 : decode prog_8_method_31_code 65 = .ok (.istore 4, 2) := by decide +kernel
theorem d_MOD_write_67 : decode prog_8_method_31_code 67 = .ok (.aload_n 0, 1) := by decide +kernel
theorem d_MOD_write_68 : decode prog_8_method_31_code 68 = .ok (.iload_n 2, 1) := by decide +kernel
theorem d_MOD_write_69 : decode prog_8_method_31_code 69 = .ok (.iload 4, 2) := by decide +kernel
theorem d_MOD_write_71 : decode prog_8_method_31_code 71 = .ok (.bipush 6, 2) := by decide +kernel
theorem d_MOD_write_73 : decode prog_8_method_31_code 73 = .ok (.invokevirtual 168, 3) := by decide +kernel
theorem d_MOD_write_76 : decode prog_8_method_31_code 76 = .ok (.ifCond .ne 4, 3) := by decide +kernel
theorem d_MOD_write_79 : decode prog_8_method_31_code 79 = .ok (.return_, 1) := by decide +kernel
theorem d_MOD_write_80 : decode prog_8_method_31_code 80 = .ok (.iconst 0, 1) := by decide +kernel
theorem d_MOD_write_81 : decode prog_8_method_31_code 81 = .ok (.istore 5, 2) := by decide +kernel
theorem d_MOD_write_83 : decode prog_8_method_31_code 83 = .ok (.iload 5, 2) := by decide +kernel
theorem d_MOD_write_85 : decode prog_8_method_31_code 85 = .ok (.iload 4, 2) := by decide +kernel
theorem d_MOD_write_87 : decode prog_8_method_31_code 87 = .ok (.if_icmp .ge 28, 3) := by decide +kernel
theorem d_MOD_write_90 : decode prog_8_method_31_code 90 = .ok (.aload_n 0, 1) := by decide +kernel
theorem d_MOD_write_91 : decode prog_8_method_31_code 91 = .ok (.aload_n 0, 1) := by decide +kernel
theorem d_MOD_write_92 : decode prog_8_method_31_code 92 = .ok (.getfield 97, 3) := by decide +kernel
theorem d_MOD_write_95 : decode prog_8_method_31_code 95 = .ok (.iload_n 2, 1) := by decide +kernel
theorem d_MOD_write_96 : decode prog_8_method_31_code 96 = .ok (.iload 5, 2) := by decide +kernel
theorem d_MOD_write_98 : decode prog_8_method_31_code 98 = .ok (.iadd, 1) := by decide +kernel
theorem d_MOD_write_99 : decode prog_8_method_31_code 99 = .ok (.iload_n 3, 1) := by decide +kernel
theorem d_MOD_write_100 : decode prog_8_method_31_code 100 = .ok (.bipush 8, 2) := by decide +kernel
theorem d_MOD_write_102 : decode prog_8_method_31_code 102 = .ok (.iload 5, 2) := by decide +kernel
theorem d_MOD_write_104 : decode prog_8_method_31_code 104 = .ok (.imul, 1) := by decide +kernel
theorem d_MOD_write_105 : decode prog_8_method_31_code 105 = .ok (.ishr, 1) := by decide +kernel
theorem d_MOD_write_106 : decode prog_8_method_31_code 106 = .ok (.invokevirtual 175, 3) := by decide +kernel
theorem d_MOD_write_109 : decode prog_8_method_31_code 109 = .ok (.iinc 5 1, 3) := by decide +kernel
theorem d_MOD_write_112 : decode prog_8_method_31_code 112 = .ok (.goto (-29), 3) := by decide +kernel
theorem d_MOD_write_115 : decode prog_8_method_31_code 115 = .ok (.return_, 1) := by decide +kernel
theorem d_MOD_compute_0 : decode prog_8_method_32_code 0 = .ok (.aload_n 0, 1) := by decide +kernel
theorem d_MOD_compute_1 : decode prog_8_method_32_code 1 = .ok (.bipush 12, 2) := by decide +kernel
theorem d_MOD_compute_3 : decode prog_8_method_32_code 3 = .ok (.iconst 3, 1) := by decide +kernel
theorem d_MOD_compute_4 : decode prog_8_method_32_code 4 = .ok (.invokevirtual 110, 3) := by decide +kernel
theorem d_MOD_compute_7 : decode prog_8_method_32_code 7 = .ok (.istore_n 2, 1) := by decide +kernel
theorem d_MOD_compute_8 : decode prog_8_method_32_code 8 = .ok (.aload_n 0, 1) := by decide +kernel
theorem d_MOD_compute_9 : decode prog_8_method_32_code 9 = .ok (.bipush 25, 2) := by decide +kernel
theorem d_MOD_compute_11 : decode prog_8_method_32_code 11 = .ok (.bipush 7, 2) := by decide +kernel
theorem d_MOD_compute_13 : decode prog_8_method_32_code 13 = .ok (.invokevirtual 110, 3) := by decide +kernel
theorem d_MOD_compute_16 : decode prog_8_method_32_code 16 = .ok (.istore_n 3, 1) := by decide +kernel
theorem d_MOD_compute_17 : decode prog_8_method_32_code 17 = .ok (.aload_n 0, 1) := by decide +kernel
theorem d_MOD_compute_18 : decode prog_8_method_32_code 18 = .ok (.invokevirtual 141, 3) := by decide +kernel
theorem d_MOD_compute_21 : decode prog_8_method_32_code 21 = .ok (.istore 4, 2) := by decide +kernel
theorem d_MOD_compute_23 : decode prog_8_method_32_code 23 = .ok (.iload_n 1, 1) := by decide +kernel
theorem d_MOD_compute_24 : decode prog_8_method_32_code 24 = .ok (.ifCond .eq 10, 3) := by decide +kernel
theorem d_MOD_compute_27 : decode prog_8_method_32_code 27 = .ok (.aload_n 0, 1) := by decide +kernel
theorem d_MOD_compute_28 : decode prog_8_method_32_code 28 = .ok (.invokevirtual 161, 3) := by decide +kernel
theorem d_MOD_compute_31 : decode prog_8_method_32_code 31 = .ok (.goto 10, 3) := by decide +kernel
theorem d_MOD_compute_34 : decode prog_8_method_32_code 34 = .ok (.aload_n 0, 1) := by decide +kernel
theorem d_MOD_compute_35 : decode prog_8_method_32_code 35 = .ok (.getfield 107, 3) := by decide +kernel
theorem d_MOD_compute_38 : decode prog_8_method_32_code 38 = .ok (.bipush 20, 2) := by decide +kernel
theorem d_MOD_compute_40 : decode prog_8_method_32_code 40 = .ok (.ishr, 1) := by decide +kernel
theorem d_MOD_compute_41 : decode prog_8_method_32_code 41 = .ok (.istore 5, 2) := by decide +kernel
theorem d_MOD_compute_43 : decode prog_8_method_32_code 43 = .ok (.iload_n 1, 1) := by decide +kernel
theorem d_MOD_compute_44 : decode prog_8_method_32_code 44 = .ok (.ifCond .eq 11, 3) := by decide +kernel
theorem d_MOD_compute_47 : decode prog_8_method_32_code 47 = .ok (.iload 5, 2) := by decide +kernel
theorem d_MOD_compute_49 : decode prog_8_method_32_code 49 = .ok (.bipush 31, 2) := by decide +kernel
theorem d_MOD_compute_51 : decode prog_8_method_32_code 51 = .ok (.iand, 1) := by decide +kernel
theorem d_MOD_compute_52 : decode prog_8_method_32_code 52 = .ok (.goto 10, 3) := by decide +kernel
theorem d_MOD_compute_55 : decode prog_8_method_32_code 55 = .ok (.aload_n 0, 1) := by decide +kernel
theorem d_MOD_compute_56 : decode prog_8_method_32_code 56 = .ok (.bipush 20, 2) := by decide +kernel
theorem d_MOD_compute_58 : decode prog_8_method_32_code 58 = .ok (.iconst 5, 1) := by decide +kernel
theorem d_MOD_compute_59 : decode prog_8_method_32_code 59 = .ok (.invokevirtual 110, 3) := by decide +kernel
theorem d_MOD_compute_62 : decode prog_8_method_32_code 62 = .ok (.istore 6, 2) := by decide +kernel
theorem d_MOD_compute_64 : decode prog_8_method_32_code 64 = .ok (.iload_n 2, 1) := by decide +kernel
theorem d_MOD_compute_65 : decode prog_8_method_32_code 65 = .ok (.iconst 1, 1) := by decide +kernel
theorem d_MOD_compute_66 : decode prog_8_method_32_code 66 = .ok (.if_icmp .eq 8, 3) := by decide +kernel
theorem d_MOD_compute_69 : decode prog_8_method_32_code 69 = .ok (.iload_n 2, 1) := by decide +kernel
theorem d_MOD_compute_70 : decode prog_8_method_32_code 70 = .ok (.iconst 5, 1) := by decide +kernel
theorem d_MOD_compute_71 : decode prog_8_method_32_code 71 = .ok (.if_icmp .ne 7, 3) := by decide +kernel
theorem d_MOD_compute_74 : decode prog_8_method_32_code 74 = .ok (.iconst 1, 1) := by decide +kernel
theorem d_MOD_compute_75 : decode prog_8_method_32_code 75 = .ok (.goto 4, 3) := by decide +kernel
theorem d_MOD_compute_78 : decode prog_8_method_32_code 78 = .ok (.iconst 0, 1) := by decide +kernel
theorem d_MOD_compute_79 : decode prog_8_method_32_code 79 = .ok (.istore 7, 2) := by decide +kernel
theorem d_MOD_compute_81 : decode prog_8_method_32_code 81 = .ok (.iload_n 3, 1) := by decide +kernel
theorem d_MOD_compute_82 : decode prog_8_method_32_code 82 = .ok (.bipush 32, 2) := by decide +kernel
theorem d_MOD_compute_84 : decode prog_8_method_32_code 84 = .ok (.if_icmp .ne 20, 3) := by decide +kernel
theorem d_MOD_compute_87 : decode prog_8_method_32_code 87 = .ok (.iload_n 2, 1) := by decide +kernel
theorem d_MOD_compute_88 : decode prog_8_method_32_code 88 = .ok (.iconst 5, 1) := by decide +kernel
theorem d_MOD_compute_89 : decode prog_8_method_32_code 89 = .ok (.if_icmp .eq 11, 3) := by decide +kernel
theorem d_MOD_compute_92 : decode prog_8_method_32_code 92 = .ok (.iload_n 1, 1) := by decide +kernel
theorem d_MOD_compute_93 : decode prog_8_method_32_code 93 = .ok (.ifCond .eq 11, 3) := by decide +kernel
theorem d_MOD_compute_96 : decode prog_8_method_32_code 96 = .ok (.iload_n 2, 1) := by decide +kernel
theorem d_MOD_compute_97 : decode prog_8_method_32_code 97 = .ok (.ifCond .ne 7, 3) := by decide +kernel
theorem d_MOD_compute_100 : decode prog_8_method_32_code 100 = .ok (.iconst 1, 1) := by decide +kernel
theorem d_MOD_compute_101 : decode prog_8_method_32_code 101 = .ok (.goto 4, 3) := by decide +kernel
theorem d_MOD_compute_104 : decode prog_8_method_32_code 104 = .ok (.iconst 0, 1) := by decide +kernel
theorem d_MOD_compute_105 : decode prog_8_method_32_code 105 = .ok (.istore 8, 2) := by decide +kernel
theorem d_MOD_compute_107 : decode prog_8_method_32_code 107 = .ok (.iload_n 3, 1) := by decide +kernel
theorem d_MOD_compute_108 : decode prog_8_method_32_code 108 = .ok (.ifCond .eq 23, 3) := by decide +kernel
theorem d_MOD_compute_111 : decode prog_8_method_32_code 111 = .ok (.iload 8, 2) := by decide +kernel
theorem d_MOD_compute_113 : decode prog_8_method_32_code 113 = .ok (.ifCond .ne 18, 3) := by decide +kernel
theorem d_MOD_compute_116 : decode prog_8_method_32_code 116 = .ok (.iload_n 1, 1) := by decide +kernel
theorem d_MOD_compute_117 : decode prog_8_method_32_code 117 = .ok (.ifCond .ne 8, 3) := by decide +kernel
theorem d_MOD_compute_120 : decode prog_8_method_32_code 120 = .ok (.iload 7, 2) := by decide +kernel
theorem d_MOD_compute_122 : decode prog_8_method_32_code 122 = .ok (.ifCond .eq 9, 3) := by decide +kernel
theorem d_MOD_compute_125 : decode prog_8_method_32_code 125 = .ok (.aload_n 0, 1) := by decide +kernel
theorem d_MOD_compute_126 : decode prog_8_method_32_code 126 = .ok (.iconst 2, 1) := by decide +kernel
theorem d_MOD_compute_127 : decode prog_8_method_32_code 127 = .ok (.invokevirtual 128, 3) := by decide +kernel
theorem d_MOD_compute_130 : decode prog_8_method_32_code 130 = .ok (.return_, 1) := by decide +kernel
theorem d_MOD_compute_131 : decode prog_8_method_32_code 131 = .ok (.iconst 0, 1) := by decide +kernel
theorem d_MOD_compute_132 : decode prog_8_method_32_code 132 = .ok (.istore 9, 2) := by decide +kernel
theorem d_MOD_compute_134 : decode prog_8_method_32_code 134 = .ok (.iload_n 2, 1) := by decide +kernel
theorem d_MOD_compute_135 : decode prog_8_method_32_code 135 = .ok (.ifCond .ne 30, 3) := by decide +kernel
theorem d_MOD_compute_138 : decode prog_8_method_32_code 138 = .ok (.iload_n 1, 1) := by decide +kernel
theorem d_MOD_compute_139 : decode prog_8_method_32_code 139 = .ok (.ifCond .eq 16, 3) := by decide +kernel
theorem d_MOD_compute_142 : decode prog_8_method_32_code 142 = .ok (.iload 8, 2) := by decide +kernel
theorem d_MOD_compute_144 : decode prog_8_method_32_code 144 = .ok (.ifCond .eq 11, 3) := by decide +kernel
theorem d_MOD_compute_147 : decode prog_8_method_32_code 147 = .ok (.iload 4, 2) := by decide +kernel
theorem d_MOD_compute_149 : decode prog_8_method_32_code 149 = .ok (.iload 5, 2) := by decide +kernel
theorem d_MOD_compute_151 : decode prog_8_method_32_code 151 = .ok (.isub, 1) := by decide +kernel
theorem d_MOD_compute_152 : decode prog_8_method_32_code 152 = .ok (.goto 8, 3) := by decide +kernel
theorem d_MOD_compute_155 : decode prog_8_method_32_code 155 = .ok (.iload 4, 2) := by decide +kernel
theorem d_MOD_compute_157 : decode prog_8_method_32_code 157 = .ok (.iload 5, 2) := by decide +kernel
theorem d_MOD_compute_159 : decode prog_8_method_32_code 159 = .ok (.iadd, 1) := by decide +kernel
theorem d_MOD_compute_160 : decode prog_8_method_32_code 160 = .ok (.istore 9, 2) := by decide +kernel
theorem d_MOD_compute_162 : decode prog_8_method_32_code 162 = .ok (.goto 122, 3) := by decide +kernel
theorem d_MOD_compute_165 : decode prog_8_method_32_code 165 = .ok (.iload_n 2, 1) := by decide +kernel
theorem d_MOD_compute_166 : decode prog_8_method_32_code 166 = .ok (.iconst 1, 1) := by decide +kernel
theorem d_MOD_compute_167 : decode prog_8_method_32_code 167 = .ok (.if_icmp .ne 13, 3) := by decide +kernel
theorem d_MOD_compute_170 : decode prog_8_method_32_code 170 = .ok (.iload 4, 2) := by decide +kernel
theorem d_MOD_compute_172 : decode prog_8_method_32_code 172 = .ok (.iload 6, 2) := by decide +kernel
theorem d_MOD_compute_174 : decode prog_8_method_32_code 174 = .ok (.ishl, 1) := by decide +kernel
theorem d_MOD_compute_175 : decode prog_8_method_32_code 175 = .ok (.istore 9, 2) := by decide +kernel
theorem d_MOD_compute_177 : decode prog_8_method_32_code 177 = .ok (.goto 107, 3) := by decide +kernel
theorem d_MOD_compute_180 : decode prog_8_method_32_code 180 = .ok (.iload_n 2, 1) := by decide +kernel
theorem d_MOD_compute_181 : decode prog_8_method_32_code 181 = .ok (.iconst 2, 1) := by decide +kernel
theorem d_MOD_compute_182 : decode prog_8_method_32_code 182 = .ok (.if_icmp .eq 8, 3) := by decide +kernel
theorem d_MOD_compute_185 : decode prog_8_method_32_code 185 = .ok (.iload_n 2, 1) := by decide +kernel
theorem d_MOD_compute_186 : decode prog_8_method_32_code 186 = .ok (.iconst 3, 1) := by decide +kernel
theorem d_MOD_compute_187 : decode prog_8_method_32_code 187 = .ok (.if_icmp .ne 33, 3) := by decide +kernel
theorem d_MOD_compute_190 : decode prog_8_method_32_code 190 = .ok (.iload 4, 2) := by decide +kernel
theorem d_MOD_compute_192 : decode prog_8_method_32_code 192 = .ok (.iload 5, 2) := by decide +kernel
theorem d_MOD_compute_194 : decode prog_8_method_32_code 194 = .ok (.iload_n 2, 1) := by decide +kernel
theorem d_MOD_compute_195 : decode prog_8_method_32_code 195 = .ok (.iconst 2, 1) := by decide +kernel
theorem d_MOD_compute_196 : decode prog_8_method_32_code 196 = .ok (.if_icmp .ne 7, 3) := by decide +kernel
theorem d_MOD_compute_199 : decode prog_8_method_32_code 199 = .ok (.iconst 1, 1) := by decide +kernel
theorem d_MOD_compute_200 : decode prog_8_method_32_code 200 = .ok (.goto 4, 3) := by decide +kernel
theorem d_MOD_compute_203 : decode prog_8_method_32_code 203 = .ok (.iconst 0, 1) := by decide +kernel
theorem d_MOD_compute_204 : decode prog_8_method_32_code 204 = .ok (.invokestatic 164, 3) := by decide +kernel
theorem d_MOD_compute_207 : decode prog_8_method_32_code 207 = .ok (.ifCond .eq 7, 3) := by decide +kernel
theorem d_MOD_compute_210 : decode prog_8_method_32_code 210 = .ok (.iconst 1, 1) := by decide +kernel
theorem d_MOD_compute_211 : decode prog_8_method_32_code 211 = .ok (.goto 4, 3) := by decide +kernel
theorem d_MOD_compute_214 : decode prog_8_method_32_code 214 = .ok (.iconst 0, 1) := by decide +kernel
theorem d_MOD_compute_215 : decode prog_8_method_32_code 215 = .ok (.istore 9, 2) := by decide +kernel
theorem d_MOD_compute_217 : decode prog_8_method_32_code 217 = .ok (.goto 67, 3) := by decide +kernel
theorem d_MOD_compute_220 : decode prog_8_method_32_code 220 = .ok (.iload_n 2, 1) := by decide +kernel
theorem d_MOD_compute_221 : decode prog_8_method_32_code 221 = .ok (.iconst 4, 1) := by decide +kernel
theorem d_MOD_compute_222 : decode prog_8_method_32_code 222 = .ok (.if_icmp .ne 13, 3) := by decide +kernel
theorem d_MOD_compute_225 : decode prog_8_method_32_code 225 = .ok (.iload 4, 2) := by decide +kernel
theorem d_MOD_compute_227 : decode prog_8_method_32_code 227 = .ok (.iload 5, 2) := by decide +kernel
theorem d_MOD_compute_229 : decode prog_8_method_32_code 229 = .ok (.ixor, 1) := by decide +kernel
theorem d_MOD_compute_230 : decode prog_8_method_32_code 230 = .ok (.istore 9, 2) := by decide +kernel
theorem d_MOD_compute_232 : decode prog_8_method_32_code 232 = .ok (.goto 52, 3) := by decide +kernel
theorem d_MOD_compute_235 : decode prog_8_method_32_code 235 = .ok (.iload_n 2, 1) := by decide +kernel
theorem d_MOD_compute_236 : decode prog_8_method_32_code 236 = .ok (.iconst 5, 1) := by decide +kernel
theorem d_MOD_compute_237 : decode prog_8_method_32_code 237 = .ok (.if_icmp .ne 26, 3) := by decide +kernel
theorem d_MOD_compute_240 : decode prog_8_method_32_code 240 = .ok (.iload 8, 2) := by decide +kernel
theorem d_MOD_compute_242 : decode prog_8_method_32_code 242 = .ok (.ifCond .eq 11, 3) := by decide +kernel
theorem d_MOD_compute_245 : decode prog_8_method_32_code 245 = .ok (.iload 4, 2) := by decide +kernel
theorem d_MOD_compute_247 : decode prog_8_method_32_code 247 = .ok (.iload 6, 2) := by decide +kernel
theorem d_MOD_compute_249 : decode prog_8_method_32_code 249 = .ok (.ishr, 1) := by decide +kernel
theorem d_MOD_compute_250 : decode prog_8_method_32_code 250 = .ok (.goto 8, 3) := by decide +kernel
theorem d_MOD_compute_253 : decode prog_8_method_32_code 253 = .ok (.iload 4, 2) := by decide +kernel
theorem d_MOD_compute_255 : decode prog_8_method_32_code 255 = .ok (.iload 6, 2) := by decide +kernel
theorem d_MOD_compute_257 : decode prog_8_method_32_code 257 = .ok (.iushr, 1) := by decide +kernel
theorem d_MOD_compute_258 : decode prog_8_method_32_code 258 = .ok (.istore 9, 2) := by decide +kernel
theorem d_MOD_compute_260 : decode prog_8_method_32_code 260 = .ok (.goto 24, 3) := by decide +kernel
theorem d_MOD_compute_263 : decode prog_8_method_32_code 263 = .ok (.iload_n 2, 1) := by decide +kernel
theorem d_MOD_compute_264 : decode prog_8_method_32_code 264 = .ok (.bipush 6, 2) := by decide +kernel
theorem d_MOD_compute_266 : decode prog_8_method_32_code 266 = .ok (.if_icmp .ne 11, 3) := by decide +kernel
theorem d_MOD_compute_269 : decode prog_8_method_32_code 269 = .ok (.iload 4, 2) := by decide +kernel
theorem d_MOD_compute_271 : decode prog_8_method_32_code 271 = .ok (.iload 5, 2) := by decide +kernel
theorem d_MOD_compute_273 : decode prog_8_method_32_code 273 = .ok (.ior, 1) := by decide +kernel
theorem d_MOD_compute_274 : decode prog_8_method_32_code 274 = .ok (.goto 8, 3) := by decide +kernel
theorem d_MOD_compute_277 : decode prog_8_method_32_code 277 = .ok (.iload 4, 2) := by decide +kernel
theorem d_MOD_compute_279 : decode prog_8_method_32_code 279 = .ok (.iload 5, 2) := by decide +kernel
theorem d_MOD_compute_281 : decode prog_8_method_32_code 281 = .ok (.iand, 1) := by decide +kernel
theorem d_MOD_compute_282 : decode prog_8_method_32_code 282 = .ok (.istore 9, 2) := by decide +kernel
theorem d_MOD_compute_284 : decode prog_8_method_32_code 284 = .ok (.aload_n 0, 1) := by decide +kernel
theorem d_MOD_compute_285 : decode prog_8_method_32_code 285 = .ok (.aload_n 0, 1) := by decide +kernel
theorem d_MOD_compute_286 : decode prog_8_method_32_code 286 = .ok (.invokevirtual 131, 3) := by decide +kernel
theorem d_MOD_compute_289 : decode prog_8_method_32_code 289 = .ok (.iload 9, 2) := by decide +kernel
theorem d_MOD_compute_291 : decode prog_8_method_32_code 291 = .ok (.invokevirtual 135, 3) := by decide +kernel
theorem d_MOD_compute_294 : decode prog_8_method_32_code 294 = .ok (.return_, 1) := by decide +kernel
theorem d_MOD_call_0 : decode prog_8_method_33_code 0 = .ok (.aload_n 0, 1) := by decide +kernel
theorem d_MOD_call_1 : decode prog_8_method_33_code 1 = .ok (.bipush 10, 2) := by decide +kernel
theorem d_MOD_call_3 : decode prog_8_method_33_code 3 = .ok (.invokevirtual 113, 3) := by decide +kernel
theorem d_MOD_call_6 : decode prog_8_method_33_code 6 = .ok (.istore_n 1, 1) := by decide +kernel
theorem d_MOD_call_7 : decode prog_8_method_33_code 7 = .ok (.aload_n 0, 1) := by decide +kernel
theorem d_MOD_call_8 : decode prog_8_method_33_code 8 = .ok (.bipush 17, 2) := by decide +kernel
theorem d_MOD_call_10 : decode prog_8_method_33_code 10 = .ok (.invokevirtual 113, 3) := by decide +kernel
theorem d_MOD_call_13 : decode prog_8_method_33_code 13 = .ok (.istore_n 2, 1) := by decide +kernel
theorem d_MOD_call_14 : decode prog_8_method_33_code 14 = .ok (.iload_n 2, 1) := by decide +kernel
theorem d_MOD_call_15 : decode prog_8_method_33_code 15 = .ok (.ifCond .ne 11, 3) := by decide +kernel
theorem d_MOD_call_18 : decode prog_8_method_33_code 18 = .ok (.aload_n 0, 1) := by decide +kernel
theorem d_MOD_call_19 : decode prog_8_method_33_code 19 = .ok (.iconst 1, 1) := by decide +kernel
theorem d_MOD_call_20 : decode prog_8_method_33_code 20 = .ok (.putfield 118, 3) := by decide +kernel
theorem d_MOD_call_23 : decode prog_8_method_33_code 23 = .ok (.goto 209, 3) := by decide +kernel
theorem d_MOD_call_26 : decode prog_8_method_33_code 26 = .ok (.iload_n 2, 1) := by decide +kernel
theorem d_MOD_call_27 : decode prog_8_method_33_code 27 = .ok (.iconst 1, 1) := by decide +kernel
theorem d_MOD_call_28 : decode prog_8_method_33_code 28 = .ok (.if_icmp .ne 11, 3) := by decide +kernel
theorem d_MOD_call_31 : decode prog_8_method_33_code 31 = .ok (.aload_n 0, 1) := by decide +kernel
theorem d_MOD_call_32 : decode prog_8_method_33_code 32 = .ok (.iload_n 1, 1) := by decide +kernel
theorem d_MOD_call_33 : decode prog_8_method_33_code 33 = .ok (.invokevirtual 179, 3) := by decide +kernel
theorem d_MOD_call_36 : decode prog_8_method_33_code 36 = .ok (.goto 196, 3) := by decide +kernel
theorem d_MOD_call_39 : decode prog_8_method_33_code 39 = .ok (.iload_n 2, 1) := by decide +kernel
theorem d_MOD_call_40 : decode prog_8_method_33_code 40 = .ok (.iconst 2, 1) := by decide +kernel
theorem d_MOD_call_41 : decode prog_8_method_33_code 41 = .ok (.if_icmp .ne 16, 3) := by decide +kernel
theorem d_MOD_call_44 : decode prog_8_method_33_code 44 = .ok (.aload_n 0, 1) := by decide +kernel
theorem d_MOD_call_45 : decode prog_8_method_33_code 45 = .ok (.bipush 10, 2) := by decide +kernel
theorem d_MOD_call_47 : decode prog_8_method_33_code 47 = .ok (.aload_n 0, 1) := by decide +kernel
theorem d_MOD_call_48 : decode prog_8_method_33_code 48 = .ok (.getfield 97, 3) := by decide +kernel
theorem d_MOD_call_51 : decode prog_8_method_33_code 51 = .ok (.invokevirtual 135, 3) := by decide +kernel
theorem d_MOD_call_54 : decode prog_8_method_33_code 54 = .ok (.goto 178, 3) := by decide +kernel
theorem d_MOD_call_57 : decode prog_8_method_33_code 57 = .ok (.iload_n 2, 1) := by decide +kernel
theorem d_MOD_call_58 : decode prog_8_method_33_code 58 = .ok (.iconst 3, 1) := by decide +kernel
theorem d_MOD_call_59 : decode prog_8_method_33_code 59 = .ok (.if_icmp .ne 16, 3) := by decide +kernel
theorem d_MOD_call_62 : decode prog_8_method_33_code 62 = .ok (.aload_n 0, 1) := by decide +kernel
theorem d_MOD_call_63 : decode prog_8_method_33_code 63 = .ok (.bipush 10, 2) := by decide +kernel
theorem d_MOD_call_65 : decode prog_8_method_33_code 65 = .ok (.aload_n 0, 1) := by decide +kernel
theorem d_MOD_call_66 : decode prog_8_method_33_code 66 = .ok (.invokevirtual 182, 3) := by decide +kernel
theorem d_MOD_call_69 : decode prog_8_method_33_code 69 = .ok (.invokevirtual 135, 3) := by decide +kernel
theorem d_MOD_call_72 : decode prog_8_method_33_code 72 = .ok (.goto 160, 3) := by decide +kernel
theorem d_MOD_call_75 : decode prog_8_method_33_code 75 = .ok (.iload_n 2, 1) := by decide +kernel
theorem d_MOD_call_76 : decode prog_8_method_33_code 76 = .ok (.iconst 4, 1) := by decide +kernel
theorem d_MOD_call_77 : decode prog_8_method_33_code 77 = .ok (.if_icmp .ne 10, 3) := by decide +kernel
theorem d_MOD_call_80 : decode prog_8_method_33_code 80 = .ok (.aload_n 0, 1) := by decide +kernel
theorem d_MOD_call_81 : decode prog_8_method_33_code 81 = .ok (.invokevirtual 185, 3) := by decide +kernel
theorem d_MOD_call_84 : decode prog_8_method_33_code 84 = .ok (.goto 148, 3) := by decide +kernel
theorem d_MOD_call_87 : decode prog_8_method_33_code 87 = .ok (.iload_n 2, 1) := by decide +kernel
theorem d_MOD_call_88 : decode prog_8_method_33_code 88 = .ok (.iconst 5, 1) := by decide +kernel
theorem d_MOD_call_89 : decode prog_8_method_33_code 89 = .ok (.if_icmp .ne 17, 3) := by decide +kernel
theorem d_MOD_call_92 : decode prog_8_method_33_code 92 = .ok (.aload_n 0, 1) := by decide +kernel
theorem d_MOD_call_93 : decode prog_8_method_33_code 93 = .ok (.bipush 10, 2) := by decide +kernel
theorem d_MOD_call_95 : decode prog_8_method_33_code 95 = .ok (.aload_n 0, 1) := by decide +kernel
theorem d_MOD_call_96 : decode prog_8_method_33_code 96 = .ok (.iload_n 1, 1) := by decide +kernel
theorem d_MOD_call_97 : decode prog_8_method_33_code 97 = .ok (.invokevirtual 188, 3) := by decide +kernel
theorem d_MOD_call_100 : decode prog_8_method_33_code 100 = .ok (.invokevirtual 135, 3) := by decide +kernel
theorem d_MOD_call_103 : decode prog_8_method_33_code 103 = .ok (.goto 129, 3) := by decide +kernel
theorem d_MOD_call_106 : decode prog_8_method_33_code 106 = .ok (.iload_n 2, 1) := by decide +kernel
theorem d_MOD_call_107 : decode prog_8_method_33_code 107 = .ok (.bipush 6, 2) := by decide +kernel
theorem d_MOD_call_109 : decode prog_8_method_33_code 109 = .ok (.if_icmp .ne 19, 3) := by decide +kernel
theorem d_MOD_call_112 : decode prog_8_method_33_code 112 = .ok (.aload_n 0, 1) := by decide +kernel
theorem d_MOD_call_113 : decode prog_8_method_33_code 113 = .ok (.aload_n 0, 1) := by decide +kernel
theorem d_MOD_call_114 : decode prog_8_method_33_code 114 = .ok (.aload_n 0, 1) := by decide +kernel
theorem d_MOD_call_115 : decode prog_8_method_33_code 115 = .ok (.getfield 97, 3) := by decide +kernel
theorem d_MOD_call_118 : decode prog_8_method_33_code 118 = .ok (.iload_n 1, 1) := by decide +kernel
theorem d_MOD_call_119 : decode prog_8_method_33_code 119 = .ok (.invokevirtual 191, 3) := by decide +kernel
theorem d_MOD_call_122 : decode prog_8_method_33_code 122 = .ok (.invokevirtual 194, 3) := by decide +kernel
theorem d_MOD_call_125 : decode prog_8_method_33_code 125 = .ok (.goto 107, 3) := by decide +kernel
theorem d_MOD_call_128 : decode prog_8_method_33_code 128 = .ok (.iload_n 2, 1) := by decide +kernel
theorem d_MOD_call_129 : decode prog_8_method_33_code 129 = .ok (.bipush 7, 2) := by decide +kernel
theorem d_MOD_call_131 : decode prog_8_method_33_code 131 = .ok (.if_icmp .ne 19, 3) := by decide +kernel
theorem d_MOD_call_134 : decode prog_8_method_33_code 134 = .ok (.aload_n 0, 1) := by decide +kernel
theorem d_MOD_call_135 : decode prog_8_method_33_code 135 = .ok (.aload_n 0, 1) := by decide +kernel
theorem d_MOD_call_136 : decode prog_8_method_33_code 136 = .ok (.aload_n 0, 1) := by decide +kernel
theorem d_MOD_call_137 : decode prog_8_method_33_code 137 = .ok (.getfield 97, 3) := by decide +kernel
theorem d_MOD_call_140 : decode prog_8_method_33_code 140 = .ok (.iload_n 1, 1) := by decide +kernel
theorem d_MOD_call_141 : decode prog_8_method_33_code 141 = .ok (.invokevirtual 191, 3) := by decide +kernel
theorem d_MOD_call_144 : decode prog_8_method_33_code 144 = .ok (.invokevirtual 197, 3) := by decide +kernel
theorem d_MOD_call_147 : decode prog_8_method_33_code 147 = .ok (.goto 85, 3) := by decide +kernel
theorem d_MOD_call_150 : decode prog_8_method_33_code 150 = .ok (.iload_n 2, 1) := by decide +kernel
theorem d_MOD_call_151 : decode prog_8_method_33_code 151 = .ok (.bipush 8, 2) := by decide +kernel
theorem d_MOD_call_153 : decode prog_8_method_33_code 153 = .ok (.if_icmp .ne 10, 3) := by decide +kernel
theorem d_MOD_call_156 : decode prog_8_method_33_code 156 = .ok (.aload_n 0, 1) := by decide +kernel
theorem d_MOD_call_157 : decode prog_8_method_33_code 157 = .ok (.invokevirtual 200, 3) := by decide +kernel
theorem d_MOD_call_160 : decode prog_8_method_33_code 160 = .ok (.goto 72, 3) := by decide +kernel
theorem d_MOD_call_163 : decode prog_8_method_33_code 163 = .ok (.iload_n 2, 1) := by decide +kernel
theorem d_MOD_call_164 : decode prog_8_method_33_code 164 = .ok (.bipush 9, 2) := by decide +kernel
theorem d_MOD_call_166 : decode prog_8_method_33_code 166 = .ok (.if_icmp .ne 17, 3) := by decide +kernel
theorem d_MOD_call_169 : decode prog_8_method_33_code 169 = .ok (.aload_n 0, 1) := by decide +kernel
theorem d_MOD_call_170 : decode prog_8_method_33_code 170 = .ok (.bipush 10, 2) := by decide +kernel
theorem d_MOD_call_172 : decode prog_8_method_33_code 172 = .ok (.aload_n 0, 1) := by decide +kernel
theorem d_MOD_call_173 : decode prog_8_method_33_code 173 = .ok (.iload_n 1, 1) := by decide +kernel
theorem d_MOD_call_174 : decode prog_8_method_33_code 174 = .ok (.invokevirtual 203, 3) := by decide +kernel
theorem d_MOD_call_177 : decode prog_8_method_33_code 177 = .ok (.invokevirtual 135, 3) := by decide +kernel
theorem d_MOD_call_180 : decode prog_8_method_33_code 180 = .ok (.goto 52, 3) := by decide +kernel
theorem d_MOD_call_183 : decode prog_8_method_33_code 183 = .ok (.iload_n 2, 1) := by decide +kernel
theorem d_MOD_call_184 : decode prog_8_method_33_code 184 = .ok (.bipush 10, 2) := by decide +kernel
theorem d_MOD_call_186 : decode prog_8_method_33_code 186 = .ok (.if_icmp .ne 25, 3) := by decide +kernel
theorem d_MOD_call_189 : decode prog_8_method_33_code 189 = .ok (.aload_n 0, 1) := by decide +kernel
theorem d_MOD_call_190 : decode prog_8_method_33_code 190 = .ok (.bipush 10, 2) := by decide +kernel
theorem d_MOD_call_192 : decode prog_8_method_33_code 192 = .ok (.aload_n 0, 1) := by decide +kernel
theorem d_MOD_call_193 : decode prog_8_method_33_code 193 = .ok (.aload_n 0, 1) := by decide +kernel
theorem d_MOD_call_194 : decode prog_8_method_33_code 194 = .ok (.aload_n 0, 1) := by decide +kernel
theorem d_MOD_call_195 : decode prog_8_method_33_code 195 = .ok (.getfield 97, 3) := by decide +kernel
theorem d_MOD_call_198 : decode prog_8_method_33_code 198 = .ok (.iload_n 1, 1) := by decide +kernel
theorem d_MOD_call_199 : decode prog_8_method_33_code 199 = .ok (.invokevirtual 191, 3) := by decide +kernel
theorem d_MOD_call_202 : decode prog_8_method_33_code 202 = .ok (.invokevirtual 206, 3) := by decide +kernel
theorem d_MOD_call_205 : decode prog_8_method_33_code 205 = .ok (.invokevirtual 135, 3) := by decide +kernel
theorem d_MOD_call_208 : decode prog_8_method_33_code 208 = .ok (.goto 24, 3) := by decide +kernel
theorem d_MOD_call_211 : decode prog_8_method_33_code 211 = .ok (.iload_n 2, 1) := by decide +kernel
theorem d_MOD_call_212 : decode prog_8_method_33_code 212 = .ok (.bipush 11, 2) := by decide +kernel
theorem d_MOD_call_214 : decode prog_8_method_33_code 214 = .ok (.if_icmp .ne 11, 3) := by decide +kernel
theorem d_MOD_call_217 : decode prog_8_method_33_code 217 = .ok (.aload_n 0, 1) := by decide +kernel
theorem d_MOD_call_218 : decode prog_8_method_33_code 218 = .ok (.iload_n 1, 1) := by decide +kernel
theorem d_MOD_call_219 : decode prog_8_method_33_code 219 = .ok (.invokevirtual 209, 3) := by decide +kernel
theorem d_MOD_call_222 : decode prog_8_method_33_code 222 = .ok (.goto 10, 3) := by decide +kernel
theorem d_MOD_call_225 : decode prog_8_method_33_code 225 = .ok (.aload_n 0, 1) := by decide +kernel
theorem d_MOD_call_226 : decode prog_8_method_33_code 226 = .ok (.bipush 10, 2) := by decide +kernel
theorem d_MOD_call_228 : decode prog_8_method_33_code 228 = .ok (.iconst (-1), 1) := by decide +kernel
theorem d_MOD_call_229 : decode prog_8_method_33_code 229 = .ok (.invokevirtual 135, 3) := by decide +kernel
theorem d_MOD_call_232 : decode prog_8_method_33_code 232 = .ok (.return_, 1) := by decide +kernel
theorem d_MOD_leave_0 : decode prog_8_method_34_code 0 = .ok (.aload_n 0, 1) := by decide +kernel
theorem d_MOD_leave_1 : decode prog_8_method_34_code 1 = .ok (.getfield 28, 3) := by decide +kernel
theorem d_MOD_leave_4 : decode prog_8_method_34_code 4 = .ok (.aload_n 0, 1) := by decide +kernel
theorem d_MOD_leave_5 : decode prog_8_method_34_code 5 = .ok (.getfield 97, 3) := by decide +kernel
theorem d_MOD_leave_8 : decode prog_8_method_34_code 8 = .ok (.aload_n 0, 1) := by decide +kernel
theorem d_MOD_leave_9 : decode prog_8_method_34_code 9 = .ok (.getfield 121, 3) := by decide +kernel
theorem d_MOD_leave_12 : decode prog_8_method_34_code 12 = .ok (.iastore, 1) := by decide +kernel
theorem d_MOD_leave_13 : decode prog_8_method_34_code 13 = .ok (.aload_n 0, 1) := by decide +kernel
theorem d_MOD_leave_14 : decode prog_8_method_34_code 14 = .ok (.aload_n 0, 1) := by decide +kernel
theorem d_MOD_leave_15 : decode prog_8_method_34_code 15 = .ok (.getfield 97, 3) := by decide +kernel
theorem d_MOD_leave_18 : decode prog_8_method_34_code 18 = .ok (.iload_n 1, 1) := by decide +kernel
theorem d_MOD_leave_19 : decode prog_8_method_34_code 19 = .ok (.invokevirtual 103, 3) := by decide +kernel
theorem d_MOD_leave_22 : decode prog_8_method_34_code 22 = .ok (.return_, 1) := by decide +kernel
theorem d_MOD_block_0 : decode prog_8_method_35_code 0 = .ok (.aload_n 0, 1) := by decide +kernel
theorem d_MOD_block_1 : decode prog_8_method_35_code 1 = .ok (.getfield 19, 3) := by decide +kernel
theorem d_MOD_block_4 : decode prog_8_method_35_code 4 = .ok (.aload_n 0, 1) := by decide +kernel
theorem d_MOD_block_5 : decode prog_8_method_35_code 5 = .ok (.getfield 97, 3) := by decide +kernel
theorem d_MOD_block_8 : decode prog_8_method_35_code 8 = .ok (.iload_n 1, 1) := by decide +kernel
theorem d_MOD_block_9 : decode prog_8_method_35_code 9 = .ok (.iastore, 1) := by decide +kernel
theorem d_MOD_block_10 : decode prog_8_method_35_code 10 = .ok (.aload_n 0, 1) := by decide +kernel
theorem d_MOD_block_11 : decode prog_8_method_35_code 11 = .ok (.iconst 0, 1) := by decide +kernel
theorem d_MOD_block_12 : decode prog_8_method_35_code 12 = .ok (.putfield 100, 3) := by decide +kernel
theorem d_MOD_block_15 : decode prog_8_method_35_code 15 = .ok (.return_, 1) := by decide +kernel
theorem d_MOD_fork_0 : decode prog_8_method_36_code 0 = .ok (.iconst 1, 1) := by decide +kernel
theorem d_MOD_fork_1 : decode prog_8_method_36_code 1 = .ok (.istore_n 1, 1) := by decide +kernel
theorem d_MOD_fork_2 : decode prog_8_method_36_code 2 = .ok (.iload_n 1, 1) := by decide +kernel
theorem d_MOD_fork_3 : decode prog_8_method_36_code 3 = .ok (.bipush 8, 2) := by decide +kernel
theorem d_MOD_fork_5 : decode prog_8_method_36_code 5 = .ok (.if_icmp .gt 18, 3) := by decide +kernel
theorem d_MOD_fork_8 : decode prog_8_method_36_code 8 = .ok (.aload_n 0, 1) := by decide +kernel
theorem d_MOD_fork_9 : decode prog_8_method_36_code 9 = .ok (.getfield 19, 3) := by decide +kernel
theorem d_MOD_fork_12 : decode prog_8_method_36_code 12 = .ok (.iload_n 1, 1) := by decide +kernel
theorem d_MOD_fork_13 : decode prog_8_method_36_code 13 = .ok (.iaload, 1) := by decide +kernel
theorem d_MOD_fork_14 : decode prog_8_method_36_code 14 = .ok (.ifCond .le 9, 3) := by decide +kernel
theorem d_MOD_fork_17 : decode prog_8_method_36_code 17 = .ok (.iinc 1 1, 3) := by decide +kernel
theorem d_MOD_fork_20 : decode prog_8_method_36_code 20 = .ok (.goto (-18), 3) := by decide +kernel
theorem d_MOD_fork_23 : decode prog_8_method_36_code 23 = .ok (.iload_n 1, 1) := by decide +kernel
theorem d_MOD_fork_24 : decode prog_8_method_36_code 24 = .ok (.bipush 8, 2) := by decide +kernel
theorem d_MOD_fork_26 : decode prog_8_method_36_code 26 = .ok (.if_icmp .gt 19, 3) := by decide +kernel
theorem d_MOD_fork_29 : decode prog_8_method_36_code 29 = .ok (.aload_n 0, 1) := by decide +kernel
theorem d_MOD_fork_30 : decode prog_8_method_36_code 30 = .ok (.invokevirtual 212, 3) := by decide +kernel
theorem d_MOD_fork_33 : decode prog_8_method_36_code 33 = .ok (.aload_n 0, 1) := by decide +kernel
theorem d_MOD_fork_34 : decode prog_8_method_36_code 34 = .ok (.getfield 31, 3) := by decide +kernel
theorem d_MOD_fork_37 : decode prog_8_method_36_code 37 = .ok (.aload_n 0, 1) := by decide +kernel
theorem d_MOD_fork_38 : decode prog_8_method_36_code 38 = .ok (.getfield 97, 3) := by decide +kernel
theorem d_MOD_fork_41 : decode prog_8_method_36_code 41 = .ok (.iaload, 1) := by decide +kernel
theorem d_MOD_fork_42 : decode prog_8_method_36_code 42 = .ok (.if_icmp .ge 5, 3) := by decide +kernel
theorem d_MOD_fork_45 : decode prog_8_method_36_code 45 = .ok (.iconst (-1), 1) := by decide +kernel
theorem d_MOD_fork_46 : decode prog_8_method_36_code 46 = .ok (.ireturn, 1) := by decide +kernel
theorem d_MOD_fork_47 : decode prog_8_method_36_code 47 = .ok (.aload_n 0, 1) := by decide +kernel
theorem d_MOD_fork_48 : decode prog_8_method_36_code 48 = .ok (.getfield 31, 3) := by decide +kernel
theorem d_MOD_fork_51 : decode prog_8_method_36_code 51 = .ok (.iload_n 1, 1) := by decide +kernel
theorem d_MOD_fork_52 : decode prog_8_method_36_code 52 = .ok (.iconst 0, 1) := by decide +kernel
theorem d_MOD_fork_53 : decode prog_8_method_36_code 53 = .ok (.iastore, 1) := by decide +kernel
theorem d_MOD_fork_54 : decode prog_8_method_36_code 54 = .ok (.iconst 0, 1) := by decide +kernel
theorem d_MOD_fork_55 : decode prog_8_method_36_code 55 = .ok (.istore_n 2, 1) := by decide +kernel
theorem d_MOD_fork_56 : decode prog_8_method_36_code 56 = .ok (.iload_n 2, 1) := by decide +kernel
theorem d_MOD_fork_57 : decode prog_8_method_36_code 57 = .ok (.aload_n 0, 1) := by decide +kernel
theorem d_MOD_fork_58 : decode prog_8_method_36_code 58 = .ok (.getfield 31, 3) := by decide +kernel
theorem d_MOD_fork_61 : decode prog_8_method_36_code 61 = .ok (.aload_n 0, 1) := by decide +kernel
theorem d_MOD_fork_62 : decode prog_8_method_36_code 62 = .ok (.getfield 97, 3) := by decide +kernel
theorem d_MOD_fork_65 : decode prog_8_method_36_code 65 = .ok (.iaload, 1) := by decide +kernel
theorem d_MOD_fork_66 : decode prog_8_method_36_code 66 = .ok (.if_icmp .ge 68, 3) := by decide +kernel
theorem d_MOD_fork_69 : decode prog_8_method_36_code 69 = .ok (.aload_n 0, 1) := by decide +kernel
theorem d_MOD_fork_70 : decode prog_8_method_36_code 70 = .ok (.iload_n 1, 1) := by decide +kernel
theorem d_MOD_fork_71 : decode prog_8_method_36_code 71 = .ok (.invokevirtual 69, 3) := by decide +kernel
theorem d_MOD_fork_74 : decode prog_8_method_36_code 74 = .ok (.istore_n 3, 1) := by decide +kernel
theorem d_MOD_fork_75 : decode prog_8_method_36_code 75 = .ok (.iconst 0, 1) := by decide +kernel
theorem d_MOD_fork_76 : decode prog_8_method_36_code 76 = .ok (.istore 4, 2) := by decide +kernel
theorem d_MOD_fork_78 : decode prog_8_method_36_code 78 = .ok (.iload 4, 2) := by decide +kernel
theorem d_MOD_fork_80 : decode prog_8_method_36_code 80 = .ok (.bipush 16, 2) := by decide +kernel
theorem d_MOD_fork_82 : decode prog_8_method_36_code 82 = .ok (.if_icmp .ge 46, 3) := by decide +kernel
theorem d_MOD_fork_85 : decode prog_8_method_36_code 85 = .ok (.aload_n 0, 1) := by decide +kernel
theorem d_MOD_fork_86 : decode prog_8_method_36_code 86 = .ok (.getfield 7, 3) := by decide +kernel
theorem d_MOD_fork_89 : decode prog_8_method_36_code 89 = .ok (.bipush 16, 2) := by decide +kernel
theorem d_MOD_fork_91 : decode prog_8_method_36_code 91 = .ok (.iload_n 3, 1) := by decide +kernel
theorem d_MOD_fork_92 : decode prog_8_method_36_code 92 = .ok (.imul, 1) := by decide +kernel
theorem d_MOD_fork_93 : decode prog_8_method_36_code 93 = .ok (.iload 4, 2) := by decide +kernel
theorem d_MOD_fork_95 : decode prog_8_method_36_code 95 = .ok (.iadd, 1) := by decide +kernel
theorem d_MOD_fork_96 : decode prog_8_method_36_code 96 = .ok (.aload_n 0, 1) := by decide +kernel
theorem d_MOD_fork_97 : decode prog_8_method_36_code 97 = .ok (.getfield 7, 3) := by decide +kernel
theorem d_MOD_fork_100 : decode prog_8_method_36_code 100 = .ok (.bipush 16, 2) := by decide +kernel
theorem d_MOD_fork_102 : decode prog_8_method_36_code 102 = .ok (.aload_n 0, 1) := by decide +kernel
theorem d_MOD_fork_103 : decode prog_8_method_36_code 103 = .ok (.getfield 37, 3) := by decide +kernel
theorem d_MOD_fork_106 : decode prog_8_method_36_code 106 = .ok (.bipush 8, 2) := by decide +kernel
theorem d_MOD_fork_108 : decode prog_8_method_36_code 108 = .ok (.aload_n 0, 1) := by decide +kernel
theorem d_MOD_fork_109 : decode prog_8_method_36_code 109 = .ok (.getfield 97, 3) := by decide +kernel
theorem d_MOD_fork_112 : decode prog_8_method_36_code 112 = .ok (.imul, 1) := by decide +kernel
theorem d_MOD_fork_113 : decode prog_8_method_36_code 113 = .ok (.iload_n 2, 1) := by decide +kernel
theorem d_MOD_fork_114 : decode prog_8_method_36_code 114 = .ok (.iadd, 1) := by decide +kernel
theorem d_MOD_fork_115 : decode prog_8_method_36_code 115 = .ok (.iaload, 1) := by decide +kernel
theorem d_MOD_fork_116 : decode prog_8_method_36_code 116 = .ok (.imul, 1) := by decide +kernel
theorem d_MOD_fork_117 : decode prog_8_method_36_code 117 = .ok (.iload 4, 2) := by decide +kernel
theorem d_MOD_fork_119 : decode prog_8_method_36_code 119 = .ok (.iadd, 1) := by decide +kernel
theorem d_MOD_fork_120 : decode prog_8_method_36_code 120 = .ok (.iaload, 1) := by decide +kernel
theorem d_MOD_fork_121 : decode prog_8_method_36_code 121 = .ok (.iastore, 1) := by decide +kernel
theorem d_MOD_fork_122 : decode prog_8_method_36_code 122 = .ok (.iinc 4 1, 3) := by decide +kernel
theorem d_MOD_fork_125 : decode prog_8_method_36_code 125 = .ok (.goto (-47), 3) := by decide +kernel
theorem d_MOD_fork_128 : decode prog_8_method_36_code 128 = .ok (.iinc 2 1, 3) := by decide +kernel
theorem d_MOD_fork_131 : decode prog_8_method_36_code 131 = .ok (.goto (-75), 3) := by decide +kernel
theorem d_MOD_fork_134 : decode prog_8_method_36_code 134 = .ok (.iconst 0, 1) := by decide +kernel
theorem d_MOD_fork_135 : decode prog_8_method_36_code 135 = .ok (.istore_n 2, 1) := by decide +kernel
theorem d_MOD_fork_136 : decode prog_8_method_36_code 136 = .ok (.iload_n 2, 1) := by decide +kernel
theorem d_MOD_fork_137 : decode prog_8_method_36_code 137 = .ok (.bipush 32, 2) := by decide +kernel
theorem d_MOD_fork_139 : decode prog_8_method_36_code 139 = .ok (.if_icmp .ge 25, 3) := by decide +kernel
theorem d_MOD_fork_142 : decode prog_8_method_36_code 142 = .ok (.aload_n 0, 1) := by decide +kernel
theorem d_MOD_fork_143 : decode prog_8_method_36_code 143 = .ok (.getfield 34, 3) := by decide +kernel
theorem d_MOD_fork_146 : decode prog_8_method_36_code 146 = .ok (.bipush 32, 2) := by decide +kernel
theorem d_MOD_fork_148 : decode prog_8_method_36_code 148 = .ok (.iload_n 1, 1) := by decide +kernel
theorem d_MOD_fork_149 : decode prog_8_method_36_code 149 = .ok (.imul, 1) := by decide +kernel
theorem d_MOD_fork_150 : decode prog_8_method_36_code 150 = .ok (.iload_n 2, 1) := by decide +kernel
theorem d_MOD_fork_151 : decode prog_8_method_36_code 151 = .ok (.iadd, 1) := by decide +kernel
theorem d_MOD_fork_152 : decode prog_8_method_36_code 152 = .ok (.aload_n 0, 1) := by decide +kernel
theorem d_MOD_fork_153 : decode prog_8_method_36_code 153 = .ok (.iload_n 2, 1) := by decide +kernel
theorem d_MOD_fork_154 : decode prog_8_method_36_code 154 = .ok (.invokevirtual 113, 3) := by decide +kernel
theorem d_MOD_fork_157 : decode prog_8_method_36_code 157 = .ok (.iastore, 1) := by decide +kernel
theorem d_MOD_fork_158 : decode prog_8_method_36_code 158 = .ok (.iinc 2 1, 3) := by decide +kernel
theorem d_MOD_fork_161 : decode prog_8_method_36_code 161 = .ok (.goto (-25), 3) := by decide +kernel
theorem d_MOD_fork_164 : decode prog_8_method_36_code 164 = .ok (.iconst 0, 1) := by decide +kernel
theorem d_MOD_fork_165 : decode prog_8_method_36_code 165 = .ok (.istore_n 2, 1) := by decide +kernel
theorem d_MOD_fork_166 : decode prog_8_method_36_code 166 = .ok (.iload_n 2, 1) := by decide +kernel
theorem d_MOD_fork_167 : decode prog_8_method_36_code 167 = .ok (.bipush 6, 2) := by decide +kernel
theorem d_MOD_fork_169 : decode prog_8_method_36_code 169 = .ok (.if_icmp .ge 34, 3) := by decide +kernel
theorem d_MOD_fork_172 : decode prog_8_method_36_code 172 = .ok (.aload_n 0, 1) := by decide +kernel
theorem d_MOD_fork_173 : decode prog_8_method_36_code 173 = .ok (.getfield 40, 3) := by decide +kernel
theorem d_MOD_fork_176 : decode prog_8_method_36_code 176 = .ok (.bipush 6, 2) := by decide +kernel
theorem d_MOD_fork_178 : decode prog_8_method_36_code 178 = .ok (.iload_n 1, 1) := by decide +kernel
theorem d_MOD_fork_179 : decode prog_8_method_36_code 179 = .ok (.imul, 1) := by decide +kernel
theorem d_MOD_fork_180 : decode prog_8_method_36_code 180 = .ok (.iload_n 2, 1) := by decide +kernel
theorem d_MOD_fork_181 : decode prog_8_method_36_code 181 = .ok (.iadd, 1) := by decide +kernel
theorem d_MOD_fork_182 : decode prog_8_method_36_code 182 = .ok (.aload_n 0, 1) := by decide +kernel
theorem d_MOD_fork_183 : decode prog_8_method_36_code 183 = .ok (.getfield 40, 3) := by decide +kernel
theorem d_MOD_fork_186 : decode prog_8_method_36_code 186 = .ok (.bipush 6, 2) := by decide +kernel
theorem d_MOD_fork_188 : decode prog_8_method_36_code 188 = .ok (.aload_n 0, 1) := by decide +kernel
theorem d_MOD_fork_189 : decode prog_8_method_36_code 189 = .ok (.getfield 97, 3) := by decide +kernel
theorem d_MOD_fork_192 : decode prog_8_method_36_code 192 = .ok (.imul, 1) := by decide +kernel
theorem d_MOD_fork_193 : decode prog_8_method_36_code 193 = .ok (.iload_n 2, 1) := by decide +kernel
theorem d_MOD_fork_194 : decode prog_8_method_36_code 194 = .ok (.iadd, 1) := by decide +kernel
theorem d_MOD_fork_195 : decode prog_8_method_36_code 195 = .ok (.iaload, 1) := by decide +kernel
theorem d_MOD_fork_196 : decode prog_8_method_36_code 196 = .ok (.iastore, 1) := by decide +kernel
theorem d_MOD_fork_197 : decode prog_8_method_36_code 197 = .ok (.iinc 2 1, 3) := by decide +kernel
theorem d_MOD_fork_200 : decode prog_8_method_36_code 200 = .ok (.goto (-34), 3) := by decide +kernel
theorem d_MOD_fork_203 : decode prog_8_method_36_code 203 = .ok (.aload_n 0, 1) := by decide +kernel
theorem d_MOD_fork_204 : decode prog_8_method_36_code 204 = .ok (.getfield 34, 3) := by decide +kernel
theorem d_MOD_fork_207 : decode prog_8_method_36_code 207 = .ok (.bipush 32, 2) := by decide +kernel
theorem d_MOD_fork_209 : decode prog_8_method_36_code 209 = .ok (.iload_n 1, 1) := by decide +kernel
theorem d_MOD_fork_210 : decode prog_8_method_36_code 210 = .ok (.imul, 1) := by decide +kernel
theorem d_MOD_fork_211 : decode prog_8_method_36_code 211 = .ok (.bipush 10, 2) := by decide +kernel
theorem d_MOD_fork_213 : decode prog_8_method_36_code 213 = .ok (.iadd, 1) := by decide +kernel
theorem d_MOD_fork_214 : decode prog_8_method_36_code 214 = .ok (.iconst 0, 1) := by decide +kernel
theorem d_MOD_fork_215 : decode prog_8_method_36_code 215 = .ok (.iastore, 1) := by decide +kernel
theorem d_MOD_fork_216 : decode prog_8_method_36_code 216 = .ok (.aload_n 0, 1) := by decide +kernel
theorem d_MOD_fork_217 : decode prog_8_method_36_code 217 = .ok (.getfield 28, 3) := by decide +kernel
theorem d_MOD_fork_220 : decode prog_8_method_36_code 220 = .ok (.iload_n 1, 1) := by decide +kernel
theorem d_MOD_fork_221 : decode prog_8_method_36_code 221 = .ok (.aload_n 0, 1) := by decide +kernel
theorem d_MOD_fork_222 : decode prog_8_method_36_code 222 = .ok (.getfield 28, 3) := by decide +kernel
theorem d_MOD_fork_225 : decode prog_8_method_36_code 225 = .ok (.aload_n 0, 1) := by decide +kernel
theorem d_MOD_fork_226 : decode prog_8_method_36_code 226 = .ok (.getfield 97, 3) := by decide +kernel
theorem d_MOD_fork_229 : decode prog_8_method_36_code 229 = .ok (.iaload, 1) := by decide +kernel
theorem d_MOD_fork_230 : decode prog_8_method_36_code 230 = .ok (.iconst 4, 1) := by decide +kernel
theorem d_MOD_fork_231 : decode prog_8_method_36_code 231 = .ok (.iadd, 1) := by decide +kernel
theorem d_MOD_fork_232 : decode prog_8_method_36_code 232 = .ok (.iastore, 1) := by decide +kernel
theorem d_MOD_fork_233 : decode prog_8_method_36_code 233 = .ok (.aload_n 0, 1) := by decide +kernel
theorem d_MOD_fork_234 : decode prog_8_method_36_code 234 = .ok (.getfield 25, 3) := by decide +kernel
theorem d_MOD_fork_237 : decode prog_8_method_36_code 237 = .ok (.iload_n 1, 1) := by decide +kernel
theorem d_MOD_fork_238 : decode prog_8_method_36_code 238 = .ok (.aload_n 0, 1) := by decide +kernel
theorem d_MOD_fork_239 : decode prog_8_method_36_code 239 = .ok (.getfield 97, 3) := by decide +kernel
theorem d_MOD_fork_242 : decode prog_8_method_36_code 242 = .ok (.iastore, 1) := by decide +kernel
theorem d_MOD_fork_243 : decode prog_8_method_36_code 243 = .ok (.aload_n 0, 1) := by decide +kernel
theorem d_MOD_fork_244 : decode prog_8_method_36_code 244 = .ok (.getfield 22, 3) := by decide +kernel
theorem d_MOD_fork_247 : decode prog_8_method_36_code 247 = .ok (.iload_n 1, 1) := by decide +kernel
theorem d_MOD_fork_248 : decode prog_8_method_36_code 248 = .ok (.iconst 0, 1) := by decide +kernel
theorem d_MOD_fork_249 : decode prog_8_method_36_code 249 = .ok (.iastore, 1) := by decide +kernel
theorem d_MOD_fork_250 : decode prog_8_method_36_code 250 = .ok (.aload_n 0, 1) := by decide +kernel
theorem d_MOD_fork_251 : decode prog_8_method_36_code 251 = .ok (.iload_n 1, 1) := by decide +kernel
theorem d_MOD_fork_252 : decode prog_8_method_36_code 252 = .ok (.invokevirtual 73, 3) := by decide +kernel
theorem d_MOD_fork_255 : decode prog_8_method_36_code 255 = .ok (.iload_n 1, 1) := by decide +kernel
theorem d_MOD_fork_256 : decode prog_8_method_36_code 256 = .ok (.ireturn, 1) := by decide +kernel
