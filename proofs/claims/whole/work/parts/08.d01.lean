theorem d_K_passTurn_0 : decode prog_1_method_25_code 0 = .ok (.aload_n 1, 1) := by decide +kernel
theorem d_K_passTurn_1 : decode prog_1_method_25_code 1 = .ok (.getfield 98, 3) := by decide +kernel
theorem d_K_passTurn_4 : decode prog_1_method_25_code 4 = .ok (.iconst 1, 1) := by decide +kernel
theorem d_K_passTurn_5 : decode prog_1_method_25_code 5 = .ok (.if_icmp .eq 11, 3) := by decide +kernel
theorem d_K_passTurn_8 : decode prog_1_method_25_code 8 = .ok (.aload_n 0, 1) := by decide +kernel
theorem d_K_passTurn_9 : decode prog_1_method_25_code 9 = .ok (.iconst 0, 1) := by decide +kernel
theorem d_K_passTurn_10 : decode prog_1_method_25_code 10 = .ok (.putfield 91, 3) := by decide +kernel
theorem d_K_passTurn_13 : decode prog_1_method_25_code 13 = .ok (.goto 33, 3) := by decide +kernel
theorem d_K_passTurn_16 : decode prog_1_method_25_code 16 = .ok (.aload_n 0, 1) := by decide +kernel
theorem d_K_passTurn_17 : decode prog_1_method_25_code 17 = .ok (.getfield 152, 3) := by decide +kernel
theorem d_K_passTurn_20 : decode prog_1_method_25_code 20 = .ok (.ifCond .ne 10, 3) := by decide +kernel
theorem d_K_passTurn_23 : decode prog_1_method_25_code 23 = .ok (.aload_n 0, 1) := by decide +kernel
theorem d_K_passTurn_24 : decode prog_1_method_25_code 24 = .ok (.getfield 149, 3) := by decide +kernel
theorem d_K_passTurn_27 : decode prog_1_method_25_code 27 = .ok (.ifCond .gt 19, 3) := by decide +kernel
theorem d_K_passTurn_30 : decode prog_1_method_25_code 30 = .ok (.aload_n 0, 1) := by decide +kernel
theorem d_K_passTurn_31 : decode prog_1_method_25_code 31 = .ok (.getfield 43, 3) := by decide +kernel
theorem d_K_passTurn_34 : decode prog_1_method_25_code 34 = .ok (.aload_n 1, 1) := by decide +kernel
theorem d_K_passTurn_35 : decode prog_1_method_25_code 35 = .ok (.getfield 140, 3) := by decide +kernel
theorem d_K_passTurn_38 : decode prog_1_method_25_code 38 = .ok (.invokevirtual 143, 3) := by decide +kernel
theorem d_K_passTurn_41 : decode prog_1_method_25_code 41 = .ok (.aload_n 0, 1) := by decide +kernel
theorem d_K_passTurn_42 : decode prog_1_method_25_code 42 = .ok (.iconst 0, 1) := by decide +kernel
theorem d_K_passTurn_43 : decode prog_1_method_25_code 43 = .ok (.putfield 91, 3) := by decide +kernel
theorem d_K_passTurn_46 : decode prog_1_method_25_code 46 = .ok (.return_, 1) := by decide +kernel
theorem d_K_wakeSleepers_0 : decode prog_1_method_26_code 0 = .ok (.iconst 0, 1) := by decide +kernel
theorem d_K_wakeSleepers_1 : decode prog_1_method_26_code 1 = .ok (.istore_n 1, 1) := by decide +kernel
theorem d_K_wakeSleepers_2 : decode prog_1_method_26_code 2 = .ok (.iload_n 1, 1) := by decide +kernel
theorem d_K_wakeSleepers_3 : decode prog_1_method_26_code 3 = .ok (.bipush 8, 2) := by decide +kernel
theorem d_K_wakeSleepers_5 : decode prog_1_method_26_code 5 = .ok (.if_icmp .ge 37, 3) := by decide +kernel
theorem d_K_wakeSleepers_8 : decode prog_1_method_26_code 8 = .ok (.aload_n 0, 1) := by decide +kernel
theorem d_K_wakeSleepers_9 : decode prog_1_method_26_code 9 = .ok (.getfield 28, 3) := by decide +kernel
theorem d_K_wakeSleepers_12 : decode prog_1_method_26_code 12 = .ok (.iload_n 1, 1) := by decide +kernel
theorem d_K_wakeSleepers_13 : decode prog_1_method_26_code 13 = .ok (.aaload, 1) := by decide +kernel
theorem d_K_wakeSleepers_14 : decode prog_1_method_26_code 14 = .ok (.astore_n 2, 1) := by decide +kernel
theorem d_K_wakeSleepers_15 : decode prog_1_method_26_code 15 = .ok (.aload_n 2, 1) := by decide +kernel
theorem d_K_wakeSleepers_16 : decode prog_1_method_26_code 16 = .ok (.invokevirtual 177, 3) := by decide +kernel
theorem d_K_wakeSleepers_19 : decode prog_1_method_26_code 19 = .ok (.ifCond .eq 17, 3) := by decide +kernel
theorem d_K_wakeSleepers_22 : decode prog_1_method_26_code 22 = .ok (.aload_n 0, 1) := by decide +kernel
theorem d_K_wakeSleepers_23 : decode prog_1_method_26_code 23 = .ok (.aload_n 2, 1) := by decide +kernel
theorem d_K_wakeSleepers_24 : decode prog_1_method_26_code 24 = .ok (.invokevirtual 180, 3) := by decide +kernel
theorem d_K_wakeSleepers_27 : decode prog_1_method_26_code 27 = .ok (.iconst 1, 1) := by decide +kernel
theorem d_K_wakeSleepers_28 : decode prog_1_method_26_code 28 = .ok (.if_icmp .ne 8, 3) := by decide +kernel
theorem d_K_wakeSleepers_31 : decode prog_1_method_26_code 31 = .ok (.aload_n 0, 1) := by decide +kernel
theorem d_K_wakeSleepers_32 : decode prog_1_method_26_code 32 = .ok (.aload_n 2, 1) := by decide +kernel
theorem d_K_wakeSleepers_33 : decode prog_1_method_26_code 33 = .ok (.invokevirtual 79, 3) := by decide +kernel
theorem d_K_wakeSleepers_36 : decode prog_1_method_26_code 36 = .ok (.iinc 1 1, 3) := by decide +kernel
theorem d_K_wakeSleepers_39 : decode prog_1_method_26_code 39 = .ok (.goto (-37), 3) := by decide +kernel
theorem d_K_wakeSleepers_42 : decode prog_1_method_26_code 42 = .ok (.return_, 1) := by decide +kernel
theorem d_K_beginCall_0 : decode prog_1_method_27_code 0 = .ok (.aload_n 1, 1) := by decide +kernel
theorem d_K_beginCall_1 : decode prog_1_method_27_code 1 = .ok (.aload_n 0, 1) := by decide +kernel
theorem d_K_beginCall_2 : decode prog_1_method_27_code 2 = .ok (.aload_n 1, 1) := by decide +kernel
theorem d_K_beginCall_3 : decode prog_1_method_27_code 3 = .ok (.invokevirtual 180, 3) := by decide +kernel
theorem d_K_beginCall_6 : decode prog_1_method_27_code 6 = .ok (.putfield 98, 3) := by decide +kernel
theorem d_K_beginCall_9 : decode prog_1_method_27_code 9 = .ok (.aload_n 1, 1) := by decide +kernel
theorem d_K_beginCall_10 : decode prog_1_method_27_code 10 = .ok (.getfield 98, 3) := by decide +kernel
theorem d_K_beginCall_13 : decode prog_1_method_27_code 13 = .ok (.iconst 1, 1) := by decide +kernel
theorem d_K_beginCall_14 : decode prog_1_method_27_code 14 = .ok (.if_icmp .eq 5, 3) := by decide +kernel
theorem d_K_beginCall_17 : decode prog_1_method_27_code 17 = .ok (.iconst 0, 1) := by decide +kernel
theorem d_K_beginCall_18 : decode prog_1_method_27_code 18 = .ok (.ireturn, 1) := by decide +kernel
theorem d_K_beginCall_19 : decode prog_1_method_27_code 19 = .ok (.aload_n 1, 1) := by decide +kernel
theorem d_K_beginCall_20 : decode prog_1_method_27_code 20 = .ok (.dup, 1) := by decide +kernel
theorem d_K_beginCall_21 : decode prog_1_method_27_code 21 = .ok (.getfield 114, 3) := by decide +kernel
theorem d_K_beginCall_24 : decode prog_1_method_27_code 24 = .ok (.iconst 4, 1) := by decide +kernel
theorem d_K_beginCall_25 : decode prog_1_method_27_code 25 = .ok (.iadd, 1) := by decide +kernel
theorem d_K_beginCall_26 : decode prog_1_method_27_code 26 = .ok (.putfield 114, 3) := by decide +kernel
theorem d_K_beginCall_29 : decode prog_1_method_27_code 29 = .ok (.iconst 1, 1) := by decide +kernel
theorem d_K_beginCall_30 : decode prog_1_method_27_code 30 = .ok (.ireturn, 1) := by decide +kernel
theorem d_K_obstacleOf_0 : decode prog_1_method_28_code 0 = .ok (.aload_n 1, 1) := by decide +kernel
theorem d_K_obstacleOf_1 : decode prog_1_method_28_code 1 = .ok (.aload_n 1, 1) := by decide +kernel
theorem d_K_obstacleOf_2 : decode prog_1_method_28_code 2 = .ok (.bipush 10, 2) := by decide +kernel
theorem d_K_obstacleOf_4 : decode prog_1_method_28_code 4 = .ok (.invokevirtual 110, 3) := by decide +kernel
theorem d_K_obstacleOf_7 : decode prog_1_method_28_code 7 = .ok (.invokevirtual 124, 3) := by decide +kernel
theorem d_K_obstacleOf_10 : decode prog_1_method_28_code 10 = .ok (.istore_n 2, 1) := by decide +kernel
theorem d_K_obstacleOf_11 : decode prog_1_method_28_code 11 = .ok (.aload_n 1, 1) := by decide +kernel
theorem d_K_obstacleOf_12 : decode prog_1_method_28_code 12 = .ok (.bipush 17, 2) := by decide +kernel
theorem d_K_obstacleOf_14 : decode prog_1_method_28_code 14 = .ok (.invokevirtual 110, 3) := by decide +kernel
theorem d_K_obstacleOf_17 : decode prog_1_method_28_code 17 = .ok (.tableswitch 121 4 7 #[31, 121, 53, 87], 31) := by decide +kernel
theorem d_K_obstacleOf_48 : decode prog_1_method_28_code 48 = .ok (.aload_n 0, 1) := by decide +kernel
theorem d_K_obstacleOf_49 : decode prog_1_method_28_code 49 = .ok (.aload_n 1, 1) := by decide +kernel
theorem d_K_obstacleOf_50 : decode prog_1_method_28_code 50 = .ok (.invokevirtual 184, 3) := by decide +kernel
theorem d_K_obstacleOf_53 : decode prog_1_method_28_code 53 = .ok (.ifCond .eq 15, 3) := by decide +kernel
theorem d_K_obstacleOf_56 : decode prog_1_method_28_code 56 = .ok (.aload_n 0, 1) := by decide +kernel
theorem d_K_obstacleOf_57 : decode prog_1_method_28_code 57 = .ok (.aload_n 1, 1) := by decide +kernel
theorem d_K_obstacleOf_58 : decode prog_1_method_28_code 58 = .ok (.invokevirtual 187, 3) := by decide +kernel
theorem d_K_obstacleOf_61 : decode prog_1_method_28_code 61 = .ok (.ifnonnull 7, 3) := by decide +kernel
theorem d_K_obstacleOf_64 : decode prog_1_method_28_code 64 = .ok (.iconst 4, 1) := by decide +kernel
theorem d_K_obstacleOf_65 : decode prog_1_method_28_code 65 = .ok (.goto 4, 3) := by decide +kernel
theorem d_K_obstacleOf_68 : decode prog_1_method_28_code 68 = .ok (.iconst 1, 1) := by decide +kernel
theorem d_K_obstacleOf_69 : decode prog_1_method_28_code 69 = .ok (.ireturn, 1) := by decide +kernel
theorem d_K_obstacleOf_70 : decode prog_1_method_28_code 70 = .ok (.iload_n 2, 1) := by decide +kernel
theorem d_K_obstacleOf_71 : decode prog_1_method_28_code 71 = .ok (.invokestatic 191, 3) := by decide +kernel
theorem d_K_obstacleOf_74 : decode prog_1_method_28_code 74 = .ok (.ifCond .eq 28, 3) := by decide +kernel
theorem d_K_obstacleOf_77 : decode prog_1_method_28_code 77 = .ok (.aload_n 0, 1) := by decide +kernel
theorem d_K_obstacleOf_78 : decode prog_1_method_28_code 78 = .ok (.iload_n 2, 1) := by decide +kernel
theorem d_K_obstacleOf_79 : decode prog_1_method_28_code 79 = .ok (.invokevirtual 194, 3) := by decide +kernel
theorem d_K_obstacleOf_82 : decode prog_1_method_28_code 82 = .ok (.invokevirtual 198, 3) := by decide +kernel
theorem d_K_obstacleOf_85 : decode prog_1_method_28_code 85 = .ok (.ifCond .eq 17, 3) := by decide +kernel
theorem d_K_obstacleOf_88 : decode prog_1_method_28_code 88 = .ok (.aload_n 0, 1) := by decide +kernel
theorem d_K_obstacleOf_89 : decode prog_1_method_28_code 89 = .ok (.iload_n 2, 1) := by decide +kernel
theorem d_K_obstacleOf_90 : decode prog_1_method_28_code 90 = .ok (.iconst 1, 1) := by decide +kernel
theorem d_K_obstacleOf_91 : decode prog_1_method_28_code 91 = .ok (.isub, 1) := by decide +kernel
theorem d_K_obstacleOf_92 : decode prog_1_method_28_code 92 = .ok (.invokevirtual 201, 3) := by decide +kernel
theorem d_K_obstacleOf_95 : decode prog_1_method_28_code 95 = .ok (.ifCond .eq 7, 3) := by decide +kernel
theorem d_K_obstacleOf_98 : decode prog_1_method_28_code 98 = .ok (.iconst 3, 1) := by decide +kernel
theorem d_K_obstacleOf_99 : decode prog_1_method_28_code 99 = .ok (.goto 4, 3) := by decide +kernel
theorem d_K_obstacleOf_102 : decode prog_1_method_28_code 102 = .ok (.iconst 1, 1) := by decide +kernel
theorem d_K_obstacleOf_103 : decode prog_1_method_28_code 103 = .ok (.ireturn, 1) := by decide +kernel
theorem d_K_obstacleOf_104 : decode prog_1_method_28_code 104 = .ok (.iload_n 2, 1) := by decide +kernel
theorem d_K_obstacleOf_105 : decode prog_1_method_28_code 105 = .ok (.invokestatic 204, 3) := by decide +kernel
theorem d_K_obstacleOf_108 : decode prog_1_method_28_code 108 = .ok (.ifCond .eq 28, 3) := by decide +kernel
theorem d_K_obstacleOf_111 : decode prog_1_method_28_code 111 = .ok (.aload_n 0, 1) := by decide +kernel
theorem d_K_obstacleOf_112 : decode prog_1_method_28_code 112 = .ok (.iload_n 2, 1) := by decide +kernel
theorem d_K_obstacleOf_113 : decode prog_1_method_28_code 113 = .ok (.invokevirtual 194, 3) := by decide +kernel
theorem d_K_obstacleOf_116 : decode prog_1_method_28_code 116 = .ok (.invokevirtual 207, 3) := by decide +kernel
theorem d_K_obstacleOf_119 : decode prog_1_method_28_code 119 = .ok (.ifCond .eq 17, 3) := by decide +kernel
theorem d_K_obstacleOf_122 : decode prog_1_method_28_code 122 = .ok (.aload_n 0, 1) := by decide +kernel
theorem d_K_obstacleOf_123 : decode prog_1_method_28_code 123 = .ok (.iload_n 2, 1) := by decide +kernel
theorem d_K_obstacleOf_124 : decode prog_1_method_28_code 124 = .ok (.iconst 1, 1) := by decide +kernel
theorem d_K_obstacleOf_125 : decode prog_1_method_28_code 125 = .ok (.iadd, 1) := by decide +kernel
theorem d_K_obstacleOf_126 : decode prog_1_method_28_code 126 = .ok (.invokevirtual 201, 3) := by decide +kernel
theorem d_K_obstacleOf_129 : decode prog_1_method_28_code 129 = .ok (.ifCond .eq 7, 3) := by decide +kernel
theorem d_K_obstacleOf_132 : decode prog_1_method_28_code 132 = .ok (.iconst 2, 1) := by decide +kernel
theorem d_K_obstacleOf_133 : decode prog_1_method_28_code 133 = .ok (.goto 4, 3) := by decide +kernel
theorem d_K_obstacleOf_136 : decode prog_1_method_28_code 136 = .ok (.iconst 1, 1) := by decide +kernel
theorem d_K_obstacleOf_137 : decode prog_1_method_28_code 137 = .ok (.ireturn, 1) := by decide +kernel
theorem d_K_obstacleOf_138 : decode prog_1_method_28_code 138 = .ok (.iconst 1, 1) := by decide +kernel
theorem d_K_obstacleOf_139 : decode prog_1_method_28_code 139 = .ok (.ireturn, 1) := by decide +kernel
theorem d_K_answerOf_0 : decode prog_1_method_29_code 0 = .ok (.aload_n 1, 1) := by decide +kernel
theorem d_K_answerOf_1 : decode prog_1_method_29_code 1 = .ok (.bipush 17, 2) := by decide +kernel
theorem d_K_answerOf_3 : decode prog_1_method_29_code 3 = .ok (.invokevirtual 110, 3) := by decide +kernel
theorem d_K_answerOf_6 : decode prog_1_method_29_code 6 = .ok (.tableswitch 157 0 11 #[62, 69, 77, 82, 88, 94, 101, 121, 131, 137, 144, 151], 62) := by decide +kernel
theorem d_K_answerOf_68 : decode prog_1_method_29_code 68 = .ok (.aload_n 0, 1) := by decide +kernel
theorem d_K_answerOf_69 : decode prog_1_method_29_code 69 = .ok (.iconst 1, 1) := by decide +kernel
theorem d_K_answerOf_70 : decode prog_1_method_29_code 70 = .ok (.putfield 152, 3) := by decide +kernel
theorem d_K_answerOf_73 : decode prog_1_method_29_code 73 = .ok (.iload_n 2, 1) := by decide +kernel
theorem d_K_answerOf_74 : decode prog_1_method_29_code 74 = .ok (.ireturn, 1) := by decide +kernel
theorem d_K_answerOf_75 : decode prog_1_method_29_code 75 = .ok (.aload_n 0, 1) := by decide +kernel
theorem d_K_answerOf_76 : decode prog_1_method_29_code 76 = .ok (.aload_n 1, 1) := by decide +kernel
theorem d_K_answerOf_77 : decode prog_1_method_29_code 77 = .ok (.iload_n 2, 1) := by decide +kernel
theorem d_K_answerOf_78 : decode prog_1_method_29_code 78 = .ok (.invokevirtual 168, 3) := by decide +kernel
theorem d_K_answerOf_81 : decode prog_1_method_29_code 81 = .ok (.iload_n 2, 1) := by decide +kernel
theorem d_K_answerOf_82 : decode prog_1_method_29_code 82 = .ok (.ireturn, 1) := by decide +kernel
theorem d_K_answerOf_83 : decode prog_1_method_29_code 83 = .ok (.aload_n 1, 1) := by decide +kernel
theorem d_K_answerOf_84 : decode prog_1_method_29_code 84 = .ok (.getfield 140, 3) := by decide +kernel
theorem d_K_answerOf_87 : decode prog_1_method_29_code 87 = .ok (.ireturn, 1) := by decide +kernel
theorem d_K_answerOf_88 : decode prog_1_method_29_code 88 = .ok (.aload_n 0, 1) := by decide +kernel
theorem d_K_answerOf_89 : decode prog_1_method_29_code 89 = .ok (.aload_n 1, 1) := by decide +kernel
theorem d_K_answerOf_90 : decode prog_1_method_29_code 90 = .ok (.invokevirtual 210, 3) := by decide +kernel
theorem d_K_answerOf_93 : decode prog_1_method_29_code 93 = .ok (.ireturn, 1) := by decide +kernel
theorem d_K_answerOf_94 : decode prog_1_method_29_code 94 = .ok (.aload_n 0, 1) := by decide +kernel
theorem d_K_answerOf_95 : decode prog_1_method_29_code 95 = .ok (.aload_n 1, 1) := by decide +kernel
theorem d_K_answerOf_96 : decode prog_1_method_29_code 96 = .ok (.invokevirtual 213, 3) := by decide +kernel
theorem d_K_answerOf_99 : decode prog_1_method_29_code 99 = .ok (.ireturn, 1) := by decide +kernel
theorem d_K_answerOf_100 : decode prog_1_method_29_code 100 = .ok (.aload_n 0, 1) := by decide +kernel
theorem d_K_answerOf_101 : decode prog_1_method_29_code 101 = .ok (.aload_n 1, 1) := by decide +kernel
theorem d_K_answerOf_102 : decode prog_1_method_29_code 102 = .ok (.iload_n 2, 1) := by decide +kernel
theorem d_K_answerOf_103 : decode prog_1_method_29_code 103 = .ok (.invokevirtual 216, 3) := by decide +kernel
theorem d_K_answerOf_106 : decode prog_1_method_29_code 106 = .ok (.ireturn, 1) := by decide +kernel
theorem d_K_answerOf_107 : decode prog_1_method_29_code 107 = .ok (.aload_n 0, 1) := by decide +kernel
theorem d_K_answerOf_108 : decode prog_1_method_29_code 108 = .ok (.aload_n 1, 1) := by decide +kernel
theorem d_K_answerOf_109 : decode prog_1_method_29_code 109 = .ok (.iload_n 2, 1) := by decide +kernel
theorem d_K_answerOf_110 : decode prog_1_method_29_code 110 = .ok (.invokevirtual 124, 3) := by decide +kernel
theorem d_K_answerOf_113 : decode prog_1_method_29_code 113 = .ok (.aload_n 1, 1) := by decide +kernel
theorem d_K_answerOf_114 : decode prog_1_method_29_code 114 = .ok (.bipush 11, 2) := by decide +kernel
theorem d_K_answerOf_116 : decode prog_1_method_29_code 116 = .ok (.invokevirtual 110, 3) := by decide +kernel
theorem d_K_answerOf_119 : decode prog_1_method_29_code 119 = .ok (.sipush 255, 3) := by decide +kernel
theorem d_K_answerOf_122 : decode prog_1_method_29_code 122 = .ok (.iand, 1) := by decide +kernel
theorem d_K_answerOf_123 : decode prog_1_method_29_code 123 = .ok (.invokevirtual 219, 3) := by decide +kernel
theorem d_K_answerOf_126 : decode prog_1_method_29_code 126 = .ok (.ireturn, 1) := by decide +kernel
theorem d_K_answerOf_127 : decode prog_1_method_29_code 127 = .ok (.aload_n 0, 1) := by decide +kernel
theorem d_K_answerOf_128 : decode prog_1_method_29_code 128 = .ok (.aload_n 1, 1) := by decide +kernel
theorem d_K_answerOf_129 : decode prog_1_method_29_code 129 = .ok (.iload_n 2, 1) := by decide +kernel
theorem d_K_answerOf_130 : decode prog_1_method_29_code 130 = .ok (.invokevirtual 124, 3) := by decide +kernel
theorem d_K_answerOf_133 : decode prog_1_method_29_code 133 = .ok (.invokevirtual 223, 3) := by decide +kernel
theorem d_K_answerOf_136 : decode prog_1_method_29_code 136 = .ok (.ireturn, 1) := by decide +kernel
theorem d_K_answerOf_137 : decode prog_1_method_29_code 137 = .ok (.aload_n 0, 1) := by decide +kernel
theorem d_K_answerOf_138 : decode prog_1_method_29_code 138 = .ok (.aload_n 1, 1) := by decide +kernel
theorem d_K_answerOf_139 : decode prog_1_method_29_code 139 = .ok (.invokevirtual 226, 3) := by decide +kernel
theorem d_K_answerOf_142 : decode prog_1_method_29_code 142 = .ok (.ireturn, 1) := by decide +kernel
theorem d_K_answerOf_143 : decode prog_1_method_29_code 143 = .ok (.aload_n 0, 1) := by decide +kernel
theorem d_K_answerOf_144 : decode prog_1_method_29_code 144 = .ok (.aload_n 1, 1) := by decide +kernel
theorem d_K_answerOf_145 : decode prog_1_method_29_code 145 = .ok (.iload_n 2, 1) := by decide +kernel
theorem d_K_answerOf_146 : decode prog_1_method_29_code 146 = .ok (.invokevirtual 229, 3) := by decide +kernel
theorem d_K_answerOf_149 : decode prog_1_method_29_code 149 = .ok (.ireturn, 1) := by decide +kernel
theorem d_K_answerOf_150 : decode prog_1_method_29_code 150 = .ok (.aload_n 0, 1) := by decide +kernel
theorem d_K_answerOf_151 : decode prog_1_method_29_code 151 = .ok (.aload_n 1, 1) := by decide +kernel
theorem d_K_answerOf_152 : decode prog_1_method_29_code 152 = .ok (.iload_n 2, 1) := by decide +kernel
theorem d_K_answerOf_153 : decode prog_1_method_29_code 153 = .ok (.invokevirtual 232, 3) := by decide +kernel
theorem d_K_answerOf_156 : decode prog_1_method_29_code 156 = .ok (.ireturn, 1) := by decide +kernel
theorem d_K_answerOf_157 : decode prog_1_method_29_code 157 = .ok (.aload_n 0, 1) := by decide +kernel
theorem d_K_answerOf_158 : decode prog_1_method_29_code 158 = .ok (.iload_n 2, 1) := by decide +kernel
theorem d_K_answerOf_159 : decode prog_1_method_29_code 159 = .ok (.invokevirtual 235, 3) := by decide +kernel
theorem d_K_answerOf_162 : decode prog_1_method_29_code 162 = .ok (.ireturn, 1) := by decide +kernel
theorem d_K_answerOf_163 : decode prog_1_method_29_code 163 = .ok (.iconst (-1), 1) := by decide +kernel
theorem d_K_answerOf_164 : decode prog_1_method_29_code 164 = .ok (.ireturn, 1) := by decide +kernel
theorem d_K_fork_0 : decode prog_1_method_30_code 0 = .ok (.aload_n 0, 1) := by decide +kernel
theorem d_K_fork_1 : decode prog_1_method_30_code 1 = .ok (.invokevirtual 238, 3) := by decide +kernel
theorem d_K_fork_4 : decode prog_1_method_30_code 4 = .ok (.astore_n 2, 1) := by decide +kernel
theorem d_K_fork_5 : decode prog_1_method_30_code 5 = .ok (.aload_n 2, 1) := by decide +kernel
theorem d_K_fork_6 : decode prog_1_method_30_code 6 = .ok (.ifnull 17, 3) := by decide +kernel
theorem d_K_fork_9 : decode prog_1_method_30_code 9 = .ok (.aload_n 0, 1) := by decide +kernel
theorem d_K_fork_10 : decode prog_1_method_30_code 10 = .ok (.getfield 18, 3) := by decide +kernel
theorem d_K_fork_13 : decode prog_1_method_30_code 13 = .ok (.getfield 61, 3) := by decide +kernel
theorem d_K_fork_16 : decode prog_1_method_30_code 16 = .ok (.aload_n 1, 1) := by decide +kernel
theorem d_K_fork_17 : decode prog_1_method_30_code 17 = .ok (.getfield 107, 3) := by decide +kernel
theorem d_K_fork_20 : decode prog_1_method_30_code 20 = .ok (.if_icmp .ge 5, 3) := by decide +kernel
theorem d_K_fork_23 : decode prog_1_method_30_code 23 = .ok (.iconst (-1), 1) := by decide +kernel
theorem d_K_fork_24 : decode prog_1_method_30_code 24 = .ok (.ireturn, 1) := by decide +kernel
theorem d_K_fork_25 : decode prog_1_method_30_code 25 = .ok (.aload_n 2, 1) := by decide +kernel
theorem d_K_fork_26 : decode prog_1_method_30_code 26 = .ok (.aload_n 1, 1) := by decide +kernel
theorem d_K_fork_27 : decode prog_1_method_30_code 27 = .ok (.invokevirtual 242, 3) := by decide +kernel
theorem d_K_fork_30 : decode prog_1_method_30_code 30 = .ok (.aload_n 2, 1) := by decide +kernel
theorem d_K_fork_31 : decode prog_1_method_30_code 31 = .ok (.aload_n 1, 1) := by decide +kernel
theorem d_K_fork_32 : decode prog_1_method_30_code 32 = .ok (.getfield 140, 3) := by decide +kernel
theorem d_K_fork_35 : decode prog_1_method_30_code 35 = .ok (.putfield 104, 3) := by decide +kernel
theorem d_K_fork_38 : decode prog_1_method_30_code 38 = .ok (.aload_n 2, 1) := by decide +kernel
theorem d_K_fork_39 : decode prog_1_method_30_code 39 = .ok (.bipush 10, 2) := by decide +kernel
theorem d_K_fork_41 : decode prog_1_method_30_code 41 = .ok (.iconst 0, 1) := by decide +kernel
theorem d_K_fork_42 : decode prog_1_method_30_code 42 = .ok (.invokevirtual 72, 3) := by decide +kernel
theorem d_K_fork_45 : decode prog_1_method_30_code 45 = .ok (.aload_n 0, 1) := by decide +kernel
theorem d_K_fork_46 : decode prog_1_method_30_code 46 = .ok (.getfield 18, 3) := by decide +kernel
theorem d_K_fork_49 : decode prog_1_method_30_code 49 = .ok (.aload_n 2, 1) := by decide +kernel
theorem d_K_fork_50 : decode prog_1_method_30_code 50 = .ok (.aload_n 1, 1) := by decide +kernel
theorem d_K_fork_51 : decode prog_1_method_30_code 51 = .ok (.getfield 107, 3) := by decide +kernel
theorem d_K_fork_54 : decode prog_1_method_30_code 54 = .ok (.invokevirtual 64, 3) := by decide +kernel
theorem d_K_fork_57 : decode prog_1_method_30_code 57 = .ok (.aload_n 0, 1) := by decide +kernel
theorem d_K_fork_58 : decode prog_1_method_30_code 58 = .ok (.getfield 18, 3) := by decide +kernel
theorem d_K_fork_61 : decode prog_1_method_30_code 61 = .ok (.aload_n 1, 1) := by decide +kernel
theorem d_K_fork_62 : decode prog_1_method_30_code 62 = .ok (.aload_n 2, 1) := by decide +kernel
theorem d_K_fork_63 : decode prog_1_method_30_code 63 = .ok (.invokevirtual 245, 3) := by decide +kernel
theorem d_K_fork_66 : decode prog_1_method_30_code 66 = .ok (.aload_n 0, 1) := by decide +kernel
theorem d_K_fork_67 : decode prog_1_method_30_code 67 = .ok (.aload_n 2, 1) := by decide +kernel
theorem d_K_fork_68 : decode prog_1_method_30_code 68 = .ok (.invokevirtual 79, 3) := by decide +kernel
theorem d_K_fork_71 : decode prog_1_method_30_code 71 = .ok (.aload_n 2, 1) := by decide +kernel
theorem d_K_fork_72 : decode prog_1_method_30_code 72 = .ok (.getfield 140, 3) := by decide +kernel
theorem d_K_fork_75 : decode prog_1_method_30_code 75 = .ok (.ireturn, 1) := by decide +kernel
theorem d_K_leastAbsent_0 : decode prog_1_method_31_code 0 = .ok (.iconst 0, 1) := by decide +kernel
theorem d_K_leastAbsent_1 : decode prog_1_method_31_code 1 = .ok (.istore_n 1, 1) := by decide +kernel
theorem d_K_leastAbsent_2 : decode prog_1_method_31_code 2 = .ok (.iload_n 1, 1) := by decide +kernel
theorem d_K_leastAbsent_3 : decode prog_1_method_31_code 3 = .ok (.bipush 8, 2) := by decide +kernel
theorem d_K_leastAbsent_5 : decode prog_1_method_31_code 5 = .ok (.if_icmp .ge 28, 3) := by decide +kernel
theorem d_K_leastAbsent_8 : decode prog_1_method_31_code 8 = .ok (.aload_n 0, 1) := by decide +kernel
theorem d_K_leastAbsent_9 : decode prog_1_method_31_code 9 = .ok (.getfield 28, 3) := by decide +kernel
theorem d_K_leastAbsent_12 : decode prog_1_method_31_code 12 = .ok (.iload_n 1, 1) := by decide +kernel
theorem d_K_leastAbsent_13 : decode prog_1_method_31_code 13 = .ok (.aaload, 1) := by decide +kernel
theorem d_K_leastAbsent_14 : decode prog_1_method_31_code 14 = .ok (.getfield 98, 3) := by decide +kernel
theorem d_K_leastAbsent_17 : decode prog_1_method_31_code 17 = .ok (.ifCond .ne 10, 3) := by decide +kernel
theorem d_K_leastAbsent_20 : decode prog_1_method_31_code 20 = .ok (.aload_n 0, 1) := by decide +kernel
theorem d_K_leastAbsent_21 : decode prog_1_method_31_code 21 = .ok (.getfield 28, 3) := by decide +kernel
theorem d_K_leastAbsent_24 : decode prog_1_method_31_code 24 = .ok (.iload_n 1, 1) := by decide +kernel
theorem d_K_leastAbsent_25 : decode prog_1_method_31_code 25 = .ok (.aaload, 1) := by decide +kernel
theorem d_K_leastAbsent_26 : decode prog_1_method_31_code 26 = .ok (.areturn, 1) := by decide +kernel
theorem d_K_leastAbsent_27 : decode prog_1_method_31_code 27 = .ok (.iinc 1 1, 3) := by decide +kernel
theorem d_K_leastAbsent_30 : decode prog_1_method_31_code 30 = .ok (.goto (-28), 3) := by decide +kernel
theorem d_K_leastAbsent_33 : decode prog_1_method_31_code 33 = .ok (.aconst_null, 1) := by decide +kernel
theorem d_K_leastAbsent_34 : decode prog_1_method_31_code 34 = .ok (.areturn, 1) := by decide +kernel
theorem d_K_collectChild_0 : decode prog_1_method_32_code 0 = .ok (.aload_n 0, 1) := by decide +kernel
theorem d_K_collectChild_1 : decode prog_1_method_32_code 1 = .ok (.aload_n 1, 1) := by decide +kernel
theorem d_K_collectChild_2 : decode prog_1_method_32_code 2 = .ok (.invokevirtual 187, 3) := by decide +kernel
theorem d_K_collectChild_5 : decode prog_1_method_32_code 5 = .ok (.astore_n 2, 1) := by decide +kernel
theorem d_K_collectChild_6 : decode prog_1_method_32_code 6 = .ok (.aload_n 2, 1) := by decide +kernel
theorem d_K_collectChild_7 : decode prog_1_method_32_code 7 = .ok (.ifnonnull 5, 3) := by decide +kernel
theorem d_K_collectChild_10 : decode prog_1_method_32_code 10 = .ok (.iconst (-1), 1) := by decide +kernel
theorem d_K_collectChild_11 : decode prog_1_method_32_code 11 = .ok (.ireturn, 1) := by decide +kernel
theorem d_K_collectChild_12 : decode prog_1_method_32_code 12 = .ok (.aload_n 2, 1) := by decide +kernel
theorem d_K_collectChild_13 : decode prog_1_method_32_code 13 = .ok (.iconst 0, 1) := by decide +kernel
theorem d_K_collectChild_14 : decode prog_1_method_32_code 14 = .ok (.putfield 98, 3) := by decide +kernel
theorem d_K_collectChild_17 : decode prog_1_method_32_code 17 = .ok (.aload_n 1, 1) := by decide +kernel
theorem d_K_collectChild_18 : decode prog_1_method_32_code 18 = .ok (.bipush 11, 2) := by decide +kernel
theorem d_K_collectChild_20 : decode prog_1_method_32_code 20 = .ok (.aload_n 2, 1) := by decide +kernel
theorem d_K_collectChild_21 : decode prog_1_method_32_code 21 = .ok (.getfield 101, 3) := by decide +kernel
theorem d_K_collectChild_24 : decode prog_1_method_32_code 24 = .ok (.invokevirtual 72, 3) := by decide +kernel
theorem d_K_collectChild_27 : decode prog_1_method_32_code 27 = .ok (.aload_n 2, 1) := by decide +kernel
theorem d_K_collectChild_28 : decode prog_1_method_32_code 28 = .ok (.getfield 140, 3) := by decide +kernel
theorem d_K_collectChild_31 : decode prog_1_method_32_code 31 = .ok (.ireturn, 1) := by decide +kernel
theorem d_K_endedChildOf_0 : decode prog_1_method_33_code 0 = .ok (.iconst 0, 1) := by decide +kernel
theorem d_K_endedChildOf_1 : decode prog_1_method_33_code 1 = .ok (.istore_n 2, 1) := by decide +kernel
theorem d_K_endedChildOf_2 : decode prog_1_method_33_code 2 = .ok (.iload_n 2, 1) := by decide +kernel
theorem d_K_endedChildOf_3 : decode prog_1_method_33_code 3 = .ok (.bipush 8, 2) := by decide +kernel
theorem d_K_endedChildOf_5 : decode prog_1_method_33_code 5 = .ok (.if_icmp .ge 42, 3) := by decide +kernel
theorem d_K_endedChildOf_8 : decode prog_1_method_33_code 8 = .ok (.aload_n 0, 1) := by decide +kernel
theorem d_K_endedChildOf_9 : decode prog_1_method_33_code 9 = .ok (.getfield 28, 3) := by decide +kernel
theorem d_K_endedChildOf_12 : decode prog_1_method_33_code 12 = .ok (.iload_n 2, 1) := by decide +kernel
theorem d_K_endedChildOf_13 : decode prog_1_method_33_code 13 = .ok (.aaload, 1) := by decide +kernel
theorem d_K_endedChildOf_14 : decode prog_1_method_33_code 14 = .ok (.aload_n 1, 1) := by decide +kernel
theorem d_K_endedChildOf_15 : decode prog_1_method_33_code 15 = .ok (.invokevirtual 249, 3) := by decide +kernel
theorem d_K_endedChildOf_18 : decode prog_1_method_33_code 18 = .ok (.ifCond .eq 23, 3) := by decide +kernel
theorem d_K_endedChildOf_21 : decode prog_1_method_33_code 21 = .ok (.aload_n 0, 1) := by decide +kernel
theorem d_K_endedChildOf_22 : decode prog_1_method_33_code 22 = .ok (.getfield 28, 3) := by decide +kernel
theorem d_K_endedChildOf_25 : decode prog_1_method_33_code 25 = .ok (.iload_n 2, 1) := by decide +kernel
theorem d_K_endedChildOf_26 : decode prog_1_method_33_code 26 = .ok (.aaload, 1) := by decide +kernel
theorem d_K_endedChildOf_27 : decode prog_1_method_33_code 27 = .ok (.getfield 98, 3) := by decide +kernel
theorem d_K_endedChildOf_30 : decode prog_1_method_33_code 30 = .ok (.iconst 5, 1) := by decide +kernel
theorem d_K_endedChildOf_31 : decode prog_1_method_33_code 31 = .ok (.if_icmp .ne 10, 3) := by decide +kernel
theorem d_K_endedChildOf_34 : decode prog_1_method_33_code 34 = .ok (.aload_n 0, 1) := by decide +kernel
theorem d_K_endedChildOf_35 : decode prog_1_method_33_code 35 = .ok (.getfield 28, 3) := by decide +kernel
theorem d_K_endedChildOf_38 : decode prog_1_method_33_code 38 = .ok (.iload_n 2, 1) := by decide +kernel
theorem d_K_endedChildOf_39 : decode prog_1_method_33_code 39 = .ok (.aaload, 1) := by decide +kernel
theorem d_K_endedChildOf_40 : decode prog_1_method_33_code 40 = .ok (.areturn, 1) := by decide +kernel
theorem d_K_endedChildOf_41 : decode prog_1_method_33_code 41 = .ok (.iinc 2 1, 3) := by decide +kernel
theorem d_K_endedChildOf_44 : decode prog_1_method_33_code 44 = .ok (.goto (-42), 3) := by decide +kernel
theorem d_K_endedChildOf_47 : decode prog_1_method_33_code 47 = .ok (.aconst_null, 1) := by decide +kernel
theorem d_K_endedChildOf_48 : decode prog_1_method_33_code 48 = .ok (.areturn, 1) := by decide +kernel
theorem d_K_hasChild_0 : decode prog_1_method_34_code 0 = .ok (.iconst 0, 1) := by decide +kernel
theorem d_K_hasChild_1 : decode prog_1_method_34_code 1 = .ok (.istore_n 2, 1) := by decide +kernel
theorem d_K_hasChild_2 : decode prog_1_method_34_code 2 = .ok (.iload_n 2, 1) := by decide +kernel
theorem d_K_hasChild_3 : decode prog_1_method_34_code 3 = .ok (.bipush 8, 2) := by decide +kernel
theorem d_K_hasChild_5 : decode prog_1_method_34_code 5 = .ok (.if_icmp .ge 24, 3) := by decide +kernel
theorem d_K_hasChild_8 : decode prog_1_method_34_code 8 = .ok (.aload_n 0, 1) := by decide +kernel
theorem d_K_hasChild_9 : decode prog_1_method_34_code 9 = .ok (.getfield 28, 3) := by decide +kernel
theorem d_K_hasChild_12 : decode prog_1_method_34_code 12 = .ok (.iload_n 2, 1) := by decide +kernel
theorem d_K_hasChild_13 : decode prog_1_method_34_code 13 = .ok (.aaload, 1) := by decide +kernel
theorem d_K_hasChild_14 : decode prog_1_method_34_code 14 = .ok (.aload_n 1, 1) := by decide +kernel
theorem d_K_hasChild_15 : decode prog_1_method_34_code 15 = .ok (.invokevirtual 249, 3) := by decide +kernel
theorem d_K_hasChild_18 : decode prog_1_method_34_code 18 = .ok (.ifCond .eq 5, 3) := by decide +kernel
theorem d_K_hasChild_21 : decode prog_1_method_34_code 21 = .ok (.iconst 1, 1) := by decide +kernel
theorem d_K_hasChild_22 : decode prog_1_method_34_code 22 = .ok (.ireturn, 1) := by decide +kernel
theorem d_K_hasChild_23 : decode prog_1_method_34_code 23 = .ok (.iinc 2 1, 3) := by decide +kernel
theorem d_K_hasChild_26 : decode prog_1_method_34_code 26 = .ok (.goto (-24), 3) := by decide +kernel
theorem d_K_hasChild_29 : decode prog_1_method_34_code 29 = .ok (.iconst 0, 1) := by decide +kernel
theorem d_K_hasChild_30 : decode prog_1_method_34_code 30 = .ok (.ireturn, 1) := by decide +kernel
theorem d_K_grow_0 : decode prog_1_method_35_code 0 = .ok (.iload_n 2, 1) := by decide +kernel
theorem d_K_grow_1 : decode prog_1_method_35_code 1 = .ok (.iconst 1, 1) := by decide +kernel
theorem d_K_grow_2 : decode prog_1_method_35_code 2 = .ok (.if_icmp .lt 25, 3) := by decide +kernel
theorem d_K_grow_5 : decode prog_1_method_35_code 5 = .ok (.iload_n 2, 1) := by decide +kernel
theorem d_K_grow_6 : decode prog_1_method_35_code 6 = .ok (.bipush 8, 2) := by decide +kernel
theorem d_K_grow_8 : decode prog_1_method_35_code 8 = .ok (.aload_n 1, 1) := by decide +kernel
theorem d_K_grow_9 : decode prog_1_method_35_code 9 = .ok (.getfield 107, 3) := by decide +kernel
theorem d_K_grow_12 : decode prog_1_method_35_code 12 = .ok (.isub, 1) := by decide +kernel
theorem d_K_grow_13 : decode prog_1_method_35_code 13 = .ok (.if_icmp .gt 14, 3) := by decide +kernel
theorem d_K_grow_16 : decode prog_1_method_35_code 16 = .ok (.iload_n 2, 1) := by decide +kernel
theorem d_K_grow_17 : decode prog_1_method_35_code 17 = .ok (.aload_n 0, 1) := by decide +kernel
theorem d_K_grow_18 : decode prog_1_method_35_code 18 = .ok (.getfield 18, 3) := by decide +kernel
theorem d_K_grow_21 : decode prog_1_method_35_code 21 = .ok (.getfield 61, 3) := by decide +kernel
theorem d_K_grow_24 : decode prog_1_method_35_code 24 = .ok (.if_icmp .le 5, 3) := by decide +kernel
theorem d_K_grow_27 : decode prog_1_method_35_code 27 = .ok (.iconst (-1), 1) := by decide +kernel
theorem d_K_grow_28 : decode prog_1_method_35_code 28 = .ok (.ireturn, 1) := by decide +kernel
theorem d_K_grow_29 : decode prog_1_method_35_code 29 = .ok (.aload_n 0, 1) := by decide +kernel
theorem d_K_grow_30 : decode prog_1_method_35_code 30 = .ok (.getfield 18, 3) := by decide +kernel
theorem d_K_grow_33 : decode prog_1_method_35_code 33 = .ok (.aload_n 1, 1) := by decide +kernel
theorem d_K_grow_34 : decode prog_1_method_35_code 34 = .ok (.iload_n 2, 1) := by decide +kernel
theorem d_K_grow_35 : decode prog_1_method_35_code 35 = .ok (.invokevirtual 64, 3) := by decide +kernel
theorem d_K_grow_38 : decode prog_1_method_35_code 38 = .ok (.aload_n 1, 1) := by decide +kernel
theorem d_K_grow_39 : decode prog_1_method_35_code 39 = .ok (.getfield 107, 3) := by decide +kernel
theorem d_K_grow_42 : decode prog_1_method_35_code 42 = .ok (.ireturn, 1) := by decide +kernel
theorem d_K_write_0 : decode prog_1_method_36_code 0 = .ok (.iload_n 1, 1) := by decide +kernel
theorem d_K_write_1 : decode prog_1_method_36_code 1 = .ok (.ifCond .ne 9, 3) := by decide +kernel
theorem d_K_write_4 : decode prog_1_method_36_code 4 = .ok (.aload_n 0, 1) := by decide +kernel
theorem d_K_write_5 : decode prog_1_method_36_code 5 = .ok (.iload_n 2, 1) := by decide +kernel
theorem d_K_write_6 : decode prog_1_method_36_code 6 = .ok (.invokevirtual 252, 3) := by decide +kernel
theorem d_K_write_9 : decode prog_1_method_36_code 9 = .ok (.ireturn, 1) := by decide +kernel
theorem d_K_write_10 : decode prog_1_method_36_code 10 = .ok (.iload_n 1, 1) := by decide +kernel
theorem d_K_write_11 : decode prog_1_method_36_code 11 = .ok (.invokestatic 191, 3) := by decide +kernel
theorem d_K_write_14 : decode prog_1_method_36_code 14 = .ok (.ifCond .eq 13, 3) := by decide +kernel
theorem d_K_write_17 : decode prog_1_method_36_code 17 = .ok (.aload_n 0, 1) := by decide +kernel
theorem d_K_write_18 : decode prog_1_method_36_code 18 = .ok (.iload_n 1, 1) := by decide +kernel
theorem d_K_write_19 : decode prog_1_method_36_code 19 = .ok (.iconst 1, 1) := by decide +kernel
theorem d_K_write_20 : decode prog_1_method_36_code 20 = .ok (.isub, 1) := by decide +kernel
theorem d_K_write_21 : decode prog_1_method_36_code 21 = .ok (.invokevirtual 201, 3) := by decide +kernel
theorem d_K_write_24 : decode prog_1_method_36_code 24 = .ok (.ifCond .ne 5, 3) := by decide +kernel
theorem d_K_write_27 : decode prog_1_method_36_code 27 = .ok (.iconst (-1), 1) := by decide +kernel
theorem d_K_write_28 : decode prog_1_method_36_code 28 = .ok (.ireturn, 1) := by decide +kernel
theorem d_K_write_29 : decode prog_1_method_36_code 29 = .ok (.aload_n 0, 1) := by decide +kernel
theorem d_K_write_30 : decode prog_1_method_36_code 30 = .ok (.iload_n 1, 1) := by decide +kernel
theorem d_K_write_31 : decode prog_1_method_36_code 31 = .ok (.invokevirtual 194, 3) := by decide +kernel
theorem d_K_write_34 : decode prog_1_method_36_code 34 = .ok (.iload_n 2, 1) := by decide +kernel
theorem d_K_write_35 : decode prog_1_method_36_code 35 = .ok (.invokevirtual 255, 3) := by decide +kernel
theorem d_K_write_38 : decode prog_1_method_36_code 38 = .ok (.iload_n 2, 1) := by decide +kernel
theorem d_K_write_39 : decode prog_1_method_36_code 39 = .ok (.ireturn, 1) := by decide +kernel
theorem d_K_print_0 : decode prog_1_method_37_code 0 = .ok (.aload_n 0, 1) := by decide +kernel
theorem d_K_print_1 : decode prog_1_method_37_code 1 = .ok (.getfield 134, 3) := by decide +kernel
theorem d_K_print_4 : decode prog_1_method_37_code 4 = .ok (.sipush 200, 3) := by decide +kernel
theorem d_K_print_7 : decode prog_1_method_37_code 7 = .ok (.if_icmp .lt 5, 3) := by decide +kernel
theorem d_K_print_10 : decode prog_1_method_37_code 10 = .ok (.iconst (-1), 1) := by decide +kernel
theorem d_K_print_11 : decode prog_1_method_37_code 11 = .ok (.ireturn, 1) := by decide +kernel
theorem d_K_print_12 : decode prog_1_method_37_code 12 = .ok (.aload_n 0, 1) := by decide +kernel
theorem d_K_print_13 : decode prog_1_method_37_code 13 = .ok (.getfield 51, 3) := by decide +kernel
theorem d_K_print_16 : decode prog_1_method_37_code 16 = .ok (.aload_n 0, 1) := by decide +kernel
theorem d_K_print_17 : decode prog_1_method_37_code 17 = .ok (.getfield 134, 3) := by decide +kernel
theorem d_K_print_20 : decode prog_1_method_37_code 20 = .ok (.iload_n 1, 1) := by decide +kernel
theorem d_K_print_21 : decode prog_1_method_37_code 21 = .ok (.iastore, 1) := by decide +kernel
theorem d_K_print_22 : decode prog_1_method_37_code 22 = .ok (.aload_n 0, 1) := by decide +kernel
theorem d_K_print_23 : decode prog_1_method_37_code 23 = .ok (.dup, 1) := by decide +kernel
theorem d_K_print_24 : decode prog_1_method_37_code 24 = .ok (.getfield 134, 3) := by decide +kernel
theorem d_K_print_27 : decode prog_1_method_37_code 27 = .ok (.iconst 1, 1) := by decide +kernel
theorem d_K_print_28 : decode prog_1_method_37_code 28 = .ok (.iadd, 1) := by decide +kernel
theorem d_K_print_29 : decode prog_1_method_37_code 29 = .ok (.putfield 134, 3) := by decide +kernel
theorem d_K_print_32 : decode prog_1_method_37_code 32 = .ok (.iload_n 1, 1) := by decide +kernel
theorem d_K_print_33 : decode prog_1_method_37_code 33 = .ok (.ireturn, 1) := by decide +kernel
theorem d_K_read_0 : decode prog_1_method_38_code 0 = .ok (.iload_n 1, 1) := by decide +kernel
theorem d_K_read_1 : decode prog_1_method_38_code 1 = .ok (.invokestatic 204, 3) := by decide +kernel
theorem d_K_read_4 : decode prog_1_method_38_code 4 = .ok (.ifCond .eq 14, 3) := by decide +kernel
theorem d_K_read_7 : decode prog_1_method_38_code 7 = .ok (.aload_n 0, 1) := by decide +kernel
theorem d_K_read_8 : decode prog_1_method_38_code 8 = .ok (.iload_n 1, 1) := by decide +kernel
theorem d_K_read_9 : decode prog_1_method_38_code 9 = .ok (.invokevirtual 194, 3) := by decide +kernel
theorem d_K_read_12 : decode prog_1_method_38_code 12 = .ok (.invokevirtual 258, 3) := by decide +kernel
theorem d_K_read_15 : decode prog_1_method_38_code 15 = .ok (.goto 4, 3) := by decide +kernel
theorem d_K_read_18 : decode prog_1_method_38_code 18 = .ok (.iconst (-1), 1) := by decide +kernel
theorem d_K_read_19 : decode prog_1_method_38_code 19 = .ok (.ireturn, 1) := by decide +kernel
theorem d_K_openPipe_0 : decode prog_1_method_39_code 0 = .ok (.aload_n 0, 1) := by decide +kernel
theorem d_K_openPipe_1 : decode prog_1_method_39_code 1 = .ok (.invokevirtual 261, 3) := by decide +kernel
theorem d_K_openPipe_4 : decode prog_1_method_39_code 4 = .ok (.istore_n 2, 1) := by decide +kernel
theorem d_K_openPipe_5 : decode prog_1_method_39_code 5 = .ok (.aload_n 1, 1) := by decide +kernel
theorem d_K_openPipe_6 : decode prog_1_method_39_code 6 = .ok (.iconst 0, 1) := by decide +kernel
theorem d_K_openPipe_7 : decode prog_1_method_39_code 7 = .ok (.invokevirtual 264, 3) := by decide +kernel
theorem d_K_openPipe_10 : decode prog_1_method_39_code 10 = .ok (.istore_n 3, 1) := by decide +kernel
theorem d_K_openPipe_11 : decode prog_1_method_39_code 11 = .ok (.aload_n 1, 1) := by decide +kernel
theorem d_K_openPipe_12 : decode prog_1_method_39_code 12 = .ok (.iload_n 3, 1) := by decide +kernel
theorem d_K_openPipe_13 : decode prog_1_method_39_code 13 = .ok (.iconst 1, 1) := by decide +kernel
theorem d_K_openPipe_14 : decode prog_1_method_39_code 14 = .ok (.iadd, 1) := by decide +kernel
theorem d_K_openPipe_15 : decode prog_1_method_39_code 15 = .ok (.invokevirtual 264, 3) := by decide +kernel
theorem d_K_openPipe_18 : decode prog_1_method_39_code 18 = .ok (.istore 4, 2) := by decide +kernel
theorem d_K_openPipe_20 : decode prog_1_method_39_code 20 = .ok (.iload_n 2, 1) := by decide +kernel
theorem d_K_openPipe_21 : decode prog_1_method_39_code 21 = .ok (.iconst (-1), 1) := by decide +kernel
theorem d_K_openPipe_22 : decode prog_1_method_39_code 22 = .ok (.if_icmp .eq 14, 3) := by decide +kernel
theorem d_K_openPipe_25 : decode prog_1_method_39_code 25 = .ok (.iload_n 3, 1) := by decide +kernel
theorem d_K_openPipe_26 : decode prog_1_method_39_code 26 = .ok (.iconst (-1), 1) := by decide +kernel
theorem d_K_openPipe_27 : decode prog_1_method_39_code 27 = .ok (.if_icmp .eq 9, 3) := by decide +kernel
theorem d_K_openPipe_30 : decode prog_1_method_39_code 30 = .ok (.iload 4, 2) := by decide +kernel
theorem d_K_openPipe_32 : decode prog_1_method_39_code 32 = .ok (.iconst (-1), 1) := by decide +kernel
theorem d_K_openPipe_33 : decode prog_1_method_39_code 33 = .ok (.if_icmp .ne 5, 3) := by decide +kernel
theorem d_K_openPipe_36 : decode prog_1_method_39_code 36 = .ok (.iconst (-1), 1) := by decide +kernel
theorem d_K_openPipe_37 : decode prog_1_method_39_code 37 = .ok (.ireturn, 1) := by decide +kernel
theorem d_K_openPipe_38 : decode prog_1_method_39_code 38 = .ok (.aload_n 0, 1) := by decide +kernel
theorem d_K_openPipe_39 : decode prog_1_method_39_code 39 = .ok (.iload_n 2, 1) := by decide +kernel
theorem d_K_openPipe_40 : decode prog_1_method_39_code 40 = .ok (.invokevirtual 194, 3) := by decide +kernel
theorem d_K_openPipe_43 : decode prog_1_method_39_code 43 = .ok (.invokevirtual 267, 3) := by decide +kernel
theorem d_K_openPipe_46 : decode prog_1_method_39_code 46 = .ok (.aload_n 1, 1) := by decide +kernel
theorem d_K_openPipe_47 : decode prog_1_method_39_code 47 = .ok (.getfield 76, 3) := by decide +kernel
theorem d_K_openPipe_50 : decode prog_1_method_39_code 50 = .ok (.iload_n 3, 1) := by decide +kernel
theorem d_K_openPipe_51 : decode prog_1_method_39_code 51 = .ok (.iload_n 2, 1) := by decide +kernel
theorem d_K_openPipe_52 : decode prog_1_method_39_code 52 = .ok (.iastore, 1) := by decide +kernel
theorem d_K_openPipe_53 : decode prog_1_method_39_code 53 = .ok (.aload_n 1, 1) := by decide +kernel
theorem d_K_openPipe_54 : decode prog_1_method_39_code 54 = .ok (.getfield 76, 3) := by decide +kernel
theorem d_K_openPipe_57 : decode prog_1_method_39_code 57 = .ok (.iload 4, 2) := by decide +kernel
theorem d_K_openPipe_59 : decode prog_1_method_39_code 59 = .ok (.iload_n 2, 1) := by decide +kernel
theorem d_K_openPipe_60 : decode prog_1_method_39_code 60 = .ok (.iconst 1, 1) := by decide +kernel
theorem d_K_openPipe_61 : decode prog_1_method_39_code 61 = .ok (.iadd, 1) := by decide +kernel
theorem d_K_openPipe_62 : decode prog_1_method_39_code 62 = .ok (.iastore, 1) := by decide +kernel
theorem d_K_openPipe_63 : decode prog_1_method_39_code 63 = .ok (.aload_n 1, 1) := by decide +kernel
theorem d_K_openPipe_64 : decode prog_1_method_39_code 64 = .ok (.bipush 11, 2) := by decide +kernel
theorem d_K_openPipe_66 : decode prog_1_method_39_code 66 = .ok (.iload 4, 2) := by decide +kernel
theorem d_K_openPipe_68 : decode prog_1_method_39_code 68 = .ok (.invokevirtual 72, 3) := by decide +kernel
theorem d_K_openPipe_71 : decode prog_1_method_39_code 71 = .ok (.iload_n 3, 1) := by decide +kernel
theorem d_K_openPipe_72 : decode prog_1_method_39_code 72 = .ok (.ireturn, 1) := by decide +kernel
