theorem d_MOD_duplicate_0 : decode prog_8_method_44_code 0 = .ok (.aload_n 0, 1) := by decide +kernel
theorem d_MOD_duplicate_1 : decode prog_8_method_44_code 1 = .ok (.aload_n 0, 1) := by decide +kernel
theorem d_MOD_duplicate_2 : decode prog_8_method_44_code 2 = .ok (.getfield 97, 3) := by decide +kernel
theorem d_MOD_duplicate_5 : decode prog_8_method_44_code 5 = .ok (.invokevirtual 224, 3) := by decide +kernel
theorem d_MOD_duplicate_8 : decode prog_8_method_44_code 8 = .ok (.istore_n 2, 1) := by decide +kernel
theorem d_MOD_duplicate_9 : decode prog_8_method_44_code 9 = .ok (.iload_n 1, 1) := by decide +kernel
theorem d_MOD_duplicate_10 : decode prog_8_method_44_code 10 = .ok (.ifCond .lt 7, 3) := by decide +kernel
theorem d_MOD_duplicate_13 : decode prog_8_method_44_code 13 = .ok (.iload_n 2, 1) := by decide +kernel
theorem d_MOD_duplicate_14 : decode prog_8_method_44_code 14 = .ok (.ifCond .ge 5, 3) := by decide +kernel
theorem d_MOD_duplicate_17 : decode prog_8_method_44_code 17 = .ok (.iconst (-1), 1) := by decide +kernel
theorem d_MOD_duplicate_18 : decode prog_8_method_44_code 18 = .ok (.ireturn, 1) := by decide +kernel
theorem d_MOD_duplicate_19 : decode prog_8_method_44_code 19 = .ok (.aload_n 0, 1) := by decide +kernel
theorem d_MOD_duplicate_20 : decode prog_8_method_44_code 20 = .ok (.getfield 40, 3) := by decide +kernel
theorem d_MOD_duplicate_23 : decode prog_8_method_44_code 23 = .ok (.bipush 6, 2) := by decide +kernel
theorem d_MOD_duplicate_25 : decode prog_8_method_44_code 25 = .ok (.aload_n 0, 1) := by decide +kernel
theorem d_MOD_duplicate_26 : decode prog_8_method_44_code 26 = .ok (.getfield 97, 3) := by decide +kernel
theorem d_MOD_duplicate_29 : decode prog_8_method_44_code 29 = .ok (.imul, 1) := by decide +kernel
theorem d_MOD_duplicate_30 : decode prog_8_method_44_code 30 = .ok (.iload_n 2, 1) := by decide +kernel
theorem d_MOD_duplicate_31 : decode prog_8_method_44_code 31 = .ok (.iadd, 1) := by decide +kernel
theorem d_MOD_duplicate_32 : decode prog_8_method_44_code 32 = .ok (.iload_n 1, 1) := by decide +kernel
theorem d_MOD_duplicate_33 : decode prog_8_method_44_code 33 = .ok (.iastore, 1) := by decide +kernel
theorem d_MOD_duplicate_34 : decode prog_8_method_44_code 34 = .ok (.iload_n 2, 1) := by decide +kernel
theorem d_MOD_duplicate_35 : decode prog_8_method_44_code 35 = .ok (.ireturn, 1) := by decide +kernel
theorem d_MOD_kill_0 : decode prog_8_method_45_code 0 = .ok (.iload_n 1, 1) := by decide +kernel
theorem d_MOD_kill_1 : decode prog_8_method_45_code 1 = .ok (.iconst 1, 1) := by decide +kernel
theorem d_MOD_kill_2 : decode prog_8_method_45_code 2 = .ok (.if_icmp .lt 32, 3) := by decide +kernel
theorem d_MOD_kill_5 : decode prog_8_method_45_code 5 = .ok (.iload_n 1, 1) := by decide +kernel
theorem d_MOD_kill_6 : decode prog_8_method_45_code 6 = .ok (.bipush 8, 2) := by decide +kernel
theorem d_MOD_kill_8 : decode prog_8_method_45_code 8 = .ok (.if_icmp .gt 26, 3) := by decide +kernel
theorem d_MOD_kill_11 : decode prog_8_method_45_code 11 = .ok (.aload_n 0, 1) := by decide +kernel
theorem d_MOD_kill_12 : decode prog_8_method_45_code 12 = .ok (.getfield 19, 3) := by decide +kernel
theorem d_MOD_kill_15 : decode prog_8_method_45_code 15 = .ok (.iload_n 1, 1) := by decide +kernel
theorem d_MOD_kill_16 : decode prog_8_method_45_code 16 = .ok (.iaload, 1) := by decide +kernel
theorem d_MOD_kill_17 : decode prog_8_method_45_code 17 = .ok (.ifCond .le 17, 3) := by decide +kernel
theorem d_MOD_kill_20 : decode prog_8_method_45_code 20 = .ok (.aload_n 0, 1) := by decide +kernel
theorem d_MOD_kill_21 : decode prog_8_method_45_code 21 = .ok (.getfield 19, 3) := by decide +kernel
theorem d_MOD_kill_24 : decode prog_8_method_45_code 24 = .ok (.iload_n 1, 1) := by decide +kernel
theorem d_MOD_kill_25 : decode prog_8_method_45_code 25 = .ok (.iaload, 1) := by decide +kernel
theorem d_MOD_kill_26 : decode prog_8_method_45_code 26 = .ok (.iconst 5, 1) := by decide +kernel
theorem d_MOD_kill_27 : decode prog_8_method_45_code 27 = .ok (.if_icmp .eq 7, 3) := by decide +kernel
theorem d_MOD_kill_30 : decode prog_8_method_45_code 30 = .ok (.iconst 1, 1) := by decide +kernel
theorem d_MOD_kill_31 : decode prog_8_method_45_code 31 = .ok (.goto 4, 3) := by decide +kernel
theorem d_MOD_kill_34 : decode prog_8_method_45_code 34 = .ok (.iconst 0, 1) := by decide +kernel
theorem d_MOD_kill_35 : decode prog_8_method_45_code 35 = .ok (.istore_n 2, 1) := by decide +kernel
theorem d_MOD_kill_36 : decode prog_8_method_45_code 36 = .ok (.aload_n 0, 1) := by decide +kernel
theorem d_MOD_kill_37 : decode prog_8_method_45_code 37 = .ok (.bipush 10, 2) := by decide +kernel
theorem d_MOD_kill_39 : decode prog_8_method_45_code 39 = .ok (.iload_n 2, 1) := by decide +kernel
theorem d_MOD_kill_40 : decode prog_8_method_45_code 40 = .ok (.ifCond .eq 7, 3) := by decide +kernel
theorem d_MOD_kill_43 : decode prog_8_method_45_code 43 = .ok (.iconst 0, 1) := by decide +kernel
theorem d_MOD_kill_44 : decode prog_8_method_45_code 44 = .ok (.goto 4, 3) := by decide +kernel
theorem d_MOD_kill_47 : decode prog_8_method_45_code 47 = .ok (.iconst (-1), 1) := by decide +kernel
theorem d_MOD_kill_48 : decode prog_8_method_45_code 48 = .ok (.invokevirtual 135, 3) := by decide +kernel
theorem d_MOD_kill_51 : decode prog_8_method_45_code 51 = .ok (.iload_n 2, 1) := by decide +kernel
theorem d_MOD_kill_52 : decode prog_8_method_45_code 52 = .ok (.ifCond .ne 4, 3) := by decide +kernel
theorem d_MOD_kill_55 : decode prog_8_method_45_code 55 = .ok (.return_, 1) := by decide +kernel
theorem d_MOD_kill_56 : decode prog_8_method_45_code 56 = .ok (.iload_n 1, 1) := by decide +kernel
theorem d_MOD_kill_57 : decode prog_8_method_45_code 57 = .ok (.aload_n 0, 1) := by decide +kernel
theorem d_MOD_kill_58 : decode prog_8_method_45_code 58 = .ok (.getfield 97, 3) := by decide +kernel
theorem d_MOD_kill_61 : decode prog_8_method_45_code 61 = .ok (.if_icmp .ne 16, 3) := by decide +kernel
theorem d_MOD_kill_64 : decode prog_8_method_45_code 64 = .ok (.aload_n 0, 1) := by decide +kernel
theorem d_MOD_kill_65 : decode prog_8_method_45_code 65 = .ok (.getfield 28, 3) := by decide +kernel
theorem d_MOD_kill_68 : decode prog_8_method_45_code 68 = .ok (.aload_n 0, 1) := by decide +kernel
theorem d_MOD_kill_69 : decode prog_8_method_45_code 69 = .ok (.getfield 97, 3) := by decide +kernel
theorem d_MOD_kill_72 : decode prog_8_method_45_code 72 = .ok (.aload_n 0, 1) := by decide +kernel
theorem d_MOD_kill_73 : decode prog_8_method_45_code 73 = .ok (.getfield 121, 3) := by decide +kernel
theorem d_MOD_kill_76 : decode prog_8_method_45_code 76 = .ok (.iastore, 1) := by decide +kernel
theorem d_MOD_kill_77 : decode prog_8_method_45_code 77 = .ok (.aload_n 0, 1) := by decide +kernel
theorem d_MOD_kill_78 : decode prog_8_method_45_code 78 = .ok (.iload_n 1, 1) := by decide +kernel
theorem d_MOD_kill_79 : decode prog_8_method_45_code 79 = .ok (.sipush 137, 3) := by decide +kernel
theorem d_MOD_kill_82 : decode prog_8_method_45_code 82 = .ok (.invokevirtual 103, 3) := by decide +kernel
theorem d_MOD_kill_85 : decode prog_8_method_45_code 85 = .ok (.return_, 1) := by decide +kernel
theorem d_MOD_mayGo_0 : decode prog_8_method_46_code 0 = .ok (.aload_n 0, 1) := by decide +kernel
theorem d_MOD_mayGo_1 : decode prog_8_method_46_code 1 = .ok (.iload_n 1, 1) := by decide +kernel
theorem d_MOD_mayGo_2 : decode prog_8_method_46_code 2 = .ok (.aload_n 0, 1) := by decide +kernel
theorem d_MOD_mayGo_3 : decode prog_8_method_46_code 3 = .ok (.getfield 34, 3) := by decide +kernel
theorem d_MOD_mayGo_6 : decode prog_8_method_46_code 6 = .ok (.bipush 32, 2) := by decide +kernel
theorem d_MOD_mayGo_8 : decode prog_8_method_46_code 8 = .ok (.iload_n 1, 1) := by decide +kernel
theorem d_MOD_mayGo_9 : decode prog_8_method_46_code 9 = .ok (.imul, 1) := by decide +kernel
theorem d_MOD_mayGo_10 : decode prog_8_method_46_code 10 = .ok (.bipush 10, 2) := by decide +kernel
theorem d_MOD_mayGo_12 : decode prog_8_method_46_code 12 = .ok (.iadd, 1) := by decide +kernel
theorem d_MOD_mayGo_13 : decode prog_8_method_46_code 13 = .ok (.iaload, 1) := by decide +kernel
theorem d_MOD_mayGo_14 : decode prog_8_method_46_code 14 = .ok (.invokevirtual 191, 3) := by decide +kernel
theorem d_MOD_mayGo_17 : decode prog_8_method_46_code 17 = .ok (.istore_n 2, 1) := by decide +kernel
theorem d_MOD_mayGo_18 : decode prog_8_method_46_code 18 = .ok (.aload_n 0, 1) := by decide +kernel
theorem d_MOD_mayGo_19 : decode prog_8_method_46_code 19 = .ok (.getfield 19, 3) := by decide +kernel
theorem d_MOD_mayGo_22 : decode prog_8_method_46_code 22 = .ok (.iload_n 1, 1) := by decide +kernel
theorem d_MOD_mayGo_23 : decode prog_8_method_46_code 23 = .ok (.iaload, 1) := by decide +kernel
theorem d_MOD_mayGo_24 : decode prog_8_method_46_code 24 = .ok (.iconst 2, 1) := by decide +kernel
theorem d_MOD_mayGo_25 : decode prog_8_method_46_code 25 = .ok (.if_icmp .ne 30, 3) := by decide +kernel
theorem d_MOD_mayGo_28 : decode prog_8_method_46_code 28 = .ok (.aload_n 0, 1) := by decide +kernel
theorem d_MOD_mayGo_29 : decode prog_8_method_46_code 29 = .ok (.getfield 49, 3) := by decide +kernel
theorem d_MOD_mayGo_32 : decode prog_8_method_46_code 32 = .ok (.iload_n 2, 1) := by decide +kernel
theorem d_MOD_mayGo_33 : decode prog_8_method_46_code 33 = .ok (.iconst 2, 1) := by decide +kernel
theorem d_MOD_mayGo_34 : decode prog_8_method_46_code 34 = .ok (.idiv, 1) := by decide +kernel
theorem d_MOD_mayGo_35 : decode prog_8_method_46_code 35 = .ok (.iaload, 1) := by decide +kernel
theorem d_MOD_mayGo_36 : decode prog_8_method_46_code 36 = .ok (.ifCond .gt 13, 3) := by decide +kernel
theorem d_MOD_mayGo_39 : decode prog_8_method_46_code 39 = .ok (.aload_n 0, 1) := by decide +kernel
theorem d_MOD_mayGo_40 : decode prog_8_method_46_code 40 = .ok (.iload_n 2, 1) := by decide +kernel
theorem d_MOD_mayGo_41 : decode prog_8_method_46_code 41 = .ok (.iconst 1, 1) := by decide +kernel
theorem d_MOD_mayGo_42 : decode prog_8_method_46_code 42 = .ok (.iadd, 1) := by decide +kernel
theorem d_MOD_mayGo_43 : decode prog_8_method_46_code 43 = .ok (.invokevirtual 84, 3) := by decide +kernel
theorem d_MOD_mayGo_46 : decode prog_8_method_46_code 46 = .ok (.ifCond .ne 7, 3) := by decide +kernel
theorem d_MOD_mayGo_49 : decode prog_8_method_46_code 49 = .ok (.iconst 1, 1) := by decide +kernel
theorem d_MOD_mayGo_50 : decode prog_8_method_46_code 50 = .ok (.goto 4, 3) := by decide +kernel
theorem d_MOD_mayGo_53 : decode prog_8_method_46_code 53 = .ok (.iconst 0, 1) := by decide +kernel
theorem d_MOD_mayGo_54 : decode prog_8_method_46_code 54 = .ok (.ireturn, 1) := by decide +kernel
theorem d_MOD_mayGo_55 : decode prog_8_method_46_code 55 = .ok (.aload_n 0, 1) := by decide +kernel
theorem d_MOD_mayGo_56 : decode prog_8_method_46_code 56 = .ok (.getfield 19, 3) := by decide +kernel
theorem d_MOD_mayGo_59 : decode prog_8_method_46_code 59 = .ok (.iload_n 1, 1) := by decide +kernel
theorem d_MOD_mayGo_60 : decode prog_8_method_46_code 60 = .ok (.iaload, 1) := by decide +kernel
theorem d_MOD_mayGo_61 : decode prog_8_method_46_code 61 = .ok (.iconst 3, 1) := by decide +kernel
theorem d_MOD_mayGo_62 : decode prog_8_method_46_code 62 = .ok (.if_icmp .ne 34, 3) := by decide +kernel
theorem d_MOD_mayGo_65 : decode prog_8_method_46_code 65 = .ok (.aload_n 0, 1) := by decide +kernel
theorem d_MOD_mayGo_66 : decode prog_8_method_46_code 66 = .ok (.getfield 49, 3) := by decide +kernel
theorem d_MOD_mayGo_69 : decode prog_8_method_46_code 69 = .ok (.iload_n 2, 1) := by decide +kernel
theorem d_MOD_mayGo_70 : decode prog_8_method_46_code 70 = .ok (.iconst 1, 1) := by decide +kernel
theorem d_MOD_mayGo_71 : decode prog_8_method_46_code 71 = .ok (.isub, 1) := by decide +kernel
theorem d_MOD_mayGo_72 : decode prog_8_method_46_code 72 = .ok (.iconst 2, 1) := by decide +kernel
theorem d_MOD_mayGo_73 : decode prog_8_method_46_code 73 = .ok (.idiv, 1) := by decide +kernel
theorem d_MOD_mayGo_74 : decode prog_8_method_46_code 74 = .ok (.iaload, 1) := by decide +kernel
theorem d_MOD_mayGo_75 : decode prog_8_method_46_code 75 = .ok (.bipush 8, 2) := by decide +kernel
theorem d_MOD_mayGo_77 : decode prog_8_method_46_code 77 = .ok (.if_icmp .lt 13, 3) := by decide +kernel
theorem d_MOD_mayGo_80 : decode prog_8_method_46_code 80 = .ok (.aload_n 0, 1) := by decide +kernel
theorem d_MOD_mayGo_81 : decode prog_8_method_46_code 81 = .ok (.iload_n 2, 1) := by decide +kernel
theorem d_MOD_mayGo_82 : decode prog_8_method_46_code 82 = .ok (.iconst 1, 1) := by decide +kernel
theorem d_MOD_mayGo_83 : decode prog_8_method_46_code 83 = .ok (.isub, 1) := by decide +kernel
theorem d_MOD_mayGo_84 : decode prog_8_method_46_code 84 = .ok (.invokevirtual 84, 3) := by decide +kernel
theorem d_MOD_mayGo_87 : decode prog_8_method_46_code 87 = .ok (.ifCond .ne 7, 3) := by decide +kernel
theorem d_MOD_mayGo_90 : decode prog_8_method_46_code 90 = .ok (.iconst 1, 1) := by decide +kernel
theorem d_MOD_mayGo_91 : decode prog_8_method_46_code 91 = .ok (.goto 4, 3) := by decide +kernel
theorem d_MOD_mayGo_94 : decode prog_8_method_46_code 94 = .ok (.iconst 0, 1) := by decide +kernel
theorem d_MOD_mayGo_95 : decode prog_8_method_46_code 95 = .ok (.ireturn, 1) := by decide +kernel
theorem d_MOD_mayGo_96 : decode prog_8_method_46_code 96 = .ok (.aload_n 0, 1) := by decide +kernel
theorem d_MOD_mayGo_97 : decode prog_8_method_46_code 97 = .ok (.getfield 19, 3) := by decide +kernel
theorem d_MOD_mayGo_100 : decode prog_8_method_46_code 100 = .ok (.iload_n 1, 1) := by decide +kernel
theorem d_MOD_mayGo_101 : decode prog_8_method_46_code 101 = .ok (.iaload, 1) := by decide +kernel
theorem d_MOD_mayGo_102 : decode prog_8_method_46_code 102 = .ok (.iconst 4, 1) := by decide +kernel
theorem d_MOD_mayGo_103 : decode prog_8_method_46_code 103 = .ok (.if_icmp .ne 15, 3) := by decide +kernel
theorem d_MOD_mayGo_106 : decode prog_8_method_46_code 106 = .ok (.aload_n 0, 1) := by decide +kernel
theorem d_MOD_mayGo_107 : decode prog_8_method_46_code 107 = .ok (.iload_n 1, 1) := by decide +kernel
theorem d_MOD_mayGo_108 : decode prog_8_method_46_code 108 = .ok (.invokevirtual 215, 3) := by decide +kernel
theorem d_MOD_mayGo_111 : decode prog_8_method_46_code 111 = .ok (.ifCond .eq 7, 3) := by decide +kernel
theorem d_MOD_mayGo_114 : decode prog_8_method_46_code 114 = .ok (.iconst 1, 1) := by decide +kernel
theorem d_MOD_mayGo_115 : decode prog_8_method_46_code 115 = .ok (.goto 4, 3) := by decide +kernel
theorem d_MOD_mayGo_118 : decode prog_8_method_46_code 118 = .ok (.iconst 0, 1) := by decide +kernel
theorem d_MOD_mayGo_119 : decode prog_8_method_46_code 119 = .ok (.ireturn, 1) := by decide +kernel
theorem d_MOD_step_0 : decode prog_8_method_47_code 0 = .ok (.iconst 0, 1) := by decide +kernel
theorem d_MOD_step_1 : decode prog_8_method_47_code 1 = .ok (.istore_n 1, 1) := by decide +kernel
theorem d_MOD_step_2 : decode prog_8_method_47_code 2 = .ok (.iconst 1, 1) := by decide +kernel
theorem d_MOD_step_3 : decode prog_8_method_47_code 3 = .ok (.istore_n 2, 1) := by decide +kernel
theorem d_MOD_step_4 : decode prog_8_method_47_code 4 = .ok (.iload_n 2, 1) := by decide +kernel
theorem d_MOD_step_5 : decode prog_8_method_47_code 5 = .ok (.bipush 8, 2) := by decide +kernel
theorem d_MOD_step_7 : decode prog_8_method_47_code 7 = .ok (.if_icmp .gt 38, 3) := by decide +kernel
theorem d_MOD_step_10 : decode prog_8_method_47_code 10 = .ok (.iload_n 1, 1) := by decide +kernel
theorem d_MOD_step_11 : decode prog_8_method_47_code 11 = .ok (.ifCond .ne 22, 3) := by decide +kernel
theorem d_MOD_step_14 : decode prog_8_method_47_code 14 = .ok (.aload_n 0, 1) := by decide +kernel
theorem d_MOD_step_15 : decode prog_8_method_47_code 15 = .ok (.getfield 19, 3) := by decide +kernel
theorem d_MOD_step_18 : decode prog_8_method_47_code 18 = .ok (.iload_n 2, 1) := by decide +kernel
theorem d_MOD_step_19 : decode prog_8_method_47_code 19 = .ok (.iaload, 1) := by decide +kernel
theorem d_MOD_step_20 : decode prog_8_method_47_code 20 = .ok (.ifCond .le 17, 3) := by decide +kernel
theorem d_MOD_step_23 : decode prog_8_method_47_code 23 = .ok (.aload_n 0, 1) := by decide +kernel
theorem d_MOD_step_24 : decode prog_8_method_47_code 24 = .ok (.getfield 19, 3) := by decide +kernel
theorem d_MOD_step_27 : decode prog_8_method_47_code 27 = .ok (.iload_n 2, 1) := by decide +kernel
theorem d_MOD_step_28 : decode prog_8_method_47_code 28 = .ok (.iaload, 1) := by decide +kernel
theorem d_MOD_step_29 : decode prog_8_method_47_code 29 = .ok (.iconst 5, 1) := by decide +kernel
theorem d_MOD_step_30 : decode prog_8_method_47_code 30 = .ok (.if_icmp .eq 7, 3) := by decide +kernel
theorem d_MOD_step_33 : decode prog_8_method_47_code 33 = .ok (.iconst 1, 1) := by decide +kernel
theorem d_MOD_step_34 : decode prog_8_method_47_code 34 = .ok (.goto 4, 3) := by decide +kernel
theorem d_MOD_step_37 : decode prog_8_method_47_code 37 = .ok (.iconst 0, 1) := by decide +kernel
theorem d_MOD_step_38 : decode prog_8_method_47_code 38 = .ok (.istore_n 1, 1) := by decide +kernel
theorem d_MOD_step_39 : decode prog_8_method_47_code 39 = .ok (.iinc 2 1, 3) := by decide +kernel
theorem d_MOD_step_42 : decode prog_8_method_47_code 42 = .ok (.goto (-38), 3) := by decide +kernel
theorem d_MOD_step_45 : decode prog_8_method_47_code 45 = .ok (.iload_n 1, 1) := by decide +kernel
theorem d_MOD_step_46 : decode prog_8_method_47_code 46 = .ok (.ifCond .ne 5, 3) := by decide +kernel
theorem d_MOD_step_49 : decode prog_8_method_47_code 49 = .ok (.iconst (-1), 1) := by decide +kernel
theorem d_MOD_step_50 : decode prog_8_method_47_code 50 = .ok (.ireturn, 1) := by decide +kernel
theorem d_MOD_step_51 : decode prog_8_method_47_code 51 = .ok (.aload_n 0, 1) := by decide +kernel
theorem d_MOD_step_52 : decode prog_8_method_47_code 52 = .ok (.getfield 227, 3) := by decide +kernel
theorem d_MOD_step_55 : decode prog_8_method_47_code 55 = .ok (.ifCond .ne 35, 3) := by decide +kernel
theorem d_MOD_step_58 : decode prog_8_method_47_code 58 = .ok (.aload_n 0, 1) := by decide +kernel
theorem d_MOD_step_59 : decode prog_8_method_47_code 59 = .ok (.getfield 77, 3) := by decide +kernel
theorem d_MOD_step_62 : decode prog_8_method_47_code 62 = .ok (.ifCond .ne 5, 3) := by decide +kernel
theorem d_MOD_step_65 : decode prog_8_method_47_code 65 = .ok (.iconst 0, 1) := by decide +kernel
theorem d_MOD_step_66 : decode prog_8_method_47_code 66 = .ok (.ireturn, 1) := by decide +kernel
theorem d_MOD_step_67 : decode prog_8_method_47_code 67 = .ok (.aload_n 0, 1) := by decide +kernel
theorem d_MOD_step_68 : decode prog_8_method_47_code 68 = .ok (.aload_n 0, 1) := by decide +kernel
theorem d_MOD_step_69 : decode prog_8_method_47_code 69 = .ok (.getfield 43, 3) := by decide +kernel
theorem d_MOD_step_72 : decode prog_8_method_47_code 72 = .ok (.iconst 0, 1) := by decide +kernel
theorem d_MOD_step_73 : decode prog_8_method_47_code 73 = .ok (.iaload, 1) := by decide +kernel
theorem d_MOD_step_74 : decode prog_8_method_47_code 74 = .ok (.putfield 227, 3) := by decide +kernel
theorem d_MOD_step_77 : decode prog_8_method_47_code 77 = .ok (.aload_n 0, 1) := by decide +kernel
theorem d_MOD_step_78 : decode prog_8_method_47_code 78 = .ok (.aload_n 0, 1) := by decide +kernel
theorem d_MOD_step_79 : decode prog_8_method_47_code 79 = .ok (.getfield 227, 3) := by decide +kernel
theorem d_MOD_step_82 : decode prog_8_method_47_code 82 = .ok (.invokevirtual 91, 3) := by decide +kernel
theorem d_MOD_step_85 : decode prog_8_method_47_code 85 = .ok (.aload_n 0, 1) := by decide +kernel
theorem d_MOD_step_86 : decode prog_8_method_47_code 86 = .ok (.iconst 0, 1) := by decide +kernel
theorem d_MOD_step_87 : decode prog_8_method_47_code 87 = .ok (.putfield 230, 3) := by decide +kernel
theorem d_MOD_step_90 : decode prog_8_method_47_code 90 = .ok (.aload_n 0, 1) := by decide +kernel
theorem d_MOD_step_91 : decode prog_8_method_47_code 91 = .ok (.aload_n 0, 1) := by decide +kernel
theorem d_MOD_step_92 : decode prog_8_method_47_code 92 = .ok (.getfield 227, 3) := by decide +kernel
theorem d_MOD_step_95 : decode prog_8_method_47_code 95 = .ok (.putfield 97, 3) := by decide +kernel
theorem d_MOD_step_98 : decode prog_8_method_47_code 98 = .ok (.aload_n 0, 1) := by decide +kernel
theorem d_MOD_step_99 : decode prog_8_method_47_code 99 = .ok (.invokevirtual 233, 3) := by decide +kernel
theorem d_MOD_step_102 : decode prog_8_method_47_code 102 = .ok (.aload_n 0, 1) := by decide +kernel
theorem d_MOD_step_103 : decode prog_8_method_47_code 103 = .ok (.dup, 1) := by decide +kernel
theorem d_MOD_step_104 : decode prog_8_method_47_code 104 = .ok (.getfield 230, 3) := by decide +kernel
theorem d_MOD_step_107 : decode prog_8_method_47_code 107 = .ok (.iconst 1, 1) := by decide +kernel
theorem d_MOD_step_108 : decode prog_8_method_47_code 108 = .ok (.iadd, 1) := by decide +kernel
theorem d_MOD_step_109 : decode prog_8_method_47_code 109 = .ok (.putfield 230, 3) := by decide +kernel
theorem d_MOD_step_112 : decode prog_8_method_47_code 112 = .ok (.aload_n 0, 1) := by decide +kernel
theorem d_MOD_step_113 : decode prog_8_method_47_code 113 = .ok (.getfield 97, 3) := by decide +kernel
theorem d_MOD_step_116 : decode prog_8_method_47_code 116 = .ok (.istore_n 2, 1) := by decide +kernel
theorem d_MOD_step_117 : decode prog_8_method_47_code 117 = .ok (.aload_n 0, 1) := by decide +kernel
theorem d_MOD_step_118 : decode prog_8_method_47_code 118 = .ok (.getfield 19, 3) := by decide +kernel
theorem d_MOD_step_121 : decode prog_8_method_47_code 121 = .ok (.iload_n 2, 1) := by decide +kernel
theorem d_MOD_step_122 : decode prog_8_method_47_code 122 = .ok (.iaload, 1) := by decide +kernel
theorem d_MOD_step_123 : decode prog_8_method_47_code 123 = .ok (.iconst 1, 1) := by decide +kernel
theorem d_MOD_step_124 : decode prog_8_method_47_code 124 = .ok (.if_icmp .eq 11, 3) := by decide +kernel
theorem d_MOD_step_127 : decode prog_8_method_47_code 127 = .ok (.aload_n 0, 1) := by decide +kernel
theorem d_MOD_step_128 : decode prog_8_method_47_code 128 = .ok (.iconst 0, 1) := by decide +kernel
theorem d_MOD_step_129 : decode prog_8_method_47_code 129 = .ok (.putfield 227, 3) := by decide +kernel
theorem d_MOD_step_132 : decode prog_8_method_47_code 132 = .ok (.goto 31, 3) := by decide +kernel
theorem d_MOD_step_135 : decode prog_8_method_47_code 135 = .ok (.aload_n 0, 1) := by decide +kernel
theorem d_MOD_step_136 : decode prog_8_method_47_code 136 = .ok (.getfield 118, 3) := by decide +kernel
theorem d_MOD_step_139 : decode prog_8_method_47_code 139 = .ok (.ifCond .ne 14, 3) := by decide +kernel
theorem d_MOD_step_142 : decode prog_8_method_47_code 142 = .ok (.aload_n 0, 1) := by decide +kernel
theorem d_MOD_step_143 : decode prog_8_method_47_code 143 = .ok (.getfield 230, 3) := by decide +kernel
theorem d_MOD_step_146 : decode prog_8_method_47_code 146 = .ok (.aload_n 0, 1) := by decide +kernel
theorem d_MOD_step_147 : decode prog_8_method_47_code 147 = .ok (.getfield 59, 3) := by decide +kernel
theorem d_MOD_step_150 : decode prog_8_method_47_code 150 = .ok (.if_icmp .ne 13, 3) := by decide +kernel
theorem d_MOD_step_153 : decode prog_8_method_47_code 153 = .ok (.aload_n 0, 1) := by decide +kernel
theorem d_MOD_step_154 : decode prog_8_method_47_code 154 = .ok (.iload_n 2, 1) := by decide +kernel
theorem d_MOD_step_155 : decode prog_8_method_47_code 155 = .ok (.invokevirtual 73, 3) := by decide +kernel
theorem d_MOD_step_158 : decode prog_8_method_47_code 158 = .ok (.aload_n 0, 1) := by decide +kernel
theorem d_MOD_step_159 : decode prog_8_method_47_code 159 = .ok (.iconst 0, 1) := by decide +kernel
theorem d_MOD_step_160 : decode prog_8_method_47_code 160 = .ok (.putfield 227, 3) := by decide +kernel
theorem d_MOD_step_163 : decode prog_8_method_47_code 163 = .ok (.iconst 1, 1) := by decide +kernel
theorem d_MOD_step_164 : decode prog_8_method_47_code 164 = .ok (.istore_n 3, 1) := by decide +kernel
theorem d_MOD_step_165 : decode prog_8_method_47_code 165 = .ok (.iload_n 3, 1) := by decide +kernel
theorem d_MOD_step_166 : decode prog_8_method_47_code 166 = .ok (.bipush 8, 2) := by decide +kernel
theorem d_MOD_step_168 : decode prog_8_method_47_code 168 = .ok (.if_icmp .gt 42, 3) := by decide +kernel
theorem d_MOD_step_171 : decode prog_8_method_47_code 171 = .ok (.aload_n 0, 1) := by decide +kernel
theorem d_MOD_step_172 : decode prog_8_method_47_code 172 = .ok (.getfield 19, 3) := by decide +kernel
theorem d_MOD_step_175 : decode prog_8_method_47_code 175 = .ok (.iload_n 3, 1) := by decide +kernel
theorem d_MOD_step_176 : decode prog_8_method_47_code 176 = .ok (.iaload, 1) := by decide +kernel
theorem d_MOD_step_177 : decode prog_8_method_47_code 177 = .ok (.iconst 1, 1) := by decide +kernel
theorem d_MOD_step_178 : decode prog_8_method_47_code 178 = .ok (.if_icmp .le 26, 3) := by decide +kernel
theorem d_MOD_step_181 : decode prog_8_method_47_code 181 = .ok (.aload_n 0, 1) := by decide +kernel
theorem d_MOD_step_182 : decode prog_8_method_47_code 182 = .ok (.getfield 19, 3) := by decide +kernel
theorem d_MOD_step_185 : decode prog_8_method_47_code 185 = .ok (.iload_n 3, 1) := by decide +kernel
theorem d_MOD_step_186 : decode prog_8_method_47_code 186 = .ok (.iaload, 1) := by decide +kernel
theorem d_MOD_step_187 : decode prog_8_method_47_code 187 = .ok (.iconst 5, 1) := by decide +kernel
theorem d_MOD_step_188 : decode prog_8_method_47_code 188 = .ok (.if_icmp .ge 16, 3) := by decide +kernel
theorem d_MOD_step_191 : decode prog_8_method_47_code 191 = .ok (.aload_n 0, 1) := by decide +kernel
theorem d_MOD_step_192 : decode prog_8_method_47_code 192 = .ok (.iload_n 3, 1) := by decide +kernel
theorem d_MOD_step_193 : decode prog_8_method_47_code 193 = .ok (.invokevirtual 236, 3) := by decide +kernel
theorem d_MOD_step_196 : decode prog_8_method_47_code 196 = .ok (.ifCond .eq 8, 3) := by decide +kernel
theorem d_MOD_step_199 : decode prog_8_method_47_code 199 = .ok (.aload_n 0, 1) := by decide +kernel
theorem d_MOD_step_200 : decode prog_8_method_47_code 200 = .ok (.iload_n 3, 1) := by decide +kernel
theorem d_MOD_step_201 : decode prog_8_method_47_code 201 = .ok (.invokevirtual 73, 3) := by decide +kernel
theorem d_MOD_step_204 : decode prog_8_method_47_code 204 = .ok (.iinc 3 1, 3) := by decide +kernel
theorem d_MOD_step_207 : decode prog_8_method_47_code 207 = .ok (.goto (-42), 3) := by decide +kernel
theorem d_MOD_step_210 : decode prog_8_method_47_code 210 = .ok (.iload_n 2, 1) := by decide +kernel
theorem d_MOD_step_211 : decode prog_8_method_47_code 211 = .ok (.ireturn, 1) := by decide +kernel
theorem d_MOD_run_0 : decode prog_8_method_48_code 0 = .ok (.iload_n 1, 1) := by decide +kernel
theorem d_MOD_run_1 : decode prog_8_method_48_code 1 = .ok (.iconst 1, 1) := by decide +kernel
theorem d_MOD_run_2 : decode prog_8_method_48_code 2 = .ok (.if_icmp .lt 9, 3) := by decide +kernel
theorem d_MOD_run_5 : decode prog_8_method_48_code 5 = .ok (.iload_n 1, 1) := by decide +kernel
theorem d_MOD_run_6 : decode prog_8_method_48_code 6 = .ok (.bipush 100, 2) := by decide +kernel
theorem d_MOD_run_8 : decode prog_8_method_48_code 8 = .ok (.if_icmp .le 5, 3) := by decide +kernel
theorem d_MOD_run_11 : decode prog_8_method_48_code 11 = .ok (.iconst (-1), 1) := by decide +kernel
theorem d_MOD_run_12 : decode prog_8_method_48_code 12 = .ok (.ireturn, 1) := by decide +kernel
theorem d_MOD_run_13 : decode prog_8_method_48_code 13 = .ok (.iconst 0, 1) := by decide +kernel
theorem d_MOD_run_14 : decode prog_8_method_48_code 14 = .ok (.istore_n 2, 1) := by decide +kernel
theorem d_MOD_run_15 : decode prog_8_method_48_code 15 = .ok (.iload_n 2, 1) := by decide +kernel
theorem d_MOD_run_16 : decode prog_8_method_48_code 16 = .ok (.iload_n 1, 1) := by decide +kernel
theorem d_MOD_run_17 : decode prog_8_method_48_code 17 = .ok (.if_icmp .ge 16, 3) := by decide +kernel
theorem d_MOD_run_20 : decode prog_8_method_48_code 20 = .ok (.aload_n 0, 1) := by decide +kernel
theorem d_MOD_run_21 : decode prog_8_method_48_code 21 = .ok (.invokevirtual 239, 3) := by decide +kernel
theorem d_MOD_run_24 : decode prog_8_method_48_code 24 = .ok (.ifCond .le 9, 3) := by decide +kernel
theorem d_MOD_run_27 : decode prog_8_method_48_code 27 = .ok (.iinc 2 1, 3) := by decide +kernel
theorem d_MOD_run_30 : decode prog_8_method_48_code 30 = .ok (.goto (-15), 3) := by decide +kernel
theorem d_MOD_run_33 : decode prog_8_method_48_code 33 = .ok (.iload_n 2, 1) := by decide +kernel
theorem d_MOD_run_34 : decode prog_8_method_48_code 34 = .ok (.ireturn, 1) := by decide +kernel
theorem d_MOD_is_0 : decode prog_8_method_49_code 0 = .ok (.iload_n 1, 1) := by decide +kernel
theorem d_MOD_is_1 : decode prog_8_method_49_code 1 = .ok (.iconst 1, 1) := by decide +kernel
theorem d_MOD_is_2 : decode prog_8_method_49_code 2 = .ok (.if_icmp .lt 22, 3) := by decide +kernel
theorem d_MOD_is_5 : decode prog_8_method_49_code 5 = .ok (.iload_n 1, 1) := by decide +kernel
theorem d_MOD_is_6 : decode prog_8_method_49_code 6 = .ok (.bipush 8, 2) := by decide +kernel
theorem d_MOD_is_8 : decode prog_8_method_49_code 8 = .ok (.if_icmp .gt 16, 3) := by decide +kernel
theorem d_MOD_is_11 : decode prog_8_method_49_code 11 = .ok (.aload_n 0, 1) := by decide +kernel
theorem d_MOD_is_12 : decode prog_8_method_49_code 12 = .ok (.getfield 19, 3) := by decide +kernel
theorem d_MOD_is_15 : decode prog_8_method_49_code 15 = .ok (.iload_n 1, 1) := by decide +kernel
theorem d_MOD_is_16 : decode prog_8_method_49_code 16 = .ok (.iaload, 1) := by decide +kernel
theorem d_MOD_is_17 : decode prog_8_method_49_code 17 = .ok (.ifCond .le 7, 3) := by decide +kernel
theorem d_MOD_is_20 : decode prog_8_method_49_code 20 = .ok (.iconst 1, 1) := by decide +kernel
theorem d_MOD_is_21 : decode prog_8_method_49_code 21 = .ok (.goto 4, 3) := by decide +kernel
theorem d_MOD_is_24 : decode prog_8_method_49_code 24 = .ok (.iconst 0, 1) := by decide +kernel
theorem d_MOD_is_25 : decode prog_8_method_49_code 25 = .ok (.ireturn, 1) := by decide +kernel
theorem d_MOD_current_0 : decode prog_8_method_50_code 0 = .ok (.aload_n 0, 1) := by decide +kernel
theorem d_MOD_current_1 : decode prog_8_method_50_code 1 = .ok (.getfield 227, 3) := by decide +kernel
theorem d_MOD_current_4 : decode prog_8_method_50_code 4 = .ok (.ireturn, 1) := by decide +kernel
theorem d_MOD_stateOf_0 : decode prog_8_method_51_code 0 = .ok (.aload_n 0, 1) := by decide +kernel
theorem d_MOD_stateOf_1 : decode prog_8_method_51_code 1 = .ok (.iload_n 1, 1) := by decide +kernel
theorem d_MOD_stateOf_2 : decode prog_8_method_51_code 2 = .ok (.invokevirtual 242, 3) := by decide +kernel
theorem d_MOD_stateOf_5 : decode prog_8_method_51_code 5 = .ok (.ifCond .eq 12, 3) := by decide +kernel
theorem d_MOD_stateOf_8 : decode prog_8_method_51_code 8 = .ok (.aload_n 0, 1) := by decide +kernel
theorem d_MOD_stateOf_9 : decode prog_8_method_51_code 9 = .ok (.getfield 19, 3) := by decide +kernel
theorem d_MOD_stateOf_12 : decode prog_8_method_51_code 12 = .ok (.iload_n 1, 1) := by decide +kernel
theorem d_MOD_stateOf_13 : decode prog_8_method_51_code 13 = .ok (.iaload, 1) := by decide +kernel
theorem d_MOD_stateOf_14 : decode prog_8_method_51_code 14 = .ok (.goto 4, 3) := by decide +kernel
theorem d_MOD_stateOf_17 : decode prog_8_method_51_code 17 = .ok (.iconst 0, 1) := by decide +kernel
theorem d_MOD_stateOf_18 : decode prog_8_method_51_code 18 = .ok (.ireturn, 1) := by decide +kernel
theorem d_MOD_exitOf_0 : decode prog_8_method_52_code 0 = .ok (.aload_n 0, 1) := by decide +kernel
theorem d_MOD_exitOf_1 : decode prog_8_method_52_code 1 = .ok (.iload_n 1, 1) := by decide +kernel
theorem d_MOD_exitOf_2 : decode prog_8_method_52_code 2 = .ok (.invokevirtual 242, 3) := by decide +kernel
theorem d_MOD_exitOf_5 : decode prog_8_method_52_code 5 = .ok (.ifCond .eq 22, 3) := by decide +kernel
theorem d_MOD_exitOf_8 : decode prog_8_method_52_code 8 = .ok (.aload_n 0, 1) := by decide +kernel
theorem d_MOD_exitOf_9 : decode prog_8_method_52_code 9 = .ok (.getfield 19, 3) := by decide +kernel
theorem d_MOD_exitOf_12 : decode prog_8_method_52_code 12 = .ok (.iload_n 1, 1) := by decide +kernel
theorem d_MOD_exitOf_13 : decode prog_8_method_52_code 13 = .ok (.iaload, 1) := by decide +kernel
theorem d_MOD_exitOf_14 : decode prog_8_method_52_code 14 = .ok (.iconst 5, 1) := by decide +kernel
theorem d_MOD_exitOf_15 : decode prog_8_method_52_code 15 = .ok (.if_icmp .ne 12, 3) := by decide +kernel
theorem d_MOD_exitOf_18 : decode prog_8_method_52_code 18 = .ok (.aload_n 0, 1) := by decide +kernel
theorem d_MOD_exitOf_19 : decode prog_8_method_52_code 19 = .ok (.getfield 22, 3) := by decide +kernel
theorem d_MOD_exitOf_22 : decode prog_8_method_52_code 22 = .ok (.iload_n 1, 1) := by decide +kernel
theorem d_MOD_exitOf_23 : decode prog_8_method_52_code 23 = .ok (.iaload, 1) := by decide +kernel
theorem d_MOD_exitOf_24 : decode prog_8_method_52_code 24 = .ok (.goto 4, 3) := by decide +kernel
theorem d_MOD_exitOf_27 : decode prog_8_method_52_code 27 = .ok (.iconst (-1), 1) := by decide +kernel
theorem d_MOD_exitOf_28 : decode prog_8_method_52_code 28 = .ok (.ireturn, 1) := by decide +kernel
theorem d_MOD_parentOf_0 : decode prog_8_method_53_code 0 = .ok (.aload_n 0, 1) := by decide +kernel
theorem d_MOD_parentOf_1 : decode prog_8_method_53_code 1 = .ok (.iload_n 1, 1) := by decide +kernel
theorem d_MOD_parentOf_2 : decode prog_8_method_53_code 2 = .ok (.invokevirtual 242, 3) := by decide +kernel
theorem d_MOD_parentOf_5 : decode prog_8_method_53_code 5 = .ok (.ifCond .eq 12, 3) := by decide +kernel
theorem d_MOD_parentOf_8 : decode prog_8_method_53_code 8 = .ok (.aload_n 0, 1) := by decide +kernel
theorem d_MOD_parentOf_9 : decode prog_8_method_53_code 9 = .ok (.getfield 25, 3) := by decide +kernel
theorem d_MOD_parentOf_12 : decode prog_8_method_53_code 12 = .ok (.iload_n 1, 1) := by decide +kernel
theorem d_MOD_parentOf_13 : decode prog_8_method_53_code 13 = .ok (.iaload, 1) := by decide +kernel
theorem d_MOD_parentOf_14 : decode prog_8_method_53_code 14 = .ok (.goto 4, 3) := by decide +kernel
theorem d_MOD_parentOf_17 : decode prog_8_method_53_code 17 = .ok (.iconst (-1), 1) := by decide +kernel
theorem d_MOD_parentOf_18 : decode prog_8_method_53_code 18 = .ok (.ireturn, 1) := by decide +kernel
theorem d_MOD_pages_0 : decode prog_8_method_54_code 0 = .ok (.aload_n 0, 1) := by decide +kernel
theorem d_MOD_pages_1 : decode prog_8_method_54_code 1 = .ok (.iload_n 1, 1) := by decide +kernel
theorem d_MOD_pages_2 : decode prog_8_method_54_code 2 = .ok (.invokevirtual 242, 3) := by decide +kernel
theorem d_MOD_pages_5 : decode prog_8_method_54_code 5 = .ok (.ifCond .eq 12, 3) := by decide +kernel
theorem d_MOD_pages_8 : decode prog_8_method_54_code 8 = .ok (.aload_n 0, 1) := by decide +kernel
theorem d_MOD_pages_9 : decode prog_8_method_54_code 9 = .ok (.getfield 31, 3) := by decide +kernel
theorem d_MOD_pages_12 : decode prog_8_method_54_code 12 = .ok (.iload_n 1, 1) := by decide +kernel
theorem d_MOD_pages_13 : decode prog_8_method_54_code 13 = .ok (.iaload, 1) := by decide +kernel
theorem d_MOD_pages_14 : decode prog_8_method_54_code 14 = .ok (.goto 4, 3) := by decide +kernel
theorem d_MOD_pages_17 : decode prog_8_method_54_code 17 = .ok (.iconst 0, 1) := by decide +kernel
theorem d_MOD_pages_18 : decode prog_8_method_54_code 18 = .ok (.ireturn, 1) := by decide +kernel
theorem d_MOD_register_0 : decode prog_8_method_55_code 0 = .ok (.aload_n 0, 1) := by decide +kernel
theorem d_MOD_register_1 : decode prog_8_method_55_code 1 = .ok (.iload_n 1, 1) := by decide +kernel
theorem d_MOD_register_2 : decode prog_8_method_55_code 2 = .ok (.invokevirtual 242, 3) := by decide +kernel
theorem d_MOD_register_5 : decode prog_8_method_55_code 5 = .ok (.ifCond .eq 27, 3) := by decide +kernel
theorem d_MOD_register_8 : decode prog_8_method_55_code 8 = .ok (.iload_n 2, 1) := by decide +kernel
theorem d_MOD_register_9 : decode prog_8_method_55_code 9 = .ok (.ifCond .lt 23, 3) := by decide +kernel
theorem d_MOD_register_12 : decode prog_8_method_55_code 12 = .ok (.iload_n 2, 1) := by decide +kernel
theorem d_MOD_register_13 : decode prog_8_method_55_code 13 = .ok (.bipush 32, 2) := by decide +kernel
theorem d_MOD_register_15 : decode prog_8_method_55_code 15 = .ok (.if_icmp .ge 17, 3) := by decide +kernel
theorem d_MOD_register_18 : decode prog_8_method_55_code 18 = .ok (.aload_n 0, 1) := by decide +kernel
theorem d_MOD_register_19 : decode prog_8_method_55_code 19 = .ok (.getfield 34, 3) := by decide +kernel
theorem d_MOD_register_22 : decode prog_8_method_55_code 22 = .ok (.bipush 32, 2) := by decide +kernel
theorem d_MOD_register_24 : decode prog_8_method_55_code 24 = .ok (.iload_n 1, 1) := by decide +kernel
theorem d_MOD_register_25 : decode prog_8_method_55_code 25 = .ok (.imul, 1) := by decide +kernel
theorem d_MOD_register_26 : decode prog_8_method_55_code 26 = .ok (.iload_n 2, 1) := by decide +kernel
theorem d_MOD_register_27 : decode prog_8_method_55_code 27 = .ok (.iadd, 1) := by decide +kernel
theorem d_MOD_register_28 : decode prog_8_method_55_code 28 = .ok (.iaload, 1) := by decide +kernel
theorem d_MOD_register_29 : decode prog_8_method_55_code 29 = .ok (.goto 4, 3) := by decide +kernel
theorem d_MOD_register_32 : decode prog_8_method_55_code 32 = .ok (.iconst 0, 1) := by decide +kernel
theorem d_MOD_register_33 : decode prog_8_method_55_code 33 = .ok (.ireturn, 1) := by decide +kernel
theorem d_MOD_pc_0 : decode prog_8_method_56_code 0 = .ok (.aload_n 0, 1) := by decide +kernel
theorem d_MOD_pc_1 : decode prog_8_method_56_code 1 = .ok (.iload_n 1, 1) := by decide +kernel
theorem d_MOD_pc_2 : decode prog_8_method_56_code 2 = .ok (.invokevirtual 242, 3) := by decide +kernel
theorem d_MOD_pc_5 : decode prog_8_method_56_code 5 = .ok (.ifCond .eq 12, 3) := by decide +kernel
theorem d_MOD_pc_8 : decode prog_8_method_56_code 8 = .ok (.aload_n 0, 1) := by decide +kernel
theorem d_MOD_pc_9 : decode prog_8_method_56_code 9 = .ok (.getfield 28, 3) := by decide +kernel
theorem d_MOD_pc_12 : decode prog_8_method_56_code 12 = .ok (.iload_n 1, 1) := by decide +kernel
theorem d_MOD_pc_13 : decode prog_8_method_56_code 13 = .ok (.iaload, 1) := by decide +kernel
theorem d_MOD_pc_14 : decode prog_8_method_56_code 14 = .ok (.goto 4, 3) := by decide +kernel
theorem d_MOD_pc_17 : decode prog_8_method_56_code 17 = .ok (.iconst 0, 1) := by decide +kernel
theorem d_MOD_pc_18 : decode prog_8_method_56_code 18 = .ok (.ireturn, 1) := by decide +kernel
theorem d_MOD_word_0 : decode prog_8_method_57_code 0 = .ok (.aload_n 0, 1) := by decide +kernel
theorem d_MOD_word_1 : decode prog_8_method_57_code 1 = .ok (.iload_n 1, 1) := by decide +kernel
theorem d_MOD_word_2 : decode prog_8_method_57_code 2 = .ok (.invokevirtual 242, 3) := by decide +kernel
theorem d_MOD_word_5 : decode prog_8_method_57_code 5 = .ok (.ifCond .eq 32, 3) := by decide +kernel
theorem d_MOD_word_8 : decode prog_8_method_57_code 8 = .ok (.aload_n 0, 1) := by decide +kernel
theorem d_MOD_word_9 : decode prog_8_method_57_code 9 = .ok (.iload_n 1, 1) := by decide +kernel
theorem d_MOD_word_10 : decode prog_8_method_57_code 10 = .ok (.iload_n 2, 1) := by decide +kernel
theorem d_MOD_word_11 : decode prog_8_method_57_code 11 = .ok (.invokevirtual 124, 3) := by decide +kernel
theorem d_MOD_word_14 : decode prog_8_method_57_code 14 = .ok (.ifCond .eq 23, 3) := by decide +kernel
theorem d_MOD_word_17 : decode prog_8_method_57_code 17 = .ok (.iload_n 2, 1) := by decide +kernel
theorem d_MOD_word_18 : decode prog_8_method_57_code 18 = .ok (.iconst 4, 1) := by decide +kernel
theorem d_MOD_word_19 : decode prog_8_method_57_code 19 = .ok (.irem, 1) := by decide +kernel
theorem d_MOD_word_20 : decode prog_8_method_57_code 20 = .ok (.ifCond .ne 17, 3) := by decide +kernel
theorem d_MOD_word_23 : decode prog_8_method_57_code 23 = .ok (.aload_n 0, 1) := by decide +kernel
theorem d_MOD_word_24 : decode prog_8_method_57_code 24 = .ok (.getfield 7, 3) := by decide +kernel
theorem d_MOD_word_27 : decode prog_8_method_57_code 27 = .ok (.aload_n 0, 1) := by decide +kernel
theorem d_MOD_word_28 : decode prog_8_method_57_code 28 = .ok (.iload_n 1, 1) := by decide +kernel
theorem d_MOD_word_29 : decode prog_8_method_57_code 29 = .ok (.iload_n 2, 1) := by decide +kernel
theorem d_MOD_word_30 : decode prog_8_method_57_code 30 = .ok (.invokevirtual 80, 3) := by decide +kernel
theorem d_MOD_word_33 : decode prog_8_method_57_code 33 = .ok (.iaload, 1) := by decide +kernel
theorem d_MOD_word_34 : decode prog_8_method_57_code 34 = .ok (.goto 4, 3) := by decide +kernel
theorem d_MOD_word_37 : decode prog_8_method_57_code 37 = .ok (.iconst 0, 1) := by decide +kernel
theorem d_MOD_word_38 : decode prog_8_method_57_code 38 = .ok (.ireturn, 1) := by decide +kernel
theorem d_MOD_descriptor_0 : decode prog_8_method_58_code 0 = .ok (.aload_n 0, 1) := by decide +kernel
theorem d_MOD_descriptor_1 : decode prog_8_method_58_code 1 = .ok (.iload_n 1, 1) := by decide +kernel
theorem d_MOD_descriptor_2 : decode prog_8_method_58_code 2 = .ok (.invokevirtual 242, 3) := by decide +kernel
theorem d_MOD_descriptor_5 : decode prog_8_method_58_code 5 = .ok (.ifCond .eq 12, 3) := by decide +kernel
theorem d_MOD_descriptor_8 : decode prog_8_method_58_code 8 = .ok (.aload_n 0, 1) := by decide +kernel
theorem d_MOD_descriptor_9 : decode prog_8_method_58_code 9 = .ok (.iload_n 1, 1) := by decide +kernel
theorem d_MOD_descriptor_10 : decode prog_8_method_58_code 10 = .ok (.iload_n 2, 1) := by decide +kernel
theorem d_MOD_descriptor_11 : decode prog_8_method_58_code 11 = .ok (.invokevirtual 191, 3) := by decide +kernel
theorem d_MOD_descriptor_14 : decode prog_8_method_58_code 14 = .ok (.goto 4, 3) := by decide +kernel
theorem d_MOD_descriptor_17 : decode prog_8_method_58_code 17 = .ok (.iconst (-1), 1) := by decide +kernel
theorem d_MOD_descriptor_18 : decode prog_8_method_58_code 18 = .ok (.ireturn, 1) := by decide +kernel
theorem d_MOD_held_0 : decode prog_8_method_59_code 0 = .ok (.iload_n 1, 1) := by decide +kernel
theorem d_MOD_held_1 : decode prog_8_method_59_code 1 = .ok (.ifCond .lt 17, 3) := by decide +kernel
theorem d_MOD_held_4 : decode prog_8_method_59_code 4 = .ok (.iload_n 1, 1) := by decide +kernel
theorem d_MOD_held_5 : decode prog_8_method_59_code 5 = .ok (.iconst 4, 1) := by decide +kernel
theorem d_MOD_held_6 : decode prog_8_method_59_code 6 = .ok (.if_icmp .ge 12, 3) := by decide +kernel
theorem d_MOD_held_9 : decode prog_8_method_59_code 9 = .ok (.aload_n 0, 1) := by decide +kernel
theorem d_MOD_held_10 : decode prog_8_method_59_code 10 = .ok (.getfield 49, 3) := by decide +kernel
theorem d_MOD_held_13 : decode prog_8_method_59_code 13 = .ok (.iload_n 1, 1) := by decide +kernel
theorem d_MOD_held_14 : decode prog_8_method_59_code 14 = .ok (.iaload, 1) := by decide +kernel
theorem d_MOD_held_15 : decode prog_8_method_59_code 15 = .ok (.goto 4, 3) := by decide +kernel
theorem d_MOD_held_18 : decode prog_8_method_59_code 18 = .ok (.iconst 0, 1) := by decide +kernel
theorem d_MOD_held_19 : decode prog_8_method_59_code 19 = .ok (.ireturn, 1) := by decide +kernel
