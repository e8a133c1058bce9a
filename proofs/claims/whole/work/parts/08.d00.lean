theorem d_K_init_0 : decode prog_1_method_1_code 0 = .ok (.aload_n 0, 1) := by decide +kernel
theorem d_K_init_1 : decode prog_1_method_1_code 1 = .ok (.invokespecial 1, 3) := by decide +kernel
theorem d_K_init_4 : decode prog_1_method_1_code 4 = .ok (.aload_n 0, 1) := by decide +kernel
theorem d_K_init_5 : decode prog_1_method_1_code 5 = .ok (.new 7, 3) := by decide +kernel
theorem d_K_init_8 : decode prog_1_method_1_code 8 = .ok (.dup, 1) := by decide +kernel
theorem d_K_init_9 : decode prog_1_method_1_code 9 = .ok (.iload_n 1, 1) := by decide +kernel
theorem d_K_init_10 : decode prog_1_method_1_code 10 = .ok (.bipush 40, 2) := by decide +kernel
theorem d_K_init_12 : decode prog_1_method_1_code 12 = .ok (.bipush 12, 2) := by decide +kernel
theorem d_K_init_14 : decode prog_1_method_1_code 14 = .ok (.invokestatic 11, 3) := by decide +kernel
theorem d_K_init_17 : decode prog_1_method_1_code 17 = .ok (.invokespecial 15, 3) := by decide +kernel
theorem d_K_init_20 : decode prog_1_method_1_code 20 = .ok (.putfield 18, 3) := by decide +kernel
theorem d_K_init_23 : decode prog_1_method_1_code 23 = .ok (.aload_n 0, 1) := by decide +kernel
theorem d_K_init_24 : decode prog_1_method_1_code 24 = .ok (.iload_n 2, 1) := by decide +kernel
theorem d_K_init_25 : decode prog_1_method_1_code 25 = .ok (.bipush 9, 2) := by decide +kernel
theorem d_K_init_27 : decode prog_1_method_1_code 27 = .ok (.iconst 4, 1) := by decide +kernel
theorem d_K_init_28 : decode prog_1_method_1_code 28 = .ok (.invokestatic 11, 3) := by decide +kernel
theorem d_K_init_31 : decode prog_1_method_1_code 31 = .ok (.putfield 22, 3) := by decide +kernel
theorem d_K_init_34 : decode prog_1_method_1_code 34 = .ok (.aload_n 0, 1) := by decide +kernel
theorem d_K_init_35 : decode prog_1_method_1_code 35 = .ok (.bipush 8, 2) := by decide +kernel
theorem d_K_init_37 : decode prog_1_method_1_code 37 = .ok (.anewarray 26, 3) := by decide +kernel
theorem d_K_init_40 : decode prog_1_method_1_code 40 = .ok (.putfield 28, 3) := by decide +kernel
theorem d_K_init_43 : decode prog_1_method_1_code 43 = .ok (.iconst 0, 1) := by decide +kernel
theorem d_K_init_44 : decode prog_1_method_1_code 44 = .ok (.istore_n 3, 1) := by decide +kernel
theorem d_K_init_45 : decode prog_1_method_1_code 45 = .ok (.iload_n 3, 1) := by decide +kernel
theorem d_K_init_46 : decode prog_1_method_1_code 46 = .ok (.bipush 8, 2) := by decide +kernel
theorem d_K_init_48 : decode prog_1_method_1_code 48 = .ok (.if_icmp .ge 25, 3) := by decide +kernel
theorem d_K_init_51 : decode prog_1_method_1_code 51 = .ok (.aload_n 0, 1) := by decide +kernel
theorem d_K_init_52 : decode prog_1_method_1_code 52 = .ok (.getfield 28, 3) := by decide +kernel
theorem d_K_init_55 : decode prog_1_method_1_code 55 = .ok (.iload_n 3, 1) := by decide +kernel
theorem d_K_init_56 : decode prog_1_method_1_code 56 = .ok (.new 26, 3) := by decide +kernel
theorem d_K_init_59 : decode prog_1_method_1_code 59 = .ok (.dup, 1) := by decide +kernel
theorem d_K_init_60 : decode prog_1_method_1_code 60 = .ok (.iload_n 3, 1) := by decide +kernel
theorem d_K_init_61 : decode prog_1_method_1_code 61 = .ok (.iconst 1, 1) := by decide +kernel
theorem d_K_init_62 : decode prog_1_method_1_code 62 = .ok (.iadd, 1) := by decide +kernel
theorem d_K_init_63 : decode prog_1_method_1_code 63 = .ok (.invokespecial 32, 3) := by decide +kernel
theorem d_K_init_66 : decode prog_1_method_1_code 66 = .ok (.aastore, 1) := by decide +kernel
theorem d_K_init_67 : decode prog_1_method_1_code 67 = .ok (.iinc 3 1, 3) := by decide +kernel
theorem d_K_init_70 : decode prog_1_method_1_code 70 = .ok (.goto (-25), 3) := by decide +kernel
theorem d_K_init_73 : decode prog_1_method_1_code 73 = .ok (.aload_n 0, 1) := by decide +kernel
theorem d_K_init_74 : decode prog_1_method_1_code 74 = .ok (.iconst 4, 1) := by decide +kernel
theorem d_K_init_75 : decode prog_1_method_1_code 75 = .ok (.anewarray 33, 3) := by decide +kernel
theorem d_K_init_78 : decode prog_1_method_1_code 78 = .ok (.putfield 35, 3) := by decide +kernel
theorem d_K_init_81 : decode prog_1_method_1_code 81 = .ok (.iconst 0, 1) := by decide +kernel
theorem d_K_init_82 : decode prog_1_method_1_code 82 = .ok (.istore_n 3, 1) := by decide +kernel
theorem d_K_init_83 : decode prog_1_method_1_code 83 = .ok (.iload_n 3, 1) := by decide +kernel
theorem d_K_init_84 : decode prog_1_method_1_code 84 = .ok (.iconst 4, 1) := by decide +kernel
theorem d_K_init_85 : decode prog_1_method_1_code 85 = .ok (.if_icmp .ge 22, 3) := by decide +kernel
theorem d_K_init_88 : decode prog_1_method_1_code 88 = .ok (.aload_n 0, 1) := by decide +kernel
theorem d_K_init_89 : decode prog_1_method_1_code 89 = .ok (.getfield 35, 3) := by decide +kernel
theorem d_K_init_92 : decode prog_1_method_1_code 92 = .ok (.iload_n 3, 1) := by decide +kernel
theorem d_K_init_93 : decode prog_1_method_1_code 93 = .ok (.new 33, 3) := by decide +kernel
theorem d_K_init_96 : decode prog_1_method_1_code 96 = .ok (.dup, 1) := by decide +kernel
theorem d_K_init_97 : decode prog_1_method_1_code 97 = .ok (.invokespecial 39, 3) := by decide +kernel
theorem d_K_init_100 : decode prog_1_method_1_code 100 = .ok (.aastore, 1) := by decide +kernel
theorem d_K_init_101 : decode prog_1_method_1_code 101 = .ok (.iinc 3 1, 3) := by decide +kernel
theorem d_K_init_104 : decode prog_1_method_1_code 104 = .ok (.goto (-21), 3) := by decide +kernel
theorem d_K_init_107 : decode prog_1_method_1_code 107 = .ok (.aload_n 0, 1) := by decide +kernel
theorem d_K_init_108 : decode prog_1_method_1_code 108 = .ok (.new 40, 3) := by decide +kernel
theorem d_K_init_111 : decode prog_1_method_1_code 111 = .ok (.dup, 1) := by decide +kernel
theorem d_K_init_112 : decode prog_1_method_1_code 112 = .ok (.invokespecial 42, 3) := by decide +kernel
theorem d_K_init_115 : decode prog_1_method_1_code 115 = .ok (.putfield 43, 3) := by decide +kernel
theorem d_K_init_118 : decode prog_1_method_1_code 118 = .ok (.aload_n 0, 1) := by decide +kernel
theorem d_K_init_119 : decode prog_1_method_1_code 119 = .ok (.bipush 64, 2) := by decide +kernel
theorem d_K_init_121 : decode prog_1_method_1_code 121 = .ok (.newarray .int, 2) := by decide +kernel
theorem d_K_init_123 : decode prog_1_method_1_code 123 = .ok (.putfield 47, 3) := by decide +kernel
theorem d_K_init_126 : decode prog_1_method_1_code 126 = .ok (.aload_n 0, 1) := by decide +kernel
theorem d_K_init_127 : decode prog_1_method_1_code 127 = .ok (.sipush 200, 3) := by decide +kernel
theorem d_K_init_130 : decode prog_1_method_1_code 130 = .ok (.newarray .int, 2) := by decide +kernel
theorem d_K_init_132 : decode prog_1_method_1_code 132 = .ok (.putfield 51, 3) := by decide +kernel
theorem d_K_init_135 : decode prog_1_method_1_code 135 = .ok (.return_, 1) := by decide +kernel
theorem d_K_load_0 : decode prog_1_method_2_code 0 = .ok (.aload_n 0, 1) := by decide +kernel
theorem d_K_load_1 : decode prog_1_method_2_code 1 = .ok (.getfield 54, 3) := by decide +kernel
theorem d_K_load_4 : decode prog_1_method_2_code 4 = .ok (.ifCond .ne 12, 3) := by decide +kernel
theorem d_K_load_7 : decode prog_1_method_2_code 7 = .ok (.aload_n 0, 1) := by decide +kernel
theorem d_K_load_8 : decode prog_1_method_2_code 8 = .ok (.getfield 58, 3) := by decide +kernel
theorem d_K_load_11 : decode prog_1_method_2_code 11 = .ok (.bipush 64, 2) := by decide +kernel
theorem d_K_load_13 : decode prog_1_method_2_code 13 = .ok (.if_icmp .lt 5, 3) := by decide +kernel
theorem d_K_load_16 : decode prog_1_method_2_code 16 = .ok (.iconst 0, 1) := by decide +kernel
theorem d_K_load_17 : decode prog_1_method_2_code 17 = .ok (.ireturn, 1) := by decide +kernel
theorem d_K_load_18 : decode prog_1_method_2_code 18 = .ok (.aload_n 0, 1) := by decide +kernel
theorem d_K_load_19 : decode prog_1_method_2_code 19 = .ok (.getfield 47, 3) := by decide +kernel
theorem d_K_load_22 : decode prog_1_method_2_code 22 = .ok (.aload_n 0, 1) := by decide +kernel
theorem d_K_load_23 : decode prog_1_method_2_code 23 = .ok (.getfield 58, 3) := by decide +kernel
theorem d_K_load_26 : decode prog_1_method_2_code 26 = .ok (.iload_n 1, 1) := by decide +kernel
theorem d_K_load_27 : decode prog_1_method_2_code 27 = .ok (.iastore, 1) := by decide +kernel
theorem d_K_load_28 : decode prog_1_method_2_code 28 = .ok (.aload_n 0, 1) := by decide +kernel
theorem d_K_load_29 : decode prog_1_method_2_code 29 = .ok (.dup, 1) := by decide +kernel
theorem d_K_load_30 : decode prog_1_method_2_code 30 = .ok (.getfield 58, 3) := by decide +kernel
theorem d_K_load_33 : decode prog_1_method_2_code 33 = .ok (.iconst 1, 1) := by decide +kernel
theorem d_K_load_34 : decode prog_1_method_2_code 34 = .ok (.iadd, 1) := by decide +kernel
theorem d_K_load_35 : decode prog_1_method_2_code 35 = .ok (.putfield 58, 3) := by decide +kernel
theorem d_K_load_38 : decode prog_1_method_2_code 38 = .ok (.iconst 1, 1) := by decide +kernel
theorem d_K_load_39 : decode prog_1_method_2_code 39 = .ok (.ireturn, 1) := by decide +kernel
theorem d_K_boot_0 : decode prog_1_method_3_code 0 = .ok (.aload_n 0, 1) := by decide +kernel
theorem d_K_boot_1 : decode prog_1_method_3_code 1 = .ok (.getfield 54, 3) := by decide +kernel
theorem d_K_boot_4 : decode prog_1_method_3_code 4 = .ok (.ifCond .eq 5, 3) := by decide +kernel
theorem d_K_boot_7 : decode prog_1_method_3_code 7 = .ok (.iconst 1, 1) := by decide +kernel
theorem d_K_boot_8 : decode prog_1_method_3_code 8 = .ok (.ireturn, 1) := by decide +kernel
theorem d_K_boot_9 : decode prog_1_method_3_code 9 = .ok (.aload_n 0, 1) := by decide +kernel
theorem d_K_boot_10 : decode prog_1_method_3_code 10 = .ok (.getfield 58, 3) := by decide +kernel
theorem d_K_boot_13 : decode prog_1_method_3_code 13 = .ok (.bipush 16, 2) := by decide +kernel
theorem d_K_boot_15 : decode prog_1_method_3_code 15 = .ok (.iadd, 1) := by decide +kernel
theorem d_K_boot_16 : decode prog_1_method_3_code 16 = .ok (.iconst 1, 1) := by decide +kernel
theorem d_K_boot_17 : decode prog_1_method_3_code 17 = .ok (.isub, 1) := by decide +kernel
theorem d_K_boot_18 : decode prog_1_method_3_code 18 = .ok (.bipush 16, 2) := by decide +kernel
theorem d_K_boot_20 : decode prog_1_method_3_code 20 = .ok (.idiv, 1) := by decide +kernel
theorem d_K_boot_21 : decode prog_1_method_3_code 21 = .ok (.iconst 1, 1) := by decide +kernel
theorem d_K_boot_22 : decode prog_1_method_3_code 22 = .ok (.iadd, 1) := by decide +kernel
theorem d_K_boot_23 : decode prog_1_method_3_code 23 = .ok (.istore_n 1, 1) := by decide +kernel
theorem d_K_boot_24 : decode prog_1_method_3_code 24 = .ok (.aload_n 0, 1) := by decide +kernel
theorem d_K_boot_25 : decode prog_1_method_3_code 25 = .ok (.getfield 58, 3) := by decide +kernel
theorem d_K_boot_28 : decode prog_1_method_3_code 28 = .ok (.ifCond .eq 14, 3) := by decide +kernel
theorem d_K_boot_31 : decode prog_1_method_3_code 31 = .ok (.aload_n 0, 1) := by decide +kernel
theorem d_K_boot_32 : decode prog_1_method_3_code 32 = .ok (.getfield 18, 3) := by decide +kernel
theorem d_K_boot_35 : decode prog_1_method_3_code 35 = .ok (.getfield 61, 3) := by decide +kernel
theorem d_K_boot_38 : decode prog_1_method_3_code 38 = .ok (.iload_n 1, 1) := by decide +kernel
theorem d_K_boot_39 : decode prog_1_method_3_code 39 = .ok (.if_icmp .ge 5, 3) := by decide +kernel
theorem d_K_boot_42 : decode prog_1_method_3_code 42 = .ok (.iconst 2, 1) := by decide +kernel
theorem d_K_boot_43 : decode prog_1_method_3_code 43 = .ok (.ireturn, 1) := by decide +kernel
theorem d_K_boot_44 : decode prog_1_method_3_code 44 = .ok (.aload_n 0, 1) := by decide +kernel
theorem d_K_boot_45 : decode prog_1_method_3_code 45 = .ok (.iconst 1, 1) := by decide +kernel
theorem d_K_boot_46 : decode prog_1_method_3_code 46 = .ok (.putfield 54, 3) := by decide +kernel
theorem d_K_boot_49 : decode prog_1_method_3_code 49 = .ok (.aload_n 0, 1) := by decide +kernel
theorem d_K_boot_50 : decode prog_1_method_3_code 50 = .ok (.getfield 28, 3) := by decide +kernel
theorem d_K_boot_53 : decode prog_1_method_3_code 53 = .ok (.iconst 0, 1) := by decide +kernel
theorem d_K_boot_54 : decode prog_1_method_3_code 54 = .ok (.aaload, 1) := by decide +kernel
theorem d_K_boot_55 : decode prog_1_method_3_code 55 = .ok (.astore_n 2, 1) := by decide +kernel
theorem d_K_boot_56 : decode prog_1_method_3_code 56 = .ok (.aload_n 0, 1) := by decide +kernel
theorem d_K_boot_57 : decode prog_1_method_3_code 57 = .ok (.getfield 18, 3) := by decide +kernel
theorem d_K_boot_60 : decode prog_1_method_3_code 60 = .ok (.aload_n 2, 1) := by decide +kernel
theorem d_K_boot_61 : decode prog_1_method_3_code 61 = .ok (.iload_n 1, 1) := by decide +kernel
theorem d_K_boot_62 : decode prog_1_method_3_code 62 = .ok (.invokevirtual 64, 3) := by decide +kernel
theorem d_K_boot_65 : decode prog_1_method_3_code 65 = .ok (.aload_n 0, 1) := by decide +kernel
theorem d_K_boot_66 : decode prog_1_method_3_code 66 = .ok (.getfield 18, 3) := by decide +kernel
theorem d_K_boot_69 : decode prog_1_method_3_code 69 = .ok (.aload_n 2, 1) := by decide +kernel
theorem d_K_boot_70 : decode prog_1_method_3_code 70 = .ok (.aload_n 0, 1) := by decide +kernel
theorem d_K_boot_71 : decode prog_1_method_3_code 71 = .ok (.getfield 47, 3) := by decide +kernel
theorem d_K_boot_74 : decode prog_1_method_3_code 74 = .ok (.aload_n 0, 1) := by decide +kernel
theorem d_K_boot_75 : decode prog_1_method_3_code 75 = .ok (.getfield 58, 3) := by decide +kernel
theorem d_K_boot_78 : decode prog_1_method_3_code 78 = .ok (.invokevirtual 68, 3) := by decide +kernel
theorem d_K_boot_81 : decode prog_1_method_3_code 81 = .ok (.aload_n 2, 1) := by decide +kernel
theorem d_K_boot_82 : decode prog_1_method_3_code 82 = .ok (.iconst 2, 1) := by decide +kernel
theorem d_K_boot_83 : decode prog_1_method_3_code 83 = .ok (.bipush 64, 2) := by decide +kernel
theorem d_K_boot_85 : decode prog_1_method_3_code 85 = .ok (.iload_n 1, 1) := by decide +kernel
theorem d_K_boot_86 : decode prog_1_method_3_code 86 = .ok (.imul, 1) := by decide +kernel
theorem d_K_boot_87 : decode prog_1_method_3_code 87 = .ok (.invokevirtual 72, 3) := by decide +kernel
theorem d_K_boot_90 : decode prog_1_method_3_code 90 = .ok (.aload_n 2, 1) := by decide +kernel
theorem d_K_boot_91 : decode prog_1_method_3_code 91 = .ok (.getfield 76, 3) := by decide +kernel
theorem d_K_boot_94 : decode prog_1_method_3_code 94 = .ok (.iconst 1, 1) := by decide +kernel
theorem d_K_boot_95 : decode prog_1_method_3_code 95 = .ok (.iconst 0, 1) := by decide +kernel
theorem d_K_boot_96 : decode prog_1_method_3_code 96 = .ok (.iastore, 1) := by decide +kernel
theorem d_K_boot_97 : decode prog_1_method_3_code 97 = .ok (.aload_n 0, 1) := by decide +kernel
theorem d_K_boot_98 : decode prog_1_method_3_code 98 = .ok (.aload_n 2, 1) := by decide +kernel
theorem d_K_boot_99 : decode prog_1_method_3_code 99 = .ok (.invokevirtual 79, 3) := by decide +kernel
theorem d_K_boot_102 : decode prog_1_method_3_code 102 = .ok (.iconst 0, 1) := by decide +kernel
theorem d_K_boot_103 : decode prog_1_method_3_code 103 = .ok (.ireturn, 1) := by decide +kernel
theorem d_K_step_0 : decode prog_1_method_4_code 0 = .ok (.aload_n 0, 1) := by decide +kernel
theorem d_K_step_1 : decode prog_1_method_4_code 1 = .ok (.invokevirtual 83, 3) := by decide +kernel
theorem d_K_step_4 : decode prog_1_method_4_code 4 = .ok (.istore_n 1, 1) := by decide +kernel
theorem d_K_step_5 : decode prog_1_method_4_code 5 = .ok (.iload_n 1, 1) := by decide +kernel
theorem d_K_step_6 : decode prog_1_method_4_code 6 = .ok (.ifCond .eq 5, 3) := by decide +kernel
theorem d_K_step_9 : decode prog_1_method_4_code 9 = .ok (.iload_n 1, 1) := by decide +kernel
theorem d_K_step_10 : decode prog_1_method_4_code 10 = .ok (.ireturn, 1) := by decide +kernel
theorem d_K_step_11 : decode prog_1_method_4_code 11 = .ok (.aload_n 0, 1) := by decide +kernel
theorem d_K_step_12 : decode prog_1_method_4_code 12 = .ok (.invokevirtual 87, 3) := by decide +kernel
theorem d_K_step_15 : decode prog_1_method_4_code 15 = .ok (.ifCond .eq 7, 3) := by decide +kernel
theorem d_K_step_18 : decode prog_1_method_4_code 18 = .ok (.iconst (-1), 1) := by decide +kernel
theorem d_K_step_19 : decode prog_1_method_4_code 19 = .ok (.goto 4, 3) := by decide +kernel
theorem d_K_step_22 : decode prog_1_method_4_code 22 = .ok (.iconst 0, 1) := by decide +kernel
theorem d_K_step_23 : decode prog_1_method_4_code 23 = .ok (.ireturn, 1) := by decide +kernel
theorem d_K_run_0 : decode prog_1_method_5_code 0 = .ok (.iload_n 1, 1) := by decide +kernel
theorem d_K_run_1 : decode prog_1_method_5_code 1 = .ok (.iconst 1, 1) := by decide +kernel
theorem d_K_run_2 : decode prog_1_method_5_code 2 = .ok (.if_icmp .lt 9, 3) := by decide +kernel
theorem d_K_run_5 : decode prog_1_method_5_code 5 = .ok (.iload_n 1, 1) := by decide +kernel
theorem d_K_run_6 : decode prog_1_method_5_code 6 = .ok (.bipush 100, 2) := by decide +kernel
theorem d_K_run_8 : decode prog_1_method_5_code 8 = .ok (.if_icmp .le 5, 3) := by decide +kernel
theorem d_K_run_11 : decode prog_1_method_5_code 11 = .ok (.iconst (-1), 1) := by decide +kernel
theorem d_K_run_12 : decode prog_1_method_5_code 12 = .ok (.ireturn, 1) := by decide +kernel
theorem d_K_run_13 : decode prog_1_method_5_code 13 = .ok (.iconst 0, 1) := by decide +kernel
theorem d_K_run_14 : decode prog_1_method_5_code 14 = .ok (.istore_n 2, 1) := by decide +kernel
theorem d_K_run_15 : decode prog_1_method_5_code 15 = .ok (.iload_n 2, 1) := by decide +kernel
theorem d_K_run_16 : decode prog_1_method_5_code 16 = .ok (.iload_n 1, 1) := by decide +kernel
theorem d_K_run_17 : decode prog_1_method_5_code 17 = .ok (.if_icmp .ge 18, 3) := by decide +kernel
theorem d_K_run_20 : decode prog_1_method_5_code 20 = .ok (.aload_n 0, 1) := by decide +kernel
theorem d_K_run_21 : decode prog_1_method_5_code 21 = .ok (.invokevirtual 83, 3) := by decide +kernel
theorem d_K_run_24 : decode prog_1_method_5_code 24 = .ok (.ifCond .ne 5, 3) := by decide +kernel
theorem d_K_run_27 : decode prog_1_method_5_code 27 = .ok (.iload_n 2, 1) := by decide +kernel
theorem d_K_run_28 : decode prog_1_method_5_code 28 = .ok (.ireturn, 1) := by decide +kernel
theorem d_K_run_29 : decode prog_1_method_5_code 29 = .ok (.iinc 2 1, 3) := by decide +kernel
theorem d_K_run_32 : decode prog_1_method_5_code 32 = .ok (.goto (-17), 3) := by decide +kernel
theorem d_K_run_35 : decode prog_1_method_5_code 35 = .ok (.iload_n 1, 1) := by decide +kernel
theorem d_K_run_36 : decode prog_1_method_5_code 36 = .ok (.ireturn, 1) := by decide +kernel
theorem d_K_current_0 : decode prog_1_method_6_code 0 = .ok (.aload_n 0, 1) := by decide +kernel
theorem d_K_current_1 : decode prog_1_method_6_code 1 = .ok (.getfield 91, 3) := by decide +kernel
theorem d_K_current_4 : decode prog_1_method_6_code 4 = .ok (.ireturn, 1) := by decide +kernel
theorem d_K_stateOf_0 : decode prog_1_method_7_code 0 = .ok (.aload_n 0, 1) := by decide +kernel
theorem d_K_stateOf_1 : decode prog_1_method_7_code 1 = .ok (.iload_n 1, 1) := by decide +kernel
theorem d_K_stateOf_2 : decode prog_1_method_7_code 2 = .ok (.invokevirtual 94, 3) := by decide +kernel
theorem d_K_stateOf_5 : decode prog_1_method_7_code 5 = .ok (.astore_n 2, 1) := by decide +kernel
theorem d_K_stateOf_6 : decode prog_1_method_7_code 6 = .ok (.aload_n 2, 1) := by decide +kernel
theorem d_K_stateOf_7 : decode prog_1_method_7_code 7 = .ok (.ifnonnull 7, 3) := by decide +kernel
theorem d_K_stateOf_10 : decode prog_1_method_7_code 10 = .ok (.iconst 0, 1) := by decide +kernel
theorem d_K_stateOf_11 : decode prog_1_method_7_code 11 = .ok (.goto 7, 3) := by decide +kernel
theorem d_K_stateOf_14 : decode prog_1_method_7_code 14 = .ok (.aload_n 2, 1) := by decide +kernel
theorem d_K_stateOf_15 : decode prog_1_method_7_code 15 = .ok (.getfield 98, 3) := by decide +kernel
theorem d_K_stateOf_18 : decode prog_1_method_7_code 18 = .ok (.ireturn, 1) := by decide +kernel
theorem d_K_exitOf_0 : decode prog_1_method_8_code 0 = .ok (.aload_n 0, 1) := by decide +kernel
theorem d_K_exitOf_1 : decode prog_1_method_8_code 1 = .ok (.iload_n 1, 1) := by decide +kernel
theorem d_K_exitOf_2 : decode prog_1_method_8_code 2 = .ok (.invokevirtual 94, 3) := by decide +kernel
theorem d_K_exitOf_5 : decode prog_1_method_8_code 5 = .ok (.astore_n 2, 1) := by decide +kernel
theorem d_K_exitOf_6 : decode prog_1_method_8_code 6 = .ok (.aload_n 2, 1) := by decide +kernel
theorem d_K_exitOf_7 : decode prog_1_method_8_code 7 = .ok (.ifnull 11, 3) := by decide +kernel
theorem d_K_exitOf_10 : decode prog_1_method_8_code 10 = .ok (.aload_n 2, 1) := by decide +kernel
theorem d_K_exitOf_11 : decode prog_1_method_8_code 11 = .ok (.getfield 98, 3) := by decide +kernel
theorem d_K_exitOf_14 : decode prog_1_method_8_code 14 = .ok (.iconst 5, 1) := by decide +kernel
theorem d_K_exitOf_15 : decode prog_1_method_8_code 15 = .ok (.if_icmp .eq 7, 3) := by decide +kernel
theorem d_K_exitOf_18 : decode prog_1_method_8_code 18 = .ok (.iconst (-1), 1) := by decide +kernel
theorem d_K_exitOf_19 : decode prog_1_method_8_code 19 = .ok (.goto 7, 3) := by decide +kernel
theorem d_K_exitOf_22 : decode prog_1_method_8_code 22 = .ok (.aload_n 2, 1) := by decide +kernel
theorem d_K_exitOf_23 : decode prog_1_method_8_code 23 = .ok (.getfield 101, 3) := by decide +kernel
theorem d_K_exitOf_26 : decode prog_1_method_8_code 26 = .ok (.ireturn, 1) := by decide +kernel
theorem d_K_parentOf_0 : decode prog_1_method_9_code 0 = .ok (.aload_n 0, 1) := by decide +kernel
theorem d_K_parentOf_1 : decode prog_1_method_9_code 1 = .ok (.iload_n 1, 1) := by decide +kernel
theorem d_K_parentOf_2 : decode prog_1_method_9_code 2 = .ok (.invokevirtual 94, 3) := by decide +kernel
theorem d_K_parentOf_5 : decode prog_1_method_9_code 5 = .ok (.astore_n 2, 1) := by decide +kernel
theorem d_K_parentOf_6 : decode prog_1_method_9_code 6 = .ok (.aload_n 2, 1) := by decide +kernel
theorem d_K_parentOf_7 : decode prog_1_method_9_code 7 = .ok (.ifnonnull 7, 3) := by decide +kernel
theorem d_K_parentOf_10 : decode prog_1_method_9_code 10 = .ok (.iconst (-1), 1) := by decide +kernel
theorem d_K_parentOf_11 : decode prog_1_method_9_code 11 = .ok (.goto 7, 3) := by decide +kernel
theorem d_K_parentOf_14 : decode prog_1_method_9_code 14 = .ok (.aload_n 2, 1) := by decide +kernel
theorem d_K_parentOf_15 : decode prog_1_method_9_code 15 = .ok (.getfield 104, 3) := by decide +kernel
theorem d_K_parentOf_18 : decode prog_1_method_9_code 18 = .ok (.ireturn, 1) := by decide +kernel
theorem d_K_freeFrames_0 : decode prog_1_method_10_code 0 = .ok (.aload_n 0, 1) := by decide +kernel
theorem d_K_freeFrames_1 : decode prog_1_method_10_code 1 = .ok (.getfield 18, 3) := by decide +kernel
theorem d_K_freeFrames_4 : decode prog_1_method_10_code 4 = .ok (.getfield 61, 3) := by decide +kernel
theorem d_K_freeFrames_7 : decode prog_1_method_10_code 7 = .ok (.ireturn, 1) := by decide +kernel
theorem d_K_pages_0 : decode prog_1_method_11_code 0 = .ok (.aload_n 0, 1) := by decide +kernel
theorem d_K_pages_1 : decode prog_1_method_11_code 1 = .ok (.iload_n 1, 1) := by decide +kernel
theorem d_K_pages_2 : decode prog_1_method_11_code 2 = .ok (.invokevirtual 94, 3) := by decide +kernel
theorem d_K_pages_5 : decode prog_1_method_11_code 5 = .ok (.astore_n 2, 1) := by decide +kernel
theorem d_K_pages_6 : decode prog_1_method_11_code 6 = .ok (.aload_n 2, 1) := by decide +kernel
theorem d_K_pages_7 : decode prog_1_method_11_code 7 = .ok (.ifnonnull 7, 3) := by decide +kernel
theorem d_K_pages_10 : decode prog_1_method_11_code 10 = .ok (.iconst 0, 1) := by decide +kernel
theorem d_K_pages_11 : decode prog_1_method_11_code 11 = .ok (.goto 7, 3) := by decide +kernel
theorem d_K_pages_14 : decode prog_1_method_11_code 14 = .ok (.aload_n 2, 1) := by decide +kernel
theorem d_K_pages_15 : decode prog_1_method_11_code 15 = .ok (.getfield 107, 3) := by decide +kernel
theorem d_K_pages_18 : decode prog_1_method_11_code 18 = .ok (.ireturn, 1) := by decide +kernel
theorem d_K_register_0 : decode prog_1_method_12_code 0 = .ok (.aload_n 0, 1) := by decide +kernel
theorem d_K_register_1 : decode prog_1_method_12_code 1 = .ok (.iload_n 1, 1) := by decide +kernel
theorem d_K_register_2 : decode prog_1_method_12_code 2 = .ok (.invokevirtual 94, 3) := by decide +kernel
theorem d_K_register_5 : decode prog_1_method_12_code 5 = .ok (.astore_n 3, 1) := by decide +kernel
theorem d_K_register_6 : decode prog_1_method_12_code 6 = .ok (.aload_n 3, 1) := by decide +kernel
theorem d_K_register_7 : decode prog_1_method_12_code 7 = .ok (.ifnonnull 7, 3) := by decide +kernel
theorem d_K_register_10 : decode prog_1_method_12_code 10 = .ok (.iconst 0, 1) := by decide +kernel
theorem d_K_register_11 : decode prog_1_method_12_code 11 = .ok (.goto 8, 3) := by decide +kernel
theorem d_K_register_14 : decode prog_1_method_12_code 14 = .ok (.aload_n 3, 1) := by decide +kernel
theorem d_K_register_15 : decode prog_1_method_12_code 15 = .ok (.iload_n 2, 1) := by decide +kernel
theorem d_K_register_16 : decode prog_1_method_12_code 16 = .ok (.invokevirtual 110, 3) := by decide +kernel
theorem d_K_register_19 : decode prog_1_method_12_code 19 = .ok (.ireturn, 1) := by decide +kernel
theorem d_K_pc_0 : decode prog_1_method_13_code 0 = .ok (.aload_n 0, 1) := by decide +kernel
theorem d_K_pc_1 : decode prog_1_method_13_code 1 = .ok (.iload_n 1, 1) := by decide +kernel
theorem d_K_pc_2 : decode prog_1_method_13_code 2 = .ok (.invokevirtual 94, 3) := by decide +kernel
theorem d_K_pc_5 : decode prog_1_method_13_code 5 = .ok (.astore_n 2, 1) := by decide +kernel
theorem d_K_pc_6 : decode prog_1_method_13_code 6 = .ok (.aload_n 2, 1) := by decide +kernel
theorem d_K_pc_7 : decode prog_1_method_13_code 7 = .ok (.ifnonnull 7, 3) := by decide +kernel
theorem d_K_pc_10 : decode prog_1_method_13_code 10 = .ok (.iconst 0, 1) := by decide +kernel
theorem d_K_pc_11 : decode prog_1_method_13_code 11 = .ok (.goto 7, 3) := by decide +kernel
theorem d_K_pc_14 : decode prog_1_method_13_code 14 = .ok (.aload_n 2, 1) := by decide +kernel
theorem d_K_pc_15 : decode prog_1_method_13_code 15 = .ok (.getfield 114, 3) := by decide +kernel
theorem d_K_pc_18 : decode prog_1_method_13_code 18 = .ok (.ireturn, 1) := by decide +kernel
theorem d_K_word_0 : decode prog_1_method_14_code 0 = .ok (.aload_n 0, 1) := by decide +kernel
theorem d_K_word_1 : decode prog_1_method_14_code 1 = .ok (.iload_n 1, 1) := by decide +kernel
theorem d_K_word_2 : decode prog_1_method_14_code 2 = .ok (.invokevirtual 94, 3) := by decide +kernel
theorem d_K_word_5 : decode prog_1_method_14_code 5 = .ok (.astore_n 3, 1) := by decide +kernel
theorem d_K_word_6 : decode prog_1_method_14_code 6 = .ok (.aload_n 3, 1) := by decide +kernel
theorem d_K_word_7 : decode prog_1_method_14_code 7 = .ok (.ifnull 9, 3) := by decide +kernel
theorem d_K_word_10 : decode prog_1_method_14_code 10 = .ok (.iload_n 2, 1) := by decide +kernel
theorem d_K_word_11 : decode prog_1_method_14_code 11 = .ok (.iconst 3, 1) := by decide +kernel
theorem d_K_word_12 : decode prog_1_method_14_code 12 = .ok (.iand, 1) := by decide +kernel
theorem d_K_word_13 : decode prog_1_method_14_code 13 = .ok (.ifCond .eq 5, 3) := by decide +kernel
theorem d_K_word_16 : decode prog_1_method_14_code 16 = .ok (.iconst 0, 1) := by decide +kernel
theorem d_K_word_17 : decode prog_1_method_14_code 17 = .ok (.ireturn, 1) := by decide +kernel
theorem d_K_word_18 : decode prog_1_method_14_code 18 = .ok (.aload_n 0, 1) := by decide +kernel
theorem d_K_word_19 : decode prog_1_method_14_code 19 = .ok (.getfield 18, 3) := by decide +kernel
theorem d_K_word_22 : decode prog_1_method_14_code 22 = .ok (.aload_n 3, 1) := by decide +kernel
theorem d_K_word_23 : decode prog_1_method_14_code 23 = .ok (.iload_n 2, 1) := by decide +kernel
theorem d_K_word_24 : decode prog_1_method_14_code 24 = .ok (.invokevirtual 117, 3) := by decide +kernel
theorem d_K_word_27 : decode prog_1_method_14_code 27 = .ok (.istore 4, 2) := by decide +kernel
theorem d_K_word_29 : decode prog_1_method_14_code 29 = .ok (.iload 4, 2) := by decide +kernel
theorem d_K_word_31 : decode prog_1_method_14_code 31 = .ok (.iconst (-1), 1) := by decide +kernel
theorem d_K_word_32 : decode prog_1_method_14_code 32 = .ok (.if_icmp .ne 7, 3) := by decide +kernel
theorem d_K_word_35 : decode prog_1_method_14_code 35 = .ok (.iconst 0, 1) := by decide +kernel
theorem d_K_word_36 : decode prog_1_method_14_code 36 = .ok (.goto 13, 3) := by decide +kernel
theorem d_K_word_39 : decode prog_1_method_14_code 39 = .ok (.aload_n 0, 1) := by decide +kernel
theorem d_K_word_40 : decode prog_1_method_14_code 40 = .ok (.getfield 18, 3) := by decide +kernel
theorem d_K_word_43 : decode prog_1_method_14_code 43 = .ok (.getfield 121, 3) := by decide +kernel
theorem d_K_word_46 : decode prog_1_method_14_code 46 = .ok (.iload 4, 2) := by decide +kernel
theorem d_K_word_48 : decode prog_1_method_14_code 48 = .ok (.iaload, 1) := by decide +kernel
theorem d_K_word_49 : decode prog_1_method_14_code 49 = .ok (.ireturn, 1) := by decide +kernel
theorem d_K_descriptor_0 : decode prog_1_method_15_code 0 = .ok (.aload_n 0, 1) := by decide +kernel
theorem d_K_descriptor_1 : decode prog_1_method_15_code 1 = .ok (.iload_n 1, 1) := by decide +kernel
theorem d_K_descriptor_2 : decode prog_1_method_15_code 2 = .ok (.invokevirtual 94, 3) := by decide +kernel
theorem d_K_descriptor_5 : decode prog_1_method_15_code 5 = .ok (.astore_n 3, 1) := by decide +kernel
theorem d_K_descriptor_6 : decode prog_1_method_15_code 6 = .ok (.aload_n 3, 1) := by decide +kernel
theorem d_K_descriptor_7 : decode prog_1_method_15_code 7 = .ok (.ifnonnull 7, 3) := by decide +kernel
theorem d_K_descriptor_10 : decode prog_1_method_15_code 10 = .ok (.iconst (-1), 1) := by decide +kernel
theorem d_K_descriptor_11 : decode prog_1_method_15_code 11 = .ok (.goto 8, 3) := by decide +kernel
theorem d_K_descriptor_14 : decode prog_1_method_15_code 14 = .ok (.aload_n 3, 1) := by decide +kernel
theorem d_K_descriptor_15 : decode prog_1_method_15_code 15 = .ok (.iload_n 2, 1) := by decide +kernel
theorem d_K_descriptor_16 : decode prog_1_method_15_code 16 = .ok (.invokevirtual 124, 3) := by decide +kernel
theorem d_K_descriptor_19 : decode prog_1_method_15_code 19 = .ok (.ireturn, 1) := by decide +kernel
theorem d_K_held_0 : decode prog_1_method_16_code 0 = .ok (.iload_n 1, 1) := by decide +kernel
theorem d_K_held_1 : decode prog_1_method_16_code 1 = .ok (.ifCond .lt 16, 3) := by decide +kernel
theorem d_K_held_4 : decode prog_1_method_16_code 4 = .ok (.iload_n 1, 1) := by decide +kernel
theorem d_K_held_5 : decode prog_1_method_16_code 5 = .ok (.iconst 4, 1) := by decide +kernel
theorem d_K_held_6 : decode prog_1_method_16_code 6 = .ok (.if_icmp .ge 11, 3) := by decide +kernel
theorem d_K_held_9 : decode prog_1_method_16_code 9 = .ok (.aload_n 0, 1) := by decide +kernel
theorem d_K_held_10 : decode prog_1_method_16_code 10 = .ok (.iload_n 1, 1) := by decide +kernel
theorem d_K_held_11 : decode prog_1_method_16_code 11 = .ok (.invokevirtual 127, 3) := by decide +kernel
theorem d_K_held_14 : decode prog_1_method_16_code 14 = .ok (.ifCond .eq 7, 3) := by decide +kernel
theorem d_K_held_17 : decode prog_1_method_16_code 17 = .ok (.iconst 0, 1) := by decide +kernel
theorem d_K_held_18 : decode prog_1_method_16_code 18 = .ok (.goto 12, 3) := by decide +kernel
theorem d_K_held_21 : decode prog_1_method_16_code 21 = .ok (.aload_n 0, 1) := by decide +kernel
theorem d_K_held_22 : decode prog_1_method_16_code 22 = .ok (.getfield 35, 3) := by decide +kernel
theorem d_K_held_25 : decode prog_1_method_16_code 25 = .ok (.iload_n 1, 1) := by decide +kernel
theorem d_K_held_26 : decode prog_1_method_16_code 26 = .ok (.aaload, 1) := by decide +kernel
theorem d_K_held_27 : decode prog_1_method_16_code 27 = .ok (.getfield 131, 3) := by decide +kernel
theorem d_K_held_30 : decode prog_1_method_16_code 30 = .ok (.ireturn, 1) := by decide +kernel
theorem d_K_consoleLength_0 : decode prog_1_method_17_code 0 = .ok (.aload_n 0, 1) := by decide +kernel
theorem d_K_consoleLength_1 : decode prog_1_method_17_code 1 = .ok (.getfield 134, 3) := by decide +kernel
theorem d_K_consoleLength_4 : decode prog_1_method_17_code 4 = .ok (.ireturn, 1) := by decide +kernel
theorem d_K_console_0 : decode prog_1_method_18_code 0 = .ok (.iload_n 1, 1) := by decide +kernel
theorem d_K_console_1 : decode prog_1_method_18_code 1 = .ok (.ifCond .lt 11, 3) := by decide +kernel
theorem d_K_console_4 : decode prog_1_method_18_code 4 = .ok (.iload_n 1, 1) := by decide +kernel
theorem d_K_console_5 : decode prog_1_method_18_code 5 = .ok (.aload_n 0, 1) := by decide +kernel
theorem d_K_console_6 : decode prog_1_method_18_code 6 = .ok (.getfield 134, 3) := by decide +kernel
theorem d_K_console_9 : decode prog_1_method_18_code 9 = .ok (.if_icmp .lt 7, 3) := by decide +kernel
theorem d_K_console_12 : decode prog_1_method_18_code 12 = .ok (.iconst (-1), 1) := by decide +kernel
theorem d_K_console_13 : decode prog_1_method_18_code 13 = .ok (.goto 9, 3) := by decide +kernel
theorem d_K_console_16 : decode prog_1_method_18_code 16 = .ok (.aload_n 0, 1) := by decide +kernel
theorem d_K_console_17 : decode prog_1_method_18_code 17 = .ok (.getfield 51, 3) := by decide +kernel
theorem d_K_console_20 : decode prog_1_method_18_code 20 = .ok (.iload_n 1, 1) := by decide +kernel
theorem d_K_console_21 : decode prog_1_method_18_code 21 = .ok (.iaload, 1) := by decide +kernel
theorem d_K_console_22 : decode prog_1_method_18_code 22 = .ok (.ireturn, 1) := by decide +kernel
theorem d_K_waitingTurn_0 : decode prog_1_method_19_code 0 = .ok (.aload_n 0, 1) := by decide +kernel
theorem d_K_waitingTurn_1 : decode prog_1_method_19_code 1 = .ok (.getfield 43, 3) := by decide +kernel
theorem d_K_waitingTurn_4 : decode prog_1_method_19_code 4 = .ok (.iload_n 1, 1) := by decide +kernel
theorem d_K_waitingTurn_5 : decode prog_1_method_19_code 5 = .ok (.invokevirtual 137, 3) := by decide +kernel
theorem d_K_waitingTurn_8 : decode prog_1_method_19_code 8 = .ok (.ireturn, 1) := by decide +kernel
theorem d_K_within_0 : decode prog_1_method_20_code 0 = .ok (.iload_n 0, 1) := by decide +kernel
theorem d_K_within_1 : decode prog_1_method_20_code 1 = .ok (.iconst 1, 1) := by decide +kernel
theorem d_K_within_2 : decode prog_1_method_20_code 2 = .ok (.if_icmp .lt 12, 3) := by decide +kernel
theorem d_K_within_5 : decode prog_1_method_20_code 5 = .ok (.iload_n 0, 1) := by decide +kernel
theorem d_K_within_6 : decode prog_1_method_20_code 6 = .ok (.iload_n 1, 1) := by decide +kernel
theorem d_K_within_7 : decode prog_1_method_20_code 7 = .ok (.if_icmp .gt 7, 3) := by decide +kernel
theorem d_K_within_10 : decode prog_1_method_20_code 10 = .ok (.iload_n 0, 1) := by decide +kernel
theorem d_K_within_11 : decode prog_1_method_20_code 11 = .ok (.goto 4, 3) := by decide +kernel
theorem d_K_within_14 : decode prog_1_method_20_code 14 = .ok (.iload_n 2, 1) := by decide +kernel
theorem d_K_within_15 : decode prog_1_method_20_code 15 = .ok (.ireturn, 1) := by decide +kernel
theorem d_K_find_0 : decode prog_1_method_21_code 0 = .ok (.iload_n 1, 1) := by decide +kernel
theorem d_K_find_1 : decode prog_1_method_21_code 1 = .ok (.iconst 1, 1) := by decide +kernel
theorem d_K_find_2 : decode prog_1_method_21_code 2 = .ok (.if_icmp .lt 9, 3) := by decide +kernel
theorem d_K_find_5 : decode prog_1_method_21_code 5 = .ok (.iload_n 1, 1) := by decide +kernel
theorem d_K_find_6 : decode prog_1_method_21_code 6 = .ok (.bipush 8, 2) := by decide +kernel
theorem d_K_find_8 : decode prog_1_method_21_code 8 = .ok (.if_icmp .le 5, 3) := by decide +kernel
theorem d_K_find_11 : decode prog_1_method_21_code 11 = .ok (.aconst_null, 1) := by decide +kernel
theorem d_K_find_12 : decode prog_1_method_21_code 12 = .ok (.areturn, 1) := by decide +kernel
theorem d_K_find_13 : decode prog_1_method_21_code 13 = .ok (.aload_n 0, 1) := by decide +kernel
theorem d_K_find_14 : decode prog_1_method_21_code 14 = .ok (.getfield 28, 3) := by decide +kernel
theorem d_K_find_17 : decode prog_1_method_21_code 17 = .ok (.iload_n 1, 1) := by decide +kernel
theorem d_K_find_18 : decode prog_1_method_21_code 18 = .ok (.iconst 1, 1) := by decide +kernel
theorem d_K_find_19 : decode prog_1_method_21_code 19 = .ok (.isub, 1) := by decide +kernel
theorem d_K_find_20 : decode prog_1_method_21_code 20 = .ok (.aaload, 1) := by decide +kernel
theorem d_K_find_21 : decode prog_1_method_21_code 21 = .ok (.astore_n 2, 1) := by decide +kernel
theorem d_K_find_22 : decode prog_1_method_21_code 22 = .ok (.aload_n 2, 1) := by decide +kernel
theorem d_K_find_23 : decode prog_1_method_21_code 23 = .ok (.getfield 98, 3) := by decide +kernel
theorem d_K_find_26 : decode prog_1_method_21_code 26 = .ok (.ifCond .ne 7, 3) := by decide +kernel
theorem d_K_find_29 : decode prog_1_method_21_code 29 = .ok (.aconst_null, 1) := by decide +kernel
theorem d_K_find_30 : decode prog_1_method_21_code 30 = .ok (.goto 4, 3) := by decide +kernel
theorem d_K_find_33 : decode prog_1_method_21_code 33 = .ok (.aload_n 2, 1) := by decide +kernel
theorem d_K_find_34 : decode prog_1_method_21_code 34 = .ok (.areturn, 1) := by decide +kernel
theorem d_K_allHaveEnded_0 : decode prog_1_method_22_code 0 = .ok (.iconst 0, 1) := by decide +kernel
theorem d_K_allHaveEnded_1 : decode prog_1_method_22_code 1 = .ok (.istore_n 1, 1) := by decide +kernel
theorem d_K_allHaveEnded_2 : decode prog_1_method_22_code 2 = .ok (.iload_n 1, 1) := by decide +kernel
theorem d_K_allHaveEnded_3 : decode prog_1_method_22_code 3 = .ok (.bipush 8, 2) := by decide +kernel
theorem d_K_allHaveEnded_5 : decode prog_1_method_22_code 5 = .ok (.if_icmp .ge 36, 3) := by decide +kernel
theorem d_K_allHaveEnded_8 : decode prog_1_method_22_code 8 = .ok (.aload_n 0, 1) := by decide +kernel
theorem d_K_allHaveEnded_9 : decode prog_1_method_22_code 9 = .ok (.getfield 28, 3) := by decide +kernel
theorem d_K_allHaveEnded_12 : decode prog_1_method_22_code 12 = .ok (.iload_n 1, 1) := by decide +kernel
theorem d_K_allHaveEnded_13 : decode prog_1_method_22_code 13 = .ok (.aaload, 1) := by decide +kernel
theorem d_K_allHaveEnded_14 : decode prog_1_method_22_code 14 = .ok (.getfield 98, 3) := by decide +kernel
theorem d_K_allHaveEnded_17 : decode prog_1_method_22_code 17 = .ok (.ifCond .eq 18, 3) := by decide +kernel
theorem d_K_allHaveEnded_20 : decode prog_1_method_22_code 20 = .ok (.aload_n 0, 1) := by decide +kernel
theorem d_K_allHaveEnded_21 : decode prog_1_method_22_code 21 = .ok (.getfield 28, 3) := by decide +kernel
theorem d_K_allHaveEnded_24 : decode prog_1_method_22_code 24 = .ok (.iload_n 1, 1) := by decide +kernel
theorem d_K_allHaveEnded_25 : decode prog_1_method_22_code 25 = .ok (.aaload, 1) := by decide +kernel
theorem d_K_allHaveEnded_26 : decode prog_1_method_22_code 26 = .ok (.getfield 98, 3) := by decide +kernel
theorem d_K_allHaveEnded_29 : decode prog_1_method_22_code 29 = .ok (.iconst 5, 1) := by decide +kernel
theorem d_K_allHaveEnded_30 : decode prog_1_method_22_code 30 = .ok (.if_icmp .eq 5, 3) := by decide +kernel
theorem d_K_allHaveEnded_33 : decode prog_1_method_22_code 33 = .ok (.iconst 0, 1) := by decide +kernel
theorem d_K_allHaveEnded_34 : decode prog_1_method_22_code 34 = .ok (.ireturn, 1) := by decide +kernel
theorem d_K_allHaveEnded_35 : decode prog_1_method_22_code 35 = .ok (.iinc 1 1, 3) := by decide +kernel
theorem d_K_allHaveEnded_38 : decode prog_1_method_22_code 38 = .ok (.goto (-36), 3) := by decide +kernel
theorem d_K_allHaveEnded_41 : decode prog_1_method_22_code 41 = .ok (.iconst 1, 1) := by decide +kernel
theorem d_K_allHaveEnded_42 : decode prog_1_method_22_code 42 = .ok (.ireturn, 1) := by decide +kernel
theorem d_K_makeReady_0 : decode prog_1_method_23_code 0 = .ok (.aload_n 1, 1) := by decide +kernel
theorem d_K_makeReady_1 : decode prog_1_method_23_code 1 = .ok (.iconst 1, 1) := by decide +kernel
theorem d_K_makeReady_2 : decode prog_1_method_23_code 2 = .ok (.putfield 98, 3) := by decide +kernel
theorem d_K_makeReady_5 : decode prog_1_method_23_code 5 = .ok (.aload_n 0, 1) := by decide +kernel
theorem d_K_makeReady_6 : decode prog_1_method_23_code 6 = .ok (.getfield 43, 3) := by decide +kernel
theorem d_K_makeReady_9 : decode prog_1_method_23_code 9 = .ok (.aload_n 1, 1) := by decide +kernel
theorem d_K_makeReady_10 : decode prog_1_method_23_code 10 = .ok (.getfield 140, 3) := by decide +kernel
theorem d_K_makeReady_13 : decode prog_1_method_23_code 13 = .ok (.invokevirtual 143, 3) := by decide +kernel
theorem d_K_makeReady_16 : decode prog_1_method_23_code 16 = .ok (.return_, 1) := by decide +kernel
theorem d_K_makeStep_0 : decode prog_1_method_24_code 0 = .ok (.aload_n 0, 1) := by decide +kernel
theorem d_K_makeStep_1 : decode prog_1_method_24_code 1 = .ok (.getfield 91, 3) := by decide +kernel
theorem d_K_makeStep_4 : decode prog_1_method_24_code 4 = .ok (.ifCond .ne 22, 3) := by decide +kernel
theorem d_K_makeStep_7 : decode prog_1_method_24_code 7 = .ok (.aload_n 0, 1) := by decide +kernel
theorem d_K_makeStep_8 : decode prog_1_method_24_code 8 = .ok (.aload_n 0, 1) := by decide +kernel
theorem d_K_makeStep_9 : decode prog_1_method_24_code 9 = .ok (.getfield 43, 3) := by decide +kernel
theorem d_K_makeStep_12 : decode prog_1_method_24_code 12 = .ok (.invokevirtual 146, 3) := by decide +kernel
theorem d_K_makeStep_15 : decode prog_1_method_24_code 15 = .ok (.putfield 91, 3) := by decide +kernel
theorem d_K_makeStep_18 : decode prog_1_method_24_code 18 = .ok (.aload_n 0, 1) := by decide +kernel
theorem d_K_makeStep_19 : decode prog_1_method_24_code 19 = .ok (.aload_n 0, 1) := by decide +kernel
theorem d_K_makeStep_20 : decode prog_1_method_24_code 20 = .ok (.getfield 22, 3) := by decide +kernel
theorem d_K_makeStep_23 : decode prog_1_method_24_code 23 = .ok (.putfield 149, 3) := by decide +kernel
theorem d_K_makeStep_26 : decode prog_1_method_24_code 26 = .ok (.aload_n 0, 1) := by decide +kernel
theorem d_K_makeStep_27 : decode prog_1_method_24_code 27 = .ok (.getfield 91, 3) := by decide +kernel
theorem d_K_makeStep_30 : decode prog_1_method_24_code 30 = .ok (.istore_n 1, 1) := by decide +kernel
theorem d_K_makeStep_31 : decode prog_1_method_24_code 31 = .ok (.aload_n 0, 1) := by decide +kernel
theorem d_K_makeStep_32 : decode prog_1_method_24_code 32 = .ok (.iload_n 1, 1) := by decide +kernel
theorem d_K_makeStep_33 : decode prog_1_method_24_code 33 = .ok (.invokevirtual 94, 3) := by decide +kernel
theorem d_K_makeStep_36 : decode prog_1_method_24_code 36 = .ok (.astore_n 2, 1) := by decide +kernel
theorem d_K_makeStep_37 : decode prog_1_method_24_code 37 = .ok (.aload_n 2, 1) := by decide +kernel
theorem d_K_makeStep_38 : decode prog_1_method_24_code 38 = .ok (.ifnonnull 5, 3) := by decide +kernel
theorem d_K_makeStep_41 : decode prog_1_method_24_code 41 = .ok (.iconst 0, 1) := by decide +kernel
theorem d_K_makeStep_42 : decode prog_1_method_24_code 42 = .ok (.ireturn, 1) := by decide +kernel
theorem d_K_makeStep_43 : decode prog_1_method_24_code 43 = .ok (.aload_n 0, 1) := by decide +kernel
theorem d_K_makeStep_44 : decode prog_1_method_24_code 44 = .ok (.iconst 0, 1) := by decide +kernel
theorem d_K_makeStep_45 : decode prog_1_method_24_code 45 = .ok (.putfield 152, 3) := by decide +kernel
theorem d_K_makeStep_48 : decode prog_1_method_24_code 48 = .ok (.aload_n 0, 1) := by decide +kernel
theorem d_K_makeStep_49 : decode prog_1_method_24_code 49 = .ok (.dup, 1) := by decide +kernel
theorem d_K_makeStep_50 : decode prog_1_method_24_code 50 = .ok (.getfield 149, 3) := by decide +kernel
theorem d_K_makeStep_53 : decode prog_1_method_24_code 53 = .ok (.iconst 1, 1) := by decide +kernel
theorem d_K_makeStep_54 : decode prog_1_method_24_code 54 = .ok (.isub, 1) := by decide +kernel
theorem d_K_makeStep_55 : decode prog_1_method_24_code 55 = .ok (.putfield 149, 3) := by decide +kernel
theorem d_K_makeStep_58 : decode prog_1_method_24_code 58 = .ok (.aload_n 0, 1) := by decide +kernel
theorem d_K_makeStep_59 : decode prog_1_method_24_code 59 = .ok (.getfield 18, 3) := by decide +kernel
theorem d_K_makeStep_62 : decode prog_1_method_24_code 62 = .ok (.aload_n 2, 1) := by decide +kernel
theorem d_K_makeStep_63 : decode prog_1_method_24_code 63 = .ok (.invokestatic 155, 3) := by decide +kernel
theorem d_K_makeStep_66 : decode prog_1_method_24_code 66 = .ok (.istore_n 3, 1) := by decide +kernel
theorem d_K_makeStep_67 : decode prog_1_method_24_code 67 = .ok (.iload_n 3, 1) := by decide +kernel
theorem d_K_makeStep_68 : decode prog_1_method_24_code 68 = .ok (.bipush (-2), 2) := by decide +kernel
theorem d_K_makeStep_70 : decode prog_1_method_24_code 70 = .ok (.if_icmp .ne 31, 3) := by decide +kernel
theorem d_K_makeStep_73 : decode prog_1_method_24_code 73 = .ok (.aload_n 0, 1) := by decide +kernel
theorem d_K_makeStep_74 : decode prog_1_method_24_code 74 = .ok (.aload_n 2, 1) := by decide +kernel
theorem d_K_makeStep_75 : decode prog_1_method_24_code 75 = .ok (.invokevirtual 161, 3) := by decide +kernel
theorem d_K_makeStep_78 : decode prog_1_method_24_code 78 = .ok (.ifCond .eq 23, 3) := by decide +kernel
theorem d_K_makeStep_81 : decode prog_1_method_24_code 81 = .ok (.aload_n 2, 1) := by decide +kernel
theorem d_K_makeStep_82 : decode prog_1_method_24_code 82 = .ok (.bipush 10, 2) := by decide +kernel
theorem d_K_makeStep_84 : decode prog_1_method_24_code 84 = .ok (.aload_n 0, 1) := by decide +kernel
theorem d_K_makeStep_85 : decode prog_1_method_24_code 85 = .ok (.aload_n 2, 1) := by decide +kernel
theorem d_K_makeStep_86 : decode prog_1_method_24_code 86 = .ok (.aload_n 2, 1) := by decide +kernel
theorem d_K_makeStep_87 : decode prog_1_method_24_code 87 = .ok (.bipush 10, 2) := by decide +kernel
theorem d_K_makeStep_89 : decode prog_1_method_24_code 89 = .ok (.invokevirtual 110, 3) := by decide +kernel
theorem d_K_makeStep_92 : decode prog_1_method_24_code 92 = .ok (.invokevirtual 165, 3) := by decide +kernel
theorem d_K_makeStep_95 : decode prog_1_method_24_code 95 = .ok (.invokevirtual 72, 3) := by decide +kernel
theorem d_K_makeStep_98 : decode prog_1_method_24_code 98 = .ok (.goto 17, 3) := by decide +kernel
theorem d_K_makeStep_101 : decode prog_1_method_24_code 101 = .ok (.iload_n 3, 1) := by decide +kernel
theorem d_K_makeStep_102 : decode prog_1_method_24_code 102 = .ok (.ifCond .lt 13, 3) := by decide +kernel
theorem d_K_makeStep_105 : decode prog_1_method_24_code 105 = .ok (.aload_n 0, 1) := by decide +kernel
theorem d_K_makeStep_106 : decode prog_1_method_24_code 106 = .ok (.aload_n 2, 1) := by decide +kernel
theorem d_K_makeStep_107 : decode prog_1_method_24_code 107 = .ok (.sipush 128, 3) := by decide +kernel
theorem d_K_makeStep_110 : decode prog_1_method_24_code 110 = .ok (.iload_n 3, 1) := by decide +kernel
theorem d_K_makeStep_111 : decode prog_1_method_24_code 111 = .ok (.iadd, 1) := by decide +kernel
theorem d_K_makeStep_112 : decode prog_1_method_24_code 112 = .ok (.invokevirtual 168, 3) := by decide +kernel
theorem d_K_makeStep_115 : decode prog_1_method_24_code 115 = .ok (.aload_n 0, 1) := by decide +kernel
theorem d_K_makeStep_116 : decode prog_1_method_24_code 116 = .ok (.aload_n 2, 1) := by decide +kernel
theorem d_K_makeStep_117 : decode prog_1_method_24_code 117 = .ok (.invokevirtual 171, 3) := by decide +kernel
theorem d_K_makeStep_120 : decode prog_1_method_24_code 120 = .ok (.aload_n 0, 1) := by decide +kernel
theorem d_K_makeStep_121 : decode prog_1_method_24_code 121 = .ok (.invokevirtual 174, 3) := by decide +kernel
theorem d_K_makeStep_124 : decode prog_1_method_24_code 124 = .ok (.iload_n 1, 1) := by decide +kernel
theorem d_K_makeStep_125 : decode prog_1_method_24_code 125 = .ok (.ireturn, 1) := by decide +kernel
