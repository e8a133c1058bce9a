theorem d_X_computeWithNumber_0 : decode prog_2_method_15_code 0 = .ok (.iload_n 1, 1) := by decide +kernel
theorem d_X_computeWithNumber_1 : decode prog_2_method_15_code 1 = .ok (.invokestatic 60, 3) := by decide +kernel
theorem d_X_computeWithNumber_4 : decode prog_2_method_15_code 4 = .ok (.istore_n 2, 1) := by decide +kernel
theorem d_X_computeWithNumber_5 : decode prog_2_method_15_code 5 = .ok (.aload_n 0, 1) := by decide +kernel
theorem d_X_computeWithNumber_6 : decode prog_2_method_15_code 6 = .ok (.iload_n 1, 1) := by decide +kernel
theorem d_X_computeWithNumber_7 : decode prog_2_method_15_code 7 = .ok (.invokestatic 75, 3) := by decide +kernel
theorem d_X_computeWithNumber_10 : decode prog_2_method_15_code 10 = .ok (.istore_n 3, 1) := by decide +kernel
theorem d_X_computeWithNumber_11 : decode prog_2_method_15_code 11 = .ok (.iload_n 1, 1) := by decide +kernel
theorem d_X_computeWithNumber_12 : decode prog_2_method_15_code 12 = .ok (.invokestatic 78, 3) := by decide +kernel
theorem d_X_computeWithNumber_15 : decode prog_2_method_15_code 15 = .ok (.istore 4, 2) := by decide +kernel
theorem d_X_computeWithNumber_17 : decode prog_2_method_15_code 17 = .ok (.iload_n 2, 1) := by decide +kernel
theorem d_X_computeWithNumber_18 : decode prog_2_method_15_code 18 = .ok (.iconst 5, 1) := by decide +kernel
theorem d_X_computeWithNumber_19 : decode prog_2_method_15_code 19 = .ok (.if_icmp .ne 25, 3) := by decide +kernel
theorem d_X_computeWithNumber_22 : decode prog_2_method_15_code 22 = .ok (.iload_n 1, 1) := by decide +kernel
theorem d_X_computeWithNumber_23 : decode prog_2_method_15_code 23 = .ok (.invokestatic 109, 3) := by decide +kernel
theorem d_X_computeWithNumber_26 : decode prog_2_method_15_code 26 = .ok (.bipush 32, 2) := by decide +kernel
theorem d_X_computeWithNumber_28 : decode prog_2_method_15_code 28 = .ok (.if_icmp .ne 16, 3) := by decide +kernel
theorem d_X_computeWithNumber_31 : decode prog_2_method_15_code 31 = .ok (.aload_n 0, 1) := by decide +kernel
theorem d_X_computeWithNumber_32 : decode prog_2_method_15_code 32 = .ok (.iload_n 1, 1) := by decide +kernel
theorem d_X_computeWithNumber_33 : decode prog_2_method_15_code 33 = .ok (.iload_n 3, 1) := by decide +kernel
theorem d_X_computeWithNumber_34 : decode prog_2_method_15_code 34 = .ok (.iload 4, 2) := by decide +kernel
theorem d_X_computeWithNumber_36 : decode prog_2_method_15_code 36 = .ok (.bipush 31, 2) := by decide +kernel
theorem d_X_computeWithNumber_38 : decode prog_2_method_15_code 38 = .ok (.iand, 1) := by decide +kernel
theorem d_X_computeWithNumber_39 : decode prog_2_method_15_code 39 = .ok (.ishr, 1) := by decide +kernel
theorem d_X_computeWithNumber_40 : decode prog_2_method_15_code 40 = .ok (.invokestatic 31, 3) := by decide +kernel
theorem d_X_computeWithNumber_43 : decode prog_2_method_15_code 43 = .ok (.ireturn, 1) := by decide +kernel
theorem d_X_computeWithNumber_44 : decode prog_2_method_15_code 44 = .ok (.iload_n 2, 1) := by decide +kernel
theorem d_X_computeWithNumber_45 : decode prog_2_method_15_code 45 = .ok (.iconst 1, 1) := by decide +kernel
theorem d_X_computeWithNumber_46 : decode prog_2_method_15_code 46 = .ok (.if_icmp .eq 8, 3) := by decide +kernel
theorem d_X_computeWithNumber_49 : decode prog_2_method_15_code 49 = .ok (.iload_n 2, 1) := by decide +kernel
theorem d_X_computeWithNumber_50 : decode prog_2_method_15_code 50 = .ok (.iconst 5, 1) := by decide +kernel
theorem d_X_computeWithNumber_51 : decode prog_2_method_15_code 51 = .ok (.if_icmp .ne 12, 3) := by decide +kernel
theorem d_X_computeWithNumber_54 : decode prog_2_method_15_code 54 = .ok (.iload_n 1, 1) := by decide +kernel
theorem d_X_computeWithNumber_55 : decode prog_2_method_15_code 55 = .ok (.invokestatic 109, 3) := by decide +kernel
theorem d_X_computeWithNumber_58 : decode prog_2_method_15_code 58 = .ok (.ifCond .eq 5, 3) := by decide +kernel
theorem d_X_computeWithNumber_61 : decode prog_2_method_15_code 61 = .ok (.iconst 2, 1) := by decide +kernel
theorem d_X_computeWithNumber_62 : decode prog_2_method_15_code 62 = .ok (.ireturn, 1) := by decide +kernel
theorem d_X_computeWithNumber_63 : decode prog_2_method_15_code 63 = .ok (.aload_n 0, 1) := by decide +kernel
theorem d_X_computeWithNumber_64 : decode prog_2_method_15_code 64 = .ok (.iload_n 1, 1) := by decide +kernel
theorem d_X_computeWithNumber_65 : decode prog_2_method_15_code 65 = .ok (.iload_n 2, 1) := by decide +kernel
theorem d_X_computeWithNumber_66 : decode prog_2_method_15_code 66 = .ok (.iload_n 3, 1) := by decide +kernel
theorem d_X_computeWithNumber_67 : decode prog_2_method_15_code 67 = .ok (.iload 4, 2) := by decide +kernel
theorem d_X_computeWithNumber_69 : decode prog_2_method_15_code 69 = .ok (.invokestatic 112, 3) := by decide +kernel
theorem d_X_computeWithNumber_72 : decode prog_2_method_15_code 72 = .ok (.invokestatic 31, 3) := by decide +kernel
theorem d_X_computeWithNumber_75 : decode prog_2_method_15_code 75 = .ok (.ireturn, 1) := by decide +kernel
theorem d_X_computeWithRegister_0 : decode prog_2_method_16_code 0 = .ok (.iload_n 1, 1) := by decide +kernel
theorem d_X_computeWithRegister_1 : decode prog_2_method_16_code 1 = .ok (.invokestatic 60, 3) := by decide +kernel
theorem d_X_computeWithRegister_4 : decode prog_2_method_16_code 4 = .ok (.istore_n 2, 1) := by decide +kernel
theorem d_X_computeWithRegister_5 : decode prog_2_method_16_code 5 = .ok (.aload_n 0, 1) := by decide +kernel
theorem d_X_computeWithRegister_6 : decode prog_2_method_16_code 6 = .ok (.iload_n 1, 1) := by decide +kernel
theorem d_X_computeWithRegister_7 : decode prog_2_method_16_code 7 = .ok (.invokestatic 75, 3) := by decide +kernel
theorem d_X_computeWithRegister_10 : decode prog_2_method_16_code 10 = .ok (.istore_n 3, 1) := by decide +kernel
theorem d_X_computeWithRegister_11 : decode prog_2_method_16_code 11 = .ok (.aload_n 0, 1) := by decide +kernel
theorem d_X_computeWithRegister_12 : decode prog_2_method_16_code 12 = .ok (.iload_n 1, 1) := by decide +kernel
theorem d_X_computeWithRegister_13 : decode prog_2_method_16_code 13 = .ok (.invokestatic 81, 3) := by decide +kernel
theorem d_X_computeWithRegister_16 : decode prog_2_method_16_code 16 = .ok (.istore 4, 2) := by decide +kernel
theorem d_X_computeWithRegister_18 : decode prog_2_method_16_code 18 = .ok (.iload_n 1, 1) := by decide +kernel
theorem d_X_computeWithRegister_19 : decode prog_2_method_16_code 19 = .ok (.invokestatic 109, 3) := by decide +kernel
theorem d_X_computeWithRegister_22 : decode prog_2_method_16_code 22 = .ok (.ifCond .ne 16, 3) := by decide +kernel
theorem d_X_computeWithRegister_25 : decode prog_2_method_16_code 25 = .ok (.aload_n 0, 1) := by decide +kernel
theorem d_X_computeWithRegister_26 : decode prog_2_method_16_code 26 = .ok (.iload_n 1, 1) := by decide +kernel
theorem d_X_computeWithRegister_27 : decode prog_2_method_16_code 27 = .ok (.iload_n 2, 1) := by decide +kernel
theorem d_X_computeWithRegister_28 : decode prog_2_method_16_code 28 = .ok (.iload_n 3, 1) := by decide +kernel
theorem d_X_computeWithRegister_29 : decode prog_2_method_16_code 29 = .ok (.iload 4, 2) := by decide +kernel
theorem d_X_computeWithRegister_31 : decode prog_2_method_16_code 31 = .ok (.invokestatic 112, 3) := by decide +kernel
theorem d_X_computeWithRegister_34 : decode prog_2_method_16_code 34 = .ok (.invokestatic 31, 3) := by decide +kernel
theorem d_X_computeWithRegister_37 : decode prog_2_method_16_code 37 = .ok (.ireturn, 1) := by decide +kernel
theorem d_X_computeWithRegister_38 : decode prog_2_method_16_code 38 = .ok (.iload_n 1, 1) := by decide +kernel
theorem d_X_computeWithRegister_39 : decode prog_2_method_16_code 39 = .ok (.invokestatic 109, 3) := by decide +kernel
theorem d_X_computeWithRegister_42 : decode prog_2_method_16_code 42 = .ok (.bipush 32, 2) := by decide +kernel
theorem d_X_computeWithRegister_44 : decode prog_2_method_16_code 44 = .ok (.if_icmp .ne 17, 3) := by decide +kernel
theorem d_X_computeWithRegister_47 : decode prog_2_method_16_code 47 = .ok (.iload_n 2, 1) := by decide +kernel
theorem d_X_computeWithRegister_48 : decode prog_2_method_16_code 48 = .ok (.ifCond .ne 13, 3) := by decide +kernel
theorem d_X_computeWithRegister_51 : decode prog_2_method_16_code 51 = .ok (.aload_n 0, 1) := by decide +kernel
theorem d_X_computeWithRegister_52 : decode prog_2_method_16_code 52 = .ok (.iload_n 1, 1) := by decide +kernel
theorem d_X_computeWithRegister_53 : decode prog_2_method_16_code 53 = .ok (.iload_n 3, 1) := by decide +kernel
theorem d_X_computeWithRegister_54 : decode prog_2_method_16_code 54 = .ok (.iload 4, 2) := by decide +kernel
theorem d_X_computeWithRegister_56 : decode prog_2_method_16_code 56 = .ok (.isub, 1) := by decide +kernel
theorem d_X_computeWithRegister_57 : decode prog_2_method_16_code 57 = .ok (.invokestatic 31, 3) := by decide +kernel
theorem d_X_computeWithRegister_60 : decode prog_2_method_16_code 60 = .ok (.ireturn, 1) := by decide +kernel
theorem d_X_computeWithRegister_61 : decode prog_2_method_16_code 61 = .ok (.iload_n 1, 1) := by decide +kernel
theorem d_X_computeWithRegister_62 : decode prog_2_method_16_code 62 = .ok (.invokestatic 109, 3) := by decide +kernel
theorem d_X_computeWithRegister_65 : decode prog_2_method_16_code 65 = .ok (.bipush 32, 2) := by decide +kernel
theorem d_X_computeWithRegister_67 : decode prog_2_method_16_code 67 = .ok (.if_icmp .ne 21, 3) := by decide +kernel
theorem d_X_computeWithRegister_70 : decode prog_2_method_16_code 70 = .ok (.iload_n 2, 1) := by decide +kernel
theorem d_X_computeWithRegister_71 : decode prog_2_method_16_code 71 = .ok (.iconst 5, 1) := by decide +kernel
theorem d_X_computeWithRegister_72 : decode prog_2_method_16_code 72 = .ok (.if_icmp .ne 16, 3) := by decide +kernel
theorem d_X_computeWithRegister_75 : decode prog_2_method_16_code 75 = .ok (.aload_n 0, 1) := by decide +kernel
theorem d_X_computeWithRegister_76 : decode prog_2_method_16_code 76 = .ok (.iload_n 1, 1) := by decide +kernel
theorem d_X_computeWithRegister_77 : decode prog_2_method_16_code 77 = .ok (.iload_n 3, 1) := by decide +kernel
theorem d_X_computeWithRegister_78 : decode prog_2_method_16_code 78 = .ok (.iload 4, 2) := by decide +kernel
theorem d_X_computeWithRegister_80 : decode prog_2_method_16_code 80 = .ok (.bipush 31, 2) := by decide +kernel
theorem d_X_computeWithRegister_82 : decode prog_2_method_16_code 82 = .ok (.iand, 1) := by decide +kernel
theorem d_X_computeWithRegister_83 : decode prog_2_method_16_code 83 = .ok (.ishr, 1) := by decide +kernel
theorem d_X_computeWithRegister_84 : decode prog_2_method_16_code 84 = .ok (.invokestatic 31, 3) := by decide +kernel
theorem d_X_computeWithRegister_87 : decode prog_2_method_16_code 87 = .ok (.ireturn, 1) := by decide +kernel
theorem d_X_computeWithRegister_88 : decode prog_2_method_16_code 88 = .ok (.iconst 2, 1) := by decide +kernel
theorem d_X_computeWithRegister_89 : decode prog_2_method_16_code 89 = .ok (.ireturn, 1) := by decide +kernel
theorem d_X_compute_0 : decode prog_2_method_17_code 0 = .ok (.iload_n 0, 1) := by decide +kernel
theorem d_X_compute_1 : decode prog_2_method_17_code 1 = .ok (.tableswitch 94 0 6 #[43, 47, 54, 65, 79, 83, 90], 43) := by decide +kernel
theorem d_X_compute_44 : decode prog_2_method_17_code 44 = .ok (.iload_n 1, 1) := by decide +kernel
theorem d_X_compute_45 : decode prog_2_method_17_code 45 = .ok (.iload_n 2, 1) := by decide +kernel
theorem d_X_compute_46 : decode prog_2_method_17_code 46 = .ok (.iadd, 1) := by decide +kernel
theorem d_X_compute_47 : decode prog_2_method_17_code 47 = .ok (.ireturn, 1) := by decide +kernel
theorem d_X_compute_48 : decode prog_2_method_17_code 48 = .ok (.iload_n 1, 1) := by decide +kernel
theorem d_X_compute_49 : decode prog_2_method_17_code 49 = .ok (.iload_n 2, 1) := by decide +kernel
theorem d_X_compute_50 : decode prog_2_method_17_code 50 = .ok (.bipush 31, 2) := by decide +kernel
theorem d_X_compute_52 : decode prog_2_method_17_code 52 = .ok (.iand, 1) := by decide +kernel
theorem d_X_compute_53 : decode prog_2_method_17_code 53 = .ok (.ishl, 1) := by decide +kernel
theorem d_X_compute_54 : decode prog_2_method_17_code 54 = .ok (.ireturn, 1) := by decide +kernel
theorem d_X_compute_55 : decode prog_2_method_17_code 55 = .ok (.iload_n 1, 1) := by decide +kernel
theorem d_X_compute_56 : decode prog_2_method_17_code 56 = .ok (.iload_n 2, 1) := by decide +kernel
theorem d_X_compute_57 : decode prog_2_method_17_code 57 = .ok (.if_icmp .ge 7, 3) := by decide +kernel
theorem d_X_compute_60 : decode prog_2_method_17_code 60 = .ok (.iconst 1, 1) := by decide +kernel
theorem d_X_compute_61 : decode prog_2_method_17_code 61 = .ok (.goto 4, 3) := by decide +kernel
theorem d_X_compute_64 : decode prog_2_method_17_code 64 = .ok (.iconst 0, 1) := by decide +kernel
theorem d_X_compute_65 : decode prog_2_method_17_code 65 = .ok (.ireturn, 1) := by decide +kernel
theorem d_X_compute_66 : decode prog_2_method_17_code 66 = .ok (.iload_n 1, 1) := by decide +kernel
theorem d_X_compute_67 : decode prog_2_method_17_code 67 = .ok (.iload_n 2, 1) := by decide +kernel
theorem d_X_compute_68 : decode prog_2_method_17_code 68 = .ok (.invokestatic 91, 3) := by decide +kernel
theorem d_X_compute_71 : decode prog_2_method_17_code 71 = .ok (.ifCond .eq 7, 3) := by decide +kernel
theorem d_X_compute_74 : decode prog_2_method_17_code 74 = .ok (.iconst 1, 1) := by decide +kernel
theorem d_X_compute_75 : decode prog_2_method_17_code 75 = .ok (.goto 4, 3) := by decide +kernel
theorem d_X_compute_78 : decode prog_2_method_17_code 78 = .ok (.iconst 0, 1) := by decide +kernel
theorem d_X_compute_79 : decode prog_2_method_17_code 79 = .ok (.ireturn, 1) := by decide +kernel
theorem d_X_compute_80 : decode prog_2_method_17_code 80 = .ok (.iload_n 1, 1) := by decide +kernel
theorem d_X_compute_81 : decode prog_2_method_17_code 81 = .ok (.iload_n 2, 1) := by decide +kernel
theorem d_X_compute_82 : decode prog_2_method_17_code 82 = .ok (.ixor, 1) := by decide +kernel
theorem d_X_compute_83 : decode prog_2_method_17_code 83 = .ok (.ireturn, 1) := by decide +kernel
theorem d_X_compute_84 : decode prog_2_method_17_code 84 = .ok (.iload_n 1, 1) := by decide +kernel
theorem d_X_compute_85 : decode prog_2_method_17_code 85 = .ok (.iload_n 2, 1) := by decide +kernel
theorem d_X_compute_86 : decode prog_2_method_17_code 86 = .ok (.bipush 31, 2) := by decide +kernel
theorem d_X_compute_88 : decode prog_2_method_17_code 88 = .ok (.iand, 1) := by decide +kernel
theorem d_X_compute_89 : decode prog_2_method_17_code 89 = .ok (.iushr, 1) := by decide +kernel
theorem d_X_compute_90 : decode prog_2_method_17_code 90 = .ok (.ireturn, 1) := by decide +kernel
theorem d_X_compute_91 : decode prog_2_method_17_code 91 = .ok (.iload_n 1, 1) := by decide +kernel
theorem d_X_compute_92 : decode prog_2_method_17_code 92 = .ok (.iload_n 2, 1) := by decide +kernel
theorem d_X_compute_93 : decode prog_2_method_17_code 93 = .ok (.ior, 1) := by decide +kernel
theorem d_X_compute_94 : decode prog_2_method_17_code 94 = .ok (.ireturn, 1) := by decide +kernel
theorem d_X_compute_95 : decode prog_2_method_17_code 95 = .ok (.iload_n 1, 1) := by decide +kernel
theorem d_X_compute_96 : decode prog_2_method_17_code 96 = .ok (.iload_n 2, 1) := by decide +kernel
theorem d_X_compute_97 : decode prog_2_method_17_code 97 = .ok (.iand, 1) := by decide +kernel
theorem d_X_compute_98 : decode prog_2_method_17_code 98 = .ok (.ireturn, 1) := by decide +kernel
theorem d_X_isBelow_0 : decode prog_2_method_18_code 0 = .ok (.iload_n 0, 1) := by decide +kernel
theorem d_X_isBelow_1 : decode prog_2_method_18_code 1 = .ok (.ldc 116, 2) := by decide +kernel
theorem d_X_isBelow_3 : decode prog_2_method_18_code 3 = .ok (.ixor, 1) := by decide +kernel
theorem d_X_isBelow_4 : decode prog_2_method_18_code 4 = .ok (.iload_n 1, 1) := by decide +kernel
theorem d_X_isBelow_5 : decode prog_2_method_18_code 5 = .ok (.ldc 116, 2) := by decide +kernel
theorem d_X_isBelow_7 : decode prog_2_method_18_code 7 = .ok (.ixor, 1) := by decide +kernel
theorem d_X_isBelow_8 : decode prog_2_method_18_code 8 = .ok (.if_icmp .ge 7, 3) := by decide +kernel
theorem d_X_isBelow_11 : decode prog_2_method_18_code 11 = .ok (.iconst 1, 1) := by decide +kernel
theorem d_X_isBelow_12 : decode prog_2_method_18_code 12 = .ok (.goto 4, 3) := by decide +kernel
theorem d_X_isBelow_15 : decode prog_2_method_18_code 15 = .ok (.iconst 0, 1) := by decide +kernel
theorem d_X_isBelow_16 : decode prog_2_method_18_code 16 = .ok (.ireturn, 1) := by decide +kernel
theorem d_X_first_0 : decode prog_2_method_19_code 0 = .ok (.aload_n 0, 1) := by decide +kernel
theorem d_X_first_1 : decode prog_2_method_19_code 1 = .ok (.iload_n 1, 1) := by decide +kernel
theorem d_X_first_2 : decode prog_2_method_19_code 2 = .ok (.bipush 15, 2) := by decide +kernel
theorem d_X_first_4 : decode prog_2_method_19_code 4 = .ok (.iushr, 1) := by decide +kernel
theorem d_X_first_5 : decode prog_2_method_19_code 5 = .ok (.bipush 31, 2) := by decide +kernel
theorem d_X_first_7 : decode prog_2_method_19_code 7 = .ok (.iand, 1) := by decide +kernel
theorem d_X_first_8 : decode prog_2_method_19_code 8 = .ok (.invokevirtual 117, 3) := by decide +kernel
theorem d_X_first_11 : decode prog_2_method_19_code 11 = .ok (.ireturn, 1) := by decide +kernel
theorem d_X_second_0 : decode prog_2_method_20_code 0 = .ok (.aload_n 0, 1) := by decide +kernel
theorem d_X_second_1 : decode prog_2_method_20_code 1 = .ok (.iload_n 1, 1) := by decide +kernel
theorem d_X_second_2 : decode prog_2_method_20_code 2 = .ok (.bipush 20, 2) := by decide +kernel
theorem d_X_second_4 : decode prog_2_method_20_code 4 = .ok (.iushr, 1) := by decide +kernel
theorem d_X_second_5 : decode prog_2_method_20_code 5 = .ok (.bipush 31, 2) := by decide +kernel
theorem d_X_second_7 : decode prog_2_method_20_code 7 = .ok (.iand, 1) := by decide +kernel
theorem d_X_second_8 : decode prog_2_method_20_code 8 = .ok (.invokevirtual 117, 3) := by decide +kernel
theorem d_X_second_11 : decode prog_2_method_20_code 11 = .ok (.ireturn, 1) := by decide +kernel
theorem d_X_selector_0 : decode prog_2_method_21_code 0 = .ok (.iload_n 0, 1) := by decide +kernel
theorem d_X_selector_1 : decode prog_2_method_21_code 1 = .ok (.bipush 12, 2) := by decide +kernel
theorem d_X_selector_3 : decode prog_2_method_21_code 3 = .ok (.iushr, 1) := by decide +kernel
theorem d_X_selector_4 : decode prog_2_method_21_code 4 = .ok (.bipush 7, 2) := by decide +kernel
theorem d_X_selector_6 : decode prog_2_method_21_code 6 = .ok (.iand, 1) := by decide +kernel
theorem d_X_selector_7 : decode prog_2_method_21_code 7 = .ok (.ireturn, 1) := by decide +kernel
theorem d_X_variant_0 : decode prog_2_method_22_code 0 = .ok (.iload_n 0, 1) := by decide +kernel
theorem d_X_variant_1 : decode prog_2_method_22_code 1 = .ok (.bipush 25, 2) := by decide +kernel
theorem d_X_variant_3 : decode prog_2_method_22_code 3 = .ok (.iushr, 1) := by decide +kernel
theorem d_X_variant_4 : decode prog_2_method_22_code 4 = .ok (.ireturn, 1) := by decide +kernel
theorem d_X_shortNumber_0 : decode prog_2_method_23_code 0 = .ok (.iload_n 0, 1) := by decide +kernel
theorem d_X_shortNumber_1 : decode prog_2_method_23_code 1 = .ok (.bipush 20, 2) := by decide +kernel
theorem d_X_shortNumber_3 : decode prog_2_method_23_code 3 = .ok (.ishr, 1) := by decide +kernel
theorem d_X_shortNumber_4 : decode prog_2_method_23_code 4 = .ok (.ireturn, 1) := by decide +kernel
theorem d_X_putNumber_0 : decode prog_2_method_24_code 0 = .ok (.iload_n 0, 1) := by decide +kernel
theorem d_X_putNumber_1 : decode prog_2_method_24_code 1 = .ok (.bipush 25, 2) := by decide +kernel
theorem d_X_putNumber_3 : decode prog_2_method_24_code 3 = .ok (.ishr, 1) := by decide +kernel
theorem d_X_putNumber_4 : decode prog_2_method_24_code 4 = .ok (.iconst 5, 1) := by decide +kernel
theorem d_X_putNumber_5 : decode prog_2_method_24_code 5 = .ok (.ishl, 1) := by decide +kernel
theorem d_X_putNumber_6 : decode prog_2_method_24_code 6 = .ok (.iload_n 0, 1) := by decide +kernel
theorem d_X_putNumber_7 : decode prog_2_method_24_code 7 = .ok (.bipush 7, 2) := by decide +kernel
theorem d_X_putNumber_9 : decode prog_2_method_24_code 9 = .ok (.iushr, 1) := by decide +kernel
theorem d_X_putNumber_10 : decode prog_2_method_24_code 10 = .ok (.bipush 31, 2) := by decide +kernel
theorem d_X_putNumber_12 : decode prog_2_method_24_code 12 = .ok (.iand, 1) := by decide +kernel
theorem d_X_putNumber_13 : decode prog_2_method_24_code 13 = .ok (.ior, 1) := by decide +kernel
theorem d_X_putNumber_14 : decode prog_2_method_24_code 14 = .ok (.ireturn, 1) := by decide +kernel
theorem d_X_branchNumber_0 : decode prog_2_method_25_code 0 = .ok (.iload_n 0, 1) := by decide +kernel
theorem d_X_branchNumber_1 : decode prog_2_method_25_code 1 = .ok (.bipush 31, 2) := by decide +kernel
theorem d_X_branchNumber_3 : decode prog_2_method_25_code 3 = .ok (.ishr, 1) := by decide +kernel
theorem d_X_branchNumber_4 : decode prog_2_method_25_code 4 = .ok (.bipush 12, 2) := by decide +kernel
theorem d_X_branchNumber_6 : decode prog_2_method_25_code 6 = .ok (.ishl, 1) := by decide +kernel
theorem d_X_branchNumber_7 : decode prog_2_method_25_code 7 = .ok (.iload_n 0, 1) := by decide +kernel
theorem d_X_branchNumber_8 : decode prog_2_method_25_code 8 = .ok (.bipush 7, 2) := by decide +kernel
theorem d_X_branchNumber_10 : decode prog_2_method_25_code 10 = .ok (.iushr, 1) := by decide +kernel
theorem d_X_branchNumber_11 : decode prog_2_method_25_code 11 = .ok (.iconst 1, 1) := by decide +kernel
theorem d_X_branchNumber_12 : decode prog_2_method_25_code 12 = .ok (.iand, 1) := by decide +kernel
theorem d_X_branchNumber_13 : decode prog_2_method_25_code 13 = .ok (.bipush 11, 2) := by decide +kernel
theorem d_X_branchNumber_15 : decode prog_2_method_25_code 15 = .ok (.ishl, 1) := by decide +kernel
theorem d_X_branchNumber_16 : decode prog_2_method_25_code 16 = .ok (.ior, 1) := by decide +kernel
theorem d_X_branchNumber_17 : decode prog_2_method_25_code 17 = .ok (.istore_n 1, 1) := by decide +kernel
theorem d_X_branchNumber_18 : decode prog_2_method_25_code 18 = .ok (.iload_n 1, 1) := by decide +kernel
theorem d_X_branchNumber_19 : decode prog_2_method_25_code 19 = .ok (.iload_n 0, 1) := by decide +kernel
theorem d_X_branchNumber_20 : decode prog_2_method_25_code 20 = .ok (.bipush 25, 2) := by decide +kernel
theorem d_X_branchNumber_22 : decode prog_2_method_25_code 22 = .ok (.iushr, 1) := by decide +kernel
theorem d_X_branchNumber_23 : decode prog_2_method_25_code 23 = .ok (.bipush 63, 2) := by decide +kernel
theorem d_X_branchNumber_25 : decode prog_2_method_25_code 25 = .ok (.iand, 1) := by decide +kernel
theorem d_X_branchNumber_26 : decode prog_2_method_25_code 26 = .ok (.iconst 5, 1) := by decide +kernel
theorem d_X_branchNumber_27 : decode prog_2_method_25_code 27 = .ok (.ishl, 1) := by decide +kernel
theorem d_X_branchNumber_28 : decode prog_2_method_25_code 28 = .ok (.ior, 1) := by decide +kernel
theorem d_X_branchNumber_29 : decode prog_2_method_25_code 29 = .ok (.iload_n 0, 1) := by decide +kernel
theorem d_X_branchNumber_30 : decode prog_2_method_25_code 30 = .ok (.bipush 8, 2) := by decide +kernel
theorem d_X_branchNumber_32 : decode prog_2_method_25_code 32 = .ok (.iushr, 1) := by decide +kernel
theorem d_X_branchNumber_33 : decode prog_2_method_25_code 33 = .ok (.bipush 15, 2) := by decide +kernel
theorem d_X_branchNumber_35 : decode prog_2_method_25_code 35 = .ok (.iand, 1) := by decide +kernel
theorem d_X_branchNumber_36 : decode prog_2_method_25_code 36 = .ok (.iconst 1, 1) := by decide +kernel
theorem d_X_branchNumber_37 : decode prog_2_method_25_code 37 = .ok (.ishl, 1) := by decide +kernel
theorem d_X_branchNumber_38 : decode prog_2_method_25_code 38 = .ok (.ior, 1) := by decide +kernel
theorem d_X_branchNumber_39 : decode prog_2_method_25_code 39 = .ok (.ireturn, 1) := by decide +kernel
theorem d_X_jumpNumber_0 : decode prog_2_method_26_code 0 = .ok (.iload_n 0, 1) := by decide +kernel
theorem d_X_jumpNumber_1 : decode prog_2_method_26_code 1 = .ok (.bipush 31, 2) := by decide +kernel
theorem d_X_jumpNumber_3 : decode prog_2_method_26_code 3 = .ok (.ishr, 1) := by decide +kernel
theorem d_X_jumpNumber_4 : decode prog_2_method_26_code 4 = .ok (.bipush 20, 2) := by decide +kernel
theorem d_X_jumpNumber_6 : decode prog_2_method_26_code 6 = .ok (.ishl, 1) := by decide +kernel
theorem d_X_jumpNumber_7 : decode prog_2_method_26_code 7 = .ok (.iload_n 0, 1) := by decide +kernel
theorem d_X_jumpNumber_8 : decode prog_2_method_26_code 8 = .ok (.ldc 120, 2) := by decide +kernel
theorem d_X_jumpNumber_10 : decode prog_2_method_26_code 10 = .ok (.iand, 1) := by decide +kernel
theorem d_X_jumpNumber_11 : decode prog_2_method_26_code 11 = .ok (.ior, 1) := by decide +kernel
theorem d_X_jumpNumber_12 : decode prog_2_method_26_code 12 = .ok (.istore_n 1, 1) := by decide +kernel
theorem d_X_jumpNumber_13 : decode prog_2_method_26_code 13 = .ok (.iload_n 1, 1) := by decide +kernel
theorem d_X_jumpNumber_14 : decode prog_2_method_26_code 14 = .ok (.iload_n 0, 1) := by decide +kernel
theorem d_X_jumpNumber_15 : decode prog_2_method_26_code 15 = .ok (.bipush 20, 2) := by decide +kernel
theorem d_X_jumpNumber_17 : decode prog_2_method_26_code 17 = .ok (.iushr, 1) := by decide +kernel
theorem d_X_jumpNumber_18 : decode prog_2_method_26_code 18 = .ok (.iconst 1, 1) := by decide +kernel
theorem d_X_jumpNumber_19 : decode prog_2_method_26_code 19 = .ok (.iand, 1) := by decide +kernel
theorem d_X_jumpNumber_20 : decode prog_2_method_26_code 20 = .ok (.bipush 11, 2) := by decide +kernel
theorem d_X_jumpNumber_22 : decode prog_2_method_26_code 22 = .ok (.ishl, 1) := by decide +kernel
theorem d_X_jumpNumber_23 : decode prog_2_method_26_code 23 = .ok (.ior, 1) := by decide +kernel
theorem d_X_jumpNumber_24 : decode prog_2_method_26_code 24 = .ok (.iload_n 0, 1) := by decide +kernel
theorem d_X_jumpNumber_25 : decode prog_2_method_26_code 25 = .ok (.bipush 21, 2) := by decide +kernel
theorem d_X_jumpNumber_27 : decode prog_2_method_26_code 27 = .ok (.iushr, 1) := by decide +kernel
theorem d_X_jumpNumber_28 : decode prog_2_method_26_code 28 = .ok (.sipush 1023, 3) := by decide +kernel
theorem d_X_jumpNumber_31 : decode prog_2_method_26_code 31 = .ok (.iand, 1) := by decide +kernel
theorem d_X_jumpNumber_32 : decode prog_2_method_26_code 32 = .ok (.iconst 1, 1) := by decide +kernel
theorem d_X_jumpNumber_33 : decode prog_2_method_26_code 33 = .ok (.ishl, 1) := by decide +kernel
theorem d_X_jumpNumber_34 : decode prog_2_method_26_code 34 = .ok (.ior, 1) := by decide +kernel
theorem d_X_jumpNumber_35 : decode prog_2_method_26_code 35 = .ok (.ireturn, 1) := by decide +kernel
theorem d_X_upperNumber_0 : decode prog_2_method_27_code 0 = .ok (.iload_n 0, 1) := by decide +kernel
theorem d_X_upperNumber_1 : decode prog_2_method_27_code 1 = .ok (.sipush (-4096), 3) := by decide +kernel
theorem d_X_upperNumber_4 : decode prog_2_method_27_code 4 = .ok (.iand, 1) := by decide +kernel
theorem d_X_upperNumber_5 : decode prog_2_method_27_code 5 = .ok (.ireturn, 1) := by decide +kernel
theorem d_MEM_init_0 : decode prog_3_method_1_code 0 = .ok (.aload_n 0, 1) := by decide +kernel
theorem d_MEM_init_1 : decode prog_3_method_1_code 1 = .ok (.invokespecial 3, 3) := by decide +kernel
theorem d_MEM_init_4 : decode prog_3_method_1_code 4 = .ok (.aload_n 0, 1) := by decide +kernel
theorem d_MEM_init_5 : decode prog_3_method_1_code 5 = .ok (.iload_n 1, 1) := by decide +kernel
theorem d_MEM_init_6 : decode prog_3_method_1_code 6 = .ok (.bipush 16, 2) := by decide +kernel
theorem d_MEM_init_8 : decode prog_3_method_1_code 8 = .ok (.imul, 1) := by decide +kernel
theorem d_MEM_init_9 : decode prog_3_method_1_code 9 = .ok (.newarray .int, 2) := by decide +kernel
theorem d_MEM_init_11 : decode prog_3_method_1_code 11 = .ok (.putfield 9, 3) := by decide +kernel
theorem d_MEM_init_14 : decode prog_3_method_1_code 14 = .ok (.aload_n 0, 1) := by decide +kernel
theorem d_MEM_init_15 : decode prog_3_method_1_code 15 = .ok (.iload_n 1, 1) := by decide +kernel
theorem d_MEM_init_16 : decode prog_3_method_1_code 16 = .ok (.newarray .boolean, 2) := by decide +kernel
theorem d_MEM_init_18 : decode prog_3_method_1_code 18 = .ok (.putfield 15, 3) := by decide +kernel
theorem d_MEM_init_21 : decode prog_3_method_1_code 21 = .ok (.aload_n 0, 1) := by decide +kernel
theorem d_MEM_init_22 : decode prog_3_method_1_code 22 = .ok (.iload_n 1, 1) := by decide +kernel
theorem d_MEM_init_23 : decode prog_3_method_1_code 23 = .ok (.putfield 19, 3) := by decide +kernel
theorem d_MEM_init_26 : decode prog_3_method_1_code 26 = .ok (.return_, 1) := by decide +kernel
theorem d_MEM_give_0 : decode prog_3_method_2_code 0 = .ok (.iconst 0, 1) := by decide +kernel
theorem d_MEM_give_1 : decode prog_3_method_2_code 1 = .ok (.istore_n 3, 1) := by decide +kernel
theorem d_MEM_give_2 : decode prog_3_method_2_code 2 = .ok (.iconst 0, 1) := by decide +kernel
theorem d_MEM_give_3 : decode prog_3_method_2_code 3 = .ok (.istore 4, 2) := by decide +kernel
theorem d_MEM_give_5 : decode prog_3_method_2_code 5 = .ok (.iload 4, 2) := by decide +kernel
theorem d_MEM_give_7 : decode prog_3_method_2_code 7 = .ok (.aload_n 0, 1) := by decide +kernel
theorem d_MEM_give_8 : decode prog_3_method_2_code 8 = .ok (.getfield 15, 3) := by decide +kernel
theorem d_MEM_give_11 : decode prog_3_method_2_code 11 = .ok (.arraylength, 1) := by decide +kernel
theorem d_MEM_give_12 : decode prog_3_method_2_code 12 = .ok (.if_icmp .ge 81, 3) := by decide +kernel
theorem d_MEM_give_15 : decode prog_3_method_2_code 15 = .ok (.iload_n 3, 1) := by decide +kernel
theorem d_MEM_give_16 : decode prog_3_method_2_code 16 = .ok (.iload_n 2, 1) := by decide +kernel
theorem d_MEM_give_17 : decode prog_3_method_2_code 17 = .ok (.if_icmp .ge 76, 3) := by decide +kernel
theorem d_MEM_give_20 : decode prog_3_method_2_code 20 = .ok (.aload_n 1, 1) := by decide +kernel
theorem d_MEM_give_21 : decode prog_3_method_2_code 21 = .ok (.getfield 23, 3) := by decide +kernel
theorem d_MEM_give_24 : decode prog_3_method_2_code 24 = .ok (.bipush 8, 2) := by decide +kernel
theorem d_MEM_give_26 : decode prog_3_method_2_code 26 = .ok (.if_icmp .ge 67, 3) := by decide +kernel
theorem d_MEM_give_29 : decode prog_3_method_2_code 29 = .ok (.aload_n 0, 1) := by decide +kernel
theorem d_MEM_give_30 : decode prog_3_method_2_code 30 = .ok (.getfield 15, 3) := by decide +kernel
theorem d_MEM_give_33 : decode prog_3_method_2_code 33 = .ok (.iload 4, 2) := by decide +kernel
theorem d_MEM_give_35 : decode prog_3_method_2_code 35 = .ok (.baload, 1) := by decide +kernel
theorem d_MEM_give_36 : decode prog_3_method_2_code 36 = .ok (.ifCond .ne 51, 3) := by decide +kernel
theorem d_MEM_give_39 : decode prog_3_method_2_code 39 = .ok (.aload_n 0, 1) := by decide +kernel
theorem d_MEM_give_40 : decode prog_3_method_2_code 40 = .ok (.getfield 15, 3) := by decide +kernel
theorem d_MEM_give_43 : decode prog_3_method_2_code 43 = .ok (.iload 4, 2) := by decide +kernel
theorem d_MEM_give_45 : decode prog_3_method_2_code 45 = .ok (.iconst 1, 1) := by decide +kernel
theorem d_MEM_give_46 : decode prog_3_method_2_code 46 = .ok (.bastore, 1) := by decide +kernel
theorem d_MEM_give_47 : decode prog_3_method_2_code 47 = .ok (.aload_n 0, 1) := by decide +kernel
theorem d_MEM_give_48 : decode prog_3_method_2_code 48 = .ok (.dup, 1) := by decide +kernel
theorem d_MEM_give_49 : decode prog_3_method_2_code 49 = .ok (.getfield 19, 3) := by decide +kernel
theorem d_MEM_give_52 : decode prog_3_method_2_code 52 = .ok (.iconst 1, 1) := by decide +kernel
theorem d_MEM_give_53 : decode prog_3_method_2_code 53 = .ok (.isub, 1) := by decide +kernel
theorem d_MEM_give_54 : decode prog_3_method_2_code 54 = .ok (.putfield 19, 3) := by decide +kernel
theorem d_MEM_give_57 : decode prog_3_method_2_code 57 = .ok (.aload_n 0, 1) := by decide +kernel
theorem d_MEM_give_58 : decode prog_3_method_2_code 58 = .ok (.iload 4, 2) := by decide +kernel
theorem d_MEM_give_60 : decode prog_3_method_2_code 60 = .ok (.invokevirtual 28, 3) := by decide +kernel
theorem d_MEM_give_63 : decode prog_3_method_2_code 63 = .ok (.aload_n 1, 1) := by decide +kernel
theorem d_MEM_give_64 : decode prog_3_method_2_code 64 = .ok (.getfield 32, 3) := by decide +kernel
theorem d_MEM_give_67 : decode prog_3_method_2_code 67 = .ok (.aload_n 1, 1) := by decide +kernel
theorem d_MEM_give_68 : decode prog_3_method_2_code 68 = .ok (.getfield 23, 3) := by decide +kernel
theorem d_MEM_give_71 : decode prog_3_method_2_code 71 = .ok (.iload 4, 2) := by decide +kernel
theorem d_MEM_give_73 : decode prog_3_method_2_code 73 = .ok (.iastore, 1) := by decide +kernel
theorem d_MEM_give_74 : decode prog_3_method_2_code 74 = .ok (.aload_n 1, 1) := by decide +kernel
theorem d_MEM_give_75 : decode prog_3_method_2_code 75 = .ok (.dup, 1) := by decide +kernel
theorem d_MEM_give_76 : decode prog_3_method_2_code 76 = .ok (.getfield 23, 3) := by decide +kernel
theorem d_MEM_give_79 : decode prog_3_method_2_code 79 = .ok (.iconst 1, 1) := by decide +kernel
theorem d_MEM_give_80 : decode prog_3_method_2_code 80 = .ok (.iadd, 1) := by decide +kernel
theorem d_MEM_give_81 : decode prog_3_method_2_code 81 = .ok (.putfield 23, 3) := by decide +kernel
theorem d_MEM_give_84 : decode prog_3_method_2_code 84 = .ok (.iinc 3 1, 3) := by decide +kernel
theorem d_MEM_give_87 : decode prog_3_method_2_code 87 = .ok (.iinc 4 1, 3) := by decide +kernel
theorem d_MEM_give_90 : decode prog_3_method_2_code 90 = .ok (.goto (-85), 3) := by decide +kernel
theorem d_MEM_give_93 : decode prog_3_method_2_code 93 = .ok (.return_, 1) := by decide +kernel
theorem d_MEM_takeBack_0 : decode prog_3_method_3_code 0 = .ok (.iconst 0, 1) := by decide +kernel
theorem d_MEM_takeBack_1 : decode prog_3_method_3_code 1 = .ok (.istore_n 2, 1) := by decide +kernel
theorem d_MEM_takeBack_2 : decode prog_3_method_3_code 2 = .ok (.iload_n 2, 1) := by decide +kernel
theorem d_MEM_takeBack_3 : decode prog_3_method_3_code 3 = .ok (.aload_n 1, 1) := by decide +kernel
theorem d_MEM_takeBack_4 : decode prog_3_method_3_code 4 = .ok (.getfield 23, 3) := by decide +kernel
theorem d_MEM_takeBack_7 : decode prog_3_method_3_code 7 = .ok (.if_icmp .ge 31, 3) := by decide +kernel
theorem d_MEM_takeBack_10 : decode prog_3_method_3_code 10 = .ok (.aload_n 0, 1) := by decide +kernel
theorem d_MEM_takeBack_11 : decode prog_3_method_3_code 11 = .ok (.getfield 15, 3) := by decide +kernel
theorem d_MEM_takeBack_14 : decode prog_3_method_3_code 14 = .ok (.aload_n 1, 1) := by decide +kernel
theorem d_MEM_takeBack_15 : decode prog_3_method_3_code 15 = .ok (.getfield 32, 3) := by decide +kernel
theorem d_MEM_takeBack_18 : decode prog_3_method_3_code 18 = .ok (.iload_n 2, 1) := by decide +kernel
theorem d_MEM_takeBack_19 : decode prog_3_method_3_code 19 = .ok (.iaload, 1) := by decide +kernel
theorem d_MEM_takeBack_20 : decode prog_3_method_3_code 20 = .ok (.iconst 0, 1) := by decide +kernel
theorem d_MEM_takeBack_21 : decode prog_3_method_3_code 21 = .ok (.bastore, 1) := by decide +kernel
theorem d_MEM_takeBack_22 : decode prog_3_method_3_code 22 = .ok (.aload_n 0, 1) := by decide +kernel
theorem d_MEM_takeBack_23 : decode prog_3_method_3_code 23 = .ok (.dup, 1) := by decide +kernel
theorem d_MEM_takeBack_24 : decode prog_3_method_3_code 24 = .ok (.getfield 19, 3) := by decide +kernel
theorem d_MEM_takeBack_27 : decode prog_3_method_3_code 27 = .ok (.iconst 1, 1) := by decide +kernel
theorem d_MEM_takeBack_28 : decode prog_3_method_3_code 28 = .ok (.iadd, 1) := by decide +kernel
theorem d_MEM_takeBack_29 : decode prog_3_method_3_code 29 = .ok (.putfield 19, 3) := by decide +kernel
theorem d_MEM_takeBack_32 : decode prog_3_method_3_code 32 = .ok (.iinc 2 1, 3) := by decide +kernel
theorem d_MEM_takeBack_35 : decode prog_3_method_3_code 35 = .ok (.goto (-33), 3) := by decide +kernel
theorem d_MEM_takeBack_38 : decode prog_3_method_3_code 38 = .ok (.aload_n 1, 1) := by decide +kernel
theorem d_MEM_takeBack_39 : decode prog_3_method_3_code 39 = .ok (.iconst 0, 1) := by decide +kernel
theorem d_MEM_takeBack_40 : decode prog_3_method_3_code 40 = .ok (.putfield 23, 3) := by decide +kernel
theorem d_MEM_takeBack_43 : decode prog_3_method_3_code 43 = .ok (.return_, 1) := by decide +kernel
theorem d_MEM_copyPages_0 : decode prog_3_method_4_code 0 = .ok (.iconst 0, 1) := by decide +kernel
theorem d_MEM_copyPages_1 : decode prog_3_method_4_code 1 = .ok (.istore_n 3, 1) := by decide +kernel
theorem d_MEM_copyPages_2 : decode prog_3_method_4_code 2 = .ok (.iload_n 3, 1) := by decide +kernel
theorem d_MEM_copyPages_3 : decode prog_3_method_4_code 3 = .ok (.aload_n 1, 1) := by decide +kernel
theorem d_MEM_copyPages_4 : decode prog_3_method_4_code 4 = .ok (.getfield 23, 3) := by decide +kernel
theorem d_MEM_copyPages_7 : decode prog_3_method_4_code 7 = .ok (.if_icmp .ge 56, 3) := by decide +kernel
theorem d_MEM_copyPages_10 : decode prog_3_method_4_code 10 = .ok (.iload_n 3, 1) := by decide +kernel
theorem d_MEM_copyPages_11 : decode prog_3_method_4_code 11 = .ok (.aload_n 2, 1) := by decide +kernel
theorem d_MEM_copyPages_12 : decode prog_3_method_4_code 12 = .ok (.getfield 23, 3) := by decide +kernel
theorem d_MEM_copyPages_15 : decode prog_3_method_4_code 15 = .ok (.if_icmp .ge 48, 3) := by decide +kernel
theorem d_MEM_copyPages_18 : decode prog_3_method_4_code 18 = .ok (.aload_n 1, 1) := by decide +kernel
theorem d_MEM_copyPages_19 : decode prog_3_method_4_code 19 = .ok (.getfield 32, 3) := by decide +kernel
theorem d_MEM_copyPages_22 : decode prog_3_method_4_code 22 = .ok (.iload_n 3, 1) := by decide +kernel
theorem d_MEM_copyPages_23 : decode prog_3_method_4_code 23 = .ok (.iaload, 1) := by decide +kernel
theorem d_MEM_copyPages_24 : decode prog_3_method_4_code 24 = .ok (.bipush 16, 2) := by decide +kernel
theorem d_MEM_copyPages_26 : decode prog_3_method_4_code 26 = .ok (.imul, 1) := by decide +kernel
theorem d_MEM_copyPages_27 : decode prog_3_method_4_code 27 = .ok (.istore 4, 2) := by decide +kernel
theorem d_MEM_copyPages_29 : decode prog_3_method_4_code 29 = .ok (.aload_n 2, 1) := by decide +kernel
theorem d_MEM_copyPages_30 : decode prog_3_method_4_code 30 = .ok (.getfield 32, 3) := by decide +kernel
theorem d_MEM_copyPages_33 : decode prog_3_method_4_code 33 = .ok (.iload_n 3, 1) := by decide +kernel
theorem d_MEM_copyPages_34 : decode prog_3_method_4_code 34 = .ok (.iaload, 1) := by decide +kernel
theorem d_MEM_copyPages_35 : decode prog_3_method_4_code 35 = .ok (.bipush 16, 2) := by decide +kernel
theorem d_MEM_copyPages_37 : decode prog_3_method_4_code 37 = .ok (.imul, 1) := by decide +kernel
theorem d_MEM_copyPages_38 : decode prog_3_method_4_code 38 = .ok (.istore 5, 2) := by decide +kernel
theorem d_MEM_copyPages_40 : decode prog_3_method_4_code 40 = .ok (.aload_n 0, 1) := by decide +kernel
theorem d_MEM_copyPages_41 : decode prog_3_method_4_code 41 = .ok (.getfield 9, 3) := by decide +kernel
theorem d_MEM_copyPages_44 : decode prog_3_method_4_code 44 = .ok (.iload 4, 2) := by decide +kernel
theorem d_MEM_copyPages_46 : decode prog_3_method_4_code 46 = .ok (.aload_n 0, 1) := by decide +kernel
theorem d_MEM_copyPages_47 : decode prog_3_method_4_code 47 = .ok (.getfield 9, 3) := by decide +kernel
theorem d_MEM_copyPages_50 : decode prog_3_method_4_code 50 = .ok (.iload 5, 2) := by decide +kernel
theorem d_MEM_copyPages_52 : decode prog_3_method_4_code 52 = .ok (.bipush 16, 2) := by decide +kernel
theorem d_MEM_copyPages_54 : decode prog_3_method_4_code 54 = .ok (.invokestatic 35, 3) := by decide +kernel
theorem d_MEM_copyPages_57 : decode prog_3_method_4_code 57 = .ok (.iinc 3 1, 3) := by decide +kernel
theorem d_MEM_copyPages_60 : decode prog_3_method_4_code 60 = .ok (.goto (-58), 3) := by decide +kernel
theorem d_MEM_copyPages_63 : decode prog_3_method_4_code 63 = .ok (.return_, 1) := by decide +kernel
theorem d_MEM_copyProgram_0 : decode prog_3_method_5_code 0 = .ok (.iconst 0, 1) := by decide +kernel
theorem d_MEM_copyProgram_1 : decode prog_3_method_5_code 1 = .ok (.istore 4, 2) := by decide +kernel
theorem d_MEM_copyProgram_3 : decode prog_3_method_5_code 3 = .ok (.iload 4, 2) := by decide +kernel
theorem d_MEM_copyProgram_5 : decode prog_3_method_5_code 5 = .ok (.iload_n 3, 1) := by decide +kernel
theorem d_MEM_copyProgram_6 : decode prog_3_method_5_code 6 = .ok (.if_icmp .ge 37, 3) := by decide +kernel
theorem d_MEM_copyProgram_9 : decode prog_3_method_5_code 9 = .ok (.aload_n 0, 1) := by decide +kernel
theorem d_MEM_copyProgram_10 : decode prog_3_method_5_code 10 = .ok (.aload_n 1, 1) := by decide +kernel
theorem d_MEM_copyProgram_11 : decode prog_3_method_5_code 11 = .ok (.iconst 4, 1) := by decide +kernel
theorem d_MEM_copyProgram_12 : decode prog_3_method_5_code 12 = .ok (.iload 4, 2) := by decide +kernel
theorem d_MEM_copyProgram_14 : decode prog_3_method_5_code 14 = .ok (.imul, 1) := by decide +kernel
theorem d_MEM_copyProgram_15 : decode prog_3_method_5_code 15 = .ok (.invokevirtual 41, 3) := by decide +kernel
theorem d_MEM_copyProgram_18 : decode prog_3_method_5_code 18 = .ok (.istore 5, 2) := by decide +kernel
theorem d_MEM_copyProgram_20 : decode prog_3_method_5_code 20 = .ok (.iload 5, 2) := by decide +kernel
theorem d_MEM_copyProgram_22 : decode prog_3_method_5_code 22 = .ok (.iconst (-1), 1) := by decide +kernel
theorem d_MEM_copyProgram_23 : decode prog_3_method_5_code 23 = .ok (.if_icmp .eq 14, 3) := by decide +kernel
theorem d_MEM_copyProgram_26 : decode prog_3_method_5_code 26 = .ok (.aload_n 0, 1) := by decide +kernel
theorem d_MEM_copyProgram_27 : decode prog_3_method_5_code 27 = .ok (.getfield 9, 3) := by decide +kernel
theorem d_MEM_copyProgram_30 : decode prog_3_method_5_code 30 = .ok (.iload 5, 2) := by decide +kernel
theorem d_MEM_copyProgram_32 : decode prog_3_method_5_code 32 = .ok (.aload_n 2, 1) := by decide +kernel
theorem d_MEM_copyProgram_33 : decode prog_3_method_5_code 33 = .ok (.iload 4, 2) := by decide +kernel
theorem d_MEM_copyProgram_35 : decode prog_3_method_5_code 35 = .ok (.iaload, 1) := by decide +kernel
theorem d_MEM_copyProgram_36 : decode prog_3_method_5_code 36 = .ok (.iastore, 1) := by decide +kernel
theorem d_MEM_copyProgram_37 : decode prog_3_method_5_code 37 = .ok (.iinc 4 1, 3) := by decide +kernel
theorem d_MEM_copyProgram_40 : decode prog_3_method_5_code 40 = .ok (.goto (-37), 3) := by decide +kernel
theorem d_MEM_copyProgram_43 : decode prog_3_method_5_code 43 = .ok (.return_, 1) := by decide +kernel
theorem d_MEM_placeOf_0 : decode prog_3_method_6_code 0 = .ok (.iload_n 2, 1) := by decide +kernel
theorem d_MEM_placeOf_1 : decode prog_3_method_6_code 1 = .ok (.bipush 6, 2) := by decide +kernel
theorem d_MEM_placeOf_3 : decode prog_3_method_6_code 3 = .ok (.iushr, 1) := by decide +kernel
theorem d_MEM_placeOf_4 : decode prog_3_method_6_code 4 = .ok (.istore_n 3, 1) := by decide +kernel
theorem d_MEM_placeOf_5 : decode prog_3_method_6_code 5 = .ok (.iload_n 3, 1) := by decide +kernel
theorem d_MEM_placeOf_6 : decode prog_3_method_6_code 6 = .ok (.aload_n 1, 1) := by decide +kernel
theorem d_MEM_placeOf_7 : decode prog_3_method_6_code 7 = .ok (.getfield 23, 3) := by decide +kernel
theorem d_MEM_placeOf_10 : decode prog_3_method_6_code 10 = .ok (.if_icmp .lt 5, 3) := by decide +kernel
theorem d_MEM_placeOf_13 : decode prog_3_method_6_code 13 = .ok (.iconst (-1), 1) := by decide +kernel
theorem d_MEM_placeOf_14 : decode prog_3_method_6_code 14 = .ok (.ireturn, 1) := by decide +kernel
theorem d_MEM_placeOf_15 : decode prog_3_method_6_code 15 = .ok (.aload_n 1, 1) := by decide +kernel
theorem d_MEM_placeOf_16 : decode prog_3_method_6_code 16 = .ok (.getfield 32, 3) := by decide +kernel
theorem d_MEM_placeOf_19 : decode prog_3_method_6_code 19 = .ok (.iload_n 3, 1) := by decide +kernel
theorem d_MEM_placeOf_20 : decode prog_3_method_6_code 20 = .ok (.iaload, 1) := by decide +kernel
theorem d_MEM_placeOf_21 : decode prog_3_method_6_code 21 = .ok (.bipush 16, 2) := by decide +kernel
theorem d_MEM_placeOf_23 : decode prog_3_method_6_code 23 = .ok (.imul, 1) := by decide +kernel
theorem d_MEM_placeOf_24 : decode prog_3_method_6_code 24 = .ok (.iload_n 2, 1) := by decide +kernel
theorem d_MEM_placeOf_25 : decode prog_3_method_6_code 25 = .ok (.iconst 2, 1) := by decide +kernel
theorem d_MEM_placeOf_26 : decode prog_3_method_6_code 26 = .ok (.iushr, 1) := by decide +kernel
theorem d_MEM_placeOf_27 : decode prog_3_method_6_code 27 = .ok (.bipush 15, 2) := by decide +kernel
theorem d_MEM_placeOf_29 : decode prog_3_method_6_code 29 = .ok (.iand, 1) := by decide +kernel
theorem d_MEM_placeOf_30 : decode prog_3_method_6_code 30 = .ok (.iadd, 1) := by decide +kernel
theorem d_MEM_placeOf_31 : decode prog_3_method_6_code 31 = .ok (.ireturn, 1) := by decide +kernel
