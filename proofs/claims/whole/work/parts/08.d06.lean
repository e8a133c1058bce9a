theorem d_MOD_lostChild_0 : decode prog_8_method_37_code 0 = .ok (.iconst (-1), 1) := by decide +kernel
theorem d_MOD_lostChild_1 : decode prog_8_method_37_code 1 = .ok (.istore_n 2, 1) := by decide +kernel
theorem d_MOD_lostChild_2 : decode prog_8_method_37_code 2 = .ok (.bipush 8, 2) := by decide +kernel
theorem d_MOD_lostChild_4 : decode prog_8_method_37_code 4 = .ok (.istore_n 3, 1) := by decide +kernel
theorem d_MOD_lostChild_5 : decode prog_8_method_37_code 5 = .ok (.iload_n 3, 1) := by decide +kernel
theorem d_MOD_lostChild_6 : decode prog_8_method_37_code 6 = .ok (.iconst 1, 1) := by decide +kernel
theorem d_MOD_lostChild_7 : decode prog_8_method_37_code 7 = .ok (.if_icmp .lt 81, 3) := by decide +kernel
theorem d_MOD_lostChild_10 : decode prog_8_method_37_code 10 = .ok (.aload_n 0, 1) := by decide +kernel
theorem d_MOD_lostChild_11 : decode prog_8_method_37_code 11 = .ok (.getfield 19, 3) := by decide +kernel
theorem d_MOD_lostChild_14 : decode prog_8_method_37_code 14 = .ok (.iload_n 3, 1) := by decide +kernel
theorem d_MOD_lostChild_15 : decode prog_8_method_37_code 15 = .ok (.iaload, 1) := by decide +kernel
theorem d_MOD_lostChild_16 : decode prog_8_method_37_code 16 = .ok (.ifCond .le 17, 3) := by decide +kernel
theorem d_MOD_lostChild_19 : decode prog_8_method_37_code 19 = .ok (.aload_n 0, 1) := by decide +kernel
theorem d_MOD_lostChild_20 : decode prog_8_method_37_code 20 = .ok (.getfield 25, 3) := by decide +kernel
theorem d_MOD_lostChild_23 : decode prog_8_method_37_code 23 = .ok (.iload_n 3, 1) := by decide +kernel
theorem d_MOD_lostChild_24 : decode prog_8_method_37_code 24 = .ok (.iaload, 1) := by decide +kernel
theorem d_MOD_lostChild_25 : decode prog_8_method_37_code 25 = .ok (.iload_n 1, 1) := by decide +kernel
theorem d_MOD_lostChild_26 : decode prog_8_method_37_code 26 = .ok (.if_icmp .ne 7, 3) := by decide +kernel
theorem d_MOD_lostChild_29 : decode prog_8_method_37_code 29 = .ok (.iconst 1, 1) := by decide +kernel
theorem d_MOD_lostChild_30 : decode prog_8_method_37_code 30 = .ok (.goto 4, 3) := by decide +kernel
theorem d_MOD_lostChild_33 : decode prog_8_method_37_code 33 = .ok (.iconst 0, 1) := by decide +kernel
theorem d_MOD_lostChild_34 : decode prog_8_method_37_code 34 = .ok (.istore 4, 2) := by decide +kernel
theorem d_MOD_lostChild_36 : decode prog_8_method_37_code 36 = .ok (.iload 4, 2) := by decide +kernel
theorem d_MOD_lostChild_38 : decode prog_8_method_37_code 38 = .ok (.ifCond .eq 17, 3) := by decide +kernel
theorem d_MOD_lostChild_41 : decode prog_8_method_37_code 41 = .ok (.aload_n 0, 1) := by decide +kernel
theorem d_MOD_lostChild_42 : decode prog_8_method_37_code 42 = .ok (.getfield 19, 3) := by decide +kernel
theorem d_MOD_lostChild_45 : decode prog_8_method_37_code 45 = .ok (.iload_n 3, 1) := by decide +kernel
theorem d_MOD_lostChild_46 : decode prog_8_method_37_code 46 = .ok (.iaload, 1) := by decide +kernel
theorem d_MOD_lostChild_47 : decode prog_8_method_37_code 47 = .ok (.iconst 5, 1) := by decide +kernel
theorem d_MOD_lostChild_48 : decode prog_8_method_37_code 48 = .ok (.if_icmp .ne 7, 3) := by decide +kernel
theorem d_MOD_lostChild_51 : decode prog_8_method_37_code 51 = .ok (.iconst 1, 1) := by decide +kernel
theorem d_MOD_lostChild_52 : decode prog_8_method_37_code 52 = .ok (.goto 4, 3) := by decide +kernel
theorem d_MOD_lostChild_55 : decode prog_8_method_37_code 55 = .ok (.iconst 0, 1) := by decide +kernel
theorem d_MOD_lostChild_56 : decode prog_8_method_37_code 56 = .ok (.istore 5, 2) := by decide +kernel
theorem d_MOD_lostChild_58 : decode prog_8_method_37_code 58 = .ok (.iload 5, 2) := by decide +kernel
theorem d_MOD_lostChild_60 : decode prog_8_method_37_code 60 = .ok (.ifCond .eq 7, 3) := by decide +kernel
theorem d_MOD_lostChild_63 : decode prog_8_method_37_code 63 = .ok (.iload_n 3, 1) := by decide +kernel
theorem d_MOD_lostChild_64 : decode prog_8_method_37_code 64 = .ok (.goto 17, 3) := by decide +kernel
theorem d_MOD_lostChild_67 : decode prog_8_method_37_code 67 = .ok (.iload 4, 2) := by decide +kernel
theorem d_MOD_lostChild_69 : decode prog_8_method_37_code 69 = .ok (.ifCond .eq 11, 3) := by decide +kernel
theorem d_MOD_lostChild_72 : decode prog_8_method_37_code 72 = .ok (.iload_n 2, 1) := by decide +kernel
theorem d_MOD_lostChild_73 : decode prog_8_method_37_code 73 = .ok (.ifCond .ge 7, 3) := by decide +kernel
theorem d_MOD_lostChild_76 : decode prog_8_method_37_code 76 = .ok (.iconst 0, 1) := by decide +kernel
theorem d_MOD_lostChild_77 : decode prog_8_method_37_code 77 = .ok (.goto 4, 3) := by decide +kernel
theorem d_MOD_lostChild_80 : decode prog_8_method_37_code 80 = .ok (.iload_n 2, 1) := by decide +kernel
theorem d_MOD_lostChild_81 : decode prog_8_method_37_code 81 = .ok (.istore_n 2, 1) := by decide +kernel
theorem d_MOD_lostChild_82 : decode prog_8_method_37_code 82 = .ok (.iinc 3 (-1), 3) := by decide +kernel
theorem d_MOD_lostChild_85 : decode prog_8_method_37_code 85 = .ok (.goto (-80), 3) := by decide +kernel
theorem d_MOD_lostChild_88 : decode prog_8_method_37_code 88 = .ok (.iload_n 2, 1) := by decide +kernel
theorem d_MOD_lostChild_89 : decode prog_8_method_37_code 89 = .ok (.ireturn, 1) := by decide +kernel
theorem d_MOD_waits_0 : decode prog_8_method_38_code 0 = .ok (.aload_n 0, 1) := by decide +kernel
theorem d_MOD_waits_1 : decode prog_8_method_38_code 1 = .ok (.aload_n 0, 1) := by decide +kernel
theorem d_MOD_waits_2 : decode prog_8_method_38_code 2 = .ok (.getfield 97, 3) := by decide +kernel
theorem d_MOD_waits_5 : decode prog_8_method_38_code 5 = .ok (.invokevirtual 215, 3) := by decide +kernel
theorem d_MOD_waits_8 : decode prog_8_method_38_code 8 = .ok (.istore_n 1, 1) := by decide +kernel
theorem d_MOD_waits_9 : decode prog_8_method_38_code 9 = .ok (.iload_n 1, 1) := by decide +kernel
theorem d_MOD_waits_10 : decode prog_8_method_38_code 10 = .ok (.ifCond .ne 9, 3) := by decide +kernel
theorem d_MOD_waits_13 : decode prog_8_method_38_code 13 = .ok (.aload_n 0, 1) := by decide +kernel
theorem d_MOD_waits_14 : decode prog_8_method_38_code 14 = .ok (.iconst 4, 1) := by decide +kernel
theorem d_MOD_waits_15 : decode prog_8_method_38_code 15 = .ok (.invokevirtual 218, 3) := by decide +kernel
theorem d_MOD_waits_18 : decode prog_8_method_38_code 18 = .ok (.return_, 1) := by decide +kernel
theorem d_MOD_waits_19 : decode prog_8_method_38_code 19 = .ok (.aload_n 0, 1) := by decide +kernel
theorem d_MOD_waits_20 : decode prog_8_method_38_code 20 = .ok (.bipush 10, 2) := by decide +kernel
theorem d_MOD_waits_22 : decode prog_8_method_38_code 22 = .ok (.iload_n 1, 1) := by decide +kernel
theorem d_MOD_waits_23 : decode prog_8_method_38_code 23 = .ok (.invokevirtual 135, 3) := by decide +kernel
theorem d_MOD_waits_26 : decode prog_8_method_38_code 26 = .ok (.iload_n 1, 1) := by decide +kernel
theorem d_MOD_waits_27 : decode prog_8_method_38_code 27 = .ok (.ifCond .le 20, 3) := by decide +kernel
theorem d_MOD_waits_30 : decode prog_8_method_38_code 30 = .ok (.aload_n 0, 1) := by decide +kernel
theorem d_MOD_waits_31 : decode prog_8_method_38_code 31 = .ok (.bipush 11, 2) := by decide +kernel
theorem d_MOD_waits_33 : decode prog_8_method_38_code 33 = .ok (.aload_n 0, 1) := by decide +kernel
theorem d_MOD_waits_34 : decode prog_8_method_38_code 34 = .ok (.getfield 22, 3) := by decide +kernel
theorem d_MOD_waits_37 : decode prog_8_method_38_code 37 = .ok (.iload_n 1, 1) := by decide +kernel
theorem d_MOD_waits_38 : decode prog_8_method_38_code 38 = .ok (.iaload, 1) := by decide +kernel
theorem d_MOD_waits_39 : decode prog_8_method_38_code 39 = .ok (.invokevirtual 135, 3) := by decide +kernel
theorem d_MOD_waits_42 : decode prog_8_method_38_code 42 = .ok (.aload_n 0, 1) := by decide +kernel
theorem d_MOD_waits_43 : decode prog_8_method_38_code 43 = .ok (.iload_n 1, 1) := by decide +kernel
theorem d_MOD_waits_44 : decode prog_8_method_38_code 44 = .ok (.invokevirtual 94, 3) := by decide +kernel
theorem d_MOD_waits_47 : decode prog_8_method_38_code 47 = .ok (.return_, 1) := by decide +kernel
theorem d_MOD_more_0 : decode prog_8_method_39_code 0 = .ok (.iload_n 1, 1) := by decide +kernel
theorem d_MOD_more_1 : decode prog_8_method_39_code 1 = .ok (.iconst 1, 1) := by decide +kernel
theorem d_MOD_more_2 : decode prog_8_method_39_code 2 = .ok (.if_icmp .lt 33, 3) := by decide +kernel
theorem d_MOD_more_5 : decode prog_8_method_39_code 5 = .ok (.iload_n 1, 1) := by decide +kernel
theorem d_MOD_more_6 : decode prog_8_method_39_code 6 = .ok (.bipush 8, 2) := by decide +kernel
theorem d_MOD_more_8 : decode prog_8_method_39_code 8 = .ok (.if_icmp .gt 27, 3) := by decide +kernel
theorem d_MOD_more_11 : decode prog_8_method_39_code 11 = .ok (.aload_n 0, 1) := by decide +kernel
theorem d_MOD_more_12 : decode prog_8_method_39_code 12 = .ok (.getfield 31, 3) := by decide +kernel
theorem d_MOD_more_15 : decode prog_8_method_39_code 15 = .ok (.aload_n 0, 1) := by decide +kernel
theorem d_MOD_more_16 : decode prog_8_method_39_code 16 = .ok (.getfield 97, 3) := by decide +kernel
theorem d_MOD_more_19 : decode prog_8_method_39_code 19 = .ok (.iaload, 1) := by decide +kernel
theorem d_MOD_more_20 : decode prog_8_method_39_code 20 = .ok (.iload_n 1, 1) := by decide +kernel
theorem d_MOD_more_21 : decode prog_8_method_39_code 21 = .ok (.iadd, 1) := by decide +kernel
theorem d_MOD_more_22 : decode prog_8_method_39_code 22 = .ok (.bipush 8, 2) := by decide +kernel
theorem d_MOD_more_24 : decode prog_8_method_39_code 24 = .ok (.if_icmp .gt 11, 3) := by decide +kernel
theorem d_MOD_more_27 : decode prog_8_method_39_code 27 = .ok (.aload_n 0, 1) := by decide +kernel
theorem d_MOD_more_28 : decode prog_8_method_39_code 28 = .ok (.invokevirtual 212, 3) := by decide +kernel
theorem d_MOD_more_31 : decode prog_8_method_39_code 31 = .ok (.iload_n 1, 1) := by decide +kernel
theorem d_MOD_more_32 : decode prog_8_method_39_code 32 = .ok (.if_icmp .ge 5, 3) := by decide +kernel
theorem d_MOD_more_35 : decode prog_8_method_39_code 35 = .ok (.iconst (-1), 1) := by decide +kernel
theorem d_MOD_more_36 : decode prog_8_method_39_code 36 = .ok (.ireturn, 1) := by decide +kernel
theorem d_MOD_more_37 : decode prog_8_method_39_code 37 = .ok (.iconst 0, 1) := by decide +kernel
theorem d_MOD_more_38 : decode prog_8_method_39_code 38 = .ok (.istore_n 2, 1) := by decide +kernel
theorem d_MOD_more_39 : decode prog_8_method_39_code 39 = .ok (.iload_n 2, 1) := by decide +kernel
theorem d_MOD_more_40 : decode prog_8_method_39_code 40 = .ok (.iload_n 1, 1) := by decide +kernel
theorem d_MOD_more_41 : decode prog_8_method_39_code 41 = .ok (.if_icmp .ge 18, 3) := by decide +kernel
theorem d_MOD_more_44 : decode prog_8_method_39_code 44 = .ok (.aload_n 0, 1) := by decide +kernel
theorem d_MOD_more_45 : decode prog_8_method_39_code 45 = .ok (.aload_n 0, 1) := by decide +kernel
theorem d_MOD_more_46 : decode prog_8_method_39_code 46 = .ok (.getfield 97, 3) := by decide +kernel
theorem d_MOD_more_49 : decode prog_8_method_39_code 49 = .ok (.invokevirtual 69, 3) := by decide +kernel
theorem d_MOD_more_52 : decode prog_8_method_39_code 52 = .ok (.pop, 1) := by decide +kernel
theorem d_MOD_more_53 : decode prog_8_method_39_code 53 = .ok (.iinc 2 1, 3) := by decide +kernel
theorem d_MOD_more_56 : decode prog_8_method_39_code 56 = .ok (.goto (-17), 3) := by decide +kernel
theorem d_MOD_more_59 : decode prog_8_method_39_code 59 = .ok (.aload_n 0, 1) := by decide +kernel
theorem d_MOD_more_60 : decode prog_8_method_39_code 60 = .ok (.getfield 31, 3) := by decide +kernel
theorem d_MOD_more_63 : decode prog_8_method_39_code 63 = .ok (.aload_n 0, 1) := by decide +kernel
theorem d_MOD_more_64 : decode prog_8_method_39_code 64 = .ok (.getfield 97, 3) := by decide +kernel
theorem d_MOD_more_67 : decode prog_8_method_39_code 67 = .ok (.iaload, 1) := by decide +kernel
theorem d_MOD_more_68 : decode prog_8_method_39_code 68 = .ok (.ireturn, 1) := by decide +kernel
theorem d_MOD_send_0 : decode prog_8_method_40_code 0 = .ok (.aload_n 0, 1) := by decide +kernel
theorem d_MOD_send_1 : decode prog_8_method_40_code 1 = .ok (.bipush 11, 2) := by decide +kernel
theorem d_MOD_send_3 : decode prog_8_method_40_code 3 = .ok (.invokevirtual 113, 3) := by decide +kernel
theorem d_MOD_send_6 : decode prog_8_method_40_code 6 = .ok (.sipush 255, 3) := by decide +kernel
theorem d_MOD_send_9 : decode prog_8_method_40_code 9 = .ok (.iand, 1) := by decide +kernel
theorem d_MOD_send_10 : decode prog_8_method_40_code 10 = .ok (.istore_n 2, 1) := by decide +kernel
theorem d_MOD_send_11 : decode prog_8_method_40_code 11 = .ok (.iload_n 1, 1) := by decide +kernel
theorem d_MOD_send_12 : decode prog_8_method_40_code 12 = .ok (.ifCond .ne 21, 3) := by decide +kernel
theorem d_MOD_send_15 : decode prog_8_method_40_code 15 = .ok (.aload_n 0, 1) := by decide +kernel
theorem d_MOD_send_16 : decode prog_8_method_40_code 16 = .ok (.getfield 221, 3) := by decide +kernel
theorem d_MOD_send_19 : decode prog_8_method_40_code 19 = .ok (.sipush 200, 3) := by decide +kernel
theorem d_MOD_send_22 : decode prog_8_method_40_code 22 = .ok (.if_icmp .ge 7, 3) := by decide +kernel
theorem d_MOD_send_25 : decode prog_8_method_40_code 25 = .ok (.iconst 1, 1) := by decide +kernel
theorem d_MOD_send_26 : decode prog_8_method_40_code 26 = .ok (.goto 32, 3) := by decide +kernel
theorem d_MOD_send_29 : decode prog_8_method_40_code 29 = .ok (.iconst 0, 1) := by decide +kernel
theorem d_MOD_send_30 : decode prog_8_method_40_code 30 = .ok (.goto 28, 3) := by decide +kernel
theorem d_MOD_send_33 : decode prog_8_method_40_code 33 = .ok (.iload_n 1, 1) := by decide +kernel
theorem d_MOD_send_34 : decode prog_8_method_40_code 34 = .ok (.ifCond .le 23, 3) := by decide +kernel
theorem d_MOD_send_37 : decode prog_8_method_40_code 37 = .ok (.iload_n 1, 1) := by decide +kernel
theorem d_MOD_send_38 : decode prog_8_method_40_code 38 = .ok (.iconst 2, 1) := by decide +kernel
theorem d_MOD_send_39 : decode prog_8_method_40_code 39 = .ok (.irem, 1) := by decide +kernel
theorem d_MOD_send_40 : decode prog_8_method_40_code 40 = .ok (.ifCond .ne 17, 3) := by decide +kernel
theorem d_MOD_send_43 : decode prog_8_method_40_code 43 = .ok (.aload_n 0, 1) := by decide +kernel
theorem d_MOD_send_44 : decode prog_8_method_40_code 44 = .ok (.iload_n 1, 1) := by decide +kernel
theorem d_MOD_send_45 : decode prog_8_method_40_code 45 = .ok (.iconst 1, 1) := by decide +kernel
theorem d_MOD_send_46 : decode prog_8_method_40_code 46 = .ok (.isub, 1) := by decide +kernel
theorem d_MOD_send_47 : decode prog_8_method_40_code 47 = .ok (.invokevirtual 84, 3) := by decide +kernel
theorem d_MOD_send_50 : decode prog_8_method_40_code 50 = .ok (.ifCond .eq 7, 3) := by decide +kernel
theorem d_MOD_send_53 : decode prog_8_method_40_code 53 = .ok (.iconst 1, 1) := by decide +kernel
theorem d_MOD_send_54 : decode prog_8_method_40_code 54 = .ok (.goto 4, 3) := by decide +kernel
theorem d_MOD_send_57 : decode prog_8_method_40_code 57 = .ok (.iconst 0, 1) := by decide +kernel
theorem d_MOD_send_58 : decode prog_8_method_40_code 58 = .ok (.istore_n 3, 1) := by decide +kernel
theorem d_MOD_send_59 : decode prog_8_method_40_code 59 = .ok (.iload_n 1, 1) := by decide +kernel
theorem d_MOD_send_60 : decode prog_8_method_40_code 60 = .ok (.ifCond .le 11, 3) := by decide +kernel
theorem d_MOD_send_63 : decode prog_8_method_40_code 63 = .ok (.iload_n 1, 1) := by decide +kernel
theorem d_MOD_send_64 : decode prog_8_method_40_code 64 = .ok (.iconst 1, 1) := by decide +kernel
theorem d_MOD_send_65 : decode prog_8_method_40_code 65 = .ok (.isub, 1) := by decide +kernel
theorem d_MOD_send_66 : decode prog_8_method_40_code 66 = .ok (.iconst 2, 1) := by decide +kernel
theorem d_MOD_send_67 : decode prog_8_method_40_code 67 = .ok (.idiv, 1) := by decide +kernel
theorem d_MOD_send_68 : decode prog_8_method_40_code 68 = .ok (.goto 4, 3) := by decide +kernel
theorem d_MOD_send_71 : decode prog_8_method_40_code 71 = .ok (.iconst 0, 1) := by decide +kernel
theorem d_MOD_send_72 : decode prog_8_method_40_code 72 = .ok (.istore 4, 2) := by decide +kernel
theorem d_MOD_send_74 : decode prog_8_method_40_code 74 = .ok (.iload_n 3, 1) := by decide +kernel
theorem d_MOD_send_75 : decode prog_8_method_40_code 75 = .ok (.ifCond .eq 25, 3) := by decide +kernel
theorem d_MOD_send_78 : decode prog_8_method_40_code 78 = .ok (.iload_n 1, 1) := by decide +kernel
theorem d_MOD_send_79 : decode prog_8_method_40_code 79 = .ok (.ifCond .le 21, 3) := by decide +kernel
theorem d_MOD_send_82 : decode prog_8_method_40_code 82 = .ok (.aload_n 0, 1) := by decide +kernel
theorem d_MOD_send_83 : decode prog_8_method_40_code 83 = .ok (.getfield 49, 3) := by decide +kernel
theorem d_MOD_send_86 : decode prog_8_method_40_code 86 = .ok (.iload 4, 2) := by decide +kernel
theorem d_MOD_send_88 : decode prog_8_method_40_code 88 = .ok (.iaload, 1) := by decide +kernel
theorem d_MOD_send_89 : decode prog_8_method_40_code 89 = .ok (.bipush 8, 2) := by decide +kernel
theorem d_MOD_send_91 : decode prog_8_method_40_code 91 = .ok (.if_icmp .ne 9, 3) := by decide +kernel
theorem d_MOD_send_94 : decode prog_8_method_40_code 94 = .ok (.aload_n 0, 1) := by decide +kernel
theorem d_MOD_send_95 : decode prog_8_method_40_code 95 = .ok (.iconst 3, 1) := by decide +kernel
theorem d_MOD_send_96 : decode prog_8_method_40_code 96 = .ok (.invokevirtual 218, 3) := by decide +kernel
theorem d_MOD_send_99 : decode prog_8_method_40_code 99 = .ok (.return_, 1) := by decide +kernel
theorem d_MOD_send_100 : decode prog_8_method_40_code 100 = .ok (.aload_n 0, 1) := by decide +kernel
theorem d_MOD_send_101 : decode prog_8_method_40_code 101 = .ok (.bipush 10, 2) := by decide +kernel
theorem d_MOD_send_103 : decode prog_8_method_40_code 103 = .ok (.iload_n 3, 1) := by decide +kernel
theorem d_MOD_send_104 : decode prog_8_method_40_code 104 = .ok (.ifCond .eq 7, 3) := by decide +kernel
theorem d_MOD_send_107 : decode prog_8_method_40_code 107 = .ok (.iload_n 2, 1) := by decide +kernel
theorem d_MOD_send_108 : decode prog_8_method_40_code 108 = .ok (.goto 4, 3) := by decide +kernel
theorem d_MOD_send_111 : decode prog_8_method_40_code 111 = .ok (.iconst (-1), 1) := by decide +kernel
theorem d_MOD_send_112 : decode prog_8_method_40_code 112 = .ok (.invokevirtual 135, 3) := by decide +kernel
theorem d_MOD_send_115 : decode prog_8_method_40_code 115 = .ok (.iload_n 3, 1) := by decide +kernel
theorem d_MOD_send_116 : decode prog_8_method_40_code 116 = .ok (.ifCond .eq 30, 3) := by decide +kernel
theorem d_MOD_send_119 : decode prog_8_method_40_code 119 = .ok (.iload_n 1, 1) := by decide +kernel
theorem d_MOD_send_120 : decode prog_8_method_40_code 120 = .ok (.ifCond .ne 26, 3) := by decide +kernel
theorem d_MOD_send_123 : decode prog_8_method_40_code 123 = .ok (.aload_n 0, 1) := by decide +kernel
theorem d_MOD_send_124 : decode prog_8_method_40_code 124 = .ok (.getfield 52, 3) := by decide +kernel
theorem d_MOD_send_127 : decode prog_8_method_40_code 127 = .ok (.aload_n 0, 1) := by decide +kernel
theorem d_MOD_send_128 : decode prog_8_method_40_code 128 = .ok (.getfield 221, 3) := by decide +kernel
theorem d_MOD_send_131 : decode prog_8_method_40_code 131 = .ok (.iload_n 2, 1) := by decide +kernel
theorem d_MOD_send_132 : decode prog_8_method_40_code 132 = .ok (.iastore, 1) := by decide +kernel
theorem d_MOD_send_133 : decode prog_8_method_40_code 133 = .ok (.aload_n 0, 1) := by decide +kernel
theorem d_MOD_send_134 : decode prog_8_method_40_code 134 = .ok (.dup, 1) := by decide +kernel
theorem d_MOD_send_135 : decode prog_8_method_40_code 135 = .ok (.getfield 221, 3) := by decide +kernel
theorem d_MOD_send_138 : decode prog_8_method_40_code 138 = .ok (.iconst 1, 1) := by decide +kernel
theorem d_MOD_send_139 : decode prog_8_method_40_code 139 = .ok (.iadd, 1) := by decide +kernel
theorem d_MOD_send_140 : decode prog_8_method_40_code 140 = .ok (.putfield 221, 3) := by decide +kernel
theorem d_MOD_send_143 : decode prog_8_method_40_code 143 = .ok (.goto 37, 3) := by decide +kernel
theorem d_MOD_send_146 : decode prog_8_method_40_code 146 = .ok (.iload_n 3, 1) := by decide +kernel
theorem d_MOD_send_147 : decode prog_8_method_40_code 147 = .ok (.ifCond .eq 33, 3) := by decide +kernel
theorem d_MOD_send_150 : decode prog_8_method_40_code 150 = .ok (.aload_n 0, 1) := by decide +kernel
theorem d_MOD_send_151 : decode prog_8_method_40_code 151 = .ok (.getfield 46, 3) := by decide +kernel
theorem d_MOD_send_154 : decode prog_8_method_40_code 154 = .ok (.bipush 8, 2) := by decide +kernel
theorem d_MOD_send_156 : decode prog_8_method_40_code 156 = .ok (.iload 4, 2) := by decide +kernel
theorem d_MOD_send_158 : decode prog_8_method_40_code 158 = .ok (.imul, 1) := by decide +kernel
theorem d_MOD_send_159 : decode prog_8_method_40_code 159 = .ok (.aload_n 0, 1) := by decide +kernel
theorem d_MOD_send_160 : decode prog_8_method_40_code 160 = .ok (.getfield 49, 3) := by decide +kernel
theorem d_MOD_send_163 : decode prog_8_method_40_code 163 = .ok (.iload 4, 2) := by decide +kernel
theorem d_MOD_send_165 : decode prog_8_method_40_code 165 = .ok (.iaload, 1) := by decide +kernel
theorem d_MOD_send_166 : decode prog_8_method_40_code 166 = .ok (.iadd, 1) := by decide +kernel
theorem d_MOD_send_167 : decode prog_8_method_40_code 167 = .ok (.iload_n 2, 1) := by decide +kernel
theorem d_MOD_send_168 : decode prog_8_method_40_code 168 = .ok (.iastore, 1) := by decide +kernel
theorem d_MOD_send_169 : decode prog_8_method_40_code 169 = .ok (.aload_n 0, 1) := by decide +kernel
theorem d_MOD_send_170 : decode prog_8_method_40_code 170 = .ok (.getfield 49, 3) := by decide +kernel
theorem d_MOD_send_173 : decode prog_8_method_40_code 173 = .ok (.iload 4, 2) := by decide +kernel
theorem d_MOD_send_175 : decode prog_8_method_40_code 175 = .ok (.dup2, 1) := by decide +kernel
theorem d_MOD_send_176 : decode prog_8_method_40_code 176 = .ok (.iaload, 1) := by decide +kernel
theorem d_MOD_send_177 : decode prog_8_method_40_code 177 = .ok (.iconst 1, 1) := by decide +kernel
theorem d_MOD_send_178 : decode prog_8_method_40_code 178 = .ok (.iadd, 1) := by decide +kernel
theorem d_MOD_send_179 : decode prog_8_method_40_code 179 = .ok (.iastore, 1) := by decide +kernel
theorem d_MOD_send_180 : decode prog_8_method_40_code 180 = .ok (.return_, 1) := by decide +kernel
theorem d_MOD_take_0 : decode prog_8_method_41_code 0 = .ok (.iload_n 1, 1) := by decide +kernel
theorem d_MOD_take_1 : decode prog_8_method_41_code 1 = .ok (.iconst 1, 1) := by decide +kernel
theorem d_MOD_take_2 : decode prog_8_method_41_code 2 = .ok (.if_icmp .lt 9, 3) := by decide +kernel
theorem d_MOD_take_5 : decode prog_8_method_41_code 5 = .ok (.iload_n 1, 1) := by decide +kernel
theorem d_MOD_take_6 : decode prog_8_method_41_code 6 = .ok (.iconst 2, 1) := by decide +kernel
theorem d_MOD_take_7 : decode prog_8_method_41_code 7 = .ok (.irem, 1) := by decide +kernel
theorem d_MOD_take_8 : decode prog_8_method_41_code 8 = .ok (.ifCond .ne 11, 3) := by decide +kernel
theorem d_MOD_take_11 : decode prog_8_method_41_code 11 = .ok (.aload_n 0, 1) := by decide +kernel
theorem d_MOD_take_12 : decode prog_8_method_41_code 12 = .ok (.bipush 10, 2) := by decide +kernel
theorem d_MOD_take_14 : decode prog_8_method_41_code 14 = .ok (.iconst (-1), 1) := by decide +kernel
theorem d_MOD_take_15 : decode prog_8_method_41_code 15 = .ok (.invokevirtual 135, 3) := by decide +kernel
theorem d_MOD_take_18 : decode prog_8_method_41_code 18 = .ok (.return_, 1) := by decide +kernel
theorem d_MOD_take_19 : decode prog_8_method_41_code 19 = .ok (.iload_n 1, 1) := by decide +kernel
theorem d_MOD_take_20 : decode prog_8_method_41_code 20 = .ok (.iconst 2, 1) := by decide +kernel
theorem d_MOD_take_21 : decode prog_8_method_41_code 21 = .ok (.idiv, 1) := by decide +kernel
theorem d_MOD_take_22 : decode prog_8_method_41_code 22 = .ok (.istore_n 2, 1) := by decide +kernel
theorem d_MOD_take_23 : decode prog_8_method_41_code 23 = .ok (.aload_n 0, 1) := by decide +kernel
theorem d_MOD_take_24 : decode prog_8_method_41_code 24 = .ok (.getfield 49, 3) := by decide +kernel
theorem d_MOD_take_27 : decode prog_8_method_41_code 27 = .ok (.iload_n 2, 1) := by decide +kernel
theorem d_MOD_take_28 : decode prog_8_method_41_code 28 = .ok (.iaload, 1) := by decide +kernel
theorem d_MOD_take_29 : decode prog_8_method_41_code 29 = .ok (.ifCond .ne 29, 3) := by decide +kernel
theorem d_MOD_take_32 : decode prog_8_method_41_code 32 = .ok (.aload_n 0, 1) := by decide +kernel
theorem d_MOD_take_33 : decode prog_8_method_41_code 33 = .ok (.iload_n 1, 1) := by decide +kernel
theorem d_MOD_take_34 : decode prog_8_method_41_code 34 = .ok (.iconst 1, 1) := by decide +kernel
theorem d_MOD_take_35 : decode prog_8_method_41_code 35 = .ok (.iadd, 1) := by decide +kernel
theorem d_MOD_take_36 : decode prog_8_method_41_code 36 = .ok (.invokevirtual 84, 3) := by decide +kernel
theorem d_MOD_take_39 : decode prog_8_method_41_code 39 = .ok (.ifCond .eq 11, 3) := by decide +kernel
theorem d_MOD_take_42 : decode prog_8_method_41_code 42 = .ok (.aload_n 0, 1) := by decide +kernel
theorem d_MOD_take_43 : decode prog_8_method_41_code 43 = .ok (.iconst 2, 1) := by decide +kernel
theorem d_MOD_take_44 : decode prog_8_method_41_code 44 = .ok (.invokevirtual 218, 3) := by decide +kernel
theorem d_MOD_take_47 : decode prog_8_method_41_code 47 = .ok (.goto 10, 3) := by decide +kernel
theorem d_MOD_take_50 : decode prog_8_method_41_code 50 = .ok (.aload_n 0, 1) := by decide +kernel
theorem d_MOD_take_51 : decode prog_8_method_41_code 51 = .ok (.bipush 10, 2) := by decide +kernel
theorem d_MOD_take_53 : decode prog_8_method_41_code 53 = .ok (.iconst (-1), 1) := by decide +kernel
theorem d_MOD_take_54 : decode prog_8_method_41_code 54 = .ok (.invokevirtual 135, 3) := by decide +kernel
theorem d_MOD_take_57 : decode prog_8_method_41_code 57 = .ok (.return_, 1) := by decide +kernel
theorem d_MOD_take_58 : decode prog_8_method_41_code 58 = .ok (.aload_n 0, 1) := by decide +kernel
theorem d_MOD_take_59 : decode prog_8_method_41_code 59 = .ok (.bipush 10, 2) := by decide +kernel
theorem d_MOD_take_61 : decode prog_8_method_41_code 61 = .ok (.aload_n 0, 1) := by decide +kernel
theorem d_MOD_take_62 : decode prog_8_method_41_code 62 = .ok (.getfield 46, 3) := by decide +kernel
theorem d_MOD_take_65 : decode prog_8_method_41_code 65 = .ok (.bipush 8, 2) := by decide +kernel
theorem d_MOD_take_67 : decode prog_8_method_41_code 67 = .ok (.iload_n 2, 1) := by decide +kernel
theorem d_MOD_take_68 : decode prog_8_method_41_code 68 = .ok (.imul, 1) := by decide +kernel
theorem d_MOD_take_69 : decode prog_8_method_41_code 69 = .ok (.iaload, 1) := by decide +kernel
theorem d_MOD_take_70 : decode prog_8_method_41_code 70 = .ok (.invokevirtual 135, 3) := by decide +kernel
theorem d_MOD_take_73 : decode prog_8_method_41_code 73 = .ok (.iconst 0, 1) := by decide +kernel
theorem d_MOD_take_74 : decode prog_8_method_41_code 74 = .ok (.istore_n 3, 1) := by decide +kernel
theorem d_MOD_take_75 : decode prog_8_method_41_code 75 = .ok (.iload_n 3, 1) := by decide +kernel
theorem d_MOD_take_76 : decode prog_8_method_41_code 76 = .ok (.bipush 7, 2) := by decide +kernel
theorem d_MOD_take_78 : decode prog_8_method_41_code 78 = .ok (.if_icmp .ge 33, 3) := by decide +kernel
theorem d_MOD_take_81 : decode prog_8_method_41_code 81 = .ok (.aload_n 0, 1) := by decide +kernel
theorem d_MOD_take_82 : decode prog_8_method_41_code 82 = .ok (.getfield 46, 3) := by decide +kernel
theorem d_MOD_take_85 : decode prog_8_method_41_code 85 = .ok (.bipush 8, 2) := by decide +kernel
theorem d_MOD_take_87 : decode prog_8_method_41_code 87 = .ok (.iload_n 2, 1) := by decide +kernel
theorem d_MOD_take_88 : decode prog_8_method_41_code 88 = .ok (.imul, 1) := by decide +kernel
theorem d_MOD_take_89 : decode prog_8_method_41_code 89 = .ok (.iload_n 3, 1) := by decide +kernel
theorem d_MOD_take_90 : decode prog_8_method_41_code 90 = .ok (.iadd, 1) := by decide +kernel
theorem d_MOD_take_91 : decode prog_8_method_41_code 91 = .ok (.aload_n 0, 1) := by decide +kernel
theorem d_MOD_take_92 : decode prog_8_method_41_code 92 = .ok (.getfield 46, 3) := by decide +kernel
theorem d_MOD_take_95 : decode prog_8_method_41_code 95 = .ok (.bipush 8, 2) := by decide +kernel
theorem d_MOD_take_97 : decode prog_8_method_41_code 97 = .ok (.iload_n 2, 1) := by decide +kernel
theorem d_MOD_take_98 : decode prog_8_method_41_code 98 = .ok (.imul, 1) := by decide +kernel
theorem d_MOD_take_99 : decode prog_8_method_41_code 99 = .ok (.iload_n 3, 1) := by decide +kernel
theorem d_MOD_take_100 : decode prog_8_method_41_code 100 = .ok (.iadd, 1) := by decide +kernel
theorem d_MOD_take_101 : decode prog_8_method_41_code 101 = .ok (.iconst 1, 1) := by decide +kernel
theorem d_MOD_take_102 : decode prog_8_method_41_code 102 = .ok (.iadd, 1) := by decide +kernel
theorem d_MOD_take_103 : decode prog_8_method_41_code 103 = .ok (.iaload, 1) := by decide +kernel
theorem d_MOD_take_104 : decode prog_8_method_41_code 104 = .ok (.iastore, 1) := by decide +kernel
theorem d_MOD_take_105 : decode prog_8_method_41_code 105 = .ok (.iinc 3 1, 3) := by decide +kernel
theorem d_MOD_take_108 : decode prog_8_method_41_code 108 = .ok (.goto (-33), 3) := by decide +kernel
theorem d_MOD_take_111 : decode prog_8_method_41_code 111 = .ok (.aload_n 0, 1) := by decide +kernel
theorem d_MOD_take_112 : decode prog_8_method_41_code 112 = .ok (.getfield 49, 3) := by decide +kernel
theorem d_MOD_take_115 : decode prog_8_method_41_code 115 = .ok (.iload_n 2, 1) := by decide +kernel
theorem d_MOD_take_116 : decode prog_8_method_41_code 116 = .ok (.dup2, 1) := by decide +kernel
theorem d_MOD_take_117 : decode prog_8_method_41_code 117 = .ok (.iaload, 1) := by decide +kernel
theorem d_MOD_take_118 : decode prog_8_method_41_code 118 = .ok (.iconst 1, 1) := by decide +kernel
theorem d_MOD_take_119 : decode prog_8_method_41_code 119 = .ok (.isub, 1) := by decide +kernel
theorem d_MOD_take_120 : decode prog_8_method_41_code 120 = .ok (.iastore, 1) := by decide +kernel
theorem d_MOD_take_121 : decode prog_8_method_41_code 121 = .ok (.return_, 1) := by decide +kernel
theorem d_MOD_pipe_0 : decode prog_8_method_42_code 0 = .ok (.iconst 0, 1) := by decide +kernel
theorem d_MOD_pipe_1 : decode prog_8_method_42_code 1 = .ok (.istore_n 1, 1) := by decide +kernel
theorem d_MOD_pipe_2 : decode prog_8_method_42_code 2 = .ok (.iload_n 1, 1) := by decide +kernel
theorem d_MOD_pipe_3 : decode prog_8_method_42_code 3 = .ok (.iconst 4, 1) := by decide +kernel
theorem d_MOD_pipe_4 : decode prog_8_method_42_code 4 = .ok (.if_icmp .ge 33, 3) := by decide +kernel
theorem d_MOD_pipe_7 : decode prog_8_method_42_code 7 = .ok (.aload_n 0, 1) := by decide +kernel
theorem d_MOD_pipe_8 : decode prog_8_method_42_code 8 = .ok (.iconst 1, 1) := by decide +kernel
theorem d_MOD_pipe_9 : decode prog_8_method_42_code 9 = .ok (.iconst 2, 1) := by decide +kernel
theorem d_MOD_pipe_10 : decode prog_8_method_42_code 10 = .ok (.iload_n 1, 1) := by decide +kernel
theorem d_MOD_pipe_11 : decode prog_8_method_42_code 11 = .ok (.imul, 1) := by decide +kernel
theorem d_MOD_pipe_12 : decode prog_8_method_42_code 12 = .ok (.iadd, 1) := by decide +kernel
theorem d_MOD_pipe_13 : decode prog_8_method_42_code 13 = .ok (.invokevirtual 84, 3) := by decide +kernel
theorem d_MOD_pipe_16 : decode prog_8_method_42_code 16 = .ok (.ifCond .ne 15, 3) := by decide +kernel
theorem d_MOD_pipe_19 : decode prog_8_method_42_code 19 = .ok (.aload_n 0, 1) := by decide +kernel
theorem d_MOD_pipe_20 : decode prog_8_method_42_code 20 = .ok (.iconst 2, 1) := by decide +kernel
theorem d_MOD_pipe_21 : decode prog_8_method_42_code 21 = .ok (.iconst 2, 1) := by decide +kernel
theorem d_MOD_pipe_22 : decode prog_8_method_42_code 22 = .ok (.iload_n 1, 1) := by decide +kernel
theorem d_MOD_pipe_23 : decode prog_8_method_42_code 23 = .ok (.imul, 1) := by decide +kernel
theorem d_MOD_pipe_24 : decode prog_8_method_42_code 24 = .ok (.iadd, 1) := by decide +kernel
theorem d_MOD_pipe_25 : decode prog_8_method_42_code 25 = .ok (.invokevirtual 84, 3) := by decide +kernel
theorem d_MOD_pipe_28 : decode prog_8_method_42_code 28 = .ok (.ifCond .eq 9, 3) := by decide +kernel
theorem d_MOD_pipe_31 : decode prog_8_method_42_code 31 = .ok (.iinc 1 1, 3) := by decide +kernel
theorem d_MOD_pipe_34 : decode prog_8_method_42_code 34 = .ok (.goto (-32), 3) := by decide +kernel
theorem d_MOD_pipe_37 : decode prog_8_method_42_code 37 = .ok (.aload_n 0, 1) := by decide +kernel
theorem d_MOD_pipe_38 : decode prog_8_method_42_code 38 = .ok (.aload_n 0, 1) := by decide +kernel
theorem d_MOD_pipe_39 : decode prog_8_method_42_code 39 = .ok (.getfield 97, 3) := by decide +kernel
theorem d_MOD_pipe_42 : decode prog_8_method_42_code 42 = .ok (.invokevirtual 224, 3) := by decide +kernel
theorem d_MOD_pipe_45 : decode prog_8_method_42_code 45 = .ok (.istore_n 2, 1) := by decide +kernel
theorem d_MOD_pipe_46 : decode prog_8_method_42_code 46 = .ok (.iload_n 2, 1) := by decide +kernel
theorem d_MOD_pipe_47 : decode prog_8_method_42_code 47 = .ok (.istore_n 3, 1) := by decide +kernel
theorem d_MOD_pipe_48 : decode prog_8_method_42_code 48 = .ok (.iload_n 2, 1) := by decide +kernel
theorem d_MOD_pipe_49 : decode prog_8_method_42_code 49 = .ok (.ifCond .lt 43, 3) := by decide +kernel
theorem d_MOD_pipe_52 : decode prog_8_method_42_code 52 = .ok (.aload_n 0, 1) := by decide +kernel
theorem d_MOD_pipe_53 : decode prog_8_method_42_code 53 = .ok (.getfield 40, 3) := by decide +kernel
theorem d_MOD_pipe_56 : decode prog_8_method_42_code 56 = .ok (.bipush 6, 2) := by decide +kernel
theorem d_MOD_pipe_58 : decode prog_8_method_42_code 58 = .ok (.aload_n 0, 1) := by decide +kernel
theorem d_MOD_pipe_59 : decode prog_8_method_42_code 59 = .ok (.getfield 97, 3) := by decide +kernel
theorem d_MOD_pipe_62 : decode prog_8_method_42_code 62 = .ok (.imul, 1) := by decide +kernel
theorem d_MOD_pipe_63 : decode prog_8_method_42_code 63 = .ok (.iload_n 2, 1) := by decide +kernel
theorem d_MOD_pipe_64 : decode prog_8_method_42_code 64 = .ok (.iadd, 1) := by decide +kernel
theorem d_MOD_pipe_65 : decode prog_8_method_42_code 65 = .ok (.bipush 99, 2) := by decide +kernel
theorem d_MOD_pipe_67 : decode prog_8_method_42_code 67 = .ok (.iastore, 1) := by decide +kernel
theorem d_MOD_pipe_68 : decode prog_8_method_42_code 68 = .ok (.aload_n 0, 1) := by decide +kernel
theorem d_MOD_pipe_69 : decode prog_8_method_42_code 69 = .ok (.aload_n 0, 1) := by decide +kernel
theorem d_MOD_pipe_70 : decode prog_8_method_42_code 70 = .ok (.getfield 97, 3) := by decide +kernel
theorem d_MOD_pipe_73 : decode prog_8_method_42_code 73 = .ok (.invokevirtual 224, 3) := by decide +kernel
theorem d_MOD_pipe_76 : decode prog_8_method_42_code 76 = .ok (.istore_n 3, 1) := by decide +kernel
theorem d_MOD_pipe_77 : decode prog_8_method_42_code 77 = .ok (.aload_n 0, 1) := by decide +kernel
theorem d_MOD_pipe_78 : decode prog_8_method_42_code 78 = .ok (.getfield 40, 3) := by decide +kernel
theorem d_MOD_pipe_81 : decode prog_8_method_42_code 81 = .ok (.bipush 6, 2) := by decide +kernel
theorem d_MOD_pipe_83 : decode prog_8_method_42_code 83 = .ok (.aload_n 0, 1) := by decide +kernel
theorem d_MOD_pipe_84 : decode prog_8_method_42_code 84 = .ok (.getfield 97, 3) := by decide +kernel
theorem d_MOD_pipe_87 : decode prog_8_method_42_code 87 = .ok (.imul, 1) := by decide +kernel
theorem d_MOD_pipe_88 : decode prog_8_method_42_code 88 = .ok (.iload_n 2, 1) := by decide +kernel
theorem d_MOD_pipe_89 : decode prog_8_method_42_code 89 = .ok (.iadd, 1) := by decide +kernel
theorem d_MOD_pipe_90 : decode prog_8_method_42_code 90 = .ok (.iconst (-1), 1) := by decide +kernel
theorem d_MOD_pipe_91 : decode prog_8_method_42_code 91 = .ok (.iastore, 1) := by decide +kernel
theorem d_MOD_pipe_92 : decode prog_8_method_42_code 92 = .ok (.iload_n 1, 1) := by decide +kernel
theorem d_MOD_pipe_93 : decode prog_8_method_42_code 93 = .ok (.iconst 4, 1) := by decide +kernel
theorem d_MOD_pipe_94 : decode prog_8_method_42_code 94 = .ok (.if_icmp .eq 7, 3) := by decide +kernel
theorem d_MOD_pipe_97 : decode prog_8_method_42_code 97 = .ok (.iload_n 3, 1) := by decide +kernel
theorem d_MOD_pipe_98 : decode prog_8_method_42_code 98 = .ok (.ifCond .ge 11, 3) := by decide +kernel
theorem d_MOD_pipe_101 : decode prog_8_method_42_code 101 = .ok (.aload_n 0, 1) := by decide +kernel
theorem d_MOD_pipe_102 : decode prog_8_method_42_code 102 = .ok (.bipush 10, 2) := by decide +kernel
theorem d_MOD_pipe_104 : decode prog_8_method_42_code 104 = .ok (.iconst (-1), 1) := by decide +kernel
theorem d_MOD_pipe_105 : decode prog_8_method_42_code 105 = .ok (.invokevirtual 135, 3) := by decide +kernel
theorem d_MOD_pipe_108 : decode prog_8_method_42_code 108 = .ok (.return_, 1) := by decide +kernel
theorem d_MOD_pipe_109 : decode prog_8_method_42_code 109 = .ok (.aload_n 0, 1) := by decide +kernel
theorem d_MOD_pipe_110 : decode prog_8_method_42_code 110 = .ok (.getfield 40, 3) := by decide +kernel
theorem d_MOD_pipe_113 : decode prog_8_method_42_code 113 = .ok (.bipush 6, 2) := by decide +kernel
theorem d_MOD_pipe_115 : decode prog_8_method_42_code 115 = .ok (.aload_n 0, 1) := by decide +kernel
theorem d_MOD_pipe_116 : decode prog_8_method_42_code 116 = .ok (.getfield 97, 3) := by decide +kernel
theorem d_MOD_pipe_119 : decode prog_8_method_42_code 119 = .ok (.imul, 1) := by decide +kernel
theorem d_MOD_pipe_120 : decode prog_8_method_42_code 120 = .ok (.iload_n 2, 1) := by decide +kernel
theorem d_MOD_pipe_121 : decode prog_8_method_42_code 121 = .ok (.iadd, 1) := by decide +kernel
theorem d_MOD_pipe_122 : decode prog_8_method_42_code 122 = .ok (.iconst 1, 1) := by decide +kernel
theorem d_MOD_pipe_123 : decode prog_8_method_42_code 123 = .ok (.iconst 2, 1) := by decide +kernel
theorem d_MOD_pipe_124 : decode prog_8_method_42_code 124 = .ok (.iload_n 1, 1) := by decide +kernel
theorem d_MOD_pipe_125 : decode prog_8_method_42_code 125 = .ok (.imul, 1) := by decide +kernel
theorem d_MOD_pipe_126 : decode prog_8_method_42_code 126 = .ok (.iadd, 1) := by decide +kernel
theorem d_MOD_pipe_127 : decode prog_8_method_42_code 127 = .ok (.iastore, 1) := by decide +kernel
theorem d_MOD_pipe_128 : decode prog_8_method_42_code 128 = .ok (.aload_n 0, 1) := by decide +kernel
theorem d_MOD_pipe_129 : decode prog_8_method_42_code 129 = .ok (.getfield 40, 3) := by decide +kernel
theorem d_MOD_pipe_132 : decode prog_8_method_42_code 132 = .ok (.bipush 6, 2) := by decide +kernel
theorem d_MOD_pipe_134 : decode prog_8_method_42_code 134 = .ok (.aload_n 0, 1) := by decide +kernel
theorem d_MOD_pipe_135 : decode prog_8_method_42_code 135 = .ok (.getfield 97, 3) := by decide +kernel
theorem d_MOD_pipe_138 : decode prog_8_method_42_code 138 = .ok (.imul, 1) := by decide +kernel
theorem d_MOD_pipe_139 : decode prog_8_method_42_code 139 = .ok (.iload_n 3, 1) := by decide +kernel
theorem d_MOD_pipe_140 : decode prog_8_method_42_code 140 = .ok (.iadd, 1) := by decide +kernel
theorem d_MOD_pipe_141 : decode prog_8_method_42_code 141 = .ok (.iconst 2, 1) := by decide +kernel
theorem d_MOD_pipe_142 : decode prog_8_method_42_code 142 = .ok (.iconst 2, 1) := by decide +kernel
theorem d_MOD_pipe_143 : decode prog_8_method_42_code 143 = .ok (.iload_n 1, 1) := by decide +kernel
theorem d_MOD_pipe_144 : decode prog_8_method_42_code 144 = .ok (.imul, 1) := by decide +kernel
theorem d_MOD_pipe_145 : decode prog_8_method_42_code 145 = .ok (.iadd, 1) := by decide +kernel
theorem d_MOD_pipe_146 : decode prog_8_method_42_code 146 = .ok (.iastore, 1) := by decide +kernel
theorem d_MOD_pipe_147 : decode prog_8_method_42_code 147 = .ok (.aload_n 0, 1) := by decide +kernel
theorem d_MOD_pipe_148 : decode prog_8_method_42_code 148 = .ok (.bipush 10, 2) := by decide +kernel
theorem d_MOD_pipe_150 : decode prog_8_method_42_code 150 = .ok (.iload_n 2, 1) := by decide +kernel
theorem d_MOD_pipe_151 : decode prog_8_method_42_code 151 = .ok (.invokevirtual 135, 3) := by decide +kernel
theorem d_MOD_pipe_154 : decode prog_8_method_42_code 154 = .ok (.aload_n 0, 1) := by decide +kernel
theorem d_MOD_pipe_155 : decode prog_8_method_42_code 155 = .ok (.bipush 11, 2) := by decide +kernel
theorem d_MOD_pipe_157 : decode prog_8_method_42_code 157 = .ok (.iload_n 3, 1) := by decide +kernel
theorem d_MOD_pipe_158 : decode prog_8_method_42_code 158 = .ok (.invokevirtual 135, 3) := by decide +kernel
theorem d_MOD_pipe_161 : decode prog_8_method_42_code 161 = .ok (.return_, 1) := by decide +kernel
theorem d_MOD_close_0 : decode prog_8_method_43_code 0 = .ok (.aload_n 0, 1) := by decide +kernel
theorem d_MOD_close_1 : decode prog_8_method_43_code 1 = .ok (.aload_n 0, 1) := by decide +kernel
theorem d_MOD_close_2 : decode prog_8_method_43_code 2 = .ok (.getfield 97, 3) := by decide +kernel
theorem d_MOD_close_5 : decode prog_8_method_43_code 5 = .ok (.iload_n 1, 1) := by decide +kernel
theorem d_MOD_close_6 : decode prog_8_method_43_code 6 = .ok (.invokevirtual 191, 3) := by decide +kernel
theorem d_MOD_close_9 : decode prog_8_method_43_code 9 = .ok (.ifCond .ge 5, 3) := by decide +kernel
theorem d_MOD_close_12 : decode prog_8_method_43_code 12 = .ok (.iconst (-1), 1) := by decide +kernel
theorem d_MOD_close_13 : decode prog_8_method_43_code 13 = .ok (.ireturn, 1) := by decide +kernel
theorem d_MOD_close_14 : decode prog_8_method_43_code 14 = .ok (.aload_n 0, 1) := by decide +kernel
theorem d_MOD_close_15 : decode prog_8_method_43_code 15 = .ok (.getfield 40, 3) := by decide +kernel
theorem d_MOD_close_18 : decode prog_8_method_43_code 18 = .ok (.bipush 6, 2) := by decide +kernel
theorem d_MOD_close_20 : decode prog_8_method_43_code 20 = .ok (.aload_n 0, 1) := by decide +kernel
theorem d_MOD_close_21 : decode prog_8_method_43_code 21 = .ok (.getfield 97, 3) := by decide +kernel
theorem d_MOD_close_24 : decode prog_8_method_43_code 24 = .ok (.imul, 1) := by decide +kernel
theorem d_MOD_close_25 : decode prog_8_method_43_code 25 = .ok (.iload_n 1, 1) := by decide +kernel
theorem d_MOD_close_26 : decode prog_8_method_43_code 26 = .ok (.iadd, 1) := by decide +kernel
theorem d_MOD_close_27 : decode prog_8_method_43_code 27 = .ok (.iconst (-1), 1) := by decide +kernel
theorem d_MOD_close_28 : decode prog_8_method_43_code 28 = .ok (.iastore, 1) := by decide +kernel
theorem d_MOD_close_29 : decode prog_8_method_43_code 29 = .ok (.aload_n 0, 1) := by decide +kernel
theorem d_MOD_close_30 : decode prog_8_method_43_code 30 = .ok (.invokevirtual 88, 3) := by decide +kernel
theorem d_MOD_close_33 : decode prog_8_method_43_code 33 = .ok (.iconst 0, 1) := by decide +kernel
theorem d_MOD_close_34 : decode prog_8_method_43_code 34 = .ok (.ireturn, 1) := by decide +kernel
