theorem d_K_close_0 : decode prog_1_method_40_code 0 = .ok (.aload_n 1, 1) := by decide +kernel
theorem d_K_close_1 : decode prog_1_method_40_code 1 = .ok (.iload_n 2, 1) := by decide +kernel
theorem d_K_close_2 : decode prog_1_method_40_code 2 = .ok (.invokevirtual 124, 3) := by decide +kernel
theorem d_K_close_5 : decode prog_1_method_40_code 5 = .ok (.iconst (-1), 1) := by decide +kernel
theorem d_K_close_6 : decode prog_1_method_40_code 6 = .ok (.if_icmp .ne 5, 3) := by decide +kernel
theorem d_K_close_9 : decode prog_1_method_40_code 9 = .ok (.iconst (-1), 1) := by decide +kernel
theorem d_K_close_10 : decode prog_1_method_40_code 10 = .ok (.ireturn, 1) := by decide +kernel
theorem d_K_close_11 : decode prog_1_method_40_code 11 = .ok (.aload_n 1, 1) := by decide +kernel
theorem d_K_close_12 : decode prog_1_method_40_code 12 = .ok (.getfield 76, 3) := by decide +kernel
theorem d_K_close_15 : decode prog_1_method_40_code 15 = .ok (.iload_n 2, 1) := by decide +kernel
theorem d_K_close_16 : decode prog_1_method_40_code 16 = .ok (.iconst (-1), 1) := by decide +kernel
theorem d_K_close_17 : decode prog_1_method_40_code 17 = .ok (.iastore, 1) := by decide +kernel
theorem d_K_close_18 : decode prog_1_method_40_code 18 = .ok (.iconst 0, 1) := by decide +kernel
theorem d_K_close_19 : decode prog_1_method_40_code 19 = .ok (.ireturn, 1) := by decide +kernel
theorem d_K_duplicate_0 : decode prog_1_method_41_code 0 = .ok (.aload_n 1, 1) := by decide +kernel
theorem d_K_duplicate_1 : decode prog_1_method_41_code 1 = .ok (.iconst 0, 1) := by decide +kernel
theorem d_K_duplicate_2 : decode prog_1_method_41_code 2 = .ok (.invokevirtual 264, 3) := by decide +kernel
theorem d_K_duplicate_5 : decode prog_1_method_41_code 5 = .ok (.istore_n 3, 1) := by decide +kernel
theorem d_K_duplicate_6 : decode prog_1_method_41_code 6 = .ok (.aload_n 1, 1) := by decide +kernel
theorem d_K_duplicate_7 : decode prog_1_method_41_code 7 = .ok (.iload_n 2, 1) := by decide +kernel
theorem d_K_duplicate_8 : decode prog_1_method_41_code 8 = .ok (.invokevirtual 124, 3) := by decide +kernel
theorem d_K_duplicate_11 : decode prog_1_method_41_code 11 = .ok (.iconst (-1), 1) := by decide +kernel
theorem d_K_duplicate_12 : decode prog_1_method_41_code 12 = .ok (.if_icmp .eq 8, 3) := by decide +kernel
theorem d_K_duplicate_15 : decode prog_1_method_41_code 15 = .ok (.iload_n 3, 1) := by decide +kernel
theorem d_K_duplicate_16 : decode prog_1_method_41_code 16 = .ok (.iconst (-1), 1) := by decide +kernel
theorem d_K_duplicate_17 : decode prog_1_method_41_code 17 = .ok (.if_icmp .ne 5, 3) := by decide +kernel
theorem d_K_duplicate_20 : decode prog_1_method_41_code 20 = .ok (.iconst (-1), 1) := by decide +kernel
theorem d_K_duplicate_21 : decode prog_1_method_41_code 21 = .ok (.ireturn, 1) := by decide +kernel
theorem d_K_duplicate_22 : decode prog_1_method_41_code 22 = .ok (.aload_n 1, 1) := by decide +kernel
theorem d_K_duplicate_23 : decode prog_1_method_41_code 23 = .ok (.getfield 76, 3) := by decide +kernel
theorem d_K_duplicate_26 : decode prog_1_method_41_code 26 = .ok (.iload_n 3, 1) := by decide +kernel
theorem d_K_duplicate_27 : decode prog_1_method_41_code 27 = .ok (.aload_n 1, 1) := by decide +kernel
theorem d_K_duplicate_28 : decode prog_1_method_41_code 28 = .ok (.getfield 76, 3) := by decide +kernel
theorem d_K_duplicate_31 : decode prog_1_method_41_code 31 = .ok (.iload_n 2, 1) := by decide +kernel
theorem d_K_duplicate_32 : decode prog_1_method_41_code 32 = .ok (.iaload, 1) := by decide +kernel
theorem d_K_duplicate_33 : decode prog_1_method_41_code 33 = .ok (.iastore, 1) := by decide +kernel
theorem d_K_duplicate_34 : decode prog_1_method_41_code 34 = .ok (.iload_n 3, 1) := by decide +kernel
theorem d_K_duplicate_35 : decode prog_1_method_41_code 35 = .ok (.ireturn, 1) := by decide +kernel
theorem d_K_kill_0 : decode prog_1_method_42_code 0 = .ok (.aload_n 0, 1) := by decide +kernel
theorem d_K_kill_1 : decode prog_1_method_42_code 1 = .ok (.iload_n 1, 1) := by decide +kernel
theorem d_K_kill_2 : decode prog_1_method_42_code 2 = .ok (.invokevirtual 94, 3) := by decide +kernel
theorem d_K_kill_5 : decode prog_1_method_42_code 5 = .ok (.astore_n 2, 1) := by decide +kernel
theorem d_K_kill_6 : decode prog_1_method_42_code 6 = .ok (.aload_n 2, 1) := by decide +kernel
theorem d_K_kill_7 : decode prog_1_method_42_code 7 = .ok (.ifnull 11, 3) := by decide +kernel
theorem d_K_kill_10 : decode prog_1_method_42_code 10 = .ok (.aload_n 2, 1) := by decide +kernel
theorem d_K_kill_11 : decode prog_1_method_42_code 11 = .ok (.getfield 98, 3) := by decide +kernel
theorem d_K_kill_14 : decode prog_1_method_42_code 14 = .ok (.iconst 5, 1) := by decide +kernel
theorem d_K_kill_15 : decode prog_1_method_42_code 15 = .ok (.if_icmp .ne 5, 3) := by decide +kernel
theorem d_K_kill_18 : decode prog_1_method_42_code 18 = .ok (.iconst (-1), 1) := by decide +kernel
theorem d_K_kill_19 : decode prog_1_method_42_code 19 = .ok (.ireturn, 1) := by decide +kernel
theorem d_K_kill_20 : decode prog_1_method_42_code 20 = .ok (.aload_n 0, 1) := by decide +kernel
theorem d_K_kill_21 : decode prog_1_method_42_code 21 = .ok (.aload_n 2, 1) := by decide +kernel
theorem d_K_kill_22 : decode prog_1_method_42_code 22 = .ok (.sipush 137, 3) := by decide +kernel
theorem d_K_kill_25 : decode prog_1_method_42_code 25 = .ok (.invokevirtual 168, 3) := by decide +kernel
theorem d_K_kill_28 : decode prog_1_method_42_code 28 = .ok (.iconst 0, 1) := by decide +kernel
theorem d_K_kill_29 : decode prog_1_method_42_code 29 = .ok (.ireturn, 1) := by decide +kernel
theorem d_K_end_0 : decode prog_1_method_43_code 0 = .ok (.aload_n 0, 1) := by decide +kernel
theorem d_K_end_1 : decode prog_1_method_43_code 1 = .ok (.getfield 18, 3) := by decide +kernel
theorem d_K_end_4 : decode prog_1_method_43_code 4 = .ok (.aload_n 1, 1) := by decide +kernel
theorem d_K_end_5 : decode prog_1_method_43_code 5 = .ok (.invokevirtual 270, 3) := by decide +kernel
theorem d_K_end_8 : decode prog_1_method_43_code 8 = .ok (.aload_n 1, 1) := by decide +kernel
theorem d_K_end_9 : decode prog_1_method_43_code 9 = .ok (.invokevirtual 273, 3) := by decide +kernel
theorem d_K_end_12 : decode prog_1_method_43_code 12 = .ok (.aload_n 0, 1) := by decide +kernel
theorem d_K_end_13 : decode prog_1_method_43_code 13 = .ok (.getfield 43, 3) := by decide +kernel
theorem d_K_end_16 : decode prog_1_method_43_code 16 = .ok (.aload_n 1, 1) := by decide +kernel
theorem d_K_end_17 : decode prog_1_method_43_code 17 = .ok (.getfield 140, 3) := by decide +kernel
theorem d_K_end_20 : decode prog_1_method_43_code 20 = .ok (.invokevirtual 276, 3) := by decide +kernel
theorem d_K_end_23 : decode prog_1_method_43_code 23 = .ok (.aload_n 1, 1) := by decide +kernel
theorem d_K_end_24 : decode prog_1_method_43_code 24 = .ok (.iconst 5, 1) := by decide +kernel
theorem d_K_end_25 : decode prog_1_method_43_code 25 = .ok (.putfield 98, 3) := by decide +kernel
theorem d_K_end_28 : decode prog_1_method_43_code 28 = .ok (.aload_n 1, 1) := by decide +kernel
theorem d_K_end_29 : decode prog_1_method_43_code 29 = .ok (.iload_n 2, 1) := by decide +kernel
theorem d_K_end_30 : decode prog_1_method_43_code 30 = .ok (.putfield 101, 3) := by decide +kernel
theorem d_K_end_33 : decode prog_1_method_43_code 33 = .ok (.aload_n 0, 1) := by decide +kernel
theorem d_K_end_34 : decode prog_1_method_43_code 34 = .ok (.aload_n 1, 1) := by decide +kernel
theorem d_K_end_35 : decode prog_1_method_43_code 35 = .ok (.invokevirtual 279, 3) := by decide +kernel
theorem d_K_end_38 : decode prog_1_method_43_code 38 = .ok (.aload_n 1, 1) := by decide +kernel
theorem d_K_end_39 : decode prog_1_method_43_code 39 = .ok (.getfield 104, 3) := by decide +kernel
theorem d_K_end_42 : decode prog_1_method_43_code 42 = .ok (.ifCond .ne 16, 3) := by decide +kernel
theorem d_K_end_45 : decode prog_1_method_43_code 45 = .ok (.aload_n 1, 1) := by decide +kernel
theorem d_K_end_46 : decode prog_1_method_43_code 46 = .ok (.getfield 140, 3) := by decide +kernel
theorem d_K_end_49 : decode prog_1_method_43_code 49 = .ok (.iconst 1, 1) := by decide +kernel
theorem d_K_end_50 : decode prog_1_method_43_code 50 = .ok (.if_icmp .eq 8, 3) := by decide +kernel
theorem d_K_end_53 : decode prog_1_method_43_code 53 = .ok (.aload_n 1, 1) := by decide +kernel
theorem d_K_end_54 : decode prog_1_method_43_code 54 = .ok (.iconst 0, 1) := by decide +kernel
theorem d_K_end_55 : decode prog_1_method_43_code 55 = .ok (.putfield 98, 3) := by decide +kernel
theorem d_K_end_58 : decode prog_1_method_43_code 58 = .ok (.return_, 1) := by decide +kernel
theorem d_K_handOverChildren_0 : decode prog_1_method_44_code 0 = .ok (.aload_n 0, 1) := by decide +kernel
theorem d_K_handOverChildren_1 : decode prog_1_method_44_code 1 = .ok (.getfield 28, 3) := by decide +kernel
theorem d_K_handOverChildren_4 : decode prog_1_method_44_code 4 = .ok (.iconst 0, 1) := by decide +kernel
theorem d_K_handOverChildren_5 : decode prog_1_method_44_code 5 = .ok (.aaload, 1) := by decide +kernel
theorem d_K_handOverChildren_6 : decode prog_1_method_44_code 6 = .ok (.getfield 98, 3) := by decide +kernel
theorem d_K_handOverChildren_9 : decode prog_1_method_44_code 9 = .ok (.iconst 5, 1) := by decide +kernel
theorem d_K_handOverChildren_10 : decode prog_1_method_44_code 10 = .ok (.if_icmp .ne 7, 3) := by decide +kernel
theorem d_K_handOverChildren_13 : decode prog_1_method_44_code 13 = .ok (.iconst 0, 1) := by decide +kernel
theorem d_K_handOverChildren_14 : decode prog_1_method_44_code 14 = .ok (.goto 4, 3) := by decide +kernel
theorem d_K_handOverChildren_17 : decode prog_1_method_44_code 17 = .ok (.iconst 1, 1) := by decide +kernel
theorem d_K_handOverChildren_18 : decode prog_1_method_44_code 18 = .ok (.istore_n 2, 1) := by decide +kernel
theorem d_K_handOverChildren_19 : decode prog_1_method_44_code 19 = .ok (.iconst 0, 1) := by decide +kernel
theorem d_K_handOverChildren_20 : decode prog_1_method_44_code 20 = .ok (.istore_n 3, 1) := by decide +kernel
theorem d_K_handOverChildren_21 : decode prog_1_method_44_code 21 = .ok (.iload_n 3, 1) := by decide +kernel
theorem d_K_handOverChildren_22 : decode prog_1_method_44_code 22 = .ok (.bipush 8, 2) := by decide +kernel
theorem d_K_handOverChildren_24 : decode prog_1_method_44_code 24 = .ok (.if_icmp .ge 51, 3) := by decide +kernel
theorem d_K_handOverChildren_27 : decode prog_1_method_44_code 27 = .ok (.aload_n 0, 1) := by decide +kernel
theorem d_K_handOverChildren_28 : decode prog_1_method_44_code 28 = .ok (.getfield 28, 3) := by decide +kernel
theorem d_K_handOverChildren_31 : decode prog_1_method_44_code 31 = .ok (.iload_n 3, 1) := by decide +kernel
theorem d_K_handOverChildren_32 : decode prog_1_method_44_code 32 = .ok (.aaload, 1) := by decide +kernel
theorem d_K_handOverChildren_33 : decode prog_1_method_44_code 33 = .ok (.astore 4, 2) := by decide +kernel
theorem d_K_handOverChildren_35 : decode prog_1_method_44_code 35 = .ok (.aload 4, 2) := by decide +kernel
theorem d_K_handOverChildren_37 : decode prog_1_method_44_code 37 = .ok (.aload_n 1, 1) := by decide +kernel
theorem d_K_handOverChildren_38 : decode prog_1_method_44_code 38 = .ok (.invokevirtual 249, 3) := by decide +kernel
theorem d_K_handOverChildren_41 : decode prog_1_method_44_code 41 = .ok (.ifCond .eq 28, 3) := by decide +kernel
theorem d_K_handOverChildren_44 : decode prog_1_method_44_code 44 = .ok (.aload 4, 2) := by decide +kernel
theorem d_K_handOverChildren_46 : decode prog_1_method_44_code 46 = .ok (.iload_n 2, 1) := by decide +kernel
theorem d_K_handOverChildren_47 : decode prog_1_method_44_code 47 = .ok (.putfield 104, 3) := by decide +kernel
theorem d_K_handOverChildren_50 : decode prog_1_method_44_code 50 = .ok (.iload_n 2, 1) := by decide +kernel
theorem d_K_handOverChildren_51 : decode prog_1_method_44_code 51 = .ok (.ifCond .ne 18, 3) := by decide +kernel
theorem d_K_handOverChildren_54 : decode prog_1_method_44_code 54 = .ok (.aload 4, 2) := by decide +kernel
theorem d_K_handOverChildren_56 : decode prog_1_method_44_code 56 = .ok (.getfield 98, 3) := by decide +kernel
theorem d_K_handOverChildren_59 : decode prog_1_method_44_code 59 = .ok (.iconst 5, 1) := by decide +kernel
theorem d_K_handOverChildren_60 : decode prog_1_method_44_code 60 = .ok (.if_icmp .ne 9, 3) := by decide +kernel
theorem d_K_handOverChildren_63 : decode prog_1_method_44_code 63 = .ok (.aload 4, 2) := by decide +kernel
theorem d_K_handOverChildren_65 : decode prog_1_method_44_code 65 = .ok (.iconst 0, 1) := by decide +kernel
theorem d_K_handOverChildren_66 : decode prog_1_method_44_code 66 = .ok (.putfield 98, 3) := by decide +kernel
theorem d_K_handOverChildren_69 : decode prog_1_method_44_code 69 = .ok (.iinc 3 1, 3) := by decide +kernel
theorem d_K_handOverChildren_72 : decode prog_1_method_44_code 72 = .ok (.goto (-51), 3) := by decide +kernel
theorem d_K_handOverChildren_75 : decode prog_1_method_44_code 75 = .ok (.return_, 1) := by decide +kernel
theorem d_K_isReadingEnd_0 : decode prog_1_method_45_code 0 = .ok (.iload_n 0, 1) := by decide +kernel
theorem d_K_isReadingEnd_1 : decode prog_1_method_45_code 1 = .ok (.ifCond .le 14, 3) := by decide +kernel
theorem d_K_isReadingEnd_4 : decode prog_1_method_45_code 4 = .ok (.iload_n 0, 1) := by decide +kernel
theorem d_K_isReadingEnd_5 : decode prog_1_method_45_code 5 = .ok (.iconst 1, 1) := by decide +kernel
theorem d_K_isReadingEnd_6 : decode prog_1_method_45_code 6 = .ok (.iand, 1) := by decide +kernel
theorem d_K_isReadingEnd_7 : decode prog_1_method_45_code 7 = .ok (.iconst 1, 1) := by decide +kernel
theorem d_K_isReadingEnd_8 : decode prog_1_method_45_code 8 = .ok (.if_icmp .ne 7, 3) := by decide +kernel
theorem d_K_isReadingEnd_11 : decode prog_1_method_45_code 11 = .ok (.iconst 1, 1) := by decide +kernel
theorem d_K_isReadingEnd_12 : decode prog_1_method_45_code 12 = .ok (.goto 4, 3) := by decide +kernel
theorem d_K_isReadingEnd_15 : decode prog_1_method_45_code 15 = .ok (.iconst 0, 1) := by decide +kernel
theorem d_K_isReadingEnd_16 : decode prog_1_method_45_code 16 = .ok (.ireturn, 1) := by decide +kernel
theorem d_K_isWritingEnd_0 : decode prog_1_method_46_code 0 = .ok (.iload_n 0, 1) := by decide +kernel
theorem d_K_isWritingEnd_1 : decode prog_1_method_46_code 1 = .ok (.ifCond .le 13, 3) := by decide +kernel
theorem d_K_isWritingEnd_4 : decode prog_1_method_46_code 4 = .ok (.iload_n 0, 1) := by decide +kernel
theorem d_K_isWritingEnd_5 : decode prog_1_method_46_code 5 = .ok (.iconst 1, 1) := by decide +kernel
theorem d_K_isWritingEnd_6 : decode prog_1_method_46_code 6 = .ok (.iand, 1) := by decide +kernel
theorem d_K_isWritingEnd_7 : decode prog_1_method_46_code 7 = .ok (.ifCond .ne 7, 3) := by decide +kernel
theorem d_K_isWritingEnd_10 : decode prog_1_method_46_code 10 = .ok (.iconst 1, 1) := by decide +kernel
theorem d_K_isWritingEnd_11 : decode prog_1_method_46_code 11 = .ok (.goto 4, 3) := by decide +kernel
theorem d_K_isWritingEnd_14 : decode prog_1_method_46_code 14 = .ok (.iconst 0, 1) := by decide +kernel
theorem d_K_isWritingEnd_15 : decode prog_1_method_46_code 15 = .ok (.ireturn, 1) := by decide +kernel
theorem d_K_pipeOf_0 : decode prog_1_method_47_code 0 = .ok (.aload_n 0, 1) := by decide +kernel
theorem d_K_pipeOf_1 : decode prog_1_method_47_code 1 = .ok (.getfield 35, 3) := by decide +kernel
theorem d_K_pipeOf_4 : decode prog_1_method_47_code 4 = .ok (.iload_n 1, 1) := by decide +kernel
theorem d_K_pipeOf_5 : decode prog_1_method_47_code 5 = .ok (.iconst 1, 1) := by decide +kernel
theorem d_K_pipeOf_6 : decode prog_1_method_47_code 6 = .ok (.isub, 1) := by decide +kernel
theorem d_K_pipeOf_7 : decode prog_1_method_47_code 7 = .ok (.iconst 1, 1) := by decide +kernel
theorem d_K_pipeOf_8 : decode prog_1_method_47_code 8 = .ok (.iushr, 1) := by decide +kernel
theorem d_K_pipeOf_9 : decode prog_1_method_47_code 9 = .ok (.iconst 3, 1) := by decide +kernel
theorem d_K_pipeOf_10 : decode prog_1_method_47_code 10 = .ok (.iand, 1) := by decide +kernel
theorem d_K_pipeOf_11 : decode prog_1_method_47_code 11 = .ok (.aaload, 1) := by decide +kernel
theorem d_K_pipeOf_12 : decode prog_1_method_47_code 12 = .ok (.areturn, 1) := by decide +kernel
theorem d_K_isHeld_0 : decode prog_1_method_48_code 0 = .ok (.iconst 0, 1) := by decide +kernel
theorem d_K_isHeld_1 : decode prog_1_method_48_code 1 = .ok (.istore_n 2, 1) := by decide +kernel
theorem d_K_isHeld_2 : decode prog_1_method_48_code 2 = .ok (.iload_n 2, 1) := by decide +kernel
theorem d_K_isHeld_3 : decode prog_1_method_48_code 3 = .ok (.bipush 8, 2) := by decide +kernel
theorem d_K_isHeld_5 : decode prog_1_method_48_code 5 = .ok (.if_icmp .ge 40, 3) := by decide +kernel
theorem d_K_isHeld_8 : decode prog_1_method_48_code 8 = .ok (.iconst 0, 1) := by decide +kernel
theorem d_K_isHeld_9 : decode prog_1_method_48_code 9 = .ok (.istore_n 3, 1) := by decide +kernel
theorem d_K_isHeld_10 : decode prog_1_method_48_code 10 = .ok (.iload_n 3, 1) := by decide +kernel
theorem d_K_isHeld_11 : decode prog_1_method_48_code 11 = .ok (.bipush 6, 2) := by decide +kernel
theorem d_K_isHeld_13 : decode prog_1_method_48_code 13 = .ok (.if_icmp .ge 26, 3) := by decide +kernel
theorem d_K_isHeld_16 : decode prog_1_method_48_code 16 = .ok (.aload_n 0, 1) := by decide +kernel
theorem d_K_isHeld_17 : decode prog_1_method_48_code 17 = .ok (.getfield 28, 3) := by decide +kernel
theorem d_K_isHeld_20 : decode prog_1_method_48_code 20 = .ok (.iload_n 2, 1) := by decide +kernel
theorem d_K_isHeld_21 : decode prog_1_method_48_code 21 = .ok (.aaload, 1) := by decide +kernel
theorem d_K_isHeld_22 : decode prog_1_method_48_code 22 = .ok (.getfield 76, 3) := by decide +kernel
theorem d_K_isHeld_25 : decode prog_1_method_48_code 25 = .ok (.iload_n 3, 1) := by decide +kernel
theorem d_K_isHeld_26 : decode prog_1_method_48_code 26 = .ok (.iaload, 1) := by decide +kernel
theorem d_K_isHeld_27 : decode prog_1_method_48_code 27 = .ok (.iload_n 1, 1) := by decide +kernel
theorem d_K_isHeld_28 : decode prog_1_method_48_code 28 = .ok (.if_icmp .ne 5, 3) := by decide +kernel
theorem d_K_isHeld_31 : decode prog_1_method_48_code 31 = .ok (.iconst 1, 1) := by decide +kernel
theorem d_K_isHeld_32 : decode prog_1_method_48_code 32 = .ok (.ireturn, 1) := by decide +kernel
theorem d_K_isHeld_33 : decode prog_1_method_48_code 33 = .ok (.iinc 3 1, 3) := by decide +kernel
theorem d_K_isHeld_36 : decode prog_1_method_48_code 36 = .ok (.goto (-26), 3) := by decide +kernel
theorem d_K_isHeld_39 : decode prog_1_method_48_code 39 = .ok (.iinc 2 1, 3) := by decide +kernel
theorem d_K_isHeld_42 : decode prog_1_method_48_code 42 = .ok (.goto (-40), 3) := by decide +kernel
theorem d_K_isHeld_45 : decode prog_1_method_48_code 45 = .ok (.iconst 0, 1) := by decide +kernel
theorem d_K_isHeld_46 : decode prog_1_method_48_code 46 = .ok (.ireturn, 1) := by decide +kernel
theorem d_K_leastFreeReadingEnd_0 : decode prog_1_method_49_code 0 = .ok (.iconst 0, 1) := by decide +kernel
theorem d_K_leastFreeReadingEnd_1 : decode prog_1_method_49_code 1 = .ok (.istore_n 1, 1) := by decide +kernel
theorem d_K_leastFreeReadingEnd_2 : decode prog_1_method_49_code 2 = .ok (.iload_n 1, 1) := by decide +kernel
theorem d_K_leastFreeReadingEnd_3 : decode prog_1_method_49_code 3 = .ok (.iconst 4, 1) := by decide +kernel
theorem d_K_leastFreeReadingEnd_4 : decode prog_1_method_49_code 4 = .ok (.if_icmp .ge 23, 3) := by decide +kernel
theorem d_K_leastFreeReadingEnd_7 : decode prog_1_method_49_code 7 = .ok (.aload_n 0, 1) := by decide +kernel
theorem d_K_leastFreeReadingEnd_8 : decode prog_1_method_49_code 8 = .ok (.iload_n 1, 1) := by decide +kernel
theorem d_K_leastFreeReadingEnd_9 : decode prog_1_method_49_code 9 = .ok (.invokevirtual 127, 3) := by decide +kernel
theorem d_K_leastFreeReadingEnd_12 : decode prog_1_method_49_code 12 = .ok (.ifCond .eq 9, 3) := by decide +kernel
theorem d_K_leastFreeReadingEnd_15 : decode prog_1_method_49_code 15 = .ok (.iconst 1, 1) := by decide +kernel
theorem d_K_leastFreeReadingEnd_16 : decode prog_1_method_49_code 16 = .ok (.iconst 2, 1) := by decide +kernel
theorem d_K_leastFreeReadingEnd_17 : decode prog_1_method_49_code 17 = .ok (.iload_n 1, 1) := by decide +kernel
theorem d_K_leastFreeReadingEnd_18 : decode prog_1_method_49_code 18 = .ok (.imul, 1) := by decide +kernel
theorem d_K_leastFreeReadingEnd_19 : decode prog_1_method_49_code 19 = .ok (.iadd, 1) := by decide +kernel
theorem d_K_leastFreeReadingEnd_20 : decode prog_1_method_49_code 20 = .ok (.ireturn, 1) := by decide +kernel
theorem d_K_leastFreeReadingEnd_21 : decode prog_1_method_49_code 21 = .ok (.iinc 1 1, 3) := by decide +kernel
theorem d_K_leastFreeReadingEnd_24 : decode prog_1_method_49_code 24 = .ok (.goto (-22), 3) := by decide +kernel
theorem d_K_leastFreeReadingEnd_27 : decode prog_1_method_49_code 27 = .ok (.iconst (-1), 1) := by decide +kernel
theorem d_K_leastFreeReadingEnd_28 : decode prog_1_method_49_code 28 = .ok (.ireturn, 1) := by decide +kernel
theorem d_K_isFreePipe_0 : decode prog_1_method_50_code 0 = .ok (.aload_n 0, 1) := by decide +kernel
theorem d_K_isFreePipe_1 : decode prog_1_method_50_code 1 = .ok (.iconst 1, 1) := by decide +kernel
theorem d_K_isFreePipe_2 : decode prog_1_method_50_code 2 = .ok (.iconst 2, 1) := by decide +kernel
theorem d_K_isFreePipe_3 : decode prog_1_method_50_code 3 = .ok (.iload_n 1, 1) := by decide +kernel
theorem d_K_isFreePipe_4 : decode prog_1_method_50_code 4 = .ok (.imul, 1) := by decide +kernel
theorem d_K_isFreePipe_5 : decode prog_1_method_50_code 5 = .ok (.iadd, 1) := by decide +kernel
theorem d_K_isFreePipe_6 : decode prog_1_method_50_code 6 = .ok (.invokevirtual 201, 3) := by decide +kernel
theorem d_K_isFreePipe_9 : decode prog_1_method_50_code 9 = .ok (.ifCond .ne 19, 3) := by decide +kernel
theorem d_K_isFreePipe_12 : decode prog_1_method_50_code 12 = .ok (.aload_n 0, 1) := by decide +kernel
theorem d_K_isFreePipe_13 : decode prog_1_method_50_code 13 = .ok (.iconst 2, 1) := by decide +kernel
theorem d_K_isFreePipe_14 : decode prog_1_method_50_code 14 = .ok (.iconst 2, 1) := by decide +kernel
theorem d_K_isFreePipe_15 : decode prog_1_method_50_code 15 = .ok (.iload_n 1, 1) := by decide +kernel
theorem d_K_isFreePipe_16 : decode prog_1_method_50_code 16 = .ok (.imul, 1) := by decide +kernel
theorem d_K_isFreePipe_17 : decode prog_1_method_50_code 17 = .ok (.iadd, 1) := by decide +kernel
theorem d_K_isFreePipe_18 : decode prog_1_method_50_code 18 = .ok (.invokevirtual 201, 3) := by decide +kernel
theorem d_K_isFreePipe_21 : decode prog_1_method_50_code 21 = .ok (.ifCond .ne 7, 3) := by decide +kernel
theorem d_K_isFreePipe_24 : decode prog_1_method_50_code 24 = .ok (.iconst 1, 1) := by decide +kernel
theorem d_K_isFreePipe_25 : decode prog_1_method_50_code 25 = .ok (.goto 4, 3) := by decide +kernel
theorem d_K_isFreePipe_28 : decode prog_1_method_50_code 28 = .ok (.iconst 0, 1) := by decide +kernel
theorem d_K_isFreePipe_29 : decode prog_1_method_50_code 29 = .ok (.ireturn, 1) := by decide +kernel
theorem d_MOD_init_0 : decode prog_8_method_1_code 0 = .ok (.aload_n 0, 1) := by decide +kernel
theorem d_MOD_init_1 : decode prog_8_method_1_code 1 = .ok (.invokespecial 1, 3) := by decide +kernel
theorem d_MOD_init_4 : decode prog_8_method_1_code 4 = .ok (.aload_n 0, 1) := by decide +kernel
theorem d_MOD_init_5 : decode prog_8_method_1_code 5 = .ok (.sipush 640, 3) := by decide +kernel
theorem d_MOD_init_8 : decode prog_8_method_1_code 8 = .ok (.newarray .int, 2) := by decide +kernel
theorem d_MOD_init_10 : decode prog_8_method_1_code 10 = .ok (.putfield 7, 3) := by decide +kernel
theorem d_MOD_init_13 : decode prog_8_method_1_code 13 = .ok (.aload_n 0, 1) := by decide +kernel
theorem d_MOD_init_14 : decode prog_8_method_1_code 14 = .ok (.bipush 40, 2) := by decide +kernel
theorem d_MOD_init_16 : decode prog_8_method_1_code 16 = .ok (.newarray .int, 2) := by decide +kernel
theorem d_MOD_init_18 : decode prog_8_method_1_code 18 = .ok (.putfield 13, 3) := by decide +kernel
theorem d_MOD_init_21 : decode prog_8_method_1_code 21 = .ok (.aload_n 0, 1) := by decide +kernel
theorem d_MOD_init_22 : decode prog_8_method_1_code 22 = .ok (.bipush 64, 2) := by decide +kernel
theorem d_MOD_init_24 : decode prog_8_method_1_code 24 = .ok (.newarray .int, 2) := by decide +kernel
theorem d_MOD_init_26 : decode prog_8_method_1_code 26 = .ok (.putfield 16, 3) := by decide +kernel
theorem d_MOD_init_29 : decode prog_8_method_1_code 29 = .ok (.aload_n 0, 1) := by decide +kernel
theorem d_MOD_init_30 : decode prog_8_method_1_code 30 = .ok (.bipush 9, 2) := by decide +kernel
theorem d_MOD_init_32 : decode prog_8_method_1_code 32 = .ok (.newarray .int, 2) := by decide +kernel
theorem d_MOD_init_34 : decode prog_8_method_1_code 34 = .ok (.putfield 19, 3) := by decide +kernel
theorem d_MOD_init_37 : decode prog_8_method_1_code 37 = .ok (.aload_n 0, 1) := by decide +kernel
theorem d_MOD_init_38 : decode prog_8_method_1_code 38 = .ok (.bipush 9, 2) := by decide +kernel
theorem d_MOD_init_40 : decode prog_8_method_1_code 40 = .ok (.newarray .int, 2) := by decide +kernel
theorem d_MOD_init_42 : decode prog_8_method_1_code 42 = .ok (.putfield 22, 3) := by decide +kernel
theorem d_MOD_init_45 : decode prog_8_method_1_code 45 = .ok (.aload_n 0, 1) := by decide +kernel
theorem d_MOD_init_46 : decode prog_8_method_1_code 46 = .ok (.bipush 9, 2) := by decide +kernel
theorem d_MOD_init_48 : decode prog_8_method_1_code 48 = .ok (.newarray .int, 2) := by decide +kernel
theorem d_MOD_init_50 : decode prog_8_method_1_code 50 = .ok (.putfield 25, 3) := by decide +kernel
theorem d_MOD_init_53 : decode prog_8_method_1_code 53 = .ok (.aload_n 0, 1) := by decide +kernel
theorem d_MOD_init_54 : decode prog_8_method_1_code 54 = .ok (.bipush 9, 2) := by decide +kernel
theorem d_MOD_init_56 : decode prog_8_method_1_code 56 = .ok (.newarray .int, 2) := by decide +kernel
theorem d_MOD_init_58 : decode prog_8_method_1_code 58 = .ok (.putfield 28, 3) := by decide +kernel
theorem d_MOD_init_61 : decode prog_8_method_1_code 61 = .ok (.aload_n 0, 1) := by decide +kernel
theorem d_MOD_init_62 : decode prog_8_method_1_code 62 = .ok (.bipush 9, 2) := by decide +kernel
theorem d_MOD_init_64 : decode prog_8_method_1_code 64 = .ok (.newarray .int, 2) := by decide +kernel
theorem d_MOD_init_66 : decode prog_8_method_1_code 66 = .ok (.putfield 31, 3) := by decide +kernel
theorem d_MOD_init_69 : decode prog_8_method_1_code 69 = .ok (.aload_n 0, 1) := by decide +kernel
theorem d_MOD_init_70 : decode prog_8_method_1_code 70 = .ok (.sipush 288, 3) := by decide +kernel
theorem d_MOD_init_73 : decode prog_8_method_1_code 73 = .ok (.newarray .int, 2) := by decide +kernel
theorem d_MOD_init_75 : decode prog_8_method_1_code 75 = .ok (.putfield 34, 3) := by decide +kernel
theorem d_MOD_init_78 : decode prog_8_method_1_code 78 = .ok (.aload_n 0, 1) := by decide +kernel
theorem d_MOD_init_79 : decode prog_8_method_1_code 79 = .ok (.bipush 72, 2) := by decide +kernel
theorem d_MOD_init_81 : decode prog_8_method_1_code 81 = .ok (.newarray .int, 2) := by decide +kernel
theorem d_MOD_init_83 : decode prog_8_method_1_code 83 = .ok (.putfield 37, 3) := by decide +kernel
theorem d_MOD_init_86 : decode prog_8_method_1_code 86 = .ok (.aload_n 0, 1) := by decide +kernel
theorem d_MOD_init_87 : decode prog_8_method_1_code 87 = .ok (.bipush 54, 2) := by decide +kernel
theorem d_MOD_init_89 : decode prog_8_method_1_code 89 = .ok (.newarray .int, 2) := by decide +kernel
theorem d_MOD_init_91 : decode prog_8_method_1_code 91 = .ok (.putfield 40, 3) := by decide +kernel
theorem d_MOD_init_94 : decode prog_8_method_1_code 94 = .ok (.aload_n 0, 1) := by decide +kernel
theorem d_MOD_init_95 : decode prog_8_method_1_code 95 = .ok (.bipush 9, 2) := by decide +kernel
theorem d_MOD_init_97 : decode prog_8_method_1_code 97 = .ok (.newarray .int, 2) := by decide +kernel
theorem d_MOD_init_99 : decode prog_8_method_1_code 99 = .ok (.putfield 43, 3) := by decide +kernel
theorem d_MOD_init_102 : decode prog_8_method_1_code 102 = .ok (.aload_n 0, 1) := by decide +kernel
theorem d_MOD_init_103 : decode prog_8_method_1_code 103 = .ok (.bipush 32, 2) := by decide +kernel
theorem d_MOD_init_105 : decode prog_8_method_1_code 105 = .ok (.newarray .int, 2) := by decide +kernel
theorem d_MOD_init_107 : decode prog_8_method_1_code 107 = .ok (.putfield 46, 3) := by decide +kernel
theorem d_MOD_init_110 : decode prog_8_method_1_code 110 = .ok (.aload_n 0, 1) := by decide +kernel
theorem d_MOD_init_111 : decode prog_8_method_1_code 111 = .ok (.iconst 4, 1) := by decide +kernel
theorem d_MOD_init_112 : decode prog_8_method_1_code 112 = .ok (.newarray .int, 2) := by decide +kernel
theorem d_MOD_init_114 : decode prog_8_method_1_code 114 = .ok (.putfield 49, 3) := by decide +kernel
theorem d_MOD_init_117 : decode prog_8_method_1_code 117 = .ok (.aload_n 0, 1) := by decide +kernel
theorem d_MOD_init_118 : decode prog_8_method_1_code 118 = .ok (.sipush 200, 3) := by decide +kernel
theorem d_MOD_init_121 : decode prog_8_method_1_code 121 = .ok (.newarray .int, 2) := by decide +kernel
theorem d_MOD_init_123 : decode prog_8_method_1_code 123 = .ok (.putfield 52, 3) := by decide +kernel
theorem d_MOD_init_126 : decode prog_8_method_1_code 126 = .ok (.aload_n 0, 1) := by decide +kernel
theorem d_MOD_init_127 : decode prog_8_method_1_code 127 = .ok (.iload_n 1, 1) := by decide +kernel
theorem d_MOD_init_128 : decode prog_8_method_1_code 128 = .ok (.iconst 1, 1) := by decide +kernel
theorem d_MOD_init_129 : decode prog_8_method_1_code 129 = .ok (.if_icmp .lt 13, 3) := by decide +kernel
theorem d_MOD_init_132 : decode prog_8_method_1_code 132 = .ok (.iload_n 1, 1) := by decide +kernel
theorem d_MOD_init_133 : decode prog_8_method_1_code 133 = .ok (.bipush 40, 2) := by decide +kernel
theorem d_MOD_init_135 : decode prog_8_method_1_code 135 = .ok (.if_icmp .gt 7, 3) := by decide +kernel
theorem d_MOD_init_138 : decode prog_8_method_1_code 138 = .ok (.iload_n 1, 1) := by decide +kernel
theorem d_MOD_init_139 : decode prog_8_method_1_code 139 = .ok (.goto 5, 3) := by decide +kernel
theorem d_MOD_init_142 : decode prog_8_method_1_code 142 = .ok (.bipush 12, 2) := by decide +kernel
theorem d_MOD_init_144 : decode prog_8_method_1_code 144 = .ok (.putfield 55, 3) := by decide +kernel
theorem d_MOD_init_147 : decode prog_8_method_1_code 147 = .ok (.aload_n 0, 1) := by decide +kernel
theorem d_MOD_init_148 : decode prog_8_method_1_code 148 = .ok (.iload_n 2, 1) := by decide +kernel
theorem d_MOD_init_149 : decode prog_8_method_1_code 149 = .ok (.iconst 1, 1) := by decide +kernel
theorem d_MOD_init_150 : decode prog_8_method_1_code 150 = .ok (.if_icmp .lt 13, 3) := by decide +kernel
theorem d_MOD_init_153 : decode prog_8_method_1_code 153 = .ok (.iload_n 2, 1) := by decide +kernel
theorem d_MOD_init_154 : decode prog_8_method_1_code 154 = .ok (.bipush 9, 2) := by decide +kernel
theorem d_MOD_init_156 : decode prog_8_method_1_code 156 = .ok (.if_icmp .gt 7, 3) := by decide +kernel
theorem d_MOD_init_159 : decode prog_8_method_1_code 159 = .ok (.iload_n 2, 1) := by decide +kernel
theorem d_MOD_init_160 : decode prog_8_method_1_code 160 = .ok (.goto 4, 3) := by decide +kernel
theorem d_MOD_init_163 : decode prog_8_method_1_code 163 = .ok (.iconst 4, 1) := by decide +kernel
theorem d_MOD_init_164 : decode prog_8_method_1_code 164 = .ok (.putfield 59, 3) := by decide +kernel
theorem d_MOD_init_167 : decode prog_8_method_1_code 167 = .ok (.iconst 0, 1) := by decide +kernel
theorem d_MOD_init_168 : decode prog_8_method_1_code 168 = .ok (.istore_n 3, 1) := by decide +kernel
theorem d_MOD_init_169 : decode prog_8_method_1_code 169 = .ok (.iload_n 3, 1) := by decide +kernel
theorem d_MOD_init_170 : decode prog_8_method_1_code 170 = .ok (.bipush 54, 2) := by decide +kernel
theorem d_MOD_init_172 : decode prog_8_method_1_code 172 = .ok (.if_icmp .ge 16, 3) := by decide +kernel
theorem d_MOD_init_175 : decode prog_8_method_1_code 175 = .ok (.aload_n 0, 1) := by decide +kernel
theorem d_MOD_init_176 : decode prog_8_method_1_code 176 = .ok (.getfield 40, 3) := by decide +kernel
theorem d_MOD_init_179 : decode prog_8_method_1_code 179 = .ok (.iload_n 3, 1) := by decide +kernel
theorem d_MOD_init_180 : decode prog_8_method_1_code 180 = .ok (.iconst (-1), 1) := by decide +kernel
theorem d_MOD_init_181 : decode prog_8_method_1_code 181 = .ok (.iastore, 1) := by decide +kernel
theorem d_MOD_init_182 : decode prog_8_method_1_code 182 = .ok (.iinc 3 1, 3) := by decide +kernel
theorem d_MOD_init_185 : decode prog_8_method_1_code 185 = .ok (.goto (-16), 3) := by decide +kernel
theorem d_MOD_init_188 : decode prog_8_method_1_code 188 = .ok (.return_, 1) := by decide +kernel
theorem d_MOD_load_0 : decode prog_8_method_2_code 0 = .ok (.aload_n 0, 1) := by decide +kernel
theorem d_MOD_load_1 : decode prog_8_method_2_code 1 = .ok (.getfield 62, 3) := by decide +kernel
theorem d_MOD_load_4 : decode prog_8_method_2_code 4 = .ok (.ifCond .ne 12, 3) := by decide +kernel
theorem d_MOD_load_7 : decode prog_8_method_2_code 7 = .ok (.aload_n 0, 1) := by decide +kernel
theorem d_MOD_load_8 : decode prog_8_method_2_code 8 = .ok (.getfield 66, 3) := by decide +kernel
theorem d_MOD_load_11 : decode prog_8_method_2_code 11 = .ok (.bipush 64, 2) := by decide +kernel
theorem d_MOD_load_13 : decode prog_8_method_2_code 13 = .ok (.if_icmp .ne 5, 3) := by decide +kernel
theorem d_MOD_load_16 : decode prog_8_method_2_code 16 = .ok (.iconst 0, 1) := by decide +kernel
theorem d_MOD_load_17 : decode prog_8_method_2_code 17 = .ok (.ireturn, 1) := by decide +kernel
theorem d_MOD_load_18 : decode prog_8_method_2_code 18 = .ok (.aload_n 0, 1) := by decide +kernel
theorem d_MOD_load_19 : decode prog_8_method_2_code 19 = .ok (.getfield 16, 3) := by decide +kernel
theorem d_MOD_load_22 : decode prog_8_method_2_code 22 = .ok (.aload_n 0, 1) := by decide +kernel
theorem d_MOD_load_23 : decode prog_8_method_2_code 23 = .ok (.getfield 66, 3) := by decide +kernel
theorem d_MOD_load_26 : decode prog_8_method_2_code 26 = .ok (.iload_n 1, 1) := by decide +kernel
theorem d_MOD_load_27 : decode prog_8_method_2_code 27 = .ok (.iastore, 1) := by decide +kernel
theorem d_MOD_load_28 : decode prog_8_method_2_code 28 = .ok (.aload_n 0, 1) := by decide +kernel
theorem d_MOD_load_29 : decode prog_8_method_2_code 29 = .ok (.dup, 1) := by decide +kernel
theorem d_MOD_load_30 : decode prog_8_method_2_code 30 = .ok (.getfield 66, 3) := by decide +kernel
theorem d_MOD_load_33 : decode prog_8_method_2_code 33 = .ok (.iconst 1, 1) := by decide +kernel
theorem d_MOD_load_34 : decode prog_8_method_2_code 34 = .ok (.iadd, 1) := by decide +kernel
theorem d_MOD_load_35 : decode prog_8_method_2_code 35 = .ok (.putfield 66, 3) := by decide +kernel
theorem d_MOD_load_38 : decode prog_8_method_2_code 38 = .ok (.iconst 1, 1) := by decide +kernel
theorem d_MOD_load_39 : decode prog_8_method_2_code 39 = .ok (.ireturn, 1) := by decide +kernel
theorem d_MOD_freeFrames_0 : decode prog_8_method_3_code 0 = .ok (.iconst 0, 1) := by decide +kernel
theorem d_MOD_freeFrames_1 : decode prog_8_method_3_code 1 = .ok (.istore_n 1, 1) := by decide +kernel
theorem d_MOD_freeFrames_2 : decode prog_8_method_3_code 2 = .ok (.iconst 0, 1) := by decide +kernel
theorem d_MOD_freeFrames_3 : decode prog_8_method_3_code 3 = .ok (.istore_n 2, 1) := by decide +kernel
theorem d_MOD_freeFrames_4 : decode prog_8_method_3_code 4 = .ok (.iload_n 2, 1) := by decide +kernel
theorem d_MOD_freeFrames_5 : decode prog_8_method_3_code 5 = .ok (.aload_n 0, 1) := by decide +kernel
theorem d_MOD_freeFrames_6 : decode prog_8_method_3_code 6 = .ok (.getfield 55, 3) := by decide +kernel
theorem d_MOD_freeFrames_9 : decode prog_8_method_3_code 9 = .ok (.if_icmp .ge 26, 3) := by decide +kernel
theorem d_MOD_freeFrames_12 : decode prog_8_method_3_code 12 = .ok (.aload_n 0, 1) := by decide +kernel
theorem d_MOD_freeFrames_13 : decode prog_8_method_3_code 13 = .ok (.getfield 13, 3) := by decide +kernel
theorem d_MOD_freeFrames_16 : decode prog_8_method_3_code 16 = .ok (.iload_n 2, 1) := by decide +kernel
theorem d_MOD_freeFrames_17 : decode prog_8_method_3_code 17 = .ok (.iaload, 1) := by decide +kernel
theorem d_MOD_freeFrames_18 : decode prog_8_method_3_code 18 = .ok (.ifCond .ne 9, 3) := by decide +kernel
theorem d_MOD_freeFrames_21 : decode prog_8_method_3_code 21 = .ok (.iload_n 1, 1) := by decide +kernel
theorem d_MOD_freeFrames_22 : decode prog_8_method_3_code 22 = .ok (.iconst 1, 1) := by decide +kernel
theorem d_MOD_freeFrames_23 : decode prog_8_method_3_code 23 = .ok (.iadd, 1) := by decide +kernel
theorem d_MOD_freeFrames_24 : decode prog_8_method_3_code 24 = .ok (.goto 4, 3) := by decide +kernel
theorem d_MOD_freeFrames_27 : decode prog_8_method_3_code 27 = .ok (.iload_n 1, 1) := by decide +kernel
theorem d_MOD_freeFrames_28 : decode prog_8_method_3_code 28 = .ok (.istore_n 1, 1) := by decide +kernel
theorem d_MOD_freeFrames_29 : decode prog_8_method_3_code 29 = .ok (.iinc 2 1, 3) := by decide +kernel
theorem d_MOD_freeFrames_32 : decode prog_8_method_3_code 32 = .ok (.goto (-28), 3) := by decide +kernel
theorem d_MOD_freeFrames_35 : decode prog_8_method_3_code 35 = .ok (.iload_n 1, 1) := by decide +kernel
theorem d_MOD_freeFrames_36 : decode prog_8_method_3_code 36 = .ok (.ireturn, 1) := by decide +kernel
theorem d_MOD_grow_0 : decode prog_8_method_4_code 0 = .ok (.iconst 0, 1) := by decide +kernel
theorem d_MOD_grow_1 : decode prog_8_method_4_code 1 = .ok (.istore_n 2, 1) := by decide +kernel
theorem d_MOD_grow_2 : decode prog_8_method_4_code 2 = .ok (.aload_n 0, 1) := by decide +kernel
theorem d_MOD_grow_3 : decode prog_8_method_4_code 3 = .ok (.getfield 13, 3) := by decide +kernel
theorem d_MOD_grow_6 : decode prog_8_method_4_code 6 = .ok (.iload_n 2, 1) := by decide +kernel
theorem d_MOD_grow_7 : decode prog_8_method_4_code 7 = .ok (.iaload, 1) := by decide +kernel
theorem d_MOD_grow_8 : decode prog_8_method_4_code 8 = .ok (.ifCond .eq 9, 3) := by decide +kernel
theorem d_MOD_grow_11 : decode prog_8_method_4_code 11 = .ok (.iinc 2 1, 3) := by decide +kernel
theorem d_MOD_grow_14 : decode prog_8_method_4_code 14 = .ok (.goto (-12), 3) := by decide +kernel
theorem d_MOD_grow_17 : decode prog_8_method_4_code 17 = .ok (.aload_n 0, 1) := by decide +kernel
theorem d_MOD_grow_18 : decode prog_8_method_4_code 18 = .ok (.getfield 13, 3) := by decide +kernel
theorem d_MOD_grow_21 : decode prog_8_method_4_code 21 = .ok (.iload_n 2, 1) := by decide +kernel
theorem d_MOD_grow_22 : decode prog_8_method_4_code 22 = .ok (.iload_n 1, 1) := by decide +kernel
theorem d_MOD_grow_23 : decode prog_8_method_4_code 23 = .ok (.iastore, 1) := by decide +kernel
theorem d_MOD_grow_24 : decode prog_8_method_4_code 24 = .ok (.iconst 0, 1) := by decide +kernel
theorem d_MOD_grow_25 : decode prog_8_method_4_code 25 = .ok (.istore_n 3, 1) := by decide +kernel
theorem d_MOD_grow_26 : decode prog_8_method_4_code 26 = .ok (.iload_n 3, 1) := by decide +kernel
theorem d_MOD_grow_27 : decode prog_8_method_4_code 27 = .ok (.bipush 16, 2) := by decide +kernel
theorem d_MOD_grow_29 : decode prog_8_method_4_code 29 = .ok (.if_icmp .ge 21, 3) := by decide +kernel
theorem d_MOD_grow_32 : decode prog_8_method_4_code 32 = .ok (.aload_n 0, 1) := by decide +kernel
theorem d_MOD_grow_33 : decode prog_8_method_4_code 33 = .ok (.getfield 7, 3) := by decide +kernel
theorem d_MOD_grow_36 : decode prog_8_method_4_code 36 = .ok (.bipush 16, 2) := by decide +kernel
theorem d_MOD_grow_38 : decode prog_8_method_4_code 38 = .ok (.iload_n 2, 1) := by decide +kernel
theorem d_MOD_grow_39 : decode prog_8_method_4_code 39 = .ok (.imul, 1) := by decide +kernel
theorem d_MOD_grow_40 : decode prog_8_method_4_code 40 = .ok (.iload_n 3, 1) := by decide +kernel
theorem d_MOD_grow_41 : decode prog_8_method_4_code 41 = .ok (.iadd, 1) := by decide +kernel
theorem d_MOD_grow_42 : decode prog_8_method_4_code 42 = .ok (.iconst 0, 1) := by decide +kernel
theorem d_MOD_grow_43 : decode prog_8_method_4_code 43 = .ok (.iastore, 1) := by decide +kernel
theorem d_MOD_grow_44 : decode prog_8_method_4_code 44 = .ok (.iinc 3 1, 3) := by decide +kernel
theorem d_MOD_grow_47 : decode prog_8_method_4_code 47 = .ok (.goto (-21), 3) := by decide +kernel
theorem d_MOD_grow_50 : decode prog_8_method_4_code 50 = .ok (.aload_n 0, 1) := by decide +kernel
theorem d_MOD_grow_51 : decode prog_8_method_4_code 51 = .ok (.getfield 37, 3) := by decide +kernel
theorem d_MOD_grow_54 : decode prog_8_method_4_code 54 = .ok (.bipush 8, 2) := by decide +kernel
theorem d_MOD_grow_56 : decode prog_8_method_4_code 56 = .ok (.iload_n 1, 1) := by decide +kernel
theorem d_MOD_grow_57 : decode prog_8_method_4_code 57 = .ok (.imul, 1) := by decide +kernel
theorem d_MOD_grow_58 : decode prog_8_method_4_code 58 = .ok (.aload_n 0, 1) := by decide +kernel
theorem d_MOD_grow_59 : decode prog_8_method_4_code 59 = .ok (.getfield 31, 3) := by decide +kernel
theorem d_MOD_grow_62 : decode prog_8_method_4_code 62 = .ok (.iload_n 1, 1) := by decide +kernel
theorem d_MOD_grow_63 : decode prog_8_method_4_code 63 = .ok (.iaload, 1) := by decide +kernel
theorem d_MOD_grow_64 : decode prog_8_method_4_code 64 = .ok (.iadd, 1) := by decide +kernel
theorem d_MOD_grow_65 : decode prog_8_method_4_code 65 = .ok (.iload_n 2, 1) := by decide +kernel
theorem d_MOD_grow_66 : decode prog_8_method_4_code 66 = .ok (.iastore, 1) := by decide +kernel
theorem d_MOD_grow_67 : decode prog_8_method_4_code 67 = .ok (.aload_n 0, 1) := by decide +kernel
theorem d_MOD_grow_68 : decode prog_8_method_4_code 68 = .ok (.getfield 31, 3) := by decide +kernel
theorem d_MOD_grow_71 : decode prog_8_method_4_code 71 = .ok (.iload_n 1, 1) := by decide +kernel
theorem d_MOD_grow_72 : decode prog_8_method_4_code 72 = .ok (.dup2, 1) := by decide +kernel
theorem d_MOD_grow_73 : decode prog_8_method_4_code 73 = .ok (.iaload, 1) := by decide +kernel
theorem d_MOD_grow_74 : decode prog_8_method_4_code 74 = .ok (.iconst 1, 1) := by decide +kernel
theorem d_MOD_grow_75 : decode prog_8_method_4_code 75 = .ok (.iadd, 1) := by decide +kernel
theorem d_MOD_grow_76 : decode prog_8_method_4_code 76 = .ok (.iastore, 1) := by decide +kernel
theorem d_MOD_grow_77 : decode prog_8_method_4_code 77 = .ok (.iload_n 2, 1) := by decide +kernel
theorem d_MOD_grow_78 : decode prog_8_method_4_code 78 = .ok (.ireturn, 1) := by decide +kernel
theorem d_MOD_boot_0 : decode prog_8_method_5_code 0 = .ok (.aload_n 0, 1) := by decide +kernel
theorem d_MOD_boot_1 : decode prog_8_method_5_code 1 = .ok (.getfield 66, 3) := by decide +kernel
theorem d_MOD_boot_4 : decode prog_8_method_5_code 4 = .ok (.bipush 15, 2) := by decide +kernel
theorem d_MOD_boot_6 : decode prog_8_method_5_code 6 = .ok (.iadd, 1) := by decide +kernel
theorem d_MOD_boot_7 : decode prog_8_method_5_code 7 = .ok (.bipush 16, 2) := by decide +kernel
theorem d_MOD_boot_9 : decode prog_8_method_5_code 9 = .ok (.idiv, 1) := by decide +kernel
theorem d_MOD_boot_10 : decode prog_8_method_5_code 10 = .ok (.iconst 1, 1) := by decide +kernel
theorem d_MOD_boot_11 : decode prog_8_method_5_code 11 = .ok (.iadd, 1) := by decide +kernel
theorem d_MOD_boot_12 : decode prog_8_method_5_code 12 = .ok (.istore_n 1, 1) := by decide +kernel
theorem d_MOD_boot_13 : decode prog_8_method_5_code 13 = .ok (.aload_n 0, 1) := by decide +kernel
theorem d_MOD_boot_14 : decode prog_8_method_5_code 14 = .ok (.getfield 62, 3) := by decide +kernel
theorem d_MOD_boot_17 : decode prog_8_method_5_code 17 = .ok (.ifCond .eq 5, 3) := by decide +kernel
theorem d_MOD_boot_20 : decode prog_8_method_5_code 20 = .ok (.iconst 1, 1) := by decide +kernel
theorem d_MOD_boot_21 : decode prog_8_method_5_code 21 = .ok (.ireturn, 1) := by decide +kernel
theorem d_MOD_boot_22 : decode prog_8_method_5_code 22 = .ok (.aload_n 0, 1) := by decide +kernel
theorem d_MOD_boot_23 : decode prog_8_method_5_code 23 = .ok (.getfield 66, 3) := by decide +kernel
theorem d_MOD_boot_26 : decode prog_8_method_5_code 26 = .ok (.ifCond .eq 11, 3) := by decide +kernel
theorem d_MOD_boot_29 : decode prog_8_method_5_code 29 = .ok (.iload_n 1, 1) := by decide +kernel
theorem d_MOD_boot_30 : decode prog_8_method_5_code 30 = .ok (.aload_n 0, 1) := by decide +kernel
theorem d_MOD_boot_31 : decode prog_8_method_5_code 31 = .ok (.getfield 55, 3) := by decide +kernel
theorem d_MOD_boot_34 : decode prog_8_method_5_code 34 = .ok (.if_icmp .le 5, 3) := by decide +kernel
theorem d_MOD_boot_37 : decode prog_8_method_5_code 37 = .ok (.iconst 2, 1) := by decide +kernel
theorem d_MOD_boot_38 : decode prog_8_method_5_code 38 = .ok (.ireturn, 1) := by decide +kernel
theorem d_MOD_boot_39 : decode prog_8_method_5_code 39 = .ok (.aload_n 0, 1) := by decide +kernel
theorem d_MOD_boot_40 : decode prog_8_method_5_code 40 = .ok (.iconst 1, 1) := by decide +kernel
theorem d_MOD_boot_41 : decode prog_8_method_5_code 41 = .ok (.putfield 62, 3) := by decide +kernel
theorem d_MOD_boot_44 : decode prog_8_method_5_code 44 = .ok (.iconst 0, 1) := by decide +kernel
theorem d_MOD_boot_45 : decode prog_8_method_5_code 45 = .ok (.istore_n 2, 1) := by decide +kernel
theorem d_MOD_boot_46 : decode prog_8_method_5_code 46 = .ok (.iload_n 2, 1) := by decide +kernel
theorem d_MOD_boot_47 : decode prog_8_method_5_code 47 = .ok (.iload_n 1, 1) := by decide +kernel
theorem d_MOD_boot_48 : decode prog_8_method_5_code 48 = .ok (.if_icmp .ge 69, 3) := by decide +kernel
theorem d_MOD_boot_51 : decode prog_8_method_5_code 51 = .ok (.aload_n 0, 1) := by decide +kernel
theorem d_MOD_boot_52 : decode prog_8_method_5_code 52 = .ok (.iconst 1, 1) := by decide +kernel
theorem d_MOD_boot_53 : decode prog_8_method_5_code 53 = .ok (.invokevirtual 69, 3) := by decide +kernel
theorem d_MOD_boot_56 : decode prog_8_method_5_code 56 = .ok (.istore_n 3, 1) := by decide +kernel
theorem d_MOD_boot_57 : decode prog_8_method_5_code 57 = .ok (.iconst 0, 1) := by decide +kernel
theorem d_MOD_boot_58 : decode prog_8_method_5_code 58 = .ok (.istore 4, 2) := by decide +kernel
theorem d_MOD_boot_60 : decode prog_8_method_5_code 60 = .ok (.iload 4, 2) := by decide +kernel
theorem d_MOD_boot_62 : decode prog_8_method_5_code 62 = .ok (.bipush 16, 2) := by decide +kernel
theorem d_MOD_boot_64 : decode prog_8_method_5_code 64 = .ok (.if_icmp .ge 47, 3) := by decide +kernel
theorem d_MOD_boot_67 : decode prog_8_method_5_code 67 = .ok (.bipush 16, 2) := by decide +kernel
theorem d_MOD_boot_69 : decode prog_8_method_5_code 69 = .ok (.iload_n 2, 1) := by decide +kernel
theorem d_MOD_boot_70 : decode prog_8_method_5_code 70 = .ok (.imul, 1) := by decide +kernel
theorem d_MOD_boot_71 : decode prog_8_method_5_code 71 = .ok (.iload 4, 2) := by decide +kernel
theorem d_MOD_boot_73 : decode prog_8_method_5_code 73 = .ok (.iadd, 1) := by decide +kernel
theorem d_MOD_boot_74 : decode prog_8_method_5_code 74 = .ok (.aload_n 0, 1) := by decide +kernel
theorem d_MOD_boot_75 : decode prog_8_method_5_code 75 = .ok (.getfield 66, 3) := by decide +kernel
theorem d_MOD_boot_78 : decode prog_8_method_5_code 78 = .ok (.if_icmp .ge 33, 3) := by decide +kernel
theorem d_MOD_boot_81 : decode prog_8_method_5_code 81 = .ok (.aload_n 0, 1) := by decide +kernel
theorem d_MOD_boot_82 : decode prog_8_method_5_code 82 = .ok (.getfield 7, 3) := by decide +kernel
theorem d_MOD_boot_85 : decode prog_8_method_5_code 85 = .ok (.bipush 16, 2) := by decide +kernel
theorem d_MOD_boot_87 : decode prog_8_method_5_code 87 = .ok (.iload_n 3, 1) := by decide +kernel
theorem d_MOD_boot_88 : decode prog_8_method_5_code 88 = .ok (.imul, 1) := by decide +kernel
theorem d_MOD_boot_89 : decode prog_8_method_5_code 89 = .ok (.iload 4, 2) := by decide +kernel
theorem d_MOD_boot_91 : decode prog_8_method_5_code 91 = .ok (.iadd, 1) := by decide +kernel
theorem d_MOD_boot_92 : decode prog_8_method_5_code 92 = .ok (.aload_n 0, 1) := by decide +kernel
theorem d_MOD_boot_93 : decode prog_8_method_5_code 93 = .ok (.getfield 16, 3) := by decide +kernel
theorem d_MOD_boot_96 : decode prog_8_method_5_code 96 = .ok (.bipush 16, 2) := by decide +kernel
theorem d_MOD_boot_98 : decode prog_8_method_5_code 98 = .ok (.iload_n 2, 1) := by decide +kernel
theorem d_MOD_boot_99 : decode prog_8_method_5_code 99 = .ok (.imul, 1) := by decide +kernel
theorem d_MOD_boot_100 : decode prog_8_method_5_code 100 = .ok (.iload 4, 2) := by decide +kernel
theorem d_MOD_boot_102 : decode prog_8_method_5_code 102 = .ok (.iadd, 1) := by decide +kernel
theorem d_MOD_boot_103 : decode prog_8_method_5_code 103 = .ok (.iaload, 1) := by decide +kernel
theorem d_MOD_boot_104 : decode prog_8_method_5_code 104 = .ok (.iastore, 1) := by decide +kernel
theorem d_MOD_boot_105 : decode prog_8_method_5_code 105 = .ok (.iinc 4 1, 3) := by decide +kernel
theorem d_MOD_boot_108 : decode prog_8_method_5_code 108 = .ok (.goto (-48), 3) := by decide +kernel
theorem d_MOD_boot_111 : decode prog_8_method_5_code 111 = .ok (.iinc 2 1, 3) := by decide +kernel
theorem d_MOD_boot_114 : decode prog_8_method_5_code 114 = .ok (.goto (-68), 3) := by decide +kernel
theorem d_MOD_boot_117 : decode prog_8_method_5_code 117 = .ok (.aload_n 0, 1) := by decide +kernel
theorem d_MOD_boot_118 : decode prog_8_method_5_code 118 = .ok (.getfield 34, 3) := by decide +kernel
theorem d_MOD_boot_121 : decode prog_8_method_5_code 121 = .ok (.bipush 34, 2) := by decide +kernel
theorem d_MOD_boot_123 : decode prog_8_method_5_code 123 = .ok (.bipush 64, 2) := by decide +kernel
theorem d_MOD_boot_125 : decode prog_8_method_5_code 125 = .ok (.iload_n 1, 1) := by decide +kernel
theorem d_MOD_boot_126 : decode prog_8_method_5_code 126 = .ok (.imul, 1) := by decide +kernel
theorem d_MOD_boot_127 : decode prog_8_method_5_code 127 = .ok (.iastore, 1) := by decide +kernel
theorem d_MOD_boot_128 : decode prog_8_method_5_code 128 = .ok (.aload_n 0, 1) := by decide +kernel
theorem d_MOD_boot_129 : decode prog_8_method_5_code 129 = .ok (.getfield 40, 3) := by decide +kernel
theorem d_MOD_boot_132 : decode prog_8_method_5_code 132 = .ok (.bipush 7, 2) := by decide +kernel
theorem d_MOD_boot_134 : decode prog_8_method_5_code 134 = .ok (.iconst 0, 1) := by decide +kernel
theorem d_MOD_boot_135 : decode prog_8_method_5_code 135 = .ok (.iastore, 1) := by decide +kernel
theorem d_MOD_boot_136 : decode prog_8_method_5_code 136 = .ok (.aload_n 0, 1) := by decide +kernel
theorem d_MOD_boot_137 : decode prog_8_method_5_code 137 = .ok (.iconst 1, 1) := by decide +kernel
theorem d_MOD_boot_138 : decode prog_8_method_5_code 138 = .ok (.invokevirtual 73, 3) := by decide +kernel
theorem d_MOD_boot_141 : decode prog_8_method_5_code 141 = .ok (.iconst 0, 1) := by decide +kernel
theorem d_MOD_boot_142 : decode prog_8_method_5_code 142 = .ok (.ireturn, 1) := by decide +kernel
