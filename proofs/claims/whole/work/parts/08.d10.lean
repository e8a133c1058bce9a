theorem d_MEM_clear_0 : decode prog_3_method_7_code 0 = .ok (.iload_n 1, 1) := by decide +kernel
theorem d_MEM_clear_1 : decode prog_3_method_7_code 1 = .ok (.bipush 16, 2) := by decide +kernel
theorem d_MEM_clear_3 : decode prog_3_method_7_code 3 = .ok (.imul, 1) := by decide +kernel
theorem d_MEM_clear_4 : decode prog_3_method_7_code 4 = .ok (.istore_n 2, 1) := by decide +kernel
theorem d_MEM_clear_5 : decode prog_3_method_7_code 5 = .ok (.iconst 0, 1) := by decide +kernel
theorem d_MEM_clear_6 : decode prog_3_method_7_code 6 = .ok (.istore_n 3, 1) := by decide +kernel
theorem d_MEM_clear_7 : decode prog_3_method_7_code 7 = .ok (.iload_n 3, 1) := by decide +kernel
theorem d_MEM_clear_8 : decode prog_3_method_7_code 8 = .ok (.bipush 16, 2) := by decide +kernel
theorem d_MEM_clear_10 : decode prog_3_method_7_code 10 = .ok (.if_icmp .ge 18, 3) := by decide +kernel
theorem d_MEM_clear_13 : decode prog_3_method_7_code 13 = .ok (.aload_n 0, 1) := by decide +kernel
theorem d_MEM_clear_14 : decode prog_3_method_7_code 14 = .ok (.getfield 9, 3) := by decide +kernel
theorem d_MEM_clear_17 : decode prog_3_method_7_code 17 = .ok (.iload_n 2, 1) := by decide +kernel
theorem d_MEM_clear_18 : decode prog_3_method_7_code 18 = .ok (.iload_n 3, 1) := by decide +kernel
theorem d_MEM_clear_19 : decode prog_3_method_7_code 19 = .ok (.iadd, 1) := by decide +kernel
theorem d_MEM_clear_20 : decode prog_3_method_7_code 20 = .ok (.iconst 0, 1) := by decide +kernel
theorem d_MEM_clear_21 : decode prog_3_method_7_code 21 = .ok (.iastore, 1) := by decide +kernel
theorem d_MEM_clear_22 : decode prog_3_method_7_code 22 = .ok (.iinc 3 1, 3) := by decide +kernel
theorem d_MEM_clear_25 : decode prog_3_method_7_code 25 = .ok (.goto (-18), 3) := by decide +kernel
theorem d_MEM_clear_28 : decode prog_3_method_7_code 28 = .ok (.return_, 1) := by decide +kernel
theorem d_P_init_0 : decode prog_4_method_1_code 0 = .ok (.aload_n 0, 1) := by decide +kernel
theorem d_P_init_1 : decode prog_4_method_1_code 1 = .ok (.invokespecial 3, 3) := by decide +kernel
theorem d_P_init_4 : decode prog_4_method_1_code 4 = .ok (.aload_n 0, 1) := by decide +kernel
theorem d_P_init_5 : decode prog_4_method_1_code 5 = .ok (.bipush 8, 2) := by decide +kernel
theorem d_P_init_7 : decode prog_4_method_1_code 7 = .ok (.newarray .int, 2) := by decide +kernel
theorem d_P_init_9 : decode prog_4_method_1_code 9 = .ok (.putfield 9, 3) := by decide +kernel
theorem d_P_init_12 : decode prog_4_method_1_code 12 = .ok (.return_, 1) := by decide +kernel
theorem d_P_isEmpty_0 : decode prog_4_method_2_code 0 = .ok (.aload_n 0, 1) := by decide +kernel
theorem d_P_isEmpty_1 : decode prog_4_method_2_code 1 = .ok (.getfield 15, 3) := by decide +kernel
theorem d_P_isEmpty_4 : decode prog_4_method_2_code 4 = .ok (.ifCond .ne 7, 3) := by decide +kernel
theorem d_P_isEmpty_7 : decode prog_4_method_2_code 7 = .ok (.iconst 1, 1) := by decide +kernel
theorem d_P_isEmpty_8 : decode prog_4_method_2_code 8 = .ok (.goto 4, 3) := by decide +kernel
theorem d_P_isEmpty_11 : decode prog_4_method_2_code 11 = .ok (.iconst 0, 1) := by decide +kernel
theorem d_P_isEmpty_12 : decode prog_4_method_2_code 12 = .ok (.ireturn, 1) := by decide +kernel
theorem d_P_isFull_0 : decode prog_4_method_3_code 0 = .ok (.aload_n 0, 1) := by decide +kernel
theorem d_P_isFull_1 : decode prog_4_method_3_code 1 = .ok (.getfield 15, 3) := by decide +kernel
theorem d_P_isFull_4 : decode prog_4_method_3_code 4 = .ok (.bipush 8, 2) := by decide +kernel
theorem d_P_isFull_6 : decode prog_4_method_3_code 6 = .ok (.if_icmp .lt 7, 3) := by decide +kernel
theorem d_P_isFull_9 : decode prog_4_method_3_code 9 = .ok (.iconst 1, 1) := by decide +kernel
theorem d_P_isFull_10 : decode prog_4_method_3_code 10 = .ok (.goto 4, 3) := by decide +kernel
theorem d_P_isFull_13 : decode prog_4_method_3_code 13 = .ok (.iconst 0, 1) := by decide +kernel
theorem d_P_isFull_14 : decode prog_4_method_3_code 14 = .ok (.ireturn, 1) := by decide +kernel
theorem d_P_put_0 : decode prog_4_method_4_code 0 = .ok (.aload_n 0, 1) := by decide +kernel
theorem d_P_put_1 : decode prog_4_method_4_code 1 = .ok (.invokevirtual 19, 3) := by decide +kernel
theorem d_P_put_4 : decode prog_4_method_4_code 4 = .ok (.ifCond .ne 31, 3) := by decide +kernel
theorem d_P_put_7 : decode prog_4_method_4_code 7 = .ok (.aload_n 0, 1) := by decide +kernel
theorem d_P_put_8 : decode prog_4_method_4_code 8 = .ok (.getfield 9, 3) := by decide +kernel
theorem d_P_put_11 : decode prog_4_method_4_code 11 = .ok (.aload_n 0, 1) := by decide +kernel
theorem d_P_put_12 : decode prog_4_method_4_code 12 = .ok (.getfield 23, 3) := by decide +kernel
theorem d_P_put_15 : decode prog_4_method_4_code 15 = .ok (.aload_n 0, 1) := by decide +kernel
theorem d_P_put_16 : decode prog_4_method_4_code 16 = .ok (.getfield 15, 3) := by decide +kernel
theorem d_P_put_19 : decode prog_4_method_4_code 19 = .ok (.iadd, 1) := by decide +kernel
theorem d_P_put_20 : decode prog_4_method_4_code 20 = .ok (.bipush 8, 2) := by decide +kernel
theorem d_P_put_22 : decode prog_4_method_4_code 22 = .ok (.irem, 1) := by decide +kernel
theorem d_P_put_23 : decode prog_4_method_4_code 23 = .ok (.iload_n 1, 1) := by decide +kernel
theorem d_P_put_24 : decode prog_4_method_4_code 24 = .ok (.iastore, 1) := by decide +kernel
theorem d_P_put_25 : decode prog_4_method_4_code 25 = .ok (.aload_n 0, 1) := by decide +kernel
theorem d_P_put_26 : decode prog_4_method_4_code 26 = .ok (.dup, 1) := by decide +kernel
theorem d_P_put_27 : decode prog_4_method_4_code 27 = .ok (.getfield 15, 3) := by decide +kernel
theorem d_P_put_30 : decode prog_4_method_4_code 30 = .ok (.iconst 1, 1) := by decide +kernel
theorem d_P_put_31 : decode prog_4_method_4_code 31 = .ok (.iadd, 1) := by decide +kernel
theorem d_P_put_32 : decode prog_4_method_4_code 32 = .ok (.putfield 15, 3) := by decide +kernel
theorem d_P_put_35 : decode prog_4_method_4_code 35 = .ok (.return_, 1) := by decide +kernel
theorem d_P_take_0 : decode prog_4_method_5_code 0 = .ok (.aload_n 0, 1) := by decide +kernel
theorem d_P_take_1 : decode prog_4_method_5_code 1 = .ok (.invokevirtual 26, 3) := by decide +kernel
theorem d_P_take_4 : decode prog_4_method_5_code 4 = .ok (.ifCond .eq 5, 3) := by decide +kernel
theorem d_P_take_7 : decode prog_4_method_5_code 7 = .ok (.iconst (-1), 1) := by decide +kernel
theorem d_P_take_8 : decode prog_4_method_5_code 8 = .ok (.ireturn, 1) := by decide +kernel
theorem d_P_take_9 : decode prog_4_method_5_code 9 = .ok (.aload_n 0, 1) := by decide +kernel
theorem d_P_take_10 : decode prog_4_method_5_code 10 = .ok (.getfield 9, 3) := by decide +kernel
theorem d_P_take_13 : decode prog_4_method_5_code 13 = .ok (.aload_n 0, 1) := by decide +kernel
theorem d_P_take_14 : decode prog_4_method_5_code 14 = .ok (.getfield 23, 3) := by decide +kernel
theorem d_P_take_17 : decode prog_4_method_5_code 17 = .ok (.iaload, 1) := by decide +kernel
theorem d_P_take_18 : decode prog_4_method_5_code 18 = .ok (.istore_n 1, 1) := by decide +kernel
theorem d_P_take_19 : decode prog_4_method_5_code 19 = .ok (.aload_n 0, 1) := by decide +kernel
theorem d_P_take_20 : decode prog_4_method_5_code 20 = .ok (.aload_n 0, 1) := by decide +kernel
theorem d_P_take_21 : decode prog_4_method_5_code 21 = .ok (.getfield 23, 3) := by decide +kernel
theorem d_P_take_24 : decode prog_4_method_5_code 24 = .ok (.iconst 1, 1) := by decide +kernel
theorem d_P_take_25 : decode prog_4_method_5_code 25 = .ok (.iadd, 1) := by decide +kernel
theorem d_P_take_26 : decode prog_4_method_5_code 26 = .ok (.bipush 8, 2) := by decide +kernel
theorem d_P_take_28 : decode prog_4_method_5_code 28 = .ok (.irem, 1) := by decide +kernel
theorem d_P_take_29 : decode prog_4_method_5_code 29 = .ok (.putfield 23, 3) := by decide +kernel
theorem d_P_take_32 : decode prog_4_method_5_code 32 = .ok (.aload_n 0, 1) := by decide +kernel
theorem d_P_take_33 : decode prog_4_method_5_code 33 = .ok (.dup, 1) := by decide +kernel
theorem d_P_take_34 : decode prog_4_method_5_code 34 = .ok (.getfield 15, 3) := by decide +kernel
theorem d_P_take_37 : decode prog_4_method_5_code 37 = .ok (.iconst 1, 1) := by decide +kernel
theorem d_P_take_38 : decode prog_4_method_5_code 38 = .ok (.isub, 1) := by decide +kernel
theorem d_P_take_39 : decode prog_4_method_5_code 39 = .ok (.putfield 15, 3) := by decide +kernel
theorem d_P_take_42 : decode prog_4_method_5_code 42 = .ok (.iload_n 1, 1) := by decide +kernel
theorem d_P_take_43 : decode prog_4_method_5_code 43 = .ok (.ireturn, 1) := by decide +kernel
theorem d_P_empty_0 : decode prog_4_method_6_code 0 = .ok (.aload_n 0, 1) := by decide +kernel
theorem d_P_empty_1 : decode prog_4_method_6_code 1 = .ok (.iconst 0, 1) := by decide +kernel
theorem d_P_empty_2 : decode prog_4_method_6_code 2 = .ok (.putfield 23, 3) := by decide +kernel
theorem d_P_empty_5 : decode prog_4_method_6_code 5 = .ok (.aload_n 0, 1) := by decide +kernel
theorem d_P_empty_6 : decode prog_4_method_6_code 6 = .ok (.iconst 0, 1) := by decide +kernel
theorem d_P_empty_7 : decode prog_4_method_6_code 7 = .ok (.putfield 15, 3) := by decide +kernel
theorem d_P_empty_10 : decode prog_4_method_6_code 10 = .ok (.return_, 1) := by decide +kernel
theorem d_ROW_init_0 : decode prog_5_method_1_code 0 = .ok (.aload_n 0, 1) := by decide +kernel
theorem d_ROW_init_1 : decode prog_5_method_1_code 1 = .ok (.invokespecial 3, 3) := by decide +kernel
theorem d_ROW_init_4 : decode prog_5_method_1_code 4 = .ok (.aload_n 0, 1) := by decide +kernel
theorem d_ROW_init_5 : decode prog_5_method_1_code 5 = .ok (.bipush 8, 2) := by decide +kernel
theorem d_ROW_init_7 : decode prog_5_method_1_code 7 = .ok (.newarray .int, 2) := by decide +kernel
theorem d_ROW_init_9 : decode prog_5_method_1_code 9 = .ok (.putfield 9, 3) := by decide +kernel
theorem d_ROW_init_12 : decode prog_5_method_1_code 12 = .ok (.return_, 1) := by decide +kernel
theorem d_ROW_append_0 : decode prog_5_method_2_code 0 = .ok (.aload_n 0, 1) := by decide +kernel
theorem d_ROW_append_1 : decode prog_5_method_2_code 1 = .ok (.getfield 15, 3) := by decide +kernel
theorem d_ROW_append_4 : decode prog_5_method_2_code 4 = .ok (.bipush 8, 2) := by decide +kernel
theorem d_ROW_append_6 : decode prog_5_method_2_code 6 = .ok (.if_icmp .ge 23, 3) := by decide +kernel
theorem d_ROW_append_9 : decode prog_5_method_2_code 9 = .ok (.aload_n 0, 1) := by decide +kernel
theorem d_ROW_append_10 : decode prog_5_method_2_code 10 = .ok (.getfield 9, 3) := by decide +kernel
theorem d_ROW_append_13 : decode prog_5_method_2_code 13 = .ok (.aload_n 0, 1) := by decide +kernel
theorem d_ROW_append_14 : decode prog_5_method_2_code 14 = .ok (.getfield 15, 3) := by decide +kernel
theorem d_ROW_append_17 : decode prog_5_method_2_code 17 = .ok (.iload_n 1, 1) := by decide +kernel
theorem d_ROW_append_18 : decode prog_5_method_2_code 18 = .ok (.iastore, 1) := by decide +kernel
theorem d_ROW_append_19 : decode prog_5_method_2_code 19 = .ok (.aload_n 0, 1) := by decide +kernel
theorem d_ROW_append_20 : decode prog_5_method_2_code 20 = .ok (.dup, 1) := by decide +kernel
theorem d_ROW_append_21 : decode prog_5_method_2_code 21 = .ok (.getfield 15, 3) := by decide +kernel
theorem d_ROW_append_24 : decode prog_5_method_2_code 24 = .ok (.iconst 1, 1) := by decide +kernel
theorem d_ROW_append_25 : decode prog_5_method_2_code 25 = .ok (.iadd, 1) := by decide +kernel
theorem d_ROW_append_26 : decode prog_5_method_2_code 26 = .ok (.putfield 15, 3) := by decide +kernel
theorem d_ROW_append_29 : decode prog_5_method_2_code 29 = .ok (.return_, 1) := by decide +kernel
theorem d_ROW_at_0 : decode prog_5_method_3_code 0 = .ok (.iload_n 1, 1) := by decide +kernel
theorem d_ROW_at_1 : decode prog_5_method_3_code 1 = .ok (.ifCond .lt 11, 3) := by decide +kernel
theorem d_ROW_at_4 : decode prog_5_method_3_code 4 = .ok (.iload_n 1, 1) := by decide +kernel
theorem d_ROW_at_5 : decode prog_5_method_3_code 5 = .ok (.aload_n 0, 1) := by decide +kernel
theorem d_ROW_at_6 : decode prog_5_method_3_code 6 = .ok (.getfield 15, 3) := by decide +kernel
theorem d_ROW_at_9 : decode prog_5_method_3_code 9 = .ok (.if_icmp .lt 7, 3) := by decide +kernel
theorem d_ROW_at_12 : decode prog_5_method_3_code 12 = .ok (.iconst 0, 1) := by decide +kernel
theorem d_ROW_at_13 : decode prog_5_method_3_code 13 = .ok (.goto 9, 3) := by decide +kernel
theorem d_ROW_at_16 : decode prog_5_method_3_code 16 = .ok (.aload_n 0, 1) := by decide +kernel
theorem d_ROW_at_17 : decode prog_5_method_3_code 17 = .ok (.getfield 9, 3) := by decide +kernel
theorem d_ROW_at_20 : decode prog_5_method_3_code 20 = .ok (.iload_n 1, 1) := by decide +kernel
theorem d_ROW_at_21 : decode prog_5_method_3_code 21 = .ok (.iaload, 1) := by decide +kernel
theorem d_ROW_at_22 : decode prog_5_method_3_code 22 = .ok (.ireturn, 1) := by decide +kernel
theorem d_ROW_takeFirst_0 : decode prog_5_method_4_code 0 = .ok (.aload_n 0, 1) := by decide +kernel
theorem d_ROW_takeFirst_1 : decode prog_5_method_4_code 1 = .ok (.iconst 0, 1) := by decide +kernel
theorem d_ROW_takeFirst_2 : decode prog_5_method_4_code 2 = .ok (.invokevirtual 19, 3) := by decide +kernel
theorem d_ROW_takeFirst_5 : decode prog_5_method_4_code 5 = .ok (.istore_n 1, 1) := by decide +kernel
theorem d_ROW_takeFirst_6 : decode prog_5_method_4_code 6 = .ok (.aload_n 0, 1) := by decide +kernel
theorem d_ROW_takeFirst_7 : decode prog_5_method_4_code 7 = .ok (.iload_n 1, 1) := by decide +kernel
theorem d_ROW_takeFirst_8 : decode prog_5_method_4_code 8 = .ok (.invokevirtual 23, 3) := by decide +kernel
theorem d_ROW_takeFirst_11 : decode prog_5_method_4_code 11 = .ok (.iload_n 1, 1) := by decide +kernel
theorem d_ROW_takeFirst_12 : decode prog_5_method_4_code 12 = .ok (.ireturn, 1) := by decide +kernel
theorem d_ROW_drop_0 : decode prog_5_method_5_code 0 = .ok (.iconst 0, 1) := by decide +kernel
theorem d_ROW_drop_1 : decode prog_5_method_5_code 1 = .ok (.istore_n 2, 1) := by decide +kernel
theorem d_ROW_drop_2 : decode prog_5_method_5_code 2 = .ok (.iconst 0, 1) := by decide +kernel
theorem d_ROW_drop_3 : decode prog_5_method_5_code 3 = .ok (.istore_n 3, 1) := by decide +kernel
theorem d_ROW_drop_4 : decode prog_5_method_5_code 4 = .ok (.iload_n 3, 1) := by decide +kernel
theorem d_ROW_drop_5 : decode prog_5_method_5_code 5 = .ok (.aload_n 0, 1) := by decide +kernel
theorem d_ROW_drop_6 : decode prog_5_method_5_code 6 = .ok (.getfield 15, 3) := by decide +kernel
theorem d_ROW_drop_9 : decode prog_5_method_5_code 9 = .ok (.if_icmp .ge 34, 3) := by decide +kernel
theorem d_ROW_drop_12 : decode prog_5_method_5_code 12 = .ok (.aload_n 0, 1) := by decide +kernel
theorem d_ROW_drop_13 : decode prog_5_method_5_code 13 = .ok (.getfield 9, 3) := by decide +kernel
theorem d_ROW_drop_16 : decode prog_5_method_5_code 16 = .ok (.iload_n 3, 1) := by decide +kernel
theorem d_ROW_drop_17 : decode prog_5_method_5_code 17 = .ok (.iaload, 1) := by decide +kernel
theorem d_ROW_drop_18 : decode prog_5_method_5_code 18 = .ok (.iload_n 1, 1) := by decide +kernel
theorem d_ROW_drop_19 : decode prog_5_method_5_code 19 = .ok (.if_icmp .eq 18, 3) := by decide +kernel
theorem d_ROW_drop_22 : decode prog_5_method_5_code 22 = .ok (.aload_n 0, 1) := by decide +kernel
theorem d_ROW_drop_23 : decode prog_5_method_5_code 23 = .ok (.getfield 9, 3) := by decide +kernel
theorem d_ROW_drop_26 : decode prog_5_method_5_code 26 = .ok (.iload_n 2, 1) := by decide +kernel
theorem d_ROW_drop_27 : decode prog_5_method_5_code 27 = .ok (.aload_n 0, 1) := by decide +kernel
theorem d_ROW_drop_28 : decode prog_5_method_5_code 28 = .ok (.getfield 9, 3) := by decide +kernel
theorem d_ROW_drop_31 : decode prog_5_method_5_code 31 = .ok (.iload_n 3, 1) := by decide +kernel
theorem d_ROW_drop_32 : decode prog_5_method_5_code 32 = .ok (.iaload, 1) := by decide +kernel
theorem d_ROW_drop_33 : decode prog_5_method_5_code 33 = .ok (.iastore, 1) := by decide +kernel
theorem d_ROW_drop_34 : decode prog_5_method_5_code 34 = .ok (.iinc 2 1, 3) := by decide +kernel
theorem d_ROW_drop_37 : decode prog_5_method_5_code 37 = .ok (.iinc 3 1, 3) := by decide +kernel
theorem d_ROW_drop_40 : decode prog_5_method_5_code 40 = .ok (.goto (-36), 3) := by decide +kernel
theorem d_ROW_drop_43 : decode prog_5_method_5_code 43 = .ok (.aload_n 0, 1) := by decide +kernel
theorem d_ROW_drop_44 : decode prog_5_method_5_code 44 = .ok (.iload_n 2, 1) := by decide +kernel
theorem d_ROW_drop_45 : decode prog_5_method_5_code 45 = .ok (.putfield 15, 3) := by decide +kernel
theorem d_ROW_drop_48 : decode prog_5_method_5_code 48 = .ok (.return_, 1) := by decide +kernel
theorem d_T_init_0 : decode prog_6_method_1_code 0 = .ok (.aload_n 0, 1) := by decide +kernel
theorem d_T_init_1 : decode prog_6_method_1_code 1 = .ok (.invokespecial 3, 3) := by decide +kernel
theorem d_T_init_4 : decode prog_6_method_1_code 4 = .ok (.aload_n 0, 1) := by decide +kernel
theorem d_T_init_5 : decode prog_6_method_1_code 5 = .ok (.bipush 32, 2) := by decide +kernel
theorem d_T_init_7 : decode prog_6_method_1_code 7 = .ok (.newarray .int, 2) := by decide +kernel
theorem d_T_init_9 : decode prog_6_method_1_code 9 = .ok (.putfield 9, 3) := by decide +kernel
theorem d_T_init_12 : decode prog_6_method_1_code 12 = .ok (.aload_n 0, 1) := by decide +kernel
theorem d_T_init_13 : decode prog_6_method_1_code 13 = .ok (.bipush 8, 2) := by decide +kernel
theorem d_T_init_15 : decode prog_6_method_1_code 15 = .ok (.newarray .int, 2) := by decide +kernel
theorem d_T_init_17 : decode prog_6_method_1_code 17 = .ok (.putfield 15, 3) := by decide +kernel
theorem d_T_init_20 : decode prog_6_method_1_code 20 = .ok (.aload_n 0, 1) := by decide +kernel
theorem d_T_init_21 : decode prog_6_method_1_code 21 = .ok (.bipush 6, 2) := by decide +kernel
theorem d_T_init_23 : decode prog_6_method_1_code 23 = .ok (.newarray .int, 2) := by decide +kernel
theorem d_T_init_25 : decode prog_6_method_1_code 25 = .ok (.putfield 18, 3) := by decide +kernel
theorem d_T_init_28 : decode prog_6_method_1_code 28 = .ok (.aload_n 0, 1) := by decide +kernel
theorem d_T_init_29 : decode prog_6_method_1_code 29 = .ok (.iload_n 1, 1) := by decide +kernel
theorem d_T_init_30 : decode prog_6_method_1_code 30 = .ok (.putfield 21, 3) := by decide +kernel
theorem d_T_init_33 : decode prog_6_method_1_code 33 = .ok (.iconst 0, 1) := by decide +kernel
theorem d_T_init_34 : decode prog_6_method_1_code 34 = .ok (.istore_n 2, 1) := by decide +kernel
theorem d_T_init_35 : decode prog_6_method_1_code 35 = .ok (.iload_n 2, 1) := by decide +kernel
theorem d_T_init_36 : decode prog_6_method_1_code 36 = .ok (.bipush 6, 2) := by decide +kernel
theorem d_T_init_38 : decode prog_6_method_1_code 38 = .ok (.if_icmp .ge 16, 3) := by decide +kernel
theorem d_T_init_41 : decode prog_6_method_1_code 41 = .ok (.aload_n 0, 1) := by decide +kernel
theorem d_T_init_42 : decode prog_6_method_1_code 42 = .ok (.getfield 18, 3) := by decide +kernel
theorem d_T_init_45 : decode prog_6_method_1_code 45 = .ok (.iload_n 2, 1) := by decide +kernel
theorem d_T_init_46 : decode prog_6_method_1_code 46 = .ok (.iconst (-1), 1) := by decide +kernel
theorem d_T_init_47 : decode prog_6_method_1_code 47 = .ok (.iastore, 1) := by decide +kernel
theorem d_T_init_48 : decode prog_6_method_1_code 48 = .ok (.iinc 2 1, 3) := by decide +kernel
theorem d_T_init_51 : decode prog_6_method_1_code 51 = .ok (.goto (-16), 3) := by decide +kernel
theorem d_T_init_54 : decode prog_6_method_1_code 54 = .ok (.return_, 1) := by decide +kernel
theorem d_T_getRegister_0 : decode prog_6_method_2_code 0 = .ok (.iload_n 1, 1) := by decide +kernel
theorem d_T_getRegister_1 : decode prog_6_method_2_code 1 = .ok (.ifCond .lt 9, 3) := by decide +kernel
theorem d_T_getRegister_4 : decode prog_6_method_2_code 4 = .ok (.iload_n 1, 1) := by decide +kernel
theorem d_T_getRegister_5 : decode prog_6_method_2_code 5 = .ok (.bipush 32, 2) := by decide +kernel
theorem d_T_getRegister_7 : decode prog_6_method_2_code 7 = .ok (.if_icmp .lt 7, 3) := by decide +kernel
theorem d_T_getRegister_10 : decode prog_6_method_2_code 10 = .ok (.iconst 0, 1) := by decide +kernel
theorem d_T_getRegister_11 : decode prog_6_method_2_code 11 = .ok (.goto 9, 3) := by decide +kernel
theorem d_T_getRegister_14 : decode prog_6_method_2_code 14 = .ok (.aload_n 0, 1) := by decide +kernel
theorem d_T_getRegister_15 : decode prog_6_method_2_code 15 = .ok (.getfield 9, 3) := by decide +kernel
theorem d_T_getRegister_18 : decode prog_6_method_2_code 18 = .ok (.iload_n 1, 1) := by decide +kernel
theorem d_T_getRegister_19 : decode prog_6_method_2_code 19 = .ok (.iaload, 1) := by decide +kernel
theorem d_T_getRegister_20 : decode prog_6_method_2_code 20 = .ok (.ireturn, 1) := by decide +kernel
theorem d_T_setRegister_0 : decode prog_6_method_3_code 0 = .ok (.iload_n 1, 1) := by decide +kernel
theorem d_T_setRegister_1 : decode prog_6_method_3_code 1 = .ok (.ifCond .le 16, 3) := by decide +kernel
theorem d_T_setRegister_4 : decode prog_6_method_3_code 4 = .ok (.iload_n 1, 1) := by decide +kernel
theorem d_T_setRegister_5 : decode prog_6_method_3_code 5 = .ok (.bipush 32, 2) := by decide +kernel
theorem d_T_setRegister_7 : decode prog_6_method_3_code 7 = .ok (.if_icmp .ge 10, 3) := by decide +kernel
theorem d_T_setRegister_10 : decode prog_6_method_3_code 10 = .ok (.aload_n 0, 1) := by decide +kernel
theorem d_T_setRegister_11 : decode prog_6_method_3_code 11 = .ok (.getfield 9, 3) := by decide +kernel
theorem d_T_setRegister_14 : decode prog_6_method_3_code 14 = .ok (.iload_n 1, 1) := by decide +kernel
theorem d_T_setRegister_15 : decode prog_6_method_3_code 15 = .ok (.iload_n 2, 1) := by decide +kernel
theorem d_T_setRegister_16 : decode prog_6_method_3_code 16 = .ok (.iastore, 1) := by decide +kernel
theorem d_T_setRegister_17 : decode prog_6_method_3_code 17 = .ok (.return_, 1) := by decide +kernel
theorem d_T_endAt_0 : decode prog_6_method_4_code 0 = .ok (.iload_n 1, 1) := by decide +kernel
theorem d_T_endAt_1 : decode prog_6_method_4_code 1 = .ok (.ifCond .lt 9, 3) := by decide +kernel
theorem d_T_endAt_4 : decode prog_6_method_4_code 4 = .ok (.iload_n 1, 1) := by decide +kernel
theorem d_T_endAt_5 : decode prog_6_method_4_code 5 = .ok (.bipush 6, 2) := by decide +kernel
theorem d_T_endAt_7 : decode prog_6_method_4_code 7 = .ok (.if_icmp .lt 7, 3) := by decide +kernel
theorem d_T_endAt_10 : decode prog_6_method_4_code 10 = .ok (.iconst (-1), 1) := by decide +kernel
theorem d_T_endAt_11 : decode prog_6_method_4_code 11 = .ok (.goto 9, 3) := by decide +kernel
theorem d_T_endAt_14 : decode prog_6_method_4_code 14 = .ok (.aload_n 0, 1) := by decide +kernel
theorem d_T_endAt_15 : decode prog_6_method_4_code 15 = .ok (.getfield 18, 3) := by decide +kernel
theorem d_T_endAt_18 : decode prog_6_method_4_code 18 = .ok (.iload_n 1, 1) := by decide +kernel
theorem d_T_endAt_19 : decode prog_6_method_4_code 19 = .ok (.iaload, 1) := by decide +kernel
theorem d_T_endAt_20 : decode prog_6_method_4_code 20 = .ok (.ireturn, 1) := by decide +kernel
theorem d_T_leastNothing_0 : decode prog_6_method_5_code 0 = .ok (.iload_n 1, 1) := by decide +kernel
theorem d_T_leastNothing_1 : decode prog_6_method_5_code 1 = .ok (.istore_n 2, 1) := by decide +kernel
theorem d_T_leastNothing_2 : decode prog_6_method_5_code 2 = .ok (.iload_n 2, 1) := by decide +kernel
theorem d_T_leastNothing_3 : decode prog_6_method_5_code 3 = .ok (.bipush 6, 2) := by decide +kernel
theorem d_T_leastNothing_5 : decode prog_6_method_5_code 5 = .ok (.if_icmp .ge 25, 3) := by decide +kernel
theorem d_T_leastNothing_8 : decode prog_6_method_5_code 8 = .ok (.iload_n 2, 1) := by decide +kernel
theorem d_T_leastNothing_9 : decode prog_6_method_5_code 9 = .ok (.ifCond .lt 15, 3) := by decide +kernel
theorem d_T_leastNothing_12 : decode prog_6_method_5_code 12 = .ok (.aload_n 0, 1) := by decide +kernel
theorem d_T_leastNothing_13 : decode prog_6_method_5_code 13 = .ok (.getfield 18, 3) := by decide +kernel
theorem d_T_leastNothing_16 : decode prog_6_method_5_code 16 = .ok (.iload_n 2, 1) := by decide +kernel
theorem d_T_leastNothing_17 : decode prog_6_method_5_code 17 = .ok (.iaload, 1) := by decide +kernel
theorem d_T_leastNothing_18 : decode prog_6_method_5_code 18 = .ok (.iconst (-1), 1) := by decide +kernel
theorem d_T_leastNothing_19 : decode prog_6_method_5_code 19 = .ok (.if_icmp .ne 5, 3) := by decide +kernel
theorem d_T_leastNothing_22 : decode prog_6_method_5_code 22 = .ok (.iload_n 2, 1) := by decide +kernel
theorem d_T_leastNothing_23 : decode prog_6_method_5_code 23 = .ok (.ireturn, 1) := by decide +kernel
theorem d_T_leastNothing_24 : decode prog_6_method_5_code 24 = .ok (.iinc 2 1, 3) := by decide +kernel
theorem d_T_leastNothing_27 : decode prog_6_method_5_code 27 = .ok (.goto (-25), 3) := by decide +kernel
theorem d_T_leastNothing_30 : decode prog_6_method_5_code 30 = .ok (.iconst (-1), 1) := by decide +kernel
theorem d_T_leastNothing_31 : decode prog_6_method_5_code 31 = .ok (.ireturn, 1) := by decide +kernel
theorem d_T_forgetDescriptors_0 : decode prog_6_method_6_code 0 = .ok (.iconst 0, 1) := by decide +kernel
theorem d_T_forgetDescriptors_1 : decode prog_6_method_6_code 1 = .ok (.istore_n 1, 1) := by decide +kernel
theorem d_T_forgetDescriptors_2 : decode prog_6_method_6_code 2 = .ok (.iload_n 1, 1) := by decide +kernel
theorem d_T_forgetDescriptors_3 : decode prog_6_method_6_code 3 = .ok (.bipush 6, 2) := by decide +kernel
theorem d_T_forgetDescriptors_5 : decode prog_6_method_6_code 5 = .ok (.if_icmp .ge 16, 3) := by decide +kernel
theorem d_T_forgetDescriptors_8 : decode prog_6_method_6_code 8 = .ok (.aload_n 0, 1) := by decide +kernel
theorem d_T_forgetDescriptors_9 : decode prog_6_method_6_code 9 = .ok (.getfield 18, 3) := by decide +kernel
theorem d_T_forgetDescriptors_12 : decode prog_6_method_6_code 12 = .ok (.iload_n 1, 1) := by decide +kernel
theorem d_T_forgetDescriptors_13 : decode prog_6_method_6_code 13 = .ok (.iconst (-1), 1) := by decide +kernel
theorem d_T_forgetDescriptors_14 : decode prog_6_method_6_code 14 = .ok (.iastore, 1) := by decide +kernel
theorem d_T_forgetDescriptors_15 : decode prog_6_method_6_code 15 = .ok (.iinc 1 1, 3) := by decide +kernel
theorem d_T_forgetDescriptors_18 : decode prog_6_method_6_code 18 = .ok (.goto (-16), 3) := by decide +kernel
theorem d_T_forgetDescriptors_21 : decode prog_6_method_6_code 21 = .ok (.return_, 1) := by decide +kernel
theorem d_T_isChildOf_0 : decode prog_6_method_7_code 0 = .ok (.aload_n 0, 1) := by decide +kernel
theorem d_T_isChildOf_1 : decode prog_6_method_7_code 1 = .ok (.getfield 25, 3) := by decide +kernel
theorem d_T_isChildOf_4 : decode prog_6_method_7_code 4 = .ok (.ifCond .eq 18, 3) := by decide +kernel
theorem d_T_isChildOf_7 : decode prog_6_method_7_code 7 = .ok (.aload_n 0, 1) := by decide +kernel
theorem d_T_isChildOf_8 : decode prog_6_method_7_code 8 = .ok (.getfield 28, 3) := by decide +kernel
theorem d_T_isChildOf_11 : decode prog_6_method_7_code 11 = .ok (.aload_n 1, 1) := by decide +kernel
theorem d_T_isChildOf_12 : decode prog_6_method_7_code 12 = .ok (.getfield 21, 3) := by decide +kernel
theorem d_T_isChildOf_15 : decode prog_6_method_7_code 15 = .ok (.if_icmp .ne 7, 3) := by decide +kernel
theorem d_T_isChildOf_18 : decode prog_6_method_7_code 18 = .ok (.iconst 1, 1) := by decide +kernel
theorem d_T_isChildOf_19 : decode prog_6_method_7_code 19 = .ok (.goto 4, 3) := by decide +kernel
theorem d_T_isChildOf_22 : decode prog_6_method_7_code 22 = .ok (.iconst 0, 1) := by decide +kernel
theorem d_T_isChildOf_23 : decode prog_6_method_7_code 23 = .ok (.ireturn, 1) := by decide +kernel
theorem d_T_sleeps_0 : decode prog_6_method_8_code 0 = .ok (.aload_n 0, 1) := by decide +kernel
theorem d_T_sleeps_1 : decode prog_6_method_8_code 1 = .ok (.getfield 25, 3) := by decide +kernel
theorem d_T_sleeps_4 : decode prog_6_method_8_code 4 = .ok (.iconst 2, 1) := by decide +kernel
theorem d_T_sleeps_5 : decode prog_6_method_8_code 5 = .ok (.if_icmp .eq 19, 3) := by decide +kernel
theorem d_T_sleeps_8 : decode prog_6_method_8_code 8 = .ok (.aload_n 0, 1) := by decide +kernel
theorem d_T_sleeps_9 : decode prog_6_method_8_code 9 = .ok (.getfield 25, 3) := by decide +kernel
theorem d_T_sleeps_12 : decode prog_6_method_8_code 12 = .ok (.iconst 3, 1) := by decide +kernel
theorem d_T_sleeps_13 : decode prog_6_method_8_code 13 = .ok (.if_icmp .eq 11, 3) := by decide +kernel
theorem d_T_sleeps_16 : decode prog_6_method_8_code 16 = .ok (.aload_n 0, 1) := by decide +kernel
theorem d_T_sleeps_17 : decode prog_6_method_8_code 17 = .ok (.getfield 25, 3) := by decide +kernel
theorem d_T_sleeps_20 : decode prog_6_method_8_code 20 = .ok (.iconst 4, 1) := by decide +kernel
theorem d_T_sleeps_21 : decode prog_6_method_8_code 21 = .ok (.if_icmp .ne 7, 3) := by decide +kernel
theorem d_T_sleeps_24 : decode prog_6_method_8_code 24 = .ok (.iconst 1, 1) := by decide +kernel
theorem d_T_sleeps_25 : decode prog_6_method_8_code 25 = .ok (.goto 4, 3) := by decide +kernel
theorem d_T_sleeps_28 : decode prog_6_method_8_code 28 = .ok (.iconst 0, 1) := by decide +kernel
theorem d_T_sleeps_29 : decode prog_6_method_8_code 29 = .ok (.ireturn, 1) := by decide +kernel
theorem d_T_copyFrom_0 : decode prog_6_method_9_code 0 = .ok (.aload_n 0, 1) := by decide +kernel
theorem d_T_copyFrom_1 : decode prog_6_method_9_code 1 = .ok (.aload_n 1, 1) := by decide +kernel
theorem d_T_copyFrom_2 : decode prog_6_method_9_code 2 = .ok (.getfield 31, 3) := by decide +kernel
theorem d_T_copyFrom_5 : decode prog_6_method_9_code 5 = .ok (.putfield 31, 3) := by decide +kernel
theorem d_T_copyFrom_8 : decode prog_6_method_9_code 8 = .ok (.aload_n 1, 1) := by decide +kernel
theorem d_T_copyFrom_9 : decode prog_6_method_9_code 9 = .ok (.getfield 9, 3) := by decide +kernel
theorem d_T_copyFrom_12 : decode prog_6_method_9_code 12 = .ok (.iconst 0, 1) := by decide +kernel
theorem d_T_copyFrom_13 : decode prog_6_method_9_code 13 = .ok (.aload_n 0, 1) := by decide +kernel
theorem d_T_copyFrom_14 : decode prog_6_method_9_code 14 = .ok (.getfield 9, 3) := by decide +kernel
theorem d_T_copyFrom_17 : decode prog_6_method_9_code 17 = .ok (.iconst 0, 1) := by decide +kernel
theorem d_T_copyFrom_18 : decode prog_6_method_9_code 18 = .ok (.bipush 32, 2) := by decide +kernel
theorem d_T_copyFrom_20 : decode prog_6_method_9_code 20 = .ok (.invokestatic 34, 3) := by decide +kernel
theorem d_T_copyFrom_23 : decode prog_6_method_9_code 23 = .ok (.aload_n 1, 1) := by decide +kernel
theorem d_T_copyFrom_24 : decode prog_6_method_9_code 24 = .ok (.getfield 18, 3) := by decide +kernel
theorem d_T_copyFrom_27 : decode prog_6_method_9_code 27 = .ok (.iconst 0, 1) := by decide +kernel
theorem d_T_copyFrom_28 : decode prog_6_method_9_code 28 = .ok (.aload_n 0, 1) := by decide +kernel
theorem d_T_copyFrom_29 : decode prog_6_method_9_code 29 = .ok (.getfield 18, 3) := by decide +kernel
theorem d_T_copyFrom_32 : decode prog_6_method_9_code 32 = .ok (.iconst 0, 1) := by decide +kernel
theorem d_T_copyFrom_33 : decode prog_6_method_9_code 33 = .ok (.bipush 6, 2) := by decide +kernel
theorem d_T_copyFrom_35 : decode prog_6_method_9_code 35 = .ok (.invokestatic 34, 3) := by decide +kernel
theorem d_T_copyFrom_38 : decode prog_6_method_9_code 38 = .ok (.return_, 1) := by decide +kernel
theorem d_LAW_cell_0 : decode method_2_code 0 = .ok (.iload_n 1, 1) := by decide +kernel
theorem d_LAW_cell_1 : decode method_2_code 1 = .ok (.aload_n 0, 1) := by decide +kernel
theorem d_LAW_cell_2 : decode method_2_code 2 = .ok (.arraylength, 1) := by decide +kernel
theorem d_LAW_cell_3 : decode method_2_code 3 = .ok (.if_icmp .ge 9, 3) := by decide +kernel
theorem d_LAW_cell_6 : decode method_2_code 6 = .ok (.aload_n 0, 1) := by decide +kernel
theorem d_LAW_cell_7 : decode method_2_code 7 = .ok (.iload_n 1, 1) := by decide +kernel
theorem d_LAW_cell_8 : decode method_2_code 8 = .ok (.iaload, 1) := by decide +kernel
theorem d_LAW_cell_9 : decode method_2_code 9 = .ok (.goto 4, 3) := by decide +kernel
theorem d_LAW_cell_12 : decode method_2_code 12 = .ok (.iconst 0, 1) := by decide +kernel
theorem d_LAW_cell_13 : decode method_2_code 13 = .ok (.ireturn, 1) := by decide +kernel
theorem d_LAW_law_0 : decode code 0 = .ok (.new 7, 3) := by decide +kernel
theorem d_LAW_law_3 : decode code 3 = .ok (.dup, 1) := by decide +kernel
theorem d_LAW_law_4 : decode code 4 = .ok (.aload_n 0, 1) := by decide +kernel
theorem d_LAW_law_5 : decode code 5 = .ok (.iconst 0, 1) := by decide +kernel
theorem d_LAW_law_6 : decode code 6 = .ok (.invokestatic 9, 3) := by decide +kernel
theorem d_LAW_law_9 : decode code 9 = .ok (.aload_n 0, 1) := by decide +kernel
theorem d_LAW_law_10 : decode code 10 = .ok (.iconst 1, 1) := by decide +kernel
theorem d_LAW_law_11 : decode code 11 = .ok (.invokestatic 9, 3) := by decide +kernel
theorem d_LAW_law_14 : decode code 14 = .ok (.invokespecial 15, 3) := by decide +kernel
theorem d_LAW_law_17 : decode code 17 = .ok (.astore_n 1, 1) := by decide +kernel
theorem d_LAW_law_18 : decode code 18 = .ok (.new 18, 3) := by decide +kernel
theorem d_LAW_law_21 : decode code 21 = .ok (.dup, 1) := by decide +kernel
theorem d_LAW_law_22 : decode code 22 = .ok (.aload_n 0, 1) := by decide +kernel
theorem d_LAW_law_23 : decode code 23 = .ok (.iconst 0, 1) := by decide +kernel
theorem d_LAW_law_24 : decode code 24 = .ok (.invokestatic 9, 3) := by decide +kernel
theorem d_LAW_law_27 : decode code 27 = .ok (.aload_n 0, 1) := by decide +kernel
theorem d_LAW_law_28 : decode code 28 = .ok (.iconst 1, 1) := by decide +kernel
theorem d_LAW_law_29 : decode code 29 = .ok (.invokestatic 9, 3) := by decide +kernel
theorem d_LAW_law_32 : decode code 32 = .ok (.invokespecial 20, 3) := by decide +kernel
theorem d_LAW_law_35 : decode code 35 = .ok (.astore_n 2, 1) := by decide +kernel
theorem d_LAW_law_36 : decode code 36 = .ok (.iconst 2, 1) := by decide +kernel
theorem d_LAW_law_37 : decode code 37 = .ok (.istore_n 3, 1) := by decide +kernel
theorem d_LAW_law_38 : decode code 38 = .ok (.iload_n 3, 1) := by decide +kernel
theorem d_LAW_law_39 : decode code 39 = .ok (.aload_n 0, 1) := by decide +kernel
theorem d_LAW_law_40 : decode code 40 = .ok (.arraylength, 1) := by decide +kernel
theorem d_LAW_law_41 : decode code 41 = .ok (.iconst 3, 1) := by decide +kernel
theorem d_LAW_law_42 : decode code 42 = .ok (.isub, 1) := by decide +kernel
theorem d_LAW_law_43 : decode code 43 = .ok (.if_icmp .gt 497, 3) := by decide +kernel
theorem d_LAW_law_46 : decode code 46 = .ok (.aload_n 0, 1) := by decide +kernel
theorem d_LAW_law_47 : decode code 47 = .ok (.iload_n 3, 1) := by decide +kernel
theorem d_LAW_law_48 : decode code 48 = .ok (.iaload, 1) := by decide +kernel
theorem d_LAW_law_49 : decode code 49 = .ok (.bipush 31, 2) := by decide +kernel
theorem d_LAW_law_51 : decode code 51 = .ok (.iand, 1) := by decide +kernel
theorem d_LAW_law_52 : decode code 52 = .ok (.tableswitch 482 0 17 #[88, 111, 124, 137, 160, 173, 196, 219, 242, 255, 278, 311, 334, 367, 400, 423, 436, 459], 88) := by decide +kernel
theorem d_LAW_law_140 : decode code 140 = .ok (.aload_n 1, 1) := by decide +kernel
theorem d_LAW_law_141 : decode code 141 = .ok (.aload_n 0, 1) := by decide +kernel
theorem d_LAW_law_142 : decode code 142 = .ok (.iload_n 3, 1) := by decide +kernel
theorem d_LAW_law_143 : decode code 143 = .ok (.iconst 1, 1) := by decide +kernel
theorem d_LAW_law_144 : decode code 144 = .ok (.iadd, 1) := by decide +kernel
theorem d_LAW_law_145 : decode code 145 = .ok (.iaload, 1) := by decide +kernel
theorem d_LAW_law_146 : decode code 146 = .ok (.invokevirtual 21, 3) := by decide +kernel
theorem d_LAW_law_149 : decode code 149 = .ok (.aload_n 2, 1) := by decide +kernel
theorem d_LAW_law_150 : decode code 150 = .ok (.aload_n 0, 1) := by decide +kernel
theorem d_LAW_law_151 : decode code 151 = .ok (.iload_n 3, 1) := by decide +kernel
theorem d_LAW_law_152 : decode code 152 = .ok (.iconst 1, 1) := by decide +kernel
theorem d_LAW_law_153 : decode code 153 = .ok (.iadd, 1) := by decide +kernel
theorem d_LAW_law_154 : decode code 154 = .ok (.iaload, 1) := by decide +kernel
theorem d_LAW_law_155 : decode code 155 = .ok (.invokevirtual 25, 3) := by decide +kernel
theorem d_LAW_law_158 : decode code 158 = .ok (.if_icmp .eq 376, 3) := by decide +kernel
theorem d_LAW_law_161 : decode code 161 = .ok (.iconst 0, 1) := by decide +kernel
theorem d_LAW_law_162 : decode code 162 = .ok (.ireturn, 1) := by decide +kernel
theorem d_LAW_law_163 : decode code 163 = .ok (.aload_n 1, 1) := by decide +kernel
theorem d_LAW_law_164 : decode code 164 = .ok (.invokevirtual 26, 3) := by decide +kernel
theorem d_LAW_law_167 : decode code 167 = .ok (.aload_n 2, 1) := by decide +kernel
theorem d_LAW_law_168 : decode code 168 = .ok (.invokevirtual 30, 3) := by decide +kernel
theorem d_LAW_law_171 : decode code 171 = .ok (.if_icmp .eq 363, 3) := by decide +kernel
theorem d_LAW_law_174 : decode code 174 = .ok (.iconst 0, 1) := by decide +kernel
theorem d_LAW_law_175 : decode code 175 = .ok (.ireturn, 1) := by decide +kernel
theorem d_LAW_law_176 : decode code 176 = .ok (.aload_n 1, 1) := by decide +kernel
theorem d_LAW_law_177 : decode code 177 = .ok (.invokevirtual 31, 3) := by decide +kernel
theorem d_LAW_law_180 : decode code 180 = .ok (.aload_n 2, 1) := by decide +kernel
theorem d_LAW_law_181 : decode code 181 = .ok (.invokevirtual 34, 3) := by decide +kernel
theorem d_LAW_law_184 : decode code 184 = .ok (.if_icmp .eq 350, 3) := by decide +kernel
theorem d_LAW_law_187 : decode code 187 = .ok (.iconst 0, 1) := by decide +kernel
theorem d_LAW_law_188 : decode code 188 = .ok (.ireturn, 1) := by decide +kernel
theorem d_LAW_law_189 : decode code 189 = .ok (.aload_n 1, 1) := by decide +kernel
theorem d_LAW_law_190 : decode code 190 = .ok (.aload_n 0, 1) := by decide +kernel
theorem d_LAW_law_191 : decode code 191 = .ok (.iload_n 3, 1) := by decide +kernel
theorem d_LAW_law_192 : decode code 192 = .ok (.iconst 1, 1) := by decide +kernel
theorem d_LAW_law_193 : decode code 193 = .ok (.iadd, 1) := by decide +kernel
theorem d_LAW_law_194 : decode code 194 = .ok (.iaload, 1) := by decide +kernel
theorem d_LAW_law_195 : decode code 195 = .ok (.invokevirtual 35, 3) := by decide +kernel
theorem d_LAW_law_198 : decode code 198 = .ok (.aload_n 2, 1) := by decide +kernel
theorem d_LAW_law_199 : decode code 199 = .ok (.aload_n 0, 1) := by decide +kernel
theorem d_LAW_law_200 : decode code 200 = .ok (.iload_n 3, 1) := by decide +kernel
theorem d_LAW_law_201 : decode code 201 = .ok (.iconst 1, 1) := by decide +kernel
theorem d_LAW_law_202 : decode code 202 = .ok (.iadd, 1) := by decide +kernel
theorem d_LAW_law_203 : decode code 203 = .ok (.iaload, 1) := by decide +kernel
theorem d_LAW_law_204 : decode code 204 = .ok (.invokevirtual 39, 3) := by decide +kernel
theorem d_LAW_law_207 : decode code 207 = .ok (.if_icmp .eq 327, 3) := by decide +kernel
theorem d_LAW_law_210 : decode code 210 = .ok (.iconst 0, 1) := by decide +kernel
theorem d_LAW_law_211 : decode code 211 = .ok (.ireturn, 1) := by decide +kernel
theorem d_LAW_law_212 : decode code 212 = .ok (.aload_n 1, 1) := by decide +kernel
theorem d_LAW_law_213 : decode code 213 = .ok (.invokevirtual 40, 3) := by decide +kernel
theorem d_LAW_law_216 : decode code 216 = .ok (.aload_n 2, 1) := by decide +kernel
theorem d_LAW_law_217 : decode code 217 = .ok (.invokevirtual 43, 3) := by decide +kernel
theorem d_LAW_law_220 : decode code 220 = .ok (.if_icmp .eq 314, 3) := by decide +kernel
theorem d_LAW_law_223 : decode code 223 = .ok (.iconst 0, 1) := by decide +kernel
theorem d_LAW_law_224 : decode code 224 = .ok (.ireturn, 1) := by decide +kernel
theorem d_LAW_law_225 : decode code 225 = .ok (.aload_n 1, 1) := by decide +kernel
theorem d_LAW_law_226 : decode code 226 = .ok (.aload_n 0, 1) := by decide +kernel
theorem d_LAW_law_227 : decode code 227 = .ok (.iload_n 3, 1) := by decide +kernel
theorem d_LAW_law_228 : decode code 228 = .ok (.iconst 1, 1) := by decide +kernel
theorem d_LAW_law_229 : decode code 229 = .ok (.iadd, 1) := by decide +kernel
theorem d_LAW_law_230 : decode code 230 = .ok (.iaload, 1) := by decide +kernel
theorem d_LAW_law_231 : decode code 231 = .ok (.invokevirtual 44, 3) := by decide +kernel
theorem d_LAW_law_234 : decode code 234 = .ok (.aload_n 2, 1) := by decide +kernel
theorem d_LAW_law_235 : decode code 235 = .ok (.aload_n 0, 1) := by decide +kernel
theorem d_LAW_law_236 : decode code 236 = .ok (.iload_n 3, 1) := by decide +kernel
theorem d_LAW_law_237 : decode code 237 = .ok (.iconst 1, 1) := by decide +kernel
theorem d_LAW_law_238 : decode code 238 = .ok (.iadd, 1) := by decide +kernel
theorem d_LAW_law_239 : decode code 239 = .ok (.iaload, 1) := by decide +kernel
theorem d_LAW_law_240 : decode code 240 = .ok (.invokevirtual 47, 3) := by decide +kernel
theorem d_LAW_law_243 : decode code 243 = .ok (.if_icmp .eq 291, 3) := by decide +kernel
theorem d_LAW_law_246 : decode code 246 = .ok (.iconst 0, 1) := by decide +kernel
theorem d_LAW_law_247 : decode code 247 = .ok (.ireturn, 1) := by decide +kernel
theorem d_LAW_law_248 : decode code 248 = .ok (.aload_n 1, 1) := by decide +kernel
theorem d_LAW_law_249 : decode code 249 = .ok (.aload_n 0, 1) := by decide +kernel
theorem d_LAW_law_250 : decode code 250 = .ok (.iload_n 3, 1) := by decide +kernel
theorem d_LAW_law_251 : decode code 251 = .ok (.iconst 1, 1) := by decide +kernel
theorem d_LAW_law_252 : decode code 252 = .ok (.iadd, 1) := by decide +kernel
theorem d_LAW_law_253 : decode code 253 = .ok (.iaload, 1) := by decide +kernel
theorem d_LAW_law_254 : decode code 254 = .ok (.invokevirtual 48, 3) := by decide +kernel
theorem d_LAW_law_257 : decode code 257 = .ok (.aload_n 2, 1) := by decide +kernel
theorem d_LAW_law_258 : decode code 258 = .ok (.aload_n 0, 1) := by decide +kernel
theorem d_LAW_law_259 : decode code 259 = .ok (.iload_n 3, 1) := by decide +kernel
theorem d_LAW_law_260 : decode code 260 = .ok (.iconst 1, 1) := by decide +kernel
theorem d_LAW_law_261 : decode code 261 = .ok (.iadd, 1) := by decide +kernel
theorem d_LAW_law_262 : decode code 262 = .ok (.iaload, 1) := by decide +kernel
theorem d_LAW_law_263 : decode code 263 = .ok (.invokevirtual 51, 3) := by decide +kernel
theorem d_LAW_law_266 : decode code 266 = .ok (.if_icmp .eq 268, 3) := by decide +kernel
theorem d_LAW_law_269 : decode code 269 = .ok (.iconst 0, 1) := by decide +kernel
theorem d_LAW_law_270 : decode code 270 = .ok (.ireturn, 1) := by decide +kernel
theorem d_LAW_law_271 : decode code 271 = .ok (.aload_n 1, 1) := by decide +kernel
theorem d_LAW_law_272 : decode code 272 = .ok (.aload_n 0, 1) := by decide +kernel
theorem d_LAW_law_273 : decode code 273 = .ok (.iload_n 3, 1) := by decide +kernel
theorem d_LAW_law_274 : decode code 274 = .ok (.iconst 1, 1) := by decide +kernel
theorem d_LAW_law_275 : decode code 275 = .ok (.iadd, 1) := by decide +kernel
theorem d_LAW_law_276 : decode code 276 = .ok (.iaload, 1) := by decide +kernel
theorem d_LAW_law_277 : decode code 277 = .ok (.invokevirtual 52, 3) := by decide +kernel
theorem d_LAW_law_280 : decode code 280 = .ok (.aload_n 2, 1) := by decide +kernel
theorem d_LAW_law_281 : decode code 281 = .ok (.aload_n 0, 1) := by decide +kernel
theorem d_LAW_law_282 : decode code 282 = .ok (.iload_n 3, 1) := by decide +kernel
theorem d_LAW_law_283 : decode code 283 = .ok (.iconst 1, 1) := by decide +kernel
theorem d_LAW_law_284 : decode code 284 = .ok (.iadd, 1) := by decide +kernel
theorem d_LAW_law_285 : decode code 285 = .ok (.iaload, 1) := by decide +kernel
theorem d_LAW_law_286 : decode code 286 = .ok (.invokevirtual 55, 3) := by decide +kernel
theorem d_LAW_law_289 : decode code 289 = .ok (.if_icmp .eq 245, 3) := by decide +kernel
theorem d_LAW_law_292 : decode code 292 = .ok (.iconst 0, 1) := by decide +kernel
theorem d_LAW_law_293 : decode code 293 = .ok (.ireturn, 1) := by decide +kernel
theorem d_LAW_law_294 : decode code 294 = .ok (.aload_n 1, 1) := by decide +kernel
theorem d_LAW_law_295 : decode code 295 = .ok (.invokevirtual 56, 3) := by decide +kernel
theorem d_LAW_law_298 : decode code 298 = .ok (.aload_n 2, 1) := by decide +kernel
theorem d_LAW_law_299 : decode code 299 = .ok (.invokevirtual 59, 3) := by decide +kernel
theorem d_LAW_law_302 : decode code 302 = .ok (.if_icmp .eq 232, 3) := by decide +kernel
theorem d_LAW_law_305 : decode code 305 = .ok (.iconst 0, 1) := by decide +kernel
theorem d_LAW_law_306 : decode code 306 = .ok (.ireturn, 1) := by decide +kernel
theorem d_LAW_law_307 : decode code 307 = .ok (.aload_n 1, 1) := by decide +kernel
theorem d_LAW_law_308 : decode code 308 = .ok (.aload_n 0, 1) := by decide +kernel
theorem d_LAW_law_309 : decode code 309 = .ok (.iload_n 3, 1) := by decide +kernel
theorem d_LAW_law_310 : decode code 310 = .ok (.iconst 1, 1) := by decide +kernel
theorem d_LAW_law_311 : decode code 311 = .ok (.iadd, 1) := by decide +kernel
theorem d_LAW_law_312 : decode code 312 = .ok (.iaload, 1) := by decide +kernel
theorem d_LAW_law_313 : decode code 313 = .ok (.invokevirtual 60, 3) := by decide +kernel
theorem d_LAW_law_316 : decode code 316 = .ok (.aload_n 2, 1) := by decide +kernel
theorem d_LAW_law_317 : decode code 317 = .ok (.aload_n 0, 1) := by decide +kernel
theorem d_LAW_law_318 : decode code 318 = .ok (.iload_n 3, 1) := by decide +kernel
theorem d_LAW_law_319 : decode code 319 = .ok (.iconst 1, 1) := by decide +kernel
theorem d_LAW_law_320 : decode code 320 = .ok (.iadd, 1) := by decide +kernel
theorem d_LAW_law_321 : decode code 321 = .ok (.iaload, 1) := by decide +kernel
theorem d_LAW_law_322 : decode code 322 = .ok (.invokevirtual 63, 3) := by decide +kernel
theorem d_LAW_law_325 : decode code 325 = .ok (.if_icmp .eq 209, 3) := by decide +kernel
theorem d_LAW_law_328 : decode code 328 = .ok (.iconst 0, 1) := by decide +kernel
theorem d_LAW_law_329 : decode code 329 = .ok (.ireturn, 1) := by decide +kernel
theorem d_LAW_law_330 : decode code 330 = .ok (.aload_n 1, 1) := by decide +kernel
theorem d_LAW_law_331 : decode code 331 = .ok (.aload_n 0, 1) := by decide +kernel
theorem d_LAW_law_332 : decode code 332 = .ok (.iload_n 3, 1) := by decide +kernel
theorem d_LAW_law_333 : decode code 333 = .ok (.iconst 1, 1) := by decide +kernel
theorem d_LAW_law_334 : decode code 334 = .ok (.iadd, 1) := by decide +kernel
theorem d_LAW_law_335 : decode code 335 = .ok (.iaload, 1) := by decide +kernel
theorem d_LAW_law_336 : decode code 336 = .ok (.aload_n 0, 1) := by decide +kernel
theorem d_LAW_law_337 : decode code 337 = .ok (.iload_n 3, 1) := by decide +kernel
theorem d_LAW_law_338 : decode code 338 = .ok (.iconst 2, 1) := by decide +kernel
theorem d_LAW_law_339 : decode code 339 = .ok (.iadd, 1) := by decide +kernel
theorem d_LAW_law_340 : decode code 340 = .ok (.iaload, 1) := by decide +kernel
theorem d_LAW_law_341 : decode code 341 = .ok (.invokevirtual 64, 3) := by decide +kernel
theorem d_LAW_law_344 : decode code 344 = .ok (.aload_n 2, 1) := by decide +kernel
theorem d_LAW_law_345 : decode code 345 = .ok (.aload_n 0, 1) := by decide +kernel
theorem d_LAW_law_346 : decode code 346 = .ok (.iload_n 3, 1) := by decide +kernel
theorem d_LAW_law_347 : decode code 347 = .ok (.iconst 1, 1) := by decide +kernel
theorem d_LAW_law_348 : decode code 348 = .ok (.iadd, 1) := by decide +kernel
theorem d_LAW_law_349 : decode code 349 = .ok (.iaload, 1) := by decide +kernel
theorem d_LAW_law_350 : decode code 350 = .ok (.aload_n 0, 1) := by decide +kernel
theorem d_LAW_law_351 : decode code 351 = .ok (.iload_n 3, 1) := by decide +kernel
theorem d_LAW_law_352 : decode code 352 = .ok (.iconst 2, 1) := by decide +kernel
theorem d_LAW_law_353 : decode code 353 = .ok (.iadd, 1) := by decide +kernel
theorem d_LAW_law_354 : decode code 354 = .ok (.iaload, 1) := by decide +kernel
theorem d_LAW_law_355 : decode code 355 = .ok (.invokevirtual 68, 3) := by decide +kernel
theorem d_LAW_law_358 : decode code 358 = .ok (.if_icmp .eq 176, 3) := by decide +kernel
theorem d_LAW_law_361 : decode code 361 = .ok (.iconst 0, 1) := by decide +kernel
theorem d_LAW_law_362 : decode code 362 = .ok (.ireturn, 1) := by decide +kernel
theorem d_LAW_law_363 : decode code 363 = .ok (.aload_n 1, 1) := by decide +kernel
theorem d_LAW_law_364 : decode code 364 = .ok (.aload_n 0, 1) := by decide +kernel
theorem d_LAW_law_365 : decode code 365 = .ok (.iload_n 3, 1) := by decide +kernel
theorem d_LAW_law_366 : decode code 366 = .ok (.iconst 1, 1) := by decide +kernel
theorem d_LAW_law_367 : decode code 367 = .ok (.iadd, 1) := by decide +kernel
theorem d_LAW_law_368 : decode code 368 = .ok (.iaload, 1) := by decide +kernel
theorem d_LAW_law_369 : decode code 369 = .ok (.invokevirtual 69, 3) := by decide +kernel
theorem d_LAW_law_372 : decode code 372 = .ok (.aload_n 2, 1) := by decide +kernel
theorem d_LAW_law_373 : decode code 373 = .ok (.aload_n 0, 1) := by decide +kernel
theorem d_LAW_law_374 : decode code 374 = .ok (.iload_n 3, 1) := by decide +kernel
theorem d_LAW_law_375 : decode code 375 = .ok (.iconst 1, 1) := by decide +kernel
theorem d_LAW_law_376 : decode code 376 = .ok (.iadd, 1) := by decide +kernel
theorem d_LAW_law_377 : decode code 377 = .ok (.iaload, 1) := by decide +kernel
theorem d_LAW_law_378 : decode code 378 = .ok (.invokevirtual 72, 3) := by decide +kernel
theorem d_LAW_law_381 : decode code 381 = .ok (.if_icmp .eq 153, 3) := by decide +kernel
theorem d_LAW_law_384 : decode code 384 = .ok (.iconst 0, 1) := by decide +kernel
theorem d_LAW_law_385 : decode code 385 = .ok (.ireturn, 1) := by decide +kernel
theorem d_LAW_law_386 : decode code 386 = .ok (.aload_n 1, 1) := by decide +kernel
theorem d_LAW_law_387 : decode code 387 = .ok (.aload_n 0, 1) := by decide +kernel
theorem d_LAW_law_388 : decode code 388 = .ok (.iload_n 3, 1) := by decide +kernel
theorem d_LAW_law_389 : decode code 389 = .ok (.iconst 1, 1) := by decide +kernel
theorem d_LAW_law_390 : decode code 390 = .ok (.iadd, 1) := by decide +kernel
theorem d_LAW_law_391 : decode code 391 = .ok (.iaload, 1) := by decide +kernel
theorem d_LAW_law_392 : decode code 392 = .ok (.aload_n 0, 1) := by decide +kernel
theorem d_LAW_law_393 : decode code 393 = .ok (.iload_n 3, 1) := by decide +kernel
theorem d_LAW_law_394 : decode code 394 = .ok (.iconst 2, 1) := by decide +kernel
theorem d_LAW_law_395 : decode code 395 = .ok (.iadd, 1) := by decide +kernel
theorem d_LAW_law_396 : decode code 396 = .ok (.iaload, 1) := by decide +kernel
theorem d_LAW_law_397 : decode code 397 = .ok (.invokevirtual 73, 3) := by decide +kernel
theorem d_LAW_law_400 : decode code 400 = .ok (.aload_n 2, 1) := by decide +kernel
theorem d_LAW_law_401 : decode code 401 = .ok (.aload_n 0, 1) := by decide +kernel
theorem d_LAW_law_402 : decode code 402 = .ok (.iload_n 3, 1) := by decide +kernel
theorem d_LAW_law_403 : decode code 403 = .ok (.iconst 1, 1) := by decide +kernel
theorem d_LAW_law_404 : decode code 404 = .ok (.iadd, 1) := by decide +kernel
theorem d_LAW_law_405 : decode code 405 = .ok (.iaload, 1) := by decide +kernel
theorem d_LAW_law_406 : decode code 406 = .ok (.aload_n 0, 1) := by decide +kernel
theorem d_LAW_law_407 : decode code 407 = .ok (.iload_n 3, 1) := by decide +kernel
theorem d_LAW_law_408 : decode code 408 = .ok (.iconst 2, 1) := by decide +kernel
theorem d_LAW_law_409 : decode code 409 = .ok (.iadd, 1) := by decide +kernel
theorem d_LAW_law_410 : decode code 410 = .ok (.iaload, 1) := by decide +kernel
theorem d_LAW_law_411 : decode code 411 = .ok (.invokevirtual 76, 3) := by decide +kernel
theorem d_LAW_law_414 : decode code 414 = .ok (.if_icmp .eq 120, 3) := by decide +kernel
theorem d_LAW_law_417 : decode code 417 = .ok (.iconst 0, 1) := by decide +kernel
theorem d_LAW_law_418 : decode code 418 = .ok (.ireturn, 1) := by decide +kernel
theorem d_LAW_law_419 : decode code 419 = .ok (.aload_n 1, 1) := by decide +kernel
theorem d_LAW_law_420 : decode code 420 = .ok (.aload_n 0, 1) := by decide +kernel
theorem d_LAW_law_421 : decode code 421 = .ok (.iload_n 3, 1) := by decide +kernel
theorem d_LAW_law_422 : decode code 422 = .ok (.iconst 1, 1) := by decide +kernel
theorem d_LAW_law_423 : decode code 423 = .ok (.iadd, 1) := by decide +kernel
theorem d_LAW_law_424 : decode code 424 = .ok (.iaload, 1) := by decide +kernel
theorem d_LAW_law_425 : decode code 425 = .ok (.aload_n 0, 1) := by decide +kernel
theorem d_LAW_law_426 : decode code 426 = .ok (.iload_n 3, 1) := by decide +kernel
theorem d_LAW_law_427 : decode code 427 = .ok (.iconst 2, 1) := by decide +kernel
theorem d_LAW_law_428 : decode code 428 = .ok (.iadd, 1) := by decide +kernel
theorem d_LAW_law_429 : decode code 429 = .ok (.iaload, 1) := by decide +kernel
theorem d_LAW_law_430 : decode code 430 = .ok (.invokevirtual 77, 3) := by decide +kernel
theorem d_LAW_law_433 : decode code 433 = .ok (.aload_n 2, 1) := by decide +kernel
theorem d_LAW_law_434 : decode code 434 = .ok (.aload_n 0, 1) := by decide +kernel
theorem d_LAW_law_435 : decode code 435 = .ok (.iload_n 3, 1) := by decide +kernel
theorem d_LAW_law_436 : decode code 436 = .ok (.iconst 1, 1) := by decide +kernel
theorem d_LAW_law_437 : decode code 437 = .ok (.iadd, 1) := by decide +kernel
theorem d_LAW_law_438 : decode code 438 = .ok (.iaload, 1) := by decide +kernel
theorem d_LAW_law_439 : decode code 439 = .ok (.aload_n 0, 1) := by decide +kernel
theorem d_LAW_law_440 : decode code 440 = .ok (.iload_n 3, 1) := by decide +kernel
theorem d_LAW_law_441 : decode code 441 = .ok (.iconst 2, 1) := by decide +kernel
theorem d_LAW_law_442 : decode code 442 = .ok (.iadd, 1) := by decide +kernel
theorem d_LAW_law_443 : decode code 443 = .ok (.iaload, 1) := by decide +kernel
theorem d_LAW_law_444 : decode code 444 = .ok (.invokevirtual 80, 3) := by decide +kernel
theorem d_LAW_law_447 : decode code 447 = .ok (.if_icmp .eq 87, 3) := by decide +kernel
theorem d_LAW_law_450 : decode code 450 = .ok (.iconst 0, 1) := by decide +kernel
theorem d_LAW_law_451 : decode code 451 = .ok (.ireturn, 1) := by decide +kernel
theorem d_LAW_law_452 : decode code 452 = .ok (.aload_n 1, 1) := by decide +kernel
theorem d_LAW_law_453 : decode code 453 = .ok (.aload_n 0, 1) := by decide +kernel
theorem d_LAW_law_454 : decode code 454 = .ok (.iload_n 3, 1) := by decide +kernel
theorem d_LAW_law_455 : decode code 455 = .ok (.iconst 1, 1) := by decide +kernel
theorem d_LAW_law_456 : decode code 456 = .ok (.iadd, 1) := by decide +kernel
theorem d_LAW_law_457 : decode code 457 = .ok (.iaload, 1) := by decide +kernel
theorem d_LAW_law_458 : decode code 458 = .ok (.invokevirtual 81, 3) := by decide +kernel
theorem d_LAW_law_461 : decode code 461 = .ok (.aload_n 2, 1) := by decide +kernel
theorem d_LAW_law_462 : decode code 462 = .ok (.aload_n 0, 1) := by decide +kernel
theorem d_LAW_law_463 : decode code 463 = .ok (.iload_n 3, 1) := by decide +kernel
theorem d_LAW_law_464 : decode code 464 = .ok (.iconst 1, 1) := by decide +kernel
theorem d_LAW_law_465 : decode code 465 = .ok (.iadd, 1) := by decide +kernel
theorem d_LAW_law_466 : decode code 466 = .ok (.iaload, 1) := by decide +kernel
theorem d_LAW_law_467 : decode code 467 = .ok (.invokevirtual 84, 3) := by decide +kernel
theorem d_LAW_law_470 : decode code 470 = .ok (.if_icmp .eq 64, 3) := by decide +kernel
theorem d_LAW_law_473 : decode code 473 = .ok (.iconst 0, 1) := by decide +kernel
theorem d_LAW_law_474 : decode code 474 = .ok (.ireturn, 1) := by decide +kernel
theorem d_LAW_law_475 : decode code 475 = .ok (.aload_n 1, 1) := by decide +kernel
theorem d_LAW_law_476 : decode code 476 = .ok (.invokevirtual 85, 3) := by decide +kernel
theorem d_LAW_law_479 : decode code 479 = .ok (.aload_n 2, 1) := by decide +kernel
theorem d_LAW_law_480 : decode code 480 = .ok (.invokevirtual 88, 3) := by decide +kernel
theorem d_LAW_law_483 : decode code 483 = .ok (.if_icmp .eq 51, 3) := by decide +kernel
theorem d_LAW_law_486 : decode code 486 = .ok (.iconst 0, 1) := by decide +kernel
theorem d_LAW_law_487 : decode code 487 = .ok (.ireturn, 1) := by decide +kernel
theorem d_LAW_law_488 : decode code 488 = .ok (.aload_n 1, 1) := by decide +kernel
theorem d_LAW_law_489 : decode code 489 = .ok (.aload_n 0, 1) := by decide +kernel
theorem d_LAW_law_490 : decode code 490 = .ok (.iload_n 3, 1) := by decide +kernel
theorem d_LAW_law_491 : decode code 491 = .ok (.iconst 1, 1) := by decide +kernel
theorem d_LAW_law_492 : decode code 492 = .ok (.iadd, 1) := by decide +kernel
theorem d_LAW_law_493 : decode code 493 = .ok (.iaload, 1) := by decide +kernel
theorem d_LAW_law_494 : decode code 494 = .ok (.invokevirtual 89, 3) := by decide +kernel
theorem d_LAW_law_497 : decode code 497 = .ok (.aload_n 2, 1) := by decide +kernel
theorem d_LAW_law_498 : decode code 498 = .ok (.aload_n 0, 1) := by decide +kernel
theorem d_LAW_law_499 : decode code 499 = .ok (.iload_n 3, 1) := by decide +kernel
theorem d_LAW_law_500 : decode code 500 = .ok (.iconst 1, 1) := by decide +kernel
theorem d_LAW_law_501 : decode code 501 = .ok (.iadd, 1) := by decide +kernel
theorem d_LAW_law_502 : decode code 502 = .ok (.iaload, 1) := by decide +kernel
theorem d_LAW_law_503 : decode code 503 = .ok (.invokevirtual 92, 3) := by decide +kernel
theorem d_LAW_law_506 : decode code 506 = .ok (.if_icmp .eq 28, 3) := by decide +kernel
theorem d_LAW_law_509 : decode code 509 = .ok (.iconst 0, 1) := by decide +kernel
theorem d_LAW_law_510 : decode code 510 = .ok (.ireturn, 1) := by decide +kernel
theorem d_LAW_law_511 : decode code 511 = .ok (.aload_n 1, 1) := by decide +kernel
theorem d_LAW_law_512 : decode code 512 = .ok (.aload_n 0, 1) := by decide +kernel
theorem d_LAW_law_513 : decode code 513 = .ok (.iload_n 3, 1) := by decide +kernel
theorem d_LAW_law_514 : decode code 514 = .ok (.iconst 1, 1) := by decide +kernel
theorem d_LAW_law_515 : decode code 515 = .ok (.iadd, 1) := by decide +kernel
theorem d_LAW_law_516 : decode code 516 = .ok (.iaload, 1) := by decide +kernel
theorem d_LAW_law_517 : decode code 517 = .ok (.invokevirtual 93, 3) := by decide +kernel
theorem d_LAW_law_520 : decode code 520 = .ok (.aload_n 2, 1) := by decide +kernel
theorem d_LAW_law_521 : decode code 521 = .ok (.aload_n 0, 1) := by decide +kernel
theorem d_LAW_law_522 : decode code 522 = .ok (.iload_n 3, 1) := by decide +kernel
theorem d_LAW_law_523 : decode code 523 = .ok (.iconst 1, 1) := by decide +kernel
theorem d_LAW_law_524 : decode code 524 = .ok (.iadd, 1) := by decide +kernel
theorem d_LAW_law_525 : decode code 525 = .ok (.iaload, 1) := by decide +kernel
theorem d_LAW_law_526 : decode code 526 = .ok (.invokevirtual 96, 3) := by decide +kernel
theorem d_LAW_law_529 : decode code 529 = .ok (.if_icmp .eq 5, 3) := by decide +kernel
theorem d_LAW_law_532 : decode code 532 = .ok (.iconst 0, 1) := by decide +kernel
theorem d_LAW_law_533 : decode code 533 = .ok (.ireturn, 1) := by decide +kernel
theorem d_LAW_law_534 : decode code 534 = .ok (.iinc 3 3, 3) := by decide +kernel
theorem d_LAW_law_537 : decode code 537 = .ok (.goto (-499), 3) := by decide +kernel
theorem d_LAW_law_540 : decode code 540 = .ok (.iconst 1, 1) := by decide +kernel
theorem d_LAW_law_541 : decode code 541 = .ok (.ireturn, 1) := by decide +kernel
