theorem d_MOD_wake_0 : decode prog_8_method_6_code 0 = .ok (.aload_n 0, 1) := by decide +kernel
theorem d_MOD_wake_1 : decode prog_8_method_6_code 1 = .ok (.getfield 19, 3) := by decide +kernel
theorem d_MOD_wake_4 : decode prog_8_method_6_code 4 = .ok (.iload_n 1, 1) := by decide +kernel
theorem d_MOD_wake_5 : decode prog_8_method_6_code 5 = .ok (.iconst 1, 1) := by decide +kernel
theorem d_MOD_wake_6 : decode prog_8_method_6_code 6 = .ok (.iastore, 1) := by decide +kernel
theorem d_MOD_wake_7 : decode prog_8_method_6_code 7 = .ok (.aload_n 0, 1) := by decide +kernel
theorem d_MOD_wake_8 : decode prog_8_method_6_code 8 = .ok (.getfield 43, 3) := by decide +kernel
theorem d_MOD_wake_11 : decode prog_8_method_6_code 11 = .ok (.aload_n 0, 1) := by decide +kernel
theorem d_MOD_wake_12 : decode prog_8_method_6_code 12 = .ok (.getfield 77, 3) := by decide +kernel
theorem d_MOD_wake_15 : decode prog_8_method_6_code 15 = .ok (.iload_n 1, 1) := by decide +kernel
theorem d_MOD_wake_16 : decode prog_8_method_6_code 16 = .ok (.iastore, 1) := by decide +kernel
theorem d_MOD_wake_17 : decode prog_8_method_6_code 17 = .ok (.aload_n 0, 1) := by decide +kernel
theorem d_MOD_wake_18 : decode prog_8_method_6_code 18 = .ok (.dup, 1) := by decide +kernel
theorem d_MOD_wake_19 : decode prog_8_method_6_code 19 = .ok (.getfield 77, 3) := by decide +kernel
theorem d_MOD_wake_22 : decode prog_8_method_6_code 22 = .ok (.iconst 1, 1) := by decide +kernel
theorem d_MOD_wake_23 : decode prog_8_method_6_code 23 = .ok (.iadd, 1) := by decide +kernel
theorem d_MOD_wake_24 : decode prog_8_method_6_code 24 = .ok (.putfield 77, 3) := by decide +kernel
theorem d_MOD_wake_27 : decode prog_8_method_6_code 27 = .ok (.return_, 1) := by decide +kernel
theorem d_MOD_there_0 : decode prog_8_method_7_code 0 = .ok (.iload_n 2, 1) := by decide +kernel
theorem d_MOD_there_1 : decode prog_8_method_7_code 1 = .ok (.ifCond .lt 20, 3) := by decide +kernel
theorem d_MOD_there_4 : decode prog_8_method_7_code 4 = .ok (.iload_n 2, 1) := by decide +kernel
theorem d_MOD_there_5 : decode prog_8_method_7_code 5 = .ok (.bipush 64, 2) := by decide +kernel
theorem d_MOD_there_7 : decode prog_8_method_7_code 7 = .ok (.aload_n 0, 1) := by decide +kernel
theorem d_MOD_there_8 : decode prog_8_method_7_code 8 = .ok (.getfield 31, 3) := by decide +kernel
theorem d_MOD_there_11 : decode prog_8_method_7_code 11 = .ok (.iload_n 1, 1) := by decide +kernel
theorem d_MOD_there_12 : decode prog_8_method_7_code 12 = .ok (.iaload, 1) := by decide +kernel
theorem d_MOD_there_13 : decode prog_8_method_7_code 13 = .ok (.imul, 1) := by decide +kernel
theorem d_MOD_there_14 : decode prog_8_method_7_code 14 = .ok (.if_icmp .ge 7, 3) := by decide +kernel
theorem d_MOD_there_17 : decode prog_8_method_7_code 17 = .ok (.iconst 1, 1) := by decide +kernel
theorem d_MOD_there_18 : decode prog_8_method_7_code 18 = .ok (.goto 4, 3) := by decide +kernel
theorem d_MOD_there_21 : decode prog_8_method_7_code 21 = .ok (.iconst 0, 1) := by decide +kernel
theorem d_MOD_there_22 : decode prog_8_method_7_code 22 = .ok (.ireturn, 1) := by decide +kernel
theorem d_MOD_cellOf_0 : decode prog_8_method_8_code 0 = .ok (.bipush 16, 2) := by decide +kernel
theorem d_MOD_cellOf_2 : decode prog_8_method_8_code 2 = .ok (.aload_n 0, 1) := by decide +kernel
theorem d_MOD_cellOf_3 : decode prog_8_method_8_code 3 = .ok (.getfield 37, 3) := by decide +kernel
theorem d_MOD_cellOf_6 : decode prog_8_method_8_code 6 = .ok (.bipush 8, 2) := by decide +kernel
theorem d_MOD_cellOf_8 : decode prog_8_method_8_code 8 = .ok (.iload_n 1, 1) := by decide +kernel
theorem d_MOD_cellOf_9 : decode prog_8_method_8_code 9 = .ok (.imul, 1) := by decide +kernel
theorem d_MOD_cellOf_10 : decode prog_8_method_8_code 10 = .ok (.iload_n 2, 1) := by decide +kernel
theorem d_MOD_cellOf_11 : decode prog_8_method_8_code 11 = .ok (.bipush 64, 2) := by decide +kernel
theorem d_MOD_cellOf_13 : decode prog_8_method_8_code 13 = .ok (.idiv, 1) := by decide +kernel
theorem d_MOD_cellOf_14 : decode prog_8_method_8_code 14 = .ok (.iadd, 1) := by decide +kernel
theorem d_MOD_cellOf_15 : decode prog_8_method_8_code 15 = .ok (.iaload, 1) := by decide +kernel
theorem d_MOD_cellOf_16 : decode prog_8_method_8_code 16 = .ok (.imul, 1) := by decide +kernel
theorem d_MOD_cellOf_17 : decode prog_8_method_8_code 17 = .ok (.iload_n 2, 1) := by decide +kernel
theorem d_MOD_cellOf_18 : decode prog_8_method_8_code 18 = .ok (.bipush 64, 2) := by decide +kernel
theorem d_MOD_cellOf_20 : decode prog_8_method_8_code 20 = .ok (.irem, 1) := by decide +kernel
theorem d_MOD_cellOf_21 : decode prog_8_method_8_code 21 = .ok (.iconst 4, 1) := by decide +kernel
theorem d_MOD_cellOf_22 : decode prog_8_method_8_code 22 = .ok (.idiv, 1) := by decide +kernel
theorem d_MOD_cellOf_23 : decode prog_8_method_8_code 23 = .ok (.iadd, 1) := by decide +kernel
theorem d_MOD_cellOf_24 : decode prog_8_method_8_code 24 = .ok (.ireturn, 1) := by decide +kernel
theorem d_MOD_byteAt_0 : decode prog_8_method_9_code 0 = .ok (.aload_n 0, 1) := by decide +kernel
theorem d_MOD_byteAt_1 : decode prog_8_method_9_code 1 = .ok (.getfield 7, 3) := by decide +kernel
theorem d_MOD_byteAt_4 : decode prog_8_method_9_code 4 = .ok (.aload_n 0, 1) := by decide +kernel
theorem d_MOD_byteAt_5 : decode prog_8_method_9_code 5 = .ok (.iload_n 1, 1) := by decide +kernel
theorem d_MOD_byteAt_6 : decode prog_8_method_9_code 6 = .ok (.iload_n 2, 1) := by decide +kernel
theorem d_MOD_byteAt_7 : decode prog_8_method_9_code 7 = .ok (.invokevirtual 80, 3) := by decide +kernel
theorem d_MOD_byteAt_10 : decode prog_8_method_9_code 10 = .ok (.iaload, 1) := by decide +kernel
theorem d_MOD_byteAt_11 : decode prog_8_method_9_code 11 = .ok (.bipush 8, 2) := by decide +kernel
theorem d_MOD_byteAt_13 : decode prog_8_method_9_code 13 = .ok (.iload_n 2, 1) := by decide +kernel
theorem d_MOD_byteAt_14 : decode prog_8_method_9_code 14 = .ok (.iconst 4, 1) := by decide +kernel
theorem d_MOD_byteAt_15 : decode prog_8_method_9_code 15 = .ok (.irem, 1) := by decide +kernel
theorem d_MOD_byteAt_16 : decode prog_8_method_9_code 16 = .ok (.imul, 1) := by decide +kernel
theorem d_MOD_byteAt_17 : decode prog_8_method_9_code 17 = .ok (.ishr, 1) := by decide +kernel
theorem d_MOD_byteAt_18 : decode prog_8_method_9_code 18 = .ok (.sipush 255, 3) := by decide +kernel
theorem d_MOD_byteAt_21 : decode prog_8_method_9_code 21 = .ok (.iand, 1) := by decide +kernel
theorem d_MOD_byteAt_22 : decode prog_8_method_9_code 22 = .ok (.ireturn, 1) := by decide +kernel
theorem d_MOD_putByte_0 : decode prog_8_method_10_code 0 = .ok (.aload_n 0, 1) := by decide +kernel
theorem d_MOD_putByte_1 : decode prog_8_method_10_code 1 = .ok (.iload_n 1, 1) := by decide +kernel
theorem d_MOD_putByte_2 : decode prog_8_method_10_code 2 = .ok (.iload_n 2, 1) := by decide +kernel
theorem d_MOD_putByte_3 : decode prog_8_method_10_code 3 = .ok (.invokevirtual 80, 3) := by decide +kernel
theorem d_MOD_putByte_6 : decode prog_8_method_10_code 6 = .ok (.istore 4, 2) := by decide +kernel
theorem d_MOD_putByte_8 : decode prog_8_method_10_code 8 = .ok (.bipush 8, 2) := by decide +kernel
theorem d_MOD_putByte_10 : decode prog_8_method_10_code 10 = .ok (.iload_n 2, 1) := by decide +kernel
theorem d_MOD_putByte_11 : decode prog_8_method_10_code 11 = .ok (.iconst 4, 1) := by decide +kernel
theorem d_MOD_putByte_12 : decode prog_8_method_10_code 12 = .ok (.irem, 1) := by decide +kernel
theorem d_MOD_putByte_13 : decode prog_8_method_10_code 13 = .ok (.imul, 1) := by decide +kernel
theorem d_MOD_putByte_14 : decode prog_8_method_10_code 14 = .ok (.istore 5, 2) := by decide +kernel
theorem d_MOD_putByte_16 : decode prog_8_method_10_code 16 = .ok (.aload_n 0, 1) := by decide +kernel
theorem d_MOD_putByte_17 : decode prog_8_method_10_code 17 = .ok (.getfield 7, 3) := by decide +kernel
theorem d_MOD_putByte_20 : decode prog_8_method_10_code 20 = .ok (.iload 4, 2) := by decide +kernel
theorem d_MOD_putByte_22 : decode prog_8_method_10_code 22 = .ok (.aload_n 0, 1) := by decide +kernel
theorem d_MOD_putByte_23 : decode prog_8_method_10_code 23 = .ok (.getfield 7, 3) := by decide +kernel
theorem d_MOD_putByte_26 : decode prog_8_method_10_code 26 = .ok (.iload 4, 2) := by decide +kernel
theorem d_MOD_putByte_28 : decode prog_8_method_10_code 28 = .ok (.iaload, 1) := by decide +kernel
theorem d_MOD_putByte_29 : decode prog_8_method_10_code 29 = .ok (.sipush 255, 3) := by decide +kernel
theorem d_MOD_putByte_32 : decode prog_8_method_10_code 32 = .ok (.iload 5, 2) := by decide +kernel
theorem d_MOD_putByte_34 : decode prog_8_method_10_code 34 = .ok (.ishl, 1) := by decide +kernel
theorem d_MOD_putByte_35 : decode prog_8_method_10_code 35 = .ok (.iconst (-1), 1) := by decide +kernel
theorem d_MOD_putByte_36 : decode prog_8_method_10_code 36 = .ok (.ixor, 1) := by decide +kernel
theorem d_MOD_putByte_37 : decode prog_8_method_10_code 37 = .ok (.iand, 1) := by decide +kernel
theorem d_MOD_putByte_38 : decode prog_8_method_10_code 38 = .ok (.iload_n 3, 1) := by decide +kernel
theorem d_MOD_putByte_39 : decode prog_8_method_10_code 39 = .ok (.sipush 255, 3) := by decide +kernel
theorem d_MOD_putByte_42 : decode prog_8_method_10_code 42 = .ok (.iand, 1) := by decide +kernel
theorem d_MOD_putByte_43 : decode prog_8_method_10_code 43 = .ok (.iload 5, 2) := by decide +kernel
theorem d_MOD_putByte_45 : decode prog_8_method_10_code 45 = .ok (.ishl, 1) := by decide +kernel
theorem d_MOD_putByte_46 : decode prog_8_method_10_code 46 = .ok (.ior, 1) := by decide +kernel
theorem d_MOD_putByte_47 : decode prog_8_method_10_code 47 = .ok (.iastore, 1) := by decide +kernel
theorem d_MOD_putByte_48 : decode prog_8_method_10_code 48 = .ok (.return_, 1) := by decide +kernel
theorem d_MOD_isHeld_0 : decode prog_8_method_11_code 0 = .ok (.iconst 0, 1) := by decide +kernel
theorem d_MOD_isHeld_1 : decode prog_8_method_11_code 1 = .ok (.istore_n 2, 1) := by decide +kernel
theorem d_MOD_isHeld_2 : decode prog_8_method_11_code 2 = .ok (.bipush 6, 2) := by decide +kernel
theorem d_MOD_isHeld_4 : decode prog_8_method_11_code 4 = .ok (.istore_n 3, 1) := by decide +kernel
theorem d_MOD_isHeld_5 : decode prog_8_method_11_code 5 = .ok (.iload_n 3, 1) := by decide +kernel
theorem d_MOD_isHeld_6 : decode prog_8_method_11_code 6 = .ok (.bipush 54, 2) := by decide +kernel
theorem d_MOD_isHeld_8 : decode prog_8_method_11_code 8 = .ok (.if_icmp .ge 29, 3) := by decide +kernel
theorem d_MOD_isHeld_11 : decode prog_8_method_11_code 11 = .ok (.iload_n 2, 1) := by decide +kernel
theorem d_MOD_isHeld_12 : decode prog_8_method_11_code 12 = .ok (.ifCond .ne 13, 3) := by decide +kernel
theorem d_MOD_isHeld_15 : decode prog_8_method_11_code 15 = .ok (.aload_n 0, 1) := by decide +kernel
theorem d_MOD_isHeld_16 : decode prog_8_method_11_code 16 = .ok (.getfield 40, 3) := by decide +kernel
theorem d_MOD_isHeld_19 : decode prog_8_method_11_code 19 = .ok (.iload_n 3, 1) := by decide +kernel
theorem d_MOD_isHeld_20 : decode prog_8_method_11_code 20 = .ok (.iaload, 1) := by decide +kernel
theorem d_MOD_isHeld_21 : decode prog_8_method_11_code 21 = .ok (.iload_n 1, 1) := by decide +kernel
theorem d_MOD_isHeld_22 : decode prog_8_method_11_code 22 = .ok (.if_icmp .ne 7, 3) := by decide +kernel
theorem d_MOD_isHeld_25 : decode prog_8_method_11_code 25 = .ok (.iconst 1, 1) := by decide +kernel
theorem d_MOD_isHeld_26 : decode prog_8_method_11_code 26 = .ok (.goto 4, 3) := by decide +kernel
theorem d_MOD_isHeld_29 : decode prog_8_method_11_code 29 = .ok (.iconst 0, 1) := by decide +kernel
theorem d_MOD_isHeld_30 : decode prog_8_method_11_code 30 = .ok (.istore_n 2, 1) := by decide +kernel
theorem d_MOD_isHeld_31 : decode prog_8_method_11_code 31 = .ok (.iinc 3 1, 3) := by decide +kernel
theorem d_MOD_isHeld_34 : decode prog_8_method_11_code 34 = .ok (.goto (-29), 3) := by decide +kernel
theorem d_MOD_isHeld_37 : decode prog_8_method_11_code 37 = .ok (.iload_n 2, 1) := by decide +kernel
theorem d_MOD_isHeld_38 : decode prog_8_method_11_code 38 = .ok (.ireturn, 1) := by decide +kernel
theorem d_MOD_tidyPipes_0 : decode prog_8_method_12_code 0 = .ok (.iconst 0, 1) := by decide +kernel
theorem d_MOD_tidyPipes_1 : decode prog_8_method_12_code 1 = .ok (.istore_n 1, 1) := by decide +kernel
theorem d_MOD_tidyPipes_2 : decode prog_8_method_12_code 2 = .ok (.iload_n 1, 1) := by decide +kernel
theorem d_MOD_tidyPipes_3 : decode prog_8_method_12_code 3 = .ok (.iconst 4, 1) := by decide +kernel
theorem d_MOD_tidyPipes_4 : decode prog_8_method_12_code 4 = .ok (.if_icmp .ge 40, 3) := by decide +kernel
theorem d_MOD_tidyPipes_7 : decode prog_8_method_12_code 7 = .ok (.aload_n 0, 1) := by decide +kernel
theorem d_MOD_tidyPipes_8 : decode prog_8_method_12_code 8 = .ok (.iconst 1, 1) := by decide +kernel
theorem d_MOD_tidyPipes_9 : decode prog_8_method_12_code 9 = .ok (.iconst 2, 1) := by decide +kernel
theorem d_MOD_tidyPipes_10 : decode prog_8_method_12_code 10 = .ok (.iload_n 1, 1) := by decide +kernel
theorem d_MOD_tidyPipes_11 : decode prog_8_method_12_code 11 = .ok (.imul, 1) := by decide +kernel
theorem d_MOD_tidyPipes_12 : decode prog_8_method_12_code 12 = .ok (.iadd, 1) := by decide +kernel
theorem d_MOD_tidyPipes_13 : decode prog_8_method_12_code 13 = .ok (.invokevirtual 84, 3) := by decide +kernel
theorem d_MOD_tidyPipes_16 : decode prog_8_method_12_code 16 = .ok (.ifCond .ne 22, 3) := by decide +kernel
theorem d_MOD_tidyPipes_19 : decode prog_8_method_12_code 19 = .ok (.aload_n 0, 1) := by decide +kernel
theorem d_MOD_tidyPipes_20 : decode prog_8_method_12_code 20 = .ok (.iconst 2, 1) := by decide +kernel
theorem d_MOD_tidyPipes_21 : decode prog_8_method_12_code 21 = .ok (.iconst 2, 1) := by decide +kernel
theorem d_MOD_tidyPipes_22 : decode prog_8_method_12_code 22 = .ok (.iload_n 1, 1) := by decide +kernel
theorem d_MOD_tidyPipes_23 : decode prog_8_method_12_code 23 = .ok (.imul, 1) := by decide +kernel
theorem d_MOD_tidyPipes_24 : decode prog_8_method_12_code 24 = .ok (.iadd, 1) := by decide +kernel
theorem d_MOD_tidyPipes_25 : decode prog_8_method_12_code 25 = .ok (.invokevirtual 84, 3) := by decide +kernel
theorem d_MOD_tidyPipes_28 : decode prog_8_method_12_code 28 = .ok (.ifCond .ne 10, 3) := by decide +kernel
theorem d_MOD_tidyPipes_31 : decode prog_8_method_12_code 31 = .ok (.aload_n 0, 1) := by decide +kernel
theorem d_MOD_tidyPipes_32 : decode prog_8_method_12_code 32 = .ok (.getfield 49, 3) := by decide +kernel
theorem d_MOD_tidyPipes_35 : decode prog_8_method_12_code 35 = .ok (.iload_n 1, 1) := by decide +kernel
theorem d_MOD_tidyPipes_36 : decode prog_8_method_12_code 36 = .ok (.iconst 0, 1) := by decide +kernel
theorem d_MOD_tidyPipes_37 : decode prog_8_method_12_code 37 = .ok (.iastore, 1) := by decide +kernel
theorem d_MOD_tidyPipes_38 : decode prog_8_method_12_code 38 = .ok (.iinc 1 1, 3) := by decide +kernel
theorem d_MOD_tidyPipes_41 : decode prog_8_method_12_code 41 = .ok (.goto (-39), 3) := by decide +kernel
theorem d_MOD_tidyPipes_44 : decode prog_8_method_12_code 44 = .ok (.return_, 1) := by decide +kernel
theorem d_MOD_descriptorOf_0 : decode prog_8_method_13_code 0 = .ok (.iload_n 2, 1) := by decide +kernel
theorem d_MOD_descriptorOf_1 : decode prog_8_method_13_code 1 = .ok (.ifCond .lt 23, 3) := by decide +kernel
theorem d_MOD_descriptorOf_4 : decode prog_8_method_13_code 4 = .ok (.iload_n 2, 1) := by decide +kernel
theorem d_MOD_descriptorOf_5 : decode prog_8_method_13_code 5 = .ok (.bipush 6, 2) := by decide +kernel
theorem d_MOD_descriptorOf_7 : decode prog_8_method_13_code 7 = .ok (.if_icmp .ge 17, 3) := by decide +kernel
theorem d_MOD_descriptorOf_10 : decode prog_8_method_13_code 10 = .ok (.aload_n 0, 1) := by decide +kernel
theorem d_MOD_descriptorOf_11 : decode prog_8_method_13_code 11 = .ok (.getfield 40, 3) := by decide +kernel
theorem d_MOD_descriptorOf_14 : decode prog_8_method_13_code 14 = .ok (.bipush 6, 2) := by decide +kernel
theorem d_MOD_descriptorOf_16 : decode prog_8_method_13_code 16 = .ok (.iload_n 1, 1) := by decide +kernel
theorem d_MOD_descriptorOf_17 : decode prog_8_method_13_code 17 = .ok (.imul, 1) := by decide +kernel
theorem d_MOD_descriptorOf_18 : decode prog_8_method_13_code 18 = .ok (.iload_n 2, 1) := by decide +kernel
theorem d_MOD_descriptorOf_19 : decode prog_8_method_13_code 19 = .ok (.iadd, 1) := by decide +kernel
theorem d_MOD_descriptorOf_20 : decode prog_8_method_13_code 20 = .ok (.iaload, 1) := by decide +kernel
theorem d_MOD_descriptorOf_21 : decode prog_8_method_13_code 21 = .ok (.goto 4, 3) := by decide +kernel
theorem d_MOD_descriptorOf_24 : decode prog_8_method_13_code 24 = .ok (.iconst (-1), 1) := by decide +kernel
theorem d_MOD_descriptorOf_25 : decode prog_8_method_13_code 25 = .ok (.ireturn, 1) := by decide +kernel
theorem d_MOD_freeDescriptor_0 : decode prog_8_method_14_code 0 = .ok (.iconst 0, 1) := by decide +kernel
theorem d_MOD_freeDescriptor_1 : decode prog_8_method_14_code 1 = .ok (.istore_n 2, 1) := by decide +kernel
theorem d_MOD_freeDescriptor_2 : decode prog_8_method_14_code 2 = .ok (.iload_n 2, 1) := by decide +kernel
theorem d_MOD_freeDescriptor_3 : decode prog_8_method_14_code 3 = .ok (.bipush 6, 2) := by decide +kernel
theorem d_MOD_freeDescriptor_5 : decode prog_8_method_14_code 5 = .ok (.if_icmp .ge 23, 3) := by decide +kernel
theorem d_MOD_freeDescriptor_8 : decode prog_8_method_14_code 8 = .ok (.aload_n 0, 1) := by decide +kernel
theorem d_MOD_freeDescriptor_9 : decode prog_8_method_14_code 9 = .ok (.getfield 40, 3) := by decide +kernel
theorem d_MOD_freeDescriptor_12 : decode prog_8_method_14_code 12 = .ok (.bipush 6, 2) := by decide +kernel
theorem d_MOD_freeDescriptor_14 : decode prog_8_method_14_code 14 = .ok (.iload_n 1, 1) := by decide +kernel
theorem d_MOD_freeDescriptor_15 : decode prog_8_method_14_code 15 = .ok (.imul, 1) := by decide +kernel
theorem d_MOD_freeDescriptor_16 : decode prog_8_method_14_code 16 = .ok (.iload_n 2, 1) := by decide +kernel
theorem d_MOD_freeDescriptor_17 : decode prog_8_method_14_code 17 = .ok (.iadd, 1) := by decide +kernel
theorem d_MOD_freeDescriptor_18 : decode prog_8_method_14_code 18 = .ok (.iaload, 1) := by decide +kernel
theorem d_MOD_freeDescriptor_19 : decode prog_8_method_14_code 19 = .ok (.ifCond .lt 9, 3) := by decide +kernel
theorem d_MOD_freeDescriptor_22 : decode prog_8_method_14_code 22 = .ok (.iinc 2 1, 3) := by decide +kernel
theorem d_MOD_freeDescriptor_25 : decode prog_8_method_14_code 25 = .ok (.goto (-23), 3) := by decide +kernel
theorem d_MOD_freeDescriptor_28 : decode prog_8_method_14_code 28 = .ok (.iload_n 2, 1) := by decide +kernel
theorem d_MOD_freeDescriptor_29 : decode prog_8_method_14_code 29 = .ok (.bipush 6, 2) := by decide +kernel
theorem d_MOD_freeDescriptor_31 : decode prog_8_method_14_code 31 = .ok (.if_icmp .ge 7, 3) := by decide +kernel
theorem d_MOD_freeDescriptor_34 : decode prog_8_method_14_code 34 = .ok (.iload_n 2, 1) := by decide +kernel
theorem d_MOD_freeDescriptor_35 : decode prog_8_method_14_code 35 = .ok (.goto 4, 3) := by decide +kernel
theorem d_MOD_freeDescriptor_38 : decode prog_8_method_14_code 38 = .ok (.iconst (-1), 1) := by decide +kernel
theorem d_MOD_freeDescriptor_39 : decode prog_8_method_14_code 39 = .ok (.ireturn, 1) := by decide +kernel
theorem d_MOD_end_0 : decode prog_8_method_15_code 0 = .ok (.aload_n 0, 1) := by decide +kernel
theorem d_MOD_end_1 : decode prog_8_method_15_code 1 = .ok (.getfield 19, 3) := by decide +kernel
theorem d_MOD_end_4 : decode prog_8_method_15_code 4 = .ok (.iload_n 1, 1) := by decide +kernel
theorem d_MOD_end_5 : decode prog_8_method_15_code 5 = .ok (.iconst 5, 1) := by decide +kernel
theorem d_MOD_end_6 : decode prog_8_method_15_code 6 = .ok (.iastore, 1) := by decide +kernel
theorem d_MOD_end_7 : decode prog_8_method_15_code 7 = .ok (.aload_n 0, 1) := by decide +kernel
theorem d_MOD_end_8 : decode prog_8_method_15_code 8 = .ok (.getfield 22, 3) := by decide +kernel
theorem d_MOD_end_11 : decode prog_8_method_15_code 11 = .ok (.iload_n 1, 1) := by decide +kernel
theorem d_MOD_end_12 : decode prog_8_method_15_code 12 = .ok (.iload_n 2, 1) := by decide +kernel
theorem d_MOD_end_13 : decode prog_8_method_15_code 13 = .ok (.iastore, 1) := by decide +kernel
theorem d_MOD_end_14 : decode prog_8_method_15_code 14 = .ok (.aload_n 0, 1) := by decide +kernel
theorem d_MOD_end_15 : decode prog_8_method_15_code 15 = .ok (.getfield 31, 3) := by decide +kernel
theorem d_MOD_end_18 : decode prog_8_method_15_code 18 = .ok (.iload_n 1, 1) := by decide +kernel
theorem d_MOD_end_19 : decode prog_8_method_15_code 19 = .ok (.iconst 0, 1) := by decide +kernel
theorem d_MOD_end_20 : decode prog_8_method_15_code 20 = .ok (.iastore, 1) := by decide +kernel
theorem d_MOD_end_21 : decode prog_8_method_15_code 21 = .ok (.iconst 0, 1) := by decide +kernel
theorem d_MOD_end_22 : decode prog_8_method_15_code 22 = .ok (.istore_n 3, 1) := by decide +kernel
theorem d_MOD_end_23 : decode prog_8_method_15_code 23 = .ok (.iload_n 3, 1) := by decide +kernel
theorem d_MOD_end_24 : decode prog_8_method_15_code 24 = .ok (.bipush 40, 2) := by decide +kernel
theorem d_MOD_end_26 : decode prog_8_method_15_code 26 = .ok (.if_icmp .ge 35, 3) := by decide +kernel
theorem d_MOD_end_29 : decode prog_8_method_15_code 29 = .ok (.aload_n 0, 1) := by decide +kernel
theorem d_MOD_end_30 : decode prog_8_method_15_code 30 = .ok (.getfield 13, 3) := by decide +kernel
theorem d_MOD_end_33 : decode prog_8_method_15_code 33 = .ok (.iload_n 3, 1) := by decide +kernel
theorem d_MOD_end_34 : decode prog_8_method_15_code 34 = .ok (.aload_n 0, 1) := by decide +kernel
theorem d_MOD_end_35 : decode prog_8_method_15_code 35 = .ok (.getfield 13, 3) := by decide +kernel
theorem d_MOD_end_38 : decode prog_8_method_15_code 38 = .ok (.iload_n 3, 1) := by decide +kernel
theorem d_MOD_end_39 : decode prog_8_method_15_code 39 = .ok (.iaload, 1) := by decide +kernel
theorem d_MOD_end_40 : decode prog_8_method_15_code 40 = .ok (.iload_n 1, 1) := by decide +kernel
theorem d_MOD_end_41 : decode prog_8_method_15_code 41 = .ok (.if_icmp .ne 7, 3) := by decide +kernel
theorem d_MOD_end_44 : decode prog_8_method_15_code 44 = .ok (.iconst 0, 1) := by decide +kernel
theorem d_MOD_end_45 : decode prog_8_method_15_code 45 = .ok (.goto 9, 3) := by decide +kernel
theorem d_MOD_end_48 : decode prog_8_method_15_code 48 = .ok (.aload_n 0, 1) := by decide +kernel
theorem d_MOD_end_49 : decode prog_8_method_15_code 49 = .ok (.getfield 13, 3) := by decide +kernel
theorem d_MOD_end_52 : decode prog_8_method_15_code 52 = .ok (.iload_n 3, 1) := by decide +kernel
theorem d_MOD_end_53 : decode prog_8_method_15_code 53 = .ok (.iaload, 1) := by decide +kernel
theorem d_MOD_end_54 : decode prog_8_method_15_code 54 = .ok (.iastore, 1) := by decide +kernel
theorem d_MOD_end_55 : decode prog_8_method_15_code 55 = .ok (.iinc 3 1, 3) := by decide +kernel
theorem d_MOD_end_58 : decode prog_8_method_15_code 58 = .ok (.goto (-35), 3) := by decide +kernel
theorem d_MOD_end_61 : decode prog_8_method_15_code 61 = .ok (.iconst 0, 1) := by decide +kernel
theorem d_MOD_end_62 : decode prog_8_method_15_code 62 = .ok (.istore_n 3, 1) := by decide +kernel
theorem d_MOD_end_63 : decode prog_8_method_15_code 63 = .ok (.iload_n 3, 1) := by decide +kernel
theorem d_MOD_end_64 : decode prog_8_method_15_code 64 = .ok (.bipush 6, 2) := by decide +kernel
theorem d_MOD_end_66 : decode prog_8_method_15_code 66 = .ok (.if_icmp .ge 21, 3) := by decide +kernel
theorem d_MOD_end_69 : decode prog_8_method_15_code 69 = .ok (.aload_n 0, 1) := by decide +kernel
theorem d_MOD_end_70 : decode prog_8_method_15_code 70 = .ok (.getfield 40, 3) := by decide +kernel
theorem d_MOD_end_73 : decode prog_8_method_15_code 73 = .ok (.bipush 6, 2) := by decide +kernel
theorem d_MOD_end_75 : decode prog_8_method_15_code 75 = .ok (.iload_n 1, 1) := by decide +kernel
theorem d_MOD_end_76 : decode prog_8_method_15_code 76 = .ok (.imul, 1) := by decide +kernel
theorem d_MOD_end_77 : decode prog_8_method_15_code 77 = .ok (.iload_n 3, 1) := by decide +kernel
theorem d_MOD_end_78 : decode prog_8_method_15_code 78 = .ok (.iadd, 1) := by decide +kernel
theorem d_MOD_end_79 : decode prog_8_method_15_code 79 = .ok (.iconst (-1), 1) := by decide +kernel
theorem d_MOD_end_80 : decode prog_8_method_15_code 80 = .ok (.iastore, 1) := by decide +kernel
theorem d_MOD_end_81 : decode prog_8_method_15_code 81 = .ok (.iinc 3 1, 3) := by decide +kernel
theorem d_MOD_end_84 : decode prog_8_method_15_code 84 = .ok (.goto (-21), 3) := by decide +kernel
theorem d_MOD_end_87 : decode prog_8_method_15_code 87 = .ok (.aload_n 0, 1) := by decide +kernel
theorem d_MOD_end_88 : decode prog_8_method_15_code 88 = .ok (.invokevirtual 88, 3) := by decide +kernel
theorem d_MOD_end_91 : decode prog_8_method_15_code 91 = .ok (.aload_n 0, 1) := by decide +kernel
theorem d_MOD_end_92 : decode prog_8_method_15_code 92 = .ok (.iload_n 1, 1) := by decide +kernel
theorem d_MOD_end_93 : decode prog_8_method_15_code 93 = .ok (.invokevirtual 91, 3) := by decide +kernel
theorem d_MOD_end_96 : decode prog_8_method_15_code 96 = .ok (.aload_n 0, 1) := by decide +kernel
theorem d_MOD_end_97 : decode prog_8_method_15_code 97 = .ok (.getfield 19, 3) := by decide +kernel
theorem d_MOD_end_100 : decode prog_8_method_15_code 100 = .ok (.iconst 1, 1) := by decide +kernel
theorem d_MOD_end_101 : decode prog_8_method_15_code 101 = .ok (.iaload, 1) := by decide +kernel
theorem d_MOD_end_102 : decode prog_8_method_15_code 102 = .ok (.iconst 5, 1) := by decide +kernel
theorem d_MOD_end_103 : decode prog_8_method_15_code 103 = .ok (.if_icmp .ne 7, 3) := by decide +kernel
theorem d_MOD_end_106 : decode prog_8_method_15_code 106 = .ok (.iconst 0, 1) := by decide +kernel
theorem d_MOD_end_107 : decode prog_8_method_15_code 107 = .ok (.goto 4, 3) := by decide +kernel
theorem d_MOD_end_110 : decode prog_8_method_15_code 110 = .ok (.iconst 1, 1) := by decide +kernel
theorem d_MOD_end_111 : decode prog_8_method_15_code 111 = .ok (.istore_n 3, 1) := by decide +kernel
theorem d_MOD_end_112 : decode prog_8_method_15_code 112 = .ok (.iconst 1, 1) := by decide +kernel
theorem d_MOD_end_113 : decode prog_8_method_15_code 113 = .ok (.istore 4, 2) := by decide +kernel
theorem d_MOD_end_115 : decode prog_8_method_15_code 115 = .ok (.iload 4, 2) := by decide +kernel
theorem d_MOD_end_117 : decode prog_8_method_15_code 117 = .ok (.bipush 8, 2) := by decide +kernel
theorem d_MOD_end_119 : decode prog_8_method_15_code 119 = .ok (.if_icmp .gt 59, 3) := by decide +kernel
theorem d_MOD_end_122 : decode prog_8_method_15_code 122 = .ok (.aload_n 0, 1) := by decide +kernel
theorem d_MOD_end_123 : decode prog_8_method_15_code 123 = .ok (.getfield 19, 3) := by decide +kernel
theorem d_MOD_end_126 : decode prog_8_method_15_code 126 = .ok (.iload 4, 2) := by decide +kernel
theorem d_MOD_end_128 : decode prog_8_method_15_code 128 = .ok (.iaload, 1) := by decide +kernel
theorem d_MOD_end_129 : decode prog_8_method_15_code 129 = .ok (.ifCond .le 43, 3) := by decide +kernel
theorem d_MOD_end_132 : decode prog_8_method_15_code 132 = .ok (.aload_n 0, 1) := by decide +kernel
theorem d_MOD_end_133 : decode prog_8_method_15_code 133 = .ok (.getfield 25, 3) := by decide +kernel
theorem d_MOD_end_136 : decode prog_8_method_15_code 136 = .ok (.iload 4, 2) := by decide +kernel
theorem d_MOD_end_138 : decode prog_8_method_15_code 138 = .ok (.iaload, 1) := by decide +kernel
theorem d_MOD_end_139 : decode prog_8_method_15_code 139 = .ok (.iload_n 1, 1) := by decide +kernel
theorem d_MOD_end_140 : decode prog_8_method_15_code 140 = .ok (.if_icmp .ne 32, 3) := by decide +kernel
theorem d_MOD_end_143 : decode prog_8_method_15_code 143 = .ok (.aload_n 0, 1) := by decide +kernel
theorem d_MOD_end_144 : decode prog_8_method_15_code 144 = .ok (.getfield 25, 3) := by decide +kernel
theorem d_MOD_end_147 : decode prog_8_method_15_code 147 = .ok (.iload 4, 2) := by decide +kernel
theorem d_MOD_end_149 : decode prog_8_method_15_code 149 = .ok (.iload_n 3, 1) := by decide +kernel
theorem d_MOD_end_150 : decode prog_8_method_15_code 150 = .ok (.iastore, 1) := by decide +kernel
theorem d_MOD_end_151 : decode prog_8_method_15_code 151 = .ok (.iload_n 3, 1) := by decide +kernel
theorem d_MOD_end_152 : decode prog_8_method_15_code 152 = .ok (.ifCond .ne 20, 3) := by decide +kernel
theorem d_MOD_end_155 : decode prog_8_method_15_code 155 = .ok (.aload_n 0, 1) := by decide +kernel
theorem d_MOD_end_156 : decode prog_8_method_15_code 156 = .ok (.getfield 19, 3) := by decide +kernel
theorem d_MOD_end_159 : decode prog_8_method_15_code 159 = .ok (.iload 4, 2) := by decide +kernel
theorem d_MOD_end_161 : decode prog_8_method_15_code 161 = .ok (.iaload, 1) := by decide +kernel
theorem d_MOD_end_162 : decode prog_8_method_15_code 162 = .ok (.iconst 5, 1) := by decide +kernel
theorem d_MOD_end_163 : decode prog_8_method_15_code 163 = .ok (.if_icmp .ne 9, 3) := by decide +kernel
theorem d_MOD_end_166 : decode prog_8_method_15_code 166 = .ok (.aload_n 0, 1) := by decide +kernel
theorem d_MOD_end_167 : decode prog_8_method_15_code 167 = .ok (.iload 4, 2) := by decide +kernel
theorem d_MOD_end_169 : decode prog_8_method_15_code 169 = .ok (.invokevirtual 94, 3) := by decide +kernel
theorem d_MOD_end_172 : decode prog_8_method_15_code 172 = .ok (.iinc 4 1, 3) := by decide +kernel
theorem d_MOD_end_175 : decode prog_8_method_15_code 175 = .ok (.goto (-60), 3) := by decide +kernel
theorem d_MOD_end_178 : decode prog_8_method_15_code 178 = .ok (.aload_n 0, 1) := by decide +kernel
theorem d_MOD_end_179 : decode prog_8_method_15_code 179 = .ok (.getfield 25, 3) := by decide +kernel
theorem d_MOD_end_182 : decode prog_8_method_15_code 182 = .ok (.iload_n 1, 1) := by decide +kernel
theorem d_MOD_end_183 : decode prog_8_method_15_code 183 = .ok (.iaload, 1) := by decide +kernel
theorem d_MOD_end_184 : decode prog_8_method_15_code 184 = .ok (.ifCond .ne 13, 3) := by decide +kernel
theorem d_MOD_end_187 : decode prog_8_method_15_code 187 = .ok (.iload_n 1, 1) := by decide +kernel
theorem d_MOD_end_188 : decode prog_8_method_15_code 188 = .ok (.iconst 1, 1) := by decide +kernel
theorem d_MOD_end_189 : decode prog_8_method_15_code 189 = .ok (.if_icmp .eq 8, 3) := by decide +kernel
theorem d_MOD_end_192 : decode prog_8_method_15_code 192 = .ok (.aload_n 0, 1) := by decide +kernel
theorem d_MOD_end_193 : decode prog_8_method_15_code 193 = .ok (.iload_n 1, 1) := by decide +kernel
theorem d_MOD_end_194 : decode prog_8_method_15_code 194 = .ok (.invokevirtual 94, 3) := by decide +kernel
theorem d_MOD_end_197 : decode prog_8_method_15_code 197 = .ok (.iload_n 1, 1) := by decide +kernel
theorem d_MOD_end_198 : decode prog_8_method_15_code 198 = .ok (.aload_n 0, 1) := by decide +kernel
theorem d_MOD_end_199 : decode prog_8_method_15_code 199 = .ok (.getfield 97, 3) := by decide +kernel
theorem d_MOD_end_202 : decode prog_8_method_15_code 202 = .ok (.if_icmp .ne 8, 3) := by decide +kernel
theorem d_MOD_end_205 : decode prog_8_method_15_code 205 = .ok (.aload_n 0, 1) := by decide +kernel
theorem d_MOD_end_206 : decode prog_8_method_15_code 206 = .ok (.iconst 0, 1) := by decide +kernel
theorem d_MOD_end_207 : decode prog_8_method_15_code 207 = .ok (.putfield 100, 3) := by decide +kernel
theorem d_MOD_end_210 : decode prog_8_method_15_code 210 = .ok (.return_, 1) := by decide +kernel
theorem d_MOD_unrow_0 : decode prog_8_method_16_code 0 = .ok (.iconst 0, 1) := by decide +kernel
theorem d_MOD_unrow_1 : decode prog_8_method_16_code 1 = .ok (.istore_n 2, 1) := by decide +kernel
theorem d_MOD_unrow_2 : decode prog_8_method_16_code 2 = .ok (.iconst 0, 1) := by decide +kernel
theorem d_MOD_unrow_3 : decode prog_8_method_16_code 3 = .ok (.istore_n 3, 1) := by decide +kernel
theorem d_MOD_unrow_4 : decode prog_8_method_16_code 4 = .ok (.iload_n 3, 1) := by decide +kernel
theorem d_MOD_unrow_5 : decode prog_8_method_16_code 5 = .ok (.aload_n 0, 1) := by decide +kernel
theorem d_MOD_unrow_6 : decode prog_8_method_16_code 6 = .ok (.getfield 77, 3) := by decide +kernel
theorem d_MOD_unrow_9 : decode prog_8_method_16_code 9 = .ok (.if_icmp .ge 34, 3) := by decide +kernel
theorem d_MOD_unrow_12 : decode prog_8_method_16_code 12 = .ok (.aload_n 0, 1) := by decide +kernel
theorem d_MOD_unrow_13 : decode prog_8_method_16_code 13 = .ok (.getfield 43, 3) := by decide +kernel
theorem d_MOD_unrow_16 : decode prog_8_method_16_code 16 = .ok (.iload_n 3, 1) := by decide +kernel
theorem d_MOD_unrow_17 : decode prog_8_method_16_code 17 = .ok (.iaload, 1) := by decide +kernel
theorem d_MOD_unrow_18 : decode prog_8_method_16_code 18 = .ok (.iload_n 1, 1) := by decide +kernel
theorem d_MOD_unrow_19 : decode prog_8_method_16_code 19 = .ok (.if_icmp .eq 18, 3) := by decide +kernel
theorem d_MOD_unrow_22 : decode prog_8_method_16_code 22 = .ok (.aload_n 0, 1) := by decide +kernel
theorem d_MOD_unrow_23 : decode prog_8_method_16_code 23 = .ok (.getfield 43, 3) := by decide +kernel
theorem d_MOD_unrow_26 : decode prog_8_method_16_code 26 = .ok (.iload_n 2, 1) := by decide +kernel
theorem d_MOD_unrow_27 : decode prog_8_method_16_code 27 = .ok (.aload_n 0, 1) := by decide +kernel
theorem d_MOD_unrow_28 : decode prog_8_method_16_code 28 = .ok (.getfield 43, 3) := by decide +kernel
theorem d_MOD_unrow_31 : decode prog_8_method_16_code 31 = .ok (.iload_n 3, 1) := by decide +kernel
theorem d_MOD_unrow_32 : decode prog_8_method_16_code 32 = .ok (.iaload, 1) := by decide +kernel
theorem d_MOD_unrow_33 : decode prog_8_method_16_code 33 = .ok (.iastore, 1) := by decide +kernel
theorem d_MOD_unrow_34 : decode prog_8_method_16_code 34 = .ok (.iinc 2 1, 3) := by decide +kernel
theorem d_MOD_unrow_37 : decode prog_8_method_16_code 37 = .ok (.iinc 3 1, 3) := by decide +kernel
theorem d_MOD_unrow_40 : decode prog_8_method_16_code 40 = .ok (.goto (-36), 3) := by decide +kernel
theorem d_MOD_unrow_43 : decode prog_8_method_16_code 43 = .ok (.aload_n 0, 1) := by decide +kernel
theorem d_MOD_unrow_44 : decode prog_8_method_16_code 44 = .ok (.iload_n 2, 1) := by decide +kernel
theorem d_MOD_unrow_45 : decode prog_8_method_16_code 45 = .ok (.putfield 77, 3) := by decide +kernel
theorem d_MOD_unrow_48 : decode prog_8_method_16_code 48 = .ok (.return_, 1) := by decide +kernel
theorem d_MOD_remove_0 : decode prog_8_method_17_code 0 = .ok (.aload_n 0, 1) := by decide +kernel
theorem d_MOD_remove_1 : decode prog_8_method_17_code 1 = .ok (.getfield 19, 3) := by decide +kernel
theorem d_MOD_remove_4 : decode prog_8_method_17_code 4 = .ok (.iload_n 1, 1) := by decide +kernel
theorem d_MOD_remove_5 : decode prog_8_method_17_code 5 = .ok (.iconst 0, 1) := by decide +kernel
theorem d_MOD_remove_6 : decode prog_8_method_17_code 6 = .ok (.iastore, 1) := by decide +kernel
theorem d_MOD_remove_7 : decode prog_8_method_17_code 7 = .ok (.aload_n 0, 1) := by decide +kernel
theorem d_MOD_remove_8 : decode prog_8_method_17_code 8 = .ok (.getfield 22, 3) := by decide +kernel
theorem d_MOD_remove_11 : decode prog_8_method_17_code 11 = .ok (.iload_n 1, 1) := by decide +kernel
theorem d_MOD_remove_12 : decode prog_8_method_17_code 12 = .ok (.iconst 0, 1) := by decide +kernel
theorem d_MOD_remove_13 : decode prog_8_method_17_code 13 = .ok (.iastore, 1) := by decide +kernel
theorem d_MOD_remove_14 : decode prog_8_method_17_code 14 = .ok (.aload_n 0, 1) := by decide +kernel
theorem d_MOD_remove_15 : decode prog_8_method_17_code 15 = .ok (.getfield 25, 3) := by decide +kernel
theorem d_MOD_remove_18 : decode prog_8_method_17_code 18 = .ok (.iload_n 1, 1) := by decide +kernel
theorem d_MOD_remove_19 : decode prog_8_method_17_code 19 = .ok (.iconst 0, 1) := by decide +kernel
theorem d_MOD_remove_20 : decode prog_8_method_17_code 20 = .ok (.iastore, 1) := by decide +kernel
theorem d_MOD_remove_21 : decode prog_8_method_17_code 21 = .ok (.aload_n 0, 1) := by decide +kernel
theorem d_MOD_remove_22 : decode prog_8_method_17_code 22 = .ok (.getfield 28, 3) := by decide +kernel
theorem d_MOD_remove_25 : decode prog_8_method_17_code 25 = .ok (.iload_n 1, 1) := by decide +kernel
theorem d_MOD_remove_26 : decode prog_8_method_17_code 26 = .ok (.iconst 0, 1) := by decide +kernel
theorem d_MOD_remove_27 : decode prog_8_method_17_code 27 = .ok (.iastore, 1) := by decide +kernel
theorem d_MOD_remove_28 : decode prog_8_method_17_code 28 = .ok (.iconst 0, 1) := by decide +kernel
theorem d_MOD_remove_29 : decode prog_8_method_17_code 29 = .ok (.istore_n 2, 1) := by decide +kernel
theorem d_MOD_remove_30 : decode prog_8_method_17_code 30 = .ok (.iload_n 2, 1) := by decide +kernel
theorem d_MOD_remove_31 : decode prog_8_method_17_code 31 = .ok (.bipush 32, 2) := by decide +kernel
theorem d_MOD_remove_33 : decode prog_8_method_17_code 33 = .ok (.if_icmp .ge 21, 3) := by decide +kernel
theorem d_MOD_remove_36 : decode prog_8_method_17_code 36 = .ok (.aload_n 0, 1) := by decide +kernel
theorem d_MOD_remove_37 : decode prog_8_method_17_code 37 = .ok (.getfield 34, 3) := by decide +kernel
theorem d_MOD_remove_40 : decode prog_8_method_17_code 40 = .ok (.bipush 32, 2) := by decide +kernel
theorem d_MOD_remove_42 : decode prog_8_method_17_code 42 = .ok (.iload_n 1, 1) := by decide +kernel
theorem d_MOD_remove_43 : decode prog_8_method_17_code 43 = .ok (.imul, 1) := by decide +kernel
theorem d_MOD_remove_44 : decode prog_8_method_17_code 44 = .ok (.iload_n 2, 1) := by decide +kernel
theorem d_MOD_remove_45 : decode prog_8_method_17_code 45 = .ok (.iadd, 1) := by decide +kernel
theorem d_MOD_remove_46 : decode prog_8_method_17_code 46 = .ok (.iconst 0, 1) := by decide +kernel
theorem d_MOD_remove_47 : decode prog_8_method_17_code 47 = .ok (.iastore, 1) := by decide +kernel
theorem d_MOD_remove_48 : decode prog_8_method_17_code 48 = .ok (.iinc 2 1, 3) := by decide +kernel
theorem d_MOD_remove_51 : decode prog_8_method_17_code 51 = .ok (.goto (-21), 3) := by decide +kernel
theorem d_MOD_remove_54 : decode prog_8_method_17_code 54 = .ok (.return_, 1) := by decide +kernel
theorem d_MOD_fault_0 : decode prog_8_method_18_code 0 = .ok (.aload_n 0, 1) := by decide +kernel
theorem d_MOD_fault_1 : decode prog_8_method_18_code 1 = .ok (.aload_n 0, 1) := by decide +kernel
theorem d_MOD_fault_2 : decode prog_8_method_18_code 2 = .ok (.getfield 97, 3) := by decide +kernel
theorem d_MOD_fault_5 : decode prog_8_method_18_code 5 = .ok (.sipush 128, 3) := by decide +kernel
theorem d_MOD_fault_8 : decode prog_8_method_18_code 8 = .ok (.iload_n 1, 1) := by decide +kernel
theorem d_MOD_fault_9 : decode prog_8_method_18_code 9 = .ok (.iadd, 1) := by decide +kernel
theorem d_MOD_fault_10 : decode prog_8_method_18_code 10 = .ok (.invokevirtual 103, 3) := by decide +kernel
theorem d_MOD_fault_13 : decode prog_8_method_18_code 13 = .ok (.return_, 1) := by decide +kernel
theorem d_MOD_get_0 : decode prog_8_method_19_code 0 = .ok (.aload_n 0, 1) := by decide +kernel
theorem d_MOD_get_1 : decode prog_8_method_19_code 1 = .ok (.getfield 34, 3) := by decide +kernel
theorem d_MOD_get_4 : decode prog_8_method_19_code 4 = .ok (.bipush 32, 2) := by decide +kernel
theorem d_MOD_get_6 : decode prog_8_method_19_code 6 = .ok (.aload_n 0, 1) := by decide +kernel
theorem d_MOD_get_7 : decode prog_8_method_19_code 7 = .ok (.getfield 97, 3) := by decide +kernel
theorem d_MOD_get_10 : decode prog_8_method_19_code 10 = .ok (.imul, 1) := by decide +kernel
theorem d_MOD_get_11 : decode prog_8_method_19_code 11 = .ok (.iload_n 1, 1) := by decide +kernel
theorem d_MOD_get_12 : decode prog_8_method_19_code 12 = .ok (.iadd, 1) := by decide +kernel
theorem d_MOD_get_13 : decode prog_8_method_19_code 13 = .ok (.iaload, 1) := by decide +kernel
theorem d_MOD_get_14 : decode prog_8_method_19_code 14 = .ok (.ireturn, 1) := by decide +kernel
theorem d_MOD_set_0 : decode prog_8_method_20_code 0 = .ok (.aload_n 0, 1) := by decide +kernel
theorem d_MOD_set_1 : decode prog_8_method_20_code 1 = .ok (.getfield 34, 3) := by decide +kernel
theorem d_MOD_set_4 : decode prog_8_method_20_code 4 = .ok (.bipush 32, 2) := by decide +kernel
theorem d_MOD_set_6 : decode prog_8_method_20_code 6 = .ok (.aload_n 0, 1) := by decide +kernel
theorem d_MOD_set_7 : decode prog_8_method_20_code 7 = .ok (.getfield 97, 3) := by decide +kernel
theorem d_MOD_set_10 : decode prog_8_method_20_code 10 = .ok (.imul, 1) := by decide +kernel
theorem d_MOD_set_11 : decode prog_8_method_20_code 11 = .ok (.iload_n 1, 1) := by decide +kernel
theorem d_MOD_set_12 : decode prog_8_method_20_code 12 = .ok (.iadd, 1) := by decide +kernel
theorem d_MOD_set_13 : decode prog_8_method_20_code 13 = .ok (.iload_n 1, 1) := by decide +kernel
theorem d_MOD_set_14 : decode prog_8_method_20_code 14 = .ok (.ifCond .ne 7, 3) := by decide +kernel
theorem d_MOD_set_17 : decode prog_8_method_20_code 17 = .ok (.iconst 0, 1) := by decide +kernel
theorem d_MOD_set_18 : decode prog_8_method_20_code 18 = .ok (.goto 4, 3) := by decide +kernel
theorem d_MOD_set_21 : decode prog_8_method_20_code 21 = .ok (.iload_n 2, 1) := by decide +kernel
theorem d_MOD_set_22 : decode prog_8_method_20_code 22 = .ok (.iastore, 1) := by decide +kernel
theorem d_MOD_set_23 : decode prog_8_method_20_code 23 = .ok (.return_, 1) := by decide +kernel
theorem d_MOD_bits_0 : decode prog_8_method_21_code 0 = .ok (.aload_n 0, 1) := by decide +kernel
theorem d_MOD_bits_1 : decode prog_8_method_21_code 1 = .ok (.getfield 107, 3) := by decide +kernel
theorem d_MOD_bits_4 : decode prog_8_method_21_code 4 = .ok (.iload_n 1, 1) := by decide +kernel
theorem d_MOD_bits_5 : decode prog_8_method_21_code 5 = .ok (.ishr, 1) := by decide +kernel
theorem d_MOD_bits_6 : decode prog_8_method_21_code 6 = .ok (.iconst 1, 1) := by decide +kernel
theorem d_MOD_bits_7 : decode prog_8_method_21_code 7 = .ok (.iload_n 2, 1) := by decide +kernel
theorem d_MOD_bits_8 : decode prog_8_method_21_code 8 = .ok (.ishl, 1) := by decide +kernel
theorem d_MOD_bits_9 : decode prog_8_method_21_code 9 = .ok (.iconst 1, 1) := by decide +kernel
theorem d_MOD_bits_10 : decode prog_8_method_21_code 10 = .ok (.isub, 1) := by decide +kernel
theorem d_MOD_bits_11 : decode prog_8_method_21_code 11 = .ok (.iand, 1) := by decide +kernel
theorem d_MOD_bits_12 : decode prog_8_method_21_code 12 = .ok (.ireturn, 1) := by decide +kernel
