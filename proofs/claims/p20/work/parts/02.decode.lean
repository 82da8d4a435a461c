theorem d_P_init_0 : decode prog_5_method_1_code 0 = .ok (.aload_n 0, 1) := by decide +kernel
theorem d_P_init_1 : decode prog_5_method_1_code 1 = .ok (.invokespecial 1, 3) := by decide +kernel
theorem d_P_init_4 : decode prog_5_method_1_code 4 = .ok (.aload_n 0, 1) := by decide +kernel
theorem d_P_init_5 : decode prog_5_method_1_code 5 = .ok (.iconst 0, 1) := by decide +kernel
theorem d_P_init_6 : decode prog_5_method_1_code 6 = .ok (.putfield 7, 3) := by decide +kernel
theorem d_P_init_9 : decode prog_5_method_1_code 9 = .ok (.aload_n 0, 1) := by decide +kernel
theorem d_P_init_10 : decode prog_5_method_1_code 10 = .ok (.iconst 0, 1) := by decide +kernel
theorem d_P_init_11 : decode prog_5_method_1_code 11 = .ok (.putfield 13, 3) := by decide +kernel
theorem d_P_init_14 : decode prog_5_method_1_code 14 = .ok (.aload_n 0, 1) := by decide +kernel
theorem d_P_init_15 : decode prog_5_method_1_code 15 = .ok (.iconst 0, 1) := by decide +kernel
theorem d_P_init_16 : decode prog_5_method_1_code 16 = .ok (.putfield 16, 3) := by decide +kernel
theorem d_P_init_19 : decode prog_5_method_1_code 19 = .ok (.return_, 1) := by decide +kernel
theorem d_T_init_0 : decode prog_7_method_1_code 0 = .ok (.aload_n 0, 1) := by decide +kernel
theorem d_T_init_1 : decode prog_7_method_1_code 1 = .ok (.invokespecial 3, 3) := by decide +kernel
theorem d_T_init_4 : decode prog_7_method_1_code 4 = .ok (.aload_n 0, 1) := by decide +kernel
theorem d_T_init_5 : decode prog_7_method_1_code 5 = .ok (.sipush 256, 3) := by decide +kernel
theorem d_T_init_8 : decode prog_7_method_1_code 8 = .ok (.newarray .byte, 2) := by decide +kernel
theorem d_T_init_10 : decode prog_7_method_1_code 10 = .ok (.putfield 9, 3) := by decide +kernel
theorem d_T_init_13 : decode prog_7_method_1_code 13 = .ok (.aload_n 0, 1) := by decide +kernel
theorem d_T_init_14 : decode prog_7_method_1_code 14 = .ok (.iconst 0, 1) := by decide +kernel
theorem d_T_init_15 : decode prog_7_method_1_code 15 = .ok (.putfield 15, 3) := by decide +kernel
theorem d_T_init_18 : decode prog_7_method_1_code 18 = .ok (.return_, 1) := by decide +kernel
theorem d_W_init_0 : decode prog_4_method_1_code 0 = .ok (.aload_n 0, 1) := by decide +kernel
theorem d_W_init_1 : decode prog_4_method_1_code 1 = .ok (.invokespecial 3, 3) := by decide +kernel
theorem d_W_init_4 : decode prog_4_method_1_code 4 = .ok (.aload_n 0, 1) := by decide +kernel
theorem d_W_init_5 : decode prog_4_method_1_code 5 = .ok (.sipush 512, 3) := by decide +kernel
theorem d_W_init_8 : decode prog_4_method_1_code 8 = .ok (.newarray .byte, 2) := by decide +kernel
theorem d_W_init_10 : decode prog_4_method_1_code 10 = .ok (.putfield 9, 3) := by decide +kernel
theorem d_W_init_13 : decode prog_4_method_1_code 13 = .ok (.aload_n 0, 1) := by decide +kernel
theorem d_W_init_14 : decode prog_4_method_1_code 14 = .ok (.iconst 0, 1) := by decide +kernel
theorem d_W_init_15 : decode prog_4_method_1_code 15 = .ok (.putfield 15, 3) := by decide +kernel
theorem d_W_init_18 : decode prog_4_method_1_code 18 = .ok (.return_, 1) := by decide +kernel
theorem d_M_init_0 : decode prog_3_method_1_code 0 = .ok (.aload_n 0, 1) := by decide +kernel
theorem d_M_init_1 : decode prog_3_method_1_code 1 = .ok (.invokespecial 3, 3) := by decide +kernel
theorem d_M_init_4 : decode prog_3_method_1_code 4 = .ok (.aload_n 0, 1) := by decide +kernel
theorem d_M_init_5 : decode prog_3_method_1_code 5 = .ok (.new 9, 3) := by decide +kernel
theorem d_M_init_8 : decode prog_3_method_1_code 8 = .ok (.dup, 1) := by decide +kernel
theorem d_M_init_9 : decode prog_3_method_1_code 9 = .ok (.invokespecial 11, 3) := by decide +kernel
theorem d_M_init_12 : decode prog_3_method_1_code 12 = .ok (.putfield 12, 3) := by decide +kernel
theorem d_M_init_15 : decode prog_3_method_1_code 15 = .ok (.aload_n 0, 1) := by decide +kernel
theorem d_M_init_16 : decode prog_3_method_1_code 16 = .ok (.new 9, 3) := by decide +kernel
theorem d_M_init_19 : decode prog_3_method_1_code 19 = .ok (.dup, 1) := by decide +kernel
theorem d_M_init_20 : decode prog_3_method_1_code 20 = .ok (.invokespecial 11, 3) := by decide +kernel
theorem d_M_init_23 : decode prog_3_method_1_code 23 = .ok (.putfield 18, 3) := by decide +kernel
theorem d_M_init_26 : decode prog_3_method_1_code 26 = .ok (.aload_n 0, 1) := by decide +kernel
theorem d_M_init_27 : decode prog_3_method_1_code 27 = .ok (.iconst 0, 1) := by decide +kernel
theorem d_M_init_28 : decode prog_3_method_1_code 28 = .ok (.newarray .byte, 2) := by decide +kernel
theorem d_M_init_30 : decode prog_3_method_1_code 30 = .ok (.putfield 21, 3) := by decide +kernel
theorem d_M_init_33 : decode prog_3_method_1_code 33 = .ok (.aload_n 0, 1) := by decide +kernel
theorem d_M_init_34 : decode prog_3_method_1_code 34 = .ok (.iconst 0, 1) := by decide +kernel
theorem d_M_init_35 : decode prog_3_method_1_code 35 = .ok (.putfield 25, 3) := by decide +kernel
theorem d_M_init_38 : decode prog_3_method_1_code 38 = .ok (.return_, 1) := by decide +kernel
theorem d_K_init_0 : decode prog_1_method_1_code 0 = .ok (.aload_n 0, 1) := by decide +kernel
theorem d_K_init_1 : decode prog_1_method_1_code 1 = .ok (.invokespecial 1, 3) := by decide +kernel
theorem d_K_init_4 : decode prog_1_method_1_code 4 = .ok (.aload_n 0, 1) := by decide +kernel
theorem d_K_init_5 : decode prog_1_method_1_code 5 = .ok (.bipush 8, 2) := by decide +kernel
theorem d_K_init_7 : decode prog_1_method_1_code 7 = .ok (.anewarray 9, 3) := by decide +kernel
theorem d_K_init_10 : decode prog_1_method_1_code 10 = .ok (.putfield 11, 3) := by decide +kernel
theorem d_K_init_13 : decode prog_1_method_1_code 13 = .ok (.aload_n 0, 1) := by decide +kernel
theorem d_K_init_14 : decode prog_1_method_1_code 14 = .ok (.new 15, 3) := by decide +kernel
theorem d_K_init_17 : decode prog_1_method_1_code 17 = .ok (.dup, 1) := by decide +kernel
theorem d_K_init_18 : decode prog_1_method_1_code 18 = .ok (.invokespecial 17, 3) := by decide +kernel
theorem d_K_init_21 : decode prog_1_method_1_code 21 = .ok (.putfield 18, 3) := by decide +kernel
theorem d_K_init_24 : decode prog_1_method_1_code 24 = .ok (.aload_n 0, 1) := by decide +kernel
theorem d_K_init_25 : decode prog_1_method_1_code 25 = .ok (.new 15, 3) := by decide +kernel
theorem d_K_init_28 : decode prog_1_method_1_code 28 = .ok (.dup, 1) := by decide +kernel
theorem d_K_init_29 : decode prog_1_method_1_code 29 = .ok (.invokespecial 17, 3) := by decide +kernel
theorem d_K_init_32 : decode prog_1_method_1_code 32 = .ok (.putfield 22, 3) := by decide +kernel
theorem d_K_init_35 : decode prog_1_method_1_code 35 = .ok (.aload_n 0, 1) := by decide +kernel
theorem d_K_init_36 : decode prog_1_method_1_code 36 = .ok (.new 15, 3) := by decide +kernel
theorem d_K_init_39 : decode prog_1_method_1_code 39 = .ok (.dup, 1) := by decide +kernel
theorem d_K_init_40 : decode prog_1_method_1_code 40 = .ok (.invokespecial 17, 3) := by decide +kernel
theorem d_K_init_43 : decode prog_1_method_1_code 43 = .ok (.putfield 25, 3) := by decide +kernel
theorem d_K_init_46 : decode prog_1_method_1_code 46 = .ok (.aload_n 0, 1) := by decide +kernel
theorem d_K_init_47 : decode prog_1_method_1_code 47 = .ok (.new 28, 3) := by decide +kernel
theorem d_K_init_50 : decode prog_1_method_1_code 50 = .ok (.dup, 1) := by decide +kernel
theorem d_K_init_51 : decode prog_1_method_1_code 51 = .ok (.invokespecial 30, 3) := by decide +kernel
theorem d_K_init_54 : decode prog_1_method_1_code 54 = .ok (.putfield 31, 3) := by decide +kernel
theorem d_K_init_57 : decode prog_1_method_1_code 57 = .ok (.aload_n 0, 1) := by decide +kernel
theorem d_K_init_58 : decode prog_1_method_1_code 58 = .ok (.new 35, 3) := by decide +kernel
theorem d_K_init_61 : decode prog_1_method_1_code 61 = .ok (.dup, 1) := by decide +kernel
theorem d_K_init_62 : decode prog_1_method_1_code 62 = .ok (.invokespecial 37, 3) := by decide +kernel
theorem d_K_init_65 : decode prog_1_method_1_code 65 = .ok (.putfield 38, 3) := by decide +kernel
theorem d_K_init_68 : decode prog_1_method_1_code 68 = .ok (.aload_n 0, 1) := by decide +kernel
theorem d_K_init_69 : decode prog_1_method_1_code 69 = .ok (.new 42, 3) := by decide +kernel
theorem d_K_init_72 : decode prog_1_method_1_code 72 = .ok (.dup, 1) := by decide +kernel
theorem d_K_init_73 : decode prog_1_method_1_code 73 = .ok (.invokespecial 44, 3) := by decide +kernel
theorem d_K_init_76 : decode prog_1_method_1_code 76 = .ok (.putfield 45, 3) := by decide +kernel
theorem d_K_init_79 : decode prog_1_method_1_code 79 = .ok (.aload_n 0, 1) := by decide +kernel
theorem d_K_init_80 : decode prog_1_method_1_code 80 = .ok (.iconst 0, 1) := by decide +kernel
theorem d_K_init_81 : decode prog_1_method_1_code 81 = .ok (.putfield 49, 3) := by decide +kernel
theorem d_K_init_84 : decode prog_1_method_1_code 84 = .ok (.aload_n 0, 1) := by decide +kernel
theorem d_K_init_85 : decode prog_1_method_1_code 85 = .ok (.iconst (-1), 1) := by decide +kernel
theorem d_K_init_86 : decode prog_1_method_1_code 86 = .ok (.putfield 53, 3) := by decide +kernel
theorem d_K_init_89 : decode prog_1_method_1_code 89 = .ok (.return_, 1) := by decide +kernel
theorem d_T_hasRoom_0 : decode prog_7_method_3_code 0 = .ok (.iload_n 1, 1) := by decide +kernel
theorem d_T_hasRoom_1 : decode prog_7_method_3_code 1 = .ok (.sipush 256, 3) := by decide +kernel
theorem d_T_hasRoom_4 : decode prog_7_method_3_code 4 = .ok (.aload_n 0, 1) := by decide +kernel
theorem d_T_hasRoom_5 : decode prog_7_method_3_code 5 = .ok (.getfield 15, 3) := by decide +kernel
theorem d_T_hasRoom_8 : decode prog_7_method_3_code 8 = .ok (.isub, 1) := by decide +kernel
theorem d_T_hasRoom_9 : decode prog_7_method_3_code 9 = .ok (.if_icmp .gt 7, 3) := by decide +kernel
theorem d_T_hasRoom_12 : decode prog_7_method_3_code 12 = .ok (.iconst 1, 1) := by decide +kernel
theorem d_T_hasRoom_13 : decode prog_7_method_3_code 13 = .ok (.goto 4, 3) := by decide +kernel
theorem d_T_hasRoom_16 : decode prog_7_method_3_code 16 = .ok (.iconst 0, 1) := by decide +kernel
theorem d_T_hasRoom_17 : decode prog_7_method_3_code 17 = .ok (.ireturn, 1) := by decide +kernel
theorem d_T_byteAt_0 : decode prog_7_method_2_code 0 = .ok (.iload_n 1, 1) := by decide +kernel
theorem d_T_byteAt_1 : decode prog_7_method_2_code 1 = .ok (.ifCond .lt 24, 3) := by decide +kernel
theorem d_T_byteAt_4 : decode prog_7_method_2_code 4 = .ok (.iload_n 1, 1) := by decide +kernel
theorem d_T_byteAt_5 : decode prog_7_method_2_code 5 = .ok (.aload_n 0, 1) := by decide +kernel
theorem d_T_byteAt_6 : decode prog_7_method_2_code 6 = .ok (.getfield 15, 3) := by decide +kernel
theorem d_T_byteAt_9 : decode prog_7_method_2_code 9 = .ok (.if_icmp .ge 16, 3) := by decide +kernel
theorem d_T_byteAt_12 : decode prog_7_method_2_code 12 = .ok (.aload_n 0, 1) := by decide +kernel
theorem d_T_byteAt_13 : decode prog_7_method_2_code 13 = .ok (.getfield 9, 3) := by decide +kernel
theorem d_T_byteAt_16 : decode prog_7_method_2_code 16 = .ok (.iload_n 1, 1) := by decide +kernel
theorem d_T_byteAt_17 : decode prog_7_method_2_code 17 = .ok (.baload, 1) := by decide +kernel
theorem d_T_byteAt_18 : decode prog_7_method_2_code 18 = .ok (.sipush 255, 3) := by decide +kernel
theorem d_T_byteAt_21 : decode prog_7_method_2_code 21 = .ok (.iand, 1) := by decide +kernel
theorem d_T_byteAt_22 : decode prog_7_method_2_code 22 = .ok (.goto 4, 3) := by decide +kernel
theorem d_T_byteAt_25 : decode prog_7_method_2_code 25 = .ok (.iconst (-1), 1) := by decide +kernel
theorem d_T_byteAt_26 : decode prog_7_method_2_code 26 = .ok (.ireturn, 1) := by decide +kernel
theorem d_T_addByte_0 : decode prog_7_method_4_code 0 = .ok (.aload_n 0, 1) := by decide +kernel
theorem d_T_addByte_1 : decode prog_7_method_4_code 1 = .ok (.getfield 15, 3) := by decide +kernel
theorem d_T_addByte_4 : decode prog_7_method_4_code 4 = .ok (.sipush 256, 3) := by decide +kernel
theorem d_T_addByte_7 : decode prog_7_method_4_code 7 = .ok (.if_icmp .ge 24, 3) := by decide +kernel
theorem d_T_addByte_10 : decode prog_7_method_4_code 10 = .ok (.aload_n 0, 1) := by decide +kernel
theorem d_T_addByte_11 : decode prog_7_method_4_code 11 = .ok (.getfield 9, 3) := by decide +kernel
theorem d_T_addByte_14 : decode prog_7_method_4_code 14 = .ok (.aload_n 0, 1) := by decide +kernel
theorem d_T_addByte_15 : decode prog_7_method_4_code 15 = .ok (.getfield 15, 3) := by decide +kernel
theorem d_T_addByte_18 : decode prog_7_method_4_code 18 = .ok (.iload_n 1, 1) := by decide +kernel
theorem d_T_addByte_19 : decode prog_7_method_4_code 19 = .ok (.i2b, 1) := by decide +kernel
theorem d_T_addByte_20 : decode prog_7_method_4_code 20 = .ok (.bastore, 1) := by decide +kernel
theorem d_T_addByte_21 : decode prog_7_method_4_code 21 = .ok (.aload_n 0, 1) := by decide +kernel
theorem d_T_addByte_22 : decode prog_7_method_4_code 22 = .ok (.dup, 1) := by decide +kernel
theorem d_T_addByte_23 : decode prog_7_method_4_code 23 = .ok (.getfield 15, 3) := by decide +kernel
theorem d_T_addByte_26 : decode prog_7_method_4_code 26 = .ok (.iconst 1, 1) := by decide +kernel
theorem d_T_addByte_27 : decode prog_7_method_4_code 27 = .ok (.iadd, 1) := by decide +kernel
theorem d_T_addByte_28 : decode prog_7_method_4_code 28 = .ok (.putfield 15, 3) := by decide +kernel
theorem d_T_addByte_31 : decode prog_7_method_4_code 31 = .ok (.return_, 1) := by decide +kernel
theorem d_T_addInt_0 : decode prog_7_method_5_code 0 = .ok (.bipush 24, 2) := by decide +kernel
theorem d_T_addInt_2 : decode prog_7_method_5_code 2 = .ok (.istore_n 2, 1) := by decide +kernel
theorem d_T_addInt_3 : decode prog_7_method_5_code 3 = .ok (.iload_n 2, 1) := by decide +kernel
theorem d_T_addInt_4 : decode prog_7_method_5_code 4 = .ok (.ifCond .lt 16, 3) := by decide +kernel
theorem d_T_addInt_7 : decode prog_7_method_5_code 7 = .ok (.aload_n 0, 1) := by decide +kernel
theorem d_T_addInt_8 : decode prog_7_method_5_code 8 = .ok (.iload_n 1, 1) := by decide +kernel
theorem d_T_addInt_9 : decode prog_7_method_5_code 9 = .ok (.iload_n 2, 1) := by decide +kernel
theorem d_T_addInt_10 : decode prog_7_method_5_code 10 = .ok (.ishr, 1) := by decide +kernel
theorem d_T_addInt_11 : decode prog_7_method_5_code 11 = .ok (.invokevirtual 19, 3) := by decide +kernel
theorem d_T_addInt_14 : decode prog_7_method_5_code 14 = .ok (.iinc 2 (-8), 3) := by decide +kernel
theorem d_T_addInt_17 : decode prog_7_method_5_code 17 = .ok (.goto (-14), 3) := by decide +kernel
theorem d_T_addInt_20 : decode prog_7_method_5_code 20 = .ok (.return_, 1) := by decide +kernel
theorem d_T_shorten_0 : decode prog_7_method_6_code 0 = .ok (.iload_n 1, 1) := by decide +kernel
theorem d_T_shorten_1 : decode prog_7_method_6_code 1 = .ok (.ifCond .lt 11, 3) := by decide +kernel
theorem d_T_shorten_4 : decode prog_7_method_6_code 4 = .ok (.iload_n 1, 1) := by decide +kernel
theorem d_T_shorten_5 : decode prog_7_method_6_code 5 = .ok (.aload_n 0, 1) := by decide +kernel
theorem d_T_shorten_6 : decode prog_7_method_6_code 6 = .ok (.getfield 15, 3) := by decide +kernel
theorem d_T_shorten_9 : decode prog_7_method_6_code 9 = .ok (.if_icmp .le 5, 3) := by decide +kernel
theorem d_T_shorten_12 : decode prog_7_method_6_code 12 = .ok (.iconst 0, 1) := by decide +kernel
theorem d_T_shorten_13 : decode prog_7_method_6_code 13 = .ok (.ireturn, 1) := by decide +kernel
theorem d_T_shorten_14 : decode prog_7_method_6_code 14 = .ok (.aload_n 0, 1) := by decide +kernel
theorem d_T_shorten_15 : decode prog_7_method_6_code 15 = .ok (.iload_n 1, 1) := by decide +kernel
theorem d_T_shorten_16 : decode prog_7_method_6_code 16 = .ok (.putfield 15, 3) := by decide +kernel
theorem d_T_shorten_19 : decode prog_7_method_6_code 19 = .ok (.iconst 1, 1) := by decide +kernel
theorem d_T_shorten_20 : decode prog_7_method_6_code 20 = .ok (.ireturn, 1) := by decide +kernel
theorem d_T_sum_0 : decode prog_7_method_8_code 0 = .ok (.iconst 0, 1) := by decide +kernel
theorem d_T_sum_1 : decode prog_7_method_8_code 1 = .ok (.istore_n 1, 1) := by decide +kernel
theorem d_T_sum_2 : decode prog_7_method_8_code 2 = .ok (.iconst 0, 1) := by decide +kernel
theorem d_T_sum_3 : decode prog_7_method_8_code 3 = .ok (.istore_n 2, 1) := by decide +kernel
theorem d_T_sum_4 : decode prog_7_method_8_code 4 = .ok (.iload_n 2, 1) := by decide +kernel
theorem d_T_sum_5 : decode prog_7_method_8_code 5 = .ok (.aload_n 0, 1) := by decide +kernel
theorem d_T_sum_6 : decode prog_7_method_8_code 6 = .ok (.getfield 15, 3) := by decide +kernel
theorem d_T_sum_9 : decode prog_7_method_8_code 9 = .ok (.if_icmp .ge 27, 3) := by decide +kernel
theorem d_T_sum_12 : decode prog_7_method_8_code 12 = .ok (.iload_n 1, 1) := by decide +kernel
theorem d_T_sum_13 : decode prog_7_method_8_code 13 = .ok (.bipush 31, 2) := by decide +kernel
theorem d_T_sum_15 : decode prog_7_method_8_code 15 = .ok (.imul, 1) := by decide +kernel
theorem d_T_sum_16 : decode prog_7_method_8_code 16 = .ok (.aload_n 0, 1) := by decide +kernel
theorem d_T_sum_17 : decode prog_7_method_8_code 17 = .ok (.getfield 9, 3) := by decide +kernel
theorem d_T_sum_20 : decode prog_7_method_8_code 20 = .ok (.iload_n 2, 1) := by decide +kernel
theorem d_T_sum_21 : decode prog_7_method_8_code 21 = .ok (.baload, 1) := by decide +kernel
theorem d_T_sum_22 : decode prog_7_method_8_code 22 = .ok (.sipush 255, 3) := by decide +kernel
theorem d_T_sum_25 : decode prog_7_method_8_code 25 = .ok (.iand, 1) := by decide +kernel
theorem d_T_sum_26 : decode prog_7_method_8_code 26 = .ok (.iadd, 1) := by decide +kernel
theorem d_T_sum_27 : decode prog_7_method_8_code 27 = .ok (.iconst 1, 1) := by decide +kernel
theorem d_T_sum_28 : decode prog_7_method_8_code 28 = .ok (.iadd, 1) := by decide +kernel
theorem d_T_sum_29 : decode prog_7_method_8_code 29 = .ok (.istore_n 1, 1) := by decide +kernel
theorem d_T_sum_30 : decode prog_7_method_8_code 30 = .ok (.iinc 2 1, 3) := by decide +kernel
theorem d_T_sum_33 : decode prog_7_method_8_code 33 = .ok (.goto (-29), 3) := by decide +kernel
theorem d_T_sum_36 : decode prog_7_method_8_code 36 = .ok (.iload_n 1, 1) := by decide +kernel
theorem d_T_sum_37 : decode prog_7_method_8_code 37 = .ok (.ireturn, 1) := by decide +kernel
theorem d_T_become_0 : decode prog_7_method_7_code 0 = .ok (.aload_n 1, 1) := by decide +kernel
theorem d_T_become_1 : decode prog_7_method_7_code 1 = .ok (.getfield 9, 3) := by decide +kernel
theorem d_T_become_4 : decode prog_7_method_7_code 4 = .ok (.iconst 0, 1) := by decide +kernel
theorem d_T_become_5 : decode prog_7_method_7_code 5 = .ok (.aload_n 0, 1) := by decide +kernel
theorem d_T_become_6 : decode prog_7_method_7_code 6 = .ok (.getfield 9, 3) := by decide +kernel
theorem d_T_become_9 : decode prog_7_method_7_code 9 = .ok (.iconst 0, 1) := by decide +kernel
theorem d_T_become_10 : decode prog_7_method_7_code 10 = .ok (.aload_n 1, 1) := by decide +kernel
theorem d_T_become_11 : decode prog_7_method_7_code 11 = .ok (.getfield 15, 3) := by decide +kernel
theorem d_T_become_14 : decode prog_7_method_7_code 14 = .ok (.invokestatic 23, 3) := by decide +kernel
theorem d_T_become_17 : decode prog_7_method_7_code 17 = .ok (.aload_n 0, 1) := by decide +kernel
theorem d_T_become_18 : decode prog_7_method_7_code 18 = .ok (.aload_n 1, 1) := by decide +kernel
theorem d_T_become_19 : decode prog_7_method_7_code 19 = .ok (.getfield 15, 3) := by decide +kernel
theorem d_T_become_22 : decode prog_7_method_7_code 22 = .ok (.putfield 15, 3) := by decide +kernel
theorem d_T_become_25 : decode prog_7_method_7_code 25 = .ok (.return_, 1) := by decide +kernel
theorem d_T_runWith_0 : decode prog_7_method_9_code 0 = .ok (.aload_n 0, 1) := by decide +kernel
theorem d_T_runWith_1 : decode prog_7_method_9_code 1 = .ok (.getfield 15, 3) := by decide +kernel
theorem d_T_runWith_4 : decode prog_7_method_9_code 4 = .ok (.iload_n 1, 1) := by decide +kernel
theorem d_T_runWith_5 : decode prog_7_method_9_code 5 = .ok (.isub, 1) := by decide +kernel
theorem d_T_runWith_6 : decode prog_7_method_9_code 6 = .ok (.aload_n 2, 1) := by decide +kernel
theorem d_T_runWith_7 : decode prog_7_method_9_code 7 = .ok (.getfield 15, 3) := by decide +kernel
theorem d_T_runWith_10 : decode prog_7_method_9_code 10 = .ok (.iload_n 3, 1) := by decide +kernel
theorem d_T_runWith_11 : decode prog_7_method_9_code 11 = .ok (.isub, 1) := by decide +kernel
theorem d_T_runWith_12 : decode prog_7_method_9_code 12 = .ok (.invokestatic 29, 3) := by decide +kernel
theorem d_T_runWith_15 : decode prog_7_method_9_code 15 = .ok (.istore 4, 2) := by decide +kernel
theorem d_T_runWith_17 : decode prog_7_method_9_code 17 = .ok (.iconst 0, 1) := by decide +kernel
theorem d_T_runWith_18 : decode prog_7_method_9_code 18 = .ok (.istore 5, 2) := by decide +kernel
theorem d_T_runWith_20 : decode prog_7_method_9_code 20 = .ok (.iload 5, 2) := by decide +kernel
theorem d_T_runWith_22 : decode prog_7_method_9_code 22 = .ok (.iload 4, 2) := by decide +kernel
theorem d_T_runWith_24 : decode prog_7_method_9_code 24 = .ok (.if_icmp .ge 30, 3) := by decide +kernel
theorem d_T_runWith_27 : decode prog_7_method_9_code 27 = .ok (.aload_n 0, 1) := by decide +kernel
theorem d_T_runWith_28 : decode prog_7_method_9_code 28 = .ok (.getfield 9, 3) := by decide +kernel
theorem d_T_runWith_31 : decode prog_7_method_9_code 31 = .ok (.iload_n 1, 1) := by decide +kernel
theorem d_T_runWith_32 : decode prog_7_method_9_code 32 = .ok (.iload 5, 2) := by decide +kernel
theorem d_T_runWith_34 : decode prog_7_method_9_code 34 = .ok (.iadd, 1) := by decide +kernel
theorem d_T_runWith_35 : decode prog_7_method_9_code 35 = .ok (.baload, 1) := by decide +kernel
theorem d_T_runWith_36 : decode prog_7_method_9_code 36 = .ok (.aload_n 2, 1) := by decide +kernel
theorem d_T_runWith_37 : decode prog_7_method_9_code 37 = .ok (.getfield 9, 3) := by decide +kernel
theorem d_T_runWith_40 : decode prog_7_method_9_code 40 = .ok (.iload_n 3, 1) := by decide +kernel
theorem d_T_runWith_41 : decode prog_7_method_9_code 41 = .ok (.iload 5, 2) := by decide +kernel
theorem d_T_runWith_43 : decode prog_7_method_9_code 43 = .ok (.iadd, 1) := by decide +kernel
theorem d_T_runWith_44 : decode prog_7_method_9_code 44 = .ok (.baload, 1) := by decide +kernel
theorem d_T_runWith_45 : decode prog_7_method_9_code 45 = .ok (.if_icmp .ne 9, 3) := by decide +kernel
theorem d_T_runWith_48 : decode prog_7_method_9_code 48 = .ok (.iinc 5 1, 3) := by decide +kernel
theorem d_T_runWith_51 : decode prog_7_method_9_code 51 = .ok (.goto (-31), 3) := by decide +kernel
theorem d_T_runWith_54 : decode prog_7_method_9_code 54 = .ok (.iload 5, 2) := by decide +kernel
theorem d_T_runWith_56 : decode prog_7_method_9_code 56 = .ok (.ireturn, 1) := by decide +kernel
theorem d_W_writeByte_0 : decode prog_4_method_8_code 0 = .ok (.aload_n 0, 1) := by decide +kernel
theorem d_W_writeByte_1 : decode prog_4_method_8_code 1 = .ok (.getfield 15, 3) := by decide +kernel
theorem d_W_writeByte_4 : decode prog_4_method_8_code 4 = .ok (.aload_n 0, 1) := by decide +kernel
theorem d_W_writeByte_5 : decode prog_4_method_8_code 5 = .ok (.getfield 9, 3) := by decide +kernel
theorem d_W_writeByte_8 : decode prog_4_method_8_code 8 = .ok (.arraylength, 1) := by decide +kernel
theorem d_W_writeByte_9 : decode prog_4_method_8_code 9 = .ok (.if_icmp .ge 24, 3) := by decide +kernel
theorem d_W_writeByte_12 : decode prog_4_method_8_code 12 = .ok (.aload_n 0, 1) := by decide +kernel
theorem d_W_writeByte_13 : decode prog_4_method_8_code 13 = .ok (.getfield 9, 3) := by decide +kernel
theorem d_W_writeByte_16 : decode prog_4_method_8_code 16 = .ok (.aload_n 0, 1) := by decide +kernel
theorem d_W_writeByte_17 : decode prog_4_method_8_code 17 = .ok (.getfield 15, 3) := by decide +kernel
theorem d_W_writeByte_20 : decode prog_4_method_8_code 20 = .ok (.iload_n 1, 1) := by decide +kernel
theorem d_W_writeByte_21 : decode prog_4_method_8_code 21 = .ok (.i2b, 1) := by decide +kernel
theorem d_W_writeByte_22 : decode prog_4_method_8_code 22 = .ok (.bastore, 1) := by decide +kernel
theorem d_W_writeByte_23 : decode prog_4_method_8_code 23 = .ok (.aload_n 0, 1) := by decide +kernel
theorem d_W_writeByte_24 : decode prog_4_method_8_code 24 = .ok (.dup, 1) := by decide +kernel
theorem d_W_writeByte_25 : decode prog_4_method_8_code 25 = .ok (.getfield 15, 3) := by decide +kernel
theorem d_W_writeByte_28 : decode prog_4_method_8_code 28 = .ok (.iconst 1, 1) := by decide +kernel
theorem d_W_writeByte_29 : decode prog_4_method_8_code 29 = .ok (.iadd, 1) := by decide +kernel
theorem d_W_writeByte_30 : decode prog_4_method_8_code 30 = .ok (.putfield 15, 3) := by decide +kernel
theorem d_W_writeByte_33 : decode prog_4_method_8_code 33 = .ok (.return_, 1) := by decide +kernel
theorem d_W_digitsOf_0 : decode prog_4_method_7_code 0 = .ok (.iconst 1, 1) := by decide +kernel
theorem d_W_digitsOf_1 : decode prog_4_method_7_code 1 = .ok (.istore_n 1, 1) := by decide +kernel
theorem d_W_digitsOf_2 : decode prog_4_method_7_code 2 = .ok (.iload_n 0, 1) := by decide +kernel
theorem d_W_digitsOf_3 : decode prog_4_method_7_code 3 = .ok (.sipush 128, 3) := by decide +kernel
theorem d_W_digitsOf_6 : decode prog_4_method_7_code 6 = .ok (.idiv, 1) := by decide +kernel
theorem d_W_digitsOf_7 : decode prog_4_method_7_code 7 = .ok (.istore_n 2, 1) := by decide +kernel
theorem d_W_digitsOf_8 : decode prog_4_method_7_code 8 = .ok (.iload_n 2, 1) := by decide +kernel
theorem d_W_digitsOf_9 : decode prog_4_method_7_code 9 = .ok (.ifCond .le 15, 3) := by decide +kernel
theorem d_W_digitsOf_12 : decode prog_4_method_7_code 12 = .ok (.iinc 1 1, 3) := by decide +kernel
theorem d_W_digitsOf_15 : decode prog_4_method_7_code 15 = .ok (.iload_n 2, 1) := by decide +kernel
theorem d_W_digitsOf_16 : decode prog_4_method_7_code 16 = .ok (.sipush 128, 3) := by decide +kernel
theorem d_W_digitsOf_19 : decode prog_4_method_7_code 19 = .ok (.idiv, 1) := by decide +kernel
theorem d_W_digitsOf_20 : decode prog_4_method_7_code 20 = .ok (.istore_n 2, 1) := by decide +kernel
theorem d_W_digitsOf_21 : decode prog_4_method_7_code 21 = .ok (.goto (-13), 3) := by decide +kernel
theorem d_W_digitsOf_24 : decode prog_4_method_7_code 24 = .ok (.iload_n 1, 1) := by decide +kernel
theorem d_W_digitsOf_25 : decode prog_4_method_7_code 25 = .ok (.ireturn, 1) := by decide +kernel
theorem d_W_writeNumber_0 : decode prog_4_method_6_code 0 = .ok (.iload_n 1, 1) := by decide +kernel
theorem d_W_writeNumber_1 : decode prog_4_method_6_code 1 = .ok (.istore_n 2, 1) := by decide +kernel
theorem d_W_writeNumber_2 : decode prog_4_method_6_code 2 = .ok (.iload_n 1, 1) := by decide +kernel
theorem d_W_writeNumber_3 : decode prog_4_method_6_code 3 = .ok (.invokestatic 26, 3) := by decide +kernel
theorem d_W_writeNumber_6 : decode prog_4_method_6_code 6 = .ok (.istore_n 3, 1) := by decide +kernel
theorem d_W_writeNumber_7 : decode prog_4_method_6_code 7 = .ok (.iload_n 3, 1) := by decide +kernel
theorem d_W_writeNumber_8 : decode prog_4_method_6_code 8 = .ok (.iconst 1, 1) := by decide +kernel
theorem d_W_writeNumber_9 : decode prog_4_method_6_code 9 = .ok (.if_icmp .le 28, 3) := by decide +kernel
theorem d_W_writeNumber_12 : decode prog_4_method_6_code 12 = .ok (.aload_n 0, 1) := by decide +kernel
theorem d_W_writeNumber_13 : decode prog_4_method_6_code 13 = .ok (.iload_n 2, 1) := by decide +kernel
theorem d_W_writeNumber_14 : decode prog_4_method_6_code 14 = .ok (.sipush 128, 3) := by decide +kernel
theorem d_W_writeNumber_17 : decode prog_4_method_6_code 17 = .ok (.irem, 1) := by decide +kernel
theorem d_W_writeNumber_18 : decode prog_4_method_6_code 18 = .ok (.sipush 128, 3) := by decide +kernel
theorem d_W_writeNumber_21 : decode prog_4_method_6_code 21 = .ok (.iadd, 1) := by decide +kernel
theorem d_W_writeNumber_22 : decode prog_4_method_6_code 22 = .ok (.invokevirtual 55, 3) := by decide +kernel
theorem d_W_writeNumber_25 : decode prog_4_method_6_code 25 = .ok (.iload_n 2, 1) := by decide +kernel
theorem d_W_writeNumber_26 : decode prog_4_method_6_code 26 = .ok (.sipush 128, 3) := by decide +kernel
theorem d_W_writeNumber_29 : decode prog_4_method_6_code 29 = .ok (.idiv, 1) := by decide +kernel
theorem d_W_writeNumber_30 : decode prog_4_method_6_code 30 = .ok (.istore_n 2, 1) := by decide +kernel
theorem d_W_writeNumber_31 : decode prog_4_method_6_code 31 = .ok (.iinc 3 (-1), 3) := by decide +kernel
theorem d_W_writeNumber_34 : decode prog_4_method_6_code 34 = .ok (.goto (-27), 3) := by decide +kernel
theorem d_W_writeNumber_37 : decode prog_4_method_6_code 37 = .ok (.aload_n 0, 1) := by decide +kernel
theorem d_W_writeNumber_38 : decode prog_4_method_6_code 38 = .ok (.iload_n 2, 1) := by decide +kernel
theorem d_W_writeNumber_39 : decode prog_4_method_6_code 39 = .ok (.invokevirtual 55, 3) := by decide +kernel
theorem d_W_writeNumber_42 : decode prog_4_method_6_code 42 = .ok (.return_, 1) := by decide +kernel
theorem d_W_writeInsert_0 : decode prog_4_method_5_code 0 = .ok (.iload_n 2, 1) := by decide +kernel
theorem d_W_writeInsert_1 : decode prog_4_method_5_code 1 = .ok (.iload_n 3, 1) := by decide +kernel
theorem d_W_writeInsert_2 : decode prog_4_method_5_code 2 = .ok (.if_icmp .lt 4, 3) := by decide +kernel
theorem d_W_writeInsert_5 : decode prog_4_method_5_code 5 = .ok (.return_, 1) := by decide +kernel
theorem d_W_writeInsert_6 : decode prog_4_method_5_code 6 = .ok (.aload_n 0, 1) := by decide +kernel
theorem d_W_writeInsert_7 : decode prog_4_method_5_code 7 = .ok (.iconst 2, 1) := by decide +kernel
theorem d_W_writeInsert_8 : decode prog_4_method_5_code 8 = .ok (.iload_n 3, 1) := by decide +kernel
theorem d_W_writeInsert_9 : decode prog_4_method_5_code 9 = .ok (.iload_n 2, 1) := by decide +kernel
theorem d_W_writeInsert_10 : decode prog_4_method_5_code 10 = .ok (.isub, 1) := by decide +kernel
theorem d_W_writeInsert_11 : decode prog_4_method_5_code 11 = .ok (.imul, 1) := by decide +kernel
theorem d_W_writeInsert_12 : decode prog_4_method_5_code 12 = .ok (.invokevirtual 48, 3) := by decide +kernel
theorem d_W_writeInsert_15 : decode prog_4_method_5_code 15 = .ok (.iload_n 2, 1) := by decide +kernel
theorem d_W_writeInsert_16 : decode prog_4_method_5_code 16 = .ok (.istore 4, 2) := by decide +kernel
theorem d_W_writeInsert_18 : decode prog_4_method_5_code 18 = .ok (.iload 4, 2) := by decide +kernel
theorem d_W_writeInsert_20 : decode prog_4_method_5_code 20 = .ok (.iload_n 3, 1) := by decide +kernel
theorem d_W_writeInsert_21 : decode prog_4_method_5_code 21 = .ok (.if_icmp .ge 19, 3) := by decide +kernel
theorem d_W_writeInsert_24 : decode prog_4_method_5_code 24 = .ok (.aload_n 0, 1) := by decide +kernel
theorem d_W_writeInsert_25 : decode prog_4_method_5_code 25 = .ok (.aload_n 1, 1) := by decide +kernel
theorem d_W_writeInsert_26 : decode prog_4_method_5_code 26 = .ok (.iload 4, 2) := by decide +kernel
theorem d_W_writeInsert_28 : decode prog_4_method_5_code 28 = .ok (.invokevirtual 52, 3) := by decide +kernel
theorem d_W_writeInsert_31 : decode prog_4_method_5_code 31 = .ok (.invokevirtual 55, 3) := by decide +kernel
theorem d_W_writeInsert_34 : decode prog_4_method_5_code 34 = .ok (.iinc 4 1, 3) := by decide +kernel
theorem d_W_writeInsert_37 : decode prog_4_method_5_code 37 = .ok (.goto (-19), 3) := by decide +kernel
theorem d_W_writeInsert_40 : decode prog_4_method_5_code 40 = .ok (.return_, 1) := by decide +kernel
theorem d_W_placeOfLongest_0 : decode prog_4_method_4_code 0 = .ok (.iconst 0, 1) := by decide +kernel
theorem d_W_placeOfLongest_1 : decode prog_4_method_4_code 1 = .ok (.istore_n 3, 1) := by decide +kernel
theorem d_W_placeOfLongest_2 : decode prog_4_method_4_code 2 = .ok (.iconst 0, 1) := by decide +kernel
theorem d_W_placeOfLongest_3 : decode prog_4_method_4_code 3 = .ok (.istore 4, 2) := by decide +kernel
theorem d_W_placeOfLongest_5 : decode prog_4_method_4_code 5 = .ok (.iconst 0, 1) := by decide +kernel
theorem d_W_placeOfLongest_6 : decode prog_4_method_4_code 6 = .ok (.istore 5, 2) := by decide +kernel
theorem d_W_placeOfLongest_8 : decode prog_4_method_4_code 8 = .ok (.iload 5, 2) := by decide +kernel
theorem d_W_placeOfLongest_10 : decode prog_4_method_4_code 10 = .ok (.aload_n 2, 1) := by decide +kernel
theorem d_W_placeOfLongest_11 : decode prog_4_method_4_code 11 = .ok (.getfield 23, 3) := by decide +kernel
theorem d_W_placeOfLongest_14 : decode prog_4_method_4_code 14 = .ok (.if_icmp .ge 32, 3) := by decide +kernel
theorem d_W_placeOfLongest_17 : decode prog_4_method_4_code 17 = .ok (.aload_n 0, 1) := by decide +kernel
theorem d_W_placeOfLongest_18 : decode prog_4_method_4_code 18 = .ok (.iload_n 1, 1) := by decide +kernel
theorem d_W_placeOfLongest_19 : decode prog_4_method_4_code 19 = .ok (.aload_n 2, 1) := by decide +kernel
theorem d_W_placeOfLongest_20 : decode prog_4_method_4_code 20 = .ok (.iload 5, 2) := by decide +kernel
theorem d_W_placeOfLongest_22 : decode prog_4_method_4_code 22 = .ok (.invokevirtual 44, 3) := by decide +kernel
theorem d_W_placeOfLongest_25 : decode prog_4_method_4_code 25 = .ok (.istore 6, 2) := by decide +kernel
theorem d_W_placeOfLongest_27 : decode prog_4_method_4_code 27 = .ok (.iload 6, 2) := by decide +kernel
theorem d_W_placeOfLongest_29 : decode prog_4_method_4_code 29 = .ok (.iload_n 3, 1) := by decide +kernel
theorem d_W_placeOfLongest_30 : decode prog_4_method_4_code 30 = .ok (.if_icmp .le 10, 3) := by decide +kernel
theorem d_W_placeOfLongest_33 : decode prog_4_method_4_code 33 = .ok (.iload 6, 2) := by decide +kernel
theorem d_W_placeOfLongest_35 : decode prog_4_method_4_code 35 = .ok (.istore_n 3, 1) := by decide +kernel
theorem d_W_placeOfLongest_36 : decode prog_4_method_4_code 36 = .ok (.iload 5, 2) := by decide +kernel
theorem d_W_placeOfLongest_38 : decode prog_4_method_4_code 38 = .ok (.istore 4, 2) := by decide +kernel
theorem d_W_placeOfLongest_40 : decode prog_4_method_4_code 40 = .ok (.iinc 5 1, 3) := by decide +kernel
theorem d_W_placeOfLongest_43 : decode prog_4_method_4_code 43 = .ok (.goto (-35), 3) := by decide +kernel
theorem d_W_placeOfLongest_46 : decode prog_4_method_4_code 46 = .ok (.iload 4, 2) := by decide +kernel
theorem d_W_placeOfLongest_48 : decode prog_4_method_4_code 48 = .ok (.ireturn, 1) := by decide +kernel
theorem d_W_writeDifferences_0 : decode prog_4_method_3_code 0 = .ok (.aload_n 0, 1) := by decide +kernel
theorem d_W_writeDifferences_1 : decode prog_4_method_3_code 1 = .ok (.iconst 0, 1) := by decide +kernel
theorem d_W_writeDifferences_2 : decode prog_4_method_3_code 2 = .ok (.putfield 15, 3) := by decide +kernel
theorem d_W_writeDifferences_5 : decode prog_4_method_3_code 5 = .ok (.iconst 0, 1) := by decide +kernel
theorem d_W_writeDifferences_6 : decode prog_4_method_3_code 6 = .ok (.istore_n 3, 1) := by decide +kernel
theorem d_W_writeDifferences_7 : decode prog_4_method_3_code 7 = .ok (.iconst 0, 1) := by decide +kernel
theorem d_W_writeDifferences_8 : decode prog_4_method_3_code 8 = .ok (.istore 4, 2) := by decide +kernel
theorem d_W_writeDifferences_10 : decode prog_4_method_3_code 10 = .ok (.iload 4, 2) := by decide +kernel
theorem d_W_writeDifferences_12 : decode prog_4_method_3_code 12 = .ok (.aload_n 1, 1) := by decide +kernel
theorem d_W_writeDifferences_13 : decode prog_4_method_3_code 13 = .ok (.getfield 23, 3) := by decide +kernel
theorem d_W_writeDifferences_16 : decode prog_4_method_3_code 16 = .ok (.if_icmp .ge 72, 3) := by decide +kernel
theorem d_W_writeDifferences_19 : decode prog_4_method_3_code 19 = .ok (.aload_n 1, 1) := by decide +kernel
theorem d_W_writeDifferences_20 : decode prog_4_method_3_code 20 = .ok (.iload 4, 2) := by decide +kernel
theorem d_W_writeDifferences_22 : decode prog_4_method_3_code 22 = .ok (.aload_n 2, 1) := by decide +kernel
theorem d_W_writeDifferences_23 : decode prog_4_method_3_code 23 = .ok (.invokestatic 40, 3) := by decide +kernel
theorem d_W_writeDifferences_26 : decode prog_4_method_3_code 26 = .ok (.istore 5, 2) := by decide +kernel
theorem d_W_writeDifferences_28 : decode prog_4_method_3_code 28 = .ok (.aload_n 1, 1) := by decide +kernel
theorem d_W_writeDifferences_29 : decode prog_4_method_3_code 29 = .ok (.iload 4, 2) := by decide +kernel
theorem d_W_writeDifferences_31 : decode prog_4_method_3_code 31 = .ok (.aload_n 2, 1) := by decide +kernel
theorem d_W_writeDifferences_32 : decode prog_4_method_3_code 32 = .ok (.iload 5, 2) := by decide +kernel
theorem d_W_writeDifferences_34 : decode prog_4_method_3_code 34 = .ok (.invokevirtual 44, 3) := by decide +kernel
theorem d_W_writeDifferences_37 : decode prog_4_method_3_code 37 = .ok (.istore 6, 2) := by decide +kernel
theorem d_W_writeDifferences_39 : decode prog_4_method_3_code 39 = .ok (.iload 6, 2) := by decide +kernel
theorem d_W_writeDifferences_41 : decode prog_4_method_3_code 41 = .ok (.iconst 4, 1) := by decide +kernel
theorem d_W_writeDifferences_42 : decode prog_4_method_3_code 42 = .ok (.if_icmp .lt 40, 3) := by decide +kernel
theorem d_W_writeDifferences_45 : decode prog_4_method_3_code 45 = .ok (.aload_n 0, 1) := by decide +kernel
theorem d_W_writeDifferences_46 : decode prog_4_method_3_code 46 = .ok (.aload_n 1, 1) := by decide +kernel
theorem d_W_writeDifferences_47 : decode prog_4_method_3_code 47 = .ok (.iload_n 3, 1) := by decide +kernel
theorem d_W_writeDifferences_48 : decode prog_4_method_3_code 48 = .ok (.iload 4, 2) := by decide +kernel
theorem d_W_writeDifferences_50 : decode prog_4_method_3_code 50 = .ok (.invokevirtual 30, 3) := by decide +kernel
theorem d_W_writeDifferences_53 : decode prog_4_method_3_code 53 = .ok (.aload_n 0, 1) := by decide +kernel
theorem d_W_writeDifferences_54 : decode prog_4_method_3_code 54 = .ok (.iconst 2, 1) := by decide +kernel
theorem d_W_writeDifferences_55 : decode prog_4_method_3_code 55 = .ok (.iload 6, 2) := by decide +kernel
theorem d_W_writeDifferences_57 : decode prog_4_method_3_code 57 = .ok (.imul, 1) := by decide +kernel
theorem d_W_writeDifferences_58 : decode prog_4_method_3_code 58 = .ok (.iconst 1, 1) := by decide +kernel
theorem d_W_writeDifferences_59 : decode prog_4_method_3_code 59 = .ok (.iadd, 1) := by decide +kernel
theorem d_W_writeDifferences_60 : decode prog_4_method_3_code 60 = .ok (.invokevirtual 48, 3) := by decide +kernel
theorem d_W_writeDifferences_63 : decode prog_4_method_3_code 63 = .ok (.aload_n 0, 1) := by decide +kernel
theorem d_W_writeDifferences_64 : decode prog_4_method_3_code 64 = .ok (.iload 5, 2) := by decide +kernel
theorem d_W_writeDifferences_66 : decode prog_4_method_3_code 66 = .ok (.invokevirtual 48, 3) := by decide +kernel
theorem d_W_writeDifferences_69 : decode prog_4_method_3_code 69 = .ok (.iload 4, 2) := by decide +kernel
theorem d_W_writeDifferences_71 : decode prog_4_method_3_code 71 = .ok (.iload 6, 2) := by decide +kernel
theorem d_W_writeDifferences_73 : decode prog_4_method_3_code 73 = .ok (.iadd, 1) := by decide +kernel
theorem d_W_writeDifferences_74 : decode prog_4_method_3_code 74 = .ok (.istore 4, 2) := by decide +kernel
theorem d_W_writeDifferences_76 : decode prog_4_method_3_code 76 = .ok (.iload 4, 2) := by decide +kernel
theorem d_W_writeDifferences_78 : decode prog_4_method_3_code 78 = .ok (.istore_n 3, 1) := by decide +kernel
theorem d_W_writeDifferences_79 : decode prog_4_method_3_code 79 = .ok (.goto 6, 3) := by decide +kernel
theorem d_W_writeDifferences_82 : decode prog_4_method_3_code 82 = .ok (.iinc 4 1, 3) := by decide +kernel
theorem d_W_writeDifferences_85 : decode prog_4_method_3_code 85 = .ok (.goto (-75), 3) := by decide +kernel
theorem d_W_writeDifferences_88 : decode prog_4_method_3_code 88 = .ok (.aload_n 0, 1) := by decide +kernel
theorem d_W_writeDifferences_89 : decode prog_4_method_3_code 89 = .ok (.aload_n 1, 1) := by decide +kernel
theorem d_W_writeDifferences_90 : decode prog_4_method_3_code 90 = .ok (.iload_n 3, 1) := by decide +kernel
theorem d_W_writeDifferences_91 : decode prog_4_method_3_code 91 = .ok (.aload_n 1, 1) := by decide +kernel
theorem d_W_writeDifferences_92 : decode prog_4_method_3_code 92 = .ok (.getfield 23, 3) := by decide +kernel
theorem d_W_writeDifferences_95 : decode prog_4_method_3_code 95 = .ok (.invokevirtual 30, 3) := by decide +kernel
theorem d_W_writeDifferences_98 : decode prog_4_method_3_code 98 = .ok (.return_, 1) := by decide +kernel
theorem d_A_copyOf_0 : decode prog_19_method_121_code 0 = .ok (.iload_n 1, 1) := by decide +kernel
theorem d_A_copyOf_1 : decode prog_19_method_121_code 1 = .ok (.aload_n 0, 1) := by decide +kernel
theorem d_A_copyOf_2 : decode prog_19_method_121_code 2 = .ok (.arraylength, 1) := by decide +kernel
theorem d_A_copyOf_3 : decode prog_19_method_121_code 3 = .ok (.if_icmp .ne 11, 3) := by decide +kernel
theorem d_A_copyOf_14 : decode prog_19_method_121_code 14 = .ok (.iload_n 1, 1) := by decide +kernel
theorem d_A_copyOf_15 : decode prog_19_method_121_code 15 = .ok (.newarray .byte, 2) := by decide +kernel
theorem d_A_copyOf_17 : decode prog_19_method_121_code 17 = .ok (.astore_n 2, 1) := by decide +kernel
theorem d_A_copyOf_18 : decode prog_19_method_121_code 18 = .ok (.aload_n 0, 1) := by decide +kernel
theorem d_A_copyOf_19 : decode prog_19_method_121_code 19 = .ok (.iconst 0, 1) := by decide +kernel
theorem d_A_copyOf_20 : decode prog_19_method_121_code 20 = .ok (.aload_n 2, 1) := by decide +kernel
theorem d_A_copyOf_21 : decode prog_19_method_121_code 21 = .ok (.iconst 0, 1) := by decide +kernel
theorem d_A_copyOf_22 : decode prog_19_method_121_code 22 = .ok (.aload_n 0, 1) := by decide +kernel
theorem d_A_copyOf_23 : decode prog_19_method_121_code 23 = .ok (.arraylength, 1) := by decide +kernel
theorem d_A_copyOf_24 : decode prog_19_method_121_code 24 = .ok (.iload_n 1, 1) := by decide +kernel
theorem d_A_copyOf_25 : decode prog_19_method_121_code 25 = .ok (.invokestatic 304, 3) := by decide +kernel
theorem d_A_copyOf_28 : decode prog_19_method_121_code 28 = .ok (.invokestatic 150, 3) := by decide +kernel
theorem d_A_copyOf_31 : decode prog_19_method_121_code 31 = .ok (.aload_n 2, 1) := by decide +kernel
theorem d_A_copyOf_32 : decode prog_19_method_121_code 32 = .ok (.areturn, 1) := by decide +kernel
theorem d_W_pieceOf_0 : decode prog_4_method_2_code 0 = .ok (.aload_n 0, 1) := by decide +kernel
theorem d_W_pieceOf_1 : decode prog_4_method_2_code 1 = .ok (.aload_n 1, 1) := by decide +kernel
theorem d_W_pieceOf_2 : decode prog_4_method_2_code 2 = .ok (.aload_n 2, 1) := by decide +kernel
theorem d_W_pieceOf_3 : decode prog_4_method_2_code 3 = .ok (.invokevirtual 19, 3) := by decide +kernel
theorem d_W_pieceOf_6 : decode prog_4_method_2_code 6 = .ok (.aload_n 0, 1) := by decide +kernel
theorem d_W_pieceOf_7 : decode prog_4_method_2_code 7 = .ok (.getfield 15, 3) := by decide +kernel
theorem d_W_pieceOf_10 : decode prog_4_method_2_code 10 = .ok (.iconst 2, 1) := by decide +kernel
theorem d_W_pieceOf_11 : decode prog_4_method_2_code 11 = .ok (.aload_n 1, 1) := by decide +kernel
theorem d_W_pieceOf_12 : decode prog_4_method_2_code 12 = .ok (.getfield 23, 3) := by decide +kernel
theorem d_W_pieceOf_15 : decode prog_4_method_2_code 15 = .ok (.imul, 1) := by decide +kernel
theorem d_W_pieceOf_16 : decode prog_4_method_2_code 16 = .ok (.invokestatic 26, 3) := by decide +kernel
theorem d_W_pieceOf_19 : decode prog_4_method_2_code 19 = .ok (.aload_n 1, 1) := by decide +kernel
theorem d_W_pieceOf_20 : decode prog_4_method_2_code 20 = .ok (.getfield 23, 3) := by decide +kernel
theorem d_W_pieceOf_23 : decode prog_4_method_2_code 23 = .ok (.iadd, 1) := by decide +kernel
theorem d_W_pieceOf_24 : decode prog_4_method_2_code 24 = .ok (.if_icmp .le 18, 3) := by decide +kernel
theorem d_W_pieceOf_27 : decode prog_4_method_2_code 27 = .ok (.aload_n 0, 1) := by decide +kernel
theorem d_W_pieceOf_28 : decode prog_4_method_2_code 28 = .ok (.iconst 0, 1) := by decide +kernel
theorem d_W_pieceOf_29 : decode prog_4_method_2_code 29 = .ok (.putfield 15, 3) := by decide +kernel
theorem d_W_pieceOf_32 : decode prog_4_method_2_code 32 = .ok (.aload_n 0, 1) := by decide +kernel
theorem d_W_pieceOf_33 : decode prog_4_method_2_code 33 = .ok (.aload_n 1, 1) := by decide +kernel
theorem d_W_pieceOf_34 : decode prog_4_method_2_code 34 = .ok (.iconst 0, 1) := by decide +kernel
theorem d_W_pieceOf_35 : decode prog_4_method_2_code 35 = .ok (.aload_n 1, 1) := by decide +kernel
theorem d_W_pieceOf_36 : decode prog_4_method_2_code 36 = .ok (.getfield 23, 3) := by decide +kernel
theorem d_W_pieceOf_39 : decode prog_4_method_2_code 39 = .ok (.invokevirtual 30, 3) := by decide +kernel
theorem d_W_pieceOf_42 : decode prog_4_method_2_code 42 = .ok (.aload_n 0, 1) := by decide +kernel
theorem d_W_pieceOf_43 : decode prog_4_method_2_code 43 = .ok (.getfield 9, 3) := by decide +kernel
theorem d_W_pieceOf_46 : decode prog_4_method_2_code 46 = .ok (.aload_n 0, 1) := by decide +kernel
theorem d_W_pieceOf_47 : decode prog_4_method_2_code 47 = .ok (.getfield 15, 3) := by decide +kernel
theorem d_W_pieceOf_50 : decode prog_4_method_2_code 50 = .ok (.invokestatic 34, 3) := by decide +kernel
theorem d_W_pieceOf_53 : decode prog_4_method_2_code 53 = .ok (.areturn, 1) := by decide +kernel
theorem d_O_put_0 : decode prog_9_method_21_code 0 = .ok (.aload_n 0, 1) := by decide +kernel
theorem d_O_put_1 : decode prog_9_method_21_code 1 = .ok (.getfield 59, 3) := by decide +kernel
theorem d_O_put_4 : decode prog_9_method_21_code 4 = .ok (.aload_n 0, 1) := by decide +kernel
theorem d_O_put_5 : decode prog_9_method_21_code 5 = .ok (.getfield 125, 3) := by decide +kernel
theorem d_O_put_8 : decode prog_9_method_21_code 8 = .ok (.iload_n 1, 1) := by decide +kernel
theorem d_O_put_9 : decode prog_9_method_21_code 9 = .ok (.i2b, 1) := by decide +kernel
theorem d_O_put_10 : decode prog_9_method_21_code 10 = .ok (.bastore, 1) := by decide +kernel
theorem d_O_put_11 : decode prog_9_method_21_code 11 = .ok (.aload_n 0, 1) := by decide +kernel
theorem d_O_put_12 : decode prog_9_method_21_code 12 = .ok (.dup, 1) := by decide +kernel
theorem d_O_put_13 : decode prog_9_method_21_code 13 = .ok (.getfield 125, 3) := by decide +kernel
theorem d_O_put_16 : decode prog_9_method_21_code 16 = .ok (.iconst 1, 1) := by decide +kernel
theorem d_O_put_17 : decode prog_9_method_21_code 17 = .ok (.iadd, 1) := by decide +kernel
theorem d_O_put_18 : decode prog_9_method_21_code 18 = .ok (.putfield 125, 3) := by decide +kernel
theorem d_O_put_21 : decode prog_9_method_21_code 21 = .ok (.return_, 1) := by decide +kernel
theorem d_O_putNumber_0 : decode prog_9_method_22_code 0 = .ok (.iload_n 1, 1) := by decide +kernel
theorem d_O_putNumber_1 : decode prog_9_method_22_code 1 = .ok (.istore_n 2, 1) := by decide +kernel
theorem d_O_putNumber_2 : decode prog_9_method_22_code 2 = .ok (.iload_n 2, 1) := by decide +kernel
theorem d_O_putNumber_3 : decode prog_9_method_22_code 3 = .ok (.bipush 127, 2) := by decide +kernel
theorem d_O_putNumber_5 : decode prog_9_method_22_code 5 = .ok (.if_icmp .le 25, 3) := by decide +kernel
theorem d_O_putNumber_8 : decode prog_9_method_22_code 8 = .ok (.aload_n 0, 1) := by decide +kernel
theorem d_O_putNumber_9 : decode prog_9_method_22_code 9 = .ok (.iload_n 2, 1) := by decide +kernel
theorem d_O_putNumber_10 : decode prog_9_method_22_code 10 = .ok (.sipush 128, 3) := by decide +kernel
theorem d_O_putNumber_13 : decode prog_9_method_22_code 13 = .ok (.irem, 1) := by decide +kernel
theorem d_O_putNumber_14 : decode prog_9_method_22_code 14 = .ok (.sipush 128, 3) := by decide +kernel
theorem d_O_putNumber_17 : decode prog_9_method_22_code 17 = .ok (.iadd, 1) := by decide +kernel
theorem d_O_putNumber_18 : decode prog_9_method_22_code 18 = .ok (.invokevirtual 128, 3) := by decide +kernel
theorem d_O_putNumber_21 : decode prog_9_method_22_code 21 = .ok (.iload_n 2, 1) := by decide +kernel
theorem d_O_putNumber_22 : decode prog_9_method_22_code 22 = .ok (.sipush 128, 3) := by decide +kernel
theorem d_O_putNumber_25 : decode prog_9_method_22_code 25 = .ok (.idiv, 1) := by decide +kernel
theorem d_O_putNumber_26 : decode prog_9_method_22_code 26 = .ok (.istore_n 2, 1) := by decide +kernel
theorem d_O_putNumber_27 : decode prog_9_method_22_code 27 = .ok (.goto (-25), 3) := by decide +kernel
theorem d_O_putNumber_30 : decode prog_9_method_22_code 30 = .ok (.aload_n 0, 1) := by decide +kernel
theorem d_O_putNumber_31 : decode prog_9_method_22_code 31 = .ok (.iload_n 2, 1) := by decide +kernel
theorem d_O_putNumber_32 : decode prog_9_method_22_code 32 = .ok (.invokevirtual 128, 3) := by decide +kernel
theorem d_O_putNumber_35 : decode prog_9_method_22_code 35 = .ok (.return_, 1) := by decide +kernel
theorem d_O_run_0 : decode prog_9_method_24_code 0 = .ok (.iconst 0, 1) := by decide +kernel
theorem d_O_run_1 : decode prog_9_method_24_code 1 = .ok (.istore_n 3, 1) := by decide +kernel
theorem d_O_run_2 : decode prog_9_method_24_code 2 = .ok (.iload_n 1, 1) := by decide +kernel
theorem d_O_run_3 : decode prog_9_method_24_code 3 = .ok (.iload_n 3, 1) := by decide +kernel
theorem d_O_run_4 : decode prog_9_method_24_code 4 = .ok (.iadd, 1) := by decide +kernel
theorem d_O_run_5 : decode prog_9_method_24_code 5 = .ok (.aload_n 0, 1) := by decide +kernel
theorem d_O_run_6 : decode prog_9_method_24_code 6 = .ok (.getfield 69, 3) := by decide +kernel
theorem d_O_run_9 : decode prog_9_method_24_code 9 = .ok (.if_icmp .ge 38, 3) := by decide +kernel
theorem d_O_run_12 : decode prog_9_method_24_code 12 = .ok (.iload_n 2, 1) := by decide +kernel
theorem d_O_run_13 : decode prog_9_method_24_code 13 = .ok (.iload_n 3, 1) := by decide +kernel
theorem d_O_run_14 : decode prog_9_method_24_code 14 = .ok (.iadd, 1) := by decide +kernel
theorem d_O_run_15 : decode prog_9_method_24_code 15 = .ok (.aload_n 0, 1) := by decide +kernel
theorem d_O_run_16 : decode prog_9_method_24_code 16 = .ok (.getfield 113, 3) := by decide +kernel
theorem d_O_run_19 : decode prog_9_method_24_code 19 = .ok (.if_icmp .ge 28, 3) := by decide +kernel
theorem d_O_run_22 : decode prog_9_method_24_code 22 = .ok (.aload_n 0, 1) := by decide +kernel
theorem d_O_run_23 : decode prog_9_method_24_code 23 = .ok (.getfield 13, 3) := by decide +kernel
theorem d_O_run_26 : decode prog_9_method_24_code 26 = .ok (.iload_n 1, 1) := by decide +kernel
theorem d_O_run_27 : decode prog_9_method_24_code 27 = .ok (.iload_n 3, 1) := by decide +kernel
theorem d_O_run_28 : decode prog_9_method_24_code 28 = .ok (.iadd, 1) := by decide +kernel
theorem d_O_run_29 : decode prog_9_method_24_code 29 = .ok (.baload, 1) := by decide +kernel
theorem d_O_run_30 : decode prog_9_method_24_code 30 = .ok (.aload_n 0, 1) := by decide +kernel
theorem d_O_run_31 : decode prog_9_method_24_code 31 = .ok (.getfield 41, 3) := by decide +kernel
theorem d_O_run_34 : decode prog_9_method_24_code 34 = .ok (.iload_n 2, 1) := by decide +kernel
theorem d_O_run_35 : decode prog_9_method_24_code 35 = .ok (.iload_n 3, 1) := by decide +kernel
theorem d_O_run_36 : decode prog_9_method_24_code 36 = .ok (.iadd, 1) := by decide +kernel
theorem d_O_run_37 : decode prog_9_method_24_code 37 = .ok (.baload, 1) := by decide +kernel
theorem d_O_run_38 : decode prog_9_method_24_code 38 = .ok (.if_icmp .ne 9, 3) := by decide +kernel
theorem d_O_run_41 : decode prog_9_method_24_code 41 = .ok (.iinc 3 1, 3) := by decide +kernel
theorem d_O_run_44 : decode prog_9_method_24_code 44 = .ok (.goto (-42), 3) := by decide +kernel
theorem d_O_run_47 : decode prog_9_method_24_code 47 = .ok (.iload_n 3, 1) := by decide +kernel
theorem d_O_run_48 : decode prog_9_method_24_code 48 = .ok (.ireturn, 1) := by decide +kernel
theorem d_O_inserts_0 : decode prog_9_method_23_code 0 = .ok (.iload_n 1, 1) := by decide +kernel
theorem d_O_inserts_1 : decode prog_9_method_23_code 1 = .ok (.iload_n 2, 1) := by decide +kernel
theorem d_O_inserts_2 : decode prog_9_method_23_code 2 = .ok (.if_icmp .ge 35, 3) := by decide +kernel
theorem d_O_inserts_5 : decode prog_9_method_23_code 5 = .ok (.aload_n 0, 1) := by decide +kernel
theorem d_O_inserts_6 : decode prog_9_method_23_code 6 = .ok (.iconst 2, 1) := by decide +kernel
theorem d_O_inserts_7 : decode prog_9_method_23_code 7 = .ok (.iload_n 2, 1) := by decide +kernel
theorem d_O_inserts_8 : decode prog_9_method_23_code 8 = .ok (.iload_n 1, 1) := by decide +kernel
theorem d_O_inserts_9 : decode prog_9_method_23_code 9 = .ok (.isub, 1) := by decide +kernel
theorem d_O_inserts_10 : decode prog_9_method_23_code 10 = .ok (.imul, 1) := by decide +kernel
theorem d_O_inserts_11 : decode prog_9_method_23_code 11 = .ok (.invokevirtual 131, 3) := by decide +kernel
theorem d_O_inserts_14 : decode prog_9_method_23_code 14 = .ok (.iload_n 1, 1) := by decide +kernel
theorem d_O_inserts_15 : decode prog_9_method_23_code 15 = .ok (.istore_n 3, 1) := by decide +kernel
theorem d_O_inserts_16 : decode prog_9_method_23_code 16 = .ok (.iload_n 3, 1) := by decide +kernel
theorem d_O_inserts_17 : decode prog_9_method_23_code 17 = .ok (.iload_n 2, 1) := by decide +kernel
theorem d_O_inserts_18 : decode prog_9_method_23_code 18 = .ok (.if_icmp .ge 19, 3) := by decide +kernel
theorem d_O_inserts_21 : decode prog_9_method_23_code 21 = .ok (.aload_n 0, 1) := by decide +kernel
theorem d_O_inserts_22 : decode prog_9_method_23_code 22 = .ok (.aload_n 0, 1) := by decide +kernel
theorem d_O_inserts_23 : decode prog_9_method_23_code 23 = .ok (.getfield 13, 3) := by decide +kernel
theorem d_O_inserts_26 : decode prog_9_method_23_code 26 = .ok (.iload_n 3, 1) := by decide +kernel
theorem d_O_inserts_27 : decode prog_9_method_23_code 27 = .ok (.baload, 1) := by decide +kernel
theorem d_O_inserts_28 : decode prog_9_method_23_code 28 = .ok (.invokevirtual 128, 3) := by decide +kernel
theorem d_O_inserts_31 : decode prog_9_method_23_code 31 = .ok (.iinc 3 1, 3) := by decide +kernel
theorem d_O_inserts_34 : decode prog_9_method_23_code 34 = .ok (.goto (-18), 3) := by decide +kernel
theorem d_O_inserts_37 : decode prog_9_method_23_code 37 = .ok (.return_, 1) := by decide +kernel
theorem d_O_pieces_0 : decode prog_9_method_25_code 0 = .ok (.aload_n 0, 1) := by decide +kernel
theorem d_O_pieces_1 : decode prog_9_method_25_code 1 = .ok (.iconst 0, 1) := by decide +kernel
theorem d_O_pieces_2 : decode prog_9_method_25_code 2 = .ok (.putfield 125, 3) := by decide +kernel
theorem d_O_pieces_5 : decode prog_9_method_25_code 5 = .ok (.iconst 0, 1) := by decide +kernel
theorem d_O_pieces_6 : decode prog_9_method_25_code 6 = .ok (.istore_n 1, 1) := by decide +kernel
theorem d_O_pieces_7 : decode prog_9_method_25_code 7 = .ok (.iconst 0, 1) := by decide +kernel
theorem d_O_pieces_8 : decode prog_9_method_25_code 8 = .ok (.istore_n 2, 1) := by decide +kernel
theorem d_O_pieces_9 : decode prog_9_method_25_code 9 = .ok (.iload_n 2, 1) := by decide +kernel
theorem d_O_pieces_10 : decode prog_9_method_25_code 10 = .ok (.aload_n 0, 1) := by decide +kernel
theorem d_O_pieces_11 : decode prog_9_method_25_code 11 = .ok (.getfield 69, 3) := by decide +kernel
theorem d_O_pieces_14 : decode prog_9_method_25_code 14 = .ok (.if_icmp .ge 104, 3) := by decide +kernel
theorem d_O_pieces_17 : decode prog_9_method_25_code 17 = .ok (.iconst 0, 1) := by decide +kernel
theorem d_O_pieces_18 : decode prog_9_method_25_code 18 = .ok (.istore_n 3, 1) := by decide +kernel
theorem d_O_pieces_19 : decode prog_9_method_25_code 19 = .ok (.iconst 0, 1) := by decide +kernel
theorem d_O_pieces_20 : decode prog_9_method_25_code 20 = .ok (.istore 4, 2) := by decide +kernel
theorem d_O_pieces_22 : decode prog_9_method_25_code 22 = .ok (.iconst 0, 1) := by decide +kernel
theorem d_O_pieces_23 : decode prog_9_method_25_code 23 = .ok (.istore 5, 2) := by decide +kernel
theorem d_O_pieces_25 : decode prog_9_method_25_code 25 = .ok (.iload 5, 2) := by decide +kernel
theorem d_O_pieces_27 : decode prog_9_method_25_code 27 = .ok (.aload_n 0, 1) := by decide +kernel
theorem d_O_pieces_28 : decode prog_9_method_25_code 28 = .ok (.getfield 113, 3) := by decide +kernel
theorem d_O_pieces_31 : decode prog_9_method_25_code 31 = .ok (.if_icmp .ge 46, 3) := by decide +kernel
theorem d_O_pieces_34 : decode prog_9_method_25_code 34 = .ok (.aload_n 0, 1) := by decide +kernel
theorem d_O_pieces_35 : decode prog_9_method_25_code 35 = .ok (.iload_n 2, 1) := by decide +kernel
theorem d_O_pieces_36 : decode prog_9_method_25_code 36 = .ok (.iload 5, 2) := by decide +kernel
theorem d_O_pieces_38 : decode prog_9_method_25_code 38 = .ok (.invokevirtual 134, 3) := by decide +kernel
theorem d_O_pieces_41 : decode prog_9_method_25_code 41 = .ok (.istore 6, 2) := by decide +kernel
theorem d_O_pieces_43 : decode prog_9_method_25_code 43 = .ok (.iload 6, 2) := by decide +kernel
theorem d_O_pieces_45 : decode prog_9_method_25_code 45 = .ok (.iload_n 3, 1) := by decide +kernel
theorem d_O_pieces_46 : decode prog_9_method_25_code 46 = .ok (.if_icmp .le 8, 3) := by decide +kernel
theorem d_O_pieces_49 : decode prog_9_method_25_code 49 = .ok (.iload 5, 2) := by decide +kernel
theorem d_O_pieces_51 : decode prog_9_method_25_code 51 = .ok (.goto 5, 3) := by decide +kernel
theorem d_O_pieces_54 : decode prog_9_method_25_code 54 = .ok (.iload 4, 2) := by decide +kernel
theorem d_O_pieces_56 : decode prog_9_method_25_code 56 = .ok (.istore 4, 2) := by decide +kernel
theorem d_O_pieces_58 : decode prog_9_method_25_code 58 = .ok (.iload 6, 2) := by decide +kernel
theorem d_O_pieces_60 : decode prog_9_method_25_code 60 = .ok (.iload_n 3, 1) := by decide +kernel
theorem d_O_pieces_61 : decode prog_9_method_25_code 61 = .ok (.if_icmp .le 8, 3) := by decide +kernel
theorem d_O_pieces_64 : decode prog_9_method_25_code 64 = .ok (.iload 6, 2) := by decide +kernel
theorem d_O_pieces_66 : decode prog_9_method_25_code 66 = .ok (.goto 4, 3) := by decide +kernel
theorem d_O_pieces_69 : decode prog_9_method_25_code 69 = .ok (.iload_n 3, 1) := by decide +kernel
theorem d_O_pieces_70 : decode prog_9_method_25_code 70 = .ok (.istore_n 3, 1) := by decide +kernel
theorem d_O_pieces_71 : decode prog_9_method_25_code 71 = .ok (.iinc 5 1, 3) := by decide +kernel
theorem d_O_pieces_74 : decode prog_9_method_25_code 74 = .ok (.goto (-49), 3) := by decide +kernel
theorem d_O_pieces_77 : decode prog_9_method_25_code 77 = .ok (.iload_n 3, 1) := by decide +kernel
theorem d_O_pieces_78 : decode prog_9_method_25_code 78 = .ok (.iconst 3, 1) := by decide +kernel
theorem d_O_pieces_79 : decode prog_9_method_25_code 79 = .ok (.if_icmp .le 33, 3) := by decide +kernel
theorem d_O_pieces_82 : decode prog_9_method_25_code 82 = .ok (.aload_n 0, 1) := by decide +kernel
theorem d_O_pieces_83 : decode prog_9_method_25_code 83 = .ok (.iload_n 1, 1) := by decide +kernel
theorem d_O_pieces_84 : decode prog_9_method_25_code 84 = .ok (.iload_n 2, 1) := by decide +kernel
theorem d_O_pieces_85 : decode prog_9_method_25_code 85 = .ok (.invokevirtual 138, 3) := by decide +kernel
theorem d_O_pieces_88 : decode prog_9_method_25_code 88 = .ok (.aload_n 0, 1) := by decide +kernel
theorem d_O_pieces_89 : decode prog_9_method_25_code 89 = .ok (.iconst 2, 1) := by decide +kernel
theorem d_O_pieces_90 : decode prog_9_method_25_code 90 = .ok (.iload_n 3, 1) := by decide +kernel
theorem d_O_pieces_91 : decode prog_9_method_25_code 91 = .ok (.imul, 1) := by decide +kernel
theorem d_O_pieces_92 : decode prog_9_method_25_code 92 = .ok (.iconst 1, 1) := by decide +kernel
theorem d_O_pieces_93 : decode prog_9_method_25_code 93 = .ok (.iadd, 1) := by decide +kernel
theorem d_O_pieces_94 : decode prog_9_method_25_code 94 = .ok (.invokevirtual 131, 3) := by decide +kernel
theorem d_O_pieces_97 : decode prog_9_method_25_code 97 = .ok (.aload_n 0, 1) := by decide +kernel
theorem d_O_pieces_98 : decode prog_9_method_25_code 98 = .ok (.iload 4, 2) := by decide +kernel
theorem d_O_pieces_100 : decode prog_9_method_25_code 100 = .ok (.invokevirtual 131, 3) := by decide +kernel
theorem d_O_pieces_103 : decode prog_9_method_25_code 103 = .ok (.iload_n 2, 1) := by decide +kernel
theorem d_O_pieces_104 : decode prog_9_method_25_code 104 = .ok (.iload_n 3, 1) := by decide +kernel
theorem d_O_pieces_105 : decode prog_9_method_25_code 105 = .ok (.iadd, 1) := by decide +kernel
theorem d_O_pieces_106 : decode prog_9_method_25_code 106 = .ok (.istore_n 2, 1) := by decide +kernel
theorem d_O_pieces_107 : decode prog_9_method_25_code 107 = .ok (.iload_n 2, 1) := by decide +kernel
theorem d_O_pieces_108 : decode prog_9_method_25_code 108 = .ok (.istore_n 1, 1) := by decide +kernel
theorem d_O_pieces_109 : decode prog_9_method_25_code 109 = .ok (.goto 6, 3) := by decide +kernel
theorem d_O_pieces_112 : decode prog_9_method_25_code 112 = .ok (.iinc 2 1, 3) := by decide +kernel
theorem d_O_pieces_115 : decode prog_9_method_25_code 115 = .ok (.goto (-106), 3) := by decide +kernel
theorem d_O_pieces_118 : decode prog_9_method_25_code 118 = .ok (.aload_n 0, 1) := by decide +kernel
theorem d_O_pieces_119 : decode prog_9_method_25_code 119 = .ok (.iload_n 1, 1) := by decide +kernel
theorem d_O_pieces_120 : decode prog_9_method_25_code 120 = .ok (.aload_n 0, 1) := by decide +kernel
theorem d_O_pieces_121 : decode prog_9_method_25_code 121 = .ok (.getfield 69, 3) := by decide +kernel
theorem d_O_pieces_124 : decode prog_9_method_25_code 124 = .ok (.invokevirtual 138, 3) := by decide +kernel
theorem d_O_pieces_127 : decode prog_9_method_25_code 127 = .ok (.aload_n 0, 1) := by decide +kernel
theorem d_O_pieces_128 : decode prog_9_method_25_code 128 = .ok (.getfield 69, 3) := by decide +kernel
theorem d_O_pieces_131 : decode prog_9_method_25_code 131 = .ok (.ifCond .ne 7, 3) := by decide +kernel
theorem d_O_pieces_134 : decode prog_9_method_25_code 134 = .ok (.iconst 0, 1) := by decide +kernel
theorem d_O_pieces_135 : decode prog_9_method_25_code 135 = .ok (.goto 22, 3) := by decide +kernel
theorem d_O_pieces_138 : decode prog_9_method_25_code 138 = .ok (.aload_n 0, 1) := by decide +kernel
theorem d_O_pieces_139 : decode prog_9_method_25_code 139 = .ok (.getfield 69, 3) := by decide +kernel
theorem d_O_pieces_142 : decode prog_9_method_25_code 142 = .ok (.aload_n 0, 1) := by decide +kernel
theorem d_O_pieces_143 : decode prog_9_method_25_code 143 = .ok (.getfield 69, 3) := by decide +kernel
theorem d_O_pieces_146 : decode prog_9_method_25_code 146 = .ok (.bipush 64, 2) := by decide +kernel
theorem d_O_pieces_148 : decode prog_9_method_25_code 148 = .ok (.if_icmp .ge 7, 3) := by decide +kernel
theorem d_O_pieces_151 : decode prog_9_method_25_code 151 = .ok (.iconst 1, 1) := by decide +kernel
theorem d_O_pieces_152 : decode prog_9_method_25_code 152 = .ok (.goto 4, 3) := by decide +kernel
theorem d_O_pieces_155 : decode prog_9_method_25_code 155 = .ok (.iconst 2, 1) := by decide +kernel
theorem d_O_pieces_156 : decode prog_9_method_25_code 156 = .ok (.iadd, 1) := by decide +kernel
theorem d_O_pieces_157 : decode prog_9_method_25_code 157 = .ok (.istore_n 3, 1) := by decide +kernel
theorem d_O_pieces_158 : decode prog_9_method_25_code 158 = .ok (.aload_n 0, 1) := by decide +kernel
theorem d_O_pieces_159 : decode prog_9_method_25_code 159 = .ok (.getfield 125, 3) := by decide +kernel
theorem d_O_pieces_162 : decode prog_9_method_25_code 162 = .ok (.iload_n 3, 1) := by decide +kernel
theorem d_O_pieces_163 : decode prog_9_method_25_code 163 = .ok (.if_icmp .le 17, 3) := by decide +kernel
theorem d_O_pieces_166 : decode prog_9_method_25_code 166 = .ok (.aload_n 0, 1) := by decide +kernel
theorem d_O_pieces_167 : decode prog_9_method_25_code 167 = .ok (.iconst 0, 1) := by decide +kernel
theorem d_O_pieces_168 : decode prog_9_method_25_code 168 = .ok (.putfield 125, 3) := by decide +kernel
theorem d_O_pieces_171 : decode prog_9_method_25_code 171 = .ok (.aload_n 0, 1) := by decide +kernel
theorem d_O_pieces_172 : decode prog_9_method_25_code 172 = .ok (.iconst 0, 1) := by decide +kernel
theorem d_O_pieces_173 : decode prog_9_method_25_code 173 = .ok (.aload_n 0, 1) := by decide +kernel
theorem d_O_pieces_174 : decode prog_9_method_25_code 174 = .ok (.getfield 69, 3) := by decide +kernel
theorem d_O_pieces_177 : decode prog_9_method_25_code 177 = .ok (.invokevirtual 138, 3) := by decide +kernel
theorem d_O_pieces_180 : decode prog_9_method_25_code 180 = .ok (.return_, 1) := by decide +kernel
theorem d_M_readNumber_0 : decode prog_3_method_8_code 0 = .ok (.iconst 0, 1) := by decide +kernel
theorem d_M_readNumber_1 : decode prog_3_method_8_code 1 = .ok (.istore_n 1, 1) := by decide +kernel
theorem d_M_readNumber_2 : decode prog_3_method_8_code 2 = .ok (.iconst 0, 1) := by decide +kernel
theorem d_M_readNumber_3 : decode prog_3_method_8_code 3 = .ok (.istore_n 2, 1) := by decide +kernel
theorem d_M_readNumber_4 : decode prog_3_method_8_code 4 = .ok (.iload_n 2, 1) := by decide +kernel
theorem d_M_readNumber_5 : decode prog_3_method_8_code 5 = .ok (.iconst 3, 1) := by decide +kernel
theorem d_M_readNumber_6 : decode prog_3_method_8_code 6 = .ok (.if_icmp .ge 69, 3) := by decide +kernel
theorem d_M_readNumber_9 : decode prog_3_method_8_code 9 = .ok (.aload_n 0, 1) := by decide +kernel
theorem d_M_readNumber_10 : decode prog_3_method_8_code 10 = .ok (.getfield 25, 3) := by decide +kernel
theorem d_M_readNumber_13 : decode prog_3_method_8_code 13 = .ok (.aload_n 0, 1) := by decide +kernel
theorem d_M_readNumber_14 : decode prog_3_method_8_code 14 = .ok (.getfield 21, 3) := by decide +kernel
theorem d_M_readNumber_17 : decode prog_3_method_8_code 17 = .ok (.arraylength, 1) := by decide +kernel
theorem d_M_readNumber_18 : decode prog_3_method_8_code 18 = .ok (.if_icmp .lt 5, 3) := by decide +kernel
theorem d_M_readNumber_21 : decode prog_3_method_8_code 21 = .ok (.iconst (-1), 1) := by decide +kernel
theorem d_M_readNumber_22 : decode prog_3_method_8_code 22 = .ok (.ireturn, 1) := by decide +kernel
theorem d_M_readNumber_23 : decode prog_3_method_8_code 23 = .ok (.aload_n 0, 1) := by decide +kernel
theorem d_M_readNumber_24 : decode prog_3_method_8_code 24 = .ok (.getfield 21, 3) := by decide +kernel
theorem d_M_readNumber_27 : decode prog_3_method_8_code 27 = .ok (.aload_n 0, 1) := by decide +kernel
theorem d_M_readNumber_28 : decode prog_3_method_8_code 28 = .ok (.getfield 25, 3) := by decide +kernel
theorem d_M_readNumber_31 : decode prog_3_method_8_code 31 = .ok (.baload, 1) := by decide +kernel
theorem d_M_readNumber_32 : decode prog_3_method_8_code 32 = .ok (.sipush 255, 3) := by decide +kernel
theorem d_M_readNumber_35 : decode prog_3_method_8_code 35 = .ok (.iand, 1) := by decide +kernel
theorem d_M_readNumber_36 : decode prog_3_method_8_code 36 = .ok (.istore_n 3, 1) := by decide +kernel
theorem d_M_readNumber_37 : decode prog_3_method_8_code 37 = .ok (.aload_n 0, 1) := by decide +kernel
theorem d_M_readNumber_38 : decode prog_3_method_8_code 38 = .ok (.dup, 1) := by decide +kernel
theorem d_M_readNumber_39 : decode prog_3_method_8_code 39 = .ok (.getfield 25, 3) := by decide +kernel
theorem d_M_readNumber_42 : decode prog_3_method_8_code 42 = .ok (.iconst 1, 1) := by decide +kernel
theorem d_M_readNumber_43 : decode prog_3_method_8_code 43 = .ok (.iadd, 1) := by decide +kernel
theorem d_M_readNumber_44 : decode prog_3_method_8_code 44 = .ok (.putfield 25, 3) := by decide +kernel
theorem d_M_readNumber_47 : decode prog_3_method_8_code 47 = .ok (.iload_n 1, 1) := by decide +kernel
theorem d_M_readNumber_48 : decode prog_3_method_8_code 48 = .ok (.iload_n 3, 1) := by decide +kernel
theorem d_M_readNumber_49 : decode prog_3_method_8_code 49 = .ok (.sipush 128, 3) := by decide +kernel
theorem d_M_readNumber_52 : decode prog_3_method_8_code 52 = .ok (.irem, 1) := by decide +kernel
theorem d_M_readNumber_53 : decode prog_3_method_8_code 53 = .ok (.bipush 7, 2) := by decide +kernel
theorem d_M_readNumber_55 : decode prog_3_method_8_code 55 = .ok (.iload_n 2, 1) := by decide +kernel
theorem d_M_readNumber_56 : decode prog_3_method_8_code 56 = .ok (.imul, 1) := by decide +kernel
theorem d_M_readNumber_57 : decode prog_3_method_8_code 57 = .ok (.ishl, 1) := by decide +kernel
theorem d_M_readNumber_58 : decode prog_3_method_8_code 58 = .ok (.iadd, 1) := by decide +kernel
theorem d_M_readNumber_59 : decode prog_3_method_8_code 59 = .ok (.istore_n 1, 1) := by decide +kernel
theorem d_M_readNumber_60 : decode prog_3_method_8_code 60 = .ok (.iload_n 3, 1) := by decide +kernel
theorem d_M_readNumber_61 : decode prog_3_method_8_code 61 = .ok (.sipush 128, 3) := by decide +kernel
theorem d_M_readNumber_64 : decode prog_3_method_8_code 64 = .ok (.if_icmp .ge 5, 3) := by decide +kernel
theorem d_M_readNumber_67 : decode prog_3_method_8_code 67 = .ok (.iload_n 1, 1) := by decide +kernel
theorem d_M_readNumber_68 : decode prog_3_method_8_code 68 = .ok (.ireturn, 1) := by decide +kernel
theorem d_M_readNumber_69 : decode prog_3_method_8_code 69 = .ok (.iinc 2 1, 3) := by decide +kernel
theorem d_M_readNumber_72 : decode prog_3_method_8_code 72 = .ok (.goto (-68), 3) := by decide +kernel
theorem d_M_readNumber_75 : decode prog_3_method_8_code 75 = .ok (.iconst (-1), 1) := by decide +kernel
theorem d_M_readNumber_76 : decode prog_3_method_8_code 76 = .ok (.ireturn, 1) := by decide +kernel
theorem d_O_number_0 : decode prog_9_method_17_code 0 = .ok (.aload_n 0, 1) := by decide +kernel
theorem d_O_number_1 : decode prog_9_method_17_code 1 = .ok (.iconst 0, 1) := by decide +kernel
theorem d_O_number_2 : decode prog_9_method_17_code 2 = .ok (.putfield 100, 3) := by decide +kernel
theorem d_O_number_5 : decode prog_9_method_17_code 5 = .ok (.iconst 0, 1) := by decide +kernel
theorem d_O_number_6 : decode prog_9_method_17_code 6 = .ok (.istore_n 1, 1) := by decide +kernel
theorem d_O_number_7 : decode prog_9_method_17_code 7 = .ok (.iload_n 1, 1) := by decide +kernel
theorem d_O_number_8 : decode prog_9_method_17_code 8 = .ok (.iconst 3, 1) := by decide +kernel
theorem d_O_number_9 : decode prog_9_method_17_code 9 = .ok (.if_icmp .ge 73, 3) := by decide +kernel
theorem d_O_number_12 : decode prog_9_method_17_code 12 = .ok (.aload_n 0, 1) := by decide +kernel
theorem d_O_number_13 : decode prog_9_method_17_code 13 = .ok (.getfield 103, 3) := by decide +kernel
theorem d_O_number_16 : decode prog_9_method_17_code 16 = .ok (.aload_n 0, 1) := by decide +kernel
theorem d_O_number_17 : decode prog_9_method_17_code 17 = .ok (.getfield 106, 3) := by decide +kernel
theorem d_O_number_20 : decode prog_9_method_17_code 20 = .ok (.if_icmp .ne 5, 3) := by decide +kernel
theorem d_O_number_23 : decode prog_9_method_17_code 23 = .ok (.iconst 0, 1) := by decide +kernel
theorem d_O_number_24 : decode prog_9_method_17_code 24 = .ok (.ireturn, 1) := by decide +kernel
theorem d_O_number_25 : decode prog_9_method_17_code 25 = .ok (.aload_n 0, 1) := by decide +kernel
theorem d_O_number_26 : decode prog_9_method_17_code 26 = .ok (.getfield 38, 3) := by decide +kernel
theorem d_O_number_29 : decode prog_9_method_17_code 29 = .ok (.aload_n 0, 1) := by decide +kernel
theorem d_O_number_30 : decode prog_9_method_17_code 30 = .ok (.getfield 103, 3) := by decide +kernel
theorem d_O_number_33 : decode prog_9_method_17_code 33 = .ok (.baload, 1) := by decide +kernel
theorem d_O_number_34 : decode prog_9_method_17_code 34 = .ok (.sipush 255, 3) := by decide +kernel
theorem d_O_number_37 : decode prog_9_method_17_code 37 = .ok (.iand, 1) := by decide +kernel
theorem d_O_number_38 : decode prog_9_method_17_code 38 = .ok (.istore_n 2, 1) := by decide +kernel
theorem d_O_number_39 : decode prog_9_method_17_code 39 = .ok (.aload_n 0, 1) := by decide +kernel
theorem d_O_number_40 : decode prog_9_method_17_code 40 = .ok (.dup, 1) := by decide +kernel
theorem d_O_number_41 : decode prog_9_method_17_code 41 = .ok (.getfield 103, 3) := by decide +kernel
theorem d_O_number_44 : decode prog_9_method_17_code 44 = .ok (.iconst 1, 1) := by decide +kernel
theorem d_O_number_45 : decode prog_9_method_17_code 45 = .ok (.iadd, 1) := by decide +kernel
theorem d_O_number_46 : decode prog_9_method_17_code 46 = .ok (.putfield 103, 3) := by decide +kernel
theorem d_O_number_49 : decode prog_9_method_17_code 49 = .ok (.aload_n 0, 1) := by decide +kernel
theorem d_O_number_50 : decode prog_9_method_17_code 50 = .ok (.dup, 1) := by decide +kernel
theorem d_O_number_51 : decode prog_9_method_17_code 51 = .ok (.getfield 100, 3) := by decide +kernel
theorem d_O_number_54 : decode prog_9_method_17_code 54 = .ok (.iload_n 2, 1) := by decide +kernel
theorem d_O_number_55 : decode prog_9_method_17_code 55 = .ok (.bipush 127, 2) := by decide +kernel
theorem d_O_number_57 : decode prog_9_method_17_code 57 = .ok (.iand, 1) := by decide +kernel
theorem d_O_number_58 : decode prog_9_method_17_code 58 = .ok (.bipush 7, 2) := by decide +kernel
theorem d_O_number_60 : decode prog_9_method_17_code 60 = .ok (.iload_n 1, 1) := by decide +kernel
theorem d_O_number_61 : decode prog_9_method_17_code 61 = .ok (.imul, 1) := by decide +kernel
theorem d_O_number_62 : decode prog_9_method_17_code 62 = .ok (.ishl, 1) := by decide +kernel
theorem d_O_number_63 : decode prog_9_method_17_code 63 = .ok (.iadd, 1) := by decide +kernel
theorem d_O_number_64 : decode prog_9_method_17_code 64 = .ok (.putfield 100, 3) := by decide +kernel
theorem d_O_number_67 : decode prog_9_method_17_code 67 = .ok (.iload_n 2, 1) := by decide +kernel
theorem d_O_number_68 : decode prog_9_method_17_code 68 = .ok (.sipush 128, 3) := by decide +kernel
theorem d_O_number_71 : decode prog_9_method_17_code 71 = .ok (.if_icmp .ge 5, 3) := by decide +kernel
theorem d_O_number_74 : decode prog_9_method_17_code 74 = .ok (.iconst 1, 1) := by decide +kernel
theorem d_O_number_75 : decode prog_9_method_17_code 75 = .ok (.ireturn, 1) := by decide +kernel
theorem d_O_number_76 : decode prog_9_method_17_code 76 = .ok (.iinc 1 1, 3) := by decide +kernel
theorem d_O_number_79 : decode prog_9_method_17_code 79 = .ok (.goto (-72), 3) := by decide +kernel
theorem d_O_number_82 : decode prog_9_method_17_code 82 = .ok (.iconst 0, 1) := by decide +kernel
theorem d_O_number_83 : decode prog_9_method_17_code 83 = .ok (.ireturn, 1) := by decide +kernel
theorem d_M_insert_0 : decode prog_3_method_6_code 0 = .ok (.iload_n 1, 1) := by decide +kernel
theorem d_M_insert_1 : decode prog_3_method_6_code 1 = .ok (.aload_n 0, 1) := by decide +kernel
theorem d_M_insert_2 : decode prog_3_method_6_code 2 = .ok (.getfield 21, 3) := by decide +kernel
theorem d_M_insert_5 : decode prog_3_method_6_code 5 = .ok (.arraylength, 1) := by decide +kernel
theorem d_M_insert_6 : decode prog_3_method_6_code 6 = .ok (.aload_n 0, 1) := by decide +kernel
theorem d_M_insert_7 : decode prog_3_method_6_code 7 = .ok (.getfield 25, 3) := by decide +kernel
theorem d_M_insert_10 : decode prog_3_method_6_code 10 = .ok (.isub, 1) := by decide +kernel
theorem d_M_insert_11 : decode prog_3_method_6_code 11 = .ok (.if_icmp .le 5, 3) := by decide +kernel
theorem d_M_insert_14 : decode prog_3_method_6_code 14 = .ok (.iconst 0, 1) := by decide +kernel
theorem d_M_insert_15 : decode prog_3_method_6_code 15 = .ok (.ireturn, 1) := by decide +kernel
theorem d_M_insert_16 : decode prog_3_method_6_code 16 = .ok (.iconst 0, 1) := by decide +kernel
theorem d_M_insert_17 : decode prog_3_method_6_code 17 = .ok (.istore_n 2, 1) := by decide +kernel
theorem d_M_insert_18 : decode prog_3_method_6_code 18 = .ok (.iload_n 2, 1) := by decide +kernel
theorem d_M_insert_19 : decode prog_3_method_6_code 19 = .ok (.iload_n 1, 1) := by decide +kernel
theorem d_M_insert_20 : decode prog_3_method_6_code 20 = .ok (.if_icmp .ge 27, 3) := by decide +kernel
theorem d_M_insert_23 : decode prog_3_method_6_code 23 = .ok (.aload_n 0, 1) := by decide +kernel
theorem d_M_insert_24 : decode prog_3_method_6_code 24 = .ok (.getfield 18, 3) := by decide +kernel
theorem d_M_insert_27 : decode prog_3_method_6_code 27 = .ok (.aload_n 0, 1) := by decide +kernel
theorem d_M_insert_28 : decode prog_3_method_6_code 28 = .ok (.getfield 21, 3) := by decide +kernel
theorem d_M_insert_31 : decode prog_3_method_6_code 31 = .ok (.aload_n 0, 1) := by decide +kernel
theorem d_M_insert_32 : decode prog_3_method_6_code 32 = .ok (.getfield 25, 3) := by decide +kernel
theorem d_M_insert_35 : decode prog_3_method_6_code 35 = .ok (.iload_n 2, 1) := by decide +kernel
theorem d_M_insert_36 : decode prog_3_method_6_code 36 = .ok (.iadd, 1) := by decide +kernel
theorem d_M_insert_37 : decode prog_3_method_6_code 37 = .ok (.baload, 1) := by decide +kernel
theorem d_M_insert_38 : decode prog_3_method_6_code 38 = .ok (.invokevirtual 71, 3) := by decide +kernel
theorem d_M_insert_41 : decode prog_3_method_6_code 41 = .ok (.iinc 2 1, 3) := by decide +kernel
theorem d_M_insert_44 : decode prog_3_method_6_code 44 = .ok (.goto (-26), 3) := by decide +kernel
theorem d_M_insert_47 : decode prog_3_method_6_code 47 = .ok (.aload_n 0, 1) := by decide +kernel
theorem d_M_insert_48 : decode prog_3_method_6_code 48 = .ok (.dup, 1) := by decide +kernel
theorem d_M_insert_49 : decode prog_3_method_6_code 49 = .ok (.getfield 25, 3) := by decide +kernel
theorem d_M_insert_52 : decode prog_3_method_6_code 52 = .ok (.iload_n 1, 1) := by decide +kernel
theorem d_M_insert_53 : decode prog_3_method_6_code 53 = .ok (.iadd, 1) := by decide +kernel
theorem d_M_insert_54 : decode prog_3_method_6_code 54 = .ok (.putfield 25, 3) := by decide +kernel
theorem d_M_insert_57 : decode prog_3_method_6_code 57 = .ok (.iconst 1, 1) := by decide +kernel
theorem d_M_insert_58 : decode prog_3_method_6_code 58 = .ok (.ireturn, 1) := by decide +kernel
theorem d_M_copy_0 : decode prog_3_method_7_code 0 = .ok (.aload_n 0, 1) := by decide +kernel
theorem d_M_copy_1 : decode prog_3_method_7_code 1 = .ok (.invokevirtual 58, 3) := by decide +kernel
theorem d_M_copy_4 : decode prog_3_method_7_code 4 = .ok (.istore_n 2, 1) := by decide +kernel
theorem d_M_copy_5 : decode prog_3_method_7_code 5 = .ok (.iload_n 2, 1) := by decide +kernel
theorem d_M_copy_6 : decode prog_3_method_7_code 6 = .ok (.ifCond .lt 16, 3) := by decide +kernel
theorem d_M_copy_9 : decode prog_3_method_7_code 9 = .ok (.iload_n 1, 1) := by decide +kernel
theorem d_M_copy_10 : decode prog_3_method_7_code 10 = .ok (.aload_n 0, 1) := by decide +kernel
theorem d_M_copy_11 : decode prog_3_method_7_code 11 = .ok (.getfield 12, 3) := by decide +kernel
theorem d_M_copy_14 : decode prog_3_method_7_code 14 = .ok (.getfield 75, 3) := by decide +kernel
theorem d_M_copy_17 : decode prog_3_method_7_code 17 = .ok (.iload_n 2, 1) := by decide +kernel
theorem d_M_copy_18 : decode prog_3_method_7_code 18 = .ok (.isub, 1) := by decide +kernel
theorem d_M_copy_19 : decode prog_3_method_7_code 19 = .ok (.if_icmp .le 5, 3) := by decide +kernel
theorem d_M_copy_22 : decode prog_3_method_7_code 22 = .ok (.iconst 0, 1) := by decide +kernel
theorem d_M_copy_23 : decode prog_3_method_7_code 23 = .ok (.ireturn, 1) := by decide +kernel
theorem d_M_copy_24 : decode prog_3_method_7_code 24 = .ok (.iconst 0, 1) := by decide +kernel
theorem d_M_copy_25 : decode prog_3_method_7_code 25 = .ok (.istore_n 3, 1) := by decide +kernel
theorem d_M_copy_26 : decode prog_3_method_7_code 26 = .ok (.iload_n 3, 1) := by decide +kernel
theorem d_M_copy_27 : decode prog_3_method_7_code 27 = .ok (.iload_n 1, 1) := by decide +kernel
theorem d_M_copy_28 : decode prog_3_method_7_code 28 = .ok (.if_icmp .ge 26, 3) := by decide +kernel
theorem d_M_copy_31 : decode prog_3_method_7_code 31 = .ok (.aload_n 0, 1) := by decide +kernel
theorem d_M_copy_32 : decode prog_3_method_7_code 32 = .ok (.getfield 18, 3) := by decide +kernel
theorem d_M_copy_35 : decode prog_3_method_7_code 35 = .ok (.aload_n 0, 1) := by decide +kernel
theorem d_M_copy_36 : decode prog_3_method_7_code 36 = .ok (.getfield 12, 3) := by decide +kernel
theorem d_M_copy_39 : decode prog_3_method_7_code 39 = .ok (.iload_n 2, 1) := by decide +kernel
theorem d_M_copy_40 : decode prog_3_method_7_code 40 = .ok (.iload_n 3, 1) := by decide +kernel
theorem d_M_copy_41 : decode prog_3_method_7_code 41 = .ok (.iadd, 1) := by decide +kernel
theorem d_M_copy_42 : decode prog_3_method_7_code 42 = .ok (.invokevirtual 78, 3) := by decide +kernel
theorem d_M_copy_45 : decode prog_3_method_7_code 45 = .ok (.invokevirtual 71, 3) := by decide +kernel
theorem d_M_copy_48 : decode prog_3_method_7_code 48 = .ok (.iinc 3 1, 3) := by decide +kernel
theorem d_M_copy_51 : decode prog_3_method_7_code 51 = .ok (.goto (-25), 3) := by decide +kernel
theorem d_M_copy_54 : decode prog_3_method_7_code 54 = .ok (.iconst 1, 1) := by decide +kernel
theorem d_M_copy_55 : decode prog_3_method_7_code 55 = .ok (.ireturn, 1) := by decide +kernel
theorem d_M_obeyCommand_0 : decode prog_3_method_5_code 0 = .ok (.aload_n 0, 1) := by decide +kernel
theorem d_M_obeyCommand_1 : decode prog_3_method_5_code 1 = .ok (.invokevirtual 58, 3) := by decide +kernel
theorem d_M_obeyCommand_4 : decode prog_3_method_5_code 4 = .ok (.istore_n 1, 1) := by decide +kernel
theorem d_M_obeyCommand_5 : decode prog_3_method_5_code 5 = .ok (.iload_n 1, 1) := by decide +kernel
theorem d_M_obeyCommand_6 : decode prog_3_method_5_code 6 = .ok (.iconst 2, 1) := by decide +kernel
theorem d_M_obeyCommand_7 : decode prog_3_method_5_code 7 = .ok (.idiv, 1) := by decide +kernel
theorem d_M_obeyCommand_8 : decode prog_3_method_5_code 8 = .ok (.istore_n 2, 1) := by decide +kernel
theorem d_M_obeyCommand_9 : decode prog_3_method_5_code 9 = .ok (.iload_n 1, 1) := by decide +kernel
theorem d_M_obeyCommand_10 : decode prog_3_method_5_code 10 = .ok (.ifCond .lt 18, 3) := by decide +kernel
theorem d_M_obeyCommand_13 : decode prog_3_method_5_code 13 = .ok (.iload_n 2, 1) := by decide +kernel
theorem d_M_obeyCommand_14 : decode prog_3_method_5_code 14 = .ok (.ifCond .eq 14, 3) := by decide +kernel
theorem d_M_obeyCommand_17 : decode prog_3_method_5_code 17 = .ok (.aload_n 0, 1) := by decide +kernel
theorem d_M_obeyCommand_18 : decode prog_3_method_5_code 18 = .ok (.getfield 18, 3) := by decide +kernel
theorem d_M_obeyCommand_21 : decode prog_3_method_5_code 21 = .ok (.iload_n 2, 1) := by decide +kernel
theorem d_M_obeyCommand_22 : decode prog_3_method_5_code 22 = .ok (.invokevirtual 62, 3) := by decide +kernel
theorem d_M_obeyCommand_25 : decode prog_3_method_5_code 25 = .ok (.ifCond .ne 5, 3) := by decide +kernel
theorem d_M_obeyCommand_28 : decode prog_3_method_5_code 28 = .ok (.iconst 0, 1) := by decide +kernel
theorem d_M_obeyCommand_29 : decode prog_3_method_5_code 29 = .ok (.ireturn, 1) := by decide +kernel
theorem d_M_obeyCommand_30 : decode prog_3_method_5_code 30 = .ok (.iload_n 1, 1) := by decide +kernel
theorem d_M_obeyCommand_31 : decode prog_3_method_5_code 31 = .ok (.iconst 2, 1) := by decide +kernel
theorem d_M_obeyCommand_32 : decode prog_3_method_5_code 32 = .ok (.irem, 1) := by decide +kernel
theorem d_M_obeyCommand_33 : decode prog_3_method_5_code 33 = .ok (.ifCond .ne 11, 3) := by decide +kernel
theorem d_M_obeyCommand_36 : decode prog_3_method_5_code 36 = .ok (.aload_n 0, 1) := by decide +kernel
theorem d_M_obeyCommand_37 : decode prog_3_method_5_code 37 = .ok (.iload_n 2, 1) := by decide +kernel
theorem d_M_obeyCommand_38 : decode prog_3_method_5_code 38 = .ok (.invokevirtual 65, 3) := by decide +kernel
theorem d_M_obeyCommand_41 : decode prog_3_method_5_code 41 = .ok (.goto 8, 3) := by decide +kernel
theorem d_M_obeyCommand_44 : decode prog_3_method_5_code 44 = .ok (.aload_n 0, 1) := by decide +kernel
theorem d_M_obeyCommand_45 : decode prog_3_method_5_code 45 = .ok (.iload_n 2, 1) := by decide +kernel
theorem d_M_obeyCommand_46 : decode prog_3_method_5_code 46 = .ok (.invokevirtual 68, 3) := by decide +kernel
theorem d_M_obeyCommand_49 : decode prog_3_method_5_code 49 = .ok (.ireturn, 1) := by decide +kernel
theorem d_O_command_0 : decode prog_9_method_18_code 0 = .ok (.aload_n 0, 1) := by decide +kernel
theorem d_O_command_1 : decode prog_9_method_18_code 1 = .ok (.invokevirtual 109, 3) := by decide +kernel
theorem d_O_command_4 : decode prog_9_method_18_code 4 = .ok (.ifCond .ne 5, 3) := by decide +kernel
theorem d_O_command_7 : decode prog_9_method_18_code 7 = .ok (.iconst 0, 1) := by decide +kernel
theorem d_O_command_8 : decode prog_9_method_18_code 8 = .ok (.ireturn, 1) := by decide +kernel
theorem d_O_command_9 : decode prog_9_method_18_code 9 = .ok (.aload_n 0, 1) := by decide +kernel
theorem d_O_command_10 : decode prog_9_method_18_code 10 = .ok (.getfield 100, 3) := by decide +kernel
theorem d_O_command_13 : decode prog_9_method_18_code 13 = .ok (.iconst 2, 1) := by decide +kernel
theorem d_O_command_14 : decode prog_9_method_18_code 14 = .ok (.idiv, 1) := by decide +kernel
theorem d_O_command_15 : decode prog_9_method_18_code 15 = .ok (.istore_n 1, 1) := by decide +kernel
theorem d_O_command_16 : decode prog_9_method_18_code 16 = .ok (.aload_n 0, 1) := by decide +kernel
theorem d_O_command_17 : decode prog_9_method_18_code 17 = .ok (.getfield 100, 3) := by decide +kernel
theorem d_O_command_20 : decode prog_9_method_18_code 20 = .ok (.iconst 2, 1) := by decide +kernel
theorem d_O_command_21 : decode prog_9_method_18_code 21 = .ok (.irem, 1) := by decide +kernel
theorem d_O_command_22 : decode prog_9_method_18_code 22 = .ok (.iconst 1, 1) := by decide +kernel
theorem d_O_command_23 : decode prog_9_method_18_code 23 = .ok (.if_icmp .ne 7, 3) := by decide +kernel
theorem d_O_command_26 : decode prog_9_method_18_code 26 = .ok (.iconst 1, 1) := by decide +kernel
theorem d_O_command_27 : decode prog_9_method_18_code 27 = .ok (.goto 4, 3) := by decide +kernel
theorem d_O_command_30 : decode prog_9_method_18_code 30 = .ok (.iconst 0, 1) := by decide +kernel
theorem d_O_command_31 : decode prog_9_method_18_code 31 = .ok (.istore_n 2, 1) := by decide +kernel
theorem d_O_command_32 : decode prog_9_method_18_code 32 = .ok (.iload_n 2, 1) := by decide +kernel
theorem d_O_command_33 : decode prog_9_method_18_code 33 = .ok (.ifCond .eq 12, 3) := by decide +kernel
theorem d_O_command_36 : decode prog_9_method_18_code 36 = .ok (.aload_n 0, 1) := by decide +kernel
theorem d_O_command_37 : decode prog_9_method_18_code 37 = .ok (.invokevirtual 109, 3) := by decide +kernel
theorem d_O_command_40 : decode prog_9_method_18_code 40 = .ok (.ifCond .ne 5, 3) := by decide +kernel
theorem d_O_command_43 : decode prog_9_method_18_code 43 = .ok (.iconst 0, 1) := by decide +kernel
theorem d_O_command_44 : decode prog_9_method_18_code 44 = .ok (.ireturn, 1) := by decide +kernel
theorem d_O_command_45 : decode prog_9_method_18_code 45 = .ok (.iload_n 2, 1) := by decide +kernel
theorem d_O_command_46 : decode prog_9_method_18_code 46 = .ok (.ifCond .eq 10, 3) := by decide +kernel
theorem d_O_command_49 : decode prog_9_method_18_code 49 = .ok (.aload_n 0, 1) := by decide +kernel
theorem d_O_command_50 : decode prog_9_method_18_code 50 = .ok (.getfield 100, 3) := by decide +kernel
theorem d_O_command_53 : decode prog_9_method_18_code 53 = .ok (.goto 7, 3) := by decide +kernel
theorem d_O_command_56 : decode prog_9_method_18_code 56 = .ok (.aload_n 0, 1) := by decide +kernel
theorem d_O_command_57 : decode prog_9_method_18_code 57 = .ok (.getfield 103, 3) := by decide +kernel
theorem d_O_command_60 : decode prog_9_method_18_code 60 = .ok (.istore_n 3, 1) := by decide +kernel
theorem d_O_command_61 : decode prog_9_method_18_code 61 = .ok (.iload_n 1, 1) := by decide +kernel
theorem d_O_command_62 : decode prog_9_method_18_code 62 = .ok (.ifCond .eq 36, 3) := by decide +kernel
theorem d_O_command_65 : decode prog_9_method_18_code 65 = .ok (.aload_n 0, 1) := by decide +kernel
theorem d_O_command_66 : decode prog_9_method_18_code 66 = .ok (.getfield 113, 3) := by decide +kernel
theorem d_O_command_69 : decode prog_9_method_18_code 69 = .ok (.iload_n 1, 1) := by decide +kernel
theorem d_O_command_70 : decode prog_9_method_18_code 70 = .ok (.iadd, 1) := by decide +kernel
theorem d_O_command_71 : decode prog_9_method_18_code 71 = .ok (.sipush 256, 3) := by decide +kernel
theorem d_O_command_74 : decode prog_9_method_18_code 74 = .ok (.if_icmp .gt 24, 3) := by decide +kernel
theorem d_O_command_77 : decode prog_9_method_18_code 77 = .ok (.iload_n 3, 1) := by decide +kernel
theorem d_O_command_78 : decode prog_9_method_18_code 78 = .ok (.iload_n 1, 1) := by decide +kernel
theorem d_O_command_79 : decode prog_9_method_18_code 79 = .ok (.iadd, 1) := by decide +kernel
theorem d_O_command_80 : decode prog_9_method_18_code 80 = .ok (.iload_n 2, 1) := by decide +kernel
theorem d_O_command_81 : decode prog_9_method_18_code 81 = .ok (.ifCond .eq 10, 3) := by decide +kernel
theorem d_O_command_84 : decode prog_9_method_18_code 84 = .ok (.aload_n 0, 1) := by decide +kernel
theorem d_O_command_85 : decode prog_9_method_18_code 85 = .ok (.getfield 116, 3) := by decide +kernel
theorem d_O_command_88 : decode prog_9_method_18_code 88 = .ok (.goto 7, 3) := by decide +kernel
theorem d_O_command_91 : decode prog_9_method_18_code 91 = .ok (.aload_n 0, 1) := by decide +kernel
theorem d_O_command_92 : decode prog_9_method_18_code 92 = .ok (.getfield 106, 3) := by decide +kernel
theorem d_O_command_95 : decode prog_9_method_18_code 95 = .ok (.if_icmp .le 5, 3) := by decide +kernel
theorem d_O_command_98 : decode prog_9_method_18_code 98 = .ok (.iconst 0, 1) := by decide +kernel
theorem d_O_command_99 : decode prog_9_method_18_code 99 = .ok (.ireturn, 1) := by decide +kernel
theorem d_O_command_100 : decode prog_9_method_18_code 100 = .ok (.iconst 0, 1) := by decide +kernel
theorem d_O_command_101 : decode prog_9_method_18_code 101 = .ok (.istore 4, 2) := by decide +kernel
theorem d_O_command_103 : decode prog_9_method_18_code 103 = .ok (.iload 4, 2) := by decide +kernel
theorem d_O_command_105 : decode prog_9_method_18_code 105 = .ok (.iload_n 1, 1) := by decide +kernel
theorem d_O_command_106 : decode prog_9_method_18_code 106 = .ok (.if_icmp .ge 53, 3) := by decide +kernel
theorem d_O_command_109 : decode prog_9_method_18_code 109 = .ok (.aload_n 0, 1) := by decide +kernel
theorem d_O_command_110 : decode prog_9_method_18_code 110 = .ok (.getfield 41, 3) := by decide +kernel
theorem d_O_command_113 : decode prog_9_method_18_code 113 = .ok (.aload_n 0, 1) := by decide +kernel
theorem d_O_command_114 : decode prog_9_method_18_code 114 = .ok (.getfield 113, 3) := by decide +kernel
theorem d_O_command_117 : decode prog_9_method_18_code 117 = .ok (.iload_n 2, 1) := by decide +kernel
theorem d_O_command_118 : decode prog_9_method_18_code 118 = .ok (.ifCond .eq 15, 3) := by decide +kernel
theorem d_O_command_121 : decode prog_9_method_18_code 121 = .ok (.aload_n 0, 1) := by decide +kernel
theorem d_O_command_122 : decode prog_9_method_18_code 122 = .ok (.getfield 44, 3) := by decide +kernel
theorem d_O_command_125 : decode prog_9_method_18_code 125 = .ok (.iload_n 3, 1) := by decide +kernel
theorem d_O_command_126 : decode prog_9_method_18_code 126 = .ok (.iload 4, 2) := by decide +kernel
theorem d_O_command_128 : decode prog_9_method_18_code 128 = .ok (.iadd, 1) := by decide +kernel
theorem d_O_command_129 : decode prog_9_method_18_code 129 = .ok (.baload, 1) := by decide +kernel
theorem d_O_command_130 : decode prog_9_method_18_code 130 = .ok (.goto 12, 3) := by decide +kernel
theorem d_O_command_133 : decode prog_9_method_18_code 133 = .ok (.aload_n 0, 1) := by decide +kernel
theorem d_O_command_134 : decode prog_9_method_18_code 134 = .ok (.getfield 38, 3) := by decide +kernel
theorem d_O_command_137 : decode prog_9_method_18_code 137 = .ok (.iload_n 3, 1) := by decide +kernel
theorem d_O_command_138 : decode prog_9_method_18_code 138 = .ok (.iload 4, 2) := by decide +kernel
theorem d_O_command_140 : decode prog_9_method_18_code 140 = .ok (.iadd, 1) := by decide +kernel
theorem d_O_command_141 : decode prog_9_method_18_code 141 = .ok (.baload, 1) := by decide +kernel
theorem d_O_command_142 : decode prog_9_method_18_code 142 = .ok (.bastore, 1) := by decide +kernel
theorem d_O_command_143 : decode prog_9_method_18_code 143 = .ok (.aload_n 0, 1) := by decide +kernel
theorem d_O_command_144 : decode prog_9_method_18_code 144 = .ok (.dup, 1) := by decide +kernel
theorem d_O_command_145 : decode prog_9_method_18_code 145 = .ok (.getfield 113, 3) := by decide +kernel
theorem d_O_command_148 : decode prog_9_method_18_code 148 = .ok (.iconst 1, 1) := by decide +kernel
theorem d_O_command_149 : decode prog_9_method_18_code 149 = .ok (.iadd, 1) := by decide +kernel
theorem d_O_command_150 : decode prog_9_method_18_code 150 = .ok (.putfield 113, 3) := by decide +kernel
theorem d_O_command_153 : decode prog_9_method_18_code 153 = .ok (.iinc 4 1, 3) := by decide +kernel
theorem d_O_command_156 : decode prog_9_method_18_code 156 = .ok (.goto (-53), 3) := by decide +kernel
theorem d_O_command_159 : decode prog_9_method_18_code 159 = .ok (.aload_n 0, 1) := by decide +kernel
theorem d_O_command_160 : decode prog_9_method_18_code 160 = .ok (.iload_n 2, 1) := by decide +kernel
theorem d_O_command_161 : decode prog_9_method_18_code 161 = .ok (.ifCond .eq 10, 3) := by decide +kernel
theorem d_O_command_164 : decode prog_9_method_18_code 164 = .ok (.aload_n 0, 1) := by decide +kernel
theorem d_O_command_165 : decode prog_9_method_18_code 165 = .ok (.getfield 103, 3) := by decide +kernel
theorem d_O_command_168 : decode prog_9_method_18_code 168 = .ok (.goto 9, 3) := by decide +kernel
theorem d_O_command_171 : decode prog_9_method_18_code 171 = .ok (.aload_n 0, 1) := by decide +kernel
theorem d_O_command_172 : decode prog_9_method_18_code 172 = .ok (.getfield 103, 3) := by decide +kernel
theorem d_O_command_175 : decode prog_9_method_18_code 175 = .ok (.iload_n 1, 1) := by decide +kernel
theorem d_O_command_176 : decode prog_9_method_18_code 176 = .ok (.iadd, 1) := by decide +kernel
theorem d_O_command_177 : decode prog_9_method_18_code 177 = .ok (.putfield 103, 3) := by decide +kernel
theorem d_O_command_180 : decode prog_9_method_18_code 180 = .ok (.iconst 1, 1) := by decide +kernel
theorem d_O_command_181 : decode prog_9_method_18_code 181 = .ok (.ireturn, 1) := by decide +kernel
theorem d_O_begins_0 : decode prog_9_method_10_code 0 = .ok (.iconst 0, 1) := by decide +kernel
theorem d_O_begins_1 : decode prog_9_method_10_code 1 = .ok (.istore_n 2, 1) := by decide +kernel
theorem d_O_begins_2 : decode prog_9_method_10_code 2 = .ok (.iconst 0, 1) := by decide +kernel
theorem d_O_begins_3 : decode prog_9_method_10_code 3 = .ok (.istore_n 3, 1) := by decide +kernel
theorem d_O_begins_4 : decode prog_9_method_10_code 4 = .ok (.iload_n 3, 1) := by decide +kernel
theorem d_O_begins_5 : decode prog_9_method_10_code 5 = .ok (.iload_n 1, 1) := by decide +kernel
theorem d_O_begins_6 : decode prog_9_method_10_code 6 = .ok (.if_icmp .ge 31, 3) := by decide +kernel
theorem d_O_begins_9 : decode prog_9_method_10_code 9 = .ok (.iload_n 2, 1) := by decide +kernel
theorem d_O_begins_10 : decode prog_9_method_10_code 10 = .ok (.aload_n 0, 1) := by decide +kernel
theorem d_O_begins_11 : decode prog_9_method_10_code 11 = .ok (.getfield 28, 3) := by decide +kernel
theorem d_O_begins_14 : decode prog_9_method_10_code 14 = .ok (.iload_n 3, 1) := by decide +kernel
theorem d_O_begins_15 : decode prog_9_method_10_code 15 = .ok (.saload, 1) := by decide +kernel
theorem d_O_begins_16 : decode prog_9_method_10_code 16 = .ok (.ifCond .le 12, 3) := by decide +kernel
theorem d_O_begins_19 : decode prog_9_method_10_code 19 = .ok (.aload_n 0, 1) := by decide +kernel
theorem d_O_begins_20 : decode prog_9_method_10_code 20 = .ok (.getfield 28, 3) := by decide +kernel
theorem d_O_begins_23 : decode prog_9_method_10_code 23 = .ok (.iload_n 3, 1) := by decide +kernel
theorem d_O_begins_24 : decode prog_9_method_10_code 24 = .ok (.saload, 1) := by decide +kernel
theorem d_O_begins_25 : decode prog_9_method_10_code 25 = .ok (.goto 4, 3) := by decide +kernel
theorem d_O_begins_28 : decode prog_9_method_10_code 28 = .ok (.iconst 0, 1) := by decide +kernel
theorem d_O_begins_29 : decode prog_9_method_10_code 29 = .ok (.iadd, 1) := by decide +kernel
theorem d_O_begins_30 : decode prog_9_method_10_code 30 = .ok (.istore_n 2, 1) := by decide +kernel
theorem d_O_begins_31 : decode prog_9_method_10_code 31 = .ok (.iinc 3 1, 3) := by decide +kernel
theorem d_O_begins_34 : decode prog_9_method_10_code 34 = .ok (.goto (-30), 3) := by decide +kernel
theorem d_O_begins_37 : decode prog_9_method_10_code 37 = .ok (.iload_n 2, 1) := by decide +kernel
theorem d_O_begins_38 : decode prog_9_method_10_code 38 = .ok (.ireturn, 1) := by decide +kernel
theorem d_O_sum_0 : decode prog_9_method_26_code 0 = .ok (.iconst 0, 1) := by decide +kernel
theorem d_O_sum_1 : decode prog_9_method_26_code 1 = .ok (.istore_n 3, 1) := by decide +kernel
theorem d_O_sum_2 : decode prog_9_method_26_code 2 = .ok (.iconst 0, 1) := by decide +kernel
theorem d_O_sum_3 : decode prog_9_method_26_code 3 = .ok (.istore 4, 2) := by decide +kernel
theorem d_O_sum_5 : decode prog_9_method_26_code 5 = .ok (.iload 4, 2) := by decide +kernel
theorem d_O_sum_7 : decode prog_9_method_26_code 7 = .ok (.iload_n 2, 1) := by decide +kernel
theorem d_O_sum_8 : decode prog_9_method_26_code 8 = .ok (.if_icmp .ge 25, 3) := by decide +kernel
theorem d_O_sum_11 : decode prog_9_method_26_code 11 = .ok (.iload_n 3, 1) := by decide +kernel
theorem d_O_sum_12 : decode prog_9_method_26_code 12 = .ok (.bipush 31, 2) := by decide +kernel
theorem d_O_sum_14 : decode prog_9_method_26_code 14 = .ok (.imul, 1) := by decide +kernel
theorem d_O_sum_15 : decode prog_9_method_26_code 15 = .ok (.aload_n 1, 1) := by decide +kernel
theorem d_O_sum_16 : decode prog_9_method_26_code 16 = .ok (.iload 4, 2) := by decide +kernel
theorem d_O_sum_18 : decode prog_9_method_26_code 18 = .ok (.baload, 1) := by decide +kernel
theorem d_O_sum_19 : decode prog_9_method_26_code 19 = .ok (.sipush 255, 3) := by decide +kernel
theorem d_O_sum_22 : decode prog_9_method_26_code 22 = .ok (.iand, 1) := by decide +kernel
theorem d_O_sum_23 : decode prog_9_method_26_code 23 = .ok (.iadd, 1) := by decide +kernel
theorem d_O_sum_24 : decode prog_9_method_26_code 24 = .ok (.iconst 1, 1) := by decide +kernel
theorem d_O_sum_25 : decode prog_9_method_26_code 25 = .ok (.iadd, 1) := by decide +kernel
theorem d_O_sum_26 : decode prog_9_method_26_code 26 = .ok (.istore_n 3, 1) := by decide +kernel
theorem d_O_sum_27 : decode prog_9_method_26_code 27 = .ok (.iinc 4 1, 3) := by decide +kernel
theorem d_O_sum_30 : decode prog_9_method_26_code 30 = .ok (.goto (-25), 3) := by decide +kernel
theorem d_O_sum_33 : decode prog_9_method_26_code 33 = .ok (.iload_n 3, 1) := by decide +kernel
theorem d_O_sum_34 : decode prog_9_method_26_code 34 = .ok (.ireturn, 1) := by decide +kernel
theorem d_O_makes_67 : decode prog_9_method_19_code 67 = .ok (.aload_n 0, 1) := by decide +kernel
theorem d_O_makes_68 : decode prog_9_method_19_code 68 = .ok (.getfield 103, 3) := by decide +kernel
theorem d_O_makes_71 : decode prog_9_method_19_code 71 = .ok (.aload_n 0, 1) := by decide +kernel
theorem d_O_makes_72 : decode prog_9_method_19_code 72 = .ok (.getfield 106, 3) := by decide +kernel
theorem d_O_makes_75 : decode prog_9_method_19_code 75 = .ok (.if_icmp .ge 12, 3) := by decide +kernel
theorem d_O_makes_78 : decode prog_9_method_19_code 78 = .ok (.aload_n 0, 1) := by decide +kernel
theorem d_O_makes_79 : decode prog_9_method_19_code 79 = .ok (.invokevirtual 119, 3) := by decide +kernel
theorem d_O_makes_82 : decode prog_9_method_19_code 82 = .ok (.ifCond .ne (-15), 3) := by decide +kernel
theorem d_M_makeNext_60 : decode prog_3_method_4_code 60 = .ok (.iload 6, 2) := by decide +kernel
theorem d_M_makeNext_62 : decode prog_3_method_4_code 62 = .ok (.aload_n 0, 1) := by decide +kernel
theorem d_M_makeNext_63 : decode prog_3_method_4_code 63 = .ok (.getfield 21, 3) := by decide +kernel
theorem d_M_makeNext_66 : decode prog_3_method_4_code 66 = .ok (.arraylength, 1) := by decide +kernel
theorem d_M_makeNext_67 : decode prog_3_method_4_code 67 = .ok (.if_icmp .ge 32, 3) := by decide +kernel
theorem d_M_makeNext_70 : decode prog_3_method_4_code 70 = .ok (.aload_n 0, 1) := by decide +kernel
theorem d_M_makeNext_71 : decode prog_3_method_4_code 71 = .ok (.getfield 25, 3) := by decide +kernel
theorem d_M_makeNext_74 : decode prog_3_method_4_code 74 = .ok (.aload_n 0, 1) := by decide +kernel
theorem d_M_makeNext_75 : decode prog_3_method_4_code 75 = .ok (.getfield 21, 3) := by decide +kernel
theorem d_M_makeNext_78 : decode prog_3_method_4_code 78 = .ok (.arraylength, 1) := by decide +kernel
theorem d_M_makeNext_79 : decode prog_3_method_4_code 79 = .ok (.if_icmp .ge 20, 3) := by decide +kernel
theorem d_M_makeNext_82 : decode prog_3_method_4_code 82 = .ok (.iload 5, 2) := by decide +kernel
theorem d_M_makeNext_84 : decode prog_3_method_4_code 84 = .ok (.ifCond .eq 15, 3) := by decide +kernel
theorem d_M_makeNext_87 : decode prog_3_method_4_code 87 = .ok (.aload_n 0, 1) := by decide +kernel
theorem d_M_makeNext_88 : decode prog_3_method_4_code 88 = .ok (.invokevirtual 54, 3) := by decide +kernel
theorem d_M_makeNext_91 : decode prog_3_method_4_code 91 = .ok (.istore 5, 2) := by decide +kernel
theorem d_M_makeNext_93 : decode prog_3_method_4_code 93 = .ok (.iinc 6 1, 3) := by decide +kernel
theorem d_M_makeNext_96 : decode prog_3_method_4_code 96 = .ok (.goto (-36), 3) := by decide +kernel
