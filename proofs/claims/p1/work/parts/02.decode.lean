theorem d_P_init_0 : decode prog_5_method_1_code 0 = .ok (.aload_n 0, 1) := by decide +kernel
theorem d_P_init_1 : decode prog_5_method_1_code 1 = .ok (.invokespecial 1, 3) := by decide +kernel
theorem d_P_init_4 : decode prog_5_method_1_code 4 = .ok (.aload_n 0, 1) := by decide +kernel
theorem d_P_init_5 : decode prog_5_method_1_code 5 = .ok (.iconst 0, 1) := by decide +kernel
theorem d_P_init_6 : decode prog_5_method_1_code 6 = .ok (.putfield 7, 3) := by decide +kernel
theorem d_P_init_9 : decode prog_5_method_1_code 9 = .ok (.aload_n 0, 1) := by decide +kernel
theorem d_P_init_10 : decode prog_5_method_1_code 10 = .ok (.iconst 0, 1) := by decide +kernel
theorem d_P_init_11 : decode prog_5_method_1_code 11 = .ok (.putfield 13, 3) := by decide +kernel
theorem d_P_init_14 : decode prog_5_method_1_code 14 = .ok (.aload_n 0, 1) := by decide +kernel
theorem d_P_init_15 : decode prog_5_method_1_code 15 = .ok (.iconst 0, 1) := by decide +kernel
theorem d_P_init_16 : decode prog_5_method_1_code 16 = .ok (.putfield 16, 3) := by decide +kernel
theorem d_P_init_19 : decode prog_5_method_1_code 19 = .ok (.return_, 1) := by decide +kernel
theorem d_T_init_0 : decode prog_7_method_1_code 0 = .ok (.aload_n 0, 1) := by decide +kernel
theorem d_T_init_1 : decode prog_7_method_1_code 1 = .ok (.invokespecial 3, 3) := by decide +kernel
theorem d_T_init_4 : decode prog_7_method_1_code 4 = .ok (.aload_n 0, 1) := by decide +kernel
theorem d_T_init_5 : decode prog_7_method_1_code 5 = .ok (.sipush 256, 3) := by decide +kernel
theorem d_T_init_8 : decode prog_7_method_1_code 8 = .ok (.newarray .byte, 2) := by decide +kernel
theorem d_T_init_10 : decode prog_7_method_1_code 10 = .ok (.putfield 9, 3) := by decide +kernel
theorem d_T_init_13 : decode prog_7_method_1_code 13 = .ok (.aload_n 0, 1) := by decide +kernel
theorem d_T_init_14 : decode prog_7_method_1_code 14 = .ok (.iconst 0, 1) := by decide +kernel
theorem d_T_init_15 : decode prog_7_method_1_code 15 = .ok (.putfield 15, 3) := by decide +kernel
theorem d_T_init_18 : decode prog_7_method_1_code 18 = .ok (.return_, 1) := by decide +kernel
theorem d_W_init_0 : decode prog_4_method_1_code 0 = .ok (.aload_n 0, 1) := by decide +kernel
theorem d_W_init_1 : decode prog_4_method_1_code 1 = .ok (.invokespecial 3, 3) := by decide +kernel
theorem d_W_init_4 : decode prog_4_method_1_code 4 = .ok (.aload_n 0, 1) := by decide +kernel
theorem d_W_init_5 : decode prog_4_method_1_code 5 = .ok (.sipush 512, 3) := by decide +kernel
theorem d_W_init_8 : decode prog_4_method_1_code 8 = .ok (.newarray .byte, 2) := by decide +kernel
theorem d_W_init_10 : decode prog_4_method_1_code 10 = .ok (.putfield 9, 3) := by decide +kernel
theorem d_W_init_13 : decode prog_4_method_1_code 13 = .ok (.aload_n 0, 1) := by decide +kernel
theorem d_W_init_14 : decode prog_4_method_1_code 14 = .ok (.iconst 0, 1) := by decide +kernel
theorem d_W_init_15 : decode prog_4_method_1_code 15 = .ok (.putfield 15, 3) := by decide +kernel
theorem d_W_init_18 : decode prog_4_method_1_code 18 = .ok (.return_, 1) := by decide +kernel
theorem d_M_init_0 : decode prog_3_method_1_code 0 = .ok (.aload_n 0, 1) := by decide +kernel
theorem d_M_init_1 : decode prog_3_method_1_code 1 = .ok (.invokespecial 3, 3) := by decide +kernel
theorem d_M_init_4 : decode prog_3_method_1_code 4 = .ok (.aload_n 0, 1) := by decide +kernel
theorem d_M_init_5 : decode prog_3_method_1_code 5 = .ok (.new 9, 3) := by decide +kernel
theorem d_M_init_8 : decode prog_3_method_1_code 8 = .ok (.dup, 1) := by decide +kernel
theorem d_M_init_9 : decode prog_3_method_1_code 9 = .ok (.invokespecial 11, 3) := by decide +kernel
theorem d_M_init_12 : decode prog_3_method_1_code 12 = .ok (.putfield 12, 3) := by decide +kernel
theorem d_M_init_15 : decode prog_3_method_1_code 15 = .ok (.aload_n 0, 1) := by decide +kernel
theorem d_M_init_16 : decode prog_3_method_1_code 16 = .ok (.new 9, 3) := by decide +kernel
theorem d_M_init_19 : decode prog_3_method_1_code 19 = .ok (.dup, 1) := by decide +kernel
theorem d_M_init_20 : decode prog_3_method_1_code 20 = .ok (.invokespecial 11, 3) := by decide +kernel
theorem d_M_init_23 : decode prog_3_method_1_code 23 = .ok (.putfield 18, 3) := by decide +kernel
theorem d_M_init_26 : decode prog_3_method_1_code 26 = .ok (.aload_n 0, 1) := by decide +kernel
theorem d_M_init_27 : decode prog_3_method_1_code 27 = .ok (.iconst 0, 1) := by decide +kernel
theorem d_M_init_28 : decode prog_3_method_1_code 28 = .ok (.newarray .byte, 2) := by decide +kernel
theorem d_M_init_30 : decode prog_3_method_1_code 30 = .ok (.putfield 21, 3) := by decide +kernel
theorem d_M_init_33 : decode prog_3_method_1_code 33 = .ok (.aload_n 0, 1) := by decide +kernel
theorem d_M_init_34 : decode prog_3_method_1_code 34 = .ok (.iconst 0, 1) := by decide +kernel
theorem d_M_init_35 : decode prog_3_method_1_code 35 = .ok (.putfield 25, 3) := by decide +kernel
theorem d_M_init_38 : decode prog_3_method_1_code 38 = .ok (.return_, 1) := by decide +kernel
theorem d_K_init_0 : decode prog_1_method_1_code 0 = .ok (.aload_n 0, 1) := by decide +kernel
theorem d_K_init_1 : decode prog_1_method_1_code 1 = .ok (.invokespecial 1, 3) := by decide +kernel
theorem d_K_init_4 : decode prog_1_method_1_code 4 = .ok (.aload_n 0, 1) := by decide +kernel
theorem d_K_init_5 : decode prog_1_method_1_code 5 = .ok (.bipush 8, 2) := by decide +kernel
theorem d_K_init_7 : decode prog_1_method_1_code 7 = .ok (.anewarray 9, 3) := by decide +kernel
theorem d_K_init_10 : decode prog_1_method_1_code 10 = .ok (.putfield 11, 3) := by decide +kernel
theorem d_K_init_13 : decode prog_1_method_1_code 13 = .ok (.aload_n 0, 1) := by decide +kernel
theorem d_K_init_14 : decode prog_1_method_1_code 14 = .ok (.new 15, 3) := by decide +kernel
theorem d_K_init_17 : decode prog_1_method_1_code 17 = .ok (.dup, 1) := by decide +kernel
theorem d_K_init_18 : decode prog_1_method_1_code 18 = .ok (.invokespecial 17, 3) := by decide +kernel
theorem d_K_init_21 : decode prog_1_method_1_code 21 = .ok (.putfield 18, 3) := by decide +kernel
theorem d_K_init_24 : decode prog_1_method_1_code 24 = .ok (.aload_n 0, 1) := by decide +kernel
theorem d_K_init_25 : decode prog_1_method_1_code 25 = .ok (.new 15, 3) := by decide +kernel
theorem d_K_init_28 : decode prog_1_method_1_code 28 = .ok (.dup, 1) := by decide +kernel
theorem d_K_init_29 : decode prog_1_method_1_code 29 = .ok (.invokespecial 17, 3) := by decide +kernel
theorem d_K_init_32 : decode prog_1_method_1_code 32 = .ok (.putfield 22, 3) := by decide +kernel
theorem d_K_init_35 : decode prog_1_method_1_code 35 = .ok (.aload_n 0, 1) := by decide +kernel
theorem d_K_init_36 : decode prog_1_method_1_code 36 = .ok (.new 15, 3) := by decide +kernel
theorem d_K_init_39 : decode prog_1_method_1_code 39 = .ok (.dup, 1) := by decide +kernel
theorem d_K_init_40 : decode prog_1_method_1_code 40 = .ok (.invokespecial 17, 3) := by decide +kernel
theorem d_K_init_43 : decode prog_1_method_1_code 43 = .ok (.putfield 25, 3) := by decide +kernel
theorem d_K_init_46 : decode prog_1_method_1_code 46 = .ok (.aload_n 0, 1) := by decide +kernel
theorem d_K_init_47 : decode prog_1_method_1_code 47 = .ok (.new 28, 3) := by decide +kernel
theorem d_K_init_50 : decode prog_1_method_1_code 50 = .ok (.dup, 1) := by decide +kernel
theorem d_K_init_51 : decode prog_1_method_1_code 51 = .ok (.invokespecial 30, 3) := by decide +kernel
theorem d_K_init_54 : decode prog_1_method_1_code 54 = .ok (.putfield 31, 3) := by decide +kernel
theorem d_K_init_57 : decode prog_1_method_1_code 57 = .ok (.aload_n 0, 1) := by decide +kernel
theorem d_K_init_58 : decode prog_1_method_1_code 58 = .ok (.new 35, 3) := by decide +kernel
theorem d_K_init_61 : decode prog_1_method_1_code 61 = .ok (.dup, 1) := by decide +kernel
theorem d_K_init_62 : decode prog_1_method_1_code 62 = .ok (.invokespecial 37, 3) := by decide +kernel
theorem d_K_init_65 : decode prog_1_method_1_code 65 = .ok (.putfield 38, 3) := by decide +kernel
theorem d_K_init_68 : decode prog_1_method_1_code 68 = .ok (.aload_n 0, 1) := by decide +kernel
theorem d_K_init_69 : decode prog_1_method_1_code 69 = .ok (.new 42, 3) := by decide +kernel
theorem d_K_init_72 : decode prog_1_method_1_code 72 = .ok (.dup, 1) := by decide +kernel
theorem d_K_init_73 : decode prog_1_method_1_code 73 = .ok (.invokespecial 44, 3) := by decide +kernel
theorem d_K_init_76 : decode prog_1_method_1_code 76 = .ok (.putfield 45, 3) := by decide +kernel
theorem d_K_init_79 : decode prog_1_method_1_code 79 = .ok (.aload_n 0, 1) := by decide +kernel
theorem d_K_init_80 : decode prog_1_method_1_code 80 = .ok (.iconst 0, 1) := by decide +kernel
theorem d_K_init_81 : decode prog_1_method_1_code 81 = .ok (.putfield 49, 3) := by decide +kernel
theorem d_K_init_84 : decode prog_1_method_1_code 84 = .ok (.aload_n 0, 1) := by decide +kernel
theorem d_K_init_85 : decode prog_1_method_1_code 85 = .ok (.iconst (-1), 1) := by decide +kernel
theorem d_K_init_86 : decode prog_1_method_1_code 86 = .ok (.putfield 53, 3) := by decide +kernel
theorem d_K_init_89 : decode prog_1_method_1_code 89 = .ok (.return_, 1) := by decide +kernel
theorem d_K_needPower_0 : decode prog_1_method_21_code 0 = .ok (.aload_n 0, 1) := by decide +kernel
theorem d_K_needPower_1 : decode prog_1_method_21_code 1 = .ok (.getfield 45, 3) := by decide +kernel
theorem d_K_needPower_4 : decode prog_1_method_21_code 4 = .ok (.getfield 180, 3) := by decide +kernel
theorem d_K_needPower_7 : decode prog_1_method_21_code 7 = .ok (.ifCond .eq 11, 3) := by decide +kernel
theorem d_K_needPower_18 : decode prog_1_method_21_code 18 = .ok (.return_, 1) := by decide +kernel
theorem d_K_documentAt_0 : decode prog_1_method_23_code 0 = .ok (.iload_n 1, 1) := by decide +kernel
theorem d_K_documentAt_1 : decode prog_1_method_23_code 1 = .ok (.ifCond .lt 18, 3) := by decide +kernel
theorem d_K_documentAt_4 : decode prog_1_method_23_code 4 = .ok (.iload_n 1, 1) := by decide +kernel
theorem d_K_documentAt_5 : decode prog_1_method_23_code 5 = .ok (.bipush 8, 2) := by decide +kernel
theorem d_K_documentAt_7 : decode prog_1_method_23_code 7 = .ok (.if_icmp .ge 12, 3) := by decide +kernel
theorem d_K_documentAt_10 : decode prog_1_method_23_code 10 = .ok (.aload_n 0, 1) := by decide +kernel
theorem d_K_documentAt_11 : decode prog_1_method_23_code 11 = .ok (.getfield 11, 3) := by decide +kernel
theorem d_K_documentAt_14 : decode prog_1_method_23_code 14 = .ok (.iload_n 1, 1) := by decide +kernel
theorem d_K_documentAt_15 : decode prog_1_method_23_code 15 = .ok (.aaload, 1) := by decide +kernel
theorem d_K_documentAt_16 : decode prog_1_method_23_code 16 = .ok (.goto 4, 3) := by decide +kernel
theorem d_K_documentAt_19 : decode prog_1_method_23_code 19 = .ok (.aconst_null, 1) := by decide +kernel
theorem d_K_documentAt_20 : decode prog_1_method_23_code 20 = .ok (.areturn, 1) := by decide +kernel
theorem d_K_keptRevision_0 : decode prog_1_method_24_code 0 = .ok (.aload_n 0, 1) := by decide +kernel
theorem d_K_keptRevision_1 : decode prog_1_method_24_code 1 = .ok (.iload_n 1, 1) := by decide +kernel
theorem d_K_keptRevision_2 : decode prog_1_method_24_code 2 = .ok (.invokevirtual 74, 3) := by decide +kernel
theorem d_K_keptRevision_5 : decode prog_1_method_24_code 5 = .ok (.astore_n 3, 1) := by decide +kernel
theorem d_K_keptRevision_6 : decode prog_1_method_24_code 6 = .ok (.aload_n 3, 1) := by decide +kernel
theorem d_K_keptRevision_7 : decode prog_1_method_24_code 7 = .ok (.ifnonnull 7, 3) := by decide +kernel
theorem d_K_keptRevision_10 : decode prog_1_method_24_code 10 = .ok (.aconst_null, 1) := by decide +kernel
theorem d_K_keptRevision_11 : decode prog_1_method_24_code 11 = .ok (.goto 8, 3) := by decide +kernel
theorem d_K_keptRevision_19 : decode prog_1_method_24_code 19 = .ok (.areturn, 1) := by decide +kernel
theorem d_K_commit_0 : decode prog_1_method_5_code 0 = .ok (.aload_n 0, 1) := by decide +kernel
theorem d_K_commit_1 : decode prog_1_method_5_code 1 = .ok (.invokevirtual 56, 3) := by decide +kernel
theorem d_K_commit_4 : decode prog_1_method_5_code 4 = .ok (.aload_n 0, 1) := by decide +kernel
theorem d_K_commit_5 : decode prog_1_method_5_code 5 = .ok (.iload_n 1, 1) := by decide +kernel
theorem d_K_commit_6 : decode prog_1_method_5_code 6 = .ok (.invokevirtual 74, 3) := by decide +kernel
theorem d_K_commit_9 : decode prog_1_method_5_code 9 = .ok (.astore_n 3, 1) := by decide +kernel
theorem d_K_commit_10 : decode prog_1_method_5_code 10 = .ok (.aload_n 3, 1) := by decide +kernel
theorem d_K_commit_11 : decode prog_1_method_5_code 11 = .ok (.ifnull 10, 3) := by decide +kernel
theorem d_K_commit_21 : decode prog_1_method_5_code 21 = .ok (.iconst (-1), 1) := by decide +kernel
theorem d_K_commit_22 : decode prog_1_method_5_code 22 = .ok (.ireturn, 1) := by decide +kernel
theorem d_K_fetch_0 : decode prog_1_method_6_code 0 = .ok (.aload_n 0, 1) := by decide +kernel
theorem d_K_fetch_1 : decode prog_1_method_6_code 1 = .ok (.invokevirtual 56, 3) := by decide +kernel
theorem d_K_fetch_4 : decode prog_1_method_6_code 4 = .ok (.aload_n 0, 1) := by decide +kernel
theorem d_K_fetch_5 : decode prog_1_method_6_code 5 = .ok (.iload_n 1, 1) := by decide +kernel
theorem d_K_fetch_6 : decode prog_1_method_6_code 6 = .ok (.invokevirtual 74, 3) := by decide +kernel
theorem d_K_fetch_9 : decode prog_1_method_6_code 9 = .ok (.astore_n 3, 1) := by decide +kernel
theorem d_K_fetch_10 : decode prog_1_method_6_code 10 = .ok (.aload_n 3, 1) := by decide +kernel
theorem d_K_fetch_11 : decode prog_1_method_6_code 11 = .ok (.ifnull 11, 3) := by decide +kernel
theorem d_K_fetch_22 : decode prog_1_method_6_code 22 = .ok (.iconst (-1), 1) := by decide +kernel
theorem d_K_fetch_23 : decode prog_1_method_6_code 23 = .ok (.ireturn, 1) := by decide +kernel
theorem d_K_trim_0 : decode prog_1_method_9_code 0 = .ok (.aload_n 0, 1) := by decide +kernel
theorem d_K_trim_1 : decode prog_1_method_9_code 1 = .ok (.invokevirtual 56, 3) := by decide +kernel
theorem d_K_trim_4 : decode prog_1_method_9_code 4 = .ok (.aload_n 0, 1) := by decide +kernel
theorem d_K_trim_5 : decode prog_1_method_9_code 5 = .ok (.iload_n 1, 1) := by decide +kernel
theorem d_K_trim_6 : decode prog_1_method_9_code 6 = .ok (.invokevirtual 74, 3) := by decide +kernel
theorem d_K_trim_9 : decode prog_1_method_9_code 9 = .ok (.astore_n 3, 1) := by decide +kernel
theorem d_K_trim_10 : decode prog_1_method_9_code 10 = .ok (.aload_n 3, 1) := by decide +kernel
theorem d_K_trim_11 : decode prog_1_method_9_code 11 = .ok (.ifnull 11, 3) := by decide +kernel
theorem d_K_trim_22 : decode prog_1_method_9_code 22 = .ok (.iconst 0, 1) := by decide +kernel
theorem d_K_trim_23 : decode prog_1_method_9_code 23 = .ok (.ireturn, 1) := by decide +kernel
theorem d_K_dropDocument_0 : decode prog_1_method_10_code 0 = .ok (.aload_n 0, 1) := by decide +kernel
theorem d_K_dropDocument_1 : decode prog_1_method_10_code 1 = .ok (.invokevirtual 56, 3) := by decide +kernel
theorem d_K_dropDocument_4 : decode prog_1_method_10_code 4 = .ok (.aload_n 0, 1) := by decide +kernel
theorem d_K_dropDocument_5 : decode prog_1_method_10_code 5 = .ok (.iload_n 1, 1) := by decide +kernel
theorem d_K_dropDocument_6 : decode prog_1_method_10_code 6 = .ok (.invokevirtual 74, 3) := by decide +kernel
theorem d_K_dropDocument_9 : decode prog_1_method_10_code 9 = .ok (.ifnonnull 5, 3) := by decide +kernel
theorem d_K_dropDocument_12 : decode prog_1_method_10_code 12 = .ok (.iconst 0, 1) := by decide +kernel
theorem d_K_dropDocument_13 : decode prog_1_method_10_code 13 = .ok (.ireturn, 1) := by decide +kernel
theorem d_K_pieceByte_0 : decode prog_1_method_13_code 0 = .ok (.aload_n 0, 1) := by decide +kernel
theorem d_K_pieceByte_1 : decode prog_1_method_13_code 1 = .ok (.invokevirtual 56, 3) := by decide +kernel
theorem d_K_pieceByte_4 : decode prog_1_method_13_code 4 = .ok (.aload_n 0, 1) := by decide +kernel
theorem d_K_pieceByte_5 : decode prog_1_method_13_code 5 = .ok (.iload_n 1, 1) := by decide +kernel
theorem d_K_pieceByte_6 : decode prog_1_method_13_code 6 = .ok (.iload_n 2, 1) := by decide +kernel
theorem d_K_pieceByte_7 : decode prog_1_method_13_code 7 = .ok (.invokevirtual 149, 3) := by decide +kernel
theorem d_K_pieceByte_10 : decode prog_1_method_13_code 10 = .ok (.astore 4, 2) := by decide +kernel
theorem d_K_pieceByte_12 : decode prog_1_method_13_code 12 = .ok (.aload 4, 2) := by decide +kernel
theorem d_K_pieceByte_14 : decode prog_1_method_13_code 14 = .ok (.ifnull 12, 3) := by decide +kernel
theorem d_K_pieceByte_26 : decode prog_1_method_13_code 26 = .ok (.iconst (-1), 1) := by decide +kernel
theorem d_K_pieceByte_27 : decode prog_1_method_13_code 27 = .ok (.ireturn, 1) := by decide +kernel
theorem d_K_damage_0 : decode prog_1_method_14_code 0 = .ok (.aload_n 0, 1) := by decide +kernel
theorem d_K_damage_1 : decode prog_1_method_14_code 1 = .ok (.invokevirtual 56, 3) := by decide +kernel
theorem d_K_damage_4 : decode prog_1_method_14_code 4 = .ok (.aload_n 0, 1) := by decide +kernel
theorem d_K_damage_5 : decode prog_1_method_14_code 5 = .ok (.iload_n 1, 1) := by decide +kernel
theorem d_K_damage_6 : decode prog_1_method_14_code 6 = .ok (.iload_n 2, 1) := by decide +kernel
theorem d_K_damage_7 : decode prog_1_method_14_code 7 = .ok (.invokevirtual 149, 3) := by decide +kernel
theorem d_K_damage_10 : decode prog_1_method_14_code 10 = .ok (.astore 5, 2) := by decide +kernel
theorem d_K_damage_12 : decode prog_1_method_14_code 12 = .ok (.aload 5, 2) := by decide +kernel
theorem d_K_damage_14 : decode prog_1_method_14_code 14 = .ok (.ifnull 12, 3) := by decide +kernel
theorem d_K_damage_26 : decode prog_1_method_14_code 26 = .ok (.iconst 0, 1) := by decide +kernel
theorem d_K_damage_27 : decode prog_1_method_14_code 27 = .ok (.ireturn, 1) := by decide +kernel
theorem d_K_verify_0 : decode prog_1_method_15_code 0 = .ok (.aload_n 0, 1) := by decide +kernel
theorem d_K_verify_1 : decode prog_1_method_15_code 1 = .ok (.invokevirtual 56, 3) := by decide +kernel
theorem d_K_verify_4 : decode prog_1_method_15_code 4 = .ok (.aload_n 0, 1) := by decide +kernel
theorem d_K_verify_5 : decode prog_1_method_15_code 5 = .ok (.iload_n 1, 1) := by decide +kernel
theorem d_K_verify_6 : decode prog_1_method_15_code 6 = .ok (.invokevirtual 74, 3) := by decide +kernel
theorem d_K_verify_9 : decode prog_1_method_15_code 9 = .ok (.astore_n 2, 1) := by decide +kernel
theorem d_K_verify_10 : decode prog_1_method_15_code 10 = .ok (.aload_n 2, 1) := by decide +kernel
theorem d_K_verify_11 : decode prog_1_method_15_code 11 = .ok (.ifnonnull 5, 3) := by decide +kernel
theorem d_K_verify_14 : decode prog_1_method_15_code 14 = .ok (.iconst (-1), 1) := by decide +kernel
theorem d_K_verify_15 : decode prog_1_method_15_code 15 = .ok (.ireturn, 1) := by decide +kernel
theorem d_K_common_0 : decode prog_1_method_16_code 0 = .ok (.aload_n 0, 1) := by decide +kernel
theorem d_K_common_1 : decode prog_1_method_16_code 1 = .ok (.invokevirtual 56, 3) := by decide +kernel
theorem d_K_common_4 : decode prog_1_method_16_code 4 = .ok (.aload_n 0, 1) := by decide +kernel
theorem d_K_common_5 : decode prog_1_method_16_code 5 = .ok (.iload_n 1, 1) := by decide +kernel
theorem d_K_common_6 : decode prog_1_method_16_code 6 = .ok (.invokevirtual 74, 3) := by decide +kernel
theorem d_K_common_9 : decode prog_1_method_16_code 9 = .ok (.astore 5, 2) := by decide +kernel
theorem d_K_common_11 : decode prog_1_method_16_code 11 = .ok (.aload 5, 2) := by decide +kernel
theorem d_K_common_13 : decode prog_1_method_16_code 13 = .ok (.ifnull 21, 3) := by decide +kernel
theorem d_K_common_34 : decode prog_1_method_16_code 34 = .ok (.iconst (-1), 1) := by decide +kernel
theorem d_K_common_35 : decode prog_1_method_16_code 35 = .ok (.ireturn, 1) := by decide +kernel
theorem d_T_byteAt_0 : decode prog_7_method_2_code 0 = .ok (.iload_n 1, 1) := by decide +kernel
theorem d_T_byteAt_1 : decode prog_7_method_2_code 1 = .ok (.ifCond .lt 24, 3) := by decide +kernel
theorem d_T_byteAt_4 : decode prog_7_method_2_code 4 = .ok (.iload_n 1, 1) := by decide +kernel
theorem d_T_byteAt_5 : decode prog_7_method_2_code 5 = .ok (.aload_n 0, 1) := by decide +kernel
theorem d_T_byteAt_6 : decode prog_7_method_2_code 6 = .ok (.getfield 15, 3) := by decide +kernel
theorem d_T_byteAt_9 : decode prog_7_method_2_code 9 = .ok (.if_icmp .ge 16, 3) := by decide +kernel
theorem d_T_byteAt_25 : decode prog_7_method_2_code 25 = .ok (.iconst (-1), 1) := by decide +kernel
theorem d_T_byteAt_26 : decode prog_7_method_2_code 26 = .ok (.ireturn, 1) := by decide +kernel
theorem d_K_out_0 : decode prog_1_method_7_code 0 = .ok (.aload_n 0, 1) := by decide +kernel
theorem d_K_out_1 : decode prog_1_method_7_code 1 = .ok (.invokevirtual 56, 3) := by decide +kernel
theorem d_K_out_4 : decode prog_1_method_7_code 4 = .ok (.aload_n 0, 1) := by decide +kernel
theorem d_K_out_5 : decode prog_1_method_7_code 5 = .ok (.getfield 22, 3) := by decide +kernel
theorem d_K_out_8 : decode prog_1_method_7_code 8 = .ok (.iload_n 1, 1) := by decide +kernel
theorem d_K_out_9 : decode prog_1_method_7_code 9 = .ok (.invokevirtual 134, 3) := by decide +kernel
theorem d_K_out_12 : decode prog_1_method_7_code 12 = .ok (.ireturn, 1) := by decide +kernel
theorem d_K_steps_0 : decode prog_1_method_8_code 0 = .ok (.aload_n 0, 1) := by decide +kernel
theorem d_K_steps_1 : decode prog_1_method_8_code 1 = .ok (.invokevirtual 56, 3) := by decide +kernel
theorem d_K_steps_4 : decode prog_1_method_8_code 4 = .ok (.aload_n 0, 1) := by decide +kernel
theorem d_K_steps_5 : decode prog_1_method_8_code 5 = .ok (.getfield 53, 3) := by decide +kernel
theorem d_K_steps_8 : decode prog_1_method_8_code 8 = .ok (.ireturn, 1) := by decide +kernel
theorem d_K_countFree_0 : decode prog_1_method_26_code 0 = .ok (.sipush 512, 3) := by decide +kernel
theorem d_K_countFree_3 : decode prog_1_method_26_code 3 = .ok (.istore_n 1, 1) := by decide +kernel
theorem d_K_countFree_4 : decode prog_1_method_26_code 4 = .ok (.aload_n 0, 1) := by decide +kernel
theorem d_K_countFree_5 : decode prog_1_method_26_code 5 = .ok (.getfield 11, 3) := by decide +kernel
theorem d_K_countFree_8 : decode prog_1_method_26_code 8 = .ok (.astore_n 2, 1) := by decide +kernel
theorem d_K_countFree_9 : decode prog_1_method_26_code 9 = .ok (.aload_n 2, 1) := by decide +kernel
theorem d_K_countFree_10 : decode prog_1_method_26_code 10 = .ok (.arraylength, 1) := by decide +kernel
theorem d_K_countFree_11 : decode prog_1_method_26_code 11 = .ok (.istore_n 3, 1) := by decide +kernel
theorem d_K_countFree_12 : decode prog_1_method_26_code 12 = .ok (.iconst 0, 1) := by decide +kernel
theorem d_K_countFree_13 : decode prog_1_method_26_code 13 = .ok (.istore 4, 2) := by decide +kernel
theorem d_K_countFree_15 : decode prog_1_method_26_code 15 = .ok (.iload 4, 2) := by decide +kernel
theorem d_K_countFree_17 : decode prog_1_method_26_code 17 = .ok (.iload_n 3, 1) := by decide +kernel
theorem d_K_countFree_18 : decode prog_1_method_26_code 18 = .ok (.if_icmp .ge 28, 3) := by decide +kernel
theorem d_K_countFree_21 : decode prog_1_method_26_code 21 = .ok (.aload_n 2, 1) := by decide +kernel
theorem d_K_countFree_22 : decode prog_1_method_26_code 22 = .ok (.iload 4, 2) := by decide +kernel
theorem d_K_countFree_24 : decode prog_1_method_26_code 24 = .ok (.aaload, 1) := by decide +kernel
theorem d_K_countFree_25 : decode prog_1_method_26_code 25 = .ok (.astore 5, 2) := by decide +kernel
theorem d_K_countFree_27 : decode prog_1_method_26_code 27 = .ok (.aload 5, 2) := by decide +kernel
theorem d_K_countFree_29 : decode prog_1_method_26_code 29 = .ok (.ifnull 11, 3) := by decide +kernel
theorem d_K_countFree_40 : decode prog_1_method_26_code 40 = .ok (.iinc 4 1, 3) := by decide +kernel
theorem d_K_countFree_43 : decode prog_1_method_26_code 43 = .ok (.goto (-28), 3) := by decide +kernel
theorem d_K_countFree_46 : decode prog_1_method_26_code 46 = .ok (.iload_n 1, 1) := by decide +kernel
theorem d_K_countFree_47 : decode prog_1_method_26_code 47 = .ok (.ireturn, 1) := by decide +kernel
theorem d_K_freeBlocks_0 : decode prog_1_method_17_code 0 = .ok (.aload_n 0, 1) := by decide +kernel
theorem d_K_freeBlocks_1 : decode prog_1_method_17_code 1 = .ok (.invokevirtual 56, 3) := by decide +kernel
theorem d_K_freeBlocks_4 : decode prog_1_method_17_code 4 = .ok (.aload_n 0, 1) := by decide +kernel
theorem d_K_freeBlocks_5 : decode prog_1_method_17_code 5 = .ok (.invokevirtual 97, 3) := by decide +kernel
theorem d_K_freeBlocks_8 : decode prog_1_method_17_code 8 = .ok (.ireturn, 1) := by decide +kernel
theorem d_K_start_0 : decode prog_1_method_19_code 0 = .ok (.aload_n 0, 1) := by decide +kernel
theorem d_K_start_1 : decode prog_1_method_19_code 1 = .ok (.getfield 45, 3) := by decide +kernel
theorem d_K_start_4 : decode prog_1_method_19_code 4 = .ok (.getfield 180, 3) := by decide +kernel
theorem d_K_start_7 : decode prog_1_method_19_code 7 = .ok (.ifCond .ne 5, 3) := by decide +kernel
theorem d_K_start_10 : decode prog_1_method_19_code 10 = .ok (.iconst 0, 1) := by decide +kernel
theorem d_K_start_11 : decode prog_1_method_19_code 11 = .ok (.ireturn, 1) := by decide +kernel
theorem d_K_isDown_0 : decode prog_1_method_20_code 0 = .ok (.aload_n 0, 1) := by decide +kernel
theorem d_K_isDown_1 : decode prog_1_method_20_code 1 = .ok (.getfield 45, 3) := by decide +kernel
theorem d_K_isDown_4 : decode prog_1_method_20_code 4 = .ok (.getfield 180, 3) := by decide +kernel
theorem d_K_isDown_7 : decode prog_1_method_20_code 7 = .ok (.ireturn, 1) := by decide +kernel
theorem d_T_hasRoom_0 : decode prog_7_method_3_code 0 = .ok (.iload_n 1, 1) := by decide +kernel
theorem d_T_hasRoom_1 : decode prog_7_method_3_code 1 = .ok (.sipush 256, 3) := by decide +kernel
theorem d_T_hasRoom_4 : decode prog_7_method_3_code 4 = .ok (.aload_n 0, 1) := by decide +kernel
theorem d_T_hasRoom_5 : decode prog_7_method_3_code 5 = .ok (.getfield 15, 3) := by decide +kernel
theorem d_T_hasRoom_8 : decode prog_7_method_3_code 8 = .ok (.isub, 1) := by decide +kernel
theorem d_T_hasRoom_9 : decode prog_7_method_3_code 9 = .ok (.if_icmp .gt 7, 3) := by decide +kernel
theorem d_T_hasRoom_12 : decode prog_7_method_3_code 12 = .ok (.iconst 1, 1) := by decide +kernel
theorem d_T_hasRoom_13 : decode prog_7_method_3_code 13 = .ok (.goto 4, 3) := by decide +kernel
theorem d_T_hasRoom_17 : decode prog_7_method_3_code 17 = .ok (.ireturn, 1) := by decide +kernel
theorem d_T_addByte_0 : decode prog_7_method_4_code 0 = .ok (.aload_n 0, 1) := by decide +kernel
theorem d_T_addByte_1 : decode prog_7_method_4_code 1 = .ok (.getfield 15, 3) := by decide +kernel
theorem d_T_addByte_4 : decode prog_7_method_4_code 4 = .ok (.sipush 256, 3) := by decide +kernel
theorem d_T_addByte_7 : decode prog_7_method_4_code 7 = .ok (.if_icmp .ge 24, 3) := by decide +kernel
theorem d_T_addByte_10 : decode prog_7_method_4_code 10 = .ok (.aload_n 0, 1) := by decide +kernel
theorem d_T_addByte_11 : decode prog_7_method_4_code 11 = .ok (.getfield 9, 3) := by decide +kernel
theorem d_T_addByte_14 : decode prog_7_method_4_code 14 = .ok (.aload_n 0, 1) := by decide +kernel
theorem d_T_addByte_15 : decode prog_7_method_4_code 15 = .ok (.getfield 15, 3) := by decide +kernel
theorem d_T_addByte_18 : decode prog_7_method_4_code 18 = .ok (.iload_n 1, 1) := by decide +kernel
theorem d_T_addByte_19 : decode prog_7_method_4_code 19 = .ok (.i2b, 1) := by decide +kernel
theorem d_T_addByte_20 : decode prog_7_method_4_code 20 = .ok (.bastore, 1) := by decide +kernel
theorem d_T_addByte_21 : decode prog_7_method_4_code 21 = .ok (.aload_n 0, 1) := by decide +kernel
theorem d_T_addByte_22 : decode prog_7_method_4_code 22 = .ok (.dup, 1) := by decide +kernel
theorem d_T_addByte_23 : decode prog_7_method_4_code 23 = .ok (.getfield 15, 3) := by decide +kernel
theorem d_T_addByte_26 : decode prog_7_method_4_code 26 = .ok (.iconst 1, 1) := by decide +kernel
theorem d_T_addByte_27 : decode prog_7_method_4_code 27 = .ok (.iadd, 1) := by decide +kernel
theorem d_T_addByte_28 : decode prog_7_method_4_code 28 = .ok (.putfield 15, 3) := by decide +kernel
theorem d_T_addByte_31 : decode prog_7_method_4_code 31 = .ok (.return_, 1) := by decide +kernel
theorem d_T_addInt_0 : decode prog_7_method_5_code 0 = .ok (.bipush 24, 2) := by decide +kernel
theorem d_T_addInt_2 : decode prog_7_method_5_code 2 = .ok (.istore_n 2, 1) := by decide +kernel
theorem d_T_addInt_3 : decode prog_7_method_5_code 3 = .ok (.iload_n 2, 1) := by decide +kernel
theorem d_T_addInt_4 : decode prog_7_method_5_code 4 = .ok (.ifCond .lt 16, 3) := by decide +kernel
theorem d_T_addInt_7 : decode prog_7_method_5_code 7 = .ok (.aload_n 0, 1) := by decide +kernel
theorem d_T_addInt_8 : decode prog_7_method_5_code 8 = .ok (.iload_n 1, 1) := by decide +kernel
theorem d_T_addInt_9 : decode prog_7_method_5_code 9 = .ok (.iload_n 2, 1) := by decide +kernel
theorem d_T_addInt_10 : decode prog_7_method_5_code 10 = .ok (.ishr, 1) := by decide +kernel
theorem d_T_addInt_11 : decode prog_7_method_5_code 11 = .ok (.invokevirtual 19, 3) := by decide +kernel
theorem d_T_addInt_14 : decode prog_7_method_5_code 14 = .ok (.iinc 2 (-8), 3) := by decide +kernel
theorem d_T_addInt_17 : decode prog_7_method_5_code 17 = .ok (.goto (-14), 3) := by decide +kernel
theorem d_T_addInt_20 : decode prog_7_method_5_code 20 = .ok (.return_, 1) := by decide +kernel
theorem d_K_feed_0 : decode prog_1_method_2_code 0 = .ok (.aload_n 0, 1) := by decide +kernel
theorem d_K_feed_1 : decode prog_1_method_2_code 1 = .ok (.invokevirtual 56, 3) := by decide +kernel
theorem d_K_feed_4 : decode prog_1_method_2_code 4 = .ok (.aload_n 0, 1) := by decide +kernel
theorem d_K_feed_5 : decode prog_1_method_2_code 5 = .ok (.getfield 18, 3) := by decide +kernel
theorem d_K_feed_8 : decode prog_1_method_2_code 8 = .ok (.bipush 20, 2) := by decide +kernel
theorem d_K_feed_10 : decode prog_1_method_2_code 10 = .ok (.invokevirtual 59, 3) := by decide +kernel
theorem d_K_feed_13 : decode prog_1_method_2_code 13 = .ok (.ifCond .ne 5, 3) := by decide +kernel
theorem d_K_feed_18 : decode prog_1_method_2_code 18 = .ok (.aload_n 0, 1) := by decide +kernel
theorem d_K_feed_19 : decode prog_1_method_2_code 19 = .ok (.getfield 18, 3) := by decide +kernel
theorem d_K_feed_22 : decode prog_1_method_2_code 22 = .ok (.iload_n 1, 1) := by decide +kernel
theorem d_K_feed_23 : decode prog_1_method_2_code 23 = .ok (.invokevirtual 63, 3) := by decide +kernel
theorem d_K_feed_26 : decode prog_1_method_2_code 26 = .ok (.aload_n 0, 1) := by decide +kernel
theorem d_K_feed_27 : decode prog_1_method_2_code 27 = .ok (.getfield 18, 3) := by decide +kernel
theorem d_K_feed_30 : decode prog_1_method_2_code 30 = .ok (.iload_n 2, 1) := by decide +kernel
theorem d_K_feed_31 : decode prog_1_method_2_code 31 = .ok (.invokevirtual 63, 3) := by decide +kernel
theorem d_K_feed_34 : decode prog_1_method_2_code 34 = .ok (.aload_n 0, 1) := by decide +kernel
theorem d_K_feed_35 : decode prog_1_method_2_code 35 = .ok (.getfield 18, 3) := by decide +kernel
theorem d_K_feed_38 : decode prog_1_method_2_code 38 = .ok (.iload_n 3, 1) := by decide +kernel
theorem d_K_feed_39 : decode prog_1_method_2_code 39 = .ok (.invokevirtual 63, 3) := by decide +kernel
theorem d_K_feed_42 : decode prog_1_method_2_code 42 = .ok (.aload_n 0, 1) := by decide +kernel
theorem d_K_feed_43 : decode prog_1_method_2_code 43 = .ok (.getfield 18, 3) := by decide +kernel
theorem d_K_feed_46 : decode prog_1_method_2_code 46 = .ok (.iload 4, 2) := by decide +kernel
theorem d_K_feed_48 : decode prog_1_method_2_code 48 = .ok (.invokevirtual 63, 3) := by decide +kernel
theorem d_K_feed_51 : decode prog_1_method_2_code 51 = .ok (.aload_n 0, 1) := by decide +kernel
theorem d_K_feed_52 : decode prog_1_method_2_code 52 = .ok (.getfield 18, 3) := by decide +kernel
theorem d_K_feed_55 : decode prog_1_method_2_code 55 = .ok (.iload 5, 2) := by decide +kernel
theorem d_K_feed_57 : decode prog_1_method_2_code 57 = .ok (.invokevirtual 63, 3) := by decide +kernel
theorem d_K_feed_60 : decode prog_1_method_2_code 60 = .ok (.iconst 1, 1) := by decide +kernel
theorem d_K_feed_61 : decode prog_1_method_2_code 61 = .ok (.ireturn, 1) := by decide +kernel
theorem d_T_shorten_0 : decode prog_7_method_6_code 0 = .ok (.iload_n 1, 1) := by decide +kernel
theorem d_T_shorten_1 : decode prog_7_method_6_code 1 = .ok (.ifCond .lt 11, 3) := by decide +kernel
theorem d_T_shorten_4 : decode prog_7_method_6_code 4 = .ok (.iload_n 1, 1) := by decide +kernel
theorem d_T_shorten_5 : decode prog_7_method_6_code 5 = .ok (.aload_n 0, 1) := by decide +kernel
theorem d_T_shorten_6 : decode prog_7_method_6_code 6 = .ok (.getfield 15, 3) := by decide +kernel
theorem d_T_shorten_9 : decode prog_7_method_6_code 9 = .ok (.if_icmp .le 5, 3) := by decide +kernel
theorem d_T_shorten_12 : decode prog_7_method_6_code 12 = .ok (.iconst 0, 1) := by decide +kernel
theorem d_T_shorten_13 : decode prog_7_method_6_code 13 = .ok (.ireturn, 1) := by decide +kernel
theorem d_T_shorten_14 : decode prog_7_method_6_code 14 = .ok (.aload_n 0, 1) := by decide +kernel
theorem d_T_shorten_15 : decode prog_7_method_6_code 15 = .ok (.iload_n 1, 1) := by decide +kernel
theorem d_T_shorten_16 : decode prog_7_method_6_code 16 = .ok (.putfield 15, 3) := by decide +kernel
theorem d_T_shorten_19 : decode prog_7_method_6_code 19 = .ok (.iconst 1, 1) := by decide +kernel
theorem d_T_shorten_20 : decode prog_7_method_6_code 20 = .ok (.ireturn, 1) := by decide +kernel
theorem d_K_end_0 : decode prog_1_method_3_code 0 = .ok (.aload_n 0, 1) := by decide +kernel
theorem d_K_end_1 : decode prog_1_method_3_code 1 = .ok (.invokevirtual 56, 3) := by decide +kernel
theorem d_K_end_4 : decode prog_1_method_3_code 4 = .ok (.aload_n 0, 1) := by decide +kernel
theorem d_K_end_5 : decode prog_1_method_3_code 5 = .ok (.getfield 18, 3) := by decide +kernel
theorem d_K_end_8 : decode prog_1_method_3_code 8 = .ok (.iload_n 1, 1) := by decide +kernel
theorem d_K_end_9 : decode prog_1_method_3_code 9 = .ok (.invokevirtual 67, 3) := by decide +kernel
theorem d_K_end_12 : decode prog_1_method_3_code 12 = .ok (.ireturn, 1) := by decide +kernel
theorem d_P_lastsFor_0 : decode prog_5_method_4_code 0 = .ok (.aload_n 0, 1) := by decide +kernel
theorem d_P_lastsFor_1 : decode prog_5_method_4_code 1 = .ok (.getfield 13, 3) := by decide +kernel
theorem d_P_lastsFor_4 : decode prog_5_method_4_code 4 = .ok (.ifCond .ne 5, 3) := by decide +kernel
theorem d_P_lastsFor_7 : decode prog_5_method_4_code 7 = .ok (.iconst 1, 1) := by decide +kernel
theorem d_P_lastsFor_8 : decode prog_5_method_4_code 8 = .ok (.ireturn, 1) := by decide +kernel
theorem d_K_spendWrites_0 : decode prog_1_method_22_code 0 = .ok (.aload_n 0, 1) := by decide +kernel
theorem d_K_spendWrites_1 : decode prog_1_method_22_code 1 = .ok (.getfield 45, 3) := by decide +kernel
theorem d_K_spendWrites_4 : decode prog_1_method_22_code 4 = .ok (.iload_n 1, 1) := by decide +kernel
theorem d_K_spendWrites_5 : decode prog_1_method_22_code 5 = .ok (.invokevirtual 190, 3) := by decide +kernel
theorem d_K_spendWrites_8 : decode prog_1_method_22_code 8 = .ok (.ifCond .ne 20, 3) := by decide +kernel
theorem d_K_spendWrites_28 : decode prog_1_method_22_code 28 = .ok (.return_, 1) := by decide +kernel
theorem d_D_init_0 : decode prog_2_method_1_code 0 = .ok (.aload_n 0, 1) := by decide +kernel
theorem d_D_init_1 : decode prog_2_method_1_code 1 = .ok (.invokespecial 3, 3) := by decide +kernel
theorem d_D_init_4 : decode prog_2_method_1_code 4 = .ok (.aload_n 0, 1) := by decide +kernel
theorem d_D_init_5 : decode prog_2_method_1_code 5 = .ok (.bipush 64, 2) := by decide +kernel
theorem d_D_init_7 : decode prog_2_method_1_code 7 = .ok (.anewarray 9, 3) := by decide +kernel
theorem d_D_init_10 : decode prog_2_method_1_code 10 = .ok (.putfield 11, 3) := by decide +kernel
theorem d_D_init_13 : decode prog_2_method_1_code 13 = .ok (.aload_n 0, 1) := by decide +kernel
theorem d_D_init_14 : decode prog_2_method_1_code 14 = .ok (.iconst 0, 1) := by decide +kernel
theorem d_D_init_15 : decode prog_2_method_1_code 15 = .ok (.putfield 17, 3) := by decide +kernel
theorem d_D_init_18 : decode prog_2_method_1_code 18 = .ok (.aload_n 0, 1) := by decide +kernel
theorem d_D_init_19 : decode prog_2_method_1_code 19 = .ok (.iconst 0, 1) := by decide +kernel
theorem d_D_init_20 : decode prog_2_method_1_code 20 = .ok (.putfield 21, 3) := by decide +kernel
theorem d_D_init_23 : decode prog_2_method_1_code 23 = .ok (.return_, 1) := by decide +kernel
theorem d_K_make_0 : decode prog_1_method_4_code 0 = .ok (.aload_n 0, 1) := by decide +kernel
theorem d_K_make_1 : decode prog_1_method_4_code 1 = .ok (.invokevirtual 56, 3) := by decide +kernel
theorem d_K_make_4 : decode prog_1_method_4_code 4 = .ok (.aload_n 0, 1) := by decide +kernel
theorem d_K_make_5 : decode prog_1_method_4_code 5 = .ok (.getfield 49, 3) := by decide +kernel
theorem d_K_make_8 : decode prog_1_method_4_code 8 = .ok (.bipush 8, 2) := by decide +kernel
theorem d_K_make_10 : decode prog_1_method_4_code 10 = .ok (.if_icmp .lt 5, 3) := by decide +kernel
theorem d_K_make_15 : decode prog_1_method_4_code 15 = .ok (.aload_n 0, 1) := by decide +kernel
theorem d_K_make_16 : decode prog_1_method_4_code 16 = .ok (.iconst 1, 1) := by decide +kernel
theorem d_K_make_17 : decode prog_1_method_4_code 17 = .ok (.invokevirtual 70, 3) := by decide +kernel
theorem d_K_make_20 : decode prog_1_method_4_code 20 = .ok (.aload_n 0, 1) := by decide +kernel
theorem d_K_make_21 : decode prog_1_method_4_code 21 = .ok (.getfield 49, 3) := by decide +kernel
theorem d_K_make_24 : decode prog_1_method_4_code 24 = .ok (.istore_n 1, 1) := by decide +kernel
theorem d_K_make_25 : decode prog_1_method_4_code 25 = .ok (.aload_n 0, 1) := by decide +kernel
theorem d_K_make_26 : decode prog_1_method_4_code 26 = .ok (.getfield 11, 3) := by decide +kernel
theorem d_K_make_29 : decode prog_1_method_4_code 29 = .ok (.iload_n 1, 1) := by decide +kernel
theorem d_K_make_30 : decode prog_1_method_4_code 30 = .ok (.new 9, 3) := by decide +kernel
theorem d_K_make_33 : decode prog_1_method_4_code 33 = .ok (.dup, 1) := by decide +kernel
theorem d_K_make_34 : decode prog_1_method_4_code 34 = .ok (.invokespecial 73, 3) := by decide +kernel
theorem d_K_make_37 : decode prog_1_method_4_code 37 = .ok (.aastore, 1) := by decide +kernel
theorem d_K_make_38 : decode prog_1_method_4_code 38 = .ok (.aload_n 0, 1) := by decide +kernel
theorem d_K_make_39 : decode prog_1_method_4_code 39 = .ok (.dup, 1) := by decide +kernel
theorem d_K_make_40 : decode prog_1_method_4_code 40 = .ok (.getfield 49, 3) := by decide +kernel
theorem d_K_make_43 : decode prog_1_method_4_code 43 = .ok (.iconst 1, 1) := by decide +kernel
theorem d_K_make_44 : decode prog_1_method_4_code 44 = .ok (.iadd, 1) := by decide +kernel
theorem d_K_make_45 : decode prog_1_method_4_code 45 = .ok (.putfield 49, 3) := by decide +kernel
theorem d_K_make_48 : decode prog_1_method_4_code 48 = .ok (.iload_n 1, 1) := by decide +kernel
theorem d_K_make_49 : decode prog_1_method_4_code 49 = .ok (.ireturn, 1) := by decide +kernel
theorem d_P_goAfter_0 : decode prog_5_method_2_code 0 = .ok (.aload_n 0, 1) := by decide +kernel
theorem d_P_goAfter_1 : decode prog_5_method_2_code 1 = .ok (.iconst 1, 1) := by decide +kernel
theorem d_P_goAfter_2 : decode prog_5_method_2_code 2 = .ok (.putfield 13, 3) := by decide +kernel
theorem d_P_goAfter_5 : decode prog_5_method_2_code 5 = .ok (.aload_n 0, 1) := by decide +kernel
theorem d_P_goAfter_6 : decode prog_5_method_2_code 6 = .ok (.iload_n 1, 1) := by decide +kernel
theorem d_P_goAfter_7 : decode prog_5_method_2_code 7 = .ok (.putfield 16, 3) := by decide +kernel
theorem d_P_goAfter_10 : decode prog_5_method_2_code 10 = .ok (.return_, 1) := by decide +kernel
theorem d_K_cutAfter_0 : decode prog_1_method_18_code 0 = .ok (.aload_n 0, 1) := by decide +kernel
theorem d_K_cutAfter_1 : decode prog_1_method_18_code 1 = .ok (.invokevirtual 56, 3) := by decide +kernel
theorem d_K_cutAfter_4 : decode prog_1_method_18_code 4 = .ok (.iload_n 1, 1) := by decide +kernel
theorem d_K_cutAfter_5 : decode prog_1_method_18_code 5 = .ok (.ifCond .ge 5, 3) := by decide +kernel
theorem d_K_cutAfter_8 : decode prog_1_method_18_code 8 = .ok (.iconst 0, 1) := by decide +kernel
theorem d_K_cutAfter_9 : decode prog_1_method_18_code 9 = .ok (.ireturn, 1) := by decide +kernel
theorem d_K_cutAfter_10 : decode prog_1_method_18_code 10 = .ok (.aload_n 0, 1) := by decide +kernel
theorem d_K_cutAfter_11 : decode prog_1_method_18_code 11 = .ok (.getfield 45, 3) := by decide +kernel
theorem d_K_cutAfter_14 : decode prog_1_method_18_code 14 = .ok (.iload_n 1, 1) := by decide +kernel
theorem d_K_cutAfter_15 : decode prog_1_method_18_code 15 = .ok (.invokevirtual 177, 3) := by decide +kernel
theorem d_K_cutAfter_18 : decode prog_1_method_18_code 18 = .ok (.iconst 1, 1) := by decide +kernel
theorem d_K_cutAfter_19 : decode prog_1_method_18_code 19 = .ok (.ireturn, 1) := by decide +kernel
theorem d_O_runs_0 : decode prog_9_method_3_code 0 = .ok (.aload_n 0, 1) := by decide +kernel
theorem d_O_runs_1 : decode prog_9_method_3_code 1 = .ok (.aload_n 0, 1) := by decide +kernel
theorem d_O_runs_2 : decode prog_9_method_3_code 2 = .ok (.getfield 65, 3) := by decide +kernel
theorem d_O_runs_5 : decode prog_9_method_3_code 5 = .ok (.ifCond .eq 7, 3) := by decide +kernel
theorem d_O_runs_12 : decode prog_9_method_3_code 12 = .ok (.iconst 0, 1) := by decide +kernel
theorem d_O_runs_13 : decode prog_9_method_3_code 13 = .ok (.putfield 62, 3) := by decide +kernel
theorem d_O_runs_16 : decode prog_9_method_3_code 16 = .ok (.aload_n 0, 1) := by decide +kernel
theorem d_O_runs_17 : decode prog_9_method_3_code 17 = .ok (.getfield 65, 3) := by decide +kernel
theorem d_O_runs_20 : decode prog_9_method_3_code 20 = .ok (.ifCond .ne 7, 3) := by decide +kernel
theorem d_O_runs_23 : decode prog_9_method_3_code 23 = .ok (.iconst 1, 1) := by decide +kernel
theorem d_O_runs_24 : decode prog_9_method_3_code 24 = .ok (.goto 4, 3) := by decide +kernel
theorem d_O_runs_28 : decode prog_9_method_3_code 28 = .ok (.ireturn, 1) := by decide +kernel
theorem d_O_thrown_0 : decode prog_9_method_2_code 0 = .ok (.aload_n 0, 1) := by decide +kernel
theorem d_O_thrown_1 : decode prog_9_method_2_code 1 = .ok (.getfield 62, 3) := by decide +kernel
theorem d_O_thrown_4 : decode prog_9_method_2_code 4 = .ok (.ireturn, 1) := by decide +kernel
theorem d_O_isDocument_0 : decode prog_9_method_7_code 0 = .ok (.iload_n 1, 1) := by decide +kernel
theorem d_O_isDocument_1 : decode prog_9_method_7_code 1 = .ok (.ifCond .lt 24, 3) := by decide +kernel
theorem d_O_isDocument_4 : decode prog_9_method_7_code 4 = .ok (.iload_n 1, 1) := by decide +kernel
theorem d_O_isDocument_5 : decode prog_9_method_7_code 5 = .ok (.aload_n 0, 1) := by decide +kernel
theorem d_O_isDocument_6 : decode prog_9_method_7_code 6 = .ok (.getfield 76, 3) := by decide +kernel
theorem d_O_isDocument_9 : decode prog_9_method_7_code 9 = .ok (.if_icmp .ge 16, 3) := by decide +kernel
theorem d_O_isDocument_25 : decode prog_9_method_7_code 25 = .ok (.iconst 0, 1) := by decide +kernel
theorem d_O_isDocument_26 : decode prog_9_method_7_code 26 = .ok (.ireturn, 1) := by decide +kernel
theorem d_O_isAsked_0 : decode prog_9_method_8_code 0 = .ok (.aload_n 0, 1) := by decide +kernel
theorem d_O_isAsked_1 : decode prog_9_method_8_code 1 = .ok (.iload_n 1, 1) := by decide +kernel
theorem d_O_isAsked_2 : decode prog_9_method_8_code 2 = .ok (.invokevirtual 79, 3) := by decide +kernel
theorem d_O_isAsked_5 : decode prog_9_method_8_code 5 = .ok (.ifCond .eq 27, 3) := by decide +kernel
theorem d_O_isAsked_32 : decode prog_9_method_8_code 32 = .ok (.iconst 0, 1) := by decide +kernel
theorem d_O_isAsked_33 : decode prog_9_method_8_code 33 = .ok (.ireturn, 1) := by decide +kernel
theorem d_O_kept_0 : decode prog_9_method_9_code 0 = .ok (.aload_n 0, 1) := by decide +kernel
theorem d_O_kept_1 : decode prog_9_method_9_code 1 = .ok (.iload_n 1, 1) := by decide +kernel
theorem d_O_kept_2 : decode prog_9_method_9_code 2 = .ok (.invokevirtual 79, 3) := by decide +kernel
theorem d_O_kept_5 : decode prog_9_method_9_code 5 = .ok (.ifCond .eq 37, 3) := by decide +kernel
theorem d_O_kept_42 : decode prog_9_method_9_code 42 = .ok (.iconst (-1), 1) := by decide +kernel
theorem d_O_kept_43 : decode prog_9_method_9_code 43 = .ok (.ireturn, 1) := by decide +kernel
theorem d_O_writes_0 : decode prog_9_method_4_code 0 = .ok (.aload_n 0, 1) := by decide +kernel
theorem d_O_writes_1 : decode prog_9_method_4_code 1 = .ok (.getfield 9, 3) := by decide +kernel
theorem d_O_writes_4 : decode prog_9_method_4_code 4 = .ok (.iconst (-1), 1) := by decide +kernel
theorem d_O_writes_5 : decode prog_9_method_4_code 5 = .ok (.if_icmp .eq 11, 3) := by decide +kernel
theorem d_O_writes_16 : decode prog_9_method_4_code 16 = .ok (.aload_n 0, 1) := by decide +kernel
theorem d_O_writes_17 : decode prog_9_method_4_code 17 = .ok (.aload_n 0, 1) := by decide +kernel
theorem d_O_writes_18 : decode prog_9_method_4_code 18 = .ok (.getfield 9, 3) := by decide +kernel
theorem d_O_writes_21 : decode prog_9_method_4_code 21 = .ok (.iconst (-1), 1) := by decide +kernel
theorem d_O_writes_22 : decode prog_9_method_4_code 22 = .ok (.if_icmp .ne 7, 3) := by decide +kernel
theorem d_O_writes_25 : decode prog_9_method_4_code 25 = .ok (.iconst (-1), 1) := by decide +kernel
theorem d_O_writes_26 : decode prog_9_method_4_code 26 = .ok (.goto 9, 3) := by decide +kernel
theorem d_O_writes_35 : decode prog_9_method_4_code 35 = .ok (.putfield 9, 3) := by decide +kernel
theorem d_O_writes_38 : decode prog_9_method_4_code 38 = .ok (.iconst 1, 1) := by decide +kernel
theorem d_O_writes_39 : decode prog_9_method_4_code 39 = .ok (.ireturn, 1) := by decide +kernel
theorem d_O_make_0 : decode prog_9_method_16_code 0 = .ok (.aload_n 0, 1) := by decide +kernel
theorem d_O_make_1 : decode prog_9_method_16_code 1 = .ok (.iconst 1, 1) := by decide +kernel
theorem d_O_make_2 : decode prog_9_method_16_code 2 = .ok (.invokevirtual 72, 3) := by decide +kernel
theorem d_O_make_5 : decode prog_9_method_16_code 5 = .ok (.ifCond .eq 12, 3) := by decide +kernel
theorem d_O_make_8 : decode prog_9_method_16_code 8 = .ok (.aload_n 0, 1) := by decide +kernel
theorem d_O_make_9 : decode prog_9_method_16_code 9 = .ok (.getfield 76, 3) := by decide +kernel
theorem d_O_make_12 : decode prog_9_method_16_code 12 = .ok (.bipush 8, 2) := by decide +kernel
theorem d_O_make_14 : decode prog_9_method_16_code 14 = .ok (.if_icmp .ne 16, 3) := by decide +kernel
theorem d_O_make_30 : decode prog_9_method_16_code 30 = .ok (.aload_n 0, 1) := by decide +kernel
theorem d_O_make_31 : decode prog_9_method_16_code 31 = .ok (.iconst 1, 1) := by decide +kernel
theorem d_O_make_32 : decode prog_9_method_16_code 32 = .ok (.invokevirtual 97, 3) := by decide +kernel
theorem d_O_make_35 : decode prog_9_method_16_code 35 = .ok (.ifCond .ne 5, 3) := by decide +kernel
theorem d_O_make_40 : decode prog_9_method_16_code 40 = .ok (.aload_n 0, 1) := by decide +kernel
theorem d_O_make_41 : decode prog_9_method_16_code 41 = .ok (.dup, 1) := by decide +kernel
theorem d_O_make_42 : decode prog_9_method_16_code 42 = .ok (.getfield 76, 3) := by decide +kernel
theorem d_O_make_45 : decode prog_9_method_16_code 45 = .ok (.iconst 1, 1) := by decide +kernel
theorem d_O_make_46 : decode prog_9_method_16_code 46 = .ok (.iadd, 1) := by decide +kernel
theorem d_O_make_47 : decode prog_9_method_16_code 47 = .ok (.putfield 76, 3) := by decide +kernel
theorem d_O_make_50 : decode prog_9_method_16_code 50 = .ok (.aload_n 0, 1) := by decide +kernel
theorem d_O_make_51 : decode prog_9_method_16_code 51 = .ok (.getfield 76, 3) := by decide +kernel
theorem d_O_make_54 : decode prog_9_method_16_code 54 = .ok (.iconst 1, 1) := by decide +kernel
theorem d_O_make_55 : decode prog_9_method_16_code 55 = .ok (.isub, 1) := by decide +kernel
theorem d_O_make_56 : decode prog_9_method_16_code 56 = .ok (.ireturn, 1) := by decide +kernel
theorem d_O_commit_0 : decode prog_9_method_27_code 0 = .ok (.aload_n 0, 1) := by decide +kernel
theorem d_O_commit_1 : decode prog_9_method_27_code 1 = .ok (.iconst 1, 1) := by decide +kernel
theorem d_O_commit_2 : decode prog_9_method_27_code 2 = .ok (.invokevirtual 72, 3) := by decide +kernel
theorem d_O_commit_5 : decode prog_9_method_27_code 5 = .ok (.ifCond .eq 22, 3) := by decide +kernel
theorem d_O_commit_8 : decode prog_9_method_27_code 8 = .ok (.aload_n 0, 1) := by decide +kernel
theorem d_O_commit_9 : decode prog_9_method_27_code 9 = .ok (.iload_n 1, 1) := by decide +kernel
theorem d_O_commit_10 : decode prog_9_method_27_code 10 = .ok (.invokevirtual 79, 3) := by decide +kernel
theorem d_O_commit_13 : decode prog_9_method_27_code 13 = .ok (.ifCond .eq 14, 3) := by decide +kernel
theorem d_O_commit_27 : decode prog_9_method_27_code 27 = .ok (.aload_n 0, 1) := by decide +kernel
theorem d_O_commit_28 : decode prog_9_method_27_code 28 = .ok (.getfield 62, 3) := by decide +kernel
theorem d_O_commit_31 : decode prog_9_method_27_code 31 = .ok (.ifCond .ne 7, 3) := by decide +kernel
theorem d_O_commit_34 : decode prog_9_method_27_code 34 = .ok (.iconst (-1), 1) := by decide +kernel
theorem d_O_commit_35 : decode prog_9_method_27_code 35 = .ok (.goto 4, 3) := by decide +kernel
theorem d_O_commit_39 : decode prog_9_method_27_code 39 = .ok (.ireturn, 1) := by decide +kernel
theorem d_O_fetch_0 : decode prog_9_method_28_code 0 = .ok (.aload_n 0, 1) := by decide +kernel
theorem d_O_fetch_1 : decode prog_9_method_28_code 1 = .ok (.iconst 1, 1) := by decide +kernel
theorem d_O_fetch_2 : decode prog_9_method_28_code 2 = .ok (.invokevirtual 72, 3) := by decide +kernel
theorem d_O_fetch_5 : decode prog_9_method_28_code 5 = .ok (.ifCond .eq 12, 3) := by decide +kernel
theorem d_O_fetch_8 : decode prog_9_method_28_code 8 = .ok (.aload_n 0, 1) := by decide +kernel
theorem d_O_fetch_9 : decode prog_9_method_28_code 9 = .ok (.iload_n 1, 1) := by decide +kernel
theorem d_O_fetch_10 : decode prog_9_method_28_code 10 = .ok (.iload_n 2, 1) := by decide +kernel
theorem d_O_fetch_11 : decode prog_9_method_28_code 11 = .ok (.invokevirtual 156, 3) := by decide +kernel
theorem d_O_fetch_14 : decode prog_9_method_28_code 14 = .ok (.ifCond .ne 16, 3) := by decide +kernel
theorem d_O_fetch_17 : decode prog_9_method_28_code 17 = .ok (.aload_n 0, 1) := by decide +kernel
theorem d_O_fetch_18 : decode prog_9_method_28_code 18 = .ok (.getfield 62, 3) := by decide +kernel
theorem d_O_fetch_21 : decode prog_9_method_28_code 21 = .ok (.ifCond .ne 7, 3) := by decide +kernel
theorem d_O_fetch_24 : decode prog_9_method_28_code 24 = .ok (.iconst (-1), 1) := by decide +kernel
theorem d_O_fetch_25 : decode prog_9_method_28_code 25 = .ok (.goto 4, 3) := by decide +kernel
theorem d_O_fetch_29 : decode prog_9_method_28_code 29 = .ok (.ireturn, 1) := by decide +kernel
theorem d_O_trim_0 : decode prog_9_method_31_code 0 = .ok (.aload_n 0, 1) := by decide +kernel
theorem d_O_trim_1 : decode prog_9_method_31_code 1 = .ok (.iconst 1, 1) := by decide +kernel
theorem d_O_trim_2 : decode prog_9_method_31_code 2 = .ok (.invokevirtual 72, 3) := by decide +kernel
theorem d_O_trim_5 : decode prog_9_method_31_code 5 = .ok (.ifCond .eq 20, 3) := by decide +kernel
theorem d_O_trim_8 : decode prog_9_method_31_code 8 = .ok (.aload_n 0, 1) := by decide +kernel
theorem d_O_trim_9 : decode prog_9_method_31_code 9 = .ok (.iload_n 1, 1) := by decide +kernel
theorem d_O_trim_10 : decode prog_9_method_31_code 10 = .ok (.iload_n 2, 1) := by decide +kernel
theorem d_O_trim_11 : decode prog_9_method_31_code 11 = .ok (.invokevirtual 156, 3) := by decide +kernel
theorem d_O_trim_14 : decode prog_9_method_31_code 14 = .ok (.ifCond .eq 11, 3) := by decide +kernel
theorem d_O_trim_25 : decode prog_9_method_31_code 25 = .ok (.iconst 0, 1) := by decide +kernel
theorem d_O_trim_26 : decode prog_9_method_31_code 26 = .ok (.ireturn, 1) := by decide +kernel
theorem d_O_dropDocument_0 : decode prog_9_method_32_code 0 = .ok (.aload_n 0, 1) := by decide +kernel
theorem d_O_dropDocument_1 : decode prog_9_method_32_code 1 = .ok (.iconst 1, 1) := by decide +kernel
theorem d_O_dropDocument_2 : decode prog_9_method_32_code 2 = .ok (.invokevirtual 72, 3) := by decide +kernel
theorem d_O_dropDocument_5 : decode prog_9_method_32_code 5 = .ok (.ifCond .eq 19, 3) := by decide +kernel
theorem d_O_dropDocument_8 : decode prog_9_method_32_code 8 = .ok (.aload_n 0, 1) := by decide +kernel
theorem d_O_dropDocument_9 : decode prog_9_method_32_code 9 = .ok (.iload_n 1, 1) := by decide +kernel
theorem d_O_dropDocument_10 : decode prog_9_method_32_code 10 = .ok (.invokevirtual 79, 3) := by decide +kernel
theorem d_O_dropDocument_13 : decode prog_9_method_32_code 13 = .ok (.ifCond .eq 11, 3) := by decide +kernel
theorem d_O_dropDocument_24 : decode prog_9_method_32_code 24 = .ok (.iconst 0, 1) := by decide +kernel
theorem d_O_dropDocument_25 : decode prog_9_method_32_code 25 = .ok (.ireturn, 1) := by decide +kernel
theorem d_O_pieceByte_0 : decode prog_9_method_35_code 0 = .ok (.aload_n 0, 1) := by decide +kernel
theorem d_O_pieceByte_1 : decode prog_9_method_35_code 1 = .ok (.iconst 1, 1) := by decide +kernel
theorem d_O_pieceByte_2 : decode prog_9_method_35_code 2 = .ok (.invokevirtual 72, 3) := by decide +kernel
theorem d_O_pieceByte_5 : decode prog_9_method_35_code 5 = .ok (.ifCond .ne 5, 3) := by decide +kernel
theorem d_O_pieceByte_10 : decode prog_9_method_35_code 10 = .ok (.aload_n 0, 1) := by decide +kernel
theorem d_O_pieceByte_11 : decode prog_9_method_35_code 11 = .ok (.iload_n 1, 1) := by decide +kernel
theorem d_O_pieceByte_12 : decode prog_9_method_35_code 12 = .ok (.iload_n 2, 1) := by decide +kernel
theorem d_O_pieceByte_13 : decode prog_9_method_35_code 13 = .ok (.invokevirtual 162, 3) := by decide +kernel
theorem d_O_pieceByte_16 : decode prog_9_method_35_code 16 = .ok (.istore 4, 2) := by decide +kernel
theorem d_O_pieceByte_18 : decode prog_9_method_35_code 18 = .ok (.iload 4, 2) := by decide +kernel
theorem d_O_pieceByte_20 : decode prog_9_method_35_code 20 = .ok (.iconst (-1), 1) := by decide +kernel
theorem d_O_pieceByte_21 : decode prog_9_method_35_code 21 = .ok (.if_icmp .eq 38, 3) := by decide +kernel
theorem d_O_pieceByte_59 : decode prog_9_method_35_code 59 = .ok (.iconst (-1), 1) := by decide +kernel
theorem d_O_pieceByte_60 : decode prog_9_method_35_code 60 = .ok (.ireturn, 1) := by decide +kernel
theorem d_O_damage_0 : decode prog_9_method_36_code 0 = .ok (.aload_n 0, 1) := by decide +kernel
theorem d_O_damage_1 : decode prog_9_method_36_code 1 = .ok (.iconst 1, 1) := by decide +kernel
theorem d_O_damage_2 : decode prog_9_method_36_code 2 = .ok (.invokevirtual 72, 3) := by decide +kernel
theorem d_O_damage_5 : decode prog_9_method_36_code 5 = .ok (.ifCond .ne 5, 3) := by decide +kernel
theorem d_O_damage_10 : decode prog_9_method_36_code 10 = .ok (.aload_n 0, 1) := by decide +kernel
theorem d_O_damage_11 : decode prog_9_method_36_code 11 = .ok (.iload_n 1, 1) := by decide +kernel
theorem d_O_damage_12 : decode prog_9_method_36_code 12 = .ok (.iload_n 2, 1) := by decide +kernel
theorem d_O_damage_13 : decode prog_9_method_36_code 13 = .ok (.invokevirtual 162, 3) := by decide +kernel
theorem d_O_damage_16 : decode prog_9_method_36_code 16 = .ok (.istore 5, 2) := by decide +kernel
theorem d_O_damage_18 : decode prog_9_method_36_code 18 = .ok (.iload 5, 2) := by decide +kernel
theorem d_O_damage_20 : decode prog_9_method_36_code 20 = .ok (.iconst (-1), 1) := by decide +kernel
theorem d_O_damage_21 : decode prog_9_method_36_code 21 = .ok (.if_icmp .eq 18, 3) := by decide +kernel
theorem d_O_damage_39 : decode prog_9_method_36_code 39 = .ok (.iconst 0, 1) := by decide +kernel
theorem d_O_damage_40 : decode prog_9_method_36_code 40 = .ok (.ireturn, 1) := by decide +kernel
theorem d_O_common_0 : decode prog_9_method_38_code 0 = .ok (.aload_n 0, 1) := by decide +kernel
theorem d_O_common_1 : decode prog_9_method_38_code 1 = .ok (.iconst 1, 1) := by decide +kernel
theorem d_O_common_2 : decode prog_9_method_38_code 2 = .ok (.invokevirtual 72, 3) := by decide +kernel
theorem d_O_common_5 : decode prog_9_method_38_code 5 = .ok (.ifCond .eq 32, 3) := by decide +kernel
theorem d_O_common_8 : decode prog_9_method_38_code 8 = .ok (.aload_n 0, 1) := by decide +kernel
theorem d_O_common_9 : decode prog_9_method_38_code 9 = .ok (.iload_n 1, 1) := by decide +kernel
theorem d_O_common_10 : decode prog_9_method_38_code 10 = .ok (.iload_n 2, 1) := by decide +kernel
theorem d_O_common_11 : decode prog_9_method_38_code 11 = .ok (.invokevirtual 156, 3) := by decide +kernel
theorem d_O_common_14 : decode prog_9_method_38_code 14 = .ok (.ifCond .eq 23, 3) := by decide +kernel
theorem d_O_common_37 : decode prog_9_method_38_code 37 = .ok (.aload_n 0, 1) := by decide +kernel
theorem d_O_common_38 : decode prog_9_method_38_code 38 = .ok (.getfield 62, 3) := by decide +kernel
theorem d_O_common_41 : decode prog_9_method_38_code 41 = .ok (.ifCond .ne 7, 3) := by decide +kernel
theorem d_O_common_44 : decode prog_9_method_38_code 44 = .ok (.iconst (-1), 1) := by decide +kernel
theorem d_O_common_45 : decode prog_9_method_38_code 45 = .ok (.goto 4, 3) := by decide +kernel
theorem d_O_common_49 : decode prog_9_method_38_code 49 = .ok (.ireturn, 1) := by decide +kernel
theorem d_O_about_0 : decode prog_9_method_33_code 0 = .ok (.aload_n 0, 1) := by decide +kernel
theorem d_O_about_1 : decode prog_9_method_33_code 1 = .ok (.iconst 3, 1) := by decide +kernel
theorem d_O_about_2 : decode prog_9_method_33_code 2 = .ok (.invokevirtual 72, 3) := by decide +kernel
theorem d_O_about_5 : decode prog_9_method_33_code 5 = .ok (.ifCond .ne 5, 3) := by decide +kernel
theorem d_O_about_10 : decode prog_9_method_33_code 10 = .ok (.aload_n 0, 1) := by decide +kernel
theorem d_O_about_11 : decode prog_9_method_33_code 11 = .ok (.aload_n 0, 1) := by decide +kernel
theorem d_O_about_12 : decode prog_9_method_33_code 12 = .ok (.iload_n 1, 1) := by decide +kernel
theorem d_O_about_13 : decode prog_9_method_33_code 13 = .ok (.invokevirtual 79, 3) := by decide +kernel
theorem d_O_about_16 : decode prog_9_method_33_code 16 = .ok (.ifCond .ne 7, 3) := by decide +kernel
theorem d_O_about_19 : decode prog_9_method_33_code 19 = .ok (.iconst 1, 1) := by decide +kernel
theorem d_O_about_20 : decode prog_9_method_33_code 20 = .ok (.goto 17, 3) := by decide +kernel
theorem d_O_about_37 : decode prog_9_method_33_code 37 = .ok (.putfield 62, 3) := by decide +kernel
theorem d_O_about_40 : decode prog_9_method_33_code 40 = .ok (.aload_n 0, 1) := by decide +kernel
theorem d_O_about_41 : decode prog_9_method_33_code 41 = .ok (.getfield 62, 3) := by decide +kernel
theorem d_O_about_44 : decode prog_9_method_33_code 44 = .ok (.ifCond .eq 7, 3) := by decide +kernel
theorem d_O_about_47 : decode prog_9_method_33_code 47 = .ok (.iconst 0, 1) := by decide +kernel
theorem d_O_about_48 : decode prog_9_method_33_code 48 = .ok (.goto 37, 3) := by decide +kernel
theorem d_O_about_85 : decode prog_9_method_33_code 85 = .ok (.ireturn, 1) := by decide +kernel
theorem d_O_revision_0 : decode prog_9_method_34_code 0 = .ok (.aload_n 0, 1) := by decide +kernel
theorem d_O_revision_1 : decode prog_9_method_34_code 1 = .ok (.iconst 3, 1) := by decide +kernel
theorem d_O_revision_2 : decode prog_9_method_34_code 2 = .ok (.invokevirtual 72, 3) := by decide +kernel
theorem d_O_revision_5 : decode prog_9_method_34_code 5 = .ok (.ifCond .ne 5, 3) := by decide +kernel
theorem d_O_revision_10 : decode prog_9_method_34_code 10 = .ok (.aload_n 0, 1) := by decide +kernel
theorem d_O_revision_11 : decode prog_9_method_34_code 11 = .ok (.iload_n 1, 1) := by decide +kernel
theorem d_O_revision_12 : decode prog_9_method_34_code 12 = .ok (.iload_n 2, 1) := by decide +kernel
theorem d_O_revision_13 : decode prog_9_method_34_code 13 = .ok (.invokevirtual 162, 3) := by decide +kernel
theorem d_O_revision_16 : decode prog_9_method_34_code 16 = .ok (.istore 4, 2) := by decide +kernel
theorem d_O_revision_18 : decode prog_9_method_34_code 18 = .ok (.aload_n 0, 1) := by decide +kernel
theorem d_O_revision_19 : decode prog_9_method_34_code 19 = .ok (.iload 4, 2) := by decide +kernel
theorem d_O_revision_21 : decode prog_9_method_34_code 21 = .ok (.iconst (-1), 1) := by decide +kernel
theorem d_O_revision_22 : decode prog_9_method_34_code 22 = .ok (.if_icmp .eq 17, 3) := by decide +kernel
theorem d_O_revision_39 : decode prog_9_method_34_code 39 = .ok (.iconst 1, 1) := by decide +kernel
theorem d_O_revision_40 : decode prog_9_method_34_code 40 = .ok (.goto 17, 3) := by decide +kernel
theorem d_O_revision_57 : decode prog_9_method_34_code 57 = .ok (.putfield 62, 3) := by decide +kernel
theorem d_O_revision_60 : decode prog_9_method_34_code 60 = .ok (.aload_n 0, 1) := by decide +kernel
theorem d_O_revision_61 : decode prog_9_method_34_code 61 = .ok (.getfield 62, 3) := by decide +kernel
theorem d_O_revision_64 : decode prog_9_method_34_code 64 = .ok (.ifCond .eq 7, 3) := by decide +kernel
theorem d_O_revision_67 : decode prog_9_method_34_code 67 = .ok (.iconst 0, 1) := by decide +kernel
theorem d_O_revision_68 : decode prog_9_method_34_code 68 = .ok (.goto 39, 3) := by decide +kernel
theorem d_O_revision_107 : decode prog_9_method_34_code 107 = .ok (.ireturn, 1) := by decide +kernel
theorem d_O_out_0 : decode prog_9_method_29_code 0 = .ok (.aload_n 0, 1) := by decide +kernel
theorem d_O_out_1 : decode prog_9_method_29_code 1 = .ok (.iconst 1, 1) := by decide +kernel
theorem d_O_out_2 : decode prog_9_method_29_code 2 = .ok (.invokevirtual 72, 3) := by decide +kernel
theorem d_O_out_5 : decode prog_9_method_29_code 5 = .ok (.ifCond .ne 5, 3) := by decide +kernel
theorem d_O_out_10 : decode prog_9_method_29_code 10 = .ok (.iload_n 1, 1) := by decide +kernel
theorem d_O_out_11 : decode prog_9_method_29_code 11 = .ok (.ifCond .lt 24, 3) := by decide +kernel
theorem d_O_out_14 : decode prog_9_method_29_code 14 = .ok (.iload_n 1, 1) := by decide +kernel
theorem d_O_out_15 : decode prog_9_method_29_code 15 = .ok (.aload_n 0, 1) := by decide +kernel
theorem d_O_out_16 : decode prog_9_method_29_code 16 = .ok (.getfield 50, 3) := by decide +kernel
theorem d_O_out_19 : decode prog_9_method_29_code 19 = .ok (.if_icmp .ge 16, 3) := by decide +kernel
theorem d_O_out_35 : decode prog_9_method_29_code 35 = .ok (.iconst (-1), 1) := by decide +kernel
theorem d_O_out_36 : decode prog_9_method_29_code 36 = .ok (.ireturn, 1) := by decide +kernel
theorem d_O_steps_0 : decode prog_9_method_30_code 0 = .ok (.aload_n 0, 1) := by decide +kernel
theorem d_O_steps_1 : decode prog_9_method_30_code 1 = .ok (.iconst 1, 1) := by decide +kernel
theorem d_O_steps_2 : decode prog_9_method_30_code 2 = .ok (.invokevirtual 72, 3) := by decide +kernel
theorem d_O_steps_5 : decode prog_9_method_30_code 5 = .ok (.ifCond .eq 10, 3) := by decide +kernel
theorem d_O_steps_8 : decode prog_9_method_30_code 8 = .ok (.aload_n 0, 1) := by decide +kernel
theorem d_O_steps_9 : decode prog_9_method_30_code 9 = .ok (.getfield 53, 3) := by decide +kernel
theorem d_O_steps_12 : decode prog_9_method_30_code 12 = .ok (.goto 4, 3) := by decide +kernel
theorem d_O_steps_16 : decode prog_9_method_30_code 16 = .ok (.ireturn, 1) := by decide +kernel
theorem d_O_start_0 : decode prog_9_method_41_code 0 = .ok (.aload_n 0, 1) := by decide +kernel
theorem d_O_start_1 : decode prog_9_method_41_code 1 = .ok (.iconst 0, 1) := by decide +kernel
theorem d_O_start_2 : decode prog_9_method_41_code 2 = .ok (.putfield 62, 3) := by decide +kernel
theorem d_O_start_5 : decode prog_9_method_41_code 5 = .ok (.aload_n 0, 1) := by decide +kernel
theorem d_O_start_6 : decode prog_9_method_41_code 6 = .ok (.getfield 65, 3) := by decide +kernel
theorem d_O_start_9 : decode prog_9_method_41_code 9 = .ok (.istore_n 1, 1) := by decide +kernel
theorem d_O_start_10 : decode prog_9_method_41_code 10 = .ok (.aload_n 0, 1) := by decide +kernel
theorem d_O_start_11 : decode prog_9_method_41_code 11 = .ok (.iconst 0, 1) := by decide +kernel
theorem d_O_start_12 : decode prog_9_method_41_code 12 = .ok (.putfield 65, 3) := by decide +kernel
theorem d_O_start_15 : decode prog_9_method_41_code 15 = .ok (.aload_n 0, 1) := by decide +kernel
theorem d_O_start_16 : decode prog_9_method_41_code 16 = .ok (.iload_n 1, 1) := by decide +kernel
theorem d_O_start_17 : decode prog_9_method_41_code 17 = .ok (.ifCond .eq 7, 3) := by decide +kernel
theorem d_O_start_24 : decode prog_9_method_41_code 24 = .ok (.aload_n 0, 1) := by decide +kernel
theorem d_O_start_25 : decode prog_9_method_41_code 25 = .ok (.getfield 9, 3) := by decide +kernel
theorem d_O_start_28 : decode prog_9_method_41_code 28 = .ok (.putfield 9, 3) := by decide +kernel
theorem d_O_start_31 : decode prog_9_method_41_code 31 = .ok (.iload_n 1, 1) := by decide +kernel
theorem d_O_start_32 : decode prog_9_method_41_code 32 = .ok (.ireturn, 1) := by decide +kernel
theorem d_O_isDown_0 : decode prog_9_method_42_code 0 = .ok (.aload_n 0, 1) := by decide +kernel
theorem d_O_isDown_1 : decode prog_9_method_42_code 1 = .ok (.iconst 0, 1) := by decide +kernel
theorem d_O_isDown_2 : decode prog_9_method_42_code 2 = .ok (.putfield 62, 3) := by decide +kernel
theorem d_O_isDown_5 : decode prog_9_method_42_code 5 = .ok (.aload_n 0, 1) := by decide +kernel
theorem d_O_isDown_6 : decode prog_9_method_42_code 6 = .ok (.getfield 65, 3) := by decide +kernel
theorem d_O_isDown_9 : decode prog_9_method_42_code 9 = .ok (.ireturn, 1) := by decide +kernel
theorem d_O_end_0 : decode prog_9_method_6_code 0 = .ok (.aload_n 0, 1) := by decide +kernel
theorem d_O_end_1 : decode prog_9_method_6_code 1 = .ok (.iconst 1, 1) := by decide +kernel
theorem d_O_end_2 : decode prog_9_method_6_code 2 = .ok (.invokevirtual 72, 3) := by decide +kernel
theorem d_O_end_5 : decode prog_9_method_6_code 5 = .ok (.ifCond .eq 15, 3) := by decide +kernel
theorem d_O_end_8 : decode prog_9_method_6_code 8 = .ok (.iload_n 1, 1) := by decide +kernel
theorem d_O_end_9 : decode prog_9_method_6_code 9 = .ok (.ifCond .lt 11, 3) := by decide +kernel
theorem d_O_end_12 : decode prog_9_method_6_code 12 = .ok (.iload_n 1, 1) := by decide +kernel
theorem d_O_end_13 : decode prog_9_method_6_code 13 = .ok (.aload_n 0, 1) := by decide +kernel
theorem d_O_end_14 : decode prog_9_method_6_code 14 = .ok (.getfield 69, 3) := by decide +kernel
theorem d_O_end_17 : decode prog_9_method_6_code 17 = .ok (.if_icmp .le 5, 3) := by decide +kernel
theorem d_O_end_20 : decode prog_9_method_6_code 20 = .ok (.iconst 0, 1) := by decide +kernel
theorem d_O_end_21 : decode prog_9_method_6_code 21 = .ok (.ireturn, 1) := by decide +kernel
theorem d_O_end_22 : decode prog_9_method_6_code 22 = .ok (.aload_n 0, 1) := by decide +kernel
theorem d_O_end_23 : decode prog_9_method_6_code 23 = .ok (.iload_n 1, 1) := by decide +kernel
theorem d_O_end_24 : decode prog_9_method_6_code 24 = .ok (.putfield 69, 3) := by decide +kernel
theorem d_O_end_27 : decode prog_9_method_6_code 27 = .ok (.iconst 1, 1) := by decide +kernel
theorem d_O_end_28 : decode prog_9_method_6_code 28 = .ok (.ireturn, 1) := by decide +kernel
theorem d_O_cutAfter_0 : decode prog_9_method_40_code 0 = .ok (.aload_n 0, 1) := by decide +kernel
theorem d_O_cutAfter_1 : decode prog_9_method_40_code 1 = .ok (.iconst 1, 1) := by decide +kernel
theorem d_O_cutAfter_2 : decode prog_9_method_40_code 2 = .ok (.invokevirtual 72, 3) := by decide +kernel
theorem d_O_cutAfter_5 : decode prog_9_method_40_code 5 = .ok (.ifCond .eq 7, 3) := by decide +kernel
theorem d_O_cutAfter_8 : decode prog_9_method_40_code 8 = .ok (.iload_n 1, 1) := by decide +kernel
theorem d_O_cutAfter_9 : decode prog_9_method_40_code 9 = .ok (.ifCond .ge 5, 3) := by decide +kernel
theorem d_O_cutAfter_12 : decode prog_9_method_40_code 12 = .ok (.iconst 0, 1) := by decide +kernel
theorem d_O_cutAfter_13 : decode prog_9_method_40_code 13 = .ok (.ireturn, 1) := by decide +kernel
theorem d_O_cutAfter_14 : decode prog_9_method_40_code 14 = .ok (.aload_n 0, 1) := by decide +kernel
theorem d_O_cutAfter_15 : decode prog_9_method_40_code 15 = .ok (.iload_n 1, 1) := by decide +kernel
theorem d_O_cutAfter_16 : decode prog_9_method_40_code 16 = .ok (.putfield 9, 3) := by decide +kernel
theorem d_O_cutAfter_19 : decode prog_9_method_40_code 19 = .ok (.iconst 1, 1) := by decide +kernel
theorem d_O_cutAfter_20 : decode prog_9_method_40_code 20 = .ok (.ireturn, 1) := by decide +kernel
theorem d_O_init_0 : decode prog_9_method_1_code 0 = .ok (.aload_n 0, 1) := by decide +kernel
theorem d_O_init_1 : decode prog_9_method_1_code 1 = .ok (.invokespecial 1, 3) := by decide +kernel
theorem d_O_init_4 : decode prog_9_method_1_code 4 = .ok (.aload_n 0, 1) := by decide +kernel
theorem d_O_init_5 : decode prog_9_method_1_code 5 = .ok (.iconst (-1), 1) := by decide +kernel
theorem d_O_init_6 : decode prog_9_method_1_code 6 = .ok (.putfield 9, 3) := by decide +kernel
theorem d_O_init_9 : decode prog_9_method_1_code 9 = .ok (.aload_n 0, 1) := by decide +kernel
theorem d_O_init_10 : decode prog_9_method_1_code 10 = .ok (.sipush 256, 3) := by decide +kernel
theorem d_O_init_13 : decode prog_9_method_1_code 13 = .ok (.newarray .byte, 2) := by decide +kernel
theorem d_O_init_15 : decode prog_9_method_1_code 15 = .ok (.putfield 13, 3) := by decide +kernel
theorem d_O_init_18 : decode prog_9_method_1_code 18 = .ok (.aload_n 0, 1) := by decide +kernel
theorem d_O_init_19 : decode prog_9_method_1_code 19 = .ok (.bipush 8, 2) := by decide +kernel
theorem d_O_init_21 : decode prog_9_method_1_code 21 = .ok (.newarray .boolean, 2) := by decide +kernel
theorem d_O_init_23 : decode prog_9_method_1_code 23 = .ok (.putfield 17, 3) := by decide +kernel
theorem d_O_init_26 : decode prog_9_method_1_code 26 = .ok (.aload_n 0, 1) := by decide +kernel
theorem d_O_init_27 : decode prog_9_method_1_code 27 = .ok (.bipush 8, 2) := by decide +kernel
theorem d_O_init_29 : decode prog_9_method_1_code 29 = .ok (.newarray .int, 2) := by decide +kernel
theorem d_O_init_31 : decode prog_9_method_1_code 31 = .ok (.putfield 21, 3) := by decide +kernel
theorem d_O_init_34 : decode prog_9_method_1_code 34 = .ok (.aload_n 0, 1) := by decide +kernel
theorem d_O_init_35 : decode prog_9_method_1_code 35 = .ok (.bipush 8, 2) := by decide +kernel
theorem d_O_init_37 : decode prog_9_method_1_code 37 = .ok (.newarray .int, 2) := by decide +kernel
theorem d_O_init_39 : decode prog_9_method_1_code 39 = .ok (.putfield 25, 3) := by decide +kernel
theorem d_O_init_42 : decode prog_9_method_1_code 42 = .ok (.aload_n 0, 1) := by decide +kernel
theorem d_O_init_43 : decode prog_9_method_1_code 43 = .ok (.sipush 512, 3) := by decide +kernel
theorem d_O_init_46 : decode prog_9_method_1_code 46 = .ok (.newarray .short, 2) := by decide +kernel
theorem d_O_init_48 : decode prog_9_method_1_code 48 = .ok (.putfield 28, 3) := by decide +kernel
theorem d_O_init_51 : decode prog_9_method_1_code 51 = .ok (.aload_n 0, 1) := by decide +kernel
theorem d_O_init_52 : decode prog_9_method_1_code 52 = .ok (.sipush 512, 3) := by decide +kernel
theorem d_O_init_55 : decode prog_9_method_1_code 55 = .ok (.newarray .int, 2) := by decide +kernel
theorem d_O_init_57 : decode prog_9_method_1_code 57 = .ok (.putfield 32, 3) := by decide +kernel
theorem d_O_init_60 : decode prog_9_method_1_code 60 = .ok (.aload_n 0, 1) := by decide +kernel
theorem d_O_init_61 : decode prog_9_method_1_code 61 = .ok (.sipush 512, 3) := by decide +kernel
theorem d_O_init_64 : decode prog_9_method_1_code 64 = .ok (.newarray .int, 2) := by decide +kernel
theorem d_O_init_66 : decode prog_9_method_1_code 66 = .ok (.putfield 35, 3) := by decide +kernel
theorem d_O_init_69 : decode prog_9_method_1_code 69 = .ok (.aload_n 0, 1) := by decide +kernel
theorem d_O_init_70 : decode prog_9_method_1_code 70 = .ok (.sipush 16384, 3) := by decide +kernel
theorem d_O_init_73 : decode prog_9_method_1_code 73 = .ok (.newarray .byte, 2) := by decide +kernel
theorem d_O_init_75 : decode prog_9_method_1_code 75 = .ok (.putfield 38, 3) := by decide +kernel
theorem d_O_init_78 : decode prog_9_method_1_code 78 = .ok (.aload_n 0, 1) := by decide +kernel
theorem d_O_init_79 : decode prog_9_method_1_code 79 = .ok (.sipush 256, 3) := by decide +kernel
theorem d_O_init_82 : decode prog_9_method_1_code 82 = .ok (.newarray .byte, 2) := by decide +kernel
theorem d_O_init_84 : decode prog_9_method_1_code 84 = .ok (.putfield 41, 3) := by decide +kernel
theorem d_O_init_87 : decode prog_9_method_1_code 87 = .ok (.aload_n 0, 1) := by decide +kernel
theorem d_O_init_88 : decode prog_9_method_1_code 88 = .ok (.sipush 256, 3) := by decide +kernel
theorem d_O_init_91 : decode prog_9_method_1_code 91 = .ok (.newarray .byte, 2) := by decide +kernel
theorem d_O_init_93 : decode prog_9_method_1_code 93 = .ok (.putfield 44, 3) := by decide +kernel
theorem d_O_init_96 : decode prog_9_method_1_code 96 = .ok (.aload_n 0, 1) := by decide +kernel
theorem d_O_init_97 : decode prog_9_method_1_code 97 = .ok (.sipush 256, 3) := by decide +kernel
theorem d_O_init_100 : decode prog_9_method_1_code 100 = .ok (.newarray .byte, 2) := by decide +kernel
theorem d_O_init_102 : decode prog_9_method_1_code 102 = .ok (.putfield 47, 3) := by decide +kernel
theorem d_O_init_105 : decode prog_9_method_1_code 105 = .ok (.aload_n 0, 1) := by decide +kernel
theorem d_O_init_106 : decode prog_9_method_1_code 106 = .ok (.iconst (-1), 1) := by decide +kernel
theorem d_O_init_107 : decode prog_9_method_1_code 107 = .ok (.putfield 50, 3) := by decide +kernel
theorem d_O_init_110 : decode prog_9_method_1_code 110 = .ok (.aload_n 0, 1) := by decide +kernel
theorem d_O_init_111 : decode prog_9_method_1_code 111 = .ok (.iconst (-1), 1) := by decide +kernel
theorem d_O_init_112 : decode prog_9_method_1_code 112 = .ok (.putfield 53, 3) := by decide +kernel
theorem d_O_init_115 : decode prog_9_method_1_code 115 = .ok (.aload_n 0, 1) := by decide +kernel
theorem d_O_init_116 : decode prog_9_method_1_code 116 = .ok (.sipush 256, 3) := by decide +kernel
theorem d_O_init_119 : decode prog_9_method_1_code 119 = .ok (.newarray .byte, 2) := by decide +kernel
theorem d_O_init_121 : decode prog_9_method_1_code 121 = .ok (.putfield 56, 3) := by decide +kernel
theorem d_O_init_124 : decode prog_9_method_1_code 124 = .ok (.aload_n 0, 1) := by decide +kernel
theorem d_O_init_125 : decode prog_9_method_1_code 125 = .ok (.sipush 600, 3) := by decide +kernel
theorem d_O_init_128 : decode prog_9_method_1_code 128 = .ok (.newarray .byte, 2) := by decide +kernel
theorem d_O_init_130 : decode prog_9_method_1_code 130 = .ok (.putfield 59, 3) := by decide +kernel
theorem d_O_init_133 : decode prog_9_method_1_code 133 = .ok (.iconst 0, 1) := by decide +kernel
theorem d_O_init_134 : decode prog_9_method_1_code 134 = .ok (.istore_n 1, 1) := by decide +kernel
theorem d_O_init_135 : decode prog_9_method_1_code 135 = .ok (.iload_n 1, 1) := by decide +kernel
theorem d_O_init_136 : decode prog_9_method_1_code 136 = .ok (.sipush 512, 3) := by decide +kernel
theorem d_O_init_139 : decode prog_9_method_1_code 139 = .ok (.if_icmp .ge 16, 3) := by decide +kernel
theorem d_O_init_142 : decode prog_9_method_1_code 142 = .ok (.aload_n 0, 1) := by decide +kernel
theorem d_O_init_143 : decode prog_9_method_1_code 143 = .ok (.getfield 28, 3) := by decide +kernel
theorem d_O_init_146 : decode prog_9_method_1_code 146 = .ok (.iload_n 1, 1) := by decide +kernel
theorem d_O_init_147 : decode prog_9_method_1_code 147 = .ok (.iconst (-1), 1) := by decide +kernel
theorem d_O_init_148 : decode prog_9_method_1_code 148 = .ok (.sastore, 1) := by decide +kernel
theorem d_O_init_149 : decode prog_9_method_1_code 149 = .ok (.iinc 1 1, 3) := by decide +kernel
theorem d_O_init_152 : decode prog_9_method_1_code 152 = .ok (.goto (-17), 3) := by decide +kernel
theorem d_O_init_155 : decode prog_9_method_1_code 155 = .ok (.return_, 1) := by decide +kernel
theorem d_O_feed_0 : decode prog_9_method_5_code 0 = .ok (.aload_n 0, 1) := by decide +kernel
theorem d_O_feed_1 : decode prog_9_method_5_code 1 = .ok (.iconst 1, 1) := by decide +kernel
theorem d_O_feed_2 : decode prog_9_method_5_code 2 = .ok (.invokevirtual 72, 3) := by decide +kernel
theorem d_O_feed_5 : decode prog_9_method_5_code 5 = .ok (.ifCond .eq 16, 3) := by decide +kernel
theorem d_O_feed_8 : decode prog_9_method_5_code 8 = .ok (.aload_n 0, 1) := by decide +kernel
theorem d_O_feed_9 : decode prog_9_method_5_code 9 = .ok (.getfield 69, 3) := by decide +kernel
theorem d_O_feed_12 : decode prog_9_method_5_code 12 = .ok (.bipush 20, 2) := by decide +kernel
theorem d_O_feed_14 : decode prog_9_method_5_code 14 = .ok (.iadd, 1) := by decide +kernel
theorem d_O_feed_15 : decode prog_9_method_5_code 15 = .ok (.sipush 256, 3) := by decide +kernel
theorem d_O_feed_18 : decode prog_9_method_5_code 18 = .ok (.if_icmp .le 5, 3) := by decide +kernel
theorem d_O_feed_23 : decode prog_9_method_5_code 23 = .ok (.iconst 0, 1) := by decide +kernel
theorem d_O_feed_24 : decode prog_9_method_5_code 24 = .ok (.istore 6, 2) := by decide +kernel
theorem d_O_feed_26 : decode prog_9_method_5_code 26 = .ok (.iload 6, 2) := by decide +kernel
theorem d_O_feed_28 : decode prog_9_method_5_code 28 = .ok (.bipush 20, 2) := by decide +kernel
theorem d_O_feed_30 : decode prog_9_method_5_code 30 = .ok (.if_icmp .ge 90, 3) := by decide +kernel
theorem d_O_feed_33 : decode prog_9_method_5_code 33 = .ok (.iload 6, 2) := by decide +kernel
theorem d_O_feed_35 : decode prog_9_method_5_code 35 = .ok (.iconst 4, 1) := by decide +kernel
theorem d_O_feed_36 : decode prog_9_method_5_code 36 = .ok (.if_icmp .ge 7, 3) := by decide +kernel
theorem d_O_feed_39 : decode prog_9_method_5_code 39 = .ok (.iload_n 1, 1) := by decide +kernel
theorem d_O_feed_40 : decode prog_9_method_5_code 40 = .ok (.goto 39, 3) := by decide +kernel
theorem d_O_feed_43 : decode prog_9_method_5_code 43 = .ok (.iload 6, 2) := by decide +kernel
theorem d_O_feed_45 : decode prog_9_method_5_code 45 = .ok (.bipush 8, 2) := by decide +kernel
theorem d_O_feed_47 : decode prog_9_method_5_code 47 = .ok (.if_icmp .ge 7, 3) := by decide +kernel
theorem d_O_feed_50 : decode prog_9_method_5_code 50 = .ok (.iload_n 2, 1) := by decide +kernel
theorem d_O_feed_51 : decode prog_9_method_5_code 51 = .ok (.goto 28, 3) := by decide +kernel
theorem d_O_feed_54 : decode prog_9_method_5_code 54 = .ok (.iload 6, 2) := by decide +kernel
theorem d_O_feed_56 : decode prog_9_method_5_code 56 = .ok (.bipush 12, 2) := by decide +kernel
theorem d_O_feed_58 : decode prog_9_method_5_code 58 = .ok (.if_icmp .ge 7, 3) := by decide +kernel
theorem d_O_feed_61 : decode prog_9_method_5_code 61 = .ok (.iload_n 3, 1) := by decide +kernel
theorem d_O_feed_62 : decode prog_9_method_5_code 62 = .ok (.goto 17, 3) := by decide +kernel
theorem d_O_feed_65 : decode prog_9_method_5_code 65 = .ok (.iload 6, 2) := by decide +kernel
theorem d_O_feed_67 : decode prog_9_method_5_code 67 = .ok (.bipush 16, 2) := by decide +kernel
theorem d_O_feed_69 : decode prog_9_method_5_code 69 = .ok (.if_icmp .ge 8, 3) := by decide +kernel
theorem d_O_feed_72 : decode prog_9_method_5_code 72 = .ok (.iload 4, 2) := by decide +kernel
theorem d_O_feed_74 : decode prog_9_method_5_code 74 = .ok (.goto 5, 3) := by decide +kernel
theorem d_O_feed_77 : decode prog_9_method_5_code 77 = .ok (.iload 5, 2) := by decide +kernel
theorem d_O_feed_79 : decode prog_9_method_5_code 79 = .ok (.istore 7, 2) := by decide +kernel
theorem d_O_feed_81 : decode prog_9_method_5_code 81 = .ok (.aload_n 0, 1) := by decide +kernel
theorem d_O_feed_82 : decode prog_9_method_5_code 82 = .ok (.getfield 13, 3) := by decide +kernel
theorem d_O_feed_85 : decode prog_9_method_5_code 85 = .ok (.aload_n 0, 1) := by decide +kernel
theorem d_O_feed_86 : decode prog_9_method_5_code 86 = .ok (.getfield 69, 3) := by decide +kernel
theorem d_O_feed_89 : decode prog_9_method_5_code 89 = .ok (.iload 7, 2) := by decide +kernel
theorem d_O_feed_91 : decode prog_9_method_5_code 91 = .ok (.bipush 24, 2) := by decide +kernel
theorem d_O_feed_93 : decode prog_9_method_5_code 93 = .ok (.bipush 8, 2) := by decide +kernel
theorem d_O_feed_95 : decode prog_9_method_5_code 95 = .ok (.iload 6, 2) := by decide +kernel
theorem d_O_feed_97 : decode prog_9_method_5_code 97 = .ok (.iconst 4, 1) := by decide +kernel
theorem d_O_feed_98 : decode prog_9_method_5_code 98 = .ok (.irem, 1) := by decide +kernel
theorem d_O_feed_99 : decode prog_9_method_5_code 99 = .ok (.imul, 1) := by decide +kernel
theorem d_O_feed_100 : decode prog_9_method_5_code 100 = .ok (.isub, 1) := by decide +kernel
theorem d_O_feed_101 : decode prog_9_method_5_code 101 = .ok (.ishr, 1) := by decide +kernel
theorem d_O_feed_102 : decode prog_9_method_5_code 102 = .ok (.i2b, 1) := by decide +kernel
theorem d_O_feed_103 : decode prog_9_method_5_code 103 = .ok (.bastore, 1) := by decide +kernel
theorem d_O_feed_104 : decode prog_9_method_5_code 104 = .ok (.aload_n 0, 1) := by decide +kernel
theorem d_O_feed_105 : decode prog_9_method_5_code 105 = .ok (.dup, 1) := by decide +kernel
theorem d_O_feed_106 : decode prog_9_method_5_code 106 = .ok (.getfield 69, 3) := by decide +kernel
theorem d_O_feed_109 : decode prog_9_method_5_code 109 = .ok (.iconst 1, 1) := by decide +kernel
theorem d_O_feed_110 : decode prog_9_method_5_code 110 = .ok (.iadd, 1) := by decide +kernel
theorem d_O_feed_111 : decode prog_9_method_5_code 111 = .ok (.putfield 69, 3) := by decide +kernel
theorem d_O_feed_114 : decode prog_9_method_5_code 114 = .ok (.iinc 6 1, 3) := by decide +kernel
theorem d_O_feed_117 : decode prog_9_method_5_code 117 = .ok (.goto (-91), 3) := by decide +kernel
theorem d_O_feed_120 : decode prog_9_method_5_code 120 = .ok (.iconst 1, 1) := by decide +kernel
theorem d_O_feed_121 : decode prog_9_method_5_code 121 = .ok (.ireturn, 1) := by decide +kernel
theorem d_O_free_0 : decode prog_9_method_12_code 0 = .ok (.sipush 512, 3) := by decide +kernel
theorem d_O_free_3 : decode prog_9_method_12_code 3 = .ok (.istore_n 1, 1) := by decide +kernel
theorem d_O_free_4 : decode prog_9_method_12_code 4 = .ok (.iconst 0, 1) := by decide +kernel
theorem d_O_free_5 : decode prog_9_method_12_code 5 = .ok (.istore_n 2, 1) := by decide +kernel
theorem d_O_free_6 : decode prog_9_method_12_code 6 = .ok (.iload_n 2, 1) := by decide +kernel
theorem d_O_free_7 : decode prog_9_method_12_code 7 = .ok (.sipush 512, 3) := by decide +kernel
theorem d_O_free_10 : decode prog_9_method_12_code 10 = .ok (.if_icmp .ge 34, 3) := by decide +kernel
theorem d_O_free_13 : decode prog_9_method_12_code 13 = .ok (.iload_n 1, 1) := by decide +kernel
theorem d_O_free_14 : decode prog_9_method_12_code 14 = .ok (.aload_n 0, 1) := by decide +kernel
theorem d_O_free_15 : decode prog_9_method_12_code 15 = .ok (.getfield 28, 3) := by decide +kernel
theorem d_O_free_18 : decode prog_9_method_12_code 18 = .ok (.iload_n 2, 1) := by decide +kernel
theorem d_O_free_19 : decode prog_9_method_12_code 19 = .ok (.saload, 1) := by decide +kernel
theorem d_O_free_20 : decode prog_9_method_12_code 20 = .ok (.ifCond .le 15, 3) := by decide +kernel
theorem d_O_free_35 : decode prog_9_method_12_code 35 = .ok (.iconst 0, 1) := by decide +kernel
theorem d_O_free_36 : decode prog_9_method_12_code 36 = .ok (.isub, 1) := by decide +kernel
theorem d_O_free_37 : decode prog_9_method_12_code 37 = .ok (.istore_n 1, 1) := by decide +kernel
theorem d_O_free_38 : decode prog_9_method_12_code 38 = .ok (.iinc 2 1, 3) := by decide +kernel
theorem d_O_free_41 : decode prog_9_method_12_code 41 = .ok (.goto (-35), 3) := by decide +kernel
theorem d_O_free_44 : decode prog_9_method_12_code 44 = .ok (.iload_n 1, 1) := by decide +kernel
theorem d_O_free_45 : decode prog_9_method_12_code 45 = .ok (.ireturn, 1) := by decide +kernel
theorem d_O_verify_0 : decode prog_9_method_37_code 0 = .ok (.aload_n 0, 1) := by decide +kernel
theorem d_O_verify_1 : decode prog_9_method_37_code 1 = .ok (.iconst 1, 1) := by decide +kernel
theorem d_O_verify_2 : decode prog_9_method_37_code 2 = .ok (.invokevirtual 72, 3) := by decide +kernel
theorem d_O_verify_5 : decode prog_9_method_37_code 5 = .ok (.ifCond .ne 5, 3) := by decide +kernel
theorem d_O_verify_10 : decode prog_9_method_37_code 10 = .ok (.iconst 0, 1) := by decide +kernel
theorem d_O_verify_11 : decode prog_9_method_37_code 11 = .ok (.istore_n 2, 1) := by decide +kernel
theorem d_O_verify_12 : decode prog_9_method_37_code 12 = .ok (.iload_n 2, 1) := by decide +kernel
theorem d_O_verify_13 : decode prog_9_method_37_code 13 = .ok (.bipush 64, 2) := by decide +kernel
theorem d_O_verify_15 : decode prog_9_method_37_code 15 = .ok (.if_icmp .ge 55, 3) := by decide +kernel
theorem d_O_verify_18 : decode prog_9_method_37_code 18 = .ok (.aload_n 0, 1) := by decide +kernel
theorem d_O_verify_19 : decode prog_9_method_37_code 19 = .ok (.iload_n 1, 1) := by decide +kernel
theorem d_O_verify_20 : decode prog_9_method_37_code 20 = .ok (.iload_n 2, 1) := by decide +kernel
theorem d_O_verify_21 : decode prog_9_method_37_code 21 = .ok (.invokevirtual 156, 3) := by decide +kernel
theorem d_O_verify_24 : decode prog_9_method_37_code 24 = .ok (.ifCond .eq 40, 3) := by decide +kernel
theorem d_O_verify_64 : decode prog_9_method_37_code 64 = .ok (.iinc 2 1, 3) := by decide +kernel
theorem d_O_verify_67 : decode prog_9_method_37_code 67 = .ok (.goto (-55), 3) := by decide +kernel
theorem d_O_verify_70 : decode prog_9_method_37_code 70 = .ok (.iconst (-1), 1) := by decide +kernel
theorem d_O_verify_71 : decode prog_9_method_37_code 71 = .ok (.ireturn, 1) := by decide +kernel
theorem d_O_freeBlocks_0 : decode prog_9_method_39_code 0 = .ok (.aload_n 0, 1) := by decide +kernel
theorem d_O_freeBlocks_1 : decode prog_9_method_39_code 1 = .ok (.iconst 1, 1) := by decide +kernel
theorem d_O_freeBlocks_2 : decode prog_9_method_39_code 2 = .ok (.invokevirtual 72, 3) := by decide +kernel
theorem d_O_freeBlocks_5 : decode prog_9_method_39_code 5 = .ok (.ifCond .eq 10, 3) := by decide +kernel
theorem d_O_freeBlocks_8 : decode prog_9_method_39_code 8 = .ok (.aload_n 0, 1) := by decide +kernel
theorem d_O_freeBlocks_9 : decode prog_9_method_39_code 9 = .ok (.invokevirtual 148, 3) := by decide +kernel
theorem d_O_freeBlocks_12 : decode prog_9_method_39_code 12 = .ok (.goto 4, 3) := by decide +kernel
theorem d_O_freeBlocks_16 : decode prog_9_method_39_code 16 = .ok (.ireturn, 1) := by decide +kernel
theorem d_K_about_0 : decode prog_1_method_11_code 0 = .ok (.aload_n 0, 1) := by decide +kernel
theorem d_K_about_1 : decode prog_1_method_11_code 1 = .ok (.invokevirtual 56, 3) := by decide +kernel
theorem d_K_about_4 : decode prog_1_method_11_code 4 = .ok (.aload_n 0, 1) := by decide +kernel
theorem d_K_about_5 : decode prog_1_method_11_code 5 = .ok (.iload_n 1, 1) := by decide +kernel
theorem d_K_about_6 : decode prog_1_method_11_code 6 = .ok (.invokevirtual 74, 3) := by decide +kernel
theorem d_K_about_9 : decode prog_1_method_11_code 9 = .ok (.astore_n 3, 1) := by decide +kernel
theorem d_K_about_10 : decode prog_1_method_11_code 10 = .ok (.aload_n 3, 1) := by decide +kernel
theorem d_K_about_11 : decode prog_1_method_11_code 11 = .ok (.ifnonnull 11, 3) := by decide +kernel
theorem d_K_about_14 : decode prog_1_method_11_code 14 = .ok (.new 140, 3) := by decide +kernel
theorem d_K_about_17 : decode prog_1_method_11_code 17 = .ok (.dup, 1) := by decide +kernel
theorem d_K_about_18 : decode prog_1_method_11_code 18 = .ok (.invokespecial 142, 3) := by decide +kernel
theorem d_K_about_21 : decode prog_1_method_11_code 21 = .ok (.athrow, 1) := by decide +kernel
theorem d_L_about_0 : decode method_12_code 0 = .ok (.aload_n 3, 1) := by decide +kernel
theorem d_L_about_1 : decode method_12_code 1 = .ok (.iconst 0, 1) := by decide +kernel
theorem d_L_about_2 : decode method_12_code 2 = .ok (.aload_n 0, 1) := by decide +kernel
theorem d_L_about_3 : decode method_12_code 3 = .ok (.iload_n 1, 1) := by decide +kernel
theorem d_L_about_4 : decode method_12_code 4 = .ok (.iload_n 2, 1) := by decide +kernel
theorem d_L_about_5 : decode method_12_code 5 = .ok (.invokevirtual 44, 3) := by decide +kernel
theorem d_L_about_13 : decode method_12_code 13 = .ok (.astore 4, 2) := by decide +kernel
theorem d_L_about_15 : decode method_12_code 15 = .ok (.iconst 1, 1) := by decide +kernel
theorem d_L_about_16 : decode method_12_code 16 = .ok (.ireturn, 1) := by decide +kernel
theorem d_K_revision_0 : decode prog_1_method_12_code 0 = .ok (.aload_n 0, 1) := by decide +kernel
theorem d_K_revision_1 : decode prog_1_method_12_code 1 = .ok (.invokevirtual 56, 3) := by decide +kernel
theorem d_K_revision_4 : decode prog_1_method_12_code 4 = .ok (.aload_n 0, 1) := by decide +kernel
theorem d_K_revision_5 : decode prog_1_method_12_code 5 = .ok (.iload_n 1, 1) := by decide +kernel
theorem d_K_revision_6 : decode prog_1_method_12_code 6 = .ok (.invokevirtual 74, 3) := by decide +kernel
theorem d_K_revision_9 : decode prog_1_method_12_code 9 = .ok (.astore 4, 2) := by decide +kernel
theorem d_K_revision_11 : decode prog_1_method_12_code 11 = .ok (.aload_n 0, 1) := by decide +kernel
theorem d_K_revision_12 : decode prog_1_method_12_code 12 = .ok (.iload_n 1, 1) := by decide +kernel
theorem d_K_revision_13 : decode prog_1_method_12_code 13 = .ok (.iload_n 2, 1) := by decide +kernel
theorem d_K_revision_14 : decode prog_1_method_12_code 14 = .ok (.invokevirtual 149, 3) := by decide +kernel
theorem d_K_revision_17 : decode prog_1_method_12_code 17 = .ok (.astore 5, 2) := by decide +kernel
theorem d_K_revision_19 : decode prog_1_method_12_code 19 = .ok (.aload 4, 2) := by decide +kernel
theorem d_K_revision_21 : decode prog_1_method_12_code 21 = .ok (.ifnull 16, 3) := by decide +kernel
theorem d_K_revision_37 : decode prog_1_method_12_code 37 = .ok (.iconst 0, 1) := by decide +kernel
theorem d_K_revision_38 : decode prog_1_method_12_code 38 = .ok (.istore 6, 2) := by decide +kernel
theorem d_K_revision_40 : decode prog_1_method_12_code 40 = .ok (.aload 5, 2) := by decide +kernel
theorem d_K_revision_42 : decode prog_1_method_12_code 42 = .ok (.ifnull 17, 3) := by decide +kernel
theorem d_K_revision_59 : decode prog_1_method_12_code 59 = .ok (.new 140, 3) := by decide +kernel
theorem d_K_revision_62 : decode prog_1_method_12_code 62 = .ok (.dup, 1) := by decide +kernel
theorem d_K_revision_63 : decode prog_1_method_12_code 63 = .ok (.invokespecial 142, 3) := by decide +kernel
theorem d_K_revision_66 : decode prog_1_method_12_code 66 = .ok (.athrow, 1) := by decide +kernel
theorem d_L_revision_0 : decode method_13_code 0 = .ok (.aload 4, 2) := by decide +kernel
theorem d_L_revision_2 : decode method_13_code 2 = .ok (.iconst 0, 1) := by decide +kernel
theorem d_L_revision_3 : decode method_13_code 3 = .ok (.aload_n 0, 1) := by decide +kernel
theorem d_L_revision_4 : decode method_13_code 4 = .ok (.iload_n 1, 1) := by decide +kernel
theorem d_L_revision_5 : decode method_13_code 5 = .ok (.iload_n 2, 1) := by decide +kernel
theorem d_L_revision_6 : decode method_13_code 6 = .ok (.iload_n 3, 1) := by decide +kernel
theorem d_L_revision_7 : decode method_13_code 7 = .ok (.invokevirtual 51, 3) := by decide +kernel
theorem d_L_revision_15 : decode method_13_code 15 = .ok (.astore 5, 2) := by decide +kernel
theorem d_L_revision_17 : decode method_13_code 17 = .ok (.iconst 1, 1) := by decide +kernel
theorem d_L_revision_18 : decode method_13_code 18 = .ok (.ireturn, 1) := by decide +kernel
theorem d_L_feed_0 : decode method_3_code 0 = .ok (.aload 6, 2) := by decide +kernel
theorem d_L_feed_2 : decode method_3_code 2 = .ok (.iconst 0, 1) := by decide +kernel
theorem d_L_feed_3 : decode method_3_code 3 = .ok (.aload_n 0, 1) := by decide +kernel
theorem d_L_feed_4 : decode method_3_code 4 = .ok (.iload_n 1, 1) := by decide +kernel
theorem d_L_feed_5 : decode method_3_code 5 = .ok (.iload_n 2, 1) := by decide +kernel
theorem d_L_feed_6 : decode method_3_code 6 = .ok (.iload_n 3, 1) := by decide +kernel
theorem d_L_feed_7 : decode method_3_code 7 = .ok (.iload 4, 2) := by decide +kernel
theorem d_L_feed_9 : decode method_3_code 9 = .ok (.iload 5, 2) := by decide +kernel
theorem d_L_feed_11 : decode method_3_code 11 = .ok (.invokevirtual 7, 3) := by decide +kernel
theorem d_L_feed_14 : decode method_3_code 14 = .ok (.ifCond .eq 7, 3) := by decide +kernel
theorem d_L_feed_17 : decode method_3_code 17 = .ok (.lconst 1, 1) := by decide +kernel
theorem d_L_feed_18 : decode method_3_code 18 = .ok (.goto 4, 3) := by decide +kernel
theorem d_L_feed_22 : decode method_3_code 22 = .ok (.lastore, 1) := by decide +kernel
theorem d_L_feed_23 : decode method_3_code 23 = .ok (.goto 7, 3) := by decide +kernel
theorem d_L_feed_30 : decode method_3_code 30 = .ok (.iconst 0, 1) := by decide +kernel
theorem d_L_feed_31 : decode method_3_code 31 = .ok (.ireturn, 1) := by decide +kernel
theorem d_L_end_0 : decode method_4_code 0 = .ok (.aload_n 2, 1) := by decide +kernel
theorem d_L_end_1 : decode method_4_code 1 = .ok (.iconst 0, 1) := by decide +kernel
theorem d_L_end_2 : decode method_4_code 2 = .ok (.aload_n 0, 1) := by decide +kernel
theorem d_L_end_3 : decode method_4_code 3 = .ok (.iload_n 1, 1) := by decide +kernel
theorem d_L_end_4 : decode method_4_code 4 = .ok (.invokevirtual 15, 3) := by decide +kernel
theorem d_L_end_7 : decode method_4_code 7 = .ok (.ifCond .eq 7, 3) := by decide +kernel
theorem d_L_end_10 : decode method_4_code 10 = .ok (.lconst 1, 1) := by decide +kernel
theorem d_L_end_11 : decode method_4_code 11 = .ok (.goto 4, 3) := by decide +kernel
theorem d_L_end_14 : decode method_4_code 14 = .ok (.lconst 0, 1) := by decide +kernel
theorem d_L_end_15 : decode method_4_code 15 = .ok (.lastore, 1) := by decide +kernel
theorem d_L_end_16 : decode method_4_code 16 = .ok (.goto 6, 3) := by decide +kernel
theorem d_L_end_22 : decode method_4_code 22 = .ok (.iconst 0, 1) := by decide +kernel
theorem d_L_end_23 : decode method_4_code 23 = .ok (.ireturn, 1) := by decide +kernel
theorem d_L_make_0 : decode method_5_code 0 = .ok (.aload_n 1, 1) := by decide +kernel
theorem d_L_make_1 : decode method_5_code 1 = .ok (.iconst 0, 1) := by decide +kernel
theorem d_L_make_2 : decode method_5_code 2 = .ok (.aload_n 0, 1) := by decide +kernel
theorem d_L_make_3 : decode method_5_code 3 = .ok (.invokevirtual 19, 3) := by decide +kernel
theorem d_L_make_6 : decode method_5_code 6 = .ok (.i2l, 1) := by decide +kernel
theorem d_L_make_7 : decode method_5_code 7 = .ok (.lastore, 1) := by decide +kernel
theorem d_L_make_8 : decode method_5_code 8 = .ok (.goto 6, 3) := by decide +kernel
theorem d_L_make_14 : decode method_5_code 14 = .ok (.iconst 0, 1) := by decide +kernel
theorem d_L_make_15 : decode method_5_code 15 = .ok (.ireturn, 1) := by decide +kernel
theorem d_L_commit_0 : decode method_6_code 0 = .ok (.aload_n 3, 1) := by decide +kernel
theorem d_L_commit_1 : decode method_6_code 1 = .ok (.iconst 0, 1) := by decide +kernel
theorem d_L_commit_2 : decode method_6_code 2 = .ok (.aload_n 0, 1) := by decide +kernel
theorem d_L_commit_3 : decode method_6_code 3 = .ok (.iload_n 1, 1) := by decide +kernel
theorem d_L_commit_4 : decode method_6_code 4 = .ok (.iload_n 2, 1) := by decide +kernel
theorem d_L_commit_5 : decode method_6_code 5 = .ok (.invokevirtual 23, 3) := by decide +kernel
theorem d_L_commit_8 : decode method_6_code 8 = .ok (.i2l, 1) := by decide +kernel
theorem d_L_commit_9 : decode method_6_code 9 = .ok (.lastore, 1) := by decide +kernel
theorem d_L_commit_10 : decode method_6_code 10 = .ok (.goto 7, 3) := by decide +kernel
theorem d_L_commit_17 : decode method_6_code 17 = .ok (.iconst 0, 1) := by decide +kernel
theorem d_L_commit_18 : decode method_6_code 18 = .ok (.ireturn, 1) := by decide +kernel
theorem d_L_fetch_0 : decode method_7_code 0 = .ok (.aload_n 3, 1) := by decide +kernel
theorem d_L_fetch_1 : decode method_7_code 1 = .ok (.iconst 0, 1) := by decide +kernel
theorem d_L_fetch_2 : decode method_7_code 2 = .ok (.aload_n 0, 1) := by decide +kernel
theorem d_L_fetch_3 : decode method_7_code 3 = .ok (.iload_n 1, 1) := by decide +kernel
theorem d_L_fetch_4 : decode method_7_code 4 = .ok (.iload_n 2, 1) := by decide +kernel
theorem d_L_fetch_5 : decode method_7_code 5 = .ok (.invokevirtual 27, 3) := by decide +kernel
theorem d_L_fetch_8 : decode method_7_code 8 = .ok (.i2l, 1) := by decide +kernel
theorem d_L_fetch_9 : decode method_7_code 9 = .ok (.lastore, 1) := by decide +kernel
theorem d_L_fetch_10 : decode method_7_code 10 = .ok (.goto 7, 3) := by decide +kernel
theorem d_L_fetch_17 : decode method_7_code 17 = .ok (.iconst 0, 1) := by decide +kernel
theorem d_L_fetch_18 : decode method_7_code 18 = .ok (.ireturn, 1) := by decide +kernel
theorem d_L_out_0 : decode method_8_code 0 = .ok (.aload_n 2, 1) := by decide +kernel
theorem d_L_out_1 : decode method_8_code 1 = .ok (.iconst 0, 1) := by decide +kernel
theorem d_L_out_2 : decode method_8_code 2 = .ok (.aload_n 0, 1) := by decide +kernel
theorem d_L_out_3 : decode method_8_code 3 = .ok (.iload_n 1, 1) := by decide +kernel
theorem d_L_out_4 : decode method_8_code 4 = .ok (.invokevirtual 30, 3) := by decide +kernel
theorem d_L_out_7 : decode method_8_code 7 = .ok (.i2l, 1) := by decide +kernel
theorem d_L_out_8 : decode method_8_code 8 = .ok (.lastore, 1) := by decide +kernel
theorem d_L_out_9 : decode method_8_code 9 = .ok (.goto 6, 3) := by decide +kernel
theorem d_L_out_15 : decode method_8_code 15 = .ok (.iconst 0, 1) := by decide +kernel
theorem d_L_out_16 : decode method_8_code 16 = .ok (.ireturn, 1) := by decide +kernel
theorem d_L_steps_0 : decode method_9_code 0 = .ok (.aload_n 1, 1) := by decide +kernel
theorem d_L_steps_1 : decode method_9_code 1 = .ok (.iconst 0, 1) := by decide +kernel
theorem d_L_steps_2 : decode method_9_code 2 = .ok (.aload_n 0, 1) := by decide +kernel
theorem d_L_steps_3 : decode method_9_code 3 = .ok (.invokevirtual 34, 3) := by decide +kernel
theorem d_L_steps_6 : decode method_9_code 6 = .ok (.i2l, 1) := by decide +kernel
theorem d_L_steps_7 : decode method_9_code 7 = .ok (.lastore, 1) := by decide +kernel
theorem d_L_steps_8 : decode method_9_code 8 = .ok (.goto 6, 3) := by decide +kernel
theorem d_L_steps_14 : decode method_9_code 14 = .ok (.iconst 0, 1) := by decide +kernel
theorem d_L_steps_15 : decode method_9_code 15 = .ok (.ireturn, 1) := by decide +kernel
theorem d_L_trim_0 : decode method_10_code 0 = .ok (.aload_n 3, 1) := by decide +kernel
theorem d_L_trim_1 : decode method_10_code 1 = .ok (.iconst 0, 1) := by decide +kernel
theorem d_L_trim_2 : decode method_10_code 2 = .ok (.aload_n 0, 1) := by decide +kernel
theorem d_L_trim_3 : decode method_10_code 3 = .ok (.iload_n 1, 1) := by decide +kernel
theorem d_L_trim_4 : decode method_10_code 4 = .ok (.iload_n 2, 1) := by decide +kernel
theorem d_L_trim_5 : decode method_10_code 5 = .ok (.invokevirtual 37, 3) := by decide +kernel
theorem d_L_trim_8 : decode method_10_code 8 = .ok (.ifCond .eq 7, 3) := by decide +kernel
theorem d_L_trim_15 : decode method_10_code 15 = .ok (.lconst 0, 1) := by decide +kernel
theorem d_L_trim_16 : decode method_10_code 16 = .ok (.lastore, 1) := by decide +kernel
theorem d_L_trim_17 : decode method_10_code 17 = .ok (.goto 7, 3) := by decide +kernel
theorem d_L_trim_24 : decode method_10_code 24 = .ok (.iconst 0, 1) := by decide +kernel
theorem d_L_trim_25 : decode method_10_code 25 = .ok (.ireturn, 1) := by decide +kernel
theorem d_L_dropDocument_0 : decode method_11_code 0 = .ok (.aload_n 2, 1) := by decide +kernel
theorem d_L_dropDocument_1 : decode method_11_code 1 = .ok (.iconst 0, 1) := by decide +kernel
theorem d_L_dropDocument_2 : decode method_11_code 2 = .ok (.aload_n 0, 1) := by decide +kernel
theorem d_L_dropDocument_3 : decode method_11_code 3 = .ok (.iload_n 1, 1) := by decide +kernel
theorem d_L_dropDocument_4 : decode method_11_code 4 = .ok (.invokevirtual 41, 3) := by decide +kernel
theorem d_L_dropDocument_7 : decode method_11_code 7 = .ok (.ifCond .eq 7, 3) := by decide +kernel
theorem d_L_dropDocument_14 : decode method_11_code 14 = .ok (.lconst 0, 1) := by decide +kernel
theorem d_L_dropDocument_15 : decode method_11_code 15 = .ok (.lastore, 1) := by decide +kernel
theorem d_L_dropDocument_16 : decode method_11_code 16 = .ok (.goto 6, 3) := by decide +kernel
theorem d_L_dropDocument_22 : decode method_11_code 22 = .ok (.iconst 0, 1) := by decide +kernel
theorem d_L_dropDocument_23 : decode method_11_code 23 = .ok (.ireturn, 1) := by decide +kernel
theorem d_L_pieceByte_0 : decode method_14_code 0 = .ok (.aload 4, 2) := by decide +kernel
theorem d_L_pieceByte_2 : decode method_14_code 2 = .ok (.iconst 0, 1) := by decide +kernel
theorem d_L_pieceByte_3 : decode method_14_code 3 = .ok (.aload_n 0, 1) := by decide +kernel
theorem d_L_pieceByte_4 : decode method_14_code 4 = .ok (.iload_n 1, 1) := by decide +kernel
theorem d_L_pieceByte_5 : decode method_14_code 5 = .ok (.iload_n 2, 1) := by decide +kernel
theorem d_L_pieceByte_6 : decode method_14_code 6 = .ok (.iload_n 3, 1) := by decide +kernel
theorem d_L_pieceByte_7 : decode method_14_code 7 = .ok (.invokevirtual 55, 3) := by decide +kernel
theorem d_L_pieceByte_10 : decode method_14_code 10 = .ok (.i2l, 1) := by decide +kernel
theorem d_L_pieceByte_11 : decode method_14_code 11 = .ok (.lastore, 1) := by decide +kernel
theorem d_L_pieceByte_12 : decode method_14_code 12 = .ok (.goto 7, 3) := by decide +kernel
theorem d_L_pieceByte_19 : decode method_14_code 19 = .ok (.iconst 0, 1) := by decide +kernel
theorem d_L_pieceByte_20 : decode method_14_code 20 = .ok (.ireturn, 1) := by decide +kernel
theorem d_L_damage_0 : decode method_15_code 0 = .ok (.aload 5, 2) := by decide +kernel
theorem d_L_damage_2 : decode method_15_code 2 = .ok (.iconst 0, 1) := by decide +kernel
theorem d_L_damage_3 : decode method_15_code 3 = .ok (.aload_n 0, 1) := by decide +kernel
theorem d_L_damage_4 : decode method_15_code 4 = .ok (.iload_n 1, 1) := by decide +kernel
theorem d_L_damage_5 : decode method_15_code 5 = .ok (.iload_n 2, 1) := by decide +kernel
theorem d_L_damage_6 : decode method_15_code 6 = .ok (.iload_n 3, 1) := by decide +kernel
theorem d_L_damage_7 : decode method_15_code 7 = .ok (.iload 4, 2) := by decide +kernel
theorem d_L_damage_9 : decode method_15_code 9 = .ok (.invokevirtual 58, 3) := by decide +kernel
theorem d_L_damage_12 : decode method_15_code 12 = .ok (.ifCond .eq 7, 3) := by decide +kernel
theorem d_L_damage_19 : decode method_15_code 19 = .ok (.lconst 0, 1) := by decide +kernel
theorem d_L_damage_20 : decode method_15_code 20 = .ok (.lastore, 1) := by decide +kernel
theorem d_L_damage_21 : decode method_15_code 21 = .ok (.goto 7, 3) := by decide +kernel
theorem d_L_damage_28 : decode method_15_code 28 = .ok (.iconst 0, 1) := by decide +kernel
theorem d_L_damage_29 : decode method_15_code 29 = .ok (.ireturn, 1) := by decide +kernel
theorem d_L_verify_0 : decode method_16_code 0 = .ok (.aload_n 2, 1) := by decide +kernel
theorem d_L_verify_1 : decode method_16_code 1 = .ok (.iconst 0, 1) := by decide +kernel
theorem d_L_verify_2 : decode method_16_code 2 = .ok (.aload_n 0, 1) := by decide +kernel
theorem d_L_verify_3 : decode method_16_code 3 = .ok (.iload_n 1, 1) := by decide +kernel
theorem d_L_verify_4 : decode method_16_code 4 = .ok (.invokevirtual 62, 3) := by decide +kernel
theorem d_L_verify_7 : decode method_16_code 7 = .ok (.i2l, 1) := by decide +kernel
theorem d_L_verify_8 : decode method_16_code 8 = .ok (.lastore, 1) := by decide +kernel
theorem d_L_verify_9 : decode method_16_code 9 = .ok (.goto 6, 3) := by decide +kernel
theorem d_L_verify_15 : decode method_16_code 15 = .ok (.iconst 0, 1) := by decide +kernel
theorem d_L_verify_16 : decode method_16_code 16 = .ok (.ireturn, 1) := by decide +kernel
theorem d_L_common_0 : decode method_17_code 0 = .ok (.aload 5, 2) := by decide +kernel
theorem d_L_common_2 : decode method_17_code 2 = .ok (.iconst 0, 1) := by decide +kernel
theorem d_L_common_3 : decode method_17_code 3 = .ok (.aload_n 0, 1) := by decide +kernel
theorem d_L_common_4 : decode method_17_code 4 = .ok (.iload_n 1, 1) := by decide +kernel
theorem d_L_common_5 : decode method_17_code 5 = .ok (.iload_n 2, 1) := by decide +kernel
theorem d_L_common_6 : decode method_17_code 6 = .ok (.iload_n 3, 1) := by decide +kernel
theorem d_L_common_7 : decode method_17_code 7 = .ok (.iload 4, 2) := by decide +kernel
theorem d_L_common_9 : decode method_17_code 9 = .ok (.invokevirtual 65, 3) := by decide +kernel
theorem d_L_common_12 : decode method_17_code 12 = .ok (.i2l, 1) := by decide +kernel
theorem d_L_common_13 : decode method_17_code 13 = .ok (.lastore, 1) := by decide +kernel
theorem d_L_common_14 : decode method_17_code 14 = .ok (.goto 7, 3) := by decide +kernel
theorem d_L_common_21 : decode method_17_code 21 = .ok (.iconst 0, 1) := by decide +kernel
theorem d_L_common_22 : decode method_17_code 22 = .ok (.ireturn, 1) := by decide +kernel
theorem d_L_freeBlocks_0 : decode method_18_code 0 = .ok (.aload_n 1, 1) := by decide +kernel
theorem d_L_freeBlocks_1 : decode method_18_code 1 = .ok (.iconst 0, 1) := by decide +kernel
theorem d_L_freeBlocks_2 : decode method_18_code 2 = .ok (.aload_n 0, 1) := by decide +kernel
theorem d_L_freeBlocks_3 : decode method_18_code 3 = .ok (.invokevirtual 69, 3) := by decide +kernel
theorem d_L_freeBlocks_6 : decode method_18_code 6 = .ok (.i2l, 1) := by decide +kernel
theorem d_L_freeBlocks_7 : decode method_18_code 7 = .ok (.lastore, 1) := by decide +kernel
theorem d_L_freeBlocks_8 : decode method_18_code 8 = .ok (.goto 6, 3) := by decide +kernel
theorem d_L_freeBlocks_14 : decode method_18_code 14 = .ok (.iconst 0, 1) := by decide +kernel
theorem d_L_freeBlocks_15 : decode method_18_code 15 = .ok (.ireturn, 1) := by decide +kernel
theorem d_L_cutAfter_0 : decode method_19_code 0 = .ok (.aload_n 2, 1) := by decide +kernel
theorem d_L_cutAfter_1 : decode method_19_code 1 = .ok (.iconst 0, 1) := by decide +kernel
theorem d_L_cutAfter_2 : decode method_19_code 2 = .ok (.aload_n 0, 1) := by decide +kernel
theorem d_L_cutAfter_3 : decode method_19_code 3 = .ok (.iload_n 1, 1) := by decide +kernel
theorem d_L_cutAfter_4 : decode method_19_code 4 = .ok (.invokevirtual 72, 3) := by decide +kernel
theorem d_L_cutAfter_7 : decode method_19_code 7 = .ok (.ifCond .eq 7, 3) := by decide +kernel
theorem d_L_cutAfter_10 : decode method_19_code 10 = .ok (.lconst 1, 1) := by decide +kernel
theorem d_L_cutAfter_11 : decode method_19_code 11 = .ok (.goto 4, 3) := by decide +kernel
theorem d_L_cutAfter_14 : decode method_19_code 14 = .ok (.lconst 0, 1) := by decide +kernel
theorem d_L_cutAfter_15 : decode method_19_code 15 = .ok (.lastore, 1) := by decide +kernel
theorem d_L_cutAfter_16 : decode method_19_code 16 = .ok (.goto 6, 3) := by decide +kernel
theorem d_L_cutAfter_22 : decode method_19_code 22 = .ok (.iconst 0, 1) := by decide +kernel
theorem d_L_cutAfter_23 : decode method_19_code 23 = .ok (.ireturn, 1) := by decide +kernel
