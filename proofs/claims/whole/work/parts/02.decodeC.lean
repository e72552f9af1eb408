theorem d_I_init_0 : decode prog_1_method_1_code 0 = .ok (.aload_n 0, 1) := by decide +kernel
theorem d_I_init_1 : decode prog_1_method_1_code 1 = .ok (.invokespecial 1, 3) := by decide +kernel
theorem d_I_init_4 : decode prog_1_method_1_code 4 = .ok (.aload_n 0, 1) := by decide +kernel
theorem d_I_init_5 : decode prog_1_method_1_code 5 = .ok (.iload_n 1, 1) := by decide +kernel
theorem d_I_init_6 : decode prog_1_method_1_code 6 = .ok (.iconst 1, 1) := by decide +kernel
theorem d_I_init_7 : decode prog_1_method_1_code 7 = .ok (.bipush 20, 2) := by decide +kernel
theorem d_I_init_9 : decode prog_1_method_1_code 9 = .ok (.invokestatic 7, 3) := by decide +kernel
theorem d_I_init_12 : decode prog_1_method_1_code 12 = .ok (.putfield 13, 3) := by decide +kernel
theorem d_I_init_15 : decode prog_1_method_1_code 15 = .ok (.aload_n 0, 1) := by decide +kernel
theorem d_I_init_16 : decode prog_1_method_1_code 16 = .ok (.iload_n 2, 1) := by decide +kernel
theorem d_I_init_17 : decode prog_1_method_1_code 17 = .ok (.iconst 1, 1) := by decide +kernel
theorem d_I_init_18 : decode prog_1_method_1_code 18 = .ok (.iconst 3, 1) := by decide +kernel
theorem d_I_init_19 : decode prog_1_method_1_code 19 = .ok (.invokestatic 7, 3) := by decide +kernel
theorem d_I_init_22 : decode prog_1_method_1_code 22 = .ok (.putfield 17, 3) := by decide +kernel
theorem d_I_init_25 : decode prog_1_method_1_code 25 = .ok (.aload_n 0, 1) := by decide +kernel
theorem d_I_init_26 : decode prog_1_method_1_code 26 = .ok (.iload_n 3, 1) := by decide +kernel
theorem d_I_init_27 : decode prog_1_method_1_code 27 = .ok (.iconst 1, 1) := by decide +kernel
theorem d_I_init_28 : decode prog_1_method_1_code 28 = .ok (.iconst 3, 1) := by decide +kernel
theorem d_I_init_29 : decode prog_1_method_1_code 29 = .ok (.invokestatic 7, 3) := by decide +kernel
theorem d_I_init_32 : decode prog_1_method_1_code 32 = .ok (.putfield 20, 3) := by decide +kernel
theorem d_I_init_35 : decode prog_1_method_1_code 35 = .ok (.aload_n 0, 1) := by decide +kernel
theorem d_I_init_36 : decode prog_1_method_1_code 36 = .ok (.new 23, 3) := by decide +kernel
theorem d_I_init_39 : decode prog_1_method_1_code 39 = .ok (.dup, 1) := by decide +kernel
theorem d_I_init_40 : decode prog_1_method_1_code 40 = .ok (.invokespecial 25, 3) := by decide +kernel
theorem d_I_init_43 : decode prog_1_method_1_code 43 = .ok (.putfield 26, 3) := by decide +kernel
theorem d_I_init_46 : decode prog_1_method_1_code 46 = .ok (.aload_n 0, 1) := by decide +kernel
theorem d_I_init_47 : decode prog_1_method_1_code 47 = .ok (.new 30, 3) := by decide +kernel
theorem d_I_init_50 : decode prog_1_method_1_code 50 = .ok (.dup, 1) := by decide +kernel
theorem d_I_init_51 : decode prog_1_method_1_code 51 = .ok (.invokespecial 32, 3) := by decide +kernel
theorem d_I_init_54 : decode prog_1_method_1_code 54 = .ok (.putfield 33, 3) := by decide +kernel
theorem d_I_init_57 : decode prog_1_method_1_code 57 = .ok (.aload_n 0, 1) := by decide +kernel
theorem d_I_init_58 : decode prog_1_method_1_code 58 = .ok (.iconst 4, 1) := by decide +kernel
theorem d_I_init_59 : decode prog_1_method_1_code 59 = .ok (.anewarray 37, 3) := by decide +kernel
theorem d_I_init_62 : decode prog_1_method_1_code 62 = .ok (.putfield 39, 3) := by decide +kernel
theorem d_I_init_65 : decode prog_1_method_1_code 65 = .ok (.iconst 0, 1) := by decide +kernel
theorem d_I_init_66 : decode prog_1_method_1_code 66 = .ok (.istore 4, 2) := by decide +kernel
theorem d_I_init_68 : decode prog_1_method_1_code 68 = .ok (.iload 4, 2) := by decide +kernel
theorem d_I_init_70 : decode prog_1_method_1_code 70 = .ok (.iconst 4, 1) := by decide +kernel
theorem d_I_init_71 : decode prog_1_method_1_code 71 = .ok (.if_icmp .ge 25, 3) := by decide +kernel
theorem d_I_init_74 : decode prog_1_method_1_code 74 = .ok (.aload_n 0, 1) := by decide +kernel
theorem d_I_init_75 : decode prog_1_method_1_code 75 = .ok (.getfield 39, 3) := by decide +kernel
theorem d_I_init_78 : decode prog_1_method_1_code 78 = .ok (.iload 4, 2) := by decide +kernel
theorem d_I_init_80 : decode prog_1_method_1_code 80 = .ok (.new 37, 3) := by decide +kernel
theorem d_I_init_83 : decode prog_1_method_1_code 83 = .ok (.dup, 1) := by decide +kernel
theorem d_I_init_84 : decode prog_1_method_1_code 84 = .ok (.iload 4, 2) := by decide +kernel
theorem d_I_init_86 : decode prog_1_method_1_code 86 = .ok (.invokespecial 43, 3) := by decide +kernel
theorem d_I_init_89 : decode prog_1_method_1_code 89 = .ok (.aastore, 1) := by decide +kernel
theorem d_I_init_90 : decode prog_1_method_1_code 90 = .ok (.iinc 4 1, 3) := by decide +kernel
theorem d_I_init_93 : decode prog_1_method_1_code 93 = .ok (.goto (-25), 3) := by decide +kernel
theorem d_I_init_96 : decode prog_1_method_1_code 96 = .ok (.return_, 1) := by decide +kernel
theorem d_I_nearest_0 : decode prog_1_method_21_code 0 = .ok (.iload_n 1, 1) := by decide +kernel
theorem d_I_nearest_1 : decode prog_1_method_21_code 1 = .ok (.iload_n 2, 1) := by decide +kernel
theorem d_I_nearest_2 : decode prog_1_method_21_code 2 = .ok (.iload_n 0, 1) := by decide +kernel
theorem d_I_nearest_3 : decode prog_1_method_21_code 3 = .ok (.invokestatic 179, 3) := by decide +kernel
theorem d_I_nearest_6 : decode prog_1_method_21_code 6 = .ok (.invokestatic 184, 3) := by decide +kernel
theorem d_I_nearest_9 : decode prog_1_method_21_code 9 = .ok (.ireturn, 1) := by decide +kernel
theorem d_T_init_0 : decode prog_4_method_1_code 0 = .ok (.aload_n 0, 1) := by decide +kernel
theorem d_T_init_1 : decode prog_4_method_1_code 1 = .ok (.invokespecial 3, 3) := by decide +kernel
theorem d_T_init_4 : decode prog_4_method_1_code 4 = .ok (.aload_n 0, 1) := by decide +kernel
theorem d_T_init_5 : decode prog_4_method_1_code 5 = .ok (.iconst 1, 1) := by decide +kernel
theorem d_T_init_6 : decode prog_4_method_1_code 6 = .ok (.putfield 9, 3) := by decide +kernel
theorem d_T_init_9 : decode prog_4_method_1_code 9 = .ok (.aload_n 0, 1) := by decide +kernel
theorem d_T_init_10 : decode prog_4_method_1_code 10 = .ok (.iconst 0, 1) := by decide +kernel
theorem d_T_init_11 : decode prog_4_method_1_code 11 = .ok (.putfield 15, 3) := by decide +kernel
theorem d_T_init_14 : decode prog_4_method_1_code 14 = .ok (.aload_n 0, 1) := by decide +kernel
theorem d_T_init_15 : decode prog_4_method_1_code 15 = .ok (.bipush 15, 2) := by decide +kernel
theorem d_T_init_17 : decode prog_4_method_1_code 17 = .ok (.putfield 18, 3) := by decide +kernel
theorem d_T_init_20 : decode prog_4_method_1_code 20 = .ok (.return_, 1) := by decide +kernel
theorem d_H_init_0 : decode prog_3_method_1_code 0 = .ok (.aload_n 0, 1) := by decide +kernel
theorem d_H_init_1 : decode prog_3_method_1_code 1 = .ok (.invokespecial 3, 3) := by decide +kernel
theorem d_H_init_4 : decode prog_3_method_1_code 4 = .ok (.aload_n 0, 1) := by decide +kernel
theorem d_H_init_5 : decode prog_3_method_1_code 5 = .ok (.bipush 9, 2) := by decide +kernel
theorem d_H_init_7 : decode prog_3_method_1_code 7 = .ok (.anewarray 9, 3) := by decide +kernel
theorem d_H_init_10 : decode prog_3_method_1_code 10 = .ok (.putfield 11, 3) := by decide +kernel
theorem d_H_init_13 : decode prog_3_method_1_code 13 = .ok (.aload_n 0, 1) := by decide +kernel
theorem d_H_init_14 : decode prog_3_method_1_code 14 = .ok (.iconst 0, 1) := by decide +kernel
theorem d_H_init_15 : decode prog_3_method_1_code 15 = .ok (.putfield 17, 3) := by decide +kernel
theorem d_H_init_18 : decode prog_3_method_1_code 18 = .ok (.iconst 0, 1) := by decide +kernel
theorem d_H_init_19 : decode prog_3_method_1_code 19 = .ok (.istore_n 1, 1) := by decide +kernel
theorem d_H_init_20 : decode prog_3_method_1_code 20 = .ok (.iload_n 1, 1) := by decide +kernel
theorem d_H_init_21 : decode prog_3_method_1_code 21 = .ok (.bipush 8, 2) := by decide +kernel
theorem d_H_init_23 : decode prog_3_method_1_code 23 = .ok (.if_icmp .gt 22, 3) := by decide +kernel
theorem d_H_init_26 : decode prog_3_method_1_code 26 = .ok (.aload_n 0, 1) := by decide +kernel
theorem d_H_init_27 : decode prog_3_method_1_code 27 = .ok (.getfield 11, 3) := by decide +kernel
theorem d_H_init_30 : decode prog_3_method_1_code 30 = .ok (.iload_n 1, 1) := by decide +kernel
theorem d_H_init_31 : decode prog_3_method_1_code 31 = .ok (.new 9, 3) := by decide +kernel
theorem d_H_init_34 : decode prog_3_method_1_code 34 = .ok (.dup, 1) := by decide +kernel
theorem d_H_init_35 : decode prog_3_method_1_code 35 = .ok (.invokespecial 21, 3) := by decide +kernel
theorem d_H_init_38 : decode prog_3_method_1_code 38 = .ok (.aastore, 1) := by decide +kernel
theorem d_H_init_39 : decode prog_3_method_1_code 39 = .ok (.iinc 1 1, 3) := by decide +kernel
theorem d_H_init_42 : decode prog_3_method_1_code 42 = .ok (.goto (-22), 3) := by decide +kernel
theorem d_H_init_45 : decode prog_3_method_1_code 45 = .ok (.return_, 1) := by decide +kernel
theorem d_G_init_0 : decode prog_6_method_1_code 0 = .ok (.aload_n 0, 1) := by decide +kernel
theorem d_G_init_1 : decode prog_6_method_1_code 1 = .ok (.invokespecial 3, 3) := by decide +kernel
theorem d_G_init_4 : decode prog_6_method_1_code 4 = .ok (.aload_n 0, 1) := by decide +kernel
theorem d_G_init_5 : decode prog_6_method_1_code 5 = .ok (.iconst 3, 1) := by decide +kernel
theorem d_G_init_6 : decode prog_6_method_1_code 6 = .ok (.newarray .int, 2) := by decide +kernel
theorem d_G_init_8 : decode prog_6_method_1_code 8 = .ok (.putfield 9, 3) := by decide +kernel
theorem d_G_init_11 : decode prog_6_method_1_code 11 = .ok (.aload_n 0, 1) := by decide +kernel
theorem d_G_init_12 : decode prog_6_method_1_code 12 = .ok (.iconst 3, 1) := by decide +kernel
theorem d_G_init_13 : decode prog_6_method_1_code 13 = .ok (.newarray .int, 2) := by decide +kernel
theorem d_G_init_15 : decode prog_6_method_1_code 15 = .ok (.putfield 15, 3) := by decide +kernel
theorem d_G_init_18 : decode prog_6_method_1_code 18 = .ok (.return_, 1) := by decide +kernel
theorem d_B_init_0 : decode prog_2_method_1_code 0 = .ok (.aload_n 0, 1) := by decide +kernel
theorem d_B_init_1 : decode prog_2_method_1_code 1 = .ok (.invokespecial 3, 3) := by decide +kernel
theorem d_B_init_4 : decode prog_2_method_1_code 4 = .ok (.aload_n 0, 1) := by decide +kernel
theorem d_B_init_5 : decode prog_2_method_1_code 5 = .ok (.new 9, 3) := by decide +kernel
theorem d_B_init_8 : decode prog_2_method_1_code 8 = .ok (.dup, 1) := by decide +kernel
theorem d_B_init_9 : decode prog_2_method_1_code 9 = .ok (.invokespecial 11, 3) := by decide +kernel
theorem d_B_init_12 : decode prog_2_method_1_code 12 = .ok (.putfield 12, 3) := by decide +kernel
theorem d_B_init_15 : decode prog_2_method_1_code 15 = .ok (.aload_n 0, 1) := by decide +kernel
theorem d_B_init_16 : decode prog_2_method_1_code 16 = .ok (.iconst 4, 1) := by decide +kernel
theorem d_B_init_17 : decode prog_2_method_1_code 17 = .ok (.newarray .int, 2) := by decide +kernel
theorem d_B_init_19 : decode prog_2_method_1_code 19 = .ok (.putfield 18, 3) := by decide +kernel
theorem d_B_init_22 : decode prog_2_method_1_code 22 = .ok (.aload_n 0, 1) := by decide +kernel
theorem d_B_init_23 : decode prog_2_method_1_code 23 = .ok (.iconst 4, 1) := by decide +kernel
theorem d_B_init_24 : decode prog_2_method_1_code 24 = .ok (.newarray .int, 2) := by decide +kernel
theorem d_B_init_26 : decode prog_2_method_1_code 26 = .ok (.putfield 22, 3) := by decide +kernel
theorem d_B_init_29 : decode prog_2_method_1_code 29 = .ok (.aload_n 0, 1) := by decide +kernel
theorem d_B_init_30 : decode prog_2_method_1_code 30 = .ok (.iconst 1, 1) := by decide +kernel
theorem d_B_init_31 : decode prog_2_method_1_code 31 = .ok (.putfield 25, 3) := by decide +kernel
theorem d_B_init_34 : decode prog_2_method_1_code 34 = .ok (.aload_n 0, 1) := by decide +kernel
theorem d_B_init_35 : decode prog_2_method_1_code 35 = .ok (.iconst 1, 1) := by decide +kernel
theorem d_B_init_36 : decode prog_2_method_1_code 36 = .ok (.putfield 29, 3) := by decide +kernel
theorem d_B_init_39 : decode prog_2_method_1_code 39 = .ok (.aload_n 0, 1) := by decide +kernel
theorem d_B_init_40 : decode prog_2_method_1_code 40 = .ok (.iconst 0, 1) := by decide +kernel
theorem d_B_init_41 : decode prog_2_method_1_code 41 = .ok (.putfield 33, 3) := by decide +kernel
theorem d_B_init_44 : decode prog_2_method_1_code 44 = .ok (.aload_n 0, 1) := by decide +kernel
theorem d_B_init_45 : decode prog_2_method_1_code 45 = .ok (.iconst 0, 1) := by decide +kernel
theorem d_B_init_46 : decode prog_2_method_1_code 46 = .ok (.putfield 36, 3) := by decide +kernel
theorem d_B_init_49 : decode prog_2_method_1_code 49 = .ok (.aload_n 0, 1) := by decide +kernel
theorem d_B_init_50 : decode prog_2_method_1_code 50 = .ok (.iconst 0, 1) := by decide +kernel
theorem d_B_init_51 : decode prog_2_method_1_code 51 = .ok (.putfield 39, 3) := by decide +kernel
theorem d_B_init_54 : decode prog_2_method_1_code 54 = .ok (.aload_n 0, 1) := by decide +kernel
theorem d_B_init_55 : decode prog_2_method_1_code 55 = .ok (.iconst 0, 1) := by decide +kernel
theorem d_B_init_56 : decode prog_2_method_1_code 56 = .ok (.putfield 42, 3) := by decide +kernel
theorem d_B_init_59 : decode prog_2_method_1_code 59 = .ok (.aload_n 0, 1) := by decide +kernel
theorem d_B_init_60 : decode prog_2_method_1_code 60 = .ok (.iconst 0, 1) := by decide +kernel
theorem d_B_init_61 : decode prog_2_method_1_code 61 = .ok (.putfield 45, 3) := by decide +kernel
theorem d_B_init_64 : decode prog_2_method_1_code 64 = .ok (.aload_n 0, 1) := by decide +kernel
theorem d_B_init_65 : decode prog_2_method_1_code 65 = .ok (.bipush 15, 2) := by decide +kernel
theorem d_B_init_67 : decode prog_2_method_1_code 67 = .ok (.putfield 48, 3) := by decide +kernel
theorem d_B_init_70 : decode prog_2_method_1_code 70 = .ok (.aload_n 0, 1) := by decide +kernel
theorem d_B_init_71 : decode prog_2_method_1_code 71 = .ok (.iload_n 1, 1) := by decide +kernel
theorem d_B_init_72 : decode prog_2_method_1_code 72 = .ok (.putfield 51, 3) := by decide +kernel
theorem d_B_init_75 : decode prog_2_method_1_code 75 = .ok (.aload_n 0, 1) := by decide +kernel
theorem d_B_init_76 : decode prog_2_method_1_code 76 = .ok (.getfield 18, 3) := by decide +kernel
theorem d_B_init_79 : decode prog_2_method_1_code 79 = .ok (.iconst (-1), 1) := by decide +kernel
theorem d_B_init_80 : decode prog_2_method_1_code 80 = .ok (.invokestatic 54, 3) := by decide +kernel
theorem d_B_init_83 : decode prog_2_method_1_code 83 = .ok (.return_, 1) := by decide +kernel
theorem d_L_init_0 : decode prog_5_method_1_code 0 = .ok (.aload_n 0, 1) := by decide +kernel
theorem d_L_init_1 : decode prog_5_method_1_code 1 = .ok (.invokespecial 3, 3) := by decide +kernel
theorem d_L_init_4 : decode prog_5_method_1_code 4 = .ok (.aload_n 0, 1) := by decide +kernel
theorem d_L_init_5 : decode prog_5_method_1_code 5 = .ok (.bipush 40, 2) := by decide +kernel
theorem d_L_init_7 : decode prog_5_method_1_code 7 = .ok (.newarray .int, 2) := by decide +kernel
theorem d_L_init_9 : decode prog_5_method_1_code 9 = .ok (.putfield 9, 3) := by decide +kernel
theorem d_L_init_12 : decode prog_5_method_1_code 12 = .ok (.aload_n 0, 1) := by decide +kernel
theorem d_L_init_13 : decode prog_5_method_1_code 13 = .ok (.bipush 40, 2) := by decide +kernel
theorem d_L_init_15 : decode prog_5_method_1_code 15 = .ok (.newarray .int, 2) := by decide +kernel
theorem d_L_init_17 : decode prog_5_method_1_code 17 = .ok (.putfield 15, 3) := by decide +kernel
theorem d_L_init_20 : decode prog_5_method_1_code 20 = .ok (.aload_n 0, 1) := by decide +kernel
theorem d_L_init_21 : decode prog_5_method_1_code 21 = .ok (.iconst 0, 1) := by decide +kernel
theorem d_L_init_22 : decode prog_5_method_1_code 22 = .ok (.putfield 18, 3) := by decide +kernel
theorem d_L_init_25 : decode prog_5_method_1_code 25 = .ok (.return_, 1) := by decide +kernel
theorem d_Arr_fill_0 : decode prog_11_method_103_code 0 = .ok (.iconst 0, 1) := by decide +kernel
theorem d_Arr_fill_1 : decode prog_11_method_103_code 1 = .ok (.istore_n 2, 1) := by decide +kernel
theorem d_Arr_fill_2 : decode prog_11_method_103_code 2 = .ok (.aload_n 0, 1) := by decide +kernel
theorem d_Arr_fill_3 : decode prog_11_method_103_code 3 = .ok (.arraylength, 1) := by decide +kernel
theorem d_Arr_fill_4 : decode prog_11_method_103_code 4 = .ok (.istore_n 3, 1) := by decide +kernel
theorem d_Arr_fill_5 : decode prog_11_method_103_code 5 = .ok (.iload_n 2, 1) := by decide +kernel
theorem d_Arr_fill_6 : decode prog_11_method_103_code 6 = .ok (.iload_n 3, 1) := by decide +kernel
theorem d_Arr_fill_7 : decode prog_11_method_103_code 7 = .ok (.if_icmp .ge 13, 3) := by decide +kernel
theorem d_Arr_fill_10 : decode prog_11_method_103_code 10 = .ok (.aload_n 0, 1) := by decide +kernel
theorem d_Arr_fill_11 : decode prog_11_method_103_code 11 = .ok (.iload_n 2, 1) := by decide +kernel
theorem d_Arr_fill_12 : decode prog_11_method_103_code 12 = .ok (.iload_n 1, 1) := by decide +kernel
theorem d_Arr_fill_13 : decode prog_11_method_103_code 13 = .ok (.iastore, 1) := by decide +kernel
theorem d_Arr_fill_14 : decode prog_11_method_103_code 14 = .ok (.iinc 2 1, 3) := by decide +kernel
theorem d_Arr_fill_17 : decode prog_11_method_103_code 17 = .ok (.goto (-12), 3) := by decide +kernel
theorem d_Arr_fill_20 : decode prog_11_method_103_code 20 = .ok (.return_, 1) := by decide +kernel
theorem d_I_produce_0 : decode prog_1_method_2_code 0 = .ok (.aload_n 0, 1) := by decide +kernel
theorem d_I_produce_1 : decode prog_1_method_2_code 1 = .ok (.iload_n 1, 1) := by decide +kernel
theorem d_I_produce_2 : decode prog_1_method_2_code 2 = .ok (.invokevirtual 46, 3) := by decide +kernel
theorem d_I_produce_5 : decode prog_1_method_2_code 5 = .ok (.ifCond .ne 5, 3) := by decide +kernel
theorem d_I_produce_8 : decode prog_1_method_2_code 8 = .ok (.iconst (-1), 1) := by decide +kernel
theorem d_I_produce_9 : decode prog_1_method_2_code 9 = .ok (.ireturn, 1) := by decide +kernel
theorem d_I_produce_10 : decode prog_1_method_2_code 10 = .ok (.aload_n 0, 1) := by decide +kernel
theorem d_I_produce_11 : decode prog_1_method_2_code 11 = .ok (.aload_n 0, 1) := by decide +kernel
theorem d_I_produce_12 : decode prog_1_method_2_code 12 = .ok (.getfield 39, 3) := by decide +kernel
theorem d_I_produce_15 : decode prog_1_method_2_code 15 = .ok (.iload_n 1, 1) := by decide +kernel
theorem d_I_produce_16 : decode prog_1_method_2_code 16 = .ok (.aaload, 1) := by decide +kernel
theorem d_I_produce_17 : decode prog_1_method_2_code 17 = .ok (.aload_n 0, 1) := by decide +kernel
theorem d_I_produce_18 : decode prog_1_method_2_code 18 = .ok (.getfield 39, 3) := by decide +kernel
theorem d_I_produce_21 : decode prog_1_method_2_code 21 = .ok (.iload_n 1, 1) := by decide +kernel
theorem d_I_produce_22 : decode prog_1_method_2_code 22 = .ok (.aaload, 1) := by decide +kernel
theorem d_I_produce_23 : decode prog_1_method_2_code 23 = .ok (.getfield 50, 3) := by decide +kernel
theorem d_I_produce_26 : decode prog_1_method_2_code 26 = .ok (.iload_n 2, 1) := by decide +kernel
theorem d_I_produce_27 : decode prog_1_method_2_code 27 = .ok (.invokevirtual 53, 3) := by decide +kernel
theorem d_I_produce_30 : decode prog_1_method_2_code 30 = .ok (.ireturn, 1) := by decide +kernel
theorem d_I_isLeading_0 : decode prog_1_method_26_code 0 = .ok (.iload_n 1, 1) := by decide +kernel
theorem d_I_isLeading_1 : decode prog_1_method_26_code 1 = .ok (.invokestatic 159, 3) := by decide +kernel
theorem d_I_isLeading_4 : decode prog_1_method_26_code 4 = .ok (.ifCond .eq 19, 3) := by decide +kernel
theorem d_I_isLeading_7 : decode prog_1_method_26_code 7 = .ok (.aload_n 0, 1) := by decide +kernel
theorem d_I_isLeading_8 : decode prog_1_method_26_code 8 = .ok (.getfield 39, 3) := by decide +kernel
theorem d_I_isLeading_11 : decode prog_1_method_26_code 11 = .ok (.iload_n 1, 1) := by decide +kernel
theorem d_I_isLeading_12 : decode prog_1_method_26_code 12 = .ok (.aaload, 1) := by decide +kernel
theorem d_I_isLeading_13 : decode prog_1_method_26_code 13 = .ok (.invokevirtual 79, 3) := by decide +kernel
theorem d_I_isLeading_16 : decode prog_1_method_26_code 16 = .ok (.ifCond .eq 7, 3) := by decide +kernel
theorem d_I_isLeading_19 : decode prog_1_method_26_code 19 = .ok (.iconst 1, 1) := by decide +kernel
theorem d_I_isLeading_20 : decode prog_1_method_26_code 20 = .ok (.goto 4, 3) := by decide +kernel
theorem d_I_isLeading_23 : decode prog_1_method_26_code 23 = .ok (.iconst 0, 1) := by decide +kernel
theorem d_I_isLeading_24 : decode prog_1_method_26_code 24 = .ok (.ireturn, 1) := by decide +kernel
theorem d_I_isBroker_0 : decode prog_1_method_22_code 0 = .ok (.iload_n 0, 1) := by decide +kernel
theorem d_I_isBroker_1 : decode prog_1_method_22_code 1 = .ok (.ifCond .lt 12, 3) := by decide +kernel
theorem d_I_isBroker_4 : decode prog_1_method_22_code 4 = .ok (.iload_n 0, 1) := by decide +kernel
theorem d_I_isBroker_5 : decode prog_1_method_22_code 5 = .ok (.iconst 4, 1) := by decide +kernel
theorem d_I_isBroker_6 : decode prog_1_method_22_code 6 = .ok (.if_icmp .ge 7, 3) := by decide +kernel
theorem d_I_isBroker_9 : decode prog_1_method_22_code 9 = .ok (.iconst 1, 1) := by decide +kernel
theorem d_I_isBroker_10 : decode prog_1_method_22_code 10 = .ok (.goto 4, 3) := by decide +kernel
theorem d_I_isBroker_13 : decode prog_1_method_22_code 13 = .ok (.iconst 0, 1) := by decide +kernel
theorem d_I_isBroker_14 : decode prog_1_method_22_code 14 = .ok (.ireturn, 1) := by decide +kernel
theorem d_B_leads_0 : decode prog_2_method_2_code 0 = .ok (.aload_n 0, 1) := by decide +kernel
theorem d_B_leads_1 : decode prog_2_method_2_code 1 = .ok (.getfield 25, 3) := by decide +kernel
theorem d_B_leads_4 : decode prog_2_method_2_code 4 = .ok (.ifCond .eq 18, 3) := by decide +kernel
theorem d_B_leads_7 : decode prog_2_method_2_code 7 = .ok (.aload_n 0, 1) := by decide +kernel
theorem d_B_leads_8 : decode prog_2_method_2_code 8 = .ok (.getfield 33, 3) := by decide +kernel
theorem d_B_leads_11 : decode prog_2_method_2_code 11 = .ok (.aload_n 0, 1) := by decide +kernel
theorem d_B_leads_12 : decode prog_2_method_2_code 12 = .ok (.getfield 51, 3) := by decide +kernel
theorem d_B_leads_15 : decode prog_2_method_2_code 15 = .ok (.if_icmp .ne 7, 3) := by decide +kernel
theorem d_B_leads_18 : decode prog_2_method_2_code 18 = .ok (.iconst 1, 1) := by decide +kernel
theorem d_B_leads_19 : decode prog_2_method_2_code 19 = .ok (.goto 4, 3) := by decide +kernel
theorem d_B_leads_22 : decode prog_2_method_2_code 22 = .ok (.iconst 0, 1) := by decide +kernel
theorem d_B_leads_23 : decode prog_2_method_2_code 23 = .ok (.ireturn, 1) := by decide +kernel
theorem d_I_append_0 : decode prog_1_method_27_code 0 = .ok (.aload_n 1, 1) := by decide +kernel
theorem d_I_append_1 : decode prog_1_method_27_code 1 = .ok (.getfield 60, 3) := by decide +kernel
theorem d_I_append_4 : decode prog_1_method_27_code 4 = .ok (.invokevirtual 187, 3) := by decide +kernel
theorem d_I_append_7 : decode prog_1_method_27_code 7 = .ok (.ifCond .eq 6, 3) := by decide +kernel
theorem d_I_append_10 : decode prog_1_method_27_code 10 = .ok (.bipush (-2), 2) := by decide +kernel
theorem d_I_append_12 : decode prog_1_method_27_code 12 = .ok (.ireturn, 1) := by decide +kernel
theorem d_I_append_13 : decode prog_1_method_27_code 13 = .ok (.aload_n 1, 1) := by decide +kernel
theorem d_I_append_14 : decode prog_1_method_27_code 14 = .ok (.getfield 146, 3) := by decide +kernel
theorem d_I_append_17 : decode prog_1_method_27_code 17 = .ok (.invokestatic 190, 3) := by decide +kernel
theorem d_I_append_20 : decode prog_1_method_27_code 20 = .ok (.aload_n 0, 1) := by decide +kernel
theorem d_I_append_21 : decode prog_1_method_27_code 21 = .ok (.getfield 20, 3) := by decide +kernel
theorem d_I_append_24 : decode prog_1_method_27_code 24 = .ok (.if_icmp .ge 6, 3) := by decide +kernel
theorem d_I_append_27 : decode prog_1_method_27_code 27 = .ok (.bipush (-3), 2) := by decide +kernel
theorem d_I_append_29 : decode prog_1_method_27_code 29 = .ok (.ireturn, 1) := by decide +kernel
theorem d_I_append_30 : decode prog_1_method_27_code 30 = .ok (.aload_n 1, 1) := by decide +kernel
theorem d_I_append_31 : decode prog_1_method_27_code 31 = .ok (.getfield 60, 3) := by decide +kernel
theorem d_I_append_34 : decode prog_1_method_27_code 34 = .ok (.iload_n 2, 1) := by decide +kernel
theorem d_I_append_35 : decode prog_1_method_27_code 35 = .ok (.iload_n 3, 1) := by decide +kernel
theorem d_I_append_36 : decode prog_1_method_27_code 36 = .ok (.invokevirtual 195, 3) := by decide +kernel
theorem d_I_append_39 : decode prog_1_method_27_code 39 = .ok (.aload_n 1, 1) := by decide +kernel
theorem d_I_append_40 : decode prog_1_method_27_code 40 = .ok (.invokevirtual 149, 3) := by decide +kernel
theorem d_I_append_43 : decode prog_1_method_27_code 43 = .ok (.aload_n 1, 1) := by decide +kernel
theorem d_I_append_44 : decode prog_1_method_27_code 44 = .ok (.getfield 60, 3) := by decide +kernel
theorem d_I_append_47 : decode prog_1_method_27_code 47 = .ok (.getfield 93, 3) := by decide +kernel
theorem d_I_append_50 : decode prog_1_method_27_code 50 = .ok (.iconst 1, 1) := by decide +kernel
theorem d_I_append_51 : decode prog_1_method_27_code 51 = .ok (.isub, 1) := by decide +kernel
theorem d_I_append_52 : decode prog_1_method_27_code 52 = .ok (.ireturn, 1) := by decide +kernel
theorem d_L_isFull_0 : decode prog_5_method_3_code 0 = .ok (.aload_n 0, 1) := by decide +kernel
theorem d_L_isFull_1 : decode prog_5_method_3_code 1 = .ok (.getfield 18, 3) := by decide +kernel
theorem d_L_isFull_4 : decode prog_5_method_3_code 4 = .ok (.bipush 40, 2) := by decide +kernel
theorem d_L_isFull_6 : decode prog_5_method_3_code 6 = .ok (.if_icmp .lt 7, 3) := by decide +kernel
theorem d_L_isFull_9 : decode prog_5_method_3_code 9 = .ok (.iconst 1, 1) := by decide +kernel
theorem d_L_isFull_10 : decode prog_5_method_3_code 10 = .ok (.goto 4, 3) := by decide +kernel
theorem d_L_isFull_13 : decode prog_5_method_3_code 13 = .ok (.iconst 0, 1) := by decide +kernel
theorem d_L_isFull_14 : decode prog_5_method_3_code 14 = .ok (.ireturn, 1) := by decide +kernel
theorem d_Int_bitCount_0 : decode prog_9_method_49_code 0 = .ok (.iload_n 0, 1) := by decide +kernel
theorem d_Int_bitCount_1 : decode prog_9_method_49_code 1 = .ok (.iload_n 0, 1) := by decide +kernel
theorem d_Int_bitCount_2 : decode prog_9_method_49_code 2 = .ok (.iconst 1, 1) := by decide +kernel
theorem d_Int_bitCount_3 : decode prog_9_method_49_code 3 = .ok (.iushr, 1) := by decide +kernel
theorem d_Int_bitCount_4 : decode prog_9_method_49_code 4 = .ok (.ldc_w 265, 3) := by decide +kernel
theorem d_Int_bitCount_7 : decode prog_9_method_49_code 7 = .ok (.iand, 1) := by decide +kernel
theorem d_Int_bitCount_8 : decode prog_9_method_49_code 8 = .ok (.isub, 1) := by decide +kernel
theorem d_Int_bitCount_9 : decode prog_9_method_49_code 9 = .ok (.istore_n 0, 1) := by decide +kernel
theorem d_Int_bitCount_10 : decode prog_9_method_49_code 10 = .ok (.iload_n 0, 1) := by decide +kernel
theorem d_Int_bitCount_11 : decode prog_9_method_49_code 11 = .ok (.ldc_w 266, 3) := by decide +kernel
theorem d_Int_bitCount_14 : decode prog_9_method_49_code 14 = .ok (.iand, 1) := by decide +kernel
theorem d_Int_bitCount_15 : decode prog_9_method_49_code 15 = .ok (.iload_n 0, 1) := by decide +kernel
theorem d_Int_bitCount_16 : decode prog_9_method_49_code 16 = .ok (.iconst 2, 1) := by decide +kernel
theorem d_Int_bitCount_17 : decode prog_9_method_49_code 17 = .ok (.iushr, 1) := by decide +kernel
theorem d_Int_bitCount_18 : decode prog_9_method_49_code 18 = .ok (.ldc_w 266, 3) := by decide +kernel
theorem d_Int_bitCount_21 : decode prog_9_method_49_code 21 = .ok (.iand, 1) := by decide +kernel
theorem d_Int_bitCount_22 : decode prog_9_method_49_code 22 = .ok (.iadd, 1) := by decide +kernel
theorem d_Int_bitCount_23 : decode prog_9_method_49_code 23 = .ok (.istore_n 0, 1) := by decide +kernel
theorem d_Int_bitCount_24 : decode prog_9_method_49_code 24 = .ok (.iload_n 0, 1) := by decide +kernel
theorem d_Int_bitCount_25 : decode prog_9_method_49_code 25 = .ok (.iload_n 0, 1) := by decide +kernel
theorem d_Int_bitCount_26 : decode prog_9_method_49_code 26 = .ok (.iconst 4, 1) := by decide +kernel
theorem d_Int_bitCount_27 : decode prog_9_method_49_code 27 = .ok (.iushr, 1) := by decide +kernel
theorem d_Int_bitCount_28 : decode prog_9_method_49_code 28 = .ok (.iadd, 1) := by decide +kernel
theorem d_Int_bitCount_29 : decode prog_9_method_49_code 29 = .ok (.ldc_w 267, 3) := by decide +kernel
theorem d_Int_bitCount_32 : decode prog_9_method_49_code 32 = .ok (.iand, 1) := by decide +kernel
theorem d_Int_bitCount_33 : decode prog_9_method_49_code 33 = .ok (.istore_n 0, 1) := by decide +kernel
theorem d_Int_bitCount_34 : decode prog_9_method_49_code 34 = .ok (.iload_n 0, 1) := by decide +kernel
theorem d_Int_bitCount_35 : decode prog_9_method_49_code 35 = .ok (.iload_n 0, 1) := by decide +kernel
theorem d_Int_bitCount_36 : decode prog_9_method_49_code 36 = .ok (.bipush 8, 2) := by decide +kernel
theorem d_Int_bitCount_38 : decode prog_9_method_49_code 38 = .ok (.iushr, 1) := by decide +kernel
theorem d_Int_bitCount_39 : decode prog_9_method_49_code 39 = .ok (.iadd, 1) := by decide +kernel
theorem d_Int_bitCount_40 : decode prog_9_method_49_code 40 = .ok (.istore_n 0, 1) := by decide +kernel
theorem d_Int_bitCount_41 : decode prog_9_method_49_code 41 = .ok (.iload_n 0, 1) := by decide +kernel
theorem d_Int_bitCount_42 : decode prog_9_method_49_code 42 = .ok (.iload_n 0, 1) := by decide +kernel
theorem d_Int_bitCount_43 : decode prog_9_method_49_code 43 = .ok (.bipush 16, 2) := by decide +kernel
theorem d_Int_bitCount_45 : decode prog_9_method_49_code 45 = .ok (.iushr, 1) := by decide +kernel
theorem d_Int_bitCount_46 : decode prog_9_method_49_code 46 = .ok (.iadd, 1) := by decide +kernel
theorem d_Int_bitCount_47 : decode prog_9_method_49_code 47 = .ok (.istore_n 0, 1) := by decide +kernel
theorem d_Int_bitCount_48 : decode prog_9_method_49_code 48 = .ok (.iload_n 0, 1) := by decide +kernel
theorem d_Int_bitCount_49 : decode prog_9_method_49_code 49 = .ok (.bipush 63, 2) := by decide +kernel
theorem d_Int_bitCount_51 : decode prog_9_method_49_code 51 = .ok (.iand, 1) := by decide +kernel
theorem d_Int_bitCount_52 : decode prog_9_method_49_code 52 = .ok (.ireturn, 1) := by decide +kernel
theorem d_L_add_0 : decode prog_5_method_9_code 0 = .ok (.aload_n 0, 1) := by decide +kernel
theorem d_L_add_1 : decode prog_5_method_9_code 1 = .ok (.invokevirtual 38, 3) := by decide +kernel
theorem d_L_add_4 : decode prog_5_method_9_code 4 = .ok (.ifCond .eq 4, 3) := by decide +kernel
theorem d_L_add_7 : decode prog_5_method_9_code 7 = .ok (.return_, 1) := by decide +kernel
theorem d_L_add_8 : decode prog_5_method_9_code 8 = .ok (.aload_n 0, 1) := by decide +kernel
theorem d_L_add_9 : decode prog_5_method_9_code 9 = .ok (.getfield 9, 3) := by decide +kernel
theorem d_L_add_12 : decode prog_5_method_9_code 12 = .ok (.aload_n 0, 1) := by decide +kernel
theorem d_L_add_13 : decode prog_5_method_9_code 13 = .ok (.getfield 18, 3) := by decide +kernel
theorem d_L_add_16 : decode prog_5_method_9_code 16 = .ok (.iload_n 1, 1) := by decide +kernel
theorem d_L_add_17 : decode prog_5_method_9_code 17 = .ok (.iastore, 1) := by decide +kernel
theorem d_L_add_18 : decode prog_5_method_9_code 18 = .ok (.aload_n 0, 1) := by decide +kernel
theorem d_L_add_19 : decode prog_5_method_9_code 19 = .ok (.getfield 15, 3) := by decide +kernel
theorem d_L_add_22 : decode prog_5_method_9_code 22 = .ok (.aload_n 0, 1) := by decide +kernel
theorem d_L_add_23 : decode prog_5_method_9_code 23 = .ok (.getfield 18, 3) := by decide +kernel
theorem d_L_add_26 : decode prog_5_method_9_code 26 = .ok (.iload_n 2, 1) := by decide +kernel
theorem d_L_add_27 : decode prog_5_method_9_code 27 = .ok (.iastore, 1) := by decide +kernel
theorem d_L_add_28 : decode prog_5_method_9_code 28 = .ok (.aload_n 0, 1) := by decide +kernel
theorem d_L_add_29 : decode prog_5_method_9_code 29 = .ok (.dup, 1) := by decide +kernel
theorem d_L_add_30 : decode prog_5_method_9_code 30 = .ok (.getfield 18, 3) := by decide +kernel
theorem d_L_add_33 : decode prog_5_method_9_code 33 = .ok (.iconst 1, 1) := by decide +kernel
theorem d_L_add_34 : decode prog_5_method_9_code 34 = .ok (.iadd, 1) := by decide +kernel
theorem d_L_add_35 : decode prog_5_method_9_code 35 = .ok (.putfield 18, 3) := by decide +kernel
theorem d_L_add_38 : decode prog_5_method_9_code 38 = .ok (.return_, 1) := by decide +kernel
theorem d_B_raiseHw_0 : decode prog_2_method_7_code 0 = .ok (.aload_n 0, 1) := by decide +kernel
theorem d_B_raiseHw_1 : decode prog_2_method_7_code 1 = .ok (.getfield 12, 3) := by decide +kernel
theorem d_B_raiseHw_4 : decode prog_2_method_7_code 4 = .ok (.getfield 64, 3) := by decide +kernel
theorem d_B_raiseHw_7 : decode prog_2_method_7_code 7 = .ok (.istore_n 1, 1) := by decide +kernel
theorem d_B_raiseHw_8 : decode prog_2_method_7_code 8 = .ok (.iconst 0, 1) := by decide +kernel
theorem d_B_raiseHw_9 : decode prog_2_method_7_code 9 = .ok (.istore_n 2, 1) := by decide +kernel
theorem d_B_raiseHw_10 : decode prog_2_method_7_code 10 = .ok (.iload_n 2, 1) := by decide +kernel
theorem d_B_raiseHw_11 : decode prog_2_method_7_code 11 = .ok (.iconst 4, 1) := by decide +kernel
theorem d_B_raiseHw_12 : decode prog_2_method_7_code 12 = .ok (.if_icmp .ge 39, 3) := by decide +kernel
theorem d_B_raiseHw_15 : decode prog_2_method_7_code 15 = .ok (.iload_n 2, 1) := by decide +kernel
theorem d_B_raiseHw_16 : decode prog_2_method_7_code 16 = .ok (.aload_n 0, 1) := by decide +kernel
theorem d_B_raiseHw_17 : decode prog_2_method_7_code 17 = .ok (.getfield 51, 3) := by decide +kernel
theorem d_B_raiseHw_20 : decode prog_2_method_7_code 20 = .ok (.if_icmp .eq 25, 3) := by decide +kernel
theorem d_B_raiseHw_23 : decode prog_2_method_7_code 23 = .ok (.aload_n 0, 1) := by decide +kernel
theorem d_B_raiseHw_24 : decode prog_2_method_7_code 24 = .ok (.getfield 48, 3) := by decide +kernel
theorem d_B_raiseHw_27 : decode prog_2_method_7_code 27 = .ok (.iload_n 2, 1) := by decide +kernel
theorem d_B_raiseHw_28 : decode prog_2_method_7_code 28 = .ok (.invokestatic 83, 3) := by decide +kernel
theorem d_B_raiseHw_31 : decode prog_2_method_7_code 31 = .ok (.ifCond .eq 14, 3) := by decide +kernel
theorem d_B_raiseHw_34 : decode prog_2_method_7_code 34 = .ok (.iload_n 1, 1) := by decide +kernel
theorem d_B_raiseHw_35 : decode prog_2_method_7_code 35 = .ok (.aload_n 0, 1) := by decide +kernel
theorem d_B_raiseHw_36 : decode prog_2_method_7_code 36 = .ok (.getfield 18, 3) := by decide +kernel
theorem d_B_raiseHw_39 : decode prog_2_method_7_code 39 = .ok (.iload_n 2, 1) := by decide +kernel
theorem d_B_raiseHw_40 : decode prog_2_method_7_code 40 = .ok (.iaload, 1) := by decide +kernel
theorem d_B_raiseHw_41 : decode prog_2_method_7_code 41 = .ok (.invokestatic 87, 3) := by decide +kernel
theorem d_B_raiseHw_44 : decode prog_2_method_7_code 44 = .ok (.istore_n 1, 1) := by decide +kernel
theorem d_B_raiseHw_45 : decode prog_2_method_7_code 45 = .ok (.iinc 2 1, 3) := by decide +kernel
theorem d_B_raiseHw_48 : decode prog_2_method_7_code 48 = .ok (.goto (-38), 3) := by decide +kernel
theorem d_B_raiseHw_51 : decode prog_2_method_7_code 51 = .ok (.aload_n 0, 1) := by decide +kernel
theorem d_B_raiseHw_52 : decode prog_2_method_7_code 52 = .ok (.aload_n 0, 1) := by decide +kernel
theorem d_B_raiseHw_53 : decode prog_2_method_7_code 53 = .ok (.getfield 36, 3) := by decide +kernel
theorem d_B_raiseHw_56 : decode prog_2_method_7_code 56 = .ok (.iload_n 1, 1) := by decide +kernel
theorem d_B_raiseHw_57 : decode prog_2_method_7_code 57 = .ok (.invokestatic 74, 3) := by decide +kernel
theorem d_B_raiseHw_60 : decode prog_2_method_7_code 60 = .ok (.putfield 36, 3) := by decide +kernel
theorem d_B_raiseHw_63 : decode prog_2_method_7_code 63 = .ok (.return_, 1) := by decide +kernel
theorem d_I_contains_0 : decode prog_1_method_23_code 0 = .ok (.iload_n 0, 1) := by decide +kernel
theorem d_I_contains_1 : decode prog_1_method_23_code 1 = .ok (.iload_n 1, 1) := by decide +kernel
theorem d_I_contains_2 : decode prog_1_method_23_code 2 = .ok (.ishr, 1) := by decide +kernel
theorem d_I_contains_3 : decode prog_1_method_23_code 3 = .ok (.iconst 1, 1) := by decide +kernel
theorem d_I_contains_4 : decode prog_1_method_23_code 4 = .ok (.iand, 1) := by decide +kernel
theorem d_I_contains_5 : decode prog_1_method_23_code 5 = .ok (.iconst 1, 1) := by decide +kernel
theorem d_I_contains_6 : decode prog_1_method_23_code 6 = .ok (.if_icmp .ne 7, 3) := by decide +kernel
theorem d_I_contains_9 : decode prog_1_method_23_code 9 = .ok (.iconst 1, 1) := by decide +kernel
theorem d_I_contains_10 : decode prog_1_method_23_code 10 = .ok (.goto 4, 3) := by decide +kernel
theorem d_I_contains_13 : decode prog_1_method_23_code 13 = .ok (.iconst 0, 1) := by decide +kernel
theorem d_I_contains_14 : decode prog_1_method_23_code 14 = .ok (.ireturn, 1) := by decide +kernel
theorem d_I_commit_0 : decode prog_1_method_3_code 0 = .ok (.aload_n 0, 1) := by decide +kernel
theorem d_I_commit_1 : decode prog_1_method_3_code 1 = .ok (.iload_n 1, 1) := by decide +kernel
theorem d_I_commit_2 : decode prog_1_method_3_code 2 = .ok (.invokevirtual 46, 3) := by decide +kernel
theorem d_I_commit_5 : decode prog_1_method_3_code 5 = .ok (.ifCond .eq 20, 3) := by decide +kernel
theorem d_I_commit_8 : decode prog_1_method_3_code 8 = .ok (.iload_n 2, 1) := by decide +kernel
theorem d_I_commit_9 : decode prog_1_method_3_code 9 = .ok (.ifCond .lt 16, 3) := by decide +kernel
theorem d_I_commit_12 : decode prog_1_method_3_code 12 = .ok (.iload_n 2, 1) := by decide +kernel
theorem d_I_commit_13 : decode prog_1_method_3_code 13 = .ok (.aload_n 0, 1) := by decide +kernel
theorem d_I_commit_14 : decode prog_1_method_3_code 14 = .ok (.getfield 39, 3) := by decide +kernel
theorem d_I_commit_17 : decode prog_1_method_3_code 17 = .ok (.iload_n 1, 1) := by decide +kernel
theorem d_I_commit_18 : decode prog_1_method_3_code 18 = .ok (.aaload, 1) := by decide +kernel
theorem d_I_commit_19 : decode prog_1_method_3_code 19 = .ok (.getfield 57, 3) := by decide +kernel
theorem d_I_commit_22 : decode prog_1_method_3_code 22 = .ok (.if_icmp .le 5, 3) := by decide +kernel
theorem d_I_commit_25 : decode prog_1_method_3_code 25 = .ok (.iconst (-1), 1) := by decide +kernel
theorem d_I_commit_26 : decode prog_1_method_3_code 26 = .ok (.ireturn, 1) := by decide +kernel
theorem d_I_commit_27 : decode prog_1_method_3_code 27 = .ok (.aload_n 0, 1) := by decide +kernel
theorem d_I_commit_28 : decode prog_1_method_3_code 28 = .ok (.aload_n 0, 1) := by decide +kernel
theorem d_I_commit_29 : decode prog_1_method_3_code 29 = .ok (.getfield 39, 3) := by decide +kernel
theorem d_I_commit_32 : decode prog_1_method_3_code 32 = .ok (.iload_n 1, 1) := by decide +kernel
theorem d_I_commit_33 : decode prog_1_method_3_code 33 = .ok (.aaload, 1) := by decide +kernel
theorem d_I_commit_34 : decode prog_1_method_3_code 34 = .ok (.aload_n 0, 1) := by decide +kernel
theorem d_I_commit_35 : decode prog_1_method_3_code 35 = .ok (.getfield 39, 3) := by decide +kernel
theorem d_I_commit_38 : decode prog_1_method_3_code 38 = .ok (.iload_n 1, 1) := by decide +kernel
theorem d_I_commit_39 : decode prog_1_method_3_code 39 = .ok (.aaload, 1) := by decide +kernel
theorem d_I_commit_40 : decode prog_1_method_3_code 40 = .ok (.getfield 50, 3) := by decide +kernel
theorem d_I_commit_43 : decode prog_1_method_3_code 43 = .ok (.ineg, 1) := by decide +kernel
theorem d_I_commit_44 : decode prog_1_method_3_code 44 = .ok (.iload_n 2, 1) := by decide +kernel
theorem d_I_commit_45 : decode prog_1_method_3_code 45 = .ok (.invokevirtual 53, 3) := by decide +kernel
theorem d_I_commit_48 : decode prog_1_method_3_code 48 = .ok (.ireturn, 1) := by decide +kernel
theorem d_I_readable_0 : decode prog_1_method_4_code 0 = .ok (.aload_n 0, 1) := by decide +kernel
theorem d_I_readable_1 : decode prog_1_method_4_code 1 = .ok (.iload_n 1, 1) := by decide +kernel
theorem d_I_readable_2 : decode prog_1_method_4_code 2 = .ok (.invokevirtual 46, 3) := by decide +kernel
theorem d_I_readable_5 : decode prog_1_method_4_code 5 = .ok (.ifCond .eq 32, 3) := by decide +kernel
theorem d_I_readable_8 : decode prog_1_method_4_code 8 = .ok (.iload_n 2, 1) := by decide +kernel
theorem d_I_readable_9 : decode prog_1_method_4_code 9 = .ok (.aload_n 0, 1) := by decide +kernel
theorem d_I_readable_10 : decode prog_1_method_4_code 10 = .ok (.getfield 39, 3) := by decide +kernel
theorem d_I_readable_13 : decode prog_1_method_4_code 13 = .ok (.iload_n 1, 1) := by decide +kernel
theorem d_I_readable_14 : decode prog_1_method_4_code 14 = .ok (.aaload, 1) := by decide +kernel
theorem d_I_readable_15 : decode prog_1_method_4_code 15 = .ok (.getfield 57, 3) := by decide +kernel
theorem d_I_readable_18 : decode prog_1_method_4_code 18 = .ok (.if_icmp .ge 19, 3) := by decide +kernel
theorem d_I_readable_21 : decode prog_1_method_4_code 21 = .ok (.aload_n 0, 1) := by decide +kernel
theorem d_I_readable_22 : decode prog_1_method_4_code 22 = .ok (.getfield 39, 3) := by decide +kernel
theorem d_I_readable_25 : decode prog_1_method_4_code 25 = .ok (.iload_n 1, 1) := by decide +kernel
theorem d_I_readable_26 : decode prog_1_method_4_code 26 = .ok (.aaload, 1) := by decide +kernel
theorem d_I_readable_27 : decode prog_1_method_4_code 27 = .ok (.getfield 60, 3) := by decide +kernel
theorem d_I_readable_30 : decode prog_1_method_4_code 30 = .ok (.iload_n 2, 1) := by decide +kernel
theorem d_I_readable_31 : decode prog_1_method_4_code 31 = .ok (.invokevirtual 64, 3) := by decide +kernel
theorem d_I_readable_34 : decode prog_1_method_4_code 34 = .ok (.ifCond .ne 5, 3) := by decide +kernel
theorem d_I_readable_37 : decode prog_1_method_4_code 37 = .ok (.iconst 0, 1) := by decide +kernel
theorem d_I_readable_38 : decode prog_1_method_4_code 38 = .ok (.ireturn, 1) := by decide +kernel
theorem d_I_readable_39 : decode prog_1_method_4_code 39 = .ok (.aload_n 0, 1) := by decide +kernel
theorem d_I_readable_40 : decode prog_1_method_4_code 40 = .ok (.getfield 39, 3) := by decide +kernel
theorem d_I_readable_43 : decode prog_1_method_4_code 43 = .ok (.iload_n 1, 1) := by decide +kernel
theorem d_I_readable_44 : decode prog_1_method_4_code 44 = .ok (.aaload, 1) := by decide +kernel
theorem d_I_readable_45 : decode prog_1_method_4_code 45 = .ok (.getfield 60, 3) := by decide +kernel
theorem d_I_readable_48 : decode prog_1_method_4_code 48 = .ok (.iload_n 2, 1) := by decide +kernel
theorem d_I_readable_49 : decode prog_1_method_4_code 49 = .ok (.invokevirtual 69, 3) := by decide +kernel
theorem d_I_readable_52 : decode prog_1_method_4_code 52 = .ok (.ifCond .eq 7, 3) := by decide +kernel
theorem d_I_readable_55 : decode prog_1_method_4_code 55 = .ok (.iconst 2, 1) := by decide +kernel
theorem d_I_readable_56 : decode prog_1_method_4_code 56 = .ok (.goto 4, 3) := by decide +kernel
theorem d_I_readable_59 : decode prog_1_method_4_code 59 = .ok (.iconst 1, 1) := by decide +kernel
theorem d_I_readable_60 : decode prog_1_method_4_code 60 = .ok (.ireturn, 1) := by decide +kernel
theorem d_L_has_0 : decode prog_5_method_2_code 0 = .ok (.iload_n 1, 1) := by decide +kernel
theorem d_L_has_1 : decode prog_5_method_2_code 1 = .ok (.ifCond .lt 15, 3) := by decide +kernel
theorem d_L_has_4 : decode prog_5_method_2_code 4 = .ok (.iload_n 1, 1) := by decide +kernel
theorem d_L_has_5 : decode prog_5_method_2_code 5 = .ok (.aload_n 0, 1) := by decide +kernel
theorem d_L_has_6 : decode prog_5_method_2_code 6 = .ok (.getfield 18, 3) := by decide +kernel
theorem d_L_has_9 : decode prog_5_method_2_code 9 = .ok (.if_icmp .ge 7, 3) := by decide +kernel
theorem d_L_has_12 : decode prog_5_method_2_code 12 = .ok (.iconst 1, 1) := by decide +kernel
theorem d_L_has_13 : decode prog_5_method_2_code 13 = .ok (.goto 4, 3) := by decide +kernel
theorem d_L_has_16 : decode prog_5_method_2_code 16 = .ok (.iconst 0, 1) := by decide +kernel
theorem d_L_has_17 : decode prog_5_method_2_code 17 = .ok (.ireturn, 1) := by decide +kernel
theorem d_L_isMark_0 : decode prog_5_method_4_code 0 = .ok (.aload_n 0, 1) := by decide +kernel
theorem d_L_isMark_1 : decode prog_5_method_4_code 1 = .ok (.iload_n 1, 1) := by decide +kernel
theorem d_L_isMark_2 : decode prog_5_method_4_code 2 = .ok (.invokevirtual 22, 3) := by decide +kernel
theorem d_L_isMark_5 : decode prog_5_method_4_code 5 = .ok (.ifCond .ge 7, 3) := by decide +kernel
theorem d_L_isMark_8 : decode prog_5_method_4_code 8 = .ok (.iconst 1, 1) := by decide +kernel
theorem d_L_isMark_9 : decode prog_5_method_4_code 9 = .ok (.goto 4, 3) := by decide +kernel
theorem d_L_isMark_12 : decode prog_5_method_4_code 12 = .ok (.iconst 0, 1) := by decide +kernel
theorem d_L_isMark_13 : decode prog_5_method_4_code 13 = .ok (.ireturn, 1) := by decide +kernel
theorem d_L_stampOf_0 : decode prog_5_method_5_code 0 = .ok (.aload_n 0, 1) := by decide +kernel
theorem d_L_stampOf_1 : decode prog_5_method_5_code 1 = .ok (.iload_n 1, 1) := by decide +kernel
theorem d_L_stampOf_2 : decode prog_5_method_5_code 2 = .ok (.invokevirtual 26, 3) := by decide +kernel
theorem d_L_stampOf_5 : decode prog_5_method_5_code 5 = .ok (.ifCond .eq 12, 3) := by decide +kernel
theorem d_L_stampOf_8 : decode prog_5_method_5_code 8 = .ok (.aload_n 0, 1) := by decide +kernel
theorem d_L_stampOf_9 : decode prog_5_method_5_code 9 = .ok (.getfield 9, 3) := by decide +kernel
theorem d_L_stampOf_12 : decode prog_5_method_5_code 12 = .ok (.iload_n 1, 1) := by decide +kernel
theorem d_L_stampOf_13 : decode prog_5_method_5_code 13 = .ok (.iaload, 1) := by decide +kernel
theorem d_L_stampOf_14 : decode prog_5_method_5_code 14 = .ok (.goto 4, 3) := by decide +kernel
theorem d_L_stampOf_17 : decode prog_5_method_5_code 17 = .ok (.iconst 0, 1) := by decide +kernel
theorem d_L_stampOf_18 : decode prog_5_method_5_code 18 = .ok (.ireturn, 1) := by decide +kernel
theorem d_I_committed_0 : decode prog_1_method_5_code 0 = .ok (.aload_n 0, 1) := by decide +kernel
theorem d_I_committed_1 : decode prog_1_method_5_code 1 = .ok (.iload_n 1, 1) := by decide +kernel
theorem d_I_committed_2 : decode prog_1_method_5_code 2 = .ok (.invokevirtual 46, 3) := by decide +kernel
theorem d_I_committed_5 : decode prog_1_method_5_code 5 = .ok (.ifCond .ne 5, 3) := by decide +kernel
theorem d_I_committed_8 : decode prog_1_method_5_code 8 = .ok (.iconst (-1), 1) := by decide +kernel
theorem d_I_committed_9 : decode prog_1_method_5_code 9 = .ok (.ireturn, 1) := by decide +kernel
theorem d_I_committed_10 : decode prog_1_method_5_code 10 = .ok (.aload_n 0, 1) := by decide +kernel
theorem d_I_committed_11 : decode prog_1_method_5_code 11 = .ok (.getfield 39, 3) := by decide +kernel
theorem d_I_committed_14 : decode prog_1_method_5_code 14 = .ok (.iload_n 1, 1) := by decide +kernel
theorem d_I_committed_15 : decode prog_1_method_5_code 15 = .ok (.aaload, 1) := by decide +kernel
theorem d_I_committed_16 : decode prog_1_method_5_code 16 = .ok (.getfield 60, 3) := by decide +kernel
theorem d_I_committed_19 : decode prog_1_method_5_code 19 = .ok (.astore_n 2, 1) := by decide +kernel
theorem d_I_committed_20 : decode prog_1_method_5_code 20 = .ok (.aload_n 0, 1) := by decide +kernel
theorem d_I_committed_21 : decode prog_1_method_5_code 21 = .ok (.getfield 39, 3) := by decide +kernel
theorem d_I_committed_24 : decode prog_1_method_5_code 24 = .ok (.iload_n 1, 1) := by decide +kernel
theorem d_I_committed_25 : decode prog_1_method_5_code 25 = .ok (.aaload, 1) := by decide +kernel
theorem d_I_committed_26 : decode prog_1_method_5_code 26 = .ok (.getfield 57, 3) := by decide +kernel
theorem d_I_committed_29 : decode prog_1_method_5_code 29 = .ok (.iconst 1, 1) := by decide +kernel
theorem d_I_committed_30 : decode prog_1_method_5_code 30 = .ok (.isub, 1) := by decide +kernel
theorem d_I_committed_31 : decode prog_1_method_5_code 31 = .ok (.istore_n 3, 1) := by decide +kernel
theorem d_I_committed_32 : decode prog_1_method_5_code 32 = .ok (.iload_n 3, 1) := by decide +kernel
theorem d_I_committed_33 : decode prog_1_method_5_code 33 = .ok (.ifCond .lt 23, 3) := by decide +kernel
theorem d_I_committed_36 : decode prog_1_method_5_code 36 = .ok (.aload_n 2, 1) := by decide +kernel
theorem d_I_committed_37 : decode prog_1_method_5_code 37 = .ok (.iload_n 3, 1) := by decide +kernel
theorem d_I_committed_38 : decode prog_1_method_5_code 38 = .ok (.invokevirtual 69, 3) := by decide +kernel
theorem d_I_committed_41 : decode prog_1_method_5_code 41 = .ok (.ifCond .eq 9, 3) := by decide +kernel
theorem d_I_committed_44 : decode prog_1_method_5_code 44 = .ok (.aload_n 2, 1) := by decide +kernel
theorem d_I_committed_45 : decode prog_1_method_5_code 45 = .ok (.iload_n 3, 1) := by decide +kernel
theorem d_I_committed_46 : decode prog_1_method_5_code 46 = .ok (.invokevirtual 72, 3) := by decide +kernel
theorem d_I_committed_49 : decode prog_1_method_5_code 49 = .ok (.ireturn, 1) := by decide +kernel
theorem d_I_committed_50 : decode prog_1_method_5_code 50 = .ok (.iinc 3 (-1), 3) := by decide +kernel
theorem d_I_committed_53 : decode prog_1_method_5_code 53 = .ok (.goto (-21), 3) := by decide +kernel
theorem d_I_committed_56 : decode prog_1_method_5_code 56 = .ok (.iconst (-1), 1) := by decide +kernel
theorem d_I_committed_57 : decode prog_1_method_5_code 57 = .ok (.ireturn, 1) := by decide +kernel
theorem d_L_valueOf_0 : decode prog_5_method_7_code 0 = .ok (.aload_n 0, 1) := by decide +kernel
theorem d_L_valueOf_1 : decode prog_5_method_7_code 1 = .ok (.iload_n 1, 1) := by decide +kernel
theorem d_L_valueOf_2 : decode prog_5_method_7_code 2 = .ok (.invokevirtual 26, 3) := by decide +kernel
theorem d_L_valueOf_5 : decode prog_5_method_7_code 5 = .ok (.ifCond .eq 12, 3) := by decide +kernel
theorem d_L_valueOf_8 : decode prog_5_method_7_code 8 = .ok (.aload_n 0, 1) := by decide +kernel
theorem d_L_valueOf_9 : decode prog_5_method_7_code 9 = .ok (.getfield 15, 3) := by decide +kernel
theorem d_L_valueOf_12 : decode prog_5_method_7_code 12 = .ok (.iload_n 1, 1) := by decide +kernel
theorem d_L_valueOf_13 : decode prog_5_method_7_code 13 = .ok (.iaload, 1) := by decide +kernel
theorem d_L_valueOf_14 : decode prog_5_method_7_code 14 = .ok (.goto 4, 3) := by decide +kernel
theorem d_L_valueOf_17 : decode prog_5_method_7_code 17 = .ok (.iconst 0, 1) := by decide +kernel
theorem d_L_valueOf_18 : decode prog_5_method_7_code 18 = .ok (.ireturn, 1) := by decide +kernel
theorem d_I_fetch_0 : decode prog_1_method_6_code 0 = .ok (.aload_n 0, 1) := by decide +kernel
theorem d_I_fetch_1 : decode prog_1_method_6_code 1 = .ok (.iload_n 1, 1) := by decide +kernel
theorem d_I_fetch_2 : decode prog_1_method_6_code 2 = .ok (.invokevirtual 76, 3) := by decide +kernel
theorem d_I_fetch_5 : decode prog_1_method_6_code 5 = .ok (.ifCond .eq 28, 3) := by decide +kernel
theorem d_I_fetch_8 : decode prog_1_method_6_code 8 = .ok (.aload_n 0, 1) := by decide +kernel
theorem d_I_fetch_9 : decode prog_1_method_6_code 9 = .ok (.getfield 39, 3) := by decide +kernel
theorem d_I_fetch_12 : decode prog_1_method_6_code 12 = .ok (.iload_n 1, 1) := by decide +kernel
theorem d_I_fetch_13 : decode prog_1_method_6_code 13 = .ok (.aaload, 1) := by decide +kernel
theorem d_I_fetch_14 : decode prog_1_method_6_code 14 = .ok (.invokevirtual 79, 3) := by decide +kernel
theorem d_I_fetch_17 : decode prog_1_method_6_code 17 = .ok (.ifCond .ne 16, 3) := by decide +kernel
theorem d_I_fetch_20 : decode prog_1_method_6_code 20 = .ok (.aload_n 0, 1) := by decide +kernel
theorem d_I_fetch_21 : decode prog_1_method_6_code 21 = .ok (.getfield 39, 3) := by decide +kernel
theorem d_I_fetch_24 : decode prog_1_method_6_code 24 = .ok (.iload_n 1, 1) := by decide +kernel
theorem d_I_fetch_25 : decode prog_1_method_6_code 25 = .ok (.aaload, 1) := by decide +kernel
theorem d_I_fetch_26 : decode prog_1_method_6_code 26 = .ok (.getfield 83, 3) := by decide +kernel
theorem d_I_fetch_29 : decode prog_1_method_6_code 29 = .ok (.iconst (-1), 1) := by decide +kernel
theorem d_I_fetch_30 : decode prog_1_method_6_code 30 = .ok (.if_icmp .ne 5, 3) := by decide +kernel
theorem d_I_fetch_33 : decode prog_1_method_6_code 33 = .ok (.iconst 0, 1) := by decide +kernel
theorem d_I_fetch_34 : decode prog_1_method_6_code 34 = .ok (.ireturn, 1) := by decide +kernel
theorem d_I_fetch_35 : decode prog_1_method_6_code 35 = .ok (.aload_n 0, 1) := by decide +kernel
theorem d_I_fetch_36 : decode prog_1_method_6_code 36 = .ok (.getfield 39, 3) := by decide +kernel
theorem d_I_fetch_39 : decode prog_1_method_6_code 39 = .ok (.iload_n 1, 1) := by decide +kernel
theorem d_I_fetch_40 : decode prog_1_method_6_code 40 = .ok (.aaload, 1) := by decide +kernel
theorem d_I_fetch_41 : decode prog_1_method_6_code 41 = .ok (.astore_n 2, 1) := by decide +kernel
theorem d_I_fetch_42 : decode prog_1_method_6_code 42 = .ok (.aload_n 2, 1) := by decide +kernel
theorem d_I_fetch_43 : decode prog_1_method_6_code 43 = .ok (.dup, 1) := by decide +kernel
theorem d_I_fetch_44 : decode prog_1_method_6_code 44 = .ok (.getfield 86, 3) := by decide +kernel
theorem d_I_fetch_47 : decode prog_1_method_6_code 47 = .ok (.iconst 1, 1) := by decide +kernel
theorem d_I_fetch_48 : decode prog_1_method_6_code 48 = .ok (.iadd, 1) := by decide +kernel
theorem d_I_fetch_49 : decode prog_1_method_6_code 49 = .ok (.putfield 86, 3) := by decide +kernel
theorem d_I_fetch_52 : decode prog_1_method_6_code 52 = .ok (.aload_n 2, 1) := by decide +kernel
theorem d_I_fetch_53 : decode prog_1_method_6_code 53 = .ok (.iconst 1, 1) := by decide +kernel
theorem d_I_fetch_54 : decode prog_1_method_6_code 54 = .ok (.putfield 89, 3) := by decide +kernel
theorem d_I_fetch_57 : decode prog_1_method_6_code 57 = .ok (.aload_n 0, 1) := by decide +kernel
theorem d_I_fetch_58 : decode prog_1_method_6_code 58 = .ok (.getfield 33, 3) := by decide +kernel
theorem d_I_fetch_61 : decode prog_1_method_6_code 61 = .ok (.iconst 0, 1) := by decide +kernel
theorem d_I_fetch_62 : decode prog_1_method_6_code 62 = .ok (.aload_n 2, 1) := by decide +kernel
theorem d_I_fetch_63 : decode prog_1_method_6_code 63 = .ok (.aload_n 2, 1) := by decide +kernel
theorem d_I_fetch_64 : decode prog_1_method_6_code 64 = .ok (.getfield 83, 3) := by decide +kernel
theorem d_I_fetch_67 : decode prog_1_method_6_code 67 = .ok (.aload_n 2, 1) := by decide +kernel
theorem d_I_fetch_68 : decode prog_1_method_6_code 68 = .ok (.getfield 86, 3) := by decide +kernel
theorem d_I_fetch_71 : decode prog_1_method_6_code 71 = .ok (.aload_n 2, 1) := by decide +kernel
theorem d_I_fetch_72 : decode prog_1_method_6_code 72 = .ok (.getfield 60, 3) := by decide +kernel
theorem d_I_fetch_75 : decode prog_1_method_6_code 75 = .ok (.getfield 93, 3) := by decide +kernel
theorem d_I_fetch_78 : decode prog_1_method_6_code 78 = .ok (.aload_n 2, 1) := by decide +kernel
theorem d_I_fetch_79 : decode prog_1_method_6_code 79 = .ok (.getfield 60, 3) := by decide +kernel
theorem d_I_fetch_82 : decode prog_1_method_6_code 82 = .ok (.invokevirtual 96, 3) := by decide +kernel
theorem d_I_fetch_85 : decode prog_1_method_6_code 85 = .ok (.invokevirtual 100, 3) := by decide +kernel
theorem d_I_fetch_88 : decode prog_1_method_6_code 88 = .ok (.pop, 1) := by decide +kernel
theorem d_I_fetch_89 : decode prog_1_method_6_code 89 = .ok (.iconst 1, 1) := by decide +kernel
theorem d_I_fetch_90 : decode prog_1_method_6_code 90 = .ok (.ireturn, 1) := by decide +kernel
theorem d_I_isUp_0 : decode prog_1_method_25_code 0 = .ok (.iload_n 1, 1) := by decide +kernel
theorem d_I_isUp_1 : decode prog_1_method_25_code 1 = .ok (.invokestatic 159, 3) := by decide +kernel
theorem d_I_isUp_4 : decode prog_1_method_25_code 4 = .ok (.ifCond .eq 19, 3) := by decide +kernel
theorem d_I_isUp_7 : decode prog_1_method_25_code 7 = .ok (.aload_n 0, 1) := by decide +kernel
theorem d_I_isUp_8 : decode prog_1_method_25_code 8 = .ok (.getfield 39, 3) := by decide +kernel
theorem d_I_isUp_11 : decode prog_1_method_25_code 11 = .ok (.iload_n 1, 1) := by decide +kernel
theorem d_I_isUp_12 : decode prog_1_method_25_code 12 = .ok (.aaload, 1) := by decide +kernel
theorem d_I_isUp_13 : decode prog_1_method_25_code 13 = .ok (.getfield 162, 3) := by decide +kernel
theorem d_I_isUp_16 : decode prog_1_method_25_code 16 = .ok (.ifCond .eq 7, 3) := by decide +kernel
theorem d_I_isUp_19 : decode prog_1_method_25_code 19 = .ok (.iconst 1, 1) := by decide +kernel
theorem d_I_isUp_20 : decode prog_1_method_25_code 20 = .ok (.goto 4, 3) := by decide +kernel
theorem d_I_isUp_23 : decode prog_1_method_25_code 23 = .ok (.iconst 0, 1) := by decide +kernel
theorem d_I_isUp_24 : decode prog_1_method_25_code 24 = .ok (.ireturn, 1) := by decide +kernel
theorem d_L_lastEpoch_0 : decode prog_5_method_8_code 0 = .ok (.aload_n 0, 1) := by decide +kernel
theorem d_L_lastEpoch_1 : decode prog_5_method_8_code 1 = .ok (.aload_n 0, 1) := by decide +kernel
theorem d_L_lastEpoch_2 : decode prog_5_method_8_code 2 = .ok (.getfield 18, 3) := by decide +kernel
theorem d_L_lastEpoch_5 : decode prog_5_method_8_code 5 = .ok (.iconst 1, 1) := by decide +kernel
theorem d_L_lastEpoch_6 : decode prog_5_method_8_code 6 = .ok (.isub, 1) := by decide +kernel
theorem d_L_lastEpoch_7 : decode prog_5_method_8_code 7 = .ok (.invokevirtual 35, 3) := by decide +kernel
theorem d_L_lastEpoch_10 : decode prog_5_method_8_code 10 = .ok (.ireturn, 1) := by decide +kernel
theorem d_L_epochOf_0 : decode prog_5_method_6_code 0 = .ok (.aload_n 0, 1) := by decide +kernel
theorem d_L_epochOf_1 : decode prog_5_method_6_code 1 = .ok (.iload_n 1, 1) := by decide +kernel
theorem d_L_epochOf_2 : decode prog_5_method_6_code 2 = .ok (.invokevirtual 22, 3) := by decide +kernel
theorem d_L_epochOf_5 : decode prog_5_method_6_code 5 = .ok (.invokestatic 30, 3) := by decide +kernel
theorem d_L_epochOf_8 : decode prog_5_method_6_code 8 = .ok (.ireturn, 1) := by decide +kernel
theorem d_H_send_0 : decode prog_3_method_4_code 0 = .ok (.aload_n 0, 1) := by decide +kernel
theorem d_H_send_1 : decode prog_3_method_4_code 1 = .ok (.getfield 17, 3) := by decide +kernel
theorem d_H_send_4 : decode prog_3_method_4_code 4 = .ok (.bipush 8, 2) := by decide +kernel
theorem d_H_send_6 : decode prog_3_method_4_code 6 = .ok (.if_icmp .lt 5, 3) := by decide +kernel
theorem d_H_send_9 : decode prog_3_method_4_code 9 = .ok (.aconst_null, 1) := by decide +kernel
theorem d_H_send_10 : decode prog_3_method_4_code 10 = .ok (.areturn, 1) := by decide +kernel
theorem d_H_send_11 : decode prog_3_method_4_code 11 = .ok (.aload_n 0, 1) := by decide +kernel
theorem d_H_send_12 : decode prog_3_method_4_code 12 = .ok (.getfield 11, 3) := by decide +kernel
theorem d_H_send_15 : decode prog_3_method_4_code 15 = .ok (.aload_n 0, 1) := by decide +kernel
theorem d_H_send_16 : decode prog_3_method_4_code 16 = .ok (.getfield 17, 3) := by decide +kernel
theorem d_H_send_19 : decode prog_3_method_4_code 19 = .ok (.aaload, 1) := by decide +kernel
theorem d_H_send_20 : decode prog_3_method_4_code 20 = .ok (.astore 7, 2) := by decide +kernel
theorem d_H_send_22 : decode prog_3_method_4_code 22 = .ok (.aload_n 0, 1) := by decide +kernel
theorem d_H_send_23 : decode prog_3_method_4_code 23 = .ok (.dup, 1) := by decide +kernel
theorem d_H_send_24 : decode prog_3_method_4_code 24 = .ok (.getfield 17, 3) := by decide +kernel
theorem d_H_send_27 : decode prog_3_method_4_code 27 = .ok (.iconst 1, 1) := by decide +kernel
theorem d_H_send_28 : decode prog_3_method_4_code 28 = .ok (.iadd, 1) := by decide +kernel
theorem d_H_send_29 : decode prog_3_method_4_code 29 = .ok (.putfield 17, 3) := by decide +kernel
theorem d_H_send_32 : decode prog_3_method_4_code 32 = .ok (.aload 7, 2) := by decide +kernel
theorem d_H_send_34 : decode prog_3_method_4_code 34 = .ok (.iload_n 1, 1) := by decide +kernel
theorem d_H_send_35 : decode prog_3_method_4_code 35 = .ok (.putfield 26, 3) := by decide +kernel
theorem d_H_send_38 : decode prog_3_method_4_code 38 = .ok (.aload 7, 2) := by decide +kernel
theorem d_H_send_40 : decode prog_3_method_4_code 40 = .ok (.aload_n 2, 1) := by decide +kernel
theorem d_H_send_41 : decode prog_3_method_4_code 41 = .ok (.getfield 29, 3) := by decide +kernel
theorem d_H_send_44 : decode prog_3_method_4_code 44 = .ok (.putfield 34, 3) := by decide +kernel
theorem d_H_send_47 : decode prog_3_method_4_code 47 = .ok (.aload 7, 2) := by decide +kernel
theorem d_H_send_49 : decode prog_3_method_4_code 49 = .ok (.iload_n 3, 1) := by decide +kernel
theorem d_H_send_50 : decode prog_3_method_4_code 50 = .ok (.putfield 37, 3) := by decide +kernel
theorem d_H_send_53 : decode prog_3_method_4_code 53 = .ok (.aload 7, 2) := by decide +kernel
theorem d_H_send_55 : decode prog_3_method_4_code 55 = .ok (.aload_n 2, 1) := by decide +kernel
theorem d_H_send_56 : decode prog_3_method_4_code 56 = .ok (.getfield 40, 3) := by decide +kernel
theorem d_H_send_59 : decode prog_3_method_4_code 59 = .ok (.putfield 43, 3) := by decide +kernel
theorem d_H_send_62 : decode prog_3_method_4_code 62 = .ok (.aload 7, 2) := by decide +kernel
theorem d_H_send_64 : decode prog_3_method_4_code 64 = .ok (.iload 4, 2) := by decide +kernel
theorem d_H_send_66 : decode prog_3_method_4_code 66 = .ok (.putfield 44, 3) := by decide +kernel
theorem d_H_send_69 : decode prog_3_method_4_code 69 = .ok (.aload 7, 2) := by decide +kernel
theorem d_H_send_71 : decode prog_3_method_4_code 71 = .ok (.iload 5, 2) := by decide +kernel
theorem d_H_send_73 : decode prog_3_method_4_code 73 = .ok (.putfield 47, 3) := by decide +kernel
theorem d_H_send_76 : decode prog_3_method_4_code 76 = .ok (.aload 7, 2) := by decide +kernel
theorem d_H_send_78 : decode prog_3_method_4_code 78 = .ok (.iload 6, 2) := by decide +kernel
theorem d_H_send_80 : decode prog_3_method_4_code 80 = .ok (.putfield 50, 3) := by decide +kernel
theorem d_H_send_83 : decode prog_3_method_4_code 83 = .ok (.aload 7, 2) := by decide +kernel
theorem d_H_send_85 : decode prog_3_method_4_code 85 = .ok (.areturn, 1) := by decide +kernel
theorem d_I_deliver_0 : decode prog_1_method_7_code 0 = .ok (.aload_n 0, 1) := by decide +kernel
theorem d_I_deliver_1 : decode prog_1_method_7_code 1 = .ok (.getfield 33, 3) := by decide +kernel
theorem d_I_deliver_4 : decode prog_1_method_7_code 4 = .ok (.iload_n 1, 1) := by decide +kernel
theorem d_I_deliver_5 : decode prog_1_method_7_code 5 = .ok (.invokevirtual 104, 3) := by decide +kernel
theorem d_I_deliver_8 : decode prog_1_method_7_code 8 = .ok (.astore_n 2, 1) := by decide +kernel
theorem d_I_deliver_9 : decode prog_1_method_7_code 9 = .ok (.aload_n 2, 1) := by decide +kernel
theorem d_I_deliver_10 : decode prog_1_method_7_code 10 = .ok (.ifnonnull 5, 3) := by decide +kernel
theorem d_I_deliver_13 : decode prog_1_method_7_code 13 = .ok (.iconst 0, 1) := by decide +kernel
theorem d_I_deliver_14 : decode prog_1_method_7_code 14 = .ok (.ireturn, 1) := by decide +kernel
theorem d_I_deliver_15 : decode prog_1_method_7_code 15 = .ok (.aload_n 0, 1) := by decide +kernel
theorem d_I_deliver_16 : decode prog_1_method_7_code 16 = .ok (.getfield 39, 3) := by decide +kernel
theorem d_I_deliver_19 : decode prog_1_method_7_code 19 = .ok (.aload_n 2, 1) := by decide +kernel
theorem d_I_deliver_20 : decode prog_1_method_7_code 20 = .ok (.getfield 108, 3) := by decide +kernel
theorem d_I_deliver_23 : decode prog_1_method_7_code 23 = .ok (.aaload, 1) := by decide +kernel
theorem d_I_deliver_24 : decode prog_1_method_7_code 24 = .ok (.astore_n 3, 1) := by decide +kernel
theorem d_I_deliver_25 : decode prog_1_method_7_code 25 = .ok (.aload_n 2, 1) := by decide +kernel
theorem d_I_deliver_26 : decode prog_1_method_7_code 26 = .ok (.getfield 113, 3) := by decide +kernel
theorem d_I_deliver_29 : decode prog_1_method_7_code 29 = .ok (.ifCond .ne 12, 3) := by decide +kernel
theorem d_I_deliver_32 : decode prog_1_method_7_code 32 = .ok (.aload_n 0, 1) := by decide +kernel
theorem d_I_deliver_33 : decode prog_1_method_7_code 33 = .ok (.aload_n 3, 1) := by decide +kernel
theorem d_I_deliver_34 : decode prog_1_method_7_code 34 = .ok (.aload_n 2, 1) := by decide +kernel
theorem d_I_deliver_35 : decode prog_1_method_7_code 35 = .ok (.invokevirtual 116, 3) := by decide +kernel
theorem d_I_deliver_38 : decode prog_1_method_7_code 38 = .ok (.goto 8, 3) := by decide +kernel
theorem d_I_deliver_41 : decode prog_1_method_7_code 41 = .ok (.aload_n 3, 1) := by decide +kernel
theorem d_I_deliver_42 : decode prog_1_method_7_code 42 = .ok (.aload_n 2, 1) := by decide +kernel
theorem d_I_deliver_43 : decode prog_1_method_7_code 43 = .ok (.invokevirtual 120, 3) := by decide +kernel
theorem d_I_deliver_46 : decode prog_1_method_7_code 46 = .ok (.iconst 1, 1) := by decide +kernel
theorem d_I_deliver_47 : decode prog_1_method_7_code 47 = .ok (.ireturn, 1) := by decide +kernel
theorem d_H_take_0 : decode prog_3_method_3_code 0 = .ok (.aload_n 0, 1) := by decide +kernel
theorem d_H_take_1 : decode prog_3_method_3_code 1 = .ok (.iload_n 1, 1) := by decide +kernel
theorem d_H_take_2 : decode prog_3_method_3_code 2 = .ok (.invokevirtual 22, 3) := by decide +kernel
theorem d_H_take_5 : decode prog_3_method_3_code 5 = .ok (.ifCond .ne 5, 3) := by decide +kernel
theorem d_H_take_8 : decode prog_3_method_3_code 8 = .ok (.aconst_null, 1) := by decide +kernel
theorem d_H_take_9 : decode prog_3_method_3_code 9 = .ok (.areturn, 1) := by decide +kernel
theorem d_H_take_10 : decode prog_3_method_3_code 10 = .ok (.aload_n 0, 1) := by decide +kernel
theorem d_H_take_11 : decode prog_3_method_3_code 11 = .ok (.getfield 11, 3) := by decide +kernel
theorem d_H_take_14 : decode prog_3_method_3_code 14 = .ok (.iload_n 1, 1) := by decide +kernel
theorem d_H_take_15 : decode prog_3_method_3_code 15 = .ok (.aaload, 1) := by decide +kernel
theorem d_H_take_16 : decode prog_3_method_3_code 16 = .ok (.astore_n 2, 1) := by decide +kernel
theorem d_H_take_17 : decode prog_3_method_3_code 17 = .ok (.iload_n 1, 1) := by decide +kernel
theorem d_H_take_18 : decode prog_3_method_3_code 18 = .ok (.istore_n 3, 1) := by decide +kernel
theorem d_H_take_19 : decode prog_3_method_3_code 19 = .ok (.iload_n 3, 1) := by decide +kernel
theorem d_H_take_20 : decode prog_3_method_3_code 20 = .ok (.bipush 8, 2) := by decide +kernel
theorem d_H_take_22 : decode prog_3_method_3_code 22 = .ok (.if_icmp .ge 23, 3) := by decide +kernel
theorem d_H_take_25 : decode prog_3_method_3_code 25 = .ok (.aload_n 0, 1) := by decide +kernel
theorem d_H_take_26 : decode prog_3_method_3_code 26 = .ok (.getfield 11, 3) := by decide +kernel
theorem d_H_take_29 : decode prog_3_method_3_code 29 = .ok (.iload_n 3, 1) := by decide +kernel
theorem d_H_take_30 : decode prog_3_method_3_code 30 = .ok (.aload_n 0, 1) := by decide +kernel
theorem d_H_take_31 : decode prog_3_method_3_code 31 = .ok (.getfield 11, 3) := by decide +kernel
theorem d_H_take_34 : decode prog_3_method_3_code 34 = .ok (.iload_n 3, 1) := by decide +kernel
theorem d_H_take_35 : decode prog_3_method_3_code 35 = .ok (.iconst 1, 1) := by decide +kernel
theorem d_H_take_36 : decode prog_3_method_3_code 36 = .ok (.iadd, 1) := by decide +kernel
theorem d_H_take_37 : decode prog_3_method_3_code 37 = .ok (.aaload, 1) := by decide +kernel
theorem d_H_take_38 : decode prog_3_method_3_code 38 = .ok (.aastore, 1) := by decide +kernel
theorem d_H_take_39 : decode prog_3_method_3_code 39 = .ok (.iinc 3 1, 3) := by decide +kernel
theorem d_H_take_42 : decode prog_3_method_3_code 42 = .ok (.goto (-23), 3) := by decide +kernel
theorem d_H_take_45 : decode prog_3_method_3_code 45 = .ok (.aload_n 0, 1) := by decide +kernel
theorem d_H_take_46 : decode prog_3_method_3_code 46 = .ok (.getfield 11, 3) := by decide +kernel
theorem d_H_take_49 : decode prog_3_method_3_code 49 = .ok (.bipush 8, 2) := by decide +kernel
theorem d_H_take_51 : decode prog_3_method_3_code 51 = .ok (.aload_n 2, 1) := by decide +kernel
theorem d_H_take_52 : decode prog_3_method_3_code 52 = .ok (.aastore, 1) := by decide +kernel
theorem d_H_take_53 : decode prog_3_method_3_code 53 = .ok (.aload_n 0, 1) := by decide +kernel
theorem d_H_take_54 : decode prog_3_method_3_code 54 = .ok (.dup, 1) := by decide +kernel
theorem d_H_take_55 : decode prog_3_method_3_code 55 = .ok (.getfield 17, 3) := by decide +kernel
theorem d_H_take_58 : decode prog_3_method_3_code 58 = .ok (.iconst 1, 1) := by decide +kernel
theorem d_H_take_59 : decode prog_3_method_3_code 59 = .ok (.isub, 1) := by decide +kernel
theorem d_H_take_60 : decode prog_3_method_3_code 60 = .ok (.putfield 17, 3) := by decide +kernel
theorem d_H_take_63 : decode prog_3_method_3_code 63 = .ok (.aload_n 2, 1) := by decide +kernel
theorem d_H_take_64 : decode prog_3_method_3_code 64 = .ok (.areturn, 1) := by decide +kernel
theorem d_H_has_0 : decode prog_3_method_2_code 0 = .ok (.iload_n 1, 1) := by decide +kernel
theorem d_H_has_1 : decode prog_3_method_2_code 1 = .ok (.ifCond .lt 15, 3) := by decide +kernel
theorem d_H_has_4 : decode prog_3_method_2_code 4 = .ok (.iload_n 1, 1) := by decide +kernel
theorem d_H_has_5 : decode prog_3_method_2_code 5 = .ok (.aload_n 0, 1) := by decide +kernel
theorem d_H_has_6 : decode prog_3_method_2_code 6 = .ok (.getfield 17, 3) := by decide +kernel
theorem d_H_has_9 : decode prog_3_method_2_code 9 = .ok (.if_icmp .ge 7, 3) := by decide +kernel
theorem d_H_has_12 : decode prog_3_method_2_code 12 = .ok (.iconst 1, 1) := by decide +kernel
theorem d_H_has_13 : decode prog_3_method_2_code 13 = .ok (.goto 4, 3) := by decide +kernel
theorem d_H_has_16 : decode prog_3_method_2_code 16 = .ok (.iconst 0, 1) := by decide +kernel
theorem d_H_has_17 : decode prog_3_method_2_code 17 = .ok (.ireturn, 1) := by decide +kernel
theorem d_I_answer_0 : decode prog_1_method_28_code 0 = .ok (.aload_n 1, 1) := by decide +kernel
theorem d_I_answer_1 : decode prog_1_method_28_code 1 = .ok (.invokevirtual 79, 3) := by decide +kernel
theorem d_I_answer_4 : decode prog_1_method_28_code 4 = .ok (.ifCond .eq 14, 3) := by decide +kernel
theorem d_I_answer_7 : decode prog_1_method_28_code 7 = .ok (.aload_n 1, 1) := by decide +kernel
theorem d_I_answer_8 : decode prog_1_method_28_code 8 = .ok (.getfield 50, 3) := by decide +kernel
theorem d_I_answer_11 : decode prog_1_method_28_code 11 = .ok (.aload_n 2, 1) := by decide +kernel
theorem d_I_answer_12 : decode prog_1_method_28_code 12 = .ok (.getfield 199, 3) := by decide +kernel
theorem d_I_answer_15 : decode prog_1_method_28_code 15 = .ok (.if_icmp .eq 4, 3) := by decide +kernel
theorem d_I_answer_18 : decode prog_1_method_28_code 18 = .ok (.return_, 1) := by decide +kernel
theorem d_I_answer_19 : decode prog_1_method_28_code 19 = .ok (.aload_n 1, 1) := by decide +kernel
theorem d_I_answer_20 : decode prog_1_method_28_code 20 = .ok (.getfield 60, 3) := by decide +kernel
theorem d_I_answer_23 : decode prog_1_method_28_code 23 = .ok (.aload_n 2, 1) := by decide +kernel
theorem d_I_answer_24 : decode prog_1_method_28_code 24 = .ok (.getfield 200, 3) := by decide +kernel
theorem d_I_answer_27 : decode prog_1_method_28_code 27 = .ok (.aload_n 2, 1) := by decide +kernel
theorem d_I_answer_28 : decode prog_1_method_28_code 28 = .ok (.getfield 203, 3) := by decide +kernel
theorem d_I_answer_31 : decode prog_1_method_28_code 31 = .ok (.invokevirtual 206, 3) := by decide +kernel
theorem d_I_answer_34 : decode prog_1_method_28_code 34 = .ok (.ifCond .eq 28, 3) := by decide +kernel
theorem d_I_answer_37 : decode prog_1_method_28_code 37 = .ok (.aload_n 1, 1) := by decide +kernel
theorem d_I_answer_38 : decode prog_1_method_28_code 38 = .ok (.aload_n 2, 1) := by decide +kernel
theorem d_I_answer_39 : decode prog_1_method_28_code 39 = .ok (.getfield 209, 3) := by decide +kernel
theorem d_I_answer_42 : decode prog_1_method_28_code 42 = .ok (.aload_n 2, 1) := by decide +kernel
theorem d_I_answer_43 : decode prog_1_method_28_code 43 = .ok (.getfield 200, 3) := by decide +kernel
theorem d_I_answer_46 : decode prog_1_method_28_code 46 = .ok (.aload_n 0, 1) := by decide +kernel
theorem d_I_answer_47 : decode prog_1_method_28_code 47 = .ok (.getfield 136, 3) := by decide +kernel
theorem d_I_answer_50 : decode prog_1_method_28_code 50 = .ok (.invokevirtual 212, 3) := by decide +kernel
theorem d_I_answer_53 : decode prog_1_method_28_code 53 = .ok (.aload_n 0, 1) := by decide +kernel
theorem d_I_answer_54 : decode prog_1_method_28_code 54 = .ok (.aload_n 1, 1) := by decide +kernel
theorem d_I_answer_55 : decode prog_1_method_28_code 55 = .ok (.aload_n 2, 1) := by decide +kernel
theorem d_I_answer_56 : decode prog_1_method_28_code 56 = .ok (.invokevirtual 216, 3) := by decide +kernel
theorem d_I_answer_59 : decode prog_1_method_28_code 59 = .ok (.goto 9, 3) := by decide +kernel
theorem d_I_answer_62 : decode prog_1_method_28_code 62 = .ok (.aload_n 0, 1) := by decide +kernel
theorem d_I_answer_63 : decode prog_1_method_28_code 63 = .ok (.aload_n 1, 1) := by decide +kernel
theorem d_I_answer_64 : decode prog_1_method_28_code 64 = .ok (.aload_n 2, 1) := by decide +kernel
theorem d_I_answer_65 : decode prog_1_method_28_code 65 = .ok (.invokevirtual 219, 3) := by decide +kernel
theorem d_I_answer_68 : decode prog_1_method_28_code 68 = .ok (.return_, 1) := by decide +kernel
theorem d_L_continues_0 : decode prog_5_method_11_code 0 = .ok (.iload_n 1, 1) := by decide +kernel
theorem d_L_continues_1 : decode prog_5_method_11_code 1 = .ok (.ifCond .eq 22, 3) := by decide +kernel
theorem d_L_continues_4 : decode prog_5_method_11_code 4 = .ok (.iload_n 1, 1) := by decide +kernel
theorem d_L_continues_5 : decode prog_5_method_11_code 5 = .ok (.aload_n 0, 1) := by decide +kernel
theorem d_L_continues_6 : decode prog_5_method_11_code 6 = .ok (.getfield 18, 3) := by decide +kernel
theorem d_L_continues_9 : decode prog_5_method_11_code 9 = .ok (.if_icmp .gt 18, 3) := by decide +kernel
theorem d_L_continues_12 : decode prog_5_method_11_code 12 = .ok (.aload_n 0, 1) := by decide +kernel
theorem d_L_continues_13 : decode prog_5_method_11_code 13 = .ok (.iload_n 1, 1) := by decide +kernel
theorem d_L_continues_14 : decode prog_5_method_11_code 14 = .ok (.iconst 1, 1) := by decide +kernel
theorem d_L_continues_15 : decode prog_5_method_11_code 15 = .ok (.isub, 1) := by decide +kernel
theorem d_L_continues_16 : decode prog_5_method_11_code 16 = .ok (.invokevirtual 35, 3) := by decide +kernel
theorem d_L_continues_19 : decode prog_5_method_11_code 19 = .ok (.iload_n 2, 1) := by decide +kernel
theorem d_L_continues_20 : decode prog_5_method_11_code 20 = .ok (.if_icmp .ne 7, 3) := by decide +kernel
theorem d_L_continues_23 : decode prog_5_method_11_code 23 = .ok (.iconst 1, 1) := by decide +kernel
theorem d_L_continues_24 : decode prog_5_method_11_code 24 = .ok (.goto 4, 3) := by decide +kernel
theorem d_L_continues_27 : decode prog_5_method_11_code 27 = .ok (.iconst 0, 1) := by decide +kernel
theorem d_L_continues_28 : decode prog_5_method_11_code 28 = .ok (.ireturn, 1) := by decide +kernel
theorem d_B_noteFetched_0 : decode prog_2_method_6_code 0 = .ok (.aload_n 0, 1) := by decide +kernel
theorem d_B_noteFetched_1 : decode prog_2_method_6_code 1 = .ok (.getfield 18, 3) := by decide +kernel
theorem d_B_noteFetched_4 : decode prog_2_method_6_code 4 = .ok (.iload_n 1, 1) := by decide +kernel
theorem d_B_noteFetched_5 : decode prog_2_method_6_code 5 = .ok (.aload_n 0, 1) := by decide +kernel
theorem d_B_noteFetched_6 : decode prog_2_method_6_code 6 = .ok (.getfield 18, 3) := by decide +kernel
theorem d_B_noteFetched_9 : decode prog_2_method_6_code 9 = .ok (.iload_n 1, 1) := by decide +kernel
theorem d_B_noteFetched_10 : decode prog_2_method_6_code 10 = .ok (.iaload, 1) := by decide +kernel
theorem d_B_noteFetched_11 : decode prog_2_method_6_code 11 = .ok (.iload_n 2, 1) := by decide +kernel
theorem d_B_noteFetched_12 : decode prog_2_method_6_code 12 = .ok (.invokestatic 74, 3) := by decide +kernel
theorem d_B_noteFetched_15 : decode prog_2_method_6_code 15 = .ok (.iastore, 1) := by decide +kernel
theorem d_B_noteFetched_16 : decode prog_2_method_6_code 16 = .ok (.iload_n 2, 1) := by decide +kernel
theorem d_B_noteFetched_17 : decode prog_2_method_6_code 17 = .ok (.aload_n 0, 1) := by decide +kernel
theorem d_B_noteFetched_18 : decode prog_2_method_6_code 18 = .ok (.getfield 12, 3) := by decide +kernel
theorem d_B_noteFetched_21 : decode prog_2_method_6_code 21 = .ok (.getfield 64, 3) := by decide +kernel
theorem d_B_noteFetched_24 : decode prog_2_method_6_code 24 = .ok (.if_icmp .ne 10, 3) := by decide +kernel
theorem d_B_noteFetched_27 : decode prog_2_method_6_code 27 = .ok (.aload_n 0, 1) := by decide +kernel
theorem d_B_noteFetched_28 : decode prog_2_method_6_code 28 = .ok (.getfield 22, 3) := by decide +kernel
theorem d_B_noteFetched_31 : decode prog_2_method_6_code 31 = .ok (.iload_n 1, 1) := by decide +kernel
theorem d_B_noteFetched_32 : decode prog_2_method_6_code 32 = .ok (.iload_n 3, 1) := by decide +kernel
theorem d_B_noteFetched_33 : decode prog_2_method_6_code 33 = .ok (.iastore, 1) := by decide +kernel
theorem d_B_noteFetched_34 : decode prog_2_method_6_code 34 = .ok (.aload_n 0, 1) := by decide +kernel
theorem d_B_noteFetched_35 : decode prog_2_method_6_code 35 = .ok (.invokevirtual 80, 3) := by decide +kernel
theorem d_B_noteFetched_38 : decode prog_2_method_6_code 38 = .ok (.return_, 1) := by decide +kernel
theorem d_I_sendBatch_0 : decode prog_1_method_30_code 0 = .ok (.aload_n 0, 1) := by decide +kernel
theorem d_I_sendBatch_1 : decode prog_1_method_30_code 1 = .ok (.getfield 17, 3) := by decide +kernel
theorem d_I_sendBatch_4 : decode prog_1_method_30_code 4 = .ok (.aload_n 1, 1) := by decide +kernel
theorem d_I_sendBatch_5 : decode prog_1_method_30_code 5 = .ok (.getfield 60, 3) := by decide +kernel
theorem d_I_sendBatch_8 : decode prog_1_method_30_code 8 = .ok (.getfield 93, 3) := by decide +kernel
theorem d_I_sendBatch_11 : decode prog_1_method_30_code 11 = .ok (.aload_n 2, 1) := by decide +kernel
theorem d_I_sendBatch_12 : decode prog_1_method_30_code 12 = .ok (.getfield 200, 3) := by decide +kernel
theorem d_I_sendBatch_15 : decode prog_1_method_30_code 15 = .ok (.isub, 1) := by decide +kernel
theorem d_I_sendBatch_16 : decode prog_1_method_30_code 16 = .ok (.invokestatic 179, 3) := by decide +kernel
theorem d_I_sendBatch_19 : decode prog_1_method_30_code 19 = .ok (.istore_n 3, 1) := by decide +kernel
theorem d_I_sendBatch_20 : decode prog_1_method_30_code 20 = .ok (.aload_n 0, 1) := by decide +kernel
theorem d_I_sendBatch_21 : decode prog_1_method_30_code 21 = .ok (.getfield 33, 3) := by decide +kernel
theorem d_I_sendBatch_24 : decode prog_1_method_30_code 24 = .ok (.iconst 2, 1) := by decide +kernel
theorem d_I_sendBatch_25 : decode prog_1_method_30_code 25 = .ok (.aload_n 1, 1) := by decide +kernel
theorem d_I_sendBatch_26 : decode prog_1_method_30_code 26 = .ok (.aload_n 2, 1) := by decide +kernel
theorem d_I_sendBatch_27 : decode prog_1_method_30_code 27 = .ok (.getfield 209, 3) := by decide +kernel
theorem d_I_sendBatch_30 : decode prog_1_method_30_code 30 = .ok (.aload_n 2, 1) := by decide +kernel
theorem d_I_sendBatch_31 : decode prog_1_method_30_code 31 = .ok (.getfield 225, 3) := by decide +kernel
theorem d_I_sendBatch_34 : decode prog_1_method_30_code 34 = .ok (.iload_n 3, 1) := by decide +kernel
theorem d_I_sendBatch_35 : decode prog_1_method_30_code 35 = .ok (.aload_n 1, 1) := by decide +kernel
theorem d_I_sendBatch_36 : decode prog_1_method_30_code 36 = .ok (.getfield 57, 3) := by decide +kernel
theorem d_I_sendBatch_39 : decode prog_1_method_30_code 39 = .ok (.invokevirtual 100, 3) := by decide +kernel
theorem d_I_sendBatch_42 : decode prog_1_method_30_code 42 = .ok (.astore 4, 2) := by decide +kernel
theorem d_I_sendBatch_44 : decode prog_1_method_30_code 44 = .ok (.aload 4, 2) := by decide +kernel
theorem d_I_sendBatch_46 : decode prog_1_method_30_code 46 = .ok (.ifnull 16, 3) := by decide +kernel
theorem d_I_sendBatch_49 : decode prog_1_method_30_code 49 = .ok (.aload 4, 2) := by decide +kernel
theorem d_I_sendBatch_51 : decode prog_1_method_30_code 51 = .ok (.aload_n 1, 1) := by decide +kernel
theorem d_I_sendBatch_52 : decode prog_1_method_30_code 52 = .ok (.getfield 60, 3) := by decide +kernel
theorem d_I_sendBatch_55 : decode prog_1_method_30_code 55 = .ok (.aload_n 2, 1) := by decide +kernel
theorem d_I_sendBatch_56 : decode prog_1_method_30_code 56 = .ok (.getfield 200, 3) := by decide +kernel
theorem d_I_sendBatch_59 : decode prog_1_method_30_code 59 = .ok (.invokevirtual 231, 3) := by decide +kernel
theorem d_I_sendBatch_62 : decode prog_1_method_30_code 62 = .ok (.return_, 1) := by decide +kernel
theorem d_G_copyRecords_0 : decode prog_6_method_3_code 0 = .ok (.iconst 0, 1) := by decide +kernel
theorem d_G_copyRecords_1 : decode prog_6_method_3_code 1 = .ok (.istore_n 3, 1) := by decide +kernel
theorem d_G_copyRecords_2 : decode prog_6_method_3_code 2 = .ok (.iload_n 3, 1) := by decide +kernel
theorem d_G_copyRecords_3 : decode prog_6_method_3_code 3 = .ok (.aload_n 0, 1) := by decide +kernel
theorem d_G_copyRecords_4 : decode prog_6_method_3_code 4 = .ok (.getfield 34, 3) := by decide +kernel
theorem d_G_copyRecords_7 : decode prog_6_method_3_code 7 = .ok (.if_icmp .ge 40, 3) := by decide +kernel
theorem d_G_copyRecords_10 : decode prog_6_method_3_code 10 = .ok (.iload_n 3, 1) := by decide +kernel
theorem d_G_copyRecords_11 : decode prog_6_method_3_code 11 = .ok (.iconst 3, 1) := by decide +kernel
theorem d_G_copyRecords_12 : decode prog_6_method_3_code 12 = .ok (.if_icmp .ge 35, 3) := by decide +kernel
theorem d_G_copyRecords_15 : decode prog_6_method_3_code 15 = .ok (.aload_n 0, 1) := by decide +kernel
theorem d_G_copyRecords_16 : decode prog_6_method_3_code 16 = .ok (.getfield 9, 3) := by decide +kernel
theorem d_G_copyRecords_19 : decode prog_6_method_3_code 19 = .ok (.iload_n 3, 1) := by decide +kernel
theorem d_G_copyRecords_20 : decode prog_6_method_3_code 20 = .ok (.aload_n 1, 1) := by decide +kernel
theorem d_G_copyRecords_21 : decode prog_6_method_3_code 21 = .ok (.iload_n 2, 1) := by decide +kernel
theorem d_G_copyRecords_22 : decode prog_6_method_3_code 22 = .ok (.iload_n 3, 1) := by decide +kernel
theorem d_G_copyRecords_23 : decode prog_6_method_3_code 23 = .ok (.iadd, 1) := by decide +kernel
theorem d_G_copyRecords_24 : decode prog_6_method_3_code 24 = .ok (.invokevirtual 40, 3) := by decide +kernel
theorem d_G_copyRecords_27 : decode prog_6_method_3_code 27 = .ok (.iastore, 1) := by decide +kernel
theorem d_G_copyRecords_28 : decode prog_6_method_3_code 28 = .ok (.aload_n 0, 1) := by decide +kernel
theorem d_G_copyRecords_29 : decode prog_6_method_3_code 29 = .ok (.getfield 15, 3) := by decide +kernel
theorem d_G_copyRecords_32 : decode prog_6_method_3_code 32 = .ok (.iload_n 3, 1) := by decide +kernel
theorem d_G_copyRecords_33 : decode prog_6_method_3_code 33 = .ok (.aload_n 1, 1) := by decide +kernel
theorem d_G_copyRecords_34 : decode prog_6_method_3_code 34 = .ok (.iload_n 2, 1) := by decide +kernel
theorem d_G_copyRecords_35 : decode prog_6_method_3_code 35 = .ok (.iload_n 3, 1) := by decide +kernel
theorem d_G_copyRecords_36 : decode prog_6_method_3_code 36 = .ok (.iadd, 1) := by decide +kernel
theorem d_G_copyRecords_37 : decode prog_6_method_3_code 37 = .ok (.invokevirtual 46, 3) := by decide +kernel
theorem d_G_copyRecords_40 : decode prog_6_method_3_code 40 = .ok (.iastore, 1) := by decide +kernel
theorem d_G_copyRecords_41 : decode prog_6_method_3_code 41 = .ok (.iinc 3 1, 3) := by decide +kernel
theorem d_G_copyRecords_44 : decode prog_6_method_3_code 44 = .ok (.goto (-42), 3) := by decide +kernel
theorem d_G_copyRecords_47 : decode prog_6_method_3_code 47 = .ok (.return_, 1) := by decide +kernel
theorem d_I_sendCut_0 : decode prog_1_method_29_code 0 = .ok (.aload_n 1, 1) := by decide +kernel
theorem d_I_sendCut_1 : decode prog_1_method_29_code 1 = .ok (.getfield 60, 3) := by decide +kernel
theorem d_I_sendCut_4 : decode prog_1_method_29_code 4 = .ok (.aload_n 2, 1) := by decide +kernel
theorem d_I_sendCut_5 : decode prog_1_method_29_code 5 = .ok (.getfield 203, 3) := by decide +kernel
theorem d_I_sendCut_8 : decode prog_1_method_29_code 8 = .ok (.invokevirtual 222, 3) := by decide +kernel
theorem d_I_sendCut_11 : decode prog_1_method_29_code 11 = .ok (.istore_n 3, 1) := by decide +kernel
theorem d_I_sendCut_12 : decode prog_1_method_29_code 12 = .ok (.aload_n 0, 1) := by decide +kernel
theorem d_I_sendCut_13 : decode prog_1_method_29_code 13 = .ok (.getfield 33, 3) := by decide +kernel
theorem d_I_sendCut_16 : decode prog_1_method_29_code 16 = .ok (.iconst 1, 1) := by decide +kernel
theorem d_I_sendCut_17 : decode prog_1_method_29_code 17 = .ok (.aload_n 1, 1) := by decide +kernel
theorem d_I_sendCut_18 : decode prog_1_method_29_code 18 = .ok (.aload_n 2, 1) := by decide +kernel
theorem d_I_sendCut_19 : decode prog_1_method_29_code 19 = .ok (.getfield 209, 3) := by decide +kernel
theorem d_I_sendCut_22 : decode prog_1_method_29_code 22 = .ok (.aload_n 2, 1) := by decide +kernel
theorem d_I_sendCut_23 : decode prog_1_method_29_code 23 = .ok (.getfield 225, 3) := by decide +kernel
theorem d_I_sendCut_26 : decode prog_1_method_29_code 26 = .ok (.iload_n 3, 1) := by decide +kernel
theorem d_I_sendCut_27 : decode prog_1_method_29_code 27 = .ok (.aload_n 1, 1) := by decide +kernel
theorem d_I_sendCut_28 : decode prog_1_method_29_code 28 = .ok (.getfield 60, 3) := by decide +kernel
theorem d_I_sendCut_31 : decode prog_1_method_29_code 31 = .ok (.iload_n 3, 1) := by decide +kernel
theorem d_I_sendCut_32 : decode prog_1_method_29_code 32 = .ok (.iconst 1, 1) := by decide +kernel
theorem d_I_sendCut_33 : decode prog_1_method_29_code 33 = .ok (.isub, 1) := by decide +kernel
theorem d_I_sendCut_34 : decode prog_1_method_29_code 34 = .ok (.invokevirtual 228, 3) := by decide +kernel
theorem d_I_sendCut_37 : decode prog_1_method_29_code 37 = .ok (.invokevirtual 100, 3) := by decide +kernel
theorem d_I_sendCut_40 : decode prog_1_method_29_code 40 = .ok (.pop, 1) := by decide +kernel
theorem d_I_sendCut_41 : decode prog_1_method_29_code 41 = .ok (.return_, 1) := by decide +kernel
theorem d_L_countUpTo_0 : decode prog_5_method_12_code 0 = .ok (.iconst 0, 1) := by decide +kernel
theorem d_L_countUpTo_1 : decode prog_5_method_12_code 1 = .ok (.istore_n 2, 1) := by decide +kernel
theorem d_L_countUpTo_2 : decode prog_5_method_12_code 2 = .ok (.iload_n 2, 1) := by decide +kernel
theorem d_L_countUpTo_3 : decode prog_5_method_12_code 3 = .ok (.aload_n 0, 1) := by decide +kernel
theorem d_L_countUpTo_4 : decode prog_5_method_12_code 4 = .ok (.getfield 18, 3) := by decide +kernel
theorem d_L_countUpTo_7 : decode prog_5_method_12_code 7 = .ok (.if_icmp .ge 18, 3) := by decide +kernel
theorem d_L_countUpTo_10 : decode prog_5_method_12_code 10 = .ok (.aload_n 0, 1) := by decide +kernel
theorem d_L_countUpTo_11 : decode prog_5_method_12_code 11 = .ok (.iload_n 2, 1) := by decide +kernel
theorem d_L_countUpTo_12 : decode prog_5_method_12_code 12 = .ok (.invokevirtual 35, 3) := by decide +kernel
theorem d_L_countUpTo_15 : decode prog_5_method_12_code 15 = .ok (.iload_n 1, 1) := by decide +kernel
theorem d_L_countUpTo_16 : decode prog_5_method_12_code 16 = .ok (.if_icmp .gt 9, 3) := by decide +kernel
theorem d_L_countUpTo_19 : decode prog_5_method_12_code 19 = .ok (.iinc 2 1, 3) := by decide +kernel
theorem d_L_countUpTo_22 : decode prog_5_method_12_code 22 = .ok (.goto (-20), 3) := by decide +kernel
theorem d_L_countUpTo_25 : decode prog_5_method_12_code 25 = .ok (.iload_n 2, 1) := by decide +kernel
theorem d_L_countUpTo_26 : decode prog_5_method_12_code 26 = .ok (.ireturn, 1) := by decide +kernel
theorem d_B_accept_0 : decode prog_2_method_10_code 0 = .ok (.aload_n 0, 1) := by decide +kernel
theorem d_B_accept_1 : decode prog_2_method_10_code 1 = .ok (.aload_n 1, 1) := by decide +kernel
theorem d_B_accept_2 : decode prog_2_method_10_code 2 = .ok (.invokevirtual 94, 3) := by decide +kernel
theorem d_B_accept_5 : decode prog_2_method_10_code 5 = .ok (.ifCond .ne 4, 3) := by decide +kernel
theorem d_B_accept_8 : decode prog_2_method_10_code 8 = .ok (.return_, 1) := by decide +kernel
theorem d_B_accept_9 : decode prog_2_method_10_code 9 = .ok (.aload_n 0, 1) := by decide +kernel
theorem d_B_accept_10 : decode prog_2_method_10_code 10 = .ok (.iconst 0, 1) := by decide +kernel
theorem d_B_accept_11 : decode prog_2_method_10_code 11 = .ok (.putfield 42, 3) := by decide +kernel
theorem d_B_accept_14 : decode prog_2_method_10_code 14 = .ok (.aload_n 1, 1) := by decide +kernel
theorem d_B_accept_15 : decode prog_2_method_10_code 15 = .ok (.getfield 98, 3) := by decide +kernel
theorem d_B_accept_18 : decode prog_2_method_10_code 18 = .ok (.iconst 1, 1) := by decide +kernel
theorem d_B_accept_19 : decode prog_2_method_10_code 19 = .ok (.if_icmp .ne 31, 3) := by decide +kernel
theorem d_B_accept_22 : decode prog_2_method_10_code 22 = .ok (.aload_n 0, 1) := by decide +kernel
theorem d_B_accept_23 : decode prog_2_method_10_code 23 = .ok (.getfield 12, 3) := by decide +kernel
theorem d_B_accept_26 : decode prog_2_method_10_code 26 = .ok (.aload_n 1, 1) := by decide +kernel
theorem d_B_accept_27 : decode prog_2_method_10_code 27 = .ok (.getfield 103, 3) := by decide +kernel
theorem d_B_accept_30 : decode prog_2_method_10_code 30 = .ok (.aload_n 0, 1) := by decide +kernel
theorem d_B_accept_31 : decode prog_2_method_10_code 31 = .ok (.getfield 12, 3) := by decide +kernel
theorem d_B_accept_34 : decode prog_2_method_10_code 34 = .ok (.aload_n 1, 1) := by decide +kernel
theorem d_B_accept_35 : decode prog_2_method_10_code 35 = .ok (.getfield 106, 3) := by decide +kernel
theorem d_B_accept_38 : decode prog_2_method_10_code 38 = .ok (.invokevirtual 109, 3) := by decide +kernel
theorem d_B_accept_41 : decode prog_2_method_10_code 41 = .ok (.invokestatic 87, 3) := by decide +kernel
theorem d_B_accept_44 : decode prog_2_method_10_code 44 = .ok (.invokevirtual 113, 3) := by decide +kernel
theorem d_B_accept_47 : decode prog_2_method_10_code 47 = .ok (.goto 36, 3) := by decide +kernel
theorem d_B_accept_50 : decode prog_2_method_10_code 50 = .ok (.aload_n 1, 1) := by decide +kernel
theorem d_B_accept_51 : decode prog_2_method_10_code 51 = .ok (.aload_n 0, 1) := by decide +kernel
theorem d_B_accept_52 : decode prog_2_method_10_code 52 = .ok (.getfield 12, 3) := by decide +kernel
theorem d_B_accept_55 : decode prog_2_method_10_code 55 = .ok (.invokevirtual 117, 3) := by decide +kernel
theorem d_B_accept_58 : decode prog_2_method_10_code 58 = .ok (.aload_n 0, 1) := by decide +kernel
theorem d_B_accept_59 : decode prog_2_method_10_code 59 = .ok (.aload_n 0, 1) := by decide +kernel
theorem d_B_accept_60 : decode prog_2_method_10_code 60 = .ok (.getfield 36, 3) := by decide +kernel
theorem d_B_accept_63 : decode prog_2_method_10_code 63 = .ok (.aload_n 1, 1) := by decide +kernel
theorem d_B_accept_64 : decode prog_2_method_10_code 64 = .ok (.getfield 106, 3) := by decide +kernel
theorem d_B_accept_67 : decode prog_2_method_10_code 67 = .ok (.aload_n 0, 1) := by decide +kernel
theorem d_B_accept_68 : decode prog_2_method_10_code 68 = .ok (.getfield 12, 3) := by decide +kernel
theorem d_B_accept_71 : decode prog_2_method_10_code 71 = .ok (.getfield 64, 3) := by decide +kernel
theorem d_B_accept_74 : decode prog_2_method_10_code 74 = .ok (.invokestatic 87, 3) := by decide +kernel
theorem d_B_accept_77 : decode prog_2_method_10_code 77 = .ok (.invokestatic 74, 3) := by decide +kernel
theorem d_B_accept_80 : decode prog_2_method_10_code 80 = .ok (.putfield 36, 3) := by decide +kernel
theorem d_B_accept_83 : decode prog_2_method_10_code 83 = .ok (.return_, 1) := by decide +kernel
theorem d_B_isExpecting_0 : decode prog_2_method_11_code 0 = .ok (.aload_n 0, 1) := by decide +kernel
theorem d_B_isExpecting_1 : decode prog_2_method_11_code 1 = .ok (.getfield 25, 3) := by decide +kernel
theorem d_B_isExpecting_4 : decode prog_2_method_11_code 4 = .ok (.ifCond .eq 43, 3) := by decide +kernel
theorem d_B_isExpecting_7 : decode prog_2_method_11_code 7 = .ok (.aload_n 0, 1) := by decide +kernel
theorem d_B_isExpecting_8 : decode prog_2_method_11_code 8 = .ok (.invokevirtual 60, 3) := by decide +kernel
theorem d_B_isExpecting_11 : decode prog_2_method_11_code 11 = .ok (.ifCond .ne 36, 3) := by decide +kernel
theorem d_B_isExpecting_14 : decode prog_2_method_11_code 14 = .ok (.aload_n 0, 1) := by decide +kernel
theorem d_B_isExpecting_15 : decode prog_2_method_11_code 15 = .ok (.getfield 29, 3) := by decide +kernel
theorem d_B_isExpecting_18 : decode prog_2_method_11_code 18 = .ok (.aload_n 1, 1) := by decide +kernel
theorem d_B_isExpecting_19 : decode prog_2_method_11_code 19 = .ok (.getfield 121, 3) := by decide +kernel
theorem d_B_isExpecting_22 : decode prog_2_method_11_code 22 = .ok (.if_icmp .ne 25, 3) := by decide +kernel
theorem d_B_isExpecting_25 : decode prog_2_method_11_code 25 = .ok (.aload_n 0, 1) := by decide +kernel
theorem d_B_isExpecting_26 : decode prog_2_method_11_code 26 = .ok (.getfield 42, 3) := by decide +kernel
theorem d_B_isExpecting_29 : decode prog_2_method_11_code 29 = .ok (.ifCond .eq 18, 3) := by decide +kernel
theorem d_B_isExpecting_32 : decode prog_2_method_11_code 32 = .ok (.aload_n 0, 1) := by decide +kernel
theorem d_B_isExpecting_33 : decode prog_2_method_11_code 33 = .ok (.getfield 39, 3) := by decide +kernel
theorem d_B_isExpecting_36 : decode prog_2_method_11_code 36 = .ok (.aload_n 1, 1) := by decide +kernel
theorem d_B_isExpecting_37 : decode prog_2_method_11_code 37 = .ok (.getfield 122, 3) := by decide +kernel
theorem d_B_isExpecting_40 : decode prog_2_method_11_code 40 = .ok (.if_icmp .ne 7, 3) := by decide +kernel
theorem d_B_isExpecting_43 : decode prog_2_method_11_code 43 = .ok (.iconst 1, 1) := by decide +kernel
theorem d_B_isExpecting_44 : decode prog_2_method_11_code 44 = .ok (.goto 4, 3) := by decide +kernel
theorem d_B_isExpecting_47 : decode prog_2_method_11_code 47 = .ok (.iconst 0, 1) := by decide +kernel
theorem d_B_isExpecting_48 : decode prog_2_method_11_code 48 = .ok (.ireturn, 1) := by decide +kernel
theorem d_L_cutTo_0 : decode prog_5_method_10_code 0 = .ok (.aload_n 0, 1) := by decide +kernel
theorem d_L_cutTo_1 : decode prog_5_method_10_code 1 = .ok (.aload_n 0, 1) := by decide +kernel
theorem d_L_cutTo_2 : decode prog_5_method_10_code 2 = .ok (.getfield 18, 3) := by decide +kernel
theorem d_L_cutTo_5 : decode prog_5_method_10_code 5 = .ok (.iload_n 1, 1) := by decide +kernel
theorem d_L_cutTo_6 : decode prog_5_method_10_code 6 = .ok (.invokestatic 42, 3) := by decide +kernel
theorem d_L_cutTo_9 : decode prog_5_method_10_code 9 = .ok (.putfield 18, 3) := by decide +kernel
theorem d_L_cutTo_12 : decode prog_5_method_10_code 12 = .ok (.return_, 1) := by decide +kernel
theorem d_G_appendRecords_0 : decode prog_6_method_4_code 0 = .ok (.iconst 0, 1) := by decide +kernel
theorem d_G_appendRecords_1 : decode prog_6_method_4_code 1 = .ok (.istore_n 2, 1) := by decide +kernel
theorem d_G_appendRecords_2 : decode prog_6_method_4_code 2 = .ok (.iload_n 2, 1) := by decide +kernel
theorem d_G_appendRecords_3 : decode prog_6_method_4_code 3 = .ok (.aload_n 0, 1) := by decide +kernel
theorem d_G_appendRecords_4 : decode prog_6_method_4_code 4 = .ok (.getfield 34, 3) := by decide +kernel
theorem d_G_appendRecords_7 : decode prog_6_method_4_code 7 = .ok (.if_icmp .ge 30, 3) := by decide +kernel
theorem d_G_appendRecords_10 : decode prog_6_method_4_code 10 = .ok (.iload_n 2, 1) := by decide +kernel
theorem d_G_appendRecords_11 : decode prog_6_method_4_code 11 = .ok (.iconst 3, 1) := by decide +kernel
theorem d_G_appendRecords_12 : decode prog_6_method_4_code 12 = .ok (.if_icmp .ge 25, 3) := by decide +kernel
theorem d_G_appendRecords_15 : decode prog_6_method_4_code 15 = .ok (.aload_n 1, 1) := by decide +kernel
theorem d_G_appendRecords_16 : decode prog_6_method_4_code 16 = .ok (.aload_n 0, 1) := by decide +kernel
theorem d_G_appendRecords_17 : decode prog_6_method_4_code 17 = .ok (.getfield 9, 3) := by decide +kernel
theorem d_G_appendRecords_20 : decode prog_6_method_4_code 20 = .ok (.iload_n 2, 1) := by decide +kernel
theorem d_G_appendRecords_21 : decode prog_6_method_4_code 21 = .ok (.iaload, 1) := by decide +kernel
theorem d_G_appendRecords_22 : decode prog_6_method_4_code 22 = .ok (.aload_n 0, 1) := by decide +kernel
theorem d_G_appendRecords_23 : decode prog_6_method_4_code 23 = .ok (.getfield 15, 3) := by decide +kernel
theorem d_G_appendRecords_26 : decode prog_6_method_4_code 26 = .ok (.iload_n 2, 1) := by decide +kernel
theorem d_G_appendRecords_27 : decode prog_6_method_4_code 27 = .ok (.iaload, 1) := by decide +kernel
theorem d_G_appendRecords_28 : decode prog_6_method_4_code 28 = .ok (.invokevirtual 49, 3) := by decide +kernel
theorem d_G_appendRecords_31 : decode prog_6_method_4_code 31 = .ok (.iinc 2 1, 3) := by decide +kernel
theorem d_G_appendRecords_34 : decode prog_6_method_4_code 34 = .ok (.goto (-32), 3) := by decide +kernel
theorem d_G_appendRecords_37 : decode prog_6_method_4_code 37 = .ok (.return_, 1) := by decide +kernel
theorem d_I_lose_0 : decode prog_1_method_8_code 0 = .ok (.aload_n 0, 1) := by decide +kernel
theorem d_I_lose_1 : decode prog_1_method_8_code 1 = .ok (.getfield 33, 3) := by decide +kernel
theorem d_I_lose_4 : decode prog_1_method_8_code 4 = .ok (.iload_n 1, 1) := by decide +kernel
theorem d_I_lose_5 : decode prog_1_method_8_code 5 = .ok (.invokevirtual 104, 3) := by decide +kernel
theorem d_I_lose_8 : decode prog_1_method_8_code 8 = .ok (.ifnull 7, 3) := by decide +kernel
theorem d_I_lose_11 : decode prog_1_method_8_code 11 = .ok (.iconst 1, 1) := by decide +kernel
theorem d_I_lose_12 : decode prog_1_method_8_code 12 = .ok (.goto 4, 3) := by decide +kernel
theorem d_I_lose_15 : decode prog_1_method_8_code 15 = .ok (.iconst 0, 1) := by decide +kernel
theorem d_I_lose_16 : decode prog_1_method_8_code 16 = .ok (.ireturn, 1) := by decide +kernel
theorem d_I_flight_0 : decode prog_1_method_9_code 0 = .ok (.aload_n 0, 1) := by decide +kernel
theorem d_I_flight_1 : decode prog_1_method_9_code 1 = .ok (.getfield 33, 3) := by decide +kernel
theorem d_I_flight_4 : decode prog_1_method_9_code 4 = .ok (.getfield 124, 3) := by decide +kernel
theorem d_I_flight_7 : decode prog_1_method_9_code 7 = .ok (.ireturn, 1) := by decide +kernel
theorem d_I_message_0 : decode prog_1_method_10_code 0 = .ok (.aload_n 0, 1) := by decide +kernel
theorem d_I_message_1 : decode prog_1_method_10_code 1 = .ok (.getfield 33, 3) := by decide +kernel
theorem d_I_message_4 : decode prog_1_method_10_code 4 = .ok (.iload_n 1, 1) := by decide +kernel
theorem d_I_message_5 : decode prog_1_method_10_code 5 = .ok (.invokevirtual 127, 3) := by decide +kernel
theorem d_I_message_8 : decode prog_1_method_10_code 8 = .ok (.ifCond .eq 19, 3) := by decide +kernel
theorem d_I_message_11 : decode prog_1_method_10_code 11 = .ok (.aload_n 0, 1) := by decide +kernel
theorem d_I_message_12 : decode prog_1_method_10_code 12 = .ok (.getfield 33, 3) := by decide +kernel
theorem d_I_message_15 : decode prog_1_method_10_code 15 = .ok (.getfield 128, 3) := by decide +kernel
theorem d_I_message_18 : decode prog_1_method_10_code 18 = .ok (.iload_n 1, 1) := by decide +kernel
theorem d_I_message_19 : decode prog_1_method_10_code 19 = .ok (.aaload, 1) := by decide +kernel
theorem d_I_message_20 : decode prog_1_method_10_code 20 = .ok (.iload_n 2, 1) := by decide +kernel
theorem d_I_message_21 : decode prog_1_method_10_code 21 = .ok (.invokevirtual 132, 3) := by decide +kernel
theorem d_I_message_24 : decode prog_1_method_10_code 24 = .ok (.goto 4, 3) := by decide +kernel
theorem d_I_message_27 : decode prog_1_method_10_code 27 = .ok (.iconst (-1), 1) := by decide +kernel
theorem d_I_message_28 : decode prog_1_method_10_code 28 = .ok (.ireturn, 1) := by decide +kernel
theorem d_G_word_0 : decode prog_6_method_2_code 0 = .ok (.iload_n 1, 1) := by decide +kernel
theorem d_G_word_1 : decode prog_6_method_2_code 1 = .ok (.tableswitch 78 0 6 #[43, 48, 53, 58, 63, 68, 73], 43) := by decide +kernel
theorem d_G_word_44 : decode prog_6_method_2_code 44 = .ok (.aload_n 0, 1) := by decide +kernel
theorem d_G_word_45 : decode prog_6_method_2_code 45 = .ok (.getfield 18, 3) := by decide +kernel
theorem d_G_word_48 : decode prog_6_method_2_code 48 = .ok (.ireturn, 1) := by decide +kernel
theorem d_G_word_49 : decode prog_6_method_2_code 49 = .ok (.aload_n 0, 1) := by decide +kernel
theorem d_G_word_50 : decode prog_6_method_2_code 50 = .ok (.getfield 22, 3) := by decide +kernel
theorem d_G_word_53 : decode prog_6_method_2_code 53 = .ok (.ireturn, 1) := by decide +kernel
theorem d_G_word_54 : decode prog_6_method_2_code 54 = .ok (.aload_n 0, 1) := by decide +kernel
theorem d_G_word_55 : decode prog_6_method_2_code 55 = .ok (.getfield 25, 3) := by decide +kernel
theorem d_G_word_58 : decode prog_6_method_2_code 58 = .ok (.ireturn, 1) := by decide +kernel
theorem d_G_word_59 : decode prog_6_method_2_code 59 = .ok (.aload_n 0, 1) := by decide +kernel
theorem d_G_word_60 : decode prog_6_method_2_code 60 = .ok (.getfield 28, 3) := by decide +kernel
theorem d_G_word_63 : decode prog_6_method_2_code 63 = .ok (.ireturn, 1) := by decide +kernel
theorem d_G_word_64 : decode prog_6_method_2_code 64 = .ok (.aload_n 0, 1) := by decide +kernel
theorem d_G_word_65 : decode prog_6_method_2_code 65 = .ok (.getfield 31, 3) := by decide +kernel
theorem d_G_word_68 : decode prog_6_method_2_code 68 = .ok (.ireturn, 1) := by decide +kernel
theorem d_G_word_69 : decode prog_6_method_2_code 69 = .ok (.aload_n 0, 1) := by decide +kernel
theorem d_G_word_70 : decode prog_6_method_2_code 70 = .ok (.getfield 34, 3) := by decide +kernel
theorem d_G_word_73 : decode prog_6_method_2_code 73 = .ok (.ireturn, 1) := by decide +kernel
theorem d_G_word_74 : decode prog_6_method_2_code 74 = .ok (.aload_n 0, 1) := by decide +kernel
theorem d_G_word_75 : decode prog_6_method_2_code 75 = .ok (.getfield 37, 3) := by decide +kernel
theorem d_G_word_78 : decode prog_6_method_2_code 78 = .ok (.ireturn, 1) := by decide +kernel
theorem d_G_word_79 : decode prog_6_method_2_code 79 = .ok (.iconst (-1), 1) := by decide +kernel
theorem d_G_word_80 : decode prog_6_method_2_code 80 = .ok (.ireturn, 1) := by decide +kernel
theorem d_I_review_0 : decode prog_1_method_11_code 0 = .ok (.aload_n 0, 1) := by decide +kernel
theorem d_I_review_1 : decode prog_1_method_11_code 1 = .ok (.iload_n 1, 1) := by decide +kernel
theorem d_I_review_2 : decode prog_1_method_11_code 2 = .ok (.invokevirtual 46, 3) := by decide +kernel
theorem d_I_review_5 : decode prog_1_method_11_code 5 = .ok (.ifCond .eq 22, 3) := by decide +kernel
theorem d_I_review_8 : decode prog_1_method_11_code 8 = .ok (.aload_n 0, 1) := by decide +kernel
theorem d_I_review_9 : decode prog_1_method_11_code 9 = .ok (.getfield 39, 3) := by decide +kernel
theorem d_I_review_12 : decode prog_1_method_11_code 12 = .ok (.iload_n 1, 1) := by decide +kernel
theorem d_I_review_13 : decode prog_1_method_11_code 13 = .ok (.aaload, 1) := by decide +kernel
theorem d_I_review_14 : decode prog_1_method_11_code 14 = .ok (.getfield 50, 3) := by decide +kernel
theorem d_I_review_17 : decode prog_1_method_11_code 17 = .ok (.aload_n 0, 1) := by decide +kernel
theorem d_I_review_18 : decode prog_1_method_11_code 18 = .ok (.getfield 26, 3) := by decide +kernel
theorem d_I_review_21 : decode prog_1_method_11_code 21 = .ok (.getfield 135, 3) := by decide +kernel
theorem d_I_review_24 : decode prog_1_method_11_code 24 = .ok (.if_icmp .eq 5, 3) := by decide +kernel
theorem d_I_review_27 : decode prog_1_method_11_code 27 = .ok (.iconst (-1), 1) := by decide +kernel
theorem d_I_review_28 : decode prog_1_method_11_code 28 = .ok (.ireturn, 1) := by decide +kernel
theorem d_I_review_29 : decode prog_1_method_11_code 29 = .ok (.aload_n 0, 1) := by decide +kernel
theorem d_I_review_30 : decode prog_1_method_11_code 30 = .ok (.getfield 39, 3) := by decide +kernel
theorem d_I_review_33 : decode prog_1_method_11_code 33 = .ok (.iload_n 1, 1) := by decide +kernel
theorem d_I_review_34 : decode prog_1_method_11_code 34 = .ok (.aaload, 1) := by decide +kernel
theorem d_I_review_35 : decode prog_1_method_11_code 35 = .ok (.astore_n 2, 1) := by decide +kernel
theorem d_I_review_36 : decode prog_1_method_11_code 36 = .ok (.aload_n 0, 1) := by decide +kernel
theorem d_I_review_37 : decode prog_1_method_11_code 37 = .ok (.getfield 26, 3) := by decide +kernel
theorem d_I_review_40 : decode prog_1_method_11_code 40 = .ok (.aload_n 2, 1) := by decide +kernel
theorem d_I_review_41 : decode prog_1_method_11_code 41 = .ok (.aload_n 0, 1) := by decide +kernel
theorem d_I_review_42 : decode prog_1_method_11_code 42 = .ok (.getfield 136, 3) := by decide +kernel
theorem d_I_review_45 : decode prog_1_method_11_code 45 = .ok (.aload_n 0, 1) := by decide +kernel
theorem d_I_review_46 : decode prog_1_method_11_code 46 = .ok (.getfield 13, 3) := by decide +kernel
theorem d_I_review_49 : decode prog_1_method_11_code 49 = .ok (.invokevirtual 139, 3) := by decide +kernel
theorem d_I_review_52 : decode prog_1_method_11_code 52 = .ok (.putfield 143, 3) := by decide +kernel
theorem d_I_review_55 : decode prog_1_method_11_code 55 = .ok (.aload_n 2, 1) := by decide +kernel
theorem d_I_review_56 : decode prog_1_method_11_code 56 = .ok (.aload_n 0, 1) := by decide +kernel
theorem d_I_review_57 : decode prog_1_method_11_code 57 = .ok (.getfield 26, 3) := by decide +kernel
theorem d_I_review_60 : decode prog_1_method_11_code 60 = .ok (.getfield 143, 3) := by decide +kernel
theorem d_I_review_63 : decode prog_1_method_11_code 63 = .ok (.putfield 146, 3) := by decide +kernel
theorem d_I_review_66 : decode prog_1_method_11_code 66 = .ok (.aload_n 2, 1) := by decide +kernel
theorem d_I_review_67 : decode prog_1_method_11_code 67 = .ok (.invokevirtual 149, 3) := by decide +kernel
theorem d_I_review_70 : decode prog_1_method_11_code 70 = .ok (.aload_n 0, 1) := by decide +kernel
theorem d_I_review_71 : decode prog_1_method_11_code 71 = .ok (.getfield 26, 3) := by decide +kernel
theorem d_I_review_74 : decode prog_1_method_11_code 74 = .ok (.getfield 143, 3) := by decide +kernel
theorem d_I_review_77 : decode prog_1_method_11_code 77 = .ok (.ireturn, 1) := by decide +kernel
theorem d_B_replicasInSync_0 : decode prog_2_method_8_code 0 = .ok (.iconst 1, 1) := by decide +kernel
theorem d_B_replicasInSync_1 : decode prog_2_method_8_code 1 = .ok (.aload_n 0, 1) := by decide +kernel
theorem d_B_replicasInSync_2 : decode prog_2_method_8_code 2 = .ok (.getfield 51, 3) := by decide +kernel
theorem d_B_replicasInSync_5 : decode prog_2_method_8_code 5 = .ok (.ishl, 1) := by decide +kernel
theorem d_B_replicasInSync_6 : decode prog_2_method_8_code 6 = .ok (.istore_n 3, 1) := by decide +kernel
theorem d_B_replicasInSync_7 : decode prog_2_method_8_code 7 = .ok (.iconst 0, 1) := by decide +kernel
theorem d_B_replicasInSync_8 : decode prog_2_method_8_code 8 = .ok (.istore 4, 2) := by decide +kernel
theorem d_B_replicasInSync_10 : decode prog_2_method_8_code 10 = .ok (.iload 4, 2) := by decide +kernel
theorem d_B_replicasInSync_12 : decode prog_2_method_8_code 12 = .ok (.iconst 4, 1) := by decide +kernel
theorem d_B_replicasInSync_13 : decode prog_2_method_8_code 13 = .ok (.if_icmp .ge 62, 3) := by decide +kernel
theorem d_B_replicasInSync_16 : decode prog_2_method_8_code 16 = .ok (.iload_n 1, 1) := by decide +kernel
theorem d_B_replicasInSync_17 : decode prog_2_method_8_code 17 = .ok (.aload_n 0, 1) := by decide +kernel
theorem d_B_replicasInSync_18 : decode prog_2_method_8_code 18 = .ok (.getfield 22, 3) := by decide +kernel
theorem d_B_replicasInSync_21 : decode prog_2_method_8_code 21 = .ok (.iload 4, 2) := by decide +kernel
theorem d_B_replicasInSync_23 : decode prog_2_method_8_code 23 = .ok (.iaload, 1) := by decide +kernel
theorem d_B_replicasInSync_24 : decode prog_2_method_8_code 24 = .ok (.isub, 1) := by decide +kernel
theorem d_B_replicasInSync_25 : decode prog_2_method_8_code 25 = .ok (.iload_n 2, 1) := by decide +kernel
theorem d_B_replicasInSync_26 : decode prog_2_method_8_code 26 = .ok (.if_icmp .le 7, 3) := by decide +kernel
theorem d_B_replicasInSync_29 : decode prog_2_method_8_code 29 = .ok (.iconst 1, 1) := by decide +kernel
theorem d_B_replicasInSync_30 : decode prog_2_method_8_code 30 = .ok (.goto 4, 3) := by decide +kernel
theorem d_B_replicasInSync_33 : decode prog_2_method_8_code 33 = .ok (.iconst 0, 1) := by decide +kernel
theorem d_B_replicasInSync_34 : decode prog_2_method_8_code 34 = .ok (.istore 5, 2) := by decide +kernel
theorem d_B_replicasInSync_36 : decode prog_2_method_8_code 36 = .ok (.iload 5, 2) := by decide +kernel
theorem d_B_replicasInSync_38 : decode prog_2_method_8_code 38 = .ok (.ifCond .ne 31, 3) := by decide +kernel
theorem d_B_replicasInSync_41 : decode prog_2_method_8_code 41 = .ok (.aload_n 0, 1) := by decide +kernel
theorem d_B_replicasInSync_42 : decode prog_2_method_8_code 42 = .ok (.getfield 48, 3) := by decide +kernel
theorem d_B_replicasInSync_45 : decode prog_2_method_8_code 45 = .ok (.iload 4, 2) := by decide +kernel
theorem d_B_replicasInSync_47 : decode prog_2_method_8_code 47 = .ok (.invokestatic 83, 3) := by decide +kernel
theorem d_B_replicasInSync_50 : decode prog_2_method_8_code 50 = .ok (.ifCond .ne 12, 3) := by decide +kernel
theorem d_B_replicasInSync_53 : decode prog_2_method_8_code 53 = .ok (.aload_n 0, 1) := by decide +kernel
theorem d_B_replicasInSync_54 : decode prog_2_method_8_code 54 = .ok (.iload 4, 2) := by decide +kernel
theorem d_B_replicasInSync_56 : decode prog_2_method_8_code 56 = .ok (.invokevirtual 90, 3) := by decide +kernel
theorem d_B_replicasInSync_59 : decode prog_2_method_8_code 59 = .ok (.ifCond .eq 10, 3) := by decide +kernel
theorem d_B_replicasInSync_62 : decode prog_2_method_8_code 62 = .ok (.iload_n 3, 1) := by decide +kernel
theorem d_B_replicasInSync_63 : decode prog_2_method_8_code 63 = .ok (.iconst 1, 1) := by decide +kernel
theorem d_B_replicasInSync_64 : decode prog_2_method_8_code 64 = .ok (.iload 4, 2) := by decide +kernel
theorem d_B_replicasInSync_66 : decode prog_2_method_8_code 66 = .ok (.ishl, 1) := by decide +kernel
theorem d_B_replicasInSync_67 : decode prog_2_method_8_code 67 = .ok (.ior, 1) := by decide +kernel
theorem d_B_replicasInSync_68 : decode prog_2_method_8_code 68 = .ok (.istore_n 3, 1) := by decide +kernel
theorem d_B_replicasInSync_69 : decode prog_2_method_8_code 69 = .ok (.iinc 4 1, 3) := by decide +kernel
theorem d_B_replicasInSync_72 : decode prog_2_method_8_code 72 = .ok (.goto (-62), 3) := by decide +kernel
theorem d_B_replicasInSync_75 : decode prog_2_method_8_code 75 = .ok (.iload_n 3, 1) := by decide +kernel
theorem d_B_replicasInSync_76 : decode prog_2_method_8_code 76 = .ok (.ireturn, 1) := by decide +kernel
theorem d_B_hasFetchedEnough_0 : decode prog_2_method_9_code 0 = .ok (.aload_n 0, 1) := by decide +kernel
theorem d_B_hasFetchedEnough_1 : decode prog_2_method_9_code 1 = .ok (.getfield 18, 3) := by decide +kernel
theorem d_B_hasFetchedEnough_4 : decode prog_2_method_9_code 4 = .ok (.iload_n 1, 1) := by decide +kernel
theorem d_B_hasFetchedEnough_5 : decode prog_2_method_9_code 5 = .ok (.iaload, 1) := by decide +kernel
theorem d_B_hasFetchedEnough_6 : decode prog_2_method_9_code 6 = .ok (.aload_n 0, 1) := by decide +kernel
theorem d_B_hasFetchedEnough_7 : decode prog_2_method_9_code 7 = .ok (.getfield 36, 3) := by decide +kernel
theorem d_B_hasFetchedEnough_10 : decode prog_2_method_9_code 10 = .ok (.if_icmp .lt 20, 3) := by decide +kernel
theorem d_B_hasFetchedEnough_13 : decode prog_2_method_9_code 13 = .ok (.aload_n 0, 1) := by decide +kernel
theorem d_B_hasFetchedEnough_14 : decode prog_2_method_9_code 14 = .ok (.getfield 18, 3) := by decide +kernel
theorem d_B_hasFetchedEnough_17 : decode prog_2_method_9_code 17 = .ok (.iload_n 1, 1) := by decide +kernel
theorem d_B_hasFetchedEnough_18 : decode prog_2_method_9_code 18 = .ok (.iaload, 1) := by decide +kernel
theorem d_B_hasFetchedEnough_19 : decode prog_2_method_9_code 19 = .ok (.aload_n 0, 1) := by decide +kernel
theorem d_B_hasFetchedEnough_20 : decode prog_2_method_9_code 20 = .ok (.getfield 45, 3) := by decide +kernel
theorem d_B_hasFetchedEnough_23 : decode prog_2_method_9_code 23 = .ok (.if_icmp .lt 7, 3) := by decide +kernel
theorem d_B_hasFetchedEnough_26 : decode prog_2_method_9_code 26 = .ok (.iconst 1, 1) := by decide +kernel
theorem d_B_hasFetchedEnough_27 : decode prog_2_method_9_code 27 = .ok (.goto 4, 3) := by decide +kernel
theorem d_B_hasFetchedEnough_30 : decode prog_2_method_9_code 30 = .ok (.iconst 0, 1) := by decide +kernel
theorem d_B_hasFetchedEnough_31 : decode prog_2_method_9_code 31 = .ok (.ireturn, 1) := by decide +kernel
theorem d_I_learn_0 : decode prog_1_method_12_code 0 = .ok (.aload_n 0, 1) := by decide +kernel
theorem d_I_learn_1 : decode prog_1_method_12_code 1 = .ok (.iload_n 1, 1) := by decide +kernel
theorem d_I_learn_2 : decode prog_1_method_12_code 2 = .ok (.invokevirtual 76, 3) := by decide +kernel
theorem d_I_learn_5 : decode prog_1_method_12_code 5 = .ok (.ifCond .eq 22, 3) := by decide +kernel
theorem d_I_learn_8 : decode prog_1_method_12_code 8 = .ok (.aload_n 0, 1) := by decide +kernel
theorem d_I_learn_9 : decode prog_1_method_12_code 9 = .ok (.getfield 39, 3) := by decide +kernel
theorem d_I_learn_12 : decode prog_1_method_12_code 12 = .ok (.iload_n 1, 1) := by decide +kernel
theorem d_I_learn_13 : decode prog_1_method_12_code 13 = .ok (.aaload, 1) := by decide +kernel
theorem d_I_learn_14 : decode prog_1_method_12_code 14 = .ok (.getfield 50, 3) := by decide +kernel
theorem d_I_learn_17 : decode prog_1_method_12_code 17 = .ok (.aload_n 0, 1) := by decide +kernel
theorem d_I_learn_18 : decode prog_1_method_12_code 18 = .ok (.getfield 26, 3) := by decide +kernel
theorem d_I_learn_21 : decode prog_1_method_12_code 21 = .ok (.getfield 135, 3) := by decide +kernel
theorem d_I_learn_24 : decode prog_1_method_12_code 24 = .ok (.if_icmp .ne 5, 3) := by decide +kernel
theorem d_I_learn_27 : decode prog_1_method_12_code 27 = .ok (.iconst 0, 1) := by decide +kernel
theorem d_I_learn_28 : decode prog_1_method_12_code 28 = .ok (.ireturn, 1) := by decide +kernel
theorem d_I_learn_29 : decode prog_1_method_12_code 29 = .ok (.aload_n 0, 1) := by decide +kernel
theorem d_I_learn_30 : decode prog_1_method_12_code 30 = .ok (.getfield 39, 3) := by decide +kernel
theorem d_I_learn_33 : decode prog_1_method_12_code 33 = .ok (.iload_n 1, 1) := by decide +kernel
theorem d_I_learn_34 : decode prog_1_method_12_code 34 = .ok (.aaload, 1) := by decide +kernel
theorem d_I_learn_35 : decode prog_1_method_12_code 35 = .ok (.aload_n 0, 1) := by decide +kernel
theorem d_I_learn_36 : decode prog_1_method_12_code 36 = .ok (.getfield 26, 3) := by decide +kernel
theorem d_I_learn_39 : decode prog_1_method_12_code 39 = .ok (.aload_n 0, 1) := by decide +kernel
theorem d_I_learn_40 : decode prog_1_method_12_code 40 = .ok (.getfield 136, 3) := by decide +kernel
theorem d_I_learn_43 : decode prog_1_method_12_code 43 = .ok (.invokevirtual 152, 3) := by decide +kernel
theorem d_I_learn_46 : decode prog_1_method_12_code 46 = .ok (.iconst 1, 1) := by decide +kernel
theorem d_I_learn_47 : decode prog_1_method_12_code 47 = .ok (.ireturn, 1) := by decide +kernel
theorem d_B_adopt_0 : decode prog_2_method_4_code 0 = .ok (.aload_n 0, 1) := by decide +kernel
theorem d_B_adopt_1 : decode prog_2_method_4_code 1 = .ok (.aload_n 1, 1) := by decide +kernel
theorem d_B_adopt_2 : decode prog_2_method_4_code 2 = .ok (.getfield 67, 3) := by decide +kernel
theorem d_B_adopt_5 : decode prog_2_method_4_code 5 = .ok (.putfield 29, 3) := by decide +kernel
theorem d_B_adopt_8 : decode prog_2_method_4_code 8 = .ok (.aload_n 0, 1) := by decide +kernel
theorem d_B_adopt_9 : decode prog_2_method_4_code 9 = .ok (.aload_n 1, 1) := by decide +kernel
theorem d_B_adopt_10 : decode prog_2_method_4_code 10 = .ok (.getfield 70, 3) := by decide +kernel
theorem d_B_adopt_13 : decode prog_2_method_4_code 13 = .ok (.putfield 33, 3) := by decide +kernel
theorem d_B_adopt_16 : decode prog_2_method_4_code 16 = .ok (.aload_n 0, 1) := by decide +kernel
theorem d_B_adopt_17 : decode prog_2_method_4_code 17 = .ok (.iconst 0, 1) := by decide +kernel
theorem d_B_adopt_18 : decode prog_2_method_4_code 18 = .ok (.putfield 42, 3) := by decide +kernel
theorem d_B_adopt_21 : decode prog_2_method_4_code 21 = .ok (.aload_n 0, 1) := by decide +kernel
theorem d_B_adopt_22 : decode prog_2_method_4_code 22 = .ok (.invokevirtual 60, 3) := by decide +kernel
theorem d_B_adopt_25 : decode prog_2_method_4_code 25 = .ok (.ifCond .eq 38, 3) := by decide +kernel
theorem d_B_adopt_28 : decode prog_2_method_4_code 28 = .ok (.aload_n 0, 1) := by decide +kernel
theorem d_B_adopt_29 : decode prog_2_method_4_code 29 = .ok (.aload_n 0, 1) := by decide +kernel
theorem d_B_adopt_30 : decode prog_2_method_4_code 30 = .ok (.getfield 12, 3) := by decide +kernel
theorem d_B_adopt_33 : decode prog_2_method_4_code 33 = .ok (.getfield 64, 3) := by decide +kernel
theorem d_B_adopt_36 : decode prog_2_method_4_code 36 = .ok (.putfield 45, 3) := by decide +kernel
theorem d_B_adopt_39 : decode prog_2_method_4_code 39 = .ok (.aload_n 0, 1) := by decide +kernel
theorem d_B_adopt_40 : decode prog_2_method_4_code 40 = .ok (.aload_n 1, 1) := by decide +kernel
theorem d_B_adopt_41 : decode prog_2_method_4_code 41 = .ok (.getfield 71, 3) := by decide +kernel
theorem d_B_adopt_44 : decode prog_2_method_4_code 44 = .ok (.putfield 48, 3) := by decide +kernel
theorem d_B_adopt_47 : decode prog_2_method_4_code 47 = .ok (.aload_n 0, 1) := by decide +kernel
theorem d_B_adopt_48 : decode prog_2_method_4_code 48 = .ok (.getfield 18, 3) := by decide +kernel
theorem d_B_adopt_51 : decode prog_2_method_4_code 51 = .ok (.iconst (-1), 1) := by decide +kernel
theorem d_B_adopt_52 : decode prog_2_method_4_code 52 = .ok (.invokestatic 54, 3) := by decide +kernel
theorem d_B_adopt_55 : decode prog_2_method_4_code 55 = .ok (.aload_n 0, 1) := by decide +kernel
theorem d_B_adopt_56 : decode prog_2_method_4_code 56 = .ok (.getfield 22, 3) := by decide +kernel
theorem d_B_adopt_59 : decode prog_2_method_4_code 59 = .ok (.iload_n 2, 1) := by decide +kernel
theorem d_B_adopt_60 : decode prog_2_method_4_code 60 = .ok (.invokestatic 54, 3) := by decide +kernel
theorem d_B_adopt_63 : decode prog_2_method_4_code 63 = .ok (.return_, 1) := by decide +kernel
theorem d_I_crash_0 : decode prog_1_method_13_code 0 = .ok (.aload_n 0, 1) := by decide +kernel
theorem d_I_crash_1 : decode prog_1_method_13_code 1 = .ok (.iload_n 1, 1) := by decide +kernel
theorem d_I_crash_2 : decode prog_1_method_13_code 2 = .ok (.invokevirtual 76, 3) := by decide +kernel
theorem d_I_crash_5 : decode prog_1_method_13_code 5 = .ok (.ifCond .ne 5, 3) := by decide +kernel
theorem d_I_crash_8 : decode prog_1_method_13_code 8 = .ok (.iconst 0, 1) := by decide +kernel
theorem d_I_crash_9 : decode prog_1_method_13_code 9 = .ok (.ireturn, 1) := by decide +kernel
theorem d_I_crash_10 : decode prog_1_method_13_code 10 = .ok (.aload_n 0, 1) := by decide +kernel
theorem d_I_crash_11 : decode prog_1_method_13_code 11 = .ok (.getfield 39, 3) := by decide +kernel
theorem d_I_crash_14 : decode prog_1_method_13_code 14 = .ok (.iload_n 1, 1) := by decide +kernel
theorem d_I_crash_15 : decode prog_1_method_13_code 15 = .ok (.aaload, 1) := by decide +kernel
theorem d_I_crash_16 : decode prog_1_method_13_code 16 = .ok (.invokevirtual 156, 3) := by decide +kernel
theorem d_I_crash_19 : decode prog_1_method_13_code 19 = .ok (.iconst 1, 1) := by decide +kernel
theorem d_I_crash_20 : decode prog_1_method_13_code 20 = .ok (.ireturn, 1) := by decide +kernel
theorem d_B_goDown_0 : decode prog_2_method_5_code 0 = .ok (.aload_n 0, 1) := by decide +kernel
theorem d_B_goDown_1 : decode prog_2_method_5_code 1 = .ok (.iconst 0, 1) := by decide +kernel
theorem d_B_goDown_2 : decode prog_2_method_5_code 2 = .ok (.putfield 25, 3) := by decide +kernel
theorem d_B_goDown_5 : decode prog_2_method_5_code 5 = .ok (.aload_n 0, 1) := by decide +kernel
theorem d_B_goDown_6 : decode prog_2_method_5_code 6 = .ok (.iconst 0, 1) := by decide +kernel
theorem d_B_goDown_7 : decode prog_2_method_5_code 7 = .ok (.putfield 29, 3) := by decide +kernel
theorem d_B_goDown_10 : decode prog_2_method_5_code 10 = .ok (.aload_n 0, 1) := by decide +kernel
theorem d_B_goDown_11 : decode prog_2_method_5_code 11 = .ok (.iconst (-1), 1) := by decide +kernel
theorem d_B_goDown_12 : decode prog_2_method_5_code 12 = .ok (.putfield 33, 3) := by decide +kernel
theorem d_B_goDown_15 : decode prog_2_method_5_code 15 = .ok (.aload_n 0, 1) := by decide +kernel
theorem d_B_goDown_16 : decode prog_2_method_5_code 16 = .ok (.iconst 0, 1) := by decide +kernel
theorem d_B_goDown_17 : decode prog_2_method_5_code 17 = .ok (.putfield 42, 3) := by decide +kernel
theorem d_B_goDown_20 : decode prog_2_method_5_code 20 = .ok (.return_, 1) := by decide +kernel
theorem d_I_restart_0 : decode prog_1_method_14_code 0 = .ok (.iload_n 1, 1) := by decide +kernel
theorem d_I_restart_1 : decode prog_1_method_14_code 1 = .ok (.invokestatic 159, 3) := by decide +kernel
theorem d_I_restart_4 : decode prog_1_method_14_code 4 = .ok (.ifCond .eq 15, 3) := by decide +kernel
theorem d_I_restart_7 : decode prog_1_method_14_code 7 = .ok (.aload_n 0, 1) := by decide +kernel
theorem d_I_restart_8 : decode prog_1_method_14_code 8 = .ok (.getfield 39, 3) := by decide +kernel
theorem d_I_restart_11 : decode prog_1_method_14_code 11 = .ok (.iload_n 1, 1) := by decide +kernel
theorem d_I_restart_12 : decode prog_1_method_14_code 12 = .ok (.aaload, 1) := by decide +kernel
theorem d_I_restart_13 : decode prog_1_method_14_code 13 = .ok (.getfield 162, 3) := by decide +kernel
theorem d_I_restart_16 : decode prog_1_method_14_code 16 = .ok (.ifCond .eq 5, 3) := by decide +kernel
theorem d_I_restart_19 : decode prog_1_method_14_code 19 = .ok (.iconst 0, 1) := by decide +kernel
theorem d_I_restart_20 : decode prog_1_method_14_code 20 = .ok (.ireturn, 1) := by decide +kernel
theorem d_I_restart_21 : decode prog_1_method_14_code 21 = .ok (.aload_n 0, 1) := by decide +kernel
theorem d_I_restart_22 : decode prog_1_method_14_code 22 = .ok (.getfield 39, 3) := by decide +kernel
theorem d_I_restart_25 : decode prog_1_method_14_code 25 = .ok (.iload_n 1, 1) := by decide +kernel
theorem d_I_restart_26 : decode prog_1_method_14_code 26 = .ok (.aaload, 1) := by decide +kernel
theorem d_I_restart_27 : decode prog_1_method_14_code 27 = .ok (.iconst 1, 1) := by decide +kernel
theorem d_I_restart_28 : decode prog_1_method_14_code 28 = .ok (.putfield 162, 3) := by decide +kernel
theorem d_I_restart_31 : decode prog_1_method_14_code 31 = .ok (.iconst 1, 1) := by decide +kernel
theorem d_I_restart_32 : decode prog_1_method_14_code 32 = .ok (.ireturn, 1) := by decide +kernel
theorem d_I_govern_0 : decode prog_1_method_15_code 0 = .ok (.iconst 0, 1) := by decide +kernel
theorem d_I_govern_1 : decode prog_1_method_15_code 1 = .ok (.istore_n 2, 1) := by decide +kernel
theorem d_I_govern_2 : decode prog_1_method_15_code 2 = .ok (.iconst 0, 1) := by decide +kernel
theorem d_I_govern_3 : decode prog_1_method_15_code 3 = .ok (.istore_n 3, 1) := by decide +kernel
theorem d_I_govern_4 : decode prog_1_method_15_code 4 = .ok (.iload_n 3, 1) := by decide +kernel
theorem d_I_govern_5 : decode prog_1_method_15_code 5 = .ok (.iconst 4, 1) := by decide +kernel
theorem d_I_govern_6 : decode prog_1_method_15_code 6 = .ok (.if_icmp .ge 35, 3) := by decide +kernel
theorem d_I_govern_9 : decode prog_1_method_15_code 9 = .ok (.aload_n 0, 1) := by decide +kernel
theorem d_I_govern_10 : decode prog_1_method_15_code 10 = .ok (.getfield 39, 3) := by decide +kernel
theorem d_I_govern_13 : decode prog_1_method_15_code 13 = .ok (.iload_n 3, 1) := by decide +kernel
theorem d_I_govern_14 : decode prog_1_method_15_code 14 = .ok (.aaload, 1) := by decide +kernel
theorem d_I_govern_15 : decode prog_1_method_15_code 15 = .ok (.getfield 162, 3) := by decide +kernel
theorem d_I_govern_18 : decode prog_1_method_15_code 18 = .ok (.ifCond .eq 17, 3) := by decide +kernel
theorem d_I_govern_21 : decode prog_1_method_15_code 21 = .ok (.iload_n 1, 1) := by decide +kernel
theorem d_I_govern_22 : decode prog_1_method_15_code 22 = .ok (.iload_n 3, 1) := by decide +kernel
theorem d_I_govern_23 : decode prog_1_method_15_code 23 = .ok (.invokestatic 165, 3) := by decide +kernel
theorem d_I_govern_26 : decode prog_1_method_15_code 26 = .ok (.ifCond .ne 9, 3) := by decide +kernel
theorem d_I_govern_29 : decode prog_1_method_15_code 29 = .ok (.iload_n 2, 1) := by decide +kernel
theorem d_I_govern_30 : decode prog_1_method_15_code 30 = .ok (.iconst 1, 1) := by decide +kernel
theorem d_I_govern_31 : decode prog_1_method_15_code 31 = .ok (.iload_n 3, 1) := by decide +kernel
theorem d_I_govern_32 : decode prog_1_method_15_code 32 = .ok (.ishl, 1) := by decide +kernel
theorem d_I_govern_33 : decode prog_1_method_15_code 33 = .ok (.ior, 1) := by decide +kernel
theorem d_I_govern_34 : decode prog_1_method_15_code 34 = .ok (.istore_n 2, 1) := by decide +kernel
theorem d_I_govern_35 : decode prog_1_method_15_code 35 = .ok (.iinc 3 1, 3) := by decide +kernel
theorem d_I_govern_38 : decode prog_1_method_15_code 38 = .ok (.goto (-34), 3) := by decide +kernel
theorem d_I_govern_41 : decode prog_1_method_15_code 41 = .ok (.aload_n 0, 1) := by decide +kernel
theorem d_I_govern_42 : decode prog_1_method_15_code 42 = .ok (.getfield 26, 3) := by decide +kernel
theorem d_I_govern_45 : decode prog_1_method_15_code 45 = .ok (.iload_n 2, 1) := by decide +kernel
theorem d_I_govern_46 : decode prog_1_method_15_code 46 = .ok (.invokevirtual 169, 3) := by decide +kernel
theorem d_I_govern_49 : decode prog_1_method_15_code 49 = .ok (.ireturn, 1) := by decide +kernel
theorem d_T_reactTo_0 : decode prog_4_method_2_code 0 = .ok (.aload_n 0, 1) := by decide +kernel
theorem d_T_reactTo_1 : decode prog_4_method_2_code 1 = .ok (.getfield 18, 3) := by decide +kernel
theorem d_T_reactTo_4 : decode prog_4_method_2_code 4 = .ok (.iload_n 1, 1) := by decide +kernel
theorem d_T_reactTo_5 : decode prog_4_method_2_code 5 = .ok (.iand, 1) := by decide +kernel
theorem d_T_reactTo_6 : decode prog_4_method_2_code 6 = .ok (.istore_n 2, 1) := by decide +kernel
theorem d_T_reactTo_7 : decode prog_4_method_2_code 7 = .ok (.aload_n 0, 1) := by decide +kernel
theorem d_T_reactTo_8 : decode prog_4_method_2_code 8 = .ok (.getfield 15, 3) := by decide +kernel
theorem d_T_reactTo_11 : decode prog_4_method_2_code 11 = .ok (.iconst (-1), 1) := by decide +kernel
theorem d_T_reactTo_12 : decode prog_4_method_2_code 12 = .ok (.if_icmp .eq 18, 3) := by decide +kernel
theorem d_T_reactTo_15 : decode prog_4_method_2_code 15 = .ok (.iload_n 1, 1) := by decide +kernel
theorem d_T_reactTo_16 : decode prog_4_method_2_code 16 = .ok (.aload_n 0, 1) := by decide +kernel
theorem d_T_reactTo_17 : decode prog_4_method_2_code 17 = .ok (.getfield 15, 3) := by decide +kernel
theorem d_T_reactTo_20 : decode prog_4_method_2_code 20 = .ok (.invokestatic 21, 3) := by decide +kernel
theorem d_T_reactTo_23 : decode prog_4_method_2_code 23 = .ok (.ifCond .eq 7, 3) := by decide +kernel
theorem d_T_reactTo_26 : decode prog_4_method_2_code 26 = .ok (.iconst 1, 1) := by decide +kernel
theorem d_T_reactTo_27 : decode prog_4_method_2_code 27 = .ok (.goto 4, 3) := by decide +kernel
theorem d_T_reactTo_30 : decode prog_4_method_2_code 30 = .ok (.iconst 0, 1) := by decide +kernel
theorem d_T_reactTo_31 : decode prog_4_method_2_code 31 = .ok (.istore_n 3, 1) := by decide +kernel
theorem d_T_reactTo_32 : decode prog_4_method_2_code 32 = .ok (.iload_n 2, 1) := by decide +kernel
theorem d_T_reactTo_33 : decode prog_4_method_2_code 33 = .ok (.ifCond .ne 29, 3) := by decide +kernel
theorem d_T_reactTo_36 : decode prog_4_method_2_code 36 = .ok (.aload_n 0, 1) := by decide +kernel
theorem d_T_reactTo_37 : decode prog_4_method_2_code 37 = .ok (.getfield 15, 3) := by decide +kernel
theorem d_T_reactTo_40 : decode prog_4_method_2_code 40 = .ok (.iconst (-1), 1) := by decide +kernel
theorem d_T_reactTo_41 : decode prog_4_method_2_code 41 = .ok (.if_icmp .eq 19, 3) := by decide +kernel
theorem d_T_reactTo_44 : decode prog_4_method_2_code 44 = .ok (.aload_n 0, 1) := by decide +kernel
theorem d_T_reactTo_45 : decode prog_4_method_2_code 45 = .ok (.iconst (-1), 1) := by decide +kernel
theorem d_T_reactTo_46 : decode prog_4_method_2_code 46 = .ok (.aload_n 0, 1) := by decide +kernel
theorem d_T_reactTo_47 : decode prog_4_method_2_code 47 = .ok (.getfield 18, 3) := by decide +kernel
theorem d_T_reactTo_50 : decode prog_4_method_2_code 50 = .ok (.invokevirtual 25, 3) := by decide +kernel
theorem d_T_reactTo_53 : decode prog_4_method_2_code 53 = .ok (.ifCond .eq 7, 3) := by decide +kernel
theorem d_T_reactTo_56 : decode prog_4_method_2_code 56 = .ok (.iconst 1, 1) := by decide +kernel
theorem d_T_reactTo_57 : decode prog_4_method_2_code 57 = .ok (.goto 4, 3) := by decide +kernel
theorem d_T_reactTo_60 : decode prog_4_method_2_code 60 = .ok (.iconst 0, 1) := by decide +kernel
theorem d_T_reactTo_61 : decode prog_4_method_2_code 61 = .ok (.ireturn, 1) := by decide +kernel
theorem d_T_reactTo_62 : decode prog_4_method_2_code 62 = .ok (.iload_n 3, 1) := by decide +kernel
theorem d_T_reactTo_63 : decode prog_4_method_2_code 63 = .ok (.ifCond .eq 13, 3) := by decide +kernel
theorem d_T_reactTo_66 : decode prog_4_method_2_code 66 = .ok (.iload_n 2, 1) := by decide +kernel
theorem d_T_reactTo_67 : decode prog_4_method_2_code 67 = .ok (.aload_n 0, 1) := by decide +kernel
theorem d_T_reactTo_68 : decode prog_4_method_2_code 68 = .ok (.getfield 18, 3) := by decide +kernel
theorem d_T_reactTo_71 : decode prog_4_method_2_code 71 = .ok (.if_icmp .ne 5, 3) := by decide +kernel
theorem d_T_reactTo_74 : decode prog_4_method_2_code 74 = .ok (.iconst 0, 1) := by decide +kernel
theorem d_T_reactTo_75 : decode prog_4_method_2_code 75 = .ok (.ireturn, 1) := by decide +kernel
theorem d_T_reactTo_76 : decode prog_4_method_2_code 76 = .ok (.aload_n 0, 1) := by decide +kernel
theorem d_T_reactTo_77 : decode prog_4_method_2_code 77 = .ok (.iload_n 3, 1) := by decide +kernel
theorem d_T_reactTo_78 : decode prog_4_method_2_code 78 = .ok (.ifCond .eq 10, 3) := by decide +kernel
theorem d_T_reactTo_81 : decode prog_4_method_2_code 81 = .ok (.aload_n 0, 1) := by decide +kernel
theorem d_T_reactTo_82 : decode prog_4_method_2_code 82 = .ok (.getfield 15, 3) := by decide +kernel
theorem d_T_reactTo_85 : decode prog_4_method_2_code 85 = .ok (.goto 7, 3) := by decide +kernel
theorem d_T_reactTo_88 : decode prog_4_method_2_code 88 = .ok (.iload_n 2, 1) := by decide +kernel
theorem d_T_reactTo_89 : decode prog_4_method_2_code 89 = .ok (.invokestatic 28, 3) := by decide +kernel
theorem d_T_reactTo_92 : decode prog_4_method_2_code 92 = .ok (.iload_n 2, 1) := by decide +kernel
theorem d_T_reactTo_93 : decode prog_4_method_2_code 93 = .ok (.invokevirtual 25, 3) := by decide +kernel
theorem d_T_reactTo_96 : decode prog_4_method_2_code 96 = .ok (.ireturn, 1) := by decide +kernel
theorem d_T_begin_0 : decode prog_4_method_3_code 0 = .ok (.aload_n 0, 1) := by decide +kernel
theorem d_T_begin_1 : decode prog_4_method_3_code 1 = .ok (.iload_n 1, 1) := by decide +kernel
theorem d_T_begin_2 : decode prog_4_method_3_code 2 = .ok (.putfield 15, 3) := by decide +kernel
theorem d_T_begin_5 : decode prog_4_method_3_code 5 = .ok (.aload_n 0, 1) := by decide +kernel
theorem d_T_begin_6 : decode prog_4_method_3_code 6 = .ok (.iload_n 2, 1) := by decide +kernel
theorem d_T_begin_7 : decode prog_4_method_3_code 7 = .ok (.putfield 18, 3) := by decide +kernel
theorem d_T_begin_10 : decode prog_4_method_3_code 10 = .ok (.aload_n 0, 1) := by decide +kernel
theorem d_T_begin_11 : decode prog_4_method_3_code 11 = .ok (.dup, 1) := by decide +kernel
theorem d_T_begin_12 : decode prog_4_method_3_code 12 = .ok (.getfield 9, 3) := by decide +kernel
theorem d_T_begin_15 : decode prog_4_method_3_code 15 = .ok (.iconst 1, 1) := by decide +kernel
theorem d_T_begin_16 : decode prog_4_method_3_code 16 = .ok (.iadd, 1) := by decide +kernel
theorem d_T_begin_17 : decode prog_4_method_3_code 17 = .ok (.putfield 9, 3) := by decide +kernel
theorem d_T_begin_20 : decode prog_4_method_3_code 20 = .ok (.iconst 1, 1) := by decide +kernel
theorem d_T_begin_21 : decode prog_4_method_3_code 21 = .ok (.ireturn, 1) := by decide +kernel
theorem d_I_leastOf_0 : decode prog_1_method_24_code 0 = .ok (.iconst 0, 1) := by decide +kernel
theorem d_I_leastOf_1 : decode prog_1_method_24_code 1 = .ok (.istore_n 1, 1) := by decide +kernel
theorem d_I_leastOf_2 : decode prog_1_method_24_code 2 = .ok (.iload_n 1, 1) := by decide +kernel
theorem d_I_leastOf_3 : decode prog_1_method_24_code 3 = .ok (.iconst 4, 1) := by decide +kernel
theorem d_I_leastOf_4 : decode prog_1_method_24_code 4 = .ok (.if_icmp .ge 19, 3) := by decide +kernel
theorem d_I_leastOf_7 : decode prog_1_method_24_code 7 = .ok (.iload_n 0, 1) := by decide +kernel
theorem d_I_leastOf_8 : decode prog_1_method_24_code 8 = .ok (.iload_n 1, 1) := by decide +kernel
theorem d_I_leastOf_9 : decode prog_1_method_24_code 9 = .ok (.invokestatic 165, 3) := by decide +kernel
theorem d_I_leastOf_12 : decode prog_1_method_24_code 12 = .ok (.ifCond .eq 5, 3) := by decide +kernel
theorem d_I_leastOf_15 : decode prog_1_method_24_code 15 = .ok (.iload_n 1, 1) := by decide +kernel
theorem d_I_leastOf_16 : decode prog_1_method_24_code 16 = .ok (.ireturn, 1) := by decide +kernel
theorem d_I_leastOf_17 : decode prog_1_method_24_code 17 = .ok (.iinc 1 1, 3) := by decide +kernel
theorem d_I_leastOf_20 : decode prog_1_method_24_code 20 = .ok (.goto (-18), 3) := by decide +kernel
theorem d_I_leastOf_23 : decode prog_1_method_24_code 23 = .ok (.iconst (-1), 1) := by decide +kernel
theorem d_I_leastOf_24 : decode prog_1_method_24_code 24 = .ok (.ireturn, 1) := by decide +kernel
theorem d_I_tick_0 : decode prog_1_method_16_code 0 = .ok (.iload_n 1, 1) := by decide +kernel
theorem d_I_tick_1 : decode prog_1_method_16_code 1 = .ok (.ifCond .lt 9, 3) := by decide +kernel
theorem d_I_tick_4 : decode prog_1_method_16_code 4 = .ok (.iload_n 1, 1) := by decide +kernel
theorem d_I_tick_5 : decode prog_1_method_16_code 5 = .ok (.bipush 50, 2) := by decide +kernel
theorem d_I_tick_7 : decode prog_1_method_16_code 7 = .ok (.if_icmp .le 5, 3) := by decide +kernel
theorem d_I_tick_10 : decode prog_1_method_16_code 10 = .ok (.iconst 0, 1) := by decide +kernel
theorem d_I_tick_11 : decode prog_1_method_16_code 11 = .ok (.ireturn, 1) := by decide +kernel
theorem d_I_tick_12 : decode prog_1_method_16_code 12 = .ok (.aload_n 0, 1) := by decide +kernel
theorem d_I_tick_13 : decode prog_1_method_16_code 13 = .ok (.dup, 1) := by decide +kernel
theorem d_I_tick_14 : decode prog_1_method_16_code 14 = .ok (.getfield 136, 3) := by decide +kernel
theorem d_I_tick_17 : decode prog_1_method_16_code 17 = .ok (.iload_n 1, 1) := by decide +kernel
theorem d_I_tick_18 : decode prog_1_method_16_code 18 = .ok (.iadd, 1) := by decide +kernel
theorem d_I_tick_19 : decode prog_1_method_16_code 19 = .ok (.putfield 136, 3) := by decide +kernel
theorem d_I_tick_22 : decode prog_1_method_16_code 22 = .ok (.iconst 1, 1) := by decide +kernel
theorem d_I_tick_23 : decode prog_1_method_16_code 23 = .ok (.ireturn, 1) := by decide +kernel
theorem d_I_controller_0 : decode prog_1_method_17_code 0 = .ok (.iload_n 1, 1) := by decide +kernel
theorem d_I_controller_1 : decode prog_1_method_17_code 1 = .ok (.tableswitch 51 0 2 #[27, 35, 43], 27) := by decide +kernel
theorem d_I_controller_28 : decode prog_1_method_17_code 28 = .ok (.aload_n 0, 1) := by decide +kernel
theorem d_I_controller_29 : decode prog_1_method_17_code 29 = .ok (.getfield 26, 3) := by decide +kernel
theorem d_I_controller_32 : decode prog_1_method_17_code 32 = .ok (.getfield 135, 3) := by decide +kernel
theorem d_I_controller_35 : decode prog_1_method_17_code 35 = .ok (.ireturn, 1) := by decide +kernel
theorem d_I_controller_36 : decode prog_1_method_17_code 36 = .ok (.aload_n 0, 1) := by decide +kernel
theorem d_I_controller_37 : decode prog_1_method_17_code 37 = .ok (.getfield 26, 3) := by decide +kernel
theorem d_I_controller_40 : decode prog_1_method_17_code 40 = .ok (.getfield 172, 3) := by decide +kernel
theorem d_I_controller_43 : decode prog_1_method_17_code 43 = .ok (.ireturn, 1) := by decide +kernel
theorem d_I_controller_44 : decode prog_1_method_17_code 44 = .ok (.aload_n 0, 1) := by decide +kernel
theorem d_I_controller_45 : decode prog_1_method_17_code 45 = .ok (.getfield 26, 3) := by decide +kernel
theorem d_I_controller_48 : decode prog_1_method_17_code 48 = .ok (.getfield 143, 3) := by decide +kernel
theorem d_I_controller_51 : decode prog_1_method_17_code 51 = .ok (.ireturn, 1) := by decide +kernel
theorem d_I_controller_52 : decode prog_1_method_17_code 52 = .ok (.iconst (-1), 1) := by decide +kernel
theorem d_I_controller_53 : decode prog_1_method_17_code 53 = .ok (.ireturn, 1) := by decide +kernel
theorem d_I_broker_0 : decode prog_1_method_18_code 0 = .ok (.iload_n 1, 1) := by decide +kernel
theorem d_I_broker_1 : decode prog_1_method_18_code 1 = .ok (.invokestatic 159, 3) := by decide +kernel
theorem d_I_broker_4 : decode prog_1_method_18_code 4 = .ok (.ifCond .eq 16, 3) := by decide +kernel
theorem d_I_broker_7 : decode prog_1_method_18_code 7 = .ok (.aload_n 0, 1) := by decide +kernel
theorem d_I_broker_8 : decode prog_1_method_18_code 8 = .ok (.getfield 39, 3) := by decide +kernel
theorem d_I_broker_11 : decode prog_1_method_18_code 11 = .ok (.iload_n 1, 1) := by decide +kernel
theorem d_I_broker_12 : decode prog_1_method_18_code 12 = .ok (.aaload, 1) := by decide +kernel
theorem d_I_broker_13 : decode prog_1_method_18_code 13 = .ok (.iload_n 2, 1) := by decide +kernel
theorem d_I_broker_14 : decode prog_1_method_18_code 14 = .ok (.invokevirtual 173, 3) := by decide +kernel
theorem d_I_broker_17 : decode prog_1_method_18_code 17 = .ok (.goto 4, 3) := by decide +kernel
theorem d_I_broker_20 : decode prog_1_method_18_code 20 = .ok (.iconst (-1), 1) := by decide +kernel
theorem d_I_broker_21 : decode prog_1_method_18_code 21 = .ok (.ireturn, 1) := by decide +kernel
theorem d_B_fact_0 : decode prog_2_method_3_code 0 = .ok (.iload_n 1, 1) := by decide +kernel
theorem d_B_fact_1 : decode prog_2_method_3_code 1 = .ok (.tableswitch 100 0 6 #[43, 56, 61, 66, 82, 90, 95], 43) := by decide +kernel
theorem d_B_fact_44 : decode prog_2_method_3_code 44 = .ok (.aload_n 0, 1) := by decide +kernel
theorem d_B_fact_45 : decode prog_2_method_3_code 45 = .ok (.getfield 25, 3) := by decide +kernel
theorem d_B_fact_48 : decode prog_2_method_3_code 48 = .ok (.ifCond .eq 7, 3) := by decide +kernel
theorem d_B_fact_51 : decode prog_2_method_3_code 51 = .ok (.iconst 1, 1) := by decide +kernel
theorem d_B_fact_52 : decode prog_2_method_3_code 52 = .ok (.goto 4, 3) := by decide +kernel
theorem d_B_fact_55 : decode prog_2_method_3_code 55 = .ok (.iconst 0, 1) := by decide +kernel
theorem d_B_fact_56 : decode prog_2_method_3_code 56 = .ok (.ireturn, 1) := by decide +kernel
theorem d_B_fact_57 : decode prog_2_method_3_code 57 = .ok (.aload_n 0, 1) := by decide +kernel
theorem d_B_fact_58 : decode prog_2_method_3_code 58 = .ok (.getfield 29, 3) := by decide +kernel
theorem d_B_fact_61 : decode prog_2_method_3_code 61 = .ok (.ireturn, 1) := by decide +kernel
theorem d_B_fact_62 : decode prog_2_method_3_code 62 = .ok (.aload_n 0, 1) := by decide +kernel
theorem d_B_fact_63 : decode prog_2_method_3_code 63 = .ok (.getfield 33, 3) := by decide +kernel
theorem d_B_fact_66 : decode prog_2_method_3_code 66 = .ok (.ireturn, 1) := by decide +kernel
theorem d_B_fact_67 : decode prog_2_method_3_code 67 = .ok (.aload_n 0, 1) := by decide +kernel
theorem d_B_fact_68 : decode prog_2_method_3_code 68 = .ok (.invokevirtual 60, 3) := by decide +kernel
theorem d_B_fact_71 : decode prog_2_method_3_code 71 = .ok (.ifCond .eq 10, 3) := by decide +kernel
theorem d_B_fact_74 : decode prog_2_method_3_code 74 = .ok (.aload_n 0, 1) := by decide +kernel
theorem d_B_fact_75 : decode prog_2_method_3_code 75 = .ok (.getfield 48, 3) := by decide +kernel
theorem d_B_fact_78 : decode prog_2_method_3_code 78 = .ok (.goto 4, 3) := by decide +kernel
theorem d_B_fact_81 : decode prog_2_method_3_code 81 = .ok (.iconst 0, 1) := by decide +kernel
theorem d_B_fact_82 : decode prog_2_method_3_code 82 = .ok (.ireturn, 1) := by decide +kernel
theorem d_B_fact_83 : decode prog_2_method_3_code 83 = .ok (.aload_n 0, 1) := by decide +kernel
theorem d_B_fact_84 : decode prog_2_method_3_code 84 = .ok (.getfield 12, 3) := by decide +kernel
theorem d_B_fact_87 : decode prog_2_method_3_code 87 = .ok (.getfield 64, 3) := by decide +kernel
theorem d_B_fact_90 : decode prog_2_method_3_code 90 = .ok (.ireturn, 1) := by decide +kernel
theorem d_B_fact_91 : decode prog_2_method_3_code 91 = .ok (.aload_n 0, 1) := by decide +kernel
theorem d_B_fact_92 : decode prog_2_method_3_code 92 = .ok (.getfield 36, 3) := by decide +kernel
theorem d_B_fact_95 : decode prog_2_method_3_code 95 = .ok (.ireturn, 1) := by decide +kernel
theorem d_B_fact_96 : decode prog_2_method_3_code 96 = .ok (.aload_n 0, 1) := by decide +kernel
theorem d_B_fact_97 : decode prog_2_method_3_code 97 = .ok (.getfield 39, 3) := by decide +kernel
theorem d_B_fact_100 : decode prog_2_method_3_code 100 = .ok (.ireturn, 1) := by decide +kernel
theorem d_B_fact_101 : decode prog_2_method_3_code 101 = .ok (.iconst (-1), 1) := by decide +kernel
theorem d_B_fact_102 : decode prog_2_method_3_code 102 = .ok (.ireturn, 1) := by decide +kernel
theorem d_I_epochAt_0 : decode prog_1_method_19_code 0 = .ok (.iload_n 1, 1) := by decide +kernel
theorem d_I_epochAt_1 : decode prog_1_method_19_code 1 = .ok (.invokestatic 159, 3) := by decide +kernel
theorem d_I_epochAt_4 : decode prog_1_method_19_code 4 = .ok (.ifCond .eq 19, 3) := by decide +kernel
theorem d_I_epochAt_7 : decode prog_1_method_19_code 7 = .ok (.aload_n 0, 1) := by decide +kernel
theorem d_I_epochAt_8 : decode prog_1_method_19_code 8 = .ok (.getfield 39, 3) := by decide +kernel
theorem d_I_epochAt_11 : decode prog_1_method_19_code 11 = .ok (.iload_n 1, 1) := by decide +kernel
theorem d_I_epochAt_12 : decode prog_1_method_19_code 12 = .ok (.aaload, 1) := by decide +kernel
theorem d_I_epochAt_13 : decode prog_1_method_19_code 13 = .ok (.getfield 60, 3) := by decide +kernel
theorem d_I_epochAt_16 : decode prog_1_method_19_code 16 = .ok (.iload_n 2, 1) := by decide +kernel
theorem d_I_epochAt_17 : decode prog_1_method_19_code 17 = .ok (.invokevirtual 176, 3) := by decide +kernel
theorem d_I_epochAt_20 : decode prog_1_method_19_code 20 = .ok (.goto 4, 3) := by decide +kernel
theorem d_I_epochAt_23 : decode prog_1_method_19_code 23 = .ok (.iconst 0, 1) := by decide +kernel
theorem d_I_epochAt_24 : decode prog_1_method_19_code 24 = .ok (.ireturn, 1) := by decide +kernel
theorem d_I_valueAt_0 : decode prog_1_method_20_code 0 = .ok (.iload_n 1, 1) := by decide +kernel
theorem d_I_valueAt_1 : decode prog_1_method_20_code 1 = .ok (.invokestatic 159, 3) := by decide +kernel
theorem d_I_valueAt_4 : decode prog_1_method_20_code 4 = .ok (.ifCond .eq 19, 3) := by decide +kernel
theorem d_I_valueAt_7 : decode prog_1_method_20_code 7 = .ok (.aload_n 0, 1) := by decide +kernel
theorem d_I_valueAt_8 : decode prog_1_method_20_code 8 = .ok (.getfield 39, 3) := by decide +kernel
theorem d_I_valueAt_11 : decode prog_1_method_20_code 11 = .ok (.iload_n 1, 1) := by decide +kernel
theorem d_I_valueAt_12 : decode prog_1_method_20_code 12 = .ok (.aaload, 1) := by decide +kernel
theorem d_I_valueAt_13 : decode prog_1_method_20_code 13 = .ok (.getfield 60, 3) := by decide +kernel
theorem d_I_valueAt_16 : decode prog_1_method_20_code 16 = .ok (.iload_n 2, 1) := by decide +kernel
theorem d_I_valueAt_17 : decode prog_1_method_20_code 17 = .ok (.invokevirtual 72, 3) := by decide +kernel
theorem d_I_valueAt_20 : decode prog_1_method_20_code 20 = .ok (.goto 4, 3) := by decide +kernel
theorem d_I_valueAt_23 : decode prog_1_method_20_code 23 = .ok (.iconst 0, 1) := by decide +kernel
theorem d_I_valueAt_24 : decode prog_1_method_20_code 24 = .ok (.ireturn, 1) := by decide +kernel
