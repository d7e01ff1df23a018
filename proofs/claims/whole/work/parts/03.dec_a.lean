theorem d_L_init_0 : decode prog_1_method_1_code 0 = .ok (.aload_n 0, 1) := by decide +kernel
theorem d_L_init_1 : decode prog_1_method_1_code 1 = .ok (.invokespecial 3, 3) := by decide +kernel
theorem d_L_init_4 : decode prog_1_method_1_code 4 = .ok (.aload_n 0, 1) := by decide +kernel
theorem d_L_init_5 : decode prog_1_method_1_code 5 = .ok (.iconst 4, 1) := by decide +kernel
theorem d_L_init_6 : decode prog_1_method_1_code 6 = .ok (.sipush 400, 3) := by decide +kernel
theorem d_L_init_9 : decode prog_1_method_1_code 9 = .ok (.iload_n 1, 1) := by decide +kernel
theorem d_L_init_10 : decode prog_1_method_1_code 10 = .ok (.invokestatic 9, 3) := by decide +kernel
theorem d_L_init_13 : decode prog_1_method_1_code 13 = .ok (.invokestatic 15, 3) := by decide +kernel
theorem d_L_init_16 : decode prog_1_method_1_code 16 = .ok (.putfield 18, 3) := by decide +kernel
theorem d_L_init_19 : decode prog_1_method_1_code 19 = .ok (.aload_n 0, 1) := by decide +kernel
theorem d_L_init_20 : decode prog_1_method_1_code 20 = .ok (.new 22, 3) := by decide +kernel
theorem d_L_init_23 : decode prog_1_method_1_code 23 = .ok (.dup, 1) := by decide +kernel
theorem d_L_init_24 : decode prog_1_method_1_code 24 = .ok (.invokespecial 24, 3) := by decide +kernel
theorem d_L_init_27 : decode prog_1_method_1_code 27 = .ok (.putfield 25, 3) := by decide +kernel
theorem d_L_init_30 : decode prog_1_method_1_code 30 = .ok (.aload_n 0, 1) := by decide +kernel
theorem d_L_init_31 : decode prog_1_method_1_code 31 = .ok (.new 29, 3) := by decide +kernel
theorem d_L_init_34 : decode prog_1_method_1_code 34 = .ok (.dup, 1) := by decide +kernel
theorem d_L_init_35 : decode prog_1_method_1_code 35 = .ok (.invokespecial 31, 3) := by decide +kernel
theorem d_L_init_38 : decode prog_1_method_1_code 38 = .ok (.putfield 32, 3) := by decide +kernel
theorem d_L_init_41 : decode prog_1_method_1_code 41 = .ok (.aload_n 0, 1) := by decide +kernel
theorem d_L_init_42 : decode prog_1_method_1_code 42 = .ok (.new 36, 3) := by decide +kernel
theorem d_L_init_45 : decode prog_1_method_1_code 45 = .ok (.dup, 1) := by decide +kernel
theorem d_L_init_46 : decode prog_1_method_1_code 46 = .ok (.invokespecial 38, 3) := by decide +kernel
theorem d_L_init_49 : decode prog_1_method_1_code 49 = .ok (.putfield 39, 3) := by decide +kernel
theorem d_L_init_52 : decode prog_1_method_1_code 52 = .ok (.aload_n 0, 1) := by decide +kernel
theorem d_L_init_53 : decode prog_1_method_1_code 53 = .ok (.new 43, 3) := by decide +kernel
theorem d_L_init_56 : decode prog_1_method_1_code 56 = .ok (.dup, 1) := by decide +kernel
theorem d_L_init_57 : decode prog_1_method_1_code 57 = .ok (.invokespecial 45, 3) := by decide +kernel
theorem d_L_init_60 : decode prog_1_method_1_code 60 = .ok (.putfield 46, 3) := by decide +kernel
theorem d_L_init_63 : decode prog_1_method_1_code 63 = .ok (.aload_n 0, 1) := by decide +kernel
theorem d_L_init_64 : decode prog_1_method_1_code 64 = .ok (.new 50, 3) := by decide +kernel
theorem d_L_init_67 : decode prog_1_method_1_code 67 = .ok (.dup, 1) := by decide +kernel
theorem d_L_init_68 : decode prog_1_method_1_code 68 = .ok (.invokespecial 52, 3) := by decide +kernel
theorem d_L_init_71 : decode prog_1_method_1_code 71 = .ok (.putfield 53, 3) := by decide +kernel
theorem d_L_init_74 : decode prog_1_method_1_code 74 = .ok (.aload_n 0, 1) := by decide +kernel
theorem d_L_init_75 : decode prog_1_method_1_code 75 = .ok (.iconst 0, 1) := by decide +kernel
theorem d_L_init_76 : decode prog_1_method_1_code 76 = .ok (.putfield 57, 3) := by decide +kernel
theorem d_L_init_79 : decode prog_1_method_1_code 79 = .ok (.return_, 1) := by decide +kernel
theorem d_G_init_0 : decode prog_4_method_1_code 0 = .ok (.aload_n 0, 1) := by decide +kernel
theorem d_G_init_1 : decode prog_4_method_1_code 1 = .ok (.invokespecial 3, 3) := by decide +kernel
theorem d_G_init_4 : decode prog_4_method_1_code 4 = .ok (.aload_n 0, 1) := by decide +kernel
theorem d_G_init_5 : decode prog_4_method_1_code 5 = .ok (.bipush 24, 2) := by decide +kernel
theorem d_G_init_7 : decode prog_4_method_1_code 7 = .ok (.newarray .int, 2) := by decide +kernel
theorem d_G_init_9 : decode prog_4_method_1_code 9 = .ok (.putfield 9, 3) := by decide +kernel
theorem d_G_init_12 : decode prog_4_method_1_code 12 = .ok (.aload_n 0, 1) := by decide +kernel
theorem d_G_init_13 : decode prog_4_method_1_code 13 = .ok (.bipush 24, 2) := by decide +kernel
theorem d_G_init_15 : decode prog_4_method_1_code 15 = .ok (.newarray .int, 2) := by decide +kernel
theorem d_G_init_17 : decode prog_4_method_1_code 17 = .ok (.putfield 15, 3) := by decide +kernel
theorem d_G_init_20 : decode prog_4_method_1_code 20 = .ok (.aload_n 0, 1) := by decide +kernel
theorem d_G_init_21 : decode prog_4_method_1_code 21 = .ok (.bipush 24, 2) := by decide +kernel
theorem d_G_init_23 : decode prog_4_method_1_code 23 = .ok (.newarray .int, 2) := by decide +kernel
theorem d_G_init_25 : decode prog_4_method_1_code 25 = .ok (.putfield 18, 3) := by decide +kernel
theorem d_G_init_28 : decode prog_4_method_1_code 28 = .ok (.aload_n 0, 1) := by decide +kernel
theorem d_G_init_29 : decode prog_4_method_1_code 29 = .ok (.bipush 48, 2) := by decide +kernel
theorem d_G_init_31 : decode prog_4_method_1_code 31 = .ok (.newarray .int, 2) := by decide +kernel
theorem d_G_init_33 : decode prog_4_method_1_code 33 = .ok (.putfield 21, 3) := by decide +kernel
theorem d_G_init_36 : decode prog_4_method_1_code 36 = .ok (.aload_n 0, 1) := by decide +kernel
theorem d_G_init_37 : decode prog_4_method_1_code 37 = .ok (.iconst 4, 1) := by decide +kernel
theorem d_G_init_38 : decode prog_4_method_1_code 38 = .ok (.newarray .int, 2) := by decide +kernel
theorem d_G_init_40 : decode prog_4_method_1_code 40 = .ok (.putfield 24, 3) := by decide +kernel
theorem d_G_init_43 : decode prog_4_method_1_code 43 = .ok (.aload_n 0, 1) := by decide +kernel
theorem d_G_init_44 : decode prog_4_method_1_code 44 = .ok (.iconst 0, 1) := by decide +kernel
theorem d_G_init_45 : decode prog_4_method_1_code 45 = .ok (.putfield 27, 3) := by decide +kernel
theorem d_G_init_48 : decode prog_4_method_1_code 48 = .ok (.aload_n 0, 1) := by decide +kernel
theorem d_G_init_49 : decode prog_4_method_1_code 49 = .ok (.getfield 24, 3) := by decide +kernel
theorem d_G_init_52 : decode prog_4_method_1_code 52 = .ok (.iconst (-1), 1) := by decide +kernel
theorem d_G_init_53 : decode prog_4_method_1_code 53 = .ok (.invokestatic 31, 3) := by decide +kernel
theorem d_G_init_56 : decode prog_4_method_1_code 56 = .ok (.return_, 1) := by decide +kernel
theorem d_A_fill_0 : decode prog_10_method_103_code 0 = .ok (.iconst 0, 1) := by decide +kernel
theorem d_A_fill_1 : decode prog_10_method_103_code 1 = .ok (.istore_n 2, 1) := by decide +kernel
theorem d_A_fill_2 : decode prog_10_method_103_code 2 = .ok (.aload_n 0, 1) := by decide +kernel
theorem d_A_fill_3 : decode prog_10_method_103_code 3 = .ok (.arraylength, 1) := by decide +kernel
theorem d_A_fill_4 : decode prog_10_method_103_code 4 = .ok (.istore_n 3, 1) := by decide +kernel
theorem d_A_fill_5 : decode prog_10_method_103_code 5 = .ok (.iload_n 2, 1) := by decide +kernel
theorem d_A_fill_6 : decode prog_10_method_103_code 6 = .ok (.iload_n 3, 1) := by decide +kernel
theorem d_A_fill_7 : decode prog_10_method_103_code 7 = .ok (.if_icmp .ge 13, 3) := by decide +kernel
theorem d_A_fill_10 : decode prog_10_method_103_code 10 = .ok (.aload_n 0, 1) := by decide +kernel
theorem d_A_fill_11 : decode prog_10_method_103_code 11 = .ok (.iload_n 2, 1) := by decide +kernel
theorem d_A_fill_12 : decode prog_10_method_103_code 12 = .ok (.iload_n 1, 1) := by decide +kernel
theorem d_A_fill_13 : decode prog_10_method_103_code 13 = .ok (.iastore, 1) := by decide +kernel
theorem d_A_fill_14 : decode prog_10_method_103_code 14 = .ok (.iinc 2 1, 3) := by decide +kernel
theorem d_A_fill_17 : decode prog_10_method_103_code 17 = .ok (.goto (-12), 3) := by decide +kernel
theorem d_A_fill_20 : decode prog_10_method_103_code 20 = .ok (.return_, 1) := by decide +kernel
theorem d_N_init_0 : decode prog_3_method_1_code 0 = .ok (.aload_n 0, 1) := by decide +kernel
theorem d_N_init_1 : decode prog_3_method_1_code 1 = .ok (.invokespecial 3, 3) := by decide +kernel
theorem d_N_init_4 : decode prog_3_method_1_code 4 = .ok (.aload_n 0, 1) := by decide +kernel
theorem d_N_init_5 : decode prog_3_method_1_code 5 = .ok (.bipush 24, 2) := by decide +kernel
theorem d_N_init_7 : decode prog_3_method_1_code 7 = .ok (.newarray .int, 2) := by decide +kernel
theorem d_N_init_9 : decode prog_3_method_1_code 9 = .ok (.putfield 9, 3) := by decide +kernel
theorem d_N_init_12 : decode prog_3_method_1_code 12 = .ok (.aload_n 0, 1) := by decide +kernel
theorem d_N_init_13 : decode prog_3_method_1_code 13 = .ok (.bipush 48, 2) := by decide +kernel
theorem d_N_init_15 : decode prog_3_method_1_code 15 = .ok (.newarray .int, 2) := by decide +kernel
theorem d_N_init_17 : decode prog_3_method_1_code 17 = .ok (.putfield 15, 3) := by decide +kernel
theorem d_N_init_20 : decode prog_3_method_1_code 20 = .ok (.return_, 1) := by decide +kernel
theorem d_T_init_0 : decode prog_6_method_1_code 0 = .ok (.aload_n 0, 1) := by decide +kernel
theorem d_T_init_1 : decode prog_6_method_1_code 1 = .ok (.invokespecial 3, 3) := by decide +kernel
theorem d_T_init_4 : decode prog_6_method_1_code 4 = .ok (.aload_n 0, 1) := by decide +kernel
theorem d_T_init_5 : decode prog_6_method_1_code 5 = .ok (.bipush 60, 2) := by decide +kernel
theorem d_T_init_7 : decode prog_6_method_1_code 7 = .ok (.newarray .int, 2) := by decide +kernel
theorem d_T_init_9 : decode prog_6_method_1_code 9 = .ok (.putfield 9, 3) := by decide +kernel
theorem d_T_init_12 : decode prog_6_method_1_code 12 = .ok (.aload_n 0, 1) := by decide +kernel
theorem d_T_init_13 : decode prog_6_method_1_code 13 = .ok (.bipush 60, 2) := by decide +kernel
theorem d_T_init_15 : decode prog_6_method_1_code 15 = .ok (.newarray .int, 2) := by decide +kernel
theorem d_T_init_17 : decode prog_6_method_1_code 17 = .ok (.putfield 15, 3) := by decide +kernel
theorem d_T_init_20 : decode prog_6_method_1_code 20 = .ok (.aload_n 0, 1) := by decide +kernel
theorem d_T_init_21 : decode prog_6_method_1_code 21 = .ok (.iconst 0, 1) := by decide +kernel
theorem d_T_init_22 : decode prog_6_method_1_code 22 = .ok (.putfield 18, 3) := by decide +kernel
theorem d_T_init_25 : decode prog_6_method_1_code 25 = .ok (.return_, 1) := by decide +kernel
theorem d_L_block_0 : decode prog_1_method_2_code 0 = .ok (.iload_n 1, 1) := by decide +kernel
theorem d_L_block_1 : decode prog_1_method_2_code 1 = .ok (.ifCond .lt 26, 3) := by decide +kernel
theorem d_L_block_4 : decode prog_1_method_2_code 4 = .ok (.iload_n 1, 1) := by decide +kernel
theorem d_L_block_5 : decode prog_1_method_2_code 5 = .ok (.iconst 4, 1) := by decide +kernel
theorem d_L_block_6 : decode prog_1_method_2_code 6 = .ok (.if_icmp .ge 21, 3) := by decide +kernel
theorem d_L_block_9 : decode prog_1_method_2_code 9 = .ok (.iload_n 2, 1) := by decide +kernel
theorem d_L_block_10 : decode prog_1_method_2_code 10 = .ok (.iconst 1, 1) := by decide +kernel
theorem d_L_block_11 : decode prog_1_method_2_code 11 = .ok (.if_icmp .lt 16, 3) := by decide +kernel
theorem d_L_block_14 : decode prog_1_method_2_code 14 = .ok (.iload_n 2, 1) := by decide +kernel
theorem d_L_block_15 : decode prog_1_method_2_code 15 = .ok (.bipush 40, 2) := by decide +kernel
theorem d_L_block_17 : decode prog_1_method_2_code 17 = .ok (.if_icmp .gt 10, 3) := by decide +kernel
theorem d_L_block_20 : decode prog_1_method_2_code 20 = .ok (.aload_n 0, 1) := by decide +kernel
theorem d_L_block_21 : decode prog_1_method_2_code 21 = .ok (.getfield 57, 3) := by decide +kernel
theorem d_L_block_24 : decode prog_1_method_2_code 24 = .ok (.ifCond .eq 5, 3) := by decide +kernel
theorem d_L_block_27 : decode prog_1_method_2_code 27 = .ok (.iconst (-1), 1) := by decide +kernel
theorem d_L_block_28 : decode prog_1_method_2_code 28 = .ok (.ireturn, 1) := by decide +kernel
theorem d_L_block_29 : decode prog_1_method_2_code 29 = .ok (.aload_n 0, 1) := by decide +kernel
theorem d_L_block_30 : decode prog_1_method_2_code 30 = .ok (.getfield 25, 3) := by decide +kernel
theorem d_L_block_33 : decode prog_1_method_2_code 33 = .ok (.getfield 61, 3) := by decide +kernel
theorem d_L_block_36 : decode prog_1_method_2_code 36 = .ok (.bipush 24, 2) := by decide +kernel
theorem d_L_block_38 : decode prog_1_method_2_code 38 = .ok (.if_icmp .lt 6, 3) := by decide +kernel
theorem d_L_block_41 : decode prog_1_method_2_code 41 = .ok (.bipush (-2), 2) := by decide +kernel
theorem d_L_block_43 : decode prog_1_method_2_code 43 = .ok (.ireturn, 1) := by decide +kernel
theorem d_L_block_44 : decode prog_1_method_2_code 44 = .ok (.aload_n 0, 1) := by decide +kernel
theorem d_L_block_45 : decode prog_1_method_2_code 45 = .ok (.getfield 25, 3) := by decide +kernel
theorem d_L_block_48 : decode prog_1_method_2_code 48 = .ok (.iload_n 1, 1) := by decide +kernel
theorem d_L_block_49 : decode prog_1_method_2_code 49 = .ok (.iload_n 2, 1) := by decide +kernel
theorem d_L_block_50 : decode prog_1_method_2_code 50 = .ok (.invokevirtual 64, 3) := by decide +kernel
theorem d_L_block_53 : decode prog_1_method_2_code 53 = .ok (.ireturn, 1) := by decide +kernel
theorem d_G_add_0 : decode prog_4_method_2_code 0 = .ok (.aload_n 0, 1) := by decide +kernel
theorem d_G_add_1 : decode prog_4_method_2_code 1 = .ok (.getfield 27, 3) := by decide +kernel
theorem d_G_add_4 : decode prog_4_method_2_code 4 = .ok (.istore_n 3, 1) := by decide +kernel
theorem d_G_add_5 : decode prog_4_method_2_code 5 = .ok (.aload_n 0, 1) := by decide +kernel
theorem d_G_add_6 : decode prog_4_method_2_code 6 = .ok (.getfield 9, 3) := by decide +kernel
theorem d_G_add_9 : decode prog_4_method_2_code 9 = .ok (.iload_n 3, 1) := by decide +kernel
theorem d_G_add_10 : decode prog_4_method_2_code 10 = .ok (.iload_n 1, 1) := by decide +kernel
theorem d_G_add_11 : decode prog_4_method_2_code 11 = .ok (.iastore, 1) := by decide +kernel
theorem d_G_add_12 : decode prog_4_method_2_code 12 = .ok (.aload_n 0, 1) := by decide +kernel
theorem d_G_add_13 : decode prog_4_method_2_code 13 = .ok (.getfield 15, 3) := by decide +kernel
theorem d_G_add_16 : decode prog_4_method_2_code 16 = .ok (.iload_n 3, 1) := by decide +kernel
theorem d_G_add_17 : decode prog_4_method_2_code 17 = .ok (.iload_n 2, 1) := by decide +kernel
theorem d_G_add_18 : decode prog_4_method_2_code 18 = .ok (.iastore, 1) := by decide +kernel
theorem d_G_add_19 : decode prog_4_method_2_code 19 = .ok (.aload_n 0, 1) := by decide +kernel
theorem d_G_add_20 : decode prog_4_method_2_code 20 = .ok (.iload_n 3, 1) := by decide +kernel
theorem d_G_add_21 : decode prog_4_method_2_code 21 = .ok (.iconst 0, 1) := by decide +kernel
theorem d_G_add_22 : decode prog_4_method_2_code 22 = .ok (.iconst (-1), 1) := by decide +kernel
theorem d_G_add_23 : decode prog_4_method_2_code 23 = .ok (.iconst (-1), 1) := by decide +kernel
theorem d_G_add_24 : decode prog_4_method_2_code 24 = .ok (.invokevirtual 37, 3) := by decide +kernel
theorem d_G_add_27 : decode prog_4_method_2_code 27 = .ok (.aload_n 0, 1) := by decide +kernel
theorem d_G_add_28 : decode prog_4_method_2_code 28 = .ok (.getfield 24, 3) := by decide +kernel
theorem d_G_add_31 : decode prog_4_method_2_code 31 = .ok (.iload_n 1, 1) := by decide +kernel
theorem d_G_add_32 : decode prog_4_method_2_code 32 = .ok (.iaload, 1) := by decide +kernel
theorem d_G_add_33 : decode prog_4_method_2_code 33 = .ok (.iconst (-1), 1) := by decide +kernel
theorem d_G_add_34 : decode prog_4_method_2_code 34 = .ok (.if_icmp .ne 10, 3) := by decide +kernel
theorem d_G_add_37 : decode prog_4_method_2_code 37 = .ok (.aload_n 0, 1) := by decide +kernel
theorem d_G_add_38 : decode prog_4_method_2_code 38 = .ok (.getfield 24, 3) := by decide +kernel
theorem d_G_add_41 : decode prog_4_method_2_code 41 = .ok (.iload_n 1, 1) := by decide +kernel
theorem d_G_add_42 : decode prog_4_method_2_code 42 = .ok (.iload_n 3, 1) := by decide +kernel
theorem d_G_add_43 : decode prog_4_method_2_code 43 = .ok (.iastore, 1) := by decide +kernel
theorem d_G_add_44 : decode prog_4_method_2_code 44 = .ok (.aload_n 0, 1) := by decide +kernel
theorem d_G_add_45 : decode prog_4_method_2_code 45 = .ok (.dup, 1) := by decide +kernel
theorem d_G_add_46 : decode prog_4_method_2_code 46 = .ok (.getfield 27, 3) := by decide +kernel
theorem d_G_add_49 : decode prog_4_method_2_code 49 = .ok (.iconst 1, 1) := by decide +kernel
theorem d_G_add_50 : decode prog_4_method_2_code 50 = .ok (.iadd, 1) := by decide +kernel
theorem d_G_add_51 : decode prog_4_method_2_code 51 = .ok (.putfield 27, 3) := by decide +kernel
theorem d_G_add_54 : decode prog_4_method_2_code 54 = .ok (.iload_n 3, 1) := by decide +kernel
theorem d_G_add_55 : decode prog_4_method_2_code 55 = .ok (.ireturn, 1) := by decide +kernel
theorem d_G_setEnd_0 : decode prog_4_method_3_code 0 = .ok (.aload_n 0, 1) := by decide +kernel
theorem d_G_setEnd_1 : decode prog_4_method_3_code 1 = .ok (.getfield 18, 3) := by decide +kernel
theorem d_G_setEnd_4 : decode prog_4_method_3_code 4 = .ok (.iload_n 1, 1) := by decide +kernel
theorem d_G_setEnd_5 : decode prog_4_method_3_code 5 = .ok (.iload_n 2, 1) := by decide +kernel
theorem d_G_setEnd_6 : decode prog_4_method_3_code 6 = .ok (.iastore, 1) := by decide +kernel
theorem d_G_setEnd_7 : decode prog_4_method_3_code 7 = .ok (.aload_n 0, 1) := by decide +kernel
theorem d_G_setEnd_8 : decode prog_4_method_3_code 8 = .ok (.getfield 21, 3) := by decide +kernel
theorem d_G_setEnd_11 : decode prog_4_method_3_code 11 = .ok (.iconst 2, 1) := by decide +kernel
theorem d_G_setEnd_12 : decode prog_4_method_3_code 12 = .ok (.iload_n 1, 1) := by decide +kernel
theorem d_G_setEnd_13 : decode prog_4_method_3_code 13 = .ok (.imul, 1) := by decide +kernel
theorem d_G_setEnd_14 : decode prog_4_method_3_code 14 = .ok (.iload_n 3, 1) := by decide +kernel
theorem d_G_setEnd_15 : decode prog_4_method_3_code 15 = .ok (.iastore, 1) := by decide +kernel
theorem d_G_setEnd_16 : decode prog_4_method_3_code 16 = .ok (.aload_n 0, 1) := by decide +kernel
theorem d_G_setEnd_17 : decode prog_4_method_3_code 17 = .ok (.getfield 21, 3) := by decide +kernel
theorem d_G_setEnd_20 : decode prog_4_method_3_code 20 = .ok (.iconst 2, 1) := by decide +kernel
theorem d_G_setEnd_21 : decode prog_4_method_3_code 21 = .ok (.iload_n 1, 1) := by decide +kernel
theorem d_G_setEnd_22 : decode prog_4_method_3_code 22 = .ok (.imul, 1) := by decide +kernel
theorem d_G_setEnd_23 : decode prog_4_method_3_code 23 = .ok (.iconst 1, 1) := by decide +kernel
theorem d_G_setEnd_24 : decode prog_4_method_3_code 24 = .ok (.iadd, 1) := by decide +kernel
theorem d_G_setEnd_25 : decode prog_4_method_3_code 25 = .ok (.iload 4, 2) := by decide +kernel
theorem d_G_setEnd_27 : decode prog_4_method_3_code 27 = .ok (.iastore, 1) := by decide +kernel
theorem d_G_setEnd_28 : decode prog_4_method_3_code 28 = .ok (.return_, 1) := by decide +kernel
theorem d_L_jump_0 : decode prog_1_method_3_code 0 = .ok (.aload_n 0, 1) := by decide +kernel
theorem d_L_jump_1 : decode prog_1_method_3_code 1 = .ok (.getfield 57, 3) := by decide +kernel
theorem d_L_jump_4 : decode prog_1_method_3_code 4 = .ok (.ifCond .ne 15, 3) := by decide +kernel
theorem d_L_jump_7 : decode prog_1_method_3_code 7 = .ok (.aload_n 0, 1) := by decide +kernel
theorem d_L_jump_8 : decode prog_1_method_3_code 8 = .ok (.getfield 25, 3) := by decide +kernel
theorem d_L_jump_11 : decode prog_1_method_3_code 11 = .ok (.iload_n 1, 1) := by decide +kernel
theorem d_L_jump_12 : decode prog_1_method_3_code 12 = .ok (.iload_n 2, 1) := by decide +kernel
theorem d_L_jump_13 : decode prog_1_method_3_code 13 = .ok (.invokevirtual 67, 3) := by decide +kernel
theorem d_L_jump_16 : decode prog_1_method_3_code 16 = .ok (.ifCond .ne 5, 3) := by decide +kernel
theorem d_L_jump_19 : decode prog_1_method_3_code 19 = .ok (.iconst (-1), 1) := by decide +kernel
theorem d_L_jump_20 : decode prog_1_method_3_code 20 = .ok (.ireturn, 1) := by decide +kernel
theorem d_L_jump_21 : decode prog_1_method_3_code 21 = .ok (.aload_n 0, 1) := by decide +kernel
theorem d_L_jump_22 : decode prog_1_method_3_code 22 = .ok (.getfield 25, 3) := by decide +kernel
theorem d_L_jump_25 : decode prog_1_method_3_code 25 = .ok (.iload_n 1, 1) := by decide +kernel
theorem d_L_jump_26 : decode prog_1_method_3_code 26 = .ok (.iconst 1, 1) := by decide +kernel
theorem d_L_jump_27 : decode prog_1_method_3_code 27 = .ok (.iload_n 2, 1) := by decide +kernel
theorem d_L_jump_28 : decode prog_1_method_3_code 28 = .ok (.iconst (-1), 1) := by decide +kernel
theorem d_L_jump_29 : decode prog_1_method_3_code 29 = .ok (.invokevirtual 71, 3) := by decide +kernel
theorem d_L_jump_32 : decode prog_1_method_3_code 32 = .ok (.aload_n 0, 1) := by decide +kernel
theorem d_L_jump_33 : decode prog_1_method_3_code 33 = .ok (.getfield 32, 3) := by decide +kernel
theorem d_L_jump_36 : decode prog_1_method_3_code 36 = .ok (.iload_n 1, 1) := by decide +kernel
theorem d_L_jump_37 : decode prog_1_method_3_code 37 = .ok (.invokevirtual 75, 3) := by decide +kernel
theorem d_L_jump_40 : decode prog_1_method_3_code 40 = .ok (.iconst 0, 1) := by decide +kernel
theorem d_L_jump_41 : decode prog_1_method_3_code 41 = .ok (.ireturn, 1) := by decide +kernel
theorem d_G_canLead_0 : decode prog_4_method_7_code 0 = .ok (.aload_n 0, 1) := by decide +kernel
theorem d_G_canLead_1 : decode prog_4_method_7_code 1 = .ok (.iload_n 1, 1) := by decide +kernel
theorem d_G_canLead_2 : decode prog_4_method_7_code 2 = .ok (.invokevirtual 41, 3) := by decide +kernel
theorem d_G_canLead_5 : decode prog_4_method_7_code 5 = .ok (.ifCond .eq 30, 3) := by decide +kernel
theorem d_G_canLead_8 : decode prog_4_method_7_code 8 = .ok (.aload_n 0, 1) := by decide +kernel
theorem d_G_canLead_9 : decode prog_4_method_7_code 9 = .ok (.iload_n 2, 1) := by decide +kernel
theorem d_G_canLead_10 : decode prog_4_method_7_code 10 = .ok (.invokevirtual 41, 3) := by decide +kernel
theorem d_G_canLead_13 : decode prog_4_method_7_code 13 = .ok (.ifCond .eq 22, 3) := by decide +kernel
theorem d_G_canLead_16 : decode prog_4_method_7_code 16 = .ok (.aload_n 0, 1) := by decide +kernel
theorem d_G_canLead_17 : decode prog_4_method_7_code 17 = .ok (.getfield 9, 3) := by decide +kernel
theorem d_G_canLead_20 : decode prog_4_method_7_code 20 = .ok (.iload_n 1, 1) := by decide +kernel
theorem d_G_canLead_21 : decode prog_4_method_7_code 21 = .ok (.iaload, 1) := by decide +kernel
theorem d_G_canLead_22 : decode prog_4_method_7_code 22 = .ok (.aload_n 0, 1) := by decide +kernel
theorem d_G_canLead_23 : decode prog_4_method_7_code 23 = .ok (.getfield 9, 3) := by decide +kernel
theorem d_G_canLead_26 : decode prog_4_method_7_code 26 = .ok (.iload_n 2, 1) := by decide +kernel
theorem d_G_canLead_27 : decode prog_4_method_7_code 27 = .ok (.iaload, 1) := by decide +kernel
theorem d_G_canLead_28 : decode prog_4_method_7_code 28 = .ok (.if_icmp .ne 7, 3) := by decide +kernel
theorem d_G_canLead_31 : decode prog_4_method_7_code 31 = .ok (.iconst 1, 1) := by decide +kernel
theorem d_G_canLead_32 : decode prog_4_method_7_code 32 = .ok (.goto 4, 3) := by decide +kernel
theorem d_G_canLead_35 : decode prog_4_method_7_code 35 = .ok (.iconst 0, 1) := by decide +kernel
theorem d_G_canLead_36 : decode prog_4_method_7_code 36 = .ok (.ireturn, 1) := by decide +kernel
theorem d_G_has_0 : decode prog_4_method_4_code 0 = .ok (.iload_n 1, 1) := by decide +kernel
theorem d_G_has_1 : decode prog_4_method_4_code 1 = .ok (.ifCond .lt 15, 3) := by decide +kernel
theorem d_G_has_4 : decode prog_4_method_4_code 4 = .ok (.iload_n 1, 1) := by decide +kernel
theorem d_G_has_5 : decode prog_4_method_4_code 5 = .ok (.aload_n 0, 1) := by decide +kernel
theorem d_G_has_6 : decode prog_4_method_4_code 6 = .ok (.getfield 27, 3) := by decide +kernel
theorem d_G_has_9 : decode prog_4_method_4_code 9 = .ok (.if_icmp .ge 7, 3) := by decide +kernel
theorem d_G_has_12 : decode prog_4_method_4_code 12 = .ok (.iconst 1, 1) := by decide +kernel
theorem d_G_has_13 : decode prog_4_method_4_code 13 = .ok (.goto 4, 3) := by decide +kernel
theorem d_G_has_16 : decode prog_4_method_4_code 16 = .ok (.iconst 0, 1) := by decide +kernel
theorem d_G_has_17 : decode prog_4_method_4_code 17 = .ok (.ireturn, 1) := by decide +kernel
theorem d_N_clearEdges_0 : decode prog_3_method_5_code 0 = .ok (.aload_n 0, 1) := by decide +kernel
theorem d_N_clearEdges_1 : decode prog_3_method_5_code 1 = .ok (.getfield 15, 3) := by decide +kernel
theorem d_N_clearEdges_4 : decode prog_3_method_5_code 4 = .ok (.iconst 2, 1) := by decide +kernel
theorem d_N_clearEdges_5 : decode prog_3_method_5_code 5 = .ok (.iload_n 1, 1) := by decide +kernel
theorem d_N_clearEdges_6 : decode prog_3_method_5_code 6 = .ok (.imul, 1) := by decide +kernel
theorem d_N_clearEdges_7 : decode prog_3_method_5_code 7 = .ok (.iconst 0, 1) := by decide +kernel
theorem d_N_clearEdges_8 : decode prog_3_method_5_code 8 = .ok (.iastore, 1) := by decide +kernel
theorem d_N_clearEdges_9 : decode prog_3_method_5_code 9 = .ok (.aload_n 0, 1) := by decide +kernel
theorem d_N_clearEdges_10 : decode prog_3_method_5_code 10 = .ok (.getfield 15, 3) := by decide +kernel
theorem d_N_clearEdges_13 : decode prog_3_method_5_code 13 = .ok (.iconst 2, 1) := by decide +kernel
theorem d_N_clearEdges_14 : decode prog_3_method_5_code 14 = .ok (.iload_n 1, 1) := by decide +kernel
theorem d_N_clearEdges_15 : decode prog_3_method_5_code 15 = .ok (.imul, 1) := by decide +kernel
theorem d_N_clearEdges_16 : decode prog_3_method_5_code 16 = .ok (.iconst 1, 1) := by decide +kernel
theorem d_N_clearEdges_17 : decode prog_3_method_5_code 17 = .ok (.iadd, 1) := by decide +kernel
theorem d_N_clearEdges_18 : decode prog_3_method_5_code 18 = .ok (.iconst 0, 1) := by decide +kernel
theorem d_N_clearEdges_19 : decode prog_3_method_5_code 19 = .ok (.iastore, 1) := by decide +kernel
theorem d_N_clearEdges_20 : decode prog_3_method_5_code 20 = .ok (.return_, 1) := by decide +kernel
theorem d_L_test_0 : decode prog_1_method_4_code 0 = .ok (.aload_n 0, 1) := by decide +kernel
theorem d_L_test_1 : decode prog_1_method_4_code 1 = .ok (.getfield 57, 3) := by decide +kernel
theorem d_L_test_4 : decode prog_1_method_4_code 4 = .ok (.ifCond .ne 27, 3) := by decide +kernel
theorem d_L_test_7 : decode prog_1_method_4_code 7 = .ok (.aload_n 0, 1) := by decide +kernel
theorem d_L_test_8 : decode prog_1_method_4_code 8 = .ok (.getfield 25, 3) := by decide +kernel
theorem d_L_test_11 : decode prog_1_method_4_code 11 = .ok (.iload_n 1, 1) := by decide +kernel
theorem d_L_test_12 : decode prog_1_method_4_code 12 = .ok (.iload_n 2, 1) := by decide +kernel
theorem d_L_test_13 : decode prog_1_method_4_code 13 = .ok (.invokevirtual 67, 3) := by decide +kernel
theorem d_L_test_16 : decode prog_1_method_4_code 16 = .ok (.ifCond .eq 15, 3) := by decide +kernel
theorem d_L_test_19 : decode prog_1_method_4_code 19 = .ok (.aload_n 0, 1) := by decide +kernel
theorem d_L_test_20 : decode prog_1_method_4_code 20 = .ok (.getfield 25, 3) := by decide +kernel
theorem d_L_test_23 : decode prog_1_method_4_code 23 = .ok (.iload_n 1, 1) := by decide +kernel
theorem d_L_test_24 : decode prog_1_method_4_code 24 = .ok (.iload_n 3, 1) := by decide +kernel
theorem d_L_test_25 : decode prog_1_method_4_code 25 = .ok (.invokevirtual 67, 3) := by decide +kernel
theorem d_L_test_28 : decode prog_1_method_4_code 28 = .ok (.ifCond .ne 5, 3) := by decide +kernel
theorem d_L_test_31 : decode prog_1_method_4_code 31 = .ok (.iconst (-1), 1) := by decide +kernel
theorem d_L_test_32 : decode prog_1_method_4_code 32 = .ok (.ireturn, 1) := by decide +kernel
theorem d_L_test_33 : decode prog_1_method_4_code 33 = .ok (.aload_n 0, 1) := by decide +kernel
theorem d_L_test_34 : decode prog_1_method_4_code 34 = .ok (.getfield 25, 3) := by decide +kernel
theorem d_L_test_37 : decode prog_1_method_4_code 37 = .ok (.iload_n 1, 1) := by decide +kernel
theorem d_L_test_38 : decode prog_1_method_4_code 38 = .ok (.iconst 2, 1) := by decide +kernel
theorem d_L_test_39 : decode prog_1_method_4_code 39 = .ok (.iload_n 2, 1) := by decide +kernel
theorem d_L_test_40 : decode prog_1_method_4_code 40 = .ok (.iload_n 3, 1) := by decide +kernel
theorem d_L_test_41 : decode prog_1_method_4_code 41 = .ok (.invokevirtual 71, 3) := by decide +kernel
theorem d_L_test_44 : decode prog_1_method_4_code 44 = .ok (.aload_n 0, 1) := by decide +kernel
theorem d_L_test_45 : decode prog_1_method_4_code 45 = .ok (.getfield 32, 3) := by decide +kernel
theorem d_L_test_48 : decode prog_1_method_4_code 48 = .ok (.iload_n 1, 1) := by decide +kernel
theorem d_L_test_49 : decode prog_1_method_4_code 49 = .ok (.invokevirtual 75, 3) := by decide +kernel
theorem d_L_test_52 : decode prog_1_method_4_code 52 = .ok (.iconst 0, 1) := by decide +kernel
theorem d_L_test_53 : decode prog_1_method_4_code 53 = .ok (.ireturn, 1) := by decide +kernel
theorem d_L_walk_0 : decode prog_1_method_5_code 0 = .ok (.aload_n 0, 1) := by decide +kernel
theorem d_L_walk_1 : decode prog_1_method_5_code 1 = .ok (.getfield 25, 3) := by decide +kernel
theorem d_L_walk_4 : decode prog_1_method_5_code 4 = .ok (.iload_n 1, 1) := by decide +kernel
theorem d_L_walk_5 : decode prog_1_method_5_code 5 = .ok (.invokevirtual 79, 3) := by decide +kernel
theorem d_L_walk_8 : decode prog_1_method_5_code 8 = .ok (.ifCond .ne 5, 3) := by decide +kernel
theorem d_L_walk_11 : decode prog_1_method_5_code 11 = .ok (.iconst (-1), 1) := by decide +kernel
theorem d_L_walk_12 : decode prog_1_method_5_code 12 = .ok (.ireturn, 1) := by decide +kernel
theorem d_L_walk_13 : decode prog_1_method_5_code 13 = .ok (.aload_n 0, 1) := by decide +kernel
theorem d_L_walk_14 : decode prog_1_method_5_code 14 = .ok (.getfield 39, 3) := by decide +kernel
theorem d_L_walk_17 : decode prog_1_method_5_code 17 = .ok (.aload_n 0, 1) := by decide +kernel
theorem d_L_walk_18 : decode prog_1_method_5_code 18 = .ok (.getfield 25, 3) := by decide +kernel
theorem d_L_walk_21 : decode prog_1_method_5_code 21 = .ok (.iload_n 1, 1) := by decide +kernel
theorem d_L_walk_22 : decode prog_1_method_5_code 22 = .ok (.iload_n 2, 1) := by decide +kernel
theorem d_L_walk_23 : decode prog_1_method_5_code 23 = .ok (.invokevirtual 83, 3) := by decide +kernel
theorem d_L_walk_26 : decode prog_1_method_5_code 26 = .ok (.aload_n 0, 1) := by decide +kernel
theorem d_L_walk_27 : decode prog_1_method_5_code 27 = .ok (.getfield 32, 3) := by decide +kernel
theorem d_L_walk_30 : decode prog_1_method_5_code 30 = .ok (.aload_n 0, 1) := by decide +kernel
theorem d_L_walk_31 : decode prog_1_method_5_code 31 = .ok (.getfield 39, 3) := by decide +kernel
theorem d_L_walk_34 : decode prog_1_method_5_code 34 = .ok (.invokevirtual 87, 3) := by decide +kernel
theorem d_L_walk_37 : decode prog_1_method_5_code 37 = .ok (.aload_n 0, 1) := by decide +kernel
theorem d_L_walk_38 : decode prog_1_method_5_code 38 = .ok (.getfield 39, 3) := by decide +kernel
theorem d_L_walk_41 : decode prog_1_method_5_code 41 = .ok (.getfield 91, 3) := by decide +kernel
theorem d_L_walk_44 : decode prog_1_method_5_code 44 = .ok (.ireturn, 1) := by decide +kernel
theorem d_G_hasEntry_0 : decode prog_4_method_6_code 0 = .ok (.iload_n 1, 1) := by decide +kernel
theorem d_G_hasEntry_1 : decode prog_4_method_6_code 1 = .ok (.ifCond .lt 22, 3) := by decide +kernel
theorem d_G_hasEntry_4 : decode prog_4_method_6_code 4 = .ok (.iload_n 1, 1) := by decide +kernel
theorem d_G_hasEntry_5 : decode prog_4_method_6_code 5 = .ok (.iconst 4, 1) := by decide +kernel
theorem d_G_hasEntry_6 : decode prog_4_method_6_code 6 = .ok (.if_icmp .ge 17, 3) := by decide +kernel
theorem d_G_hasEntry_9 : decode prog_4_method_6_code 9 = .ok (.aload_n 0, 1) := by decide +kernel
theorem d_G_hasEntry_10 : decode prog_4_method_6_code 10 = .ok (.getfield 24, 3) := by decide +kernel
theorem d_G_hasEntry_13 : decode prog_4_method_6_code 13 = .ok (.iload_n 1, 1) := by decide +kernel
theorem d_G_hasEntry_14 : decode prog_4_method_6_code 14 = .ok (.iaload, 1) := by decide +kernel
theorem d_G_hasEntry_15 : decode prog_4_method_6_code 15 = .ok (.iconst (-1), 1) := by decide +kernel
theorem d_G_hasEntry_16 : decode prog_4_method_6_code 16 = .ok (.if_icmp .eq 7, 3) := by decide +kernel
theorem d_G_hasEntry_19 : decode prog_4_method_6_code 19 = .ok (.iconst 1, 1) := by decide +kernel
theorem d_G_hasEntry_20 : decode prog_4_method_6_code 20 = .ok (.goto 4, 3) := by decide +kernel
theorem d_G_hasEntry_23 : decode prog_4_method_6_code 23 = .ok (.iconst 0, 1) := by decide +kernel
theorem d_G_hasEntry_24 : decode prog_4_method_6_code 24 = .ok (.ireturn, 1) := by decide +kernel
theorem d_T_follow_0 : decode prog_6_method_2_code 0 = .ok (.iconst 0, 1) := by decide +kernel
theorem d_T_follow_1 : decode prog_6_method_2_code 1 = .ok (.istore 4, 2) := by decide +kernel
theorem d_T_follow_3 : decode prog_6_method_2_code 3 = .ok (.aload_n 1, 1) := by decide +kernel
theorem d_T_follow_4 : decode prog_6_method_2_code 4 = .ok (.getfield 22, 3) := by decide +kernel
theorem d_T_follow_7 : decode prog_6_method_2_code 7 = .ok (.iload_n 2, 1) := by decide +kernel
theorem d_T_follow_8 : decode prog_6_method_2_code 8 = .ok (.iaload, 1) := by decide +kernel
theorem d_T_follow_9 : decode prog_6_method_2_code 9 = .ok (.istore 5, 2) := by decide +kernel
theorem d_T_follow_11 : decode prog_6_method_2_code 11 = .ok (.aload_n 0, 1) := by decide +kernel
theorem d_T_follow_12 : decode prog_6_method_2_code 12 = .ok (.iconst 0, 1) := by decide +kernel
theorem d_T_follow_13 : decode prog_6_method_2_code 13 = .ok (.putfield 18, 3) := by decide +kernel
theorem d_T_follow_16 : decode prog_6_method_2_code 16 = .ok (.aload_n 0, 1) := by decide +kernel
theorem d_T_follow_17 : decode prog_6_method_2_code 17 = .ok (.getfield 18, 3) := by decide +kernel
theorem d_T_follow_20 : decode prog_6_method_2_code 20 = .ok (.bipush 60, 2) := by decide +kernel
theorem d_T_follow_22 : decode prog_6_method_2_code 22 = .ok (.if_icmp .ge 91, 3) := by decide +kernel
theorem d_T_follow_25 : decode prog_6_method_2_code 25 = .ok (.iload 5, 2) := by decide +kernel
theorem d_T_follow_27 : decode prog_6_method_2_code 27 = .ok (.iconst (-1), 1) := by decide +kernel
theorem d_T_follow_28 : decode prog_6_method_2_code 28 = .ok (.if_icmp .eq 85, 3) := by decide +kernel
theorem d_T_follow_31 : decode prog_6_method_2_code 31 = .ok (.iconst 0, 1) := by decide +kernel
theorem d_T_follow_32 : decode prog_6_method_2_code 32 = .ok (.istore 6, 2) := by decide +kernel
theorem d_T_follow_34 : decode prog_6_method_2_code 34 = .ok (.aload_n 1, 1) := by decide +kernel
theorem d_T_follow_35 : decode prog_6_method_2_code 35 = .ok (.getfield 27, 3) := by decide +kernel
theorem d_T_follow_38 : decode prog_6_method_2_code 38 = .ok (.iload 5, 2) := by decide +kernel
theorem d_T_follow_40 : decode prog_6_method_2_code 40 = .ok (.iaload, 1) := by decide +kernel
theorem d_T_follow_41 : decode prog_6_method_2_code 41 = .ok (.iconst 2, 1) := by decide +kernel
theorem d_T_follow_42 : decode prog_6_method_2_code 42 = .ok (.if_icmp .ne 22, 3) := by decide +kernel
theorem d_T_follow_45 : decode prog_6_method_2_code 45 = .ok (.iload 4, 2) := by decide +kernel
theorem d_T_follow_47 : decode prog_6_method_2_code 47 = .ok (.iload_n 3, 1) := by decide +kernel
theorem d_T_follow_48 : decode prog_6_method_2_code 48 = .ok (.invokestatic 30, 3) := by decide +kernel
theorem d_T_follow_51 : decode prog_6_method_2_code 51 = .ok (.ifCond .eq 7, 3) := by decide +kernel
theorem d_T_follow_54 : decode prog_6_method_2_code 54 = .ok (.iconst 0, 1) := by decide +kernel
theorem d_T_follow_55 : decode prog_6_method_2_code 55 = .ok (.goto 4, 3) := by decide +kernel
theorem d_T_follow_58 : decode prog_6_method_2_code 58 = .ok (.iconst 1, 1) := by decide +kernel
theorem d_T_follow_59 : decode prog_6_method_2_code 59 = .ok (.istore 6, 2) := by decide +kernel
theorem d_T_follow_61 : decode prog_6_method_2_code 61 = .ok (.iinc 4 1, 3) := by decide +kernel
theorem d_T_follow_64 : decode prog_6_method_2_code 64 = .ok (.aload_n 0, 1) := by decide +kernel
theorem d_T_follow_65 : decode prog_6_method_2_code 65 = .ok (.getfield 9, 3) := by decide +kernel
theorem d_T_follow_68 : decode prog_6_method_2_code 68 = .ok (.aload_n 0, 1) := by decide +kernel
theorem d_T_follow_69 : decode prog_6_method_2_code 69 = .ok (.getfield 18, 3) := by decide +kernel
theorem d_T_follow_72 : decode prog_6_method_2_code 72 = .ok (.iload 5, 2) := by decide +kernel
theorem d_T_follow_74 : decode prog_6_method_2_code 74 = .ok (.iastore, 1) := by decide +kernel
theorem d_T_follow_75 : decode prog_6_method_2_code 75 = .ok (.aload_n 0, 1) := by decide +kernel
theorem d_T_follow_76 : decode prog_6_method_2_code 76 = .ok (.getfield 15, 3) := by decide +kernel
theorem d_T_follow_79 : decode prog_6_method_2_code 79 = .ok (.aload_n 0, 1) := by decide +kernel
theorem d_T_follow_80 : decode prog_6_method_2_code 80 = .ok (.getfield 18, 3) := by decide +kernel
theorem d_T_follow_83 : decode prog_6_method_2_code 83 = .ok (.iload 6, 2) := by decide +kernel
theorem d_T_follow_85 : decode prog_6_method_2_code 85 = .ok (.iastore, 1) := by decide +kernel
theorem d_T_follow_86 : decode prog_6_method_2_code 86 = .ok (.aload_n 0, 1) := by decide +kernel
theorem d_T_follow_87 : decode prog_6_method_2_code 87 = .ok (.dup, 1) := by decide +kernel
theorem d_T_follow_88 : decode prog_6_method_2_code 88 = .ok (.getfield 18, 3) := by decide +kernel
theorem d_T_follow_91 : decode prog_6_method_2_code 91 = .ok (.iconst 1, 1) := by decide +kernel
theorem d_T_follow_92 : decode prog_6_method_2_code 92 = .ok (.iadd, 1) := by decide +kernel
theorem d_T_follow_93 : decode prog_6_method_2_code 93 = .ok (.putfield 18, 3) := by decide +kernel
theorem d_T_follow_96 : decode prog_6_method_2_code 96 = .ok (.aload_n 1, 1) := by decide +kernel
theorem d_T_follow_97 : decode prog_6_method_2_code 97 = .ok (.getfield 34, 3) := by decide +kernel
theorem d_T_follow_100 : decode prog_6_method_2_code 100 = .ok (.iconst 2, 1) := by decide +kernel
theorem d_T_follow_101 : decode prog_6_method_2_code 101 = .ok (.iload 5, 2) := by decide +kernel
theorem d_T_follow_103 : decode prog_6_method_2_code 103 = .ok (.imul, 1) := by decide +kernel
theorem d_T_follow_104 : decode prog_6_method_2_code 104 = .ok (.iload 6, 2) := by decide +kernel
theorem d_T_follow_106 : decode prog_6_method_2_code 106 = .ok (.iadd, 1) := by decide +kernel
theorem d_T_follow_107 : decode prog_6_method_2_code 107 = .ok (.iaload, 1) := by decide +kernel
theorem d_T_follow_108 : decode prog_6_method_2_code 108 = .ok (.istore 5, 2) := by decide +kernel
theorem d_T_follow_110 : decode prog_6_method_2_code 110 = .ok (.goto (-94), 3) := by decide +kernel
theorem d_T_follow_113 : decode prog_6_method_2_code 113 = .ok (.return_, 1) := by decide +kernel
theorem d_T_holdsAt_0 : decode prog_6_method_3_code 0 = .ok (.iload_n 0, 1) := by decide +kernel
theorem d_T_holdsAt_1 : decode prog_6_method_3_code 1 = .ok (.bipush 32, 2) := by decide +kernel
theorem d_T_holdsAt_3 : decode prog_6_method_3_code 3 = .ok (.if_icmp .ge 16, 3) := by decide +kernel
theorem d_T_holdsAt_6 : decode prog_6_method_3_code 6 = .ok (.iload_n 1, 1) := by decide +kernel
theorem d_T_holdsAt_7 : decode prog_6_method_3_code 7 = .ok (.iload_n 0, 1) := by decide +kernel
theorem d_T_holdsAt_8 : decode prog_6_method_3_code 8 = .ok (.iushr, 1) := by decide +kernel
theorem d_T_holdsAt_9 : decode prog_6_method_3_code 9 = .ok (.iconst 1, 1) := by decide +kernel
theorem d_T_holdsAt_10 : decode prog_6_method_3_code 10 = .ok (.iand, 1) := by decide +kernel
theorem d_T_holdsAt_11 : decode prog_6_method_3_code 11 = .ok (.iconst 1, 1) := by decide +kernel
theorem d_T_holdsAt_12 : decode prog_6_method_3_code 12 = .ok (.if_icmp .ne 7, 3) := by decide +kernel
theorem d_T_holdsAt_15 : decode prog_6_method_3_code 15 = .ok (.iconst 1, 1) := by decide +kernel
theorem d_T_holdsAt_16 : decode prog_6_method_3_code 16 = .ok (.goto 4, 3) := by decide +kernel
theorem d_T_holdsAt_19 : decode prog_6_method_3_code 19 = .ok (.iconst 0, 1) := by decide +kernel
theorem d_T_holdsAt_20 : decode prog_6_method_3_code 20 = .ok (.ireturn, 1) := by decide +kernel
theorem d_N_addTrail_0 : decode prog_3_method_4_code 0 = .ok (.iconst 0, 1) := by decide +kernel
theorem d_N_addTrail_1 : decode prog_3_method_4_code 1 = .ok (.istore_n 2, 1) := by decide +kernel
theorem d_N_addTrail_2 : decode prog_3_method_4_code 2 = .ok (.iload_n 2, 1) := by decide +kernel
theorem d_N_addTrail_3 : decode prog_3_method_4_code 3 = .ok (.aload_n 1, 1) := by decide +kernel
theorem d_N_addTrail_4 : decode prog_3_method_4_code 4 = .ok (.getfield 25, 3) := by decide +kernel
theorem d_N_addTrail_7 : decode prog_3_method_4_code 7 = .ok (.if_icmp .ge 50, 3) := by decide +kernel
theorem d_N_addTrail_10 : decode prog_3_method_4_code 10 = .ok (.aload_n 0, 1) := by decide +kernel
theorem d_N_addTrail_11 : decode prog_3_method_4_code 11 = .ok (.aload_n 1, 1) := by decide +kernel
theorem d_N_addTrail_12 : decode prog_3_method_4_code 12 = .ok (.getfield 31, 3) := by decide +kernel
theorem d_N_addTrail_15 : decode prog_3_method_4_code 15 = .ok (.iload_n 2, 1) := by decide +kernel
theorem d_N_addTrail_16 : decode prog_3_method_4_code 16 = .ok (.iaload, 1) := by decide +kernel
theorem d_N_addTrail_17 : decode prog_3_method_4_code 17 = .ok (.iconst 1, 1) := by decide +kernel
theorem d_N_addTrail_18 : decode prog_3_method_4_code 18 = .ok (.invokevirtual 34, 3) := by decide +kernel
theorem d_N_addTrail_21 : decode prog_3_method_4_code 21 = .ok (.iload_n 2, 1) := by decide +kernel
theorem d_N_addTrail_22 : decode prog_3_method_4_code 22 = .ok (.iconst 1, 1) := by decide +kernel
theorem d_N_addTrail_23 : decode prog_3_method_4_code 23 = .ok (.iadd, 1) := by decide +kernel
theorem d_N_addTrail_24 : decode prog_3_method_4_code 24 = .ok (.aload_n 1, 1) := by decide +kernel
theorem d_N_addTrail_25 : decode prog_3_method_4_code 25 = .ok (.getfield 25, 3) := by decide +kernel
theorem d_N_addTrail_28 : decode prog_3_method_4_code 28 = .ok (.if_icmp .ge 23, 3) := by decide +kernel
theorem d_N_addTrail_31 : decode prog_3_method_4_code 31 = .ok (.aload_n 0, 1) := by decide +kernel
theorem d_N_addTrail_32 : decode prog_3_method_4_code 32 = .ok (.iconst 2, 1) := by decide +kernel
theorem d_N_addTrail_33 : decode prog_3_method_4_code 33 = .ok (.aload_n 1, 1) := by decide +kernel
theorem d_N_addTrail_34 : decode prog_3_method_4_code 34 = .ok (.getfield 31, 3) := by decide +kernel
theorem d_N_addTrail_37 : decode prog_3_method_4_code 37 = .ok (.iload_n 2, 1) := by decide +kernel
theorem d_N_addTrail_38 : decode prog_3_method_4_code 38 = .ok (.iaload, 1) := by decide +kernel
theorem d_N_addTrail_39 : decode prog_3_method_4_code 39 = .ok (.imul, 1) := by decide +kernel
theorem d_N_addTrail_40 : decode prog_3_method_4_code 40 = .ok (.aload_n 1, 1) := by decide +kernel
theorem d_N_addTrail_41 : decode prog_3_method_4_code 41 = .ok (.getfield 38, 3) := by decide +kernel
theorem d_N_addTrail_44 : decode prog_3_method_4_code 44 = .ok (.iload_n 2, 1) := by decide +kernel
theorem d_N_addTrail_45 : decode prog_3_method_4_code 45 = .ok (.iaload, 1) := by decide +kernel
theorem d_N_addTrail_46 : decode prog_3_method_4_code 46 = .ok (.iadd, 1) := by decide +kernel
theorem d_N_addTrail_47 : decode prog_3_method_4_code 47 = .ok (.iconst 1, 1) := by decide +kernel
theorem d_N_addTrail_48 : decode prog_3_method_4_code 48 = .ok (.invokevirtual 41, 3) := by decide +kernel
theorem d_N_addTrail_51 : decode prog_3_method_4_code 51 = .ok (.iinc 2 1, 3) := by decide +kernel
theorem d_N_addTrail_54 : decode prog_3_method_4_code 54 = .ok (.goto (-52), 3) := by decide +kernel
theorem d_N_addTrail_57 : decode prog_3_method_4_code 57 = .ok (.return_, 1) := by decide +kernel
theorem d_N_addToBlock_0 : decode prog_3_method_2_code 0 = .ok (.aload_n 0, 1) := by decide +kernel
theorem d_N_addToBlock_1 : decode prog_3_method_2_code 1 = .ok (.getfield 9, 3) := by decide +kernel
theorem d_N_addToBlock_4 : decode prog_3_method_2_code 4 = .ok (.iload_n 1, 1) := by decide +kernel
theorem d_N_addToBlock_5 : decode prog_3_method_2_code 5 = .ok (.ldc 18, 2) := by decide +kernel
theorem d_N_addToBlock_7 : decode prog_3_method_2_code 7 = .ok (.aload_n 0, 1) := by decide +kernel
theorem d_N_addToBlock_8 : decode prog_3_method_2_code 8 = .ok (.getfield 9, 3) := by decide +kernel
theorem d_N_addToBlock_11 : decode prog_3_method_2_code 11 = .ok (.iload_n 1, 1) := by decide +kernel
theorem d_N_addToBlock_12 : decode prog_3_method_2_code 12 = .ok (.iaload, 1) := by decide +kernel
theorem d_N_addToBlock_13 : decode prog_3_method_2_code 13 = .ok (.iload_n 2, 1) := by decide +kernel
theorem d_N_addToBlock_14 : decode prog_3_method_2_code 14 = .ok (.iadd, 1) := by decide +kernel
theorem d_N_addToBlock_15 : decode prog_3_method_2_code 15 = .ok (.invokestatic 19, 3) := by decide +kernel
theorem d_N_addToBlock_18 : decode prog_3_method_2_code 18 = .ok (.iastore, 1) := by decide +kernel
theorem d_N_addToBlock_19 : decode prog_3_method_2_code 19 = .ok (.return_, 1) := by decide +kernel
theorem d_N_addToEdge_0 : decode prog_3_method_3_code 0 = .ok (.aload_n 0, 1) := by decide +kernel
theorem d_N_addToEdge_1 : decode prog_3_method_3_code 1 = .ok (.getfield 15, 3) := by decide +kernel
theorem d_N_addToEdge_4 : decode prog_3_method_3_code 4 = .ok (.iload_n 1, 1) := by decide +kernel
theorem d_N_addToEdge_5 : decode prog_3_method_3_code 5 = .ok (.ldc 18, 2) := by decide +kernel
theorem d_N_addToEdge_7 : decode prog_3_method_3_code 7 = .ok (.aload_n 0, 1) := by decide +kernel
theorem d_N_addToEdge_8 : decode prog_3_method_3_code 8 = .ok (.getfield 15, 3) := by decide +kernel
theorem d_N_addToEdge_11 : decode prog_3_method_3_code 11 = .ok (.iload_n 1, 1) := by decide +kernel
theorem d_N_addToEdge_12 : decode prog_3_method_3_code 12 = .ok (.iaload, 1) := by decide +kernel
theorem d_N_addToEdge_13 : decode prog_3_method_3_code 13 = .ok (.iload_n 2, 1) := by decide +kernel
theorem d_N_addToEdge_14 : decode prog_3_method_3_code 14 = .ok (.iadd, 1) := by decide +kernel
theorem d_N_addToEdge_15 : decode prog_3_method_3_code 15 = .ok (.invokestatic 19, 3) := by decide +kernel
theorem d_N_addToEdge_18 : decode prog_3_method_3_code 18 = .ok (.iastore, 1) := by decide +kernel
theorem d_N_addToEdge_19 : decode prog_3_method_3_code 19 = .ok (.return_, 1) := by decide +kernel
theorem d_L_heat_0 : decode prog_1_method_6_code 0 = .ok (.iload_n 3, 1) := by decide +kernel
theorem d_L_heat_1 : decode prog_1_method_6_code 1 = .ok (.iconst 1, 1) := by decide +kernel
theorem d_L_heat_2 : decode prog_1_method_6_code 2 = .ok (.if_icmp .lt 21, 3) := by decide +kernel
theorem d_L_heat_5 : decode prog_1_method_6_code 5 = .ok (.iload_n 3, 1) := by decide +kernel
theorem d_L_heat_6 : decode prog_1_method_6_code 6 = .ok (.ldc 92, 2) := by decide +kernel
theorem d_L_heat_8 : decode prog_1_method_6_code 8 = .ok (.if_icmp .gt 15, 3) := by decide +kernel
theorem d_L_heat_11 : decode prog_1_method_6_code 11 = .ok (.aload_n 0, 1) := by decide +kernel
theorem d_L_heat_12 : decode prog_1_method_6_code 12 = .ok (.getfield 25, 3) := by decide +kernel
theorem d_L_heat_15 : decode prog_1_method_6_code 15 = .ok (.iload_n 1, 1) := by decide +kernel
theorem d_L_heat_16 : decode prog_1_method_6_code 16 = .ok (.iload_n 2, 1) := by decide +kernel
theorem d_L_heat_17 : decode prog_1_method_6_code 17 = .ok (.invokevirtual 93, 3) := by decide +kernel
theorem d_L_heat_20 : decode prog_1_method_6_code 20 = .ok (.ifCond .ne 5, 3) := by decide +kernel
theorem d_L_heat_23 : decode prog_1_method_6_code 23 = .ok (.iconst (-1), 1) := by decide +kernel
theorem d_L_heat_24 : decode prog_1_method_6_code 24 = .ok (.ireturn, 1) := by decide +kernel
theorem d_L_heat_25 : decode prog_1_method_6_code 25 = .ok (.iconst 2, 1) := by decide +kernel
theorem d_L_heat_26 : decode prog_1_method_6_code 26 = .ok (.iload_n 1, 1) := by decide +kernel
theorem d_L_heat_27 : decode prog_1_method_6_code 27 = .ok (.imul, 1) := by decide +kernel
theorem d_L_heat_28 : decode prog_1_method_6_code 28 = .ok (.iload_n 2, 1) := by decide +kernel
theorem d_L_heat_29 : decode prog_1_method_6_code 29 = .ok (.iadd, 1) := by decide +kernel
theorem d_L_heat_30 : decode prog_1_method_6_code 30 = .ok (.istore 4, 2) := by decide +kernel
theorem d_L_heat_32 : decode prog_1_method_6_code 32 = .ok (.aload_n 0, 1) := by decide +kernel
theorem d_L_heat_33 : decode prog_1_method_6_code 33 = .ok (.getfield 32, 3) := by decide +kernel
theorem d_L_heat_36 : decode prog_1_method_6_code 36 = .ok (.iload 4, 2) := by decide +kernel
theorem d_L_heat_38 : decode prog_1_method_6_code 38 = .ok (.iload_n 3, 1) := by decide +kernel
theorem d_L_heat_39 : decode prog_1_method_6_code 39 = .ok (.invokevirtual 96, 3) := by decide +kernel
theorem d_L_heat_42 : decode prog_1_method_6_code 42 = .ok (.aload_n 0, 1) := by decide +kernel
theorem d_L_heat_43 : decode prog_1_method_6_code 43 = .ok (.getfield 32, 3) := by decide +kernel
theorem d_L_heat_46 : decode prog_1_method_6_code 46 = .ok (.aload_n 0, 1) := by decide +kernel
theorem d_L_heat_47 : decode prog_1_method_6_code 47 = .ok (.getfield 25, 3) := by decide +kernel
theorem d_L_heat_50 : decode prog_1_method_6_code 50 = .ok (.getfield 100, 3) := by decide +kernel
theorem d_L_heat_53 : decode prog_1_method_6_code 53 = .ok (.iload 4, 2) := by decide +kernel
theorem d_L_heat_55 : decode prog_1_method_6_code 55 = .ok (.iaload, 1) := by decide +kernel
theorem d_L_heat_56 : decode prog_1_method_6_code 56 = .ok (.iload_n 3, 1) := by decide +kernel
theorem d_L_heat_57 : decode prog_1_method_6_code 57 = .ok (.invokevirtual 104, 3) := by decide +kernel
theorem d_L_heat_60 : decode prog_1_method_6_code 60 = .ok (.aload_n 0, 1) := by decide +kernel
theorem d_L_heat_61 : decode prog_1_method_6_code 61 = .ok (.getfield 32, 3) := by decide +kernel
theorem d_L_heat_64 : decode prog_1_method_6_code 64 = .ok (.getfield 107, 3) := by decide +kernel
theorem d_L_heat_67 : decode prog_1_method_6_code 67 = .ok (.iload 4, 2) := by decide +kernel
theorem d_L_heat_69 : decode prog_1_method_6_code 69 = .ok (.iaload, 1) := by decide +kernel
theorem d_L_heat_70 : decode prog_1_method_6_code 70 = .ok (.ireturn, 1) := by decide +kernel
theorem d_G_hasEdge_0 : decode prog_4_method_5_code 0 = .ok (.aload_n 0, 1) := by decide +kernel
theorem d_G_hasEdge_1 : decode prog_4_method_5_code 1 = .ok (.iload_n 1, 1) := by decide +kernel
theorem d_G_hasEdge_2 : decode prog_4_method_5_code 2 = .ok (.invokevirtual 41, 3) := by decide +kernel
theorem d_G_hasEdge_5 : decode prog_4_method_5_code 5 = .ok (.ifCond .eq 21, 3) := by decide +kernel
theorem d_G_hasEdge_8 : decode prog_4_method_5_code 8 = .ok (.iload_n 2, 1) := by decide +kernel
theorem d_G_hasEdge_9 : decode prog_4_method_5_code 9 = .ok (.ifCond .lt 17, 3) := by decide +kernel
theorem d_G_hasEdge_12 : decode prog_4_method_5_code 12 = .ok (.iload_n 2, 1) := by decide +kernel
theorem d_G_hasEdge_13 : decode prog_4_method_5_code 13 = .ok (.aload_n 0, 1) := by decide +kernel
theorem d_G_hasEdge_14 : decode prog_4_method_5_code 14 = .ok (.getfield 18, 3) := by decide +kernel
theorem d_G_hasEdge_17 : decode prog_4_method_5_code 17 = .ok (.iload_n 1, 1) := by decide +kernel
theorem d_G_hasEdge_18 : decode prog_4_method_5_code 18 = .ok (.iaload, 1) := by decide +kernel
theorem d_G_hasEdge_19 : decode prog_4_method_5_code 19 = .ok (.if_icmp .ge 7, 3) := by decide +kernel
theorem d_G_hasEdge_22 : decode prog_4_method_5_code 22 = .ok (.iconst 1, 1) := by decide +kernel
theorem d_G_hasEdge_23 : decode prog_4_method_5_code 23 = .ok (.goto 4, 3) := by decide +kernel
theorem d_G_hasEdge_26 : decode prog_4_method_5_code 26 = .ok (.iconst 0, 1) := by decide +kernel
theorem d_G_hasEdge_27 : decode prog_4_method_5_code 27 = .ok (.ireturn, 1) := by decide +kernel
theorem d_L_cool_0 : decode prog_1_method_7_code 0 = .ok (.aload_n 0, 1) := by decide +kernel
theorem d_L_cool_1 : decode prog_1_method_7_code 1 = .ok (.getfield 32, 3) := by decide +kernel
theorem d_L_cool_4 : decode prog_1_method_7_code 4 = .ok (.invokevirtual 110, 3) := by decide +kernel
theorem d_L_cool_7 : decode prog_1_method_7_code 7 = .ok (.iconst 0, 1) := by decide +kernel
theorem d_L_cool_8 : decode prog_1_method_7_code 8 = .ok (.ireturn, 1) := by decide +kernel
theorem d_N_clear_0 : decode prog_3_method_6_code 0 = .ok (.aload_n 0, 1) := by decide +kernel
theorem d_N_clear_1 : decode prog_3_method_6_code 1 = .ok (.getfield 9, 3) := by decide +kernel
theorem d_N_clear_4 : decode prog_3_method_6_code 4 = .ok (.iconst 0, 1) := by decide +kernel
theorem d_N_clear_5 : decode prog_3_method_6_code 5 = .ok (.invokestatic 44, 3) := by decide +kernel
theorem d_N_clear_8 : decode prog_3_method_6_code 8 = .ok (.aload_n 0, 1) := by decide +kernel
theorem d_N_clear_9 : decode prog_3_method_6_code 9 = .ok (.getfield 15, 3) := by decide +kernel
theorem d_N_clear_12 : decode prog_3_method_6_code 12 = .ok (.iconst 0, 1) := by decide +kernel
theorem d_N_clear_13 : decode prog_3_method_6_code 13 = .ok (.invokestatic 44, 3) := by decide +kernel
theorem d_N_clear_16 : decode prog_3_method_6_code 16 = .ok (.return_, 1) := by decide +kernel
theorem d_L_layout_0 : decode prog_1_method_8_code 0 = .ok (.aload_n 0, 1) := by decide +kernel
theorem d_L_layout_1 : decode prog_1_method_8_code 1 = .ok (.getfield 25, 3) := by decide +kernel
theorem d_L_layout_4 : decode prog_1_method_8_code 4 = .ok (.getfield 61, 3) := by decide +kernel
theorem d_L_layout_7 : decode prog_1_method_8_code 7 = .ok (.ifCond .eq 12, 3) := by decide +kernel
theorem d_L_layout_10 : decode prog_1_method_8_code 10 = .ok (.iload_n 1, 1) := by decide +kernel
theorem d_L_layout_11 : decode prog_1_method_8_code 11 = .ok (.ifCond .lt 8, 3) := by decide +kernel
theorem d_L_layout_14 : decode prog_1_method_8_code 14 = .ok (.iload_n 1, 1) := by decide +kernel
theorem d_L_layout_15 : decode prog_1_method_8_code 15 = .ok (.iconst 1, 1) := by decide +kernel
theorem d_L_layout_16 : decode prog_1_method_8_code 16 = .ok (.if_icmp .le 5, 3) := by decide +kernel
theorem d_L_layout_19 : decode prog_1_method_8_code 19 = .ok (.iconst (-1), 1) := by decide +kernel
theorem d_L_layout_20 : decode prog_1_method_8_code 20 = .ok (.ireturn, 1) := by decide +kernel
theorem d_L_layout_21 : decode prog_1_method_8_code 21 = .ok (.iload_n 1, 1) := by decide +kernel
theorem d_L_layout_22 : decode prog_1_method_8_code 22 = .ok (.ifCond .ne 17, 3) := by decide +kernel
theorem d_L_layout_25 : decode prog_1_method_8_code 25 = .ok (.aload_n 0, 1) := by decide +kernel
theorem d_L_layout_26 : decode prog_1_method_8_code 26 = .ok (.getfield 46, 3) := by decide +kernel
theorem d_L_layout_29 : decode prog_1_method_8_code 29 = .ok (.aload_n 0, 1) := by decide +kernel
theorem d_L_layout_30 : decode prog_1_method_8_code 30 = .ok (.getfield 25, 3) := by decide +kernel
theorem d_L_layout_33 : decode prog_1_method_8_code 33 = .ok (.invokevirtual 113, 3) := by decide +kernel
theorem d_L_layout_36 : decode prog_1_method_8_code 36 = .ok (.goto 18, 3) := by decide +kernel
theorem d_L_layout_39 : decode prog_1_method_8_code 39 = .ok (.aload_n 0, 1) := by decide +kernel
theorem d_L_layout_40 : decode prog_1_method_8_code 40 = .ok (.getfield 46, 3) := by decide +kernel
theorem d_L_layout_43 : decode prog_1_method_8_code 43 = .ok (.aload_n 0, 1) := by decide +kernel
theorem d_L_layout_44 : decode prog_1_method_8_code 44 = .ok (.getfield 25, 3) := by decide +kernel
theorem d_L_layout_47 : decode prog_1_method_8_code 47 = .ok (.aload_n 0, 1) := by decide +kernel
theorem d_L_layout_48 : decode prog_1_method_8_code 48 = .ok (.getfield 32, 3) := by decide +kernel
theorem d_L_layout_51 : decode prog_1_method_8_code 51 = .ok (.invokevirtual 117, 3) := by decide +kernel
theorem d_L_layout_54 : decode prog_1_method_8_code 54 = .ok (.aload_n 0, 1) := by decide +kernel
theorem d_L_layout_55 : decode prog_1_method_8_code 55 = .ok (.getfield 53, 3) := by decide +kernel
theorem d_L_layout_58 : decode prog_1_method_8_code 58 = .ok (.aload_n 0, 1) := by decide +kernel
theorem d_L_layout_59 : decode prog_1_method_8_code 59 = .ok (.getfield 25, 3) := by decide +kernel
theorem d_L_layout_62 : decode prog_1_method_8_code 62 = .ok (.aload_n 0, 1) := by decide +kernel
theorem d_L_layout_63 : decode prog_1_method_8_code 63 = .ok (.getfield 46, 3) := by decide +kernel
theorem d_L_layout_66 : decode prog_1_method_8_code 66 = .ok (.getfield 121, 3) := by decide +kernel
theorem d_L_layout_69 : decode prog_1_method_8_code 69 = .ok (.aload_n 0, 1) := by decide +kernel
theorem d_L_layout_70 : decode prog_1_method_8_code 70 = .ok (.getfield 18, 3) := by decide +kernel
theorem d_L_layout_73 : decode prog_1_method_8_code 73 = .ok (.invokevirtual 124, 3) := by decide +kernel
theorem d_L_layout_76 : decode prog_1_method_8_code 76 = .ok (.aload_n 0, 1) := by decide +kernel
theorem d_L_layout_77 : decode prog_1_method_8_code 77 = .ok (.iconst 1, 1) := by decide +kernel
theorem d_L_layout_78 : decode prog_1_method_8_code 78 = .ok (.putfield 57, 3) := by decide +kernel
theorem d_L_layout_81 : decode prog_1_method_8_code 81 = .ok (.aload_n 0, 1) := by decide +kernel
theorem d_L_layout_82 : decode prog_1_method_8_code 82 = .ok (.getfield 53, 3) := by decide +kernel
theorem d_L_layout_85 : decode prog_1_method_8_code 85 = .ok (.getfield 128, 3) := by decide +kernel
theorem d_L_layout_88 : decode prog_1_method_8_code 88 = .ok (.ireturn, 1) := by decide +kernel
theorem d_G_isEntry_0 : decode prog_4_method_8_code 0 = .ok (.aload_n 0, 1) := by decide +kernel
theorem d_G_isEntry_1 : decode prog_4_method_8_code 1 = .ok (.getfield 24, 3) := by decide +kernel
theorem d_G_isEntry_4 : decode prog_4_method_8_code 4 = .ok (.aload_n 0, 1) := by decide +kernel
theorem d_G_isEntry_5 : decode prog_4_method_8_code 5 = .ok (.getfield 9, 3) := by decide +kernel
theorem d_G_isEntry_8 : decode prog_4_method_8_code 8 = .ok (.iload_n 1, 1) := by decide +kernel
theorem d_G_isEntry_9 : decode prog_4_method_8_code 9 = .ok (.iaload, 1) := by decide +kernel
theorem d_G_isEntry_10 : decode prog_4_method_8_code 10 = .ok (.iaload, 1) := by decide +kernel
theorem d_G_isEntry_11 : decode prog_4_method_8_code 11 = .ok (.iload_n 1, 1) := by decide +kernel
theorem d_G_isEntry_12 : decode prog_4_method_8_code 12 = .ok (.if_icmp .ne 7, 3) := by decide +kernel
theorem d_G_isEntry_15 : decode prog_4_method_8_code 15 = .ok (.iconst 1, 1) := by decide +kernel
theorem d_G_isEntry_16 : decode prog_4_method_8_code 16 = .ok (.goto 4, 3) := by decide +kernel
theorem d_G_isEntry_19 : decode prog_4_method_8_code 19 = .ok (.iconst 0, 1) := by decide +kernel
theorem d_G_isEntry_20 : decode prog_4_method_8_code 20 = .ok (.ireturn, 1) := by decide +kernel
theorem d_L_at_0 : decode prog_1_method_9_code 0 = .ok (.aload_n 0, 1) := by decide +kernel
theorem d_L_at_1 : decode prog_1_method_9_code 1 = .ok (.getfield 57, 3) := by decide +kernel
theorem d_L_at_4 : decode prog_1_method_9_code 4 = .ok (.ifCond .eq 26, 3) := by decide +kernel
theorem d_L_at_7 : decode prog_1_method_9_code 7 = .ok (.aload_n 0, 1) := by decide +kernel
theorem d_L_at_8 : decode prog_1_method_9_code 8 = .ok (.getfield 25, 3) := by decide +kernel
theorem d_L_at_11 : decode prog_1_method_9_code 11 = .ok (.iload_n 1, 1) := by decide +kernel
theorem d_L_at_12 : decode prog_1_method_9_code 12 = .ok (.invokevirtual 131, 3) := by decide +kernel
theorem d_L_at_15 : decode prog_1_method_9_code 15 = .ok (.ifCond .eq 15, 3) := by decide +kernel
theorem d_L_at_18 : decode prog_1_method_9_code 18 = .ok (.aload_n 0, 1) := by decide +kernel
theorem d_L_at_19 : decode prog_1_method_9_code 19 = .ok (.getfield 46, 3) := by decide +kernel
theorem d_L_at_22 : decode prog_1_method_9_code 22 = .ok (.getfield 121, 3) := by decide +kernel
theorem d_L_at_25 : decode prog_1_method_9_code 25 = .ok (.iload_n 1, 1) := by decide +kernel
theorem d_L_at_26 : decode prog_1_method_9_code 26 = .ok (.iaload, 1) := by decide +kernel
theorem d_L_at_27 : decode prog_1_method_9_code 27 = .ok (.goto 5, 3) := by decide +kernel
theorem d_L_at_30 : decode prog_1_method_9_code 30 = .ok (.bipush (-3), 2) := by decide +kernel
theorem d_L_at_32 : decode prog_1_method_9_code 32 = .ok (.ireturn, 1) := by decide +kernel
theorem d_L_address_0 : decode prog_1_method_10_code 0 = .ok (.aload_n 0, 1) := by decide +kernel
theorem d_L_address_1 : decode prog_1_method_10_code 1 = .ok (.getfield 57, 3) := by decide +kernel
theorem d_L_address_4 : decode prog_1_method_10_code 4 = .ok (.ifCond .eq 26, 3) := by decide +kernel
theorem d_L_address_7 : decode prog_1_method_10_code 7 = .ok (.aload_n 0, 1) := by decide +kernel
theorem d_L_address_8 : decode prog_1_method_10_code 8 = .ok (.getfield 25, 3) := by decide +kernel
theorem d_L_address_11 : decode prog_1_method_10_code 11 = .ok (.iload_n 1, 1) := by decide +kernel
theorem d_L_address_12 : decode prog_1_method_10_code 12 = .ok (.invokevirtual 131, 3) := by decide +kernel
theorem d_L_address_15 : decode prog_1_method_10_code 15 = .ok (.ifCond .eq 15, 3) := by decide +kernel
theorem d_L_address_18 : decode prog_1_method_10_code 18 = .ok (.aload_n 0, 1) := by decide +kernel
theorem d_L_address_19 : decode prog_1_method_10_code 19 = .ok (.getfield 53, 3) := by decide +kernel
theorem d_L_address_22 : decode prog_1_method_10_code 22 = .ok (.getfield 134, 3) := by decide +kernel
theorem d_L_address_25 : decode prog_1_method_10_code 25 = .ok (.iload_n 1, 1) := by decide +kernel
theorem d_L_address_26 : decode prog_1_method_10_code 26 = .ok (.iaload, 1) := by decide +kernel
theorem d_L_address_27 : decode prog_1_method_10_code 27 = .ok (.goto 5, 3) := by decide +kernel
theorem d_L_address_30 : decode prog_1_method_10_code 30 = .ok (.bipush (-3), 2) := by decide +kernel
theorem d_L_address_32 : decode prog_1_method_10_code 32 = .ok (.ireturn, 1) := by decide +kernel
theorem d_L_branch_0 : decode prog_1_method_11_code 0 = .ok (.aload_n 0, 1) := by decide +kernel
theorem d_L_branch_1 : decode prog_1_method_11_code 1 = .ok (.iload_n 1, 1) := by decide +kernel
theorem d_L_branch_2 : decode prog_1_method_11_code 2 = .ok (.iload_n 2, 1) := by decide +kernel
theorem d_L_branch_3 : decode prog_1_method_11_code 3 = .ok (.invokevirtual 137, 3) := by decide +kernel
theorem d_L_branch_6 : decode prog_1_method_11_code 6 = .ok (.ifCond .eq 19, 3) := by decide +kernel
theorem d_L_branch_9 : decode prog_1_method_11_code 9 = .ok (.aload_n 0, 1) := by decide +kernel
theorem d_L_branch_10 : decode prog_1_method_11_code 10 = .ok (.getfield 53, 3) := by decide +kernel
theorem d_L_branch_13 : decode prog_1_method_11_code 13 = .ok (.getfield 140, 3) := by decide +kernel
theorem d_L_branch_16 : decode prog_1_method_11_code 16 = .ok (.iconst 2, 1) := by decide +kernel
theorem d_L_branch_17 : decode prog_1_method_11_code 17 = .ok (.iload_n 1, 1) := by decide +kernel
theorem d_L_branch_18 : decode prog_1_method_11_code 18 = .ok (.imul, 1) := by decide +kernel
theorem d_L_branch_19 : decode prog_1_method_11_code 19 = .ok (.iload_n 2, 1) := by decide +kernel
theorem d_L_branch_20 : decode prog_1_method_11_code 20 = .ok (.iadd, 1) := by decide +kernel
theorem d_L_branch_21 : decode prog_1_method_11_code 21 = .ok (.iaload, 1) := by decide +kernel
theorem d_L_branch_22 : decode prog_1_method_11_code 22 = .ok (.goto 5, 3) := by decide +kernel
theorem d_L_branch_25 : decode prog_1_method_11_code 25 = .ok (.bipush (-3), 2) := by decide +kernel
theorem d_L_branch_27 : decode prog_1_method_11_code 27 = .ok (.ireturn, 1) := by decide +kernel
theorem d_L_hasBranch_0 : decode prog_1_method_17_code 0 = .ok (.aload_n 0, 1) := by decide +kernel
theorem d_L_hasBranch_1 : decode prog_1_method_17_code 1 = .ok (.getfield 57, 3) := by decide +kernel
theorem d_L_hasBranch_4 : decode prog_1_method_17_code 4 = .ok (.ifCond .eq 43, 3) := by decide +kernel
theorem d_L_hasBranch_7 : decode prog_1_method_17_code 7 = .ok (.aload_n 0, 1) := by decide +kernel
theorem d_L_hasBranch_8 : decode prog_1_method_17_code 8 = .ok (.getfield 25, 3) := by decide +kernel
theorem d_L_hasBranch_11 : decode prog_1_method_17_code 11 = .ok (.iload_n 1, 1) := by decide +kernel
theorem d_L_hasBranch_12 : decode prog_1_method_17_code 12 = .ok (.invokevirtual 131, 3) := by decide +kernel
theorem d_L_hasBranch_15 : decode prog_1_method_17_code 15 = .ok (.ifCond .eq 32, 3) := by decide +kernel
theorem d_L_hasBranch_18 : decode prog_1_method_17_code 18 = .ok (.iload_n 2, 1) := by decide +kernel
theorem d_L_hasBranch_19 : decode prog_1_method_17_code 19 = .ok (.ifCond .eq 8, 3) := by decide +kernel
theorem d_L_hasBranch_22 : decode prog_1_method_17_code 22 = .ok (.iload_n 2, 1) := by decide +kernel
theorem d_L_hasBranch_23 : decode prog_1_method_17_code 23 = .ok (.iconst 1, 1) := by decide +kernel
theorem d_L_hasBranch_24 : decode prog_1_method_17_code 24 = .ok (.if_icmp .ne 23, 3) := by decide +kernel
theorem d_L_hasBranch_27 : decode prog_1_method_17_code 27 = .ok (.aload_n 0, 1) := by decide +kernel
theorem d_L_hasBranch_28 : decode prog_1_method_17_code 28 = .ok (.getfield 53, 3) := by decide +kernel
theorem d_L_hasBranch_31 : decode prog_1_method_17_code 31 = .ok (.getfield 140, 3) := by decide +kernel
theorem d_L_hasBranch_34 : decode prog_1_method_17_code 34 = .ok (.iconst 2, 1) := by decide +kernel
theorem d_L_hasBranch_35 : decode prog_1_method_17_code 35 = .ok (.iload_n 1, 1) := by decide +kernel
theorem d_L_hasBranch_36 : decode prog_1_method_17_code 36 = .ok (.imul, 1) := by decide +kernel
theorem d_L_hasBranch_37 : decode prog_1_method_17_code 37 = .ok (.iload_n 2, 1) := by decide +kernel
theorem d_L_hasBranch_38 : decode prog_1_method_17_code 38 = .ok (.iadd, 1) := by decide +kernel
theorem d_L_hasBranch_39 : decode prog_1_method_17_code 39 = .ok (.iaload, 1) := by decide +kernel
theorem d_L_hasBranch_40 : decode prog_1_method_17_code 40 = .ok (.ifCond .eq 7, 3) := by decide +kernel
theorem d_L_hasBranch_43 : decode prog_1_method_17_code 43 = .ok (.iconst 1, 1) := by decide +kernel
theorem d_L_hasBranch_44 : decode prog_1_method_17_code 44 = .ok (.goto 4, 3) := by decide +kernel
theorem d_L_hasBranch_47 : decode prog_1_method_17_code 47 = .ok (.iconst 0, 1) := by decide +kernel
theorem d_L_hasBranch_48 : decode prog_1_method_17_code 48 = .ok (.ireturn, 1) := by decide +kernel
theorem d_L_target_0 : decode prog_1_method_12_code 0 = .ok (.aload_n 0, 1) := by decide +kernel
theorem d_L_target_1 : decode prog_1_method_12_code 1 = .ok (.iload_n 1, 1) := by decide +kernel
theorem d_L_target_2 : decode prog_1_method_12_code 2 = .ok (.iload_n 2, 1) := by decide +kernel
theorem d_L_target_3 : decode prog_1_method_12_code 3 = .ok (.invokevirtual 137, 3) := by decide +kernel
theorem d_L_target_6 : decode prog_1_method_12_code 6 = .ok (.ifCond .eq 19, 3) := by decide +kernel
theorem d_L_target_9 : decode prog_1_method_12_code 9 = .ok (.aload_n 0, 1) := by decide +kernel
theorem d_L_target_10 : decode prog_1_method_12_code 10 = .ok (.getfield 53, 3) := by decide +kernel
theorem d_L_target_13 : decode prog_1_method_12_code 13 = .ok (.getfield 143, 3) := by decide +kernel
theorem d_L_target_16 : decode prog_1_method_12_code 16 = .ok (.iconst 2, 1) := by decide +kernel
theorem d_L_target_17 : decode prog_1_method_12_code 17 = .ok (.iload_n 1, 1) := by decide +kernel
theorem d_L_target_18 : decode prog_1_method_12_code 18 = .ok (.imul, 1) := by decide +kernel
theorem d_L_target_19 : decode prog_1_method_12_code 19 = .ok (.iload_n 2, 1) := by decide +kernel
theorem d_L_target_20 : decode prog_1_method_12_code 20 = .ok (.iadd, 1) := by decide +kernel
theorem d_L_target_21 : decode prog_1_method_12_code 21 = .ok (.iaload, 1) := by decide +kernel
theorem d_L_target_22 : decode prog_1_method_12_code 22 = .ok (.goto 5, 3) := by decide +kernel
theorem d_L_target_25 : decode prog_1_method_12_code 25 = .ok (.bipush (-3), 2) := by decide +kernel
theorem d_L_target_27 : decode prog_1_method_12_code 27 = .ok (.ireturn, 1) := by decide +kernel
theorem d_L_cost_0 : decode prog_1_method_13_code 0 = .ok (.aload_n 0, 1) := by decide +kernel
theorem d_L_cost_1 : decode prog_1_method_13_code 1 = .ok (.getfield 57, 3) := by decide +kernel
theorem d_L_cost_4 : decode prog_1_method_13_code 4 = .ok (.ifCond .eq 14, 3) := by decide +kernel
theorem d_L_cost_7 : decode prog_1_method_13_code 7 = .ok (.aload_n 0, 1) := by decide +kernel
theorem d_L_cost_8 : decode prog_1_method_13_code 8 = .ok (.getfield 25, 3) := by decide +kernel
theorem d_L_cost_11 : decode prog_1_method_13_code 11 = .ok (.iload_n 1, 1) := by decide +kernel
theorem d_L_cost_12 : decode prog_1_method_13_code 12 = .ok (.invokevirtual 79, 3) := by decide +kernel
theorem d_L_cost_15 : decode prog_1_method_13_code 15 = .ok (.ifCond .ne 5, 3) := by decide +kernel
theorem d_L_cost_18 : decode prog_1_method_13_code 18 = .ok (.iconst (-1), 1) := by decide +kernel
theorem d_L_cost_19 : decode prog_1_method_13_code 19 = .ok (.ireturn, 1) := by decide +kernel
theorem d_L_cost_20 : decode prog_1_method_13_code 20 = .ok (.aload_n 0, 1) := by decide +kernel
theorem d_L_cost_21 : decode prog_1_method_13_code 21 = .ok (.getfield 39, 3) := by decide +kernel
theorem d_L_cost_24 : decode prog_1_method_13_code 24 = .ok (.aload_n 0, 1) := by decide +kernel
theorem d_L_cost_25 : decode prog_1_method_13_code 25 = .ok (.getfield 25, 3) := by decide +kernel
theorem d_L_cost_28 : decode prog_1_method_13_code 28 = .ok (.iload_n 1, 1) := by decide +kernel
theorem d_L_cost_29 : decode prog_1_method_13_code 29 = .ok (.iload_n 2, 1) := by decide +kernel
theorem d_L_cost_30 : decode prog_1_method_13_code 30 = .ok (.invokevirtual 83, 3) := by decide +kernel
theorem d_L_cost_33 : decode prog_1_method_13_code 33 = .ok (.iconst 0, 1) := by decide +kernel
theorem d_L_cost_34 : decode prog_1_method_13_code 34 = .ok (.istore_n 3, 1) := by decide +kernel
theorem d_L_cost_35 : decode prog_1_method_13_code 35 = .ok (.iconst 0, 1) := by decide +kernel
theorem d_L_cost_36 : decode prog_1_method_13_code 36 = .ok (.istore 4, 2) := by decide +kernel
theorem d_L_cost_38 : decode prog_1_method_13_code 38 = .ok (.iload 4, 2) := by decide +kernel
theorem d_L_cost_40 : decode prog_1_method_13_code 40 = .ok (.aload_n 0, 1) := by decide +kernel
theorem d_L_cost_41 : decode prog_1_method_13_code 41 = .ok (.getfield 39, 3) := by decide +kernel
theorem d_L_cost_44 : decode prog_1_method_13_code 44 = .ok (.getfield 91, 3) := by decide +kernel
theorem d_L_cost_47 : decode prog_1_method_13_code 47 = .ok (.if_icmp .ge 61, 3) := by decide +kernel
theorem d_L_cost_50 : decode prog_1_method_13_code 50 = .ok (.aload_n 0, 1) := by decide +kernel
theorem d_L_cost_51 : decode prog_1_method_13_code 51 = .ok (.getfield 39, 3) := by decide +kernel
theorem d_L_cost_54 : decode prog_1_method_13_code 54 = .ok (.getfield 146, 3) := by decide +kernel
theorem d_L_cost_57 : decode prog_1_method_13_code 57 = .ok (.iload 4, 2) := by decide +kernel
theorem d_L_cost_59 : decode prog_1_method_13_code 59 = .ok (.iaload, 1) := by decide +kernel
theorem d_L_cost_60 : decode prog_1_method_13_code 60 = .ok (.istore 5, 2) := by decide +kernel
theorem d_L_cost_62 : decode prog_1_method_13_code 62 = .ok (.iload_n 3, 1) := by decide +kernel
theorem d_L_cost_63 : decode prog_1_method_13_code 63 = .ok (.aload_n 0, 1) := by decide +kernel
theorem d_L_cost_64 : decode prog_1_method_13_code 64 = .ok (.getfield 53, 3) := by decide +kernel
theorem d_L_cost_67 : decode prog_1_method_13_code 67 = .ok (.iload 5, 2) := by decide +kernel
theorem d_L_cost_69 : decode prog_1_method_13_code 69 = .ok (.aload_n 0, 1) := by decide +kernel
theorem d_L_cost_70 : decode prog_1_method_13_code 70 = .ok (.getfield 25, 3) := by decide +kernel
theorem d_L_cost_73 : decode prog_1_method_13_code 73 = .ok (.getfield 149, 3) := by decide +kernel
theorem d_L_cost_76 : decode prog_1_method_13_code 76 = .ok (.iload 5, 2) := by decide +kernel
theorem d_L_cost_78 : decode prog_1_method_13_code 78 = .ok (.iaload, 1) := by decide +kernel
theorem d_L_cost_79 : decode prog_1_method_13_code 79 = .ok (.aload_n 0, 1) := by decide +kernel
theorem d_L_cost_80 : decode prog_1_method_13_code 80 = .ok (.getfield 39, 3) := by decide +kernel
theorem d_L_cost_83 : decode prog_1_method_13_code 83 = .ok (.getfield 152, 3) := by decide +kernel
theorem d_L_cost_86 : decode prog_1_method_13_code 86 = .ok (.iload 4, 2) := by decide +kernel
theorem d_L_cost_88 : decode prog_1_method_13_code 88 = .ok (.iaload, 1) := by decide +kernel
theorem d_L_cost_89 : decode prog_1_method_13_code 89 = .ok (.ifCond .ne 7, 3) := by decide +kernel
theorem d_L_cost_92 : decode prog_1_method_13_code 92 = .ok (.iconst 1, 1) := by decide +kernel
theorem d_L_cost_93 : decode prog_1_method_13_code 93 = .ok (.goto 4, 3) := by decide +kernel
theorem d_L_cost_96 : decode prog_1_method_13_code 96 = .ok (.iconst 0, 1) := by decide +kernel
theorem d_L_cost_97 : decode prog_1_method_13_code 97 = .ok (.invokevirtual 155, 3) := by decide +kernel
theorem d_L_cost_100 : decode prog_1_method_13_code 100 = .ok (.iadd, 1) := by decide +kernel
theorem d_L_cost_101 : decode prog_1_method_13_code 101 = .ok (.istore_n 3, 1) := by decide +kernel
theorem d_L_cost_102 : decode prog_1_method_13_code 102 = .ok (.iinc 4 1, 3) := by decide +kernel
theorem d_L_cost_105 : decode prog_1_method_13_code 105 = .ok (.goto (-67), 3) := by decide +kernel
theorem d_L_cost_108 : decode prog_1_method_13_code 108 = .ok (.iload_n 3, 1) := by decide +kernel
theorem d_L_cost_109 : decode prog_1_method_13_code 109 = .ok (.ireturn, 1) := by decide +kernel
theorem d_L_heatOf_0 : decode prog_1_method_14_code 0 = .ok (.iload_n 2, 1) := by decide +kernel
theorem d_L_heatOf_1 : decode prog_1_method_14_code 1 = .ok (.iconst (-1), 1) := by decide +kernel
theorem d_L_heatOf_2 : decode prog_1_method_14_code 2 = .ok (.if_icmp .ne 24, 3) := by decide +kernel
theorem d_L_heatOf_5 : decode prog_1_method_14_code 5 = .ok (.aload_n 0, 1) := by decide +kernel
theorem d_L_heatOf_6 : decode prog_1_method_14_code 6 = .ok (.getfield 25, 3) := by decide +kernel
theorem d_L_heatOf_9 : decode prog_1_method_14_code 9 = .ok (.iload_n 1, 1) := by decide +kernel
theorem d_L_heatOf_10 : decode prog_1_method_14_code 10 = .ok (.invokevirtual 131, 3) := by decide +kernel
theorem d_L_heatOf_13 : decode prog_1_method_14_code 13 = .ok (.ifCond .eq 13, 3) := by decide +kernel
theorem d_L_heatOf_16 : decode prog_1_method_14_code 16 = .ok (.aload_n 0, 1) := by decide +kernel
theorem d_L_heatOf_17 : decode prog_1_method_14_code 17 = .ok (.getfield 32, 3) := by decide +kernel
theorem d_L_heatOf_20 : decode prog_1_method_14_code 20 = .ok (.getfield 159, 3) := by decide +kernel
theorem d_L_heatOf_23 : decode prog_1_method_14_code 23 = .ok (.iload_n 1, 1) := by decide +kernel
theorem d_L_heatOf_24 : decode prog_1_method_14_code 24 = .ok (.iaload, 1) := by decide +kernel
theorem d_L_heatOf_25 : decode prog_1_method_14_code 25 = .ok (.ireturn, 1) := by decide +kernel
theorem d_L_heatOf_26 : decode prog_1_method_14_code 26 = .ok (.aload_n 0, 1) := by decide +kernel
theorem d_L_heatOf_27 : decode prog_1_method_14_code 27 = .ok (.getfield 25, 3) := by decide +kernel
theorem d_L_heatOf_30 : decode prog_1_method_14_code 30 = .ok (.iload_n 1, 1) := by decide +kernel
theorem d_L_heatOf_31 : decode prog_1_method_14_code 31 = .ok (.iload_n 2, 1) := by decide +kernel
theorem d_L_heatOf_32 : decode prog_1_method_14_code 32 = .ok (.invokevirtual 93, 3) := by decide +kernel
theorem d_L_heatOf_35 : decode prog_1_method_14_code 35 = .ok (.ifCond .eq 19, 3) := by decide +kernel
theorem d_L_heatOf_38 : decode prog_1_method_14_code 38 = .ok (.aload_n 0, 1) := by decide +kernel
theorem d_L_heatOf_39 : decode prog_1_method_14_code 39 = .ok (.getfield 32, 3) := by decide +kernel
theorem d_L_heatOf_42 : decode prog_1_method_14_code 42 = .ok (.getfield 107, 3) := by decide +kernel
theorem d_L_heatOf_45 : decode prog_1_method_14_code 45 = .ok (.iconst 2, 1) := by decide +kernel
theorem d_L_heatOf_46 : decode prog_1_method_14_code 46 = .ok (.iload_n 1, 1) := by decide +kernel
theorem d_L_heatOf_47 : decode prog_1_method_14_code 47 = .ok (.imul, 1) := by decide +kernel
theorem d_L_heatOf_48 : decode prog_1_method_14_code 48 = .ok (.iload_n 2, 1) := by decide +kernel
theorem d_L_heatOf_49 : decode prog_1_method_14_code 49 = .ok (.iadd, 1) := by decide +kernel
theorem d_L_heatOf_50 : decode prog_1_method_14_code 50 = .ok (.iaload, 1) := by decide +kernel
theorem d_L_heatOf_51 : decode prog_1_method_14_code 51 = .ok (.goto 5, 3) := by decide +kernel
theorem d_L_heatOf_54 : decode prog_1_method_14_code 54 = .ok (.bipush (-3), 2) := by decide +kernel
theorem d_L_heatOf_56 : decode prog_1_method_14_code 56 = .ok (.ireturn, 1) := by decide +kernel
theorem d_L_count_0 : decode prog_1_method_15_code 0 = .ok (.iload_n 1, 1) := by decide +kernel
theorem d_L_count_1 : decode prog_1_method_15_code 1 = .ok (.ifCond .lt 8, 3) := by decide +kernel
theorem d_L_count_4 : decode prog_1_method_15_code 4 = .ok (.iload_n 1, 1) := by decide +kernel
theorem d_L_count_5 : decode prog_1_method_15_code 5 = .ok (.iconst 5, 1) := by decide +kernel
theorem d_L_count_6 : decode prog_1_method_15_code 6 = .ok (.if_icmp .le 5, 3) := by decide +kernel
theorem d_L_count_9 : decode prog_1_method_15_code 9 = .ok (.iconst (-1), 1) := by decide +kernel
theorem d_L_count_10 : decode prog_1_method_15_code 10 = .ok (.ireturn, 1) := by decide +kernel
theorem d_L_count_11 : decode prog_1_method_15_code 11 = .ok (.iload_n 1, 1) := by decide +kernel
theorem d_L_count_12 : decode prog_1_method_15_code 12 = .ok (.ifCond .ne 11, 3) := by decide +kernel
theorem d_L_count_15 : decode prog_1_method_15_code 15 = .ok (.aload_n 0, 1) := by decide +kernel
theorem d_L_count_16 : decode prog_1_method_15_code 16 = .ok (.getfield 25, 3) := by decide +kernel
theorem d_L_count_19 : decode prog_1_method_15_code 19 = .ok (.getfield 61, 3) := by decide +kernel
theorem d_L_count_22 : decode prog_1_method_15_code 22 = .ok (.ireturn, 1) := by decide +kernel
theorem d_L_count_23 : decode prog_1_method_15_code 23 = .ok (.aload_n 0, 1) := by decide +kernel
theorem d_L_count_24 : decode prog_1_method_15_code 24 = .ok (.getfield 57, 3) := by decide +kernel
theorem d_L_count_27 : decode prog_1_method_15_code 27 = .ok (.ifCond .eq 11, 3) := by decide +kernel
theorem d_L_count_30 : decode prog_1_method_15_code 30 = .ok (.aload_n 0, 1) := by decide +kernel
theorem d_L_count_31 : decode prog_1_method_15_code 31 = .ok (.iload_n 1, 1) := by decide +kernel
theorem d_L_count_32 : decode prog_1_method_15_code 32 = .ok (.invokevirtual 162, 3) := by decide +kernel
theorem d_L_count_35 : decode prog_1_method_15_code 35 = .ok (.goto 4, 3) := by decide +kernel
theorem d_L_count_38 : decode prog_1_method_15_code 38 = .ok (.iconst 0, 1) := by decide +kernel
theorem d_L_count_39 : decode prog_1_method_15_code 39 = .ok (.ireturn, 1) := by decide +kernel
theorem d_L_countOfLayout_0 : decode prog_1_method_16_code 0 = .ok (.iload_n 1, 1) := by decide +kernel
theorem d_L_countOfLayout_1 : decode prog_1_method_16_code 1 = .ok (.tableswitch 63 1 4 #[31, 39, 47, 55], 31) := by decide +kernel
theorem d_L_countOfLayout_32 : decode prog_1_method_16_code 32 = .ok (.aload_n 0, 1) := by decide +kernel
theorem d_L_countOfLayout_33 : decode prog_1_method_16_code 33 = .ok (.getfield 53, 3) := by decide +kernel
theorem d_L_countOfLayout_36 : decode prog_1_method_16_code 36 = .ok (.getfield 128, 3) := by decide +kernel
theorem d_L_countOfLayout_39 : decode prog_1_method_16_code 39 = .ok (.ireturn, 1) := by decide +kernel
theorem d_L_countOfLayout_40 : decode prog_1_method_16_code 40 = .ok (.aload_n 0, 1) := by decide +kernel
theorem d_L_countOfLayout_41 : decode prog_1_method_16_code 41 = .ok (.getfield 53, 3) := by decide +kernel
theorem d_L_countOfLayout_44 : decode prog_1_method_16_code 44 = .ok (.getfield 166, 3) := by decide +kernel
theorem d_L_countOfLayout_47 : decode prog_1_method_16_code 47 = .ok (.ireturn, 1) := by decide +kernel
theorem d_L_countOfLayout_48 : decode prog_1_method_16_code 48 = .ok (.aload_n 0, 1) := by decide +kernel
theorem d_L_countOfLayout_49 : decode prog_1_method_16_code 49 = .ok (.getfield 53, 3) := by decide +kernel
theorem d_L_countOfLayout_52 : decode prog_1_method_16_code 52 = .ok (.getfield 169, 3) := by decide +kernel
theorem d_L_countOfLayout_55 : decode prog_1_method_16_code 55 = .ok (.ireturn, 1) := by decide +kernel
theorem d_L_countOfLayout_56 : decode prog_1_method_16_code 56 = .ok (.aload_n 0, 1) := by decide +kernel
theorem d_L_countOfLayout_57 : decode prog_1_method_16_code 57 = .ok (.getfield 46, 3) := by decide +kernel
theorem d_L_countOfLayout_60 : decode prog_1_method_16_code 60 = .ok (.getfield 172, 3) := by decide +kernel
theorem d_L_countOfLayout_63 : decode prog_1_method_16_code 63 = .ok (.ireturn, 1) := by decide +kernel
theorem d_L_countOfLayout_64 : decode prog_1_method_16_code 64 = .ok (.aload_n 0, 1) := by decide +kernel
theorem d_L_countOfLayout_65 : decode prog_1_method_16_code 65 = .ok (.getfield 46, 3) := by decide +kernel
theorem d_L_countOfLayout_68 : decode prog_1_method_16_code 68 = .ok (.getfield 175, 3) := by decide +kernel
theorem d_L_countOfLayout_71 : decode prog_1_method_16_code 71 = .ok (.ireturn, 1) := by decide +kernel
