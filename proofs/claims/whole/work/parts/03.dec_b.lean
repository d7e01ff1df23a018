theorem d_P_init_0 : decode prog_5_method_1_code 0 = .ok (.aload_n 0, 1) := by decide +kernel
theorem d_P_init_1 : decode prog_5_method_1_code 1 = .ok (.invokespecial 3, 3) := by decide +kernel
theorem d_P_init_4 : decode prog_5_method_1_code 4 = .ok (.aload_n 0, 1) := by decide +kernel
theorem d_P_init_5 : decode prog_5_method_1_code 5 = .ok (.bipush 24, 2) := by decide +kernel
theorem d_P_init_7 : decode prog_5_method_1_code 7 = .ok (.newarray .int, 2) := by decide +kernel
theorem d_P_init_9 : decode prog_5_method_1_code 9 = .ok (.putfield 9, 3) := by decide +kernel
theorem d_P_init_12 : decode prog_5_method_1_code 12 = .ok (.aload_n 0, 1) := by decide +kernel
theorem d_P_init_13 : decode prog_5_method_1_code 13 = .ok (.iconst 0, 1) := by decide +kernel
theorem d_P_init_14 : decode prog_5_method_1_code 14 = .ok (.putfield 15, 3) := by decide +kernel
theorem d_P_init_17 : decode prog_5_method_1_code 17 = .ok (.aload_n 0, 1) := by decide +kernel
theorem d_P_init_18 : decode prog_5_method_1_code 18 = .ok (.iconst 0, 1) := by decide +kernel
theorem d_P_init_19 : decode prog_5_method_1_code 19 = .ok (.putfield 19, 3) := by decide +kernel
theorem d_P_init_22 : decode prog_5_method_1_code 22 = .ok (.aload_n 0, 1) := by decide +kernel
theorem d_P_init_23 : decode prog_5_method_1_code 23 = .ok (.bipush 48, 2) := by decide +kernel
theorem d_P_init_25 : decode prog_5_method_1_code 25 = .ok (.newarray .int, 2) := by decide +kernel
theorem d_P_init_27 : decode prog_5_method_1_code 27 = .ok (.putfield 22, 3) := by decide +kernel
theorem d_P_init_30 : decode prog_5_method_1_code 30 = .ok (.aload_n 0, 1) := by decide +kernel
theorem d_P_init_31 : decode prog_5_method_1_code 31 = .ok (.bipush 24, 2) := by decide +kernel
theorem d_P_init_33 : decode prog_5_method_1_code 33 = .ok (.newarray .int, 2) := by decide +kernel
theorem d_P_init_35 : decode prog_5_method_1_code 35 = .ok (.putfield 25, 3) := by decide +kernel
theorem d_P_init_38 : decode prog_5_method_1_code 38 = .ok (.aload_n 0, 1) := by decide +kernel
theorem d_P_init_39 : decode prog_5_method_1_code 39 = .ok (.bipush 24, 2) := by decide +kernel
theorem d_P_init_41 : decode prog_5_method_1_code 41 = .ok (.newarray .int, 2) := by decide +kernel
theorem d_P_init_43 : decode prog_5_method_1_code 43 = .ok (.putfield 28, 3) := by decide +kernel
theorem d_P_init_46 : decode prog_5_method_1_code 46 = .ok (.aload_n 0, 1) := by decide +kernel
theorem d_P_init_47 : decode prog_5_method_1_code 47 = .ok (.bipush 24, 2) := by decide +kernel
theorem d_P_init_49 : decode prog_5_method_1_code 49 = .ok (.newarray .int, 2) := by decide +kernel
theorem d_P_init_51 : decode prog_5_method_1_code 51 = .ok (.putfield 31, 3) := by decide +kernel
theorem d_P_init_54 : decode prog_5_method_1_code 54 = .ok (.aload_n 0, 1) := by decide +kernel
theorem d_P_init_55 : decode prog_5_method_1_code 55 = .ok (.bipush 24, 2) := by decide +kernel
theorem d_P_init_57 : decode prog_5_method_1_code 57 = .ok (.newarray .int, 2) := by decide +kernel
theorem d_P_init_59 : decode prog_5_method_1_code 59 = .ok (.putfield 34, 3) := by decide +kernel
theorem d_P_init_62 : decode prog_5_method_1_code 62 = .ok (.aload_n 0, 1) := by decide +kernel
theorem d_P_init_63 : decode prog_5_method_1_code 63 = .ok (.bipush 24, 2) := by decide +kernel
theorem d_P_init_65 : decode prog_5_method_1_code 65 = .ok (.newarray .int, 2) := by decide +kernel
theorem d_P_init_67 : decode prog_5_method_1_code 67 = .ok (.putfield 37, 3) := by decide +kernel
theorem d_P_init_70 : decode prog_5_method_1_code 70 = .ok (.return_, 1) := by decide +kernel
theorem d_C_init_0 : decode prog_2_method_1_code 0 = .ok (.aload_n 0, 1) := by decide +kernel
theorem d_C_init_1 : decode prog_2_method_1_code 1 = .ok (.invokespecial 3, 3) := by decide +kernel
theorem d_C_init_4 : decode prog_2_method_1_code 4 = .ok (.aload_n 0, 1) := by decide +kernel
theorem d_C_init_5 : decode prog_2_method_1_code 5 = .ok (.bipush 24, 2) := by decide +kernel
theorem d_C_init_7 : decode prog_2_method_1_code 7 = .ok (.newarray .int, 2) := by decide +kernel
theorem d_C_init_9 : decode prog_2_method_1_code 9 = .ok (.putfield 9, 3) := by decide +kernel
theorem d_C_init_12 : decode prog_2_method_1_code 12 = .ok (.aload_n 0, 1) := by decide +kernel
theorem d_C_init_13 : decode prog_2_method_1_code 13 = .ok (.bipush 48, 2) := by decide +kernel
theorem d_C_init_15 : decode prog_2_method_1_code 15 = .ok (.newarray .int, 2) := by decide +kernel
theorem d_C_init_17 : decode prog_2_method_1_code 17 = .ok (.putfield 15, 3) := by decide +kernel
theorem d_C_init_20 : decode prog_2_method_1_code 20 = .ok (.aload_n 0, 1) := by decide +kernel
theorem d_C_init_21 : decode prog_2_method_1_code 21 = .ok (.bipush 48, 2) := by decide +kernel
theorem d_C_init_23 : decode prog_2_method_1_code 23 = .ok (.newarray .int, 2) := by decide +kernel
theorem d_C_init_25 : decode prog_2_method_1_code 25 = .ok (.putfield 18, 3) := by decide +kernel
theorem d_C_init_28 : decode prog_2_method_1_code 28 = .ok (.aload_n 0, 1) := by decide +kernel
theorem d_C_init_29 : decode prog_2_method_1_code 29 = .ok (.bipush 24, 2) := by decide +kernel
theorem d_C_init_31 : decode prog_2_method_1_code 31 = .ok (.newarray .boolean, 2) := by decide +kernel
theorem d_C_init_33 : decode prog_2_method_1_code 33 = .ok (.putfield 21, 3) := by decide +kernel
theorem d_C_init_36 : decode prog_2_method_1_code 36 = .ok (.aload_n 0, 1) := by decide +kernel
theorem d_C_init_37 : decode prog_2_method_1_code 37 = .ok (.iconst 0, 1) := by decide +kernel
theorem d_C_init_38 : decode prog_2_method_1_code 38 = .ok (.putfield 25, 3) := by decide +kernel
theorem d_C_init_41 : decode prog_2_method_1_code 41 = .ok (.aload_n 0, 1) := by decide +kernel
theorem d_C_init_42 : decode prog_2_method_1_code 42 = .ok (.iconst 0, 1) := by decide +kernel
theorem d_C_init_43 : decode prog_2_method_1_code 43 = .ok (.putfield 29, 3) := by decide +kernel
theorem d_C_init_46 : decode prog_2_method_1_code 46 = .ok (.aload_n 0, 1) := by decide +kernel
theorem d_C_init_47 : decode prog_2_method_1_code 47 = .ok (.iconst 0, 1) := by decide +kernel
theorem d_C_init_48 : decode prog_2_method_1_code 48 = .ok (.putfield 32, 3) := by decide +kernel
theorem d_C_init_51 : decode prog_2_method_1_code 51 = .ok (.return_, 1) := by decide +kernel
theorem d_P_placeByNumber_0 : decode prog_5_method_2_code 0 = .ok (.iconst 0, 1) := by decide +kernel
theorem d_P_placeByNumber_1 : decode prog_5_method_2_code 1 = .ok (.istore_n 2, 1) := by decide +kernel
theorem d_P_placeByNumber_2 : decode prog_5_method_2_code 2 = .ok (.iload_n 2, 1) := by decide +kernel
theorem d_P_placeByNumber_3 : decode prog_5_method_2_code 3 = .ok (.aload_n 1, 1) := by decide +kernel
theorem d_P_placeByNumber_4 : decode prog_5_method_2_code 4 = .ok (.getfield 40, 3) := by decide +kernel
theorem d_P_placeByNumber_7 : decode prog_5_method_2_code 7 = .ok (.if_icmp .ge 16, 3) := by decide +kernel
theorem d_P_placeByNumber_10 : decode prog_5_method_2_code 10 = .ok (.aload_n 0, 1) := by decide +kernel
theorem d_P_placeByNumber_11 : decode prog_5_method_2_code 11 = .ok (.getfield 9, 3) := by decide +kernel
theorem d_P_placeByNumber_14 : decode prog_5_method_2_code 14 = .ok (.iload_n 2, 1) := by decide +kernel
theorem d_P_placeByNumber_15 : decode prog_5_method_2_code 15 = .ok (.iload_n 2, 1) := by decide +kernel
theorem d_P_placeByNumber_16 : decode prog_5_method_2_code 16 = .ok (.iastore, 1) := by decide +kernel
theorem d_P_placeByNumber_17 : decode prog_5_method_2_code 17 = .ok (.iinc 2 1, 3) := by decide +kernel
theorem d_P_placeByNumber_20 : decode prog_5_method_2_code 20 = .ok (.goto (-18), 3) := by decide +kernel
theorem d_P_placeByNumber_23 : decode prog_5_method_2_code 23 = .ok (.aload_n 0, 1) := by decide +kernel
theorem d_P_placeByNumber_24 : decode prog_5_method_2_code 24 = .ok (.aload_n 1, 1) := by decide +kernel
theorem d_P_placeByNumber_25 : decode prog_5_method_2_code 25 = .ok (.getfield 40, 3) := by decide +kernel
theorem d_P_placeByNumber_28 : decode prog_5_method_2_code 28 = .ok (.putfield 15, 3) := by decide +kernel
theorem d_P_placeByNumber_31 : decode prog_5_method_2_code 31 = .ok (.aload_n 0, 1) := by decide +kernel
theorem d_P_placeByNumber_32 : decode prog_5_method_2_code 32 = .ok (.iconst 0, 1) := by decide +kernel
theorem d_P_placeByNumber_33 : decode prog_5_method_2_code 33 = .ok (.putfield 19, 3) := by decide +kernel
theorem d_P_placeByNumber_36 : decode prog_5_method_2_code 36 = .ok (.return_, 1) := by decide +kernel
theorem d_P_placeByChains_0 : decode prog_5_method_3_code 0 = .ok (.aload_n 0, 1) := by decide +kernel
theorem d_P_placeByChains_1 : decode prog_5_method_3_code 1 = .ok (.aload_n 1, 1) := by decide +kernel
theorem d_P_placeByChains_2 : decode prog_5_method_3_code 2 = .ok (.aload_n 2, 1) := by decide +kernel
theorem d_P_placeByChains_3 : decode prog_5_method_3_code 3 = .ok (.invokevirtual 45, 3) := by decide +kernel
theorem d_P_placeByChains_6 : decode prog_5_method_3_code 6 = .ok (.aload_n 0, 1) := by decide +kernel
theorem d_P_placeByChains_7 : decode prog_5_method_3_code 7 = .ok (.aload_n 1, 1) := by decide +kernel
theorem d_P_placeByChains_8 : decode prog_5_method_3_code 8 = .ok (.aload_n 2, 1) := by decide +kernel
theorem d_P_placeByChains_9 : decode prog_5_method_3_code 9 = .ok (.invokevirtual 49, 3) := by decide +kernel
theorem d_P_placeByChains_12 : decode prog_5_method_3_code 12 = .ok (.istore_n 3, 1) := by decide +kernel
theorem d_P_placeByChains_13 : decode prog_5_method_3_code 13 = .ok (.iconst 0, 1) := by decide +kernel
theorem d_P_placeByChains_14 : decode prog_5_method_3_code 14 = .ok (.istore 4, 2) := by decide +kernel
theorem d_P_placeByChains_16 : decode prog_5_method_3_code 16 = .ok (.iload 4, 2) := by decide +kernel
theorem d_P_placeByChains_18 : decode prog_5_method_3_code 18 = .ok (.iload_n 3, 1) := by decide +kernel
theorem d_P_placeByChains_19 : decode prog_5_method_3_code 19 = .ok (.if_icmp .ge 35, 3) := by decide +kernel
theorem d_P_placeByChains_22 : decode prog_5_method_3_code 22 = .ok (.aload_n 0, 1) := by decide +kernel
theorem d_P_placeByChains_23 : decode prog_5_method_3_code 23 = .ok (.aload_n 1, 1) := by decide +kernel
theorem d_P_placeByChains_24 : decode prog_5_method_3_code 24 = .ok (.aload_n 0, 1) := by decide +kernel
theorem d_P_placeByChains_25 : decode prog_5_method_3_code 25 = .ok (.getfield 22, 3) := by decide +kernel
theorem d_P_placeByChains_28 : decode prog_5_method_3_code 28 = .ok (.iload 4, 2) := by decide +kernel
theorem d_P_placeByChains_30 : decode prog_5_method_3_code 30 = .ok (.iaload, 1) := by decide +kernel
theorem d_P_placeByChains_31 : decode prog_5_method_3_code 31 = .ok (.iconst 2, 1) := by decide +kernel
theorem d_P_placeByChains_32 : decode prog_5_method_3_code 32 = .ok (.idiv, 1) := by decide +kernel
theorem d_P_placeByChains_33 : decode prog_5_method_3_code 33 = .ok (.aload_n 1, 1) := by decide +kernel
theorem d_P_placeByChains_34 : decode prog_5_method_3_code 34 = .ok (.getfield 53, 3) := by decide +kernel
theorem d_P_placeByChains_37 : decode prog_5_method_3_code 37 = .ok (.aload_n 0, 1) := by decide +kernel
theorem d_P_placeByChains_38 : decode prog_5_method_3_code 38 = .ok (.getfield 22, 3) := by decide +kernel
theorem d_P_placeByChains_41 : decode prog_5_method_3_code 41 = .ok (.iload 4, 2) := by decide +kernel
theorem d_P_placeByChains_43 : decode prog_5_method_3_code 43 = .ok (.iaload, 1) := by decide +kernel
theorem d_P_placeByChains_44 : decode prog_5_method_3_code 44 = .ok (.iaload, 1) := by decide +kernel
theorem d_P_placeByChains_45 : decode prog_5_method_3_code 45 = .ok (.invokevirtual 56, 3) := by decide +kernel
theorem d_P_placeByChains_48 : decode prog_5_method_3_code 48 = .ok (.iinc 4 1, 3) := by decide +kernel
theorem d_P_placeByChains_51 : decode prog_5_method_3_code 51 = .ok (.goto (-35), 3) := by decide +kernel
theorem d_P_placeByChains_54 : decode prog_5_method_3_code 54 = .ok (.aload_n 0, 1) := by decide +kernel
theorem d_P_placeByChains_55 : decode prog_5_method_3_code 55 = .ok (.aload_n 1, 1) := by decide +kernel
theorem d_P_placeByChains_56 : decode prog_5_method_3_code 56 = .ok (.invokevirtual 60, 3) := by decide +kernel
theorem d_P_placeByChains_59 : decode prog_5_method_3_code 59 = .ok (.aload_n 0, 1) := by decide +kernel
theorem d_P_placeByChains_60 : decode prog_5_method_3_code 60 = .ok (.aload_n 1, 1) := by decide +kernel
theorem d_P_placeByChains_61 : decode prog_5_method_3_code 61 = .ok (.invokevirtual 64, 3) := by decide +kernel
theorem d_P_placeByChains_64 : decode prog_5_method_3_code 64 = .ok (.return_, 1) := by decide +kernel
theorem d_P_startChains_0 : decode prog_5_method_4_code 0 = .ok (.iconst 0, 1) := by decide +kernel
theorem d_P_startChains_1 : decode prog_5_method_4_code 1 = .ok (.istore_n 3, 1) := by decide +kernel
theorem d_P_startChains_2 : decode prog_5_method_4_code 2 = .ok (.iload_n 3, 1) := by decide +kernel
theorem d_P_startChains_3 : decode prog_5_method_4_code 3 = .ok (.aload_n 1, 1) := by decide +kernel
theorem d_P_startChains_4 : decode prog_5_method_4_code 4 = .ok (.getfield 40, 3) := by decide +kernel
theorem d_P_startChains_7 : decode prog_5_method_4_code 7 = .ok (.if_icmp .ge 47, 3) := by decide +kernel
theorem d_P_startChains_10 : decode prog_5_method_4_code 10 = .ok (.aload_n 0, 1) := by decide +kernel
theorem d_P_startChains_11 : decode prog_5_method_4_code 11 = .ok (.getfield 28, 3) := by decide +kernel
theorem d_P_startChains_14 : decode prog_5_method_4_code 14 = .ok (.iload_n 3, 1) := by decide +kernel
theorem d_P_startChains_15 : decode prog_5_method_4_code 15 = .ok (.iload_n 3, 1) := by decide +kernel
theorem d_P_startChains_16 : decode prog_5_method_4_code 16 = .ok (.iastore, 1) := by decide +kernel
theorem d_P_startChains_17 : decode prog_5_method_4_code 17 = .ok (.aload_n 0, 1) := by decide +kernel
theorem d_P_startChains_18 : decode prog_5_method_4_code 18 = .ok (.getfield 31, 3) := by decide +kernel
theorem d_P_startChains_21 : decode prog_5_method_4_code 21 = .ok (.iload_n 3, 1) := by decide +kernel
theorem d_P_startChains_22 : decode prog_5_method_4_code 22 = .ok (.iconst (-1), 1) := by decide +kernel
theorem d_P_startChains_23 : decode prog_5_method_4_code 23 = .ok (.iastore, 1) := by decide +kernel
theorem d_P_startChains_24 : decode prog_5_method_4_code 24 = .ok (.aload_n 0, 1) := by decide +kernel
theorem d_P_startChains_25 : decode prog_5_method_4_code 25 = .ok (.getfield 34, 3) := by decide +kernel
theorem d_P_startChains_28 : decode prog_5_method_4_code 28 = .ok (.iload_n 3, 1) := by decide +kernel
theorem d_P_startChains_29 : decode prog_5_method_4_code 29 = .ok (.aload_n 2, 1) := by decide +kernel
theorem d_P_startChains_30 : decode prog_5_method_4_code 30 = .ok (.getfield 67, 3) := by decide +kernel
theorem d_P_startChains_33 : decode prog_5_method_4_code 33 = .ok (.iload_n 3, 1) := by decide +kernel
theorem d_P_startChains_34 : decode prog_5_method_4_code 34 = .ok (.iaload, 1) := by decide +kernel
theorem d_P_startChains_35 : decode prog_5_method_4_code 35 = .ok (.iastore, 1) := by decide +kernel
theorem d_P_startChains_36 : decode prog_5_method_4_code 36 = .ok (.aload_n 0, 1) := by decide +kernel
theorem d_P_startChains_37 : decode prog_5_method_4_code 37 = .ok (.getfield 37, 3) := by decide +kernel
theorem d_P_startChains_40 : decode prog_5_method_4_code 40 = .ok (.iload_n 3, 1) := by decide +kernel
theorem d_P_startChains_41 : decode prog_5_method_4_code 41 = .ok (.aload_n 1, 1) := by decide +kernel
theorem d_P_startChains_42 : decode prog_5_method_4_code 42 = .ok (.getfield 72, 3) := by decide +kernel
theorem d_P_startChains_45 : decode prog_5_method_4_code 45 = .ok (.iload_n 3, 1) := by decide +kernel
theorem d_P_startChains_46 : decode prog_5_method_4_code 46 = .ok (.iaload, 1) := by decide +kernel
theorem d_P_startChains_47 : decode prog_5_method_4_code 47 = .ok (.iastore, 1) := by decide +kernel
theorem d_P_startChains_48 : decode prog_5_method_4_code 48 = .ok (.iinc 3 1, 3) := by decide +kernel
theorem d_P_startChains_51 : decode prog_5_method_4_code 51 = .ok (.goto (-49), 3) := by decide +kernel
theorem d_P_startChains_54 : decode prog_5_method_4_code 54 = .ok (.return_, 1) := by decide +kernel
theorem d_P_sortEdges_0 : decode prog_5_method_5_code 0 = .ok (.iconst 0, 1) := by decide +kernel
theorem d_P_sortEdges_1 : decode prog_5_method_5_code 1 = .ok (.istore_n 3, 1) := by decide +kernel
theorem d_P_sortEdges_2 : decode prog_5_method_5_code 2 = .ok (.iconst 0, 1) := by decide +kernel
theorem d_P_sortEdges_3 : decode prog_5_method_5_code 3 = .ok (.istore 4, 2) := by decide +kernel
theorem d_P_sortEdges_5 : decode prog_5_method_5_code 5 = .ok (.iload 4, 2) := by decide +kernel
theorem d_P_sortEdges_7 : decode prog_5_method_5_code 7 = .ok (.iconst 2, 1) := by decide +kernel
theorem d_P_sortEdges_8 : decode prog_5_method_5_code 8 = .ok (.aload_n 1, 1) := by decide +kernel
theorem d_P_sortEdges_9 : decode prog_5_method_5_code 9 = .ok (.getfield 40, 3) := by decide +kernel
theorem d_P_sortEdges_12 : decode prog_5_method_5_code 12 = .ok (.imul, 1) := by decide +kernel
theorem d_P_sortEdges_13 : decode prog_5_method_5_code 13 = .ok (.if_icmp .ge 85, 3) := by decide +kernel
theorem d_P_sortEdges_16 : decode prog_5_method_5_code 16 = .ok (.aload_n 1, 1) := by decide +kernel
theorem d_P_sortEdges_17 : decode prog_5_method_5_code 17 = .ok (.aload_n 2, 1) := by decide +kernel
theorem d_P_sortEdges_18 : decode prog_5_method_5_code 18 = .ok (.iload 4, 2) := by decide +kernel
theorem d_P_sortEdges_20 : decode prog_5_method_5_code 20 = .ok (.invokestatic 75, 3) := by decide +kernel
theorem d_P_sortEdges_23 : decode prog_5_method_5_code 23 = .ok (.ifCond .eq 69, 3) := by decide +kernel
theorem d_P_sortEdges_26 : decode prog_5_method_5_code 26 = .ok (.iload_n 3, 1) := by decide +kernel
theorem d_P_sortEdges_27 : decode prog_5_method_5_code 27 = .ok (.istore 5, 2) := by decide +kernel
theorem d_P_sortEdges_29 : decode prog_5_method_5_code 29 = .ok (.iload 5, 2) := by decide +kernel
theorem d_P_sortEdges_31 : decode prog_5_method_5_code 31 = .ok (.ifCond .le 49, 3) := by decide +kernel
theorem d_P_sortEdges_34 : decode prog_5_method_5_code 34 = .ok (.aload_n 2, 1) := by decide +kernel
theorem d_P_sortEdges_35 : decode prog_5_method_5_code 35 = .ok (.getfield 79, 3) := by decide +kernel
theorem d_P_sortEdges_38 : decode prog_5_method_5_code 38 = .ok (.aload_n 0, 1) := by decide +kernel
theorem d_P_sortEdges_39 : decode prog_5_method_5_code 39 = .ok (.getfield 22, 3) := by decide +kernel
theorem d_P_sortEdges_42 : decode prog_5_method_5_code 42 = .ok (.iload 5, 2) := by decide +kernel
theorem d_P_sortEdges_44 : decode prog_5_method_5_code 44 = .ok (.iconst 1, 1) := by decide +kernel
theorem d_P_sortEdges_45 : decode prog_5_method_5_code 45 = .ok (.isub, 1) := by decide +kernel
theorem d_P_sortEdges_46 : decode prog_5_method_5_code 46 = .ok (.iaload, 1) := by decide +kernel
theorem d_P_sortEdges_47 : decode prog_5_method_5_code 47 = .ok (.iaload, 1) := by decide +kernel
theorem d_P_sortEdges_48 : decode prog_5_method_5_code 48 = .ok (.aload_n 2, 1) := by decide +kernel
theorem d_P_sortEdges_49 : decode prog_5_method_5_code 49 = .ok (.getfield 79, 3) := by decide +kernel
theorem d_P_sortEdges_52 : decode prog_5_method_5_code 52 = .ok (.iload 4, 2) := by decide +kernel
theorem d_P_sortEdges_54 : decode prog_5_method_5_code 54 = .ok (.iaload, 1) := by decide +kernel
theorem d_P_sortEdges_55 : decode prog_5_method_5_code 55 = .ok (.if_icmp .ge 25, 3) := by decide +kernel
theorem d_P_sortEdges_58 : decode prog_5_method_5_code 58 = .ok (.aload_n 0, 1) := by decide +kernel
theorem d_P_sortEdges_59 : decode prog_5_method_5_code 59 = .ok (.getfield 22, 3) := by decide +kernel
theorem d_P_sortEdges_62 : decode prog_5_method_5_code 62 = .ok (.iload 5, 2) := by decide +kernel
theorem d_P_sortEdges_64 : decode prog_5_method_5_code 64 = .ok (.aload_n 0, 1) := by decide +kernel
theorem d_P_sortEdges_65 : decode prog_5_method_5_code 65 = .ok (.getfield 22, 3) := by decide +kernel
theorem d_P_sortEdges_68 : decode prog_5_method_5_code 68 = .ok (.iload 5, 2) := by decide +kernel
theorem d_P_sortEdges_70 : decode prog_5_method_5_code 70 = .ok (.iconst 1, 1) := by decide +kernel
theorem d_P_sortEdges_71 : decode prog_5_method_5_code 71 = .ok (.isub, 1) := by decide +kernel
theorem d_P_sortEdges_72 : decode prog_5_method_5_code 72 = .ok (.iaload, 1) := by decide +kernel
theorem d_P_sortEdges_73 : decode prog_5_method_5_code 73 = .ok (.iastore, 1) := by decide +kernel
theorem d_P_sortEdges_74 : decode prog_5_method_5_code 74 = .ok (.iinc 5 (-1), 3) := by decide +kernel
theorem d_P_sortEdges_77 : decode prog_5_method_5_code 77 = .ok (.goto (-48), 3) := by decide +kernel
theorem d_P_sortEdges_80 : decode prog_5_method_5_code 80 = .ok (.aload_n 0, 1) := by decide +kernel
theorem d_P_sortEdges_81 : decode prog_5_method_5_code 81 = .ok (.getfield 22, 3) := by decide +kernel
theorem d_P_sortEdges_84 : decode prog_5_method_5_code 84 = .ok (.iload 5, 2) := by decide +kernel
theorem d_P_sortEdges_86 : decode prog_5_method_5_code 86 = .ok (.iload 4, 2) := by decide +kernel
theorem d_P_sortEdges_88 : decode prog_5_method_5_code 88 = .ok (.iastore, 1) := by decide +kernel
theorem d_P_sortEdges_89 : decode prog_5_method_5_code 89 = .ok (.iinc 3 1, 3) := by decide +kernel
theorem d_P_sortEdges_92 : decode prog_5_method_5_code 92 = .ok (.iinc 4 1, 3) := by decide +kernel
theorem d_P_sortEdges_95 : decode prog_5_method_5_code 95 = .ok (.goto (-90), 3) := by decide +kernel
theorem d_P_sortEdges_98 : decode prog_5_method_5_code 98 = .ok (.iload_n 3, 1) := by decide +kernel
theorem d_P_sortEdges_99 : decode prog_5_method_5_code 99 = .ok (.ireturn, 1) := by decide +kernel
theorem d_P_mayJoin_0 : decode prog_5_method_6_code 0 = .ok (.iload_n 2, 1) := by decide +kernel
theorem d_P_mayJoin_1 : decode prog_5_method_6_code 1 = .ok (.iconst 2, 1) := by decide +kernel
theorem d_P_mayJoin_2 : decode prog_5_method_6_code 2 = .ok (.irem, 1) := by decide +kernel
theorem d_P_mayJoin_3 : decode prog_5_method_6_code 3 = .ok (.aload_n 0, 1) := by decide +kernel
theorem d_P_mayJoin_4 : decode prog_5_method_6_code 4 = .ok (.getfield 82, 3) := by decide +kernel
theorem d_P_mayJoin_7 : decode prog_5_method_6_code 7 = .ok (.iload_n 2, 1) := by decide +kernel
theorem d_P_mayJoin_8 : decode prog_5_method_6_code 8 = .ok (.iconst 2, 1) := by decide +kernel
theorem d_P_mayJoin_9 : decode prog_5_method_6_code 9 = .ok (.idiv, 1) := by decide +kernel
theorem d_P_mayJoin_10 : decode prog_5_method_6_code 10 = .ok (.iaload, 1) := by decide +kernel
theorem d_P_mayJoin_11 : decode prog_5_method_6_code 11 = .ok (.if_icmp .ge 28, 3) := by decide +kernel
theorem d_P_mayJoin_14 : decode prog_5_method_6_code 14 = .ok (.aload_n 1, 1) := by decide +kernel
theorem d_P_mayJoin_15 : decode prog_5_method_6_code 15 = .ok (.getfield 79, 3) := by decide +kernel
theorem d_P_mayJoin_18 : decode prog_5_method_6_code 18 = .ok (.iload_n 2, 1) := by decide +kernel
theorem d_P_mayJoin_19 : decode prog_5_method_6_code 19 = .ok (.iaload, 1) := by decide +kernel
theorem d_P_mayJoin_20 : decode prog_5_method_6_code 20 = .ok (.ifCond .le 19, 3) := by decide +kernel
theorem d_P_mayJoin_23 : decode prog_5_method_6_code 23 = .ok (.aload_n 0, 1) := by decide +kernel
theorem d_P_mayJoin_24 : decode prog_5_method_6_code 24 = .ok (.getfield 53, 3) := by decide +kernel
theorem d_P_mayJoin_27 : decode prog_5_method_6_code 27 = .ok (.iload_n 2, 1) := by decide +kernel
theorem d_P_mayJoin_28 : decode prog_5_method_6_code 28 = .ok (.iaload, 1) := by decide +kernel
theorem d_P_mayJoin_29 : decode prog_5_method_6_code 29 = .ok (.iload_n 2, 1) := by decide +kernel
theorem d_P_mayJoin_30 : decode prog_5_method_6_code 30 = .ok (.iconst 2, 1) := by decide +kernel
theorem d_P_mayJoin_31 : decode prog_5_method_6_code 31 = .ok (.idiv, 1) := by decide +kernel
theorem d_P_mayJoin_32 : decode prog_5_method_6_code 32 = .ok (.if_icmp .eq 7, 3) := by decide +kernel
theorem d_P_mayJoin_35 : decode prog_5_method_6_code 35 = .ok (.iconst 1, 1) := by decide +kernel
theorem d_P_mayJoin_36 : decode prog_5_method_6_code 36 = .ok (.goto 4, 3) := by decide +kernel
theorem d_P_mayJoin_39 : decode prog_5_method_6_code 39 = .ok (.iconst 0, 1) := by decide +kernel
theorem d_P_mayJoin_40 : decode prog_5_method_6_code 40 = .ok (.ireturn, 1) := by decide +kernel
theorem d_P_joinAlong_0 : decode prog_5_method_7_code 0 = .ok (.aload_n 0, 1) := by decide +kernel
theorem d_P_joinAlong_1 : decode prog_5_method_7_code 1 = .ok (.getfield 28, 3) := by decide +kernel
theorem d_P_joinAlong_4 : decode prog_5_method_7_code 4 = .ok (.iload_n 2, 1) := by decide +kernel
theorem d_P_joinAlong_5 : decode prog_5_method_7_code 5 = .ok (.iaload, 1) := by decide +kernel
theorem d_P_joinAlong_6 : decode prog_5_method_7_code 6 = .ok (.istore 4, 2) := by decide +kernel
theorem d_P_joinAlong_8 : decode prog_5_method_7_code 8 = .ok (.aload_n 0, 1) := by decide +kernel
theorem d_P_joinAlong_9 : decode prog_5_method_7_code 9 = .ok (.getfield 31, 3) := by decide +kernel
theorem d_P_joinAlong_12 : decode prog_5_method_7_code 12 = .ok (.iload_n 2, 1) := by decide +kernel
theorem d_P_joinAlong_13 : decode prog_5_method_7_code 13 = .ok (.iaload, 1) := by decide +kernel
theorem d_P_joinAlong_14 : decode prog_5_method_7_code 14 = .ok (.iconst (-1), 1) := by decide +kernel
theorem d_P_joinAlong_15 : decode prog_5_method_7_code 15 = .ok (.if_icmp .ne 27, 3) := by decide +kernel
theorem d_P_joinAlong_18 : decode prog_5_method_7_code 18 = .ok (.aload_n 0, 1) := by decide +kernel
theorem d_P_joinAlong_19 : decode prog_5_method_7_code 19 = .ok (.getfield 28, 3) := by decide +kernel
theorem d_P_joinAlong_22 : decode prog_5_method_7_code 22 = .ok (.iload_n 3, 1) := by decide +kernel
theorem d_P_joinAlong_23 : decode prog_5_method_7_code 23 = .ok (.iaload, 1) := by decide +kernel
theorem d_P_joinAlong_24 : decode prog_5_method_7_code 24 = .ok (.iload_n 3, 1) := by decide +kernel
theorem d_P_joinAlong_25 : decode prog_5_method_7_code 25 = .ok (.if_icmp .ne 17, 3) := by decide +kernel
theorem d_P_joinAlong_28 : decode prog_5_method_7_code 28 = .ok (.iload 4, 2) := by decide +kernel
theorem d_P_joinAlong_30 : decode prog_5_method_7_code 30 = .ok (.iload_n 3, 1) := by decide +kernel
theorem d_P_joinAlong_31 : decode prog_5_method_7_code 31 = .ok (.if_icmp .eq 11, 3) := by decide +kernel
theorem d_P_joinAlong_34 : decode prog_5_method_7_code 34 = .ok (.aload_n 1, 1) := by decide +kernel
theorem d_P_joinAlong_35 : decode prog_5_method_7_code 35 = .ok (.iload_n 3, 1) := by decide +kernel
theorem d_P_joinAlong_36 : decode prog_5_method_7_code 36 = .ok (.invokevirtual 85, 3) := by decide +kernel
theorem d_P_joinAlong_39 : decode prog_5_method_7_code 39 = .ok (.ifCond .eq 4, 3) := by decide +kernel
theorem d_P_joinAlong_42 : decode prog_5_method_7_code 42 = .ok (.return_, 1) := by decide +kernel
theorem d_P_joinAlong_43 : decode prog_5_method_7_code 43 = .ok (.aload_n 0, 1) := by decide +kernel
theorem d_P_joinAlong_44 : decode prog_5_method_7_code 44 = .ok (.getfield 31, 3) := by decide +kernel
theorem d_P_joinAlong_47 : decode prog_5_method_7_code 47 = .ok (.iload_n 2, 1) := by decide +kernel
theorem d_P_joinAlong_48 : decode prog_5_method_7_code 48 = .ok (.iload_n 3, 1) := by decide +kernel
theorem d_P_joinAlong_49 : decode prog_5_method_7_code 49 = .ok (.iastore, 1) := by decide +kernel
theorem d_P_joinAlong_50 : decode prog_5_method_7_code 50 = .ok (.aload_n 0, 1) := by decide +kernel
theorem d_P_joinAlong_51 : decode prog_5_method_7_code 51 = .ok (.getfield 34, 3) := by decide +kernel
theorem d_P_joinAlong_54 : decode prog_5_method_7_code 54 = .ok (.iload 4, 2) := by decide +kernel
theorem d_P_joinAlong_56 : decode prog_5_method_7_code 56 = .ok (.dup2, 1) := by decide +kernel
theorem d_P_joinAlong_57 : decode prog_5_method_7_code 57 = .ok (.iaload, 1) := by decide +kernel
theorem d_P_joinAlong_58 : decode prog_5_method_7_code 58 = .ok (.aload_n 0, 1) := by decide +kernel
theorem d_P_joinAlong_59 : decode prog_5_method_7_code 59 = .ok (.getfield 34, 3) := by decide +kernel
theorem d_P_joinAlong_62 : decode prog_5_method_7_code 62 = .ok (.iload_n 3, 1) := by decide +kernel
theorem d_P_joinAlong_63 : decode prog_5_method_7_code 63 = .ok (.iaload, 1) := by decide +kernel
theorem d_P_joinAlong_64 : decode prog_5_method_7_code 64 = .ok (.iadd, 1) := by decide +kernel
theorem d_P_joinAlong_65 : decode prog_5_method_7_code 65 = .ok (.iastore, 1) := by decide +kernel
theorem d_P_joinAlong_66 : decode prog_5_method_7_code 66 = .ok (.aload_n 0, 1) := by decide +kernel
theorem d_P_joinAlong_67 : decode prog_5_method_7_code 67 = .ok (.getfield 37, 3) := by decide +kernel
theorem d_P_joinAlong_70 : decode prog_5_method_7_code 70 = .ok (.iload 4, 2) := by decide +kernel
theorem d_P_joinAlong_72 : decode prog_5_method_7_code 72 = .ok (.dup2, 1) := by decide +kernel
theorem d_P_joinAlong_73 : decode prog_5_method_7_code 73 = .ok (.iaload, 1) := by decide +kernel
theorem d_P_joinAlong_74 : decode prog_5_method_7_code 74 = .ok (.aload_n 0, 1) := by decide +kernel
theorem d_P_joinAlong_75 : decode prog_5_method_7_code 75 = .ok (.getfield 37, 3) := by decide +kernel
theorem d_P_joinAlong_78 : decode prog_5_method_7_code 78 = .ok (.iload_n 3, 1) := by decide +kernel
theorem d_P_joinAlong_79 : decode prog_5_method_7_code 79 = .ok (.iaload, 1) := by decide +kernel
theorem d_P_joinAlong_80 : decode prog_5_method_7_code 80 = .ok (.iadd, 1) := by decide +kernel
theorem d_P_joinAlong_81 : decode prog_5_method_7_code 81 = .ok (.iastore, 1) := by decide +kernel
theorem d_P_joinAlong_82 : decode prog_5_method_7_code 82 = .ok (.iconst 0, 1) := by decide +kernel
theorem d_P_joinAlong_83 : decode prog_5_method_7_code 83 = .ok (.istore 5, 2) := by decide +kernel
theorem d_P_joinAlong_85 : decode prog_5_method_7_code 85 = .ok (.iload 5, 2) := by decide +kernel
theorem d_P_joinAlong_87 : decode prog_5_method_7_code 87 = .ok (.aload_n 1, 1) := by decide +kernel
theorem d_P_joinAlong_88 : decode prog_5_method_7_code 88 = .ok (.getfield 40, 3) := by decide +kernel
theorem d_P_joinAlong_91 : decode prog_5_method_7_code 91 = .ok (.if_icmp .ge 29, 3) := by decide +kernel
theorem d_P_joinAlong_94 : decode prog_5_method_7_code 94 = .ok (.aload_n 0, 1) := by decide +kernel
theorem d_P_joinAlong_95 : decode prog_5_method_7_code 95 = .ok (.getfield 28, 3) := by decide +kernel
theorem d_P_joinAlong_98 : decode prog_5_method_7_code 98 = .ok (.iload 5, 2) := by decide +kernel
theorem d_P_joinAlong_100 : decode prog_5_method_7_code 100 = .ok (.iaload, 1) := by decide +kernel
theorem d_P_joinAlong_101 : decode prog_5_method_7_code 101 = .ok (.iload_n 3, 1) := by decide +kernel
theorem d_P_joinAlong_102 : decode prog_5_method_7_code 102 = .ok (.if_icmp .ne 12, 3) := by decide +kernel
theorem d_P_joinAlong_105 : decode prog_5_method_7_code 105 = .ok (.aload_n 0, 1) := by decide +kernel
theorem d_P_joinAlong_106 : decode prog_5_method_7_code 106 = .ok (.getfield 28, 3) := by decide +kernel
theorem d_P_joinAlong_109 : decode prog_5_method_7_code 109 = .ok (.iload 5, 2) := by decide +kernel
theorem d_P_joinAlong_111 : decode prog_5_method_7_code 111 = .ok (.iload 4, 2) := by decide +kernel
theorem d_P_joinAlong_113 : decode prog_5_method_7_code 113 = .ok (.iastore, 1) := by decide +kernel
theorem d_P_joinAlong_114 : decode prog_5_method_7_code 114 = .ok (.iinc 5 1, 3) := by decide +kernel
theorem d_P_joinAlong_117 : decode prog_5_method_7_code 117 = .ok (.goto (-32), 3) := by decide +kernel
theorem d_P_joinAlong_120 : decode prog_5_method_7_code 120 = .ok (.return_, 1) := by decide +kernel
theorem d_P_sortHeads_0 : decode prog_5_method_8_code 0 = .ok (.aload_n 0, 1) := by decide +kernel
theorem d_P_sortHeads_1 : decode prog_5_method_8_code 1 = .ok (.iconst 0, 1) := by decide +kernel
theorem d_P_sortHeads_2 : decode prog_5_method_8_code 2 = .ok (.putfield 15, 3) := by decide +kernel
theorem d_P_sortHeads_5 : decode prog_5_method_8_code 5 = .ok (.iconst 0, 1) := by decide +kernel
theorem d_P_sortHeads_6 : decode prog_5_method_8_code 6 = .ok (.istore_n 2, 1) := by decide +kernel
theorem d_P_sortHeads_7 : decode prog_5_method_8_code 7 = .ok (.iload_n 2, 1) := by decide +kernel
theorem d_P_sortHeads_8 : decode prog_5_method_8_code 8 = .ok (.aload_n 1, 1) := by decide +kernel
theorem d_P_sortHeads_9 : decode prog_5_method_8_code 9 = .ok (.getfield 40, 3) := by decide +kernel
theorem d_P_sortHeads_12 : decode prog_5_method_8_code 12 = .ok (.if_icmp .ge 82, 3) := by decide +kernel
theorem d_P_sortHeads_15 : decode prog_5_method_8_code 15 = .ok (.aload_n 0, 1) := by decide +kernel
theorem d_P_sortHeads_16 : decode prog_5_method_8_code 16 = .ok (.getfield 28, 3) := by decide +kernel
theorem d_P_sortHeads_19 : decode prog_5_method_8_code 19 = .ok (.iload_n 2, 1) := by decide +kernel
theorem d_P_sortHeads_20 : decode prog_5_method_8_code 20 = .ok (.iaload, 1) := by decide +kernel
theorem d_P_sortHeads_21 : decode prog_5_method_8_code 21 = .ok (.iload_n 2, 1) := by decide +kernel
theorem d_P_sortHeads_22 : decode prog_5_method_8_code 22 = .ok (.if_icmp .ne 66, 3) := by decide +kernel
theorem d_P_sortHeads_25 : decode prog_5_method_8_code 25 = .ok (.aload_n 0, 1) := by decide +kernel
theorem d_P_sortHeads_26 : decode prog_5_method_8_code 26 = .ok (.getfield 15, 3) := by decide +kernel
theorem d_P_sortHeads_29 : decode prog_5_method_8_code 29 = .ok (.istore_n 3, 1) := by decide +kernel
theorem d_P_sortHeads_30 : decode prog_5_method_8_code 30 = .ok (.iload_n 3, 1) := by decide +kernel
theorem d_P_sortHeads_31 : decode prog_5_method_8_code 31 = .ok (.ifCond .le 40, 3) := by decide +kernel
theorem d_P_sortHeads_34 : decode prog_5_method_8_code 34 = .ok (.aload_n 0, 1) := by decide +kernel
theorem d_P_sortHeads_35 : decode prog_5_method_8_code 35 = .ok (.aload_n 1, 1) := by decide +kernel
theorem d_P_sortHeads_36 : decode prog_5_method_8_code 36 = .ok (.iload_n 2, 1) := by decide +kernel
theorem d_P_sortHeads_37 : decode prog_5_method_8_code 37 = .ok (.aload_n 0, 1) := by decide +kernel
theorem d_P_sortHeads_38 : decode prog_5_method_8_code 38 = .ok (.getfield 25, 3) := by decide +kernel
theorem d_P_sortHeads_41 : decode prog_5_method_8_code 41 = .ok (.iload_n 3, 1) := by decide +kernel
theorem d_P_sortHeads_42 : decode prog_5_method_8_code 42 = .ok (.iconst 1, 1) := by decide +kernel
theorem d_P_sortHeads_43 : decode prog_5_method_8_code 43 = .ok (.isub, 1) := by decide +kernel
theorem d_P_sortHeads_44 : decode prog_5_method_8_code 44 = .ok (.iaload, 1) := by decide +kernel
theorem d_P_sortHeads_45 : decode prog_5_method_8_code 45 = .ok (.invokevirtual 89, 3) := by decide +kernel
theorem d_P_sortHeads_48 : decode prog_5_method_8_code 48 = .ok (.ifCond .eq 23, 3) := by decide +kernel
theorem d_P_sortHeads_51 : decode prog_5_method_8_code 51 = .ok (.aload_n 0, 1) := by decide +kernel
theorem d_P_sortHeads_52 : decode prog_5_method_8_code 52 = .ok (.getfield 25, 3) := by decide +kernel
theorem d_P_sortHeads_55 : decode prog_5_method_8_code 55 = .ok (.iload_n 3, 1) := by decide +kernel
theorem d_P_sortHeads_56 : decode prog_5_method_8_code 56 = .ok (.aload_n 0, 1) := by decide +kernel
theorem d_P_sortHeads_57 : decode prog_5_method_8_code 57 = .ok (.getfield 25, 3) := by decide +kernel
theorem d_P_sortHeads_60 : decode prog_5_method_8_code 60 = .ok (.iload_n 3, 1) := by decide +kernel
theorem d_P_sortHeads_61 : decode prog_5_method_8_code 61 = .ok (.iconst 1, 1) := by decide +kernel
theorem d_P_sortHeads_62 : decode prog_5_method_8_code 62 = .ok (.isub, 1) := by decide +kernel
theorem d_P_sortHeads_63 : decode prog_5_method_8_code 63 = .ok (.iaload, 1) := by decide +kernel
theorem d_P_sortHeads_64 : decode prog_5_method_8_code 64 = .ok (.iastore, 1) := by decide +kernel
theorem d_P_sortHeads_65 : decode prog_5_method_8_code 65 = .ok (.iinc 3 (-1), 3) := by decide +kernel
theorem d_P_sortHeads_68 : decode prog_5_method_8_code 68 = .ok (.goto (-38), 3) := by decide +kernel
theorem d_P_sortHeads_71 : decode prog_5_method_8_code 71 = .ok (.aload_n 0, 1) := by decide +kernel
theorem d_P_sortHeads_72 : decode prog_5_method_8_code 72 = .ok (.getfield 25, 3) := by decide +kernel
theorem d_P_sortHeads_75 : decode prog_5_method_8_code 75 = .ok (.iload_n 3, 1) := by decide +kernel
theorem d_P_sortHeads_76 : decode prog_5_method_8_code 76 = .ok (.iload_n 2, 1) := by decide +kernel
theorem d_P_sortHeads_77 : decode prog_5_method_8_code 77 = .ok (.iastore, 1) := by decide +kernel
theorem d_P_sortHeads_78 : decode prog_5_method_8_code 78 = .ok (.aload_n 0, 1) := by decide +kernel
theorem d_P_sortHeads_79 : decode prog_5_method_8_code 79 = .ok (.dup, 1) := by decide +kernel
theorem d_P_sortHeads_80 : decode prog_5_method_8_code 80 = .ok (.getfield 15, 3) := by decide +kernel
theorem d_P_sortHeads_83 : decode prog_5_method_8_code 83 = .ok (.iconst 1, 1) := by decide +kernel
theorem d_P_sortHeads_84 : decode prog_5_method_8_code 84 = .ok (.iadd, 1) := by decide +kernel
theorem d_P_sortHeads_85 : decode prog_5_method_8_code 85 = .ok (.putfield 15, 3) := by decide +kernel
theorem d_P_sortHeads_88 : decode prog_5_method_8_code 88 = .ok (.iinc 2 1, 3) := by decide +kernel
theorem d_P_sortHeads_91 : decode prog_5_method_8_code 91 = .ok (.goto (-84), 3) := by decide +kernel
theorem d_P_sortHeads_94 : decode prog_5_method_8_code 94 = .ok (.return_, 1) := by decide +kernel
theorem d_P_comesBefore_0 : decode prog_5_method_9_code 0 = .ok (.aload_n 0, 1) := by decide +kernel
theorem d_P_comesBefore_1 : decode prog_5_method_9_code 1 = .ok (.aload_n 1, 1) := by decide +kernel
theorem d_P_comesBefore_2 : decode prog_5_method_9_code 2 = .ok (.iload_n 2, 1) := by decide +kernel
theorem d_P_comesBefore_3 : decode prog_5_method_9_code 3 = .ok (.invokevirtual 93, 3) := by decide +kernel
theorem d_P_comesBefore_6 : decode prog_5_method_9_code 6 = .ok (.aload_n 0, 1) := by decide +kernel
theorem d_P_comesBefore_7 : decode prog_5_method_9_code 7 = .ok (.aload_n 1, 1) := by decide +kernel
theorem d_P_comesBefore_8 : decode prog_5_method_9_code 8 = .ok (.iload_n 3, 1) := by decide +kernel
theorem d_P_comesBefore_9 : decode prog_5_method_9_code 9 = .ok (.invokevirtual 93, 3) := by decide +kernel
theorem d_P_comesBefore_12 : decode prog_5_method_9_code 12 = .ok (.if_icmp .eq 10, 3) := by decide +kernel
theorem d_P_comesBefore_15 : decode prog_5_method_9_code 15 = .ok (.aload_n 0, 1) := by decide +kernel
theorem d_P_comesBefore_16 : decode prog_5_method_9_code 16 = .ok (.aload_n 1, 1) := by decide +kernel
theorem d_P_comesBefore_17 : decode prog_5_method_9_code 17 = .ok (.iload_n 3, 1) := by decide +kernel
theorem d_P_comesBefore_18 : decode prog_5_method_9_code 18 = .ok (.invokevirtual 93, 3) := by decide +kernel
theorem d_P_comesBefore_21 : decode prog_5_method_9_code 21 = .ok (.ireturn, 1) := by decide +kernel
theorem d_P_comesBefore_22 : decode prog_5_method_9_code 22 = .ok (.aload_n 1, 1) := by decide +kernel
theorem d_P_comesBefore_23 : decode prog_5_method_9_code 23 = .ok (.getfield 97, 3) := by decide +kernel
theorem d_P_comesBefore_26 : decode prog_5_method_9_code 26 = .ok (.iload_n 2, 1) := by decide +kernel
theorem d_P_comesBefore_27 : decode prog_5_method_9_code 27 = .ok (.iaload, 1) := by decide +kernel
theorem d_P_comesBefore_28 : decode prog_5_method_9_code 28 = .ok (.aload_n 1, 1) := by decide +kernel
theorem d_P_comesBefore_29 : decode prog_5_method_9_code 29 = .ok (.getfield 97, 3) := by decide +kernel
theorem d_P_comesBefore_32 : decode prog_5_method_9_code 32 = .ok (.iload_n 3, 1) := by decide +kernel
theorem d_P_comesBefore_33 : decode prog_5_method_9_code 33 = .ok (.iaload, 1) := by decide +kernel
theorem d_P_comesBefore_34 : decode prog_5_method_9_code 34 = .ok (.if_icmp .eq 24, 3) := by decide +kernel
theorem d_P_comesBefore_37 : decode prog_5_method_9_code 37 = .ok (.aload_n 1, 1) := by decide +kernel
theorem d_P_comesBefore_38 : decode prog_5_method_9_code 38 = .ok (.getfield 97, 3) := by decide +kernel
theorem d_P_comesBefore_41 : decode prog_5_method_9_code 41 = .ok (.iload_n 2, 1) := by decide +kernel
theorem d_P_comesBefore_42 : decode prog_5_method_9_code 42 = .ok (.iaload, 1) := by decide +kernel
theorem d_P_comesBefore_43 : decode prog_5_method_9_code 43 = .ok (.aload_n 1, 1) := by decide +kernel
theorem d_P_comesBefore_44 : decode prog_5_method_9_code 44 = .ok (.getfield 97, 3) := by decide +kernel
theorem d_P_comesBefore_47 : decode prog_5_method_9_code 47 = .ok (.iload_n 3, 1) := by decide +kernel
theorem d_P_comesBefore_48 : decode prog_5_method_9_code 48 = .ok (.iaload, 1) := by decide +kernel
theorem d_P_comesBefore_49 : decode prog_5_method_9_code 49 = .ok (.if_icmp .ge 7, 3) := by decide +kernel
theorem d_P_comesBefore_52 : decode prog_5_method_9_code 52 = .ok (.iconst 1, 1) := by decide +kernel
theorem d_P_comesBefore_53 : decode prog_5_method_9_code 53 = .ok (.goto 4, 3) := by decide +kernel
theorem d_P_comesBefore_56 : decode prog_5_method_9_code 56 = .ok (.iconst 0, 1) := by decide +kernel
theorem d_P_comesBefore_57 : decode prog_5_method_9_code 57 = .ok (.ireturn, 1) := by decide +kernel
theorem d_P_comesBefore_58 : decode prog_5_method_9_code 58 = .ok (.aload_n 1, 1) := by decide +kernel
theorem d_P_comesBefore_59 : decode prog_5_method_9_code 59 = .ok (.iload_n 2, 1) := by decide +kernel
theorem d_P_comesBefore_60 : decode prog_5_method_9_code 60 = .ok (.invokevirtual 85, 3) := by decide +kernel
theorem d_P_comesBefore_63 : decode prog_5_method_9_code 63 = .ok (.aload_n 1, 1) := by decide +kernel
theorem d_P_comesBefore_64 : decode prog_5_method_9_code 64 = .ok (.iload_n 3, 1) := by decide +kernel
theorem d_P_comesBefore_65 : decode prog_5_method_9_code 65 = .ok (.invokevirtual 85, 3) := by decide +kernel
theorem d_P_comesBefore_68 : decode prog_5_method_9_code 68 = .ok (.if_icmp .eq 9, 3) := by decide +kernel
theorem d_P_comesBefore_71 : decode prog_5_method_9_code 71 = .ok (.aload_n 1, 1) := by decide +kernel
theorem d_P_comesBefore_72 : decode prog_5_method_9_code 72 = .ok (.iload_n 2, 1) := by decide +kernel
theorem d_P_comesBefore_73 : decode prog_5_method_9_code 73 = .ok (.invokevirtual 85, 3) := by decide +kernel
theorem d_P_comesBefore_76 : decode prog_5_method_9_code 76 = .ok (.ireturn, 1) := by decide +kernel
theorem d_P_comesBefore_77 : decode prog_5_method_9_code 77 = .ok (.aload_n 0, 1) := by decide +kernel
theorem d_P_comesBefore_78 : decode prog_5_method_9_code 78 = .ok (.getfield 34, 3) := by decide +kernel
theorem d_P_comesBefore_81 : decode prog_5_method_9_code 81 = .ok (.iload_n 2, 1) := by decide +kernel
theorem d_P_comesBefore_82 : decode prog_5_method_9_code 82 = .ok (.iaload, 1) := by decide +kernel
theorem d_P_comesBefore_83 : decode prog_5_method_9_code 83 = .ok (.i2l, 1) := by decide +kernel
theorem d_P_comesBefore_84 : decode prog_5_method_9_code 84 = .ok (.aload_n 0, 1) := by decide +kernel
theorem d_P_comesBefore_85 : decode prog_5_method_9_code 85 = .ok (.getfield 37, 3) := by decide +kernel
theorem d_P_comesBefore_88 : decode prog_5_method_9_code 88 = .ok (.iload_n 3, 1) := by decide +kernel
theorem d_P_comesBefore_89 : decode prog_5_method_9_code 89 = .ok (.iaload, 1) := by decide +kernel
theorem d_P_comesBefore_90 : decode prog_5_method_9_code 90 = .ok (.i2l, 1) := by decide +kernel
theorem d_P_comesBefore_91 : decode prog_5_method_9_code 91 = .ok (.lmul, 1) := by decide +kernel
theorem d_P_comesBefore_92 : decode prog_5_method_9_code 92 = .ok (.lstore 4, 2) := by decide +kernel
theorem d_P_comesBefore_94 : decode prog_5_method_9_code 94 = .ok (.aload_n 0, 1) := by decide +kernel
theorem d_P_comesBefore_95 : decode prog_5_method_9_code 95 = .ok (.getfield 34, 3) := by decide +kernel
theorem d_P_comesBefore_98 : decode prog_5_method_9_code 98 = .ok (.iload_n 3, 1) := by decide +kernel
theorem d_P_comesBefore_99 : decode prog_5_method_9_code 99 = .ok (.iaload, 1) := by decide +kernel
theorem d_P_comesBefore_100 : decode prog_5_method_9_code 100 = .ok (.i2l, 1) := by decide +kernel
theorem d_P_comesBefore_101 : decode prog_5_method_9_code 101 = .ok (.aload_n 0, 1) := by decide +kernel
theorem d_P_comesBefore_102 : decode prog_5_method_9_code 102 = .ok (.getfield 37, 3) := by decide +kernel
theorem d_P_comesBefore_105 : decode prog_5_method_9_code 105 = .ok (.iload_n 2, 1) := by decide +kernel
theorem d_P_comesBefore_106 : decode prog_5_method_9_code 106 = .ok (.iaload, 1) := by decide +kernel
theorem d_P_comesBefore_107 : decode prog_5_method_9_code 107 = .ok (.i2l, 1) := by decide +kernel
theorem d_P_comesBefore_108 : decode prog_5_method_9_code 108 = .ok (.lmul, 1) := by decide +kernel
theorem d_P_comesBefore_109 : decode prog_5_method_9_code 109 = .ok (.lstore 6, 2) := by decide +kernel
theorem d_P_comesBefore_111 : decode prog_5_method_9_code 111 = .ok (.lload 4, 2) := by decide +kernel
theorem d_P_comesBefore_113 : decode prog_5_method_9_code 113 = .ok (.lload 6, 2) := by decide +kernel
theorem d_P_comesBefore_115 : decode prog_5_method_9_code 115 = .ok (.lcmp, 1) := by decide +kernel
theorem d_P_comesBefore_116 : decode prog_5_method_9_code 116 = .ok (.ifCond .eq 19, 3) := by decide +kernel
theorem d_P_comesBefore_119 : decode prog_5_method_9_code 119 = .ok (.lload 4, 2) := by decide +kernel
theorem d_P_comesBefore_121 : decode prog_5_method_9_code 121 = .ok (.lload 6, 2) := by decide +kernel
theorem d_P_comesBefore_123 : decode prog_5_method_9_code 123 = .ok (.lcmp, 1) := by decide +kernel
theorem d_P_comesBefore_124 : decode prog_5_method_9_code 124 = .ok (.ifCond .le 7, 3) := by decide +kernel
theorem d_P_comesBefore_127 : decode prog_5_method_9_code 127 = .ok (.iconst 1, 1) := by decide +kernel
theorem d_P_comesBefore_128 : decode prog_5_method_9_code 128 = .ok (.goto 17, 3) := by decide +kernel
theorem d_P_comesBefore_131 : decode prog_5_method_9_code 131 = .ok (.iconst 0, 1) := by decide +kernel
theorem d_P_comesBefore_132 : decode prog_5_method_9_code 132 = .ok (.goto 13, 3) := by decide +kernel
theorem d_P_comesBefore_135 : decode prog_5_method_9_code 135 = .ok (.iload_n 2, 1) := by decide +kernel
theorem d_P_comesBefore_136 : decode prog_5_method_9_code 136 = .ok (.iload_n 3, 1) := by decide +kernel
theorem d_P_comesBefore_137 : decode prog_5_method_9_code 137 = .ok (.if_icmp .ge 7, 3) := by decide +kernel
theorem d_P_comesBefore_140 : decode prog_5_method_9_code 140 = .ok (.iconst 1, 1) := by decide +kernel
theorem d_P_comesBefore_141 : decode prog_5_method_9_code 141 = .ok (.goto 4, 3) := by decide +kernel
theorem d_P_comesBefore_144 : decode prog_5_method_9_code 144 = .ok (.iconst 0, 1) := by decide +kernel
theorem d_P_comesBefore_145 : decode prog_5_method_9_code 145 = .ok (.ireturn, 1) := by decide +kernel
theorem d_P_isCold_0 : decode prog_5_method_10_code 0 = .ok (.aload_n 0, 1) := by decide +kernel
theorem d_P_isCold_1 : decode prog_5_method_10_code 1 = .ok (.getfield 34, 3) := by decide +kernel
theorem d_P_isCold_4 : decode prog_5_method_10_code 4 = .ok (.iload_n 2, 1) := by decide +kernel
theorem d_P_isCold_5 : decode prog_5_method_10_code 5 = .ok (.iaload, 1) := by decide +kernel
theorem d_P_isCold_6 : decode prog_5_method_10_code 6 = .ok (.ifCond .ne 15, 3) := by decide +kernel
theorem d_P_isCold_9 : decode prog_5_method_10_code 9 = .ok (.aload_n 1, 1) := by decide +kernel
theorem d_P_isCold_10 : decode prog_5_method_10_code 10 = .ok (.iload_n 2, 1) := by decide +kernel
theorem d_P_isCold_11 : decode prog_5_method_10_code 11 = .ok (.invokevirtual 85, 3) := by decide +kernel
theorem d_P_isCold_14 : decode prog_5_method_10_code 14 = .ok (.ifCond .ne 7, 3) := by decide +kernel
theorem d_P_isCold_17 : decode prog_5_method_10_code 17 = .ok (.iconst 1, 1) := by decide +kernel
theorem d_P_isCold_18 : decode prog_5_method_10_code 18 = .ok (.goto 4, 3) := by decide +kernel
theorem d_P_isCold_21 : decode prog_5_method_10_code 21 = .ok (.iconst 0, 1) := by decide +kernel
theorem d_P_isCold_22 : decode prog_5_method_10_code 22 = .ok (.ireturn, 1) := by decide +kernel
theorem d_P_writeOrder_0 : decode prog_5_method_11_code 0 = .ok (.iconst 0, 1) := by decide +kernel
theorem d_P_writeOrder_1 : decode prog_5_method_11_code 1 = .ok (.istore_n 2, 1) := by decide +kernel
theorem d_P_writeOrder_2 : decode prog_5_method_11_code 2 = .ok (.aload_n 0, 1) := by decide +kernel
theorem d_P_writeOrder_3 : decode prog_5_method_11_code 3 = .ok (.iconst 0, 1) := by decide +kernel
theorem d_P_writeOrder_4 : decode prog_5_method_11_code 4 = .ok (.putfield 19, 3) := by decide +kernel
theorem d_P_writeOrder_7 : decode prog_5_method_11_code 7 = .ok (.iconst 0, 1) := by decide +kernel
theorem d_P_writeOrder_8 : decode prog_5_method_11_code 8 = .ok (.istore_n 3, 1) := by decide +kernel
theorem d_P_writeOrder_9 : decode prog_5_method_11_code 9 = .ok (.iload_n 3, 1) := by decide +kernel
theorem d_P_writeOrder_10 : decode prog_5_method_11_code 10 = .ok (.aload_n 0, 1) := by decide +kernel
theorem d_P_writeOrder_11 : decode prog_5_method_11_code 11 = .ok (.getfield 15, 3) := by decide +kernel
theorem d_P_writeOrder_14 : decode prog_5_method_11_code 14 = .ok (.if_icmp .ge 86, 3) := by decide +kernel
theorem d_P_writeOrder_17 : decode prog_5_method_11_code 17 = .ok (.aload_n 0, 1) := by decide +kernel
theorem d_P_writeOrder_18 : decode prog_5_method_11_code 18 = .ok (.aload_n 1, 1) := by decide +kernel
theorem d_P_writeOrder_19 : decode prog_5_method_11_code 19 = .ok (.aload_n 0, 1) := by decide +kernel
theorem d_P_writeOrder_20 : decode prog_5_method_11_code 20 = .ok (.getfield 25, 3) := by decide +kernel
theorem d_P_writeOrder_23 : decode prog_5_method_11_code 23 = .ok (.iload_n 3, 1) := by decide +kernel
theorem d_P_writeOrder_24 : decode prog_5_method_11_code 24 = .ok (.iaload, 1) := by decide +kernel
theorem d_P_writeOrder_25 : decode prog_5_method_11_code 25 = .ok (.invokevirtual 93, 3) := by decide +kernel
theorem d_P_writeOrder_28 : decode prog_5_method_11_code 28 = .ok (.istore 4, 2) := by decide +kernel
theorem d_P_writeOrder_30 : decode prog_5_method_11_code 30 = .ok (.aload_n 0, 1) := by decide +kernel
theorem d_P_writeOrder_31 : decode prog_5_method_11_code 31 = .ok (.getfield 25, 3) := by decide +kernel
theorem d_P_writeOrder_34 : decode prog_5_method_11_code 34 = .ok (.iload_n 3, 1) := by decide +kernel
theorem d_P_writeOrder_35 : decode prog_5_method_11_code 35 = .ok (.iaload, 1) := by decide +kernel
theorem d_P_writeOrder_36 : decode prog_5_method_11_code 36 = .ok (.istore 5, 2) := by decide +kernel
theorem d_P_writeOrder_38 : decode prog_5_method_11_code 38 = .ok (.iload 5, 2) := by decide +kernel
theorem d_P_writeOrder_40 : decode prog_5_method_11_code 40 = .ok (.iconst (-1), 1) := by decide +kernel
theorem d_P_writeOrder_41 : decode prog_5_method_11_code 41 = .ok (.if_icmp .eq 53, 3) := by decide +kernel
theorem d_P_writeOrder_44 : decode prog_5_method_11_code 44 = .ok (.iload_n 2, 1) := by decide +kernel
theorem d_P_writeOrder_45 : decode prog_5_method_11_code 45 = .ok (.aload_n 1, 1) := by decide +kernel
theorem d_P_writeOrder_46 : decode prog_5_method_11_code 46 = .ok (.getfield 40, 3) := by decide +kernel
theorem d_P_writeOrder_49 : decode prog_5_method_11_code 49 = .ok (.if_icmp .ge 45, 3) := by decide +kernel
theorem d_P_writeOrder_52 : decode prog_5_method_11_code 52 = .ok (.aload_n 0, 1) := by decide +kernel
theorem d_P_writeOrder_53 : decode prog_5_method_11_code 53 = .ok (.getfield 9, 3) := by decide +kernel
theorem d_P_writeOrder_56 : decode prog_5_method_11_code 56 = .ok (.iload_n 2, 1) := by decide +kernel
theorem d_P_writeOrder_57 : decode prog_5_method_11_code 57 = .ok (.iload 5, 2) := by decide +kernel
theorem d_P_writeOrder_59 : decode prog_5_method_11_code 59 = .ok (.iastore, 1) := by decide +kernel
theorem d_P_writeOrder_60 : decode prog_5_method_11_code 60 = .ok (.iinc 2 1, 3) := by decide +kernel
theorem d_P_writeOrder_63 : decode prog_5_method_11_code 63 = .ok (.aload_n 0, 1) := by decide +kernel
theorem d_P_writeOrder_64 : decode prog_5_method_11_code 64 = .ok (.dup, 1) := by decide +kernel
theorem d_P_writeOrder_65 : decode prog_5_method_11_code 65 = .ok (.getfield 19, 3) := by decide +kernel
theorem d_P_writeOrder_68 : decode prog_5_method_11_code 68 = .ok (.iload 4, 2) := by decide +kernel
theorem d_P_writeOrder_70 : decode prog_5_method_11_code 70 = .ok (.ifCond .eq 7, 3) := by decide +kernel
theorem d_P_writeOrder_73 : decode prog_5_method_11_code 73 = .ok (.iconst 1, 1) := by decide +kernel
theorem d_P_writeOrder_74 : decode prog_5_method_11_code 74 = .ok (.goto 4, 3) := by decide +kernel
theorem d_P_writeOrder_77 : decode prog_5_method_11_code 77 = .ok (.iconst 0, 1) := by decide +kernel
theorem d_P_writeOrder_78 : decode prog_5_method_11_code 78 = .ok (.iadd, 1) := by decide +kernel
theorem d_P_writeOrder_79 : decode prog_5_method_11_code 79 = .ok (.putfield 19, 3) := by decide +kernel
theorem d_P_writeOrder_82 : decode prog_5_method_11_code 82 = .ok (.aload_n 0, 1) := by decide +kernel
theorem d_P_writeOrder_83 : decode prog_5_method_11_code 83 = .ok (.getfield 31, 3) := by decide +kernel
theorem d_P_writeOrder_86 : decode prog_5_method_11_code 86 = .ok (.iload 5, 2) := by decide +kernel
theorem d_P_writeOrder_88 : decode prog_5_method_11_code 88 = .ok (.iaload, 1) := by decide +kernel
theorem d_P_writeOrder_89 : decode prog_5_method_11_code 89 = .ok (.istore 5, 2) := by decide +kernel
theorem d_P_writeOrder_91 : decode prog_5_method_11_code 91 = .ok (.goto (-53), 3) := by decide +kernel
theorem d_P_writeOrder_94 : decode prog_5_method_11_code 94 = .ok (.iinc 3 1, 3) := by decide +kernel
theorem d_P_writeOrder_97 : decode prog_5_method_11_code 97 = .ok (.goto (-88), 3) := by decide +kernel
theorem d_P_writeOrder_100 : decode prog_5_method_11_code 100 = .ok (.return_, 1) := by decide +kernel
theorem d_C_lay_0 : decode prog_2_method_2_code 0 = .ok (.aload_n 0, 1) := by decide +kernel
theorem d_C_lay_1 : decode prog_2_method_2_code 1 = .ok (.iconst 0, 1) := by decide +kernel
theorem d_C_lay_2 : decode prog_2_method_2_code 2 = .ok (.putfield 29, 3) := by decide +kernel
theorem d_C_lay_5 : decode prog_2_method_2_code 5 = .ok (.aload_n 0, 1) := by decide +kernel
theorem d_C_lay_6 : decode prog_2_method_2_code 6 = .ok (.iconst 0, 1) := by decide +kernel
theorem d_C_lay_7 : decode prog_2_method_2_code 7 = .ok (.putfield 32, 3) := by decide +kernel
theorem d_C_lay_10 : decode prog_2_method_2_code 10 = .ok (.iconst 0, 1) := by decide +kernel
theorem d_C_lay_11 : decode prog_2_method_2_code 11 = .ok (.istore 4, 2) := by decide +kernel
theorem d_C_lay_13 : decode prog_2_method_2_code 13 = .ok (.iload 4, 2) := by decide +kernel
theorem d_C_lay_15 : decode prog_2_method_2_code 15 = .ok (.aload_n 1, 1) := by decide +kernel
theorem d_C_lay_16 : decode prog_2_method_2_code 16 = .ok (.getfield 35, 3) := by decide +kernel
theorem d_C_lay_19 : decode prog_2_method_2_code 19 = .ok (.if_icmp .ge 39, 3) := by decide +kernel
theorem d_C_lay_22 : decode prog_2_method_2_code 22 = .ok (.aload_n 0, 1) := by decide +kernel
theorem d_C_lay_23 : decode prog_2_method_2_code 23 = .ok (.aload_n 1, 1) := by decide +kernel
theorem d_C_lay_24 : decode prog_2_method_2_code 24 = .ok (.aload_n 2, 1) := by decide +kernel
theorem d_C_lay_25 : decode prog_2_method_2_code 25 = .ok (.iload 4, 2) := by decide +kernel
theorem d_C_lay_27 : decode prog_2_method_2_code 27 = .ok (.iaload, 1) := by decide +kernel
theorem d_C_lay_28 : decode prog_2_method_2_code 28 = .ok (.iload 4, 2) := by decide +kernel
theorem d_C_lay_30 : decode prog_2_method_2_code 30 = .ok (.iconst 1, 1) := by decide +kernel
theorem d_C_lay_31 : decode prog_2_method_2_code 31 = .ok (.iadd, 1) := by decide +kernel
theorem d_C_lay_32 : decode prog_2_method_2_code 32 = .ok (.aload_n 1, 1) := by decide +kernel
theorem d_C_lay_33 : decode prog_2_method_2_code 33 = .ok (.getfield 35, 3) := by decide +kernel
theorem d_C_lay_36 : decode prog_2_method_2_code 36 = .ok (.if_icmp .ge 12, 3) := by decide +kernel
theorem d_C_lay_39 : decode prog_2_method_2_code 39 = .ok (.aload_n 2, 1) := by decide +kernel
theorem d_C_lay_40 : decode prog_2_method_2_code 40 = .ok (.iload 4, 2) := by decide +kernel
theorem d_C_lay_42 : decode prog_2_method_2_code 42 = .ok (.iconst 1, 1) := by decide +kernel
theorem d_C_lay_43 : decode prog_2_method_2_code 43 = .ok (.iadd, 1) := by decide +kernel
theorem d_C_lay_44 : decode prog_2_method_2_code 44 = .ok (.iaload, 1) := by decide +kernel
theorem d_C_lay_45 : decode prog_2_method_2_code 45 = .ok (.goto 4, 3) := by decide +kernel
theorem d_C_lay_48 : decode prog_2_method_2_code 48 = .ok (.iconst (-1), 1) := by decide +kernel
theorem d_C_lay_49 : decode prog_2_method_2_code 49 = .ok (.invokevirtual 40, 3) := by decide +kernel
theorem d_C_lay_52 : decode prog_2_method_2_code 52 = .ok (.iinc 4 1, 3) := by decide +kernel
theorem d_C_lay_55 : decode prog_2_method_2_code 55 = .ok (.goto (-42), 3) := by decide +kernel
theorem d_C_lay_58 : decode prog_2_method_2_code 58 = .ok (.aload_n 0, 1) := by decide +kernel
theorem d_C_lay_59 : decode prog_2_method_2_code 59 = .ok (.aload_n 1, 1) := by decide +kernel
theorem d_C_lay_60 : decode prog_2_method_2_code 60 = .ok (.aload_n 2, 1) := by decide +kernel
theorem d_C_lay_61 : decode prog_2_method_2_code 61 = .ok (.invokevirtual 44, 3) := by decide +kernel
theorem d_C_lay_64 : decode prog_2_method_2_code 64 = .ok (.iconst 0, 1) := by decide +kernel
theorem d_C_lay_65 : decode prog_2_method_2_code 65 = .ok (.istore 4, 2) := by decide +kernel
theorem d_C_lay_67 : decode prog_2_method_2_code 67 = .ok (.iload 4, 2) := by decide +kernel
theorem d_C_lay_69 : decode prog_2_method_2_code 69 = .ok (.bipush 48, 2) := by decide +kernel
theorem d_C_lay_71 : decode prog_2_method_2_code 71 = .ok (.if_icmp .ge 24, 3) := by decide +kernel
theorem d_C_lay_74 : decode prog_2_method_2_code 74 = .ok (.aload_n 0, 1) := by decide +kernel
theorem d_C_lay_75 : decode prog_2_method_2_code 75 = .ok (.aload_n 1, 1) := by decide +kernel
theorem d_C_lay_76 : decode prog_2_method_2_code 76 = .ok (.iload_n 3, 1) := by decide +kernel
theorem d_C_lay_77 : decode prog_2_method_2_code 77 = .ok (.invokevirtual 48, 3) := by decide +kernel
theorem d_C_lay_80 : decode prog_2_method_2_code 80 = .ok (.ifCond .eq 15, 3) := by decide +kernel
theorem d_C_lay_83 : decode prog_2_method_2_code 83 = .ok (.aload_n 0, 1) := by decide +kernel
theorem d_C_lay_84 : decode prog_2_method_2_code 84 = .ok (.aload_n 1, 1) := by decide +kernel
theorem d_C_lay_85 : decode prog_2_method_2_code 85 = .ok (.aload_n 2, 1) := by decide +kernel
theorem d_C_lay_86 : decode prog_2_method_2_code 86 = .ok (.invokevirtual 44, 3) := by decide +kernel
theorem d_C_lay_89 : decode prog_2_method_2_code 89 = .ok (.iinc 4 1, 3) := by decide +kernel
theorem d_C_lay_92 : decode prog_2_method_2_code 92 = .ok (.goto (-25), 3) := by decide +kernel
theorem d_C_lay_95 : decode prog_2_method_2_code 95 = .ok (.return_, 1) := by decide +kernel
theorem d_C_chooseBranches_0 : decode prog_2_method_3_code 0 = .ok (.aload_n 1, 1) := by decide +kernel
theorem d_C_chooseBranches_1 : decode prog_2_method_3_code 1 = .ok (.getfield 52, 3) := by decide +kernel
theorem d_C_chooseBranches_4 : decode prog_2_method_3_code 4 = .ok (.iconst 2, 1) := by decide +kernel
theorem d_C_chooseBranches_5 : decode prog_2_method_3_code 5 = .ok (.iload_n 2, 1) := by decide +kernel
theorem d_C_chooseBranches_6 : decode prog_2_method_3_code 6 = .ok (.imul, 1) := by decide +kernel
theorem d_C_chooseBranches_7 : decode prog_2_method_3_code 7 = .ok (.iaload, 1) := by decide +kernel
theorem d_C_chooseBranches_8 : decode prog_2_method_3_code 8 = .ok (.istore 4, 2) := by decide +kernel
theorem d_C_chooseBranches_10 : decode prog_2_method_3_code 10 = .ok (.aload_n 1, 1) := by decide +kernel
theorem d_C_chooseBranches_11 : decode prog_2_method_3_code 11 = .ok (.getfield 52, 3) := by decide +kernel
theorem d_C_chooseBranches_14 : decode prog_2_method_3_code 14 = .ok (.iconst 2, 1) := by decide +kernel
theorem d_C_chooseBranches_15 : decode prog_2_method_3_code 15 = .ok (.iload_n 2, 1) := by decide +kernel
theorem d_C_chooseBranches_16 : decode prog_2_method_3_code 16 = .ok (.imul, 1) := by decide +kernel
theorem d_C_chooseBranches_17 : decode prog_2_method_3_code 17 = .ok (.iconst 1, 1) := by decide +kernel
theorem d_C_chooseBranches_18 : decode prog_2_method_3_code 18 = .ok (.iadd, 1) := by decide +kernel
theorem d_C_chooseBranches_19 : decode prog_2_method_3_code 19 = .ok (.iaload, 1) := by decide +kernel
theorem d_C_chooseBranches_20 : decode prog_2_method_3_code 20 = .ok (.istore 5, 2) := by decide +kernel
theorem d_C_chooseBranches_22 : decode prog_2_method_3_code 22 = .ok (.aload_n 0, 1) := by decide +kernel
theorem d_C_chooseBranches_23 : decode prog_2_method_3_code 23 = .ok (.iload_n 2, 1) := by decide +kernel
theorem d_C_chooseBranches_24 : decode prog_2_method_3_code 24 = .ok (.invokevirtual 55, 3) := by decide +kernel
theorem d_C_chooseBranches_27 : decode prog_2_method_3_code 27 = .ok (.aload_n 1, 1) := by decide +kernel
theorem d_C_chooseBranches_28 : decode prog_2_method_3_code 28 = .ok (.getfield 59, 3) := by decide +kernel
theorem d_C_chooseBranches_31 : decode prog_2_method_3_code 31 = .ok (.iload_n 2, 1) := by decide +kernel
theorem d_C_chooseBranches_32 : decode prog_2_method_3_code 32 = .ok (.iaload, 1) := by decide +kernel
theorem d_C_chooseBranches_33 : decode prog_2_method_3_code 33 = .ok (.iconst 1, 1) := by decide +kernel
theorem d_C_chooseBranches_34 : decode prog_2_method_3_code 34 = .ok (.if_icmp .ne 21, 3) := by decide +kernel
theorem d_C_chooseBranches_37 : decode prog_2_method_3_code 37 = .ok (.iload 4, 2) := by decide +kernel
theorem d_C_chooseBranches_39 : decode prog_2_method_3_code 39 = .ok (.iload_n 3, 1) := by decide +kernel
theorem d_C_chooseBranches_40 : decode prog_2_method_3_code 40 = .ok (.if_icmp .eq 88, 3) := by decide +kernel
theorem d_C_chooseBranches_43 : decode prog_2_method_3_code 43 = .ok (.aload_n 0, 1) := by decide +kernel
theorem d_C_chooseBranches_44 : decode prog_2_method_3_code 44 = .ok (.iconst 2, 1) := by decide +kernel
theorem d_C_chooseBranches_45 : decode prog_2_method_3_code 45 = .ok (.iload_n 2, 1) := by decide +kernel
theorem d_C_chooseBranches_46 : decode prog_2_method_3_code 46 = .ok (.imul, 1) := by decide +kernel
theorem d_C_chooseBranches_47 : decode prog_2_method_3_code 47 = .ok (.iload 4, 2) := by decide +kernel
theorem d_C_chooseBranches_49 : decode prog_2_method_3_code 49 = .ok (.invokevirtual 62, 3) := by decide +kernel
theorem d_C_chooseBranches_52 : decode prog_2_method_3_code 52 = .ok (.goto 76, 3) := by decide +kernel
theorem d_C_chooseBranches_55 : decode prog_2_method_3_code 55 = .ok (.aload_n 1, 1) := by decide +kernel
theorem d_C_chooseBranches_56 : decode prog_2_method_3_code 56 = .ok (.getfield 59, 3) := by decide +kernel
theorem d_C_chooseBranches_59 : decode prog_2_method_3_code 59 = .ok (.iload_n 2, 1) := by decide +kernel
theorem d_C_chooseBranches_60 : decode prog_2_method_3_code 60 = .ok (.iaload, 1) := by decide +kernel
theorem d_C_chooseBranches_61 : decode prog_2_method_3_code 61 = .ok (.iconst 2, 1) := by decide +kernel
theorem d_C_chooseBranches_62 : decode prog_2_method_3_code 62 = .ok (.if_icmp .ne 66, 3) := by decide +kernel
theorem d_C_chooseBranches_65 : decode prog_2_method_3_code 65 = .ok (.iload 5, 2) := by decide +kernel
theorem d_C_chooseBranches_67 : decode prog_2_method_3_code 67 = .ok (.iload_n 3, 1) := by decide +kernel
theorem d_C_chooseBranches_68 : decode prog_2_method_3_code 68 = .ok (.if_icmp .ne 15, 3) := by decide +kernel
theorem d_C_chooseBranches_71 : decode prog_2_method_3_code 71 = .ok (.aload_n 0, 1) := by decide +kernel
theorem d_C_chooseBranches_72 : decode prog_2_method_3_code 72 = .ok (.iconst 2, 1) := by decide +kernel
theorem d_C_chooseBranches_73 : decode prog_2_method_3_code 73 = .ok (.iload_n 2, 1) := by decide +kernel
theorem d_C_chooseBranches_74 : decode prog_2_method_3_code 74 = .ok (.imul, 1) := by decide +kernel
theorem d_C_chooseBranches_75 : decode prog_2_method_3_code 75 = .ok (.iload 4, 2) := by decide +kernel
theorem d_C_chooseBranches_77 : decode prog_2_method_3_code 77 = .ok (.invokevirtual 62, 3) := by decide +kernel
theorem d_C_chooseBranches_80 : decode prog_2_method_3_code 80 = .ok (.goto 48, 3) := by decide +kernel
theorem d_C_chooseBranches_83 : decode prog_2_method_3_code 83 = .ok (.iload 4, 2) := by decide +kernel
theorem d_C_chooseBranches_85 : decode prog_2_method_3_code 85 = .ok (.iload_n 3, 1) := by decide +kernel
theorem d_C_chooseBranches_86 : decode prog_2_method_3_code 86 = .ok (.if_icmp .ne 22, 3) := by decide +kernel
theorem d_C_chooseBranches_89 : decode prog_2_method_3_code 89 = .ok (.aload_n 0, 1) := by decide +kernel
theorem d_C_chooseBranches_90 : decode prog_2_method_3_code 90 = .ok (.iconst 2, 1) := by decide +kernel
theorem d_C_chooseBranches_91 : decode prog_2_method_3_code 91 = .ok (.iload_n 2, 1) := by decide +kernel
theorem d_C_chooseBranches_92 : decode prog_2_method_3_code 92 = .ok (.imul, 1) := by decide +kernel
theorem d_C_chooseBranches_93 : decode prog_2_method_3_code 93 = .ok (.iload 5, 2) := by decide +kernel
theorem d_C_chooseBranches_95 : decode prog_2_method_3_code 95 = .ok (.invokevirtual 62, 3) := by decide +kernel
theorem d_C_chooseBranches_98 : decode prog_2_method_3_code 98 = .ok (.aload_n 0, 1) := by decide +kernel
theorem d_C_chooseBranches_99 : decode prog_2_method_3_code 99 = .ok (.getfield 21, 3) := by decide +kernel
theorem d_C_chooseBranches_102 : decode prog_2_method_3_code 102 = .ok (.iload_n 2, 1) := by decide +kernel
theorem d_C_chooseBranches_103 : decode prog_2_method_3_code 103 = .ok (.iconst 1, 1) := by decide +kernel
theorem d_C_chooseBranches_104 : decode prog_2_method_3_code 104 = .ok (.bastore, 1) := by decide +kernel
theorem d_C_chooseBranches_105 : decode prog_2_method_3_code 105 = .ok (.goto 23, 3) := by decide +kernel
theorem d_C_chooseBranches_108 : decode prog_2_method_3_code 108 = .ok (.aload_n 0, 1) := by decide +kernel
theorem d_C_chooseBranches_109 : decode prog_2_method_3_code 109 = .ok (.iconst 2, 1) := by decide +kernel
theorem d_C_chooseBranches_110 : decode prog_2_method_3_code 110 = .ok (.iload_n 2, 1) := by decide +kernel
theorem d_C_chooseBranches_111 : decode prog_2_method_3_code 111 = .ok (.imul, 1) := by decide +kernel
theorem d_C_chooseBranches_112 : decode prog_2_method_3_code 112 = .ok (.iload 4, 2) := by decide +kernel
theorem d_C_chooseBranches_114 : decode prog_2_method_3_code 114 = .ok (.invokevirtual 62, 3) := by decide +kernel
theorem d_C_chooseBranches_117 : decode prog_2_method_3_code 117 = .ok (.aload_n 0, 1) := by decide +kernel
theorem d_C_chooseBranches_118 : decode prog_2_method_3_code 118 = .ok (.iconst 2, 1) := by decide +kernel
theorem d_C_chooseBranches_119 : decode prog_2_method_3_code 119 = .ok (.iload_n 2, 1) := by decide +kernel
theorem d_C_chooseBranches_120 : decode prog_2_method_3_code 120 = .ok (.imul, 1) := by decide +kernel
theorem d_C_chooseBranches_121 : decode prog_2_method_3_code 121 = .ok (.iconst 1, 1) := by decide +kernel
theorem d_C_chooseBranches_122 : decode prog_2_method_3_code 122 = .ok (.iadd, 1) := by decide +kernel
theorem d_C_chooseBranches_123 : decode prog_2_method_3_code 123 = .ok (.iload 5, 2) := by decide +kernel
theorem d_C_chooseBranches_125 : decode prog_2_method_3_code 125 = .ok (.invokevirtual 62, 3) := by decide +kernel
theorem d_C_chooseBranches_128 : decode prog_2_method_3_code 128 = .ok (.return_, 1) := by decide +kernel
theorem d_C_clearBranches_0 : decode prog_2_method_4_code 0 = .ok (.aload_n 0, 1) := by decide +kernel
theorem d_C_clearBranches_1 : decode prog_2_method_4_code 1 = .ok (.getfield 21, 3) := by decide +kernel
theorem d_C_clearBranches_4 : decode prog_2_method_4_code 4 = .ok (.iload_n 1, 1) := by decide +kernel
theorem d_C_clearBranches_5 : decode prog_2_method_4_code 5 = .ok (.iconst 0, 1) := by decide +kernel
theorem d_C_clearBranches_6 : decode prog_2_method_4_code 6 = .ok (.bastore, 1) := by decide +kernel
theorem d_C_clearBranches_7 : decode prog_2_method_4_code 7 = .ok (.iconst 2, 1) := by decide +kernel
theorem d_C_clearBranches_8 : decode prog_2_method_4_code 8 = .ok (.iload_n 1, 1) := by decide +kernel
theorem d_C_clearBranches_9 : decode prog_2_method_4_code 9 = .ok (.imul, 1) := by decide +kernel
theorem d_C_clearBranches_10 : decode prog_2_method_4_code 10 = .ok (.istore_n 2, 1) := by decide +kernel
theorem d_C_clearBranches_11 : decode prog_2_method_4_code 11 = .ok (.iload_n 2, 1) := by decide +kernel
theorem d_C_clearBranches_12 : decode prog_2_method_4_code 12 = .ok (.iconst 2, 1) := by decide +kernel
theorem d_C_clearBranches_13 : decode prog_2_method_4_code 13 = .ok (.iload_n 1, 1) := by decide +kernel
theorem d_C_clearBranches_14 : decode prog_2_method_4_code 14 = .ok (.imul, 1) := by decide +kernel
theorem d_C_clearBranches_15 : decode prog_2_method_4_code 15 = .ok (.iconst 2, 1) := by decide +kernel
theorem d_C_clearBranches_16 : decode prog_2_method_4_code 16 = .ok (.iadd, 1) := by decide +kernel
theorem d_C_clearBranches_17 : decode prog_2_method_4_code 17 = .ok (.if_icmp .ge 23, 3) := by decide +kernel
theorem d_C_clearBranches_20 : decode prog_2_method_4_code 20 = .ok (.aload_n 0, 1) := by decide +kernel
theorem d_C_clearBranches_21 : decode prog_2_method_4_code 21 = .ok (.getfield 15, 3) := by decide +kernel
theorem d_C_clearBranches_24 : decode prog_2_method_4_code 24 = .ok (.iload_n 2, 1) := by decide +kernel
theorem d_C_clearBranches_25 : decode prog_2_method_4_code 25 = .ok (.iconst (-1), 1) := by decide +kernel
theorem d_C_clearBranches_26 : decode prog_2_method_4_code 26 = .ok (.iastore, 1) := by decide +kernel
theorem d_C_clearBranches_27 : decode prog_2_method_4_code 27 = .ok (.aload_n 0, 1) := by decide +kernel
theorem d_C_clearBranches_28 : decode prog_2_method_4_code 28 = .ok (.getfield 18, 3) := by decide +kernel
theorem d_C_clearBranches_31 : decode prog_2_method_4_code 31 = .ok (.iload_n 2, 1) := by decide +kernel
theorem d_C_clearBranches_32 : decode prog_2_method_4_code 32 = .ok (.iconst 0, 1) := by decide +kernel
theorem d_C_clearBranches_33 : decode prog_2_method_4_code 33 = .ok (.iastore, 1) := by decide +kernel
theorem d_C_clearBranches_34 : decode prog_2_method_4_code 34 = .ok (.iinc 2 1, 3) := by decide +kernel
theorem d_C_clearBranches_37 : decode prog_2_method_4_code 37 = .ok (.goto (-26), 3) := by decide +kernel
theorem d_C_clearBranches_40 : decode prog_2_method_4_code 40 = .ok (.return_, 1) := by decide +kernel
theorem d_C_putBranch_0 : decode prog_2_method_5_code 0 = .ok (.aload_n 0, 1) := by decide +kernel
theorem d_C_putBranch_1 : decode prog_2_method_5_code 1 = .ok (.getfield 15, 3) := by decide +kernel
theorem d_C_putBranch_4 : decode prog_2_method_5_code 4 = .ok (.iload_n 1, 1) := by decide +kernel
theorem d_C_putBranch_5 : decode prog_2_method_5_code 5 = .ok (.iload_n 2, 1) := by decide +kernel
theorem d_C_putBranch_6 : decode prog_2_method_5_code 6 = .ok (.iastore, 1) := by decide +kernel
theorem d_C_putBranch_7 : decode prog_2_method_5_code 7 = .ok (.aload_n 0, 1) := by decide +kernel
theorem d_C_putBranch_8 : decode prog_2_method_5_code 8 = .ok (.getfield 18, 3) := by decide +kernel
theorem d_C_putBranch_11 : decode prog_2_method_5_code 11 = .ok (.iload_n 1, 1) := by decide +kernel
theorem d_C_putBranch_12 : decode prog_2_method_5_code 12 = .ok (.iconst 1, 1) := by decide +kernel
theorem d_C_putBranch_13 : decode prog_2_method_5_code 13 = .ok (.iastore, 1) := by decide +kernel
theorem d_C_putBranch_14 : decode prog_2_method_5_code 14 = .ok (.aload_n 0, 1) := by decide +kernel
theorem d_C_putBranch_15 : decode prog_2_method_5_code 15 = .ok (.dup, 1) := by decide +kernel
theorem d_C_putBranch_16 : decode prog_2_method_5_code 16 = .ok (.getfield 29, 3) := by decide +kernel
theorem d_C_putBranch_19 : decode prog_2_method_5_code 19 = .ok (.iconst 1, 1) := by decide +kernel
theorem d_C_putBranch_20 : decode prog_2_method_5_code 20 = .ok (.iadd, 1) := by decide +kernel
theorem d_C_putBranch_21 : decode prog_2_method_5_code 21 = .ok (.putfield 29, 3) := by decide +kernel
theorem d_C_putBranch_24 : decode prog_2_method_5_code 24 = .ok (.return_, 1) := by decide +kernel
theorem d_C_measure_0 : decode prog_2_method_6_code 0 = .ok (.aload_n 0, 1) := by decide +kernel
theorem d_C_measure_1 : decode prog_2_method_6_code 1 = .ok (.iconst 0, 1) := by decide +kernel
theorem d_C_measure_2 : decode prog_2_method_6_code 2 = .ok (.putfield 25, 3) := by decide +kernel
theorem d_C_measure_5 : decode prog_2_method_6_code 5 = .ok (.iconst 0, 1) := by decide +kernel
theorem d_C_measure_6 : decode prog_2_method_6_code 6 = .ok (.istore_n 3, 1) := by decide +kernel
theorem d_C_measure_7 : decode prog_2_method_6_code 7 = .ok (.iload_n 3, 1) := by decide +kernel
theorem d_C_measure_8 : decode prog_2_method_6_code 8 = .ok (.aload_n 1, 1) := by decide +kernel
theorem d_C_measure_9 : decode prog_2_method_6_code 9 = .ok (.getfield 35, 3) := by decide +kernel
theorem d_C_measure_12 : decode prog_2_method_6_code 12 = .ok (.if_icmp .ge 87, 3) := by decide +kernel
theorem d_C_measure_15 : decode prog_2_method_6_code 15 = .ok (.aload_n 2, 1) := by decide +kernel
theorem d_C_measure_16 : decode prog_2_method_6_code 16 = .ok (.iload_n 3, 1) := by decide +kernel
theorem d_C_measure_17 : decode prog_2_method_6_code 17 = .ok (.iaload, 1) := by decide +kernel
theorem d_C_measure_18 : decode prog_2_method_6_code 18 = .ok (.istore 4, 2) := by decide +kernel
theorem d_C_measure_20 : decode prog_2_method_6_code 20 = .ok (.aload_n 0, 1) := by decide +kernel
theorem d_C_measure_21 : decode prog_2_method_6_code 21 = .ok (.getfield 9, 3) := by decide +kernel
theorem d_C_measure_24 : decode prog_2_method_6_code 24 = .ok (.iload 4, 2) := by decide +kernel
theorem d_C_measure_26 : decode prog_2_method_6_code 26 = .ok (.aload_n 0, 1) := by decide +kernel
theorem d_C_measure_27 : decode prog_2_method_6_code 27 = .ok (.getfield 25, 3) := by decide +kernel
theorem d_C_measure_30 : decode prog_2_method_6_code 30 = .ok (.iastore, 1) := by decide +kernel
theorem d_C_measure_31 : decode prog_2_method_6_code 31 = .ok (.aload_n 0, 1) := by decide +kernel
theorem d_C_measure_32 : decode prog_2_method_6_code 32 = .ok (.dup, 1) := by decide +kernel
theorem d_C_measure_33 : decode prog_2_method_6_code 33 = .ok (.getfield 25, 3) := by decide +kernel
theorem d_C_measure_36 : decode prog_2_method_6_code 36 = .ok (.aload_n 1, 1) := by decide +kernel
theorem d_C_measure_37 : decode prog_2_method_6_code 37 = .ok (.getfield 66, 3) := by decide +kernel
theorem d_C_measure_40 : decode prog_2_method_6_code 40 = .ok (.iload 4, 2) := by decide +kernel
theorem d_C_measure_42 : decode prog_2_method_6_code 42 = .ok (.iaload, 1) := by decide +kernel
theorem d_C_measure_43 : decode prog_2_method_6_code 43 = .ok (.aload_n 0, 1) := by decide +kernel
theorem d_C_measure_44 : decode prog_2_method_6_code 44 = .ok (.getfield 18, 3) := by decide +kernel
theorem d_C_measure_47 : decode prog_2_method_6_code 47 = .ok (.iconst 2, 1) := by decide +kernel
theorem d_C_measure_48 : decode prog_2_method_6_code 48 = .ok (.iload 4, 2) := by decide +kernel
theorem d_C_measure_50 : decode prog_2_method_6_code 50 = .ok (.imul, 1) := by decide +kernel
theorem d_C_measure_51 : decode prog_2_method_6_code 51 = .ok (.iaload, 1) := by decide +kernel
theorem d_C_measure_52 : decode prog_2_method_6_code 52 = .ok (.iadd, 1) := by decide +kernel
theorem d_C_measure_53 : decode prog_2_method_6_code 53 = .ok (.aload_n 0, 1) := by decide +kernel
theorem d_C_measure_54 : decode prog_2_method_6_code 54 = .ok (.getfield 18, 3) := by decide +kernel
theorem d_C_measure_57 : decode prog_2_method_6_code 57 = .ok (.iconst 2, 1) := by decide +kernel
theorem d_C_measure_58 : decode prog_2_method_6_code 58 = .ok (.iload 4, 2) := by decide +kernel
theorem d_C_measure_60 : decode prog_2_method_6_code 60 = .ok (.imul, 1) := by decide +kernel
theorem d_C_measure_61 : decode prog_2_method_6_code 61 = .ok (.iconst 1, 1) := by decide +kernel
theorem d_C_measure_62 : decode prog_2_method_6_code 62 = .ok (.iadd, 1) := by decide +kernel
theorem d_C_measure_63 : decode prog_2_method_6_code 63 = .ok (.iaload, 1) := by decide +kernel
theorem d_C_measure_64 : decode prog_2_method_6_code 64 = .ok (.iadd, 1) := by decide +kernel
theorem d_C_measure_65 : decode prog_2_method_6_code 65 = .ok (.iadd, 1) := by decide +kernel
theorem d_C_measure_66 : decode prog_2_method_6_code 66 = .ok (.putfield 25, 3) := by decide +kernel
theorem d_C_measure_69 : decode prog_2_method_6_code 69 = .ok (.aload_n 0, 1) := by decide +kernel
theorem d_C_measure_70 : decode prog_2_method_6_code 70 = .ok (.dup, 1) := by decide +kernel
theorem d_C_measure_71 : decode prog_2_method_6_code 71 = .ok (.getfield 25, 3) := by decide +kernel
theorem d_C_measure_74 : decode prog_2_method_6_code 74 = .ok (.aload_n 1, 1) := by decide +kernel
theorem d_C_measure_75 : decode prog_2_method_6_code 75 = .ok (.getfield 59, 3) := by decide +kernel
theorem d_C_measure_78 : decode prog_2_method_6_code 78 = .ok (.iload 4, 2) := by decide +kernel
theorem d_C_measure_80 : decode prog_2_method_6_code 80 = .ok (.iaload, 1) := by decide +kernel
theorem d_C_measure_81 : decode prog_2_method_6_code 81 = .ok (.ifCond .ne 7, 3) := by decide +kernel
theorem d_C_measure_84 : decode prog_2_method_6_code 84 = .ok (.iconst 1, 1) := by decide +kernel
theorem d_C_measure_85 : decode prog_2_method_6_code 85 = .ok (.goto 4, 3) := by decide +kernel
theorem d_C_measure_88 : decode prog_2_method_6_code 88 = .ok (.iconst 0, 1) := by decide +kernel
theorem d_C_measure_89 : decode prog_2_method_6_code 89 = .ok (.iadd, 1) := by decide +kernel
theorem d_C_measure_90 : decode prog_2_method_6_code 90 = .ok (.putfield 25, 3) := by decide +kernel
theorem d_C_measure_93 : decode prog_2_method_6_code 93 = .ok (.iinc 3 1, 3) := by decide +kernel
theorem d_C_measure_96 : decode prog_2_method_6_code 96 = .ok (.goto (-89), 3) := by decide +kernel
theorem d_C_measure_99 : decode prog_2_method_6_code 99 = .ok (.return_, 1) := by decide +kernel
theorem d_C_lengthen_0 : decode prog_2_method_7_code 0 = .ok (.iconst 0, 1) := by decide +kernel
theorem d_C_lengthen_1 : decode prog_2_method_7_code 1 = .ok (.istore_n 3, 1) := by decide +kernel
theorem d_C_lengthen_2 : decode prog_2_method_7_code 2 = .ok (.iconst 0, 1) := by decide +kernel
theorem d_C_lengthen_3 : decode prog_2_method_7_code 3 = .ok (.istore 4, 2) := by decide +kernel
theorem d_C_lengthen_5 : decode prog_2_method_7_code 5 = .ok (.iload 4, 2) := by decide +kernel
theorem d_C_lengthen_7 : decode prog_2_method_7_code 7 = .ok (.aload_n 1, 1) := by decide +kernel
theorem d_C_lengthen_8 : decode prog_2_method_7_code 8 = .ok (.getfield 35, 3) := by decide +kernel
theorem d_C_lengthen_11 : decode prog_2_method_7_code 11 = .ok (.if_icmp .ge 70, 3) := by decide +kernel
theorem d_C_lengthen_14 : decode prog_2_method_7_code 14 = .ok (.aload_n 0, 1) := by decide +kernel
theorem d_C_lengthen_15 : decode prog_2_method_7_code 15 = .ok (.getfield 9, 3) := by decide +kernel
theorem d_C_lengthen_18 : decode prog_2_method_7_code 18 = .ok (.iload 4, 2) := by decide +kernel
theorem d_C_lengthen_20 : decode prog_2_method_7_code 20 = .ok (.iaload, 1) := by decide +kernel
theorem d_C_lengthen_21 : decode prog_2_method_7_code 21 = .ok (.aload_n 1, 1) := by decide +kernel
theorem d_C_lengthen_22 : decode prog_2_method_7_code 22 = .ok (.getfield 66, 3) := by decide +kernel
theorem d_C_lengthen_25 : decode prog_2_method_7_code 25 = .ok (.iload 4, 2) := by decide +kernel
theorem d_C_lengthen_27 : decode prog_2_method_7_code 27 = .ok (.iaload, 1) := by decide +kernel
theorem d_C_lengthen_28 : decode prog_2_method_7_code 28 = .ok (.iadd, 1) := by decide +kernel
theorem d_C_lengthen_29 : decode prog_2_method_7_code 29 = .ok (.istore 5, 2) := by decide +kernel
theorem d_C_lengthen_31 : decode prog_2_method_7_code 31 = .ok (.iload 5, 2) := by decide +kernel
theorem d_C_lengthen_33 : decode prog_2_method_7_code 33 = .ok (.aload_n 0, 1) := by decide +kernel
theorem d_C_lengthen_34 : decode prog_2_method_7_code 34 = .ok (.getfield 18, 3) := by decide +kernel
theorem d_C_lengthen_37 : decode prog_2_method_7_code 37 = .ok (.iconst 2, 1) := by decide +kernel
theorem d_C_lengthen_38 : decode prog_2_method_7_code 38 = .ok (.iload 4, 2) := by decide +kernel
theorem d_C_lengthen_40 : decode prog_2_method_7_code 40 = .ok (.imul, 1) := by decide +kernel
theorem d_C_lengthen_41 : decode prog_2_method_7_code 41 = .ok (.iaload, 1) := by decide +kernel
theorem d_C_lengthen_42 : decode prog_2_method_7_code 42 = .ok (.iadd, 1) := by decide +kernel
theorem d_C_lengthen_43 : decode prog_2_method_7_code 43 = .ok (.istore 6, 2) := by decide +kernel
theorem d_C_lengthen_45 : decode prog_2_method_7_code 45 = .ok (.iload_n 3, 1) := by decide +kernel
theorem d_C_lengthen_46 : decode prog_2_method_7_code 46 = .ok (.aload_n 0, 1) := by decide +kernel
theorem d_C_lengthen_47 : decode prog_2_method_7_code 47 = .ok (.iconst 2, 1) := by decide +kernel
theorem d_C_lengthen_48 : decode prog_2_method_7_code 48 = .ok (.iload 4, 2) := by decide +kernel
theorem d_C_lengthen_50 : decode prog_2_method_7_code 50 = .ok (.imul, 1) := by decide +kernel
theorem d_C_lengthen_51 : decode prog_2_method_7_code 51 = .ok (.iload 5, 2) := by decide +kernel
theorem d_C_lengthen_53 : decode prog_2_method_7_code 53 = .ok (.iload_n 2, 1) := by decide +kernel
theorem d_C_lengthen_54 : decode prog_2_method_7_code 54 = .ok (.invokevirtual 69, 3) := by decide +kernel
theorem d_C_lengthen_57 : decode prog_2_method_7_code 57 = .ok (.ior, 1) := by decide +kernel
theorem d_C_lengthen_58 : decode prog_2_method_7_code 58 = .ok (.istore_n 3, 1) := by decide +kernel
theorem d_C_lengthen_59 : decode prog_2_method_7_code 59 = .ok (.iload_n 3, 1) := by decide +kernel
theorem d_C_lengthen_60 : decode prog_2_method_7_code 60 = .ok (.aload_n 0, 1) := by decide +kernel
theorem d_C_lengthen_61 : decode prog_2_method_7_code 61 = .ok (.iconst 2, 1) := by decide +kernel
theorem d_C_lengthen_62 : decode prog_2_method_7_code 62 = .ok (.iload 4, 2) := by decide +kernel
theorem d_C_lengthen_64 : decode prog_2_method_7_code 64 = .ok (.imul, 1) := by decide +kernel
theorem d_C_lengthen_65 : decode prog_2_method_7_code 65 = .ok (.iconst 1, 1) := by decide +kernel
theorem d_C_lengthen_66 : decode prog_2_method_7_code 66 = .ok (.iadd, 1) := by decide +kernel
theorem d_C_lengthen_67 : decode prog_2_method_7_code 67 = .ok (.iload 6, 2) := by decide +kernel
theorem d_C_lengthen_69 : decode prog_2_method_7_code 69 = .ok (.iload_n 2, 1) := by decide +kernel
theorem d_C_lengthen_70 : decode prog_2_method_7_code 70 = .ok (.invokevirtual 69, 3) := by decide +kernel
theorem d_C_lengthen_73 : decode prog_2_method_7_code 73 = .ok (.ior, 1) := by decide +kernel
theorem d_C_lengthen_74 : decode prog_2_method_7_code 74 = .ok (.istore_n 3, 1) := by decide +kernel
theorem d_C_lengthen_75 : decode prog_2_method_7_code 75 = .ok (.iinc 4 1, 3) := by decide +kernel
theorem d_C_lengthen_78 : decode prog_2_method_7_code 78 = .ok (.goto (-73), 3) := by decide +kernel
theorem d_C_lengthen_81 : decode prog_2_method_7_code 81 = .ok (.iload_n 3, 1) := by decide +kernel
theorem d_C_lengthen_82 : decode prog_2_method_7_code 82 = .ok (.ireturn, 1) := by decide +kernel
theorem d_C_lengthenOne_0 : decode prog_2_method_8_code 0 = .ok (.aload_n 0, 1) := by decide +kernel
theorem d_C_lengthenOne_1 : decode prog_2_method_8_code 1 = .ok (.getfield 18, 3) := by decide +kernel
theorem d_C_lengthenOne_4 : decode prog_2_method_8_code 4 = .ok (.iload_n 1, 1) := by decide +kernel
theorem d_C_lengthenOne_5 : decode prog_2_method_8_code 5 = .ok (.iaload, 1) := by decide +kernel
theorem d_C_lengthenOne_6 : decode prog_2_method_8_code 6 = .ok (.iconst 1, 1) := by decide +kernel
theorem d_C_lengthenOne_7 : decode prog_2_method_8_code 7 = .ok (.if_icmp .ne 23, 3) := by decide +kernel
theorem d_C_lengthenOne_10 : decode prog_2_method_8_code 10 = .ok (.iload_n 2, 1) := by decide +kernel
theorem d_C_lengthenOne_11 : decode prog_2_method_8_code 11 = .ok (.aload_n 0, 1) := by decide +kernel
theorem d_C_lengthenOne_12 : decode prog_2_method_8_code 12 = .ok (.getfield 9, 3) := by decide +kernel
theorem d_C_lengthenOne_15 : decode prog_2_method_8_code 15 = .ok (.aload_n 0, 1) := by decide +kernel
theorem d_C_lengthenOne_16 : decode prog_2_method_8_code 16 = .ok (.getfield 15, 3) := by decide +kernel
theorem d_C_lengthenOne_19 : decode prog_2_method_8_code 19 = .ok (.iload_n 1, 1) := by decide +kernel
theorem d_C_lengthenOne_20 : decode prog_2_method_8_code 20 = .ok (.iaload, 1) := by decide +kernel
theorem d_C_lengthenOne_21 : decode prog_2_method_8_code 21 = .ok (.iaload, 1) := by decide +kernel
theorem d_C_lengthenOne_22 : decode prog_2_method_8_code 22 = .ok (.isub, 1) := by decide +kernel
theorem d_C_lengthenOne_23 : decode prog_2_method_8_code 23 = .ok (.invokestatic 73, 3) := by decide +kernel
theorem d_C_lengthenOne_26 : decode prog_2_method_8_code 26 = .ok (.iload_n 3, 1) := by decide +kernel
theorem d_C_lengthenOne_27 : decode prog_2_method_8_code 27 = .ok (.if_icmp .gt 5, 3) := by decide +kernel
theorem d_C_lengthenOne_30 : decode prog_2_method_8_code 30 = .ok (.iconst 0, 1) := by decide +kernel
theorem d_C_lengthenOne_31 : decode prog_2_method_8_code 31 = .ok (.ireturn, 1) := by decide +kernel
theorem d_C_lengthenOne_32 : decode prog_2_method_8_code 32 = .ok (.aload_n 0, 1) := by decide +kernel
theorem d_C_lengthenOne_33 : decode prog_2_method_8_code 33 = .ok (.getfield 18, 3) := by decide +kernel
theorem d_C_lengthenOne_36 : decode prog_2_method_8_code 36 = .ok (.iload_n 1, 1) := by decide +kernel
theorem d_C_lengthenOne_37 : decode prog_2_method_8_code 37 = .ok (.iconst 2, 1) := by decide +kernel
theorem d_C_lengthenOne_38 : decode prog_2_method_8_code 38 = .ok (.iastore, 1) := by decide +kernel
theorem d_C_lengthenOne_39 : decode prog_2_method_8_code 39 = .ok (.aload_n 0, 1) := by decide +kernel
theorem d_C_lengthenOne_40 : decode prog_2_method_8_code 40 = .ok (.dup, 1) := by decide +kernel
theorem d_C_lengthenOne_41 : decode prog_2_method_8_code 41 = .ok (.getfield 32, 3) := by decide +kernel
theorem d_C_lengthenOne_44 : decode prog_2_method_8_code 44 = .ok (.iconst 1, 1) := by decide +kernel
theorem d_C_lengthenOne_45 : decode prog_2_method_8_code 45 = .ok (.iadd, 1) := by decide +kernel
theorem d_C_lengthenOne_46 : decode prog_2_method_8_code 46 = .ok (.putfield 32, 3) := by decide +kernel
theorem d_C_lengthenOne_49 : decode prog_2_method_8_code 49 = .ok (.iconst 1, 1) := by decide +kernel
theorem d_C_lengthenOne_50 : decode prog_2_method_8_code 50 = .ok (.ireturn, 1) := by decide +kernel
theorem d_C_costOfLeaving_0 : decode prog_2_method_9_code 0 = .ok (.iconst 2, 1) := by decide +kernel
theorem d_C_costOfLeaving_1 : decode prog_2_method_9_code 1 = .ok (.iload_n 1, 1) := by decide +kernel
theorem d_C_costOfLeaving_2 : decode prog_2_method_9_code 2 = .ok (.imul, 1) := by decide +kernel
theorem d_C_costOfLeaving_3 : decode prog_2_method_9_code 3 = .ok (.istore 4, 2) := by decide +kernel
theorem d_C_costOfLeaving_5 : decode prog_2_method_9_code 5 = .ok (.iload 4, 2) := by decide +kernel
theorem d_C_costOfLeaving_7 : decode prog_2_method_9_code 7 = .ok (.iconst 1, 1) := by decide +kernel
theorem d_C_costOfLeaving_8 : decode prog_2_method_9_code 8 = .ok (.iadd, 1) := by decide +kernel
theorem d_C_costOfLeaving_9 : decode prog_2_method_9_code 9 = .ok (.istore 5, 2) := by decide +kernel
theorem d_C_costOfLeaving_11 : decode prog_2_method_9_code 11 = .ok (.iload_n 2, 1) := by decide +kernel
theorem d_C_costOfLeaving_12 : decode prog_2_method_9_code 12 = .ok (.ifCond .ne 5, 3) := by decide +kernel
theorem d_C_costOfLeaving_15 : decode prog_2_method_9_code 15 = .ok (.iconst 1, 1) := by decide +kernel
theorem d_C_costOfLeaving_16 : decode prog_2_method_9_code 16 = .ok (.ireturn, 1) := by decide +kernel
theorem d_C_costOfLeaving_17 : decode prog_2_method_9_code 17 = .ok (.iload_n 2, 1) := by decide +kernel
theorem d_C_costOfLeaving_18 : decode prog_2_method_9_code 18 = .ok (.iconst 1, 1) := by decide +kernel
theorem d_C_costOfLeaving_19 : decode prog_2_method_9_code 19 = .ok (.if_icmp .ne 26, 3) := by decide +kernel
theorem d_C_costOfLeaving_22 : decode prog_2_method_9_code 22 = .ok (.aload_n 0, 1) := by decide +kernel
theorem d_C_costOfLeaving_23 : decode prog_2_method_9_code 23 = .ok (.getfield 18, 3) := by decide +kernel
theorem d_C_costOfLeaving_26 : decode prog_2_method_9_code 26 = .ok (.iload 4, 2) := by decide +kernel
theorem d_C_costOfLeaving_28 : decode prog_2_method_9_code 28 = .ok (.iaload, 1) := by decide +kernel
theorem d_C_costOfLeaving_29 : decode prog_2_method_9_code 29 = .ok (.ifCond .ne 7, 3) := by decide +kernel
theorem d_C_costOfLeaving_32 : decode prog_2_method_9_code 32 = .ok (.iconst 0, 1) := by decide +kernel
theorem d_C_costOfLeaving_33 : decode prog_2_method_9_code 33 = .ok (.goto 11, 3) := by decide +kernel
theorem d_C_costOfLeaving_36 : decode prog_2_method_9_code 36 = .ok (.iconst 2, 1) := by decide +kernel
theorem d_C_costOfLeaving_37 : decode prog_2_method_9_code 37 = .ok (.aload_n 0, 1) := by decide +kernel
theorem d_C_costOfLeaving_38 : decode prog_2_method_9_code 38 = .ok (.iload 4, 2) := by decide +kernel
theorem d_C_costOfLeaving_40 : decode prog_2_method_9_code 40 = .ok (.invokevirtual 79, 3) := by decide +kernel
theorem d_C_costOfLeaving_43 : decode prog_2_method_9_code 43 = .ok (.iadd, 1) := by decide +kernel
theorem d_C_costOfLeaving_44 : decode prog_2_method_9_code 44 = .ok (.ireturn, 1) := by decide +kernel
theorem d_C_costOfLeaving_45 : decode prog_2_method_9_code 45 = .ok (.iload_n 3, 1) := by decide +kernel
theorem d_C_costOfLeaving_46 : decode prog_2_method_9_code 46 = .ok (.aload_n 0, 1) := by decide +kernel
theorem d_C_costOfLeaving_47 : decode prog_2_method_9_code 47 = .ok (.getfield 21, 3) := by decide +kernel
theorem d_C_costOfLeaving_50 : decode prog_2_method_9_code 50 = .ok (.iload_n 1, 1) := by decide +kernel
theorem d_C_costOfLeaving_51 : decode prog_2_method_9_code 51 = .ok (.baload, 1) := by decide +kernel
theorem d_C_costOfLeaving_52 : decode prog_2_method_9_code 52 = .ok (.if_icmp .eq 12, 3) := by decide +kernel
theorem d_C_costOfLeaving_55 : decode prog_2_method_9_code 55 = .ok (.iconst 2, 1) := by decide +kernel
theorem d_C_costOfLeaving_56 : decode prog_2_method_9_code 56 = .ok (.aload_n 0, 1) := by decide +kernel
theorem d_C_costOfLeaving_57 : decode prog_2_method_9_code 57 = .ok (.iload 4, 2) := by decide +kernel
theorem d_C_costOfLeaving_59 : decode prog_2_method_9_code 59 = .ok (.invokevirtual 79, 3) := by decide +kernel
theorem d_C_costOfLeaving_62 : decode prog_2_method_9_code 62 = .ok (.iadd, 1) := by decide +kernel
theorem d_C_costOfLeaving_63 : decode prog_2_method_9_code 63 = .ok (.ireturn, 1) := by decide +kernel
theorem d_C_costOfLeaving_64 : decode prog_2_method_9_code 64 = .ok (.aload_n 0, 1) := by decide +kernel
theorem d_C_costOfLeaving_65 : decode prog_2_method_9_code 65 = .ok (.getfield 18, 3) := by decide +kernel
theorem d_C_costOfLeaving_68 : decode prog_2_method_9_code 68 = .ok (.iload 5, 2) := by decide +kernel
theorem d_C_costOfLeaving_70 : decode prog_2_method_9_code 70 = .ok (.iaload, 1) := by decide +kernel
theorem d_C_costOfLeaving_71 : decode prog_2_method_9_code 71 = .ok (.ifCond .ne 7, 3) := by decide +kernel
theorem d_C_costOfLeaving_74 : decode prog_2_method_9_code 74 = .ok (.iconst 1, 1) := by decide +kernel
theorem d_C_costOfLeaving_75 : decode prog_2_method_9_code 75 = .ok (.goto 11, 3) := by decide +kernel
theorem d_C_costOfLeaving_78 : decode prog_2_method_9_code 78 = .ok (.iconst 3, 1) := by decide +kernel
theorem d_C_costOfLeaving_79 : decode prog_2_method_9_code 79 = .ok (.aload_n 0, 1) := by decide +kernel
theorem d_C_costOfLeaving_80 : decode prog_2_method_9_code 80 = .ok (.iload 5, 2) := by decide +kernel
theorem d_C_costOfLeaving_82 : decode prog_2_method_9_code 82 = .ok (.invokevirtual 79, 3) := by decide +kernel
theorem d_C_costOfLeaving_85 : decode prog_2_method_9_code 85 = .ok (.iadd, 1) := by decide +kernel
theorem d_C_costOfLeaving_86 : decode prog_2_method_9_code 86 = .ok (.ireturn, 1) := by decide +kernel
theorem d_C_longExtra_0 : decode prog_2_method_10_code 0 = .ok (.aload_n 0, 1) := by decide +kernel
theorem d_C_longExtra_1 : decode prog_2_method_10_code 1 = .ok (.getfield 18, 3) := by decide +kernel
theorem d_C_longExtra_4 : decode prog_2_method_10_code 4 = .ok (.iload_n 1, 1) := by decide +kernel
theorem d_C_longExtra_5 : decode prog_2_method_10_code 5 = .ok (.iaload, 1) := by decide +kernel
theorem d_C_longExtra_6 : decode prog_2_method_10_code 6 = .ok (.iconst 2, 1) := by decide +kernel
theorem d_C_longExtra_7 : decode prog_2_method_10_code 7 = .ok (.if_icmp .ne 7, 3) := by decide +kernel
theorem d_C_longExtra_10 : decode prog_2_method_10_code 10 = .ok (.iconst 1, 1) := by decide +kernel
theorem d_C_longExtra_11 : decode prog_2_method_10_code 11 = .ok (.goto 4, 3) := by decide +kernel
theorem d_C_longExtra_14 : decode prog_2_method_10_code 14 = .ok (.iconst 0, 1) := by decide +kernel
theorem d_C_longExtra_15 : decode prog_2_method_10_code 15 = .ok (.ireturn, 1) := by decide +kernel
