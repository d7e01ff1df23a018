theorem d_M_init_0 : decode prog_8_method_1_code 0 = .ok (.aload_n 0, 1) := by decide +kernel
theorem d_M_init_1 : decode prog_8_method_1_code 1 = .ok (.invokespecial 1, 3) := by decide +kernel
theorem d_M_init_4 : decode prog_8_method_1_code 4 = .ok (.aload_n 0, 1) := by decide +kernel
theorem d_M_init_5 : decode prog_8_method_1_code 5 = .ok (.iconst 0, 1) := by decide +kernel
theorem d_M_init_6 : decode prog_8_method_1_code 6 = .ok (.putfield 7, 3) := by decide +kernel
theorem d_M_init_9 : decode prog_8_method_1_code 9 = .ok (.aload_n 0, 1) := by decide +kernel
theorem d_M_init_10 : decode prog_8_method_1_code 10 = .ok (.iconst 0, 1) := by decide +kernel
theorem d_M_init_11 : decode prog_8_method_1_code 11 = .ok (.putfield 13, 3) := by decide +kernel
theorem d_M_init_14 : decode prog_8_method_1_code 14 = .ok (.aload_n 0, 1) := by decide +kernel
theorem d_M_init_15 : decode prog_8_method_1_code 15 = .ok (.iconst 0, 1) := by decide +kernel
theorem d_M_init_16 : decode prog_8_method_1_code 16 = .ok (.putfield 16, 3) := by decide +kernel
theorem d_M_init_19 : decode prog_8_method_1_code 19 = .ok (.aload_n 0, 1) := by decide +kernel
theorem d_M_init_20 : decode prog_8_method_1_code 20 = .ok (.iconst 0, 1) := by decide +kernel
theorem d_M_init_21 : decode prog_8_method_1_code 21 = .ok (.putfield 19, 3) := by decide +kernel
theorem d_M_init_24 : decode prog_8_method_1_code 24 = .ok (.aload_n 0, 1) := by decide +kernel
theorem d_M_init_25 : decode prog_8_method_1_code 25 = .ok (.iconst 0, 1) := by decide +kernel
theorem d_M_init_26 : decode prog_8_method_1_code 26 = .ok (.putfield 22, 3) := by decide +kernel
theorem d_M_init_29 : decode prog_8_method_1_code 29 = .ok (.aload_n 0, 1) := by decide +kernel
theorem d_M_init_30 : decode prog_8_method_1_code 30 = .ok (.bipush 24, 2) := by decide +kernel
theorem d_M_init_32 : decode prog_8_method_1_code 32 = .ok (.newarray .int, 2) := by decide +kernel
theorem d_M_init_34 : decode prog_8_method_1_code 34 = .ok (.putfield 26, 3) := by decide +kernel
theorem d_M_init_37 : decode prog_8_method_1_code 37 = .ok (.aload_n 0, 1) := by decide +kernel
theorem d_M_init_38 : decode prog_8_method_1_code 38 = .ok (.bipush 24, 2) := by decide +kernel
theorem d_M_init_40 : decode prog_8_method_1_code 40 = .ok (.newarray .int, 2) := by decide +kernel
theorem d_M_init_42 : decode prog_8_method_1_code 42 = .ok (.putfield 30, 3) := by decide +kernel
theorem d_M_init_45 : decode prog_8_method_1_code 45 = .ok (.aload_n 0, 1) := by decide +kernel
theorem d_M_init_46 : decode prog_8_method_1_code 46 = .ok (.bipush 24, 2) := by decide +kernel
theorem d_M_init_48 : decode prog_8_method_1_code 48 = .ok (.newarray .int, 2) := by decide +kernel
theorem d_M_init_50 : decode prog_8_method_1_code 50 = .ok (.putfield 33, 3) := by decide +kernel
theorem d_M_init_53 : decode prog_8_method_1_code 53 = .ok (.aload_n 0, 1) := by decide +kernel
theorem d_M_init_54 : decode prog_8_method_1_code 54 = .ok (.bipush 48, 2) := by decide +kernel
theorem d_M_init_56 : decode prog_8_method_1_code 56 = .ok (.newarray .int, 2) := by decide +kernel
theorem d_M_init_58 : decode prog_8_method_1_code 58 = .ok (.putfield 36, 3) := by decide +kernel
theorem d_M_init_61 : decode prog_8_method_1_code 61 = .ok (.aload_n 0, 1) := by decide +kernel
theorem d_M_init_62 : decode prog_8_method_1_code 62 = .ok (.bipush 24, 2) := by decide +kernel
theorem d_M_init_64 : decode prog_8_method_1_code 64 = .ok (.newarray .int, 2) := by decide +kernel
theorem d_M_init_66 : decode prog_8_method_1_code 66 = .ok (.putfield 39, 3) := by decide +kernel
theorem d_M_init_69 : decode prog_8_method_1_code 69 = .ok (.aload_n 0, 1) := by decide +kernel
theorem d_M_init_70 : decode prog_8_method_1_code 70 = .ok (.bipush 48, 2) := by decide +kernel
theorem d_M_init_72 : decode prog_8_method_1_code 72 = .ok (.newarray .int, 2) := by decide +kernel
theorem d_M_init_74 : decode prog_8_method_1_code 74 = .ok (.putfield 42, 3) := by decide +kernel
theorem d_M_init_77 : decode prog_8_method_1_code 77 = .ok (.aload_n 0, 1) := by decide +kernel
theorem d_M_init_78 : decode prog_8_method_1_code 78 = .ok (.bipush 24, 2) := by decide +kernel
theorem d_M_init_80 : decode prog_8_method_1_code 80 = .ok (.newarray .int, 2) := by decide +kernel
theorem d_M_init_82 : decode prog_8_method_1_code 82 = .ok (.putfield 45, 3) := by decide +kernel
theorem d_M_init_85 : decode prog_8_method_1_code 85 = .ok (.aload_n 0, 1) := by decide +kernel
theorem d_M_init_86 : decode prog_8_method_1_code 86 = .ok (.bipush 24, 2) := by decide +kernel
theorem d_M_init_88 : decode prog_8_method_1_code 88 = .ok (.newarray .int, 2) := by decide +kernel
theorem d_M_init_90 : decode prog_8_method_1_code 90 = .ok (.putfield 48, 3) := by decide +kernel
theorem d_M_init_93 : decode prog_8_method_1_code 93 = .ok (.aload_n 0, 1) := by decide +kernel
theorem d_M_init_94 : decode prog_8_method_1_code 94 = .ok (.bipush 48, 2) := by decide +kernel
theorem d_M_init_96 : decode prog_8_method_1_code 96 = .ok (.newarray .boolean, 2) := by decide +kernel
theorem d_M_init_98 : decode prog_8_method_1_code 98 = .ok (.putfield 51, 3) := by decide +kernel
theorem d_M_init_101 : decode prog_8_method_1_code 101 = .ok (.aload_n 0, 1) := by decide +kernel
theorem d_M_init_102 : decode prog_8_method_1_code 102 = .ok (.bipush 24, 2) := by decide +kernel
theorem d_M_init_104 : decode prog_8_method_1_code 104 = .ok (.newarray .boolean, 2) := by decide +kernel
theorem d_M_init_106 : decode prog_8_method_1_code 106 = .ok (.putfield 55, 3) := by decide +kernel
theorem d_M_init_109 : decode prog_8_method_1_code 109 = .ok (.aload_n 0, 1) := by decide +kernel
theorem d_M_init_110 : decode prog_8_method_1_code 110 = .ok (.bipush 24, 2) := by decide +kernel
theorem d_M_init_112 : decode prog_8_method_1_code 112 = .ok (.newarray .int, 2) := by decide +kernel
theorem d_M_init_114 : decode prog_8_method_1_code 114 = .ok (.putfield 58, 3) := by decide +kernel
theorem d_M_init_117 : decode prog_8_method_1_code 117 = .ok (.aload_n 0, 1) := by decide +kernel
theorem d_M_init_118 : decode prog_8_method_1_code 118 = .ok (.bipush 24, 2) := by decide +kernel
theorem d_M_init_120 : decode prog_8_method_1_code 120 = .ok (.newarray .int, 2) := by decide +kernel
theorem d_M_init_122 : decode prog_8_method_1_code 122 = .ok (.putfield 61, 3) := by decide +kernel
theorem d_M_init_125 : decode prog_8_method_1_code 125 = .ok (.aload_n 0, 1) := by decide +kernel
theorem d_M_init_126 : decode prog_8_method_1_code 126 = .ok (.bipush 48, 2) := by decide +kernel
theorem d_M_init_128 : decode prog_8_method_1_code 128 = .ok (.newarray .int, 2) := by decide +kernel
theorem d_M_init_130 : decode prog_8_method_1_code 130 = .ok (.putfield 64, 3) := by decide +kernel
theorem d_M_init_133 : decode prog_8_method_1_code 133 = .ok (.aload_n 0, 1) := by decide +kernel
theorem d_M_init_134 : decode prog_8_method_1_code 134 = .ok (.bipush 48, 2) := by decide +kernel
theorem d_M_init_136 : decode prog_8_method_1_code 136 = .ok (.newarray .int, 2) := by decide +kernel
theorem d_M_init_138 : decode prog_8_method_1_code 138 = .ok (.putfield 67, 3) := by decide +kernel
theorem d_M_init_141 : decode prog_8_method_1_code 141 = .ok (.aload_n 0, 1) := by decide +kernel
theorem d_M_init_142 : decode prog_8_method_1_code 142 = .ok (.bipush 24, 2) := by decide +kernel
theorem d_M_init_144 : decode prog_8_method_1_code 144 = .ok (.newarray .boolean, 2) := by decide +kernel
theorem d_M_init_146 : decode prog_8_method_1_code 146 = .ok (.putfield 70, 3) := by decide +kernel
theorem d_M_init_149 : decode prog_8_method_1_code 149 = .ok (.aload_n 0, 1) := by decide +kernel
theorem d_M_init_150 : decode prog_8_method_1_code 150 = .ok (.bipush 48, 2) := by decide +kernel
theorem d_M_init_152 : decode prog_8_method_1_code 152 = .ok (.newarray .boolean, 2) := by decide +kernel
theorem d_M_init_154 : decode prog_8_method_1_code 154 = .ok (.putfield 73, 3) := by decide +kernel
theorem d_M_init_157 : decode prog_8_method_1_code 157 = .ok (.aload_n 0, 1) := by decide +kernel
theorem d_M_init_158 : decode prog_8_method_1_code 158 = .ok (.iload_n 1, 1) := by decide +kernel
theorem d_M_init_159 : decode prog_8_method_1_code 159 = .ok (.iconst 4, 1) := by decide +kernel
theorem d_M_init_160 : decode prog_8_method_1_code 160 = .ok (.if_icmp .ge 7, 3) := by decide +kernel
theorem d_M_init_163 : decode prog_8_method_1_code 163 = .ok (.iconst 4, 1) := by decide +kernel
theorem d_M_init_164 : decode prog_8_method_1_code 164 = .ok (.goto 17, 3) := by decide +kernel
theorem d_M_init_167 : decode prog_8_method_1_code 167 = .ok (.iload_n 1, 1) := by decide +kernel
theorem d_M_init_168 : decode prog_8_method_1_code 168 = .ok (.sipush 400, 3) := by decide +kernel
theorem d_M_init_171 : decode prog_8_method_1_code 171 = .ok (.if_icmp .le 9, 3) := by decide +kernel
theorem d_M_init_174 : decode prog_8_method_1_code 174 = .ok (.sipush 400, 3) := by decide +kernel
theorem d_M_init_177 : decode prog_8_method_1_code 177 = .ok (.goto 4, 3) := by decide +kernel
theorem d_M_init_180 : decode prog_8_method_1_code 180 = .ok (.iload_n 1, 1) := by decide +kernel
theorem d_M_init_181 : decode prog_8_method_1_code 181 = .ok (.putfield 76, 3) := by decide +kernel
theorem d_M_init_184 : decode prog_8_method_1_code 184 = .ok (.return_, 1) := by decide +kernel
theorem d_M_block_0 : decode prog_8_method_4_code 0 = .ok (.iload_n 1, 1) := by decide +kernel
theorem d_M_block_1 : decode prog_8_method_4_code 1 = .ok (.ifCond .lt 26, 3) := by decide +kernel
theorem d_M_block_4 : decode prog_8_method_4_code 4 = .ok (.iload_n 1, 1) := by decide +kernel
theorem d_M_block_5 : decode prog_8_method_4_code 5 = .ok (.iconst 3, 1) := by decide +kernel
theorem d_M_block_6 : decode prog_8_method_4_code 6 = .ok (.if_icmp .gt 21, 3) := by decide +kernel
theorem d_M_block_9 : decode prog_8_method_4_code 9 = .ok (.iload_n 2, 1) := by decide +kernel
theorem d_M_block_10 : decode prog_8_method_4_code 10 = .ok (.iconst 1, 1) := by decide +kernel
theorem d_M_block_11 : decode prog_8_method_4_code 11 = .ok (.if_icmp .lt 16, 3) := by decide +kernel
theorem d_M_block_14 : decode prog_8_method_4_code 14 = .ok (.iload_n 2, 1) := by decide +kernel
theorem d_M_block_15 : decode prog_8_method_4_code 15 = .ok (.bipush 40, 2) := by decide +kernel
theorem d_M_block_17 : decode prog_8_method_4_code 17 = .ok (.if_icmp .gt 10, 3) := by decide +kernel
theorem d_M_block_20 : decode prog_8_method_4_code 20 = .ok (.aload_n 0, 1) := by decide +kernel
theorem d_M_block_21 : decode prog_8_method_4_code 21 = .ok (.getfield 22, 3) := by decide +kernel
theorem d_M_block_24 : decode prog_8_method_4_code 24 = .ok (.ifCond .eq 5, 3) := by decide +kernel
theorem d_M_block_27 : decode prog_8_method_4_code 27 = .ok (.iconst (-1), 1) := by decide +kernel
theorem d_M_block_28 : decode prog_8_method_4_code 28 = .ok (.ireturn, 1) := by decide +kernel
theorem d_M_block_29 : decode prog_8_method_4_code 29 = .ok (.aload_n 0, 1) := by decide +kernel
theorem d_M_block_30 : decode prog_8_method_4_code 30 = .ok (.getfield 7, 3) := by decide +kernel
theorem d_M_block_33 : decode prog_8_method_4_code 33 = .ok (.bipush 24, 2) := by decide +kernel
theorem d_M_block_35 : decode prog_8_method_4_code 35 = .ok (.if_icmp .ne 6, 3) := by decide +kernel
theorem d_M_block_38 : decode prog_8_method_4_code 38 = .ok (.bipush (-2), 2) := by decide +kernel
theorem d_M_block_40 : decode prog_8_method_4_code 40 = .ok (.ireturn, 1) := by decide +kernel
theorem d_M_block_41 : decode prog_8_method_4_code 41 = .ok (.aload_n 0, 1) := by decide +kernel
theorem d_M_block_42 : decode prog_8_method_4_code 42 = .ok (.getfield 26, 3) := by decide +kernel
theorem d_M_block_45 : decode prog_8_method_4_code 45 = .ok (.aload_n 0, 1) := by decide +kernel
theorem d_M_block_46 : decode prog_8_method_4_code 46 = .ok (.getfield 7, 3) := by decide +kernel
theorem d_M_block_49 : decode prog_8_method_4_code 49 = .ok (.iload_n 1, 1) := by decide +kernel
theorem d_M_block_50 : decode prog_8_method_4_code 50 = .ok (.iastore, 1) := by decide +kernel
theorem d_M_block_51 : decode prog_8_method_4_code 51 = .ok (.aload_n 0, 1) := by decide +kernel
theorem d_M_block_52 : decode prog_8_method_4_code 52 = .ok (.getfield 30, 3) := by decide +kernel
theorem d_M_block_55 : decode prog_8_method_4_code 55 = .ok (.aload_n 0, 1) := by decide +kernel
theorem d_M_block_56 : decode prog_8_method_4_code 56 = .ok (.getfield 7, 3) := by decide +kernel
theorem d_M_block_59 : decode prog_8_method_4_code 59 = .ok (.iload_n 2, 1) := by decide +kernel
theorem d_M_block_60 : decode prog_8_method_4_code 60 = .ok (.iastore, 1) := by decide +kernel
theorem d_M_block_61 : decode prog_8_method_4_code 61 = .ok (.aload_n 0, 1) := by decide +kernel
theorem d_M_block_62 : decode prog_8_method_4_code 62 = .ok (.dup, 1) := by decide +kernel
theorem d_M_block_63 : decode prog_8_method_4_code 63 = .ok (.getfield 7, 3) := by decide +kernel
theorem d_M_block_66 : decode prog_8_method_4_code 66 = .ok (.iconst 1, 1) := by decide +kernel
theorem d_M_block_67 : decode prog_8_method_4_code 67 = .ok (.iadd, 1) := by decide +kernel
theorem d_M_block_68 : decode prog_8_method_4_code 68 = .ok (.putfield 7, 3) := by decide +kernel
theorem d_M_block_71 : decode prog_8_method_4_code 71 = .ok (.aload_n 0, 1) := by decide +kernel
theorem d_M_block_72 : decode prog_8_method_4_code 72 = .ok (.getfield 7, 3) := by decide +kernel
theorem d_M_block_75 : decode prog_8_method_4_code 75 = .ok (.iconst 1, 1) := by decide +kernel
theorem d_M_block_76 : decode prog_8_method_4_code 76 = .ok (.isub, 1) := by decide +kernel
theorem d_M_block_77 : decode prog_8_method_4_code 77 = .ok (.ireturn, 1) := by decide +kernel
theorem d_M_jump_0 : decode prog_8_method_5_code 0 = .ok (.aload_n 0, 1) := by decide +kernel
theorem d_M_jump_1 : decode prog_8_method_5_code 1 = .ok (.iload_n 1, 1) := by decide +kernel
theorem d_M_jump_2 : decode prog_8_method_5_code 2 = .ok (.iconst 1, 1) := by decide +kernel
theorem d_M_jump_3 : decode prog_8_method_5_code 3 = .ok (.iload_n 2, 1) := by decide +kernel
theorem d_M_jump_4 : decode prog_8_method_5_code 4 = .ok (.iload_n 2, 1) := by decide +kernel
theorem d_M_jump_5 : decode prog_8_method_5_code 5 = .ok (.invokevirtual 79, 3) := by decide +kernel
theorem d_M_jump_8 : decode prog_8_method_5_code 8 = .ok (.ireturn, 1) := by decide +kernel
theorem d_M_give_0 : decode prog_8_method_7_code 0 = .ok (.aload_n 0, 1) := by decide +kernel
theorem d_M_give_1 : decode prog_8_method_7_code 1 = .ok (.getfield 22, 3) := by decide +kernel
theorem d_M_give_4 : decode prog_8_method_7_code 4 = .ok (.ifCond .ne 59, 3) := by decide +kernel
theorem d_M_give_7 : decode prog_8_method_7_code 7 = .ok (.aload_n 0, 1) := by decide +kernel
theorem d_M_give_8 : decode prog_8_method_7_code 8 = .ok (.iload_n 1, 1) := by decide +kernel
theorem d_M_give_9 : decode prog_8_method_7_code 9 = .ok (.invokevirtual 83, 3) := by decide +kernel
theorem d_M_give_12 : decode prog_8_method_7_code 12 = .ok (.ifCond .ne 51, 3) := by decide +kernel
theorem d_M_give_15 : decode prog_8_method_7_code 15 = .ok (.aload_n 0, 1) := by decide +kernel
theorem d_M_give_16 : decode prog_8_method_7_code 16 = .ok (.iload_n 3, 1) := by decide +kernel
theorem d_M_give_17 : decode prog_8_method_7_code 17 = .ok (.invokevirtual 83, 3) := by decide +kernel
theorem d_M_give_20 : decode prog_8_method_7_code 20 = .ok (.ifCond .ne 43, 3) := by decide +kernel
theorem d_M_give_23 : decode prog_8_method_7_code 23 = .ok (.aload_n 0, 1) := by decide +kernel
theorem d_M_give_24 : decode prog_8_method_7_code 24 = .ok (.iload 4, 2) := by decide +kernel
theorem d_M_give_26 : decode prog_8_method_7_code 26 = .ok (.invokevirtual 83, 3) := by decide +kernel
theorem d_M_give_29 : decode prog_8_method_7_code 29 = .ok (.ifCond .ne 34, 3) := by decide +kernel
theorem d_M_give_32 : decode prog_8_method_7_code 32 = .ok (.aload_n 0, 1) := by decide +kernel
theorem d_M_give_33 : decode prog_8_method_7_code 33 = .ok (.getfield 26, 3) := by decide +kernel
theorem d_M_give_36 : decode prog_8_method_7_code 36 = .ok (.iload_n 3, 1) := by decide +kernel
theorem d_M_give_37 : decode prog_8_method_7_code 37 = .ok (.iaload, 1) := by decide +kernel
theorem d_M_give_38 : decode prog_8_method_7_code 38 = .ok (.aload_n 0, 1) := by decide +kernel
theorem d_M_give_39 : decode prog_8_method_7_code 39 = .ok (.getfield 26, 3) := by decide +kernel
theorem d_M_give_42 : decode prog_8_method_7_code 42 = .ok (.iload_n 1, 1) := by decide +kernel
theorem d_M_give_43 : decode prog_8_method_7_code 43 = .ok (.iaload, 1) := by decide +kernel
theorem d_M_give_44 : decode prog_8_method_7_code 44 = .ok (.if_icmp .ne 19, 3) := by decide +kernel
theorem d_M_give_47 : decode prog_8_method_7_code 47 = .ok (.aload_n 0, 1) := by decide +kernel
theorem d_M_give_48 : decode prog_8_method_7_code 48 = .ok (.getfield 26, 3) := by decide +kernel
theorem d_M_give_51 : decode prog_8_method_7_code 51 = .ok (.iload 4, 2) := by decide +kernel
theorem d_M_give_53 : decode prog_8_method_7_code 53 = .ok (.iaload, 1) := by decide +kernel
theorem d_M_give_54 : decode prog_8_method_7_code 54 = .ok (.aload_n 0, 1) := by decide +kernel
theorem d_M_give_55 : decode prog_8_method_7_code 55 = .ok (.getfield 26, 3) := by decide +kernel
theorem d_M_give_58 : decode prog_8_method_7_code 58 = .ok (.iload_n 1, 1) := by decide +kernel
theorem d_M_give_59 : decode prog_8_method_7_code 59 = .ok (.iaload, 1) := by decide +kernel
theorem d_M_give_60 : decode prog_8_method_7_code 60 = .ok (.if_icmp .eq 5, 3) := by decide +kernel
theorem d_M_give_63 : decode prog_8_method_7_code 63 = .ok (.iconst (-1), 1) := by decide +kernel
theorem d_M_give_64 : decode prog_8_method_7_code 64 = .ok (.ireturn, 1) := by decide +kernel
theorem d_M_give_65 : decode prog_8_method_7_code 65 = .ok (.aload_n 0, 1) := by decide +kernel
theorem d_M_give_66 : decode prog_8_method_7_code 66 = .ok (.getfield 33, 3) := by decide +kernel
theorem d_M_give_69 : decode prog_8_method_7_code 69 = .ok (.iload_n 1, 1) := by decide +kernel
theorem d_M_give_70 : decode prog_8_method_7_code 70 = .ok (.iload_n 2, 1) := by decide +kernel
theorem d_M_give_71 : decode prog_8_method_7_code 71 = .ok (.iastore, 1) := by decide +kernel
theorem d_M_give_72 : decode prog_8_method_7_code 72 = .ok (.aload_n 0, 1) := by decide +kernel
theorem d_M_give_73 : decode prog_8_method_7_code 73 = .ok (.getfield 36, 3) := by decide +kernel
theorem d_M_give_76 : decode prog_8_method_7_code 76 = .ok (.iload_n 1, 1) := by decide +kernel
theorem d_M_give_77 : decode prog_8_method_7_code 77 = .ok (.iconst 2, 1) := by decide +kernel
theorem d_M_give_78 : decode prog_8_method_7_code 78 = .ok (.imul, 1) := by decide +kernel
theorem d_M_give_79 : decode prog_8_method_7_code 79 = .ok (.iload_n 3, 1) := by decide +kernel
theorem d_M_give_80 : decode prog_8_method_7_code 80 = .ok (.iastore, 1) := by decide +kernel
theorem d_M_give_81 : decode prog_8_method_7_code 81 = .ok (.aload_n 0, 1) := by decide +kernel
theorem d_M_give_82 : decode prog_8_method_7_code 82 = .ok (.getfield 36, 3) := by decide +kernel
theorem d_M_give_85 : decode prog_8_method_7_code 85 = .ok (.iload_n 1, 1) := by decide +kernel
theorem d_M_give_86 : decode prog_8_method_7_code 86 = .ok (.iconst 2, 1) := by decide +kernel
theorem d_M_give_87 : decode prog_8_method_7_code 87 = .ok (.imul, 1) := by decide +kernel
theorem d_M_give_88 : decode prog_8_method_7_code 88 = .ok (.iconst 1, 1) := by decide +kernel
theorem d_M_give_89 : decode prog_8_method_7_code 89 = .ok (.iadd, 1) := by decide +kernel
theorem d_M_give_90 : decode prog_8_method_7_code 90 = .ok (.iload 4, 2) := by decide +kernel
theorem d_M_give_92 : decode prog_8_method_7_code 92 = .ok (.iastore, 1) := by decide +kernel
theorem d_M_give_93 : decode prog_8_method_7_code 93 = .ok (.aload_n 0, 1) := by decide +kernel
theorem d_M_give_94 : decode prog_8_method_7_code 94 = .ok (.getfield 42, 3) := by decide +kernel
theorem d_M_give_97 : decode prog_8_method_7_code 97 = .ok (.iload_n 1, 1) := by decide +kernel
theorem d_M_give_98 : decode prog_8_method_7_code 98 = .ok (.iconst 2, 1) := by decide +kernel
theorem d_M_give_99 : decode prog_8_method_7_code 99 = .ok (.imul, 1) := by decide +kernel
theorem d_M_give_100 : decode prog_8_method_7_code 100 = .ok (.iconst 0, 1) := by decide +kernel
theorem d_M_give_101 : decode prog_8_method_7_code 101 = .ok (.iastore, 1) := by decide +kernel
theorem d_M_give_102 : decode prog_8_method_7_code 102 = .ok (.aload_n 0, 1) := by decide +kernel
theorem d_M_give_103 : decode prog_8_method_7_code 103 = .ok (.getfield 42, 3) := by decide +kernel
theorem d_M_give_106 : decode prog_8_method_7_code 106 = .ok (.iload_n 1, 1) := by decide +kernel
theorem d_M_give_107 : decode prog_8_method_7_code 107 = .ok (.iconst 2, 1) := by decide +kernel
theorem d_M_give_108 : decode prog_8_method_7_code 108 = .ok (.imul, 1) := by decide +kernel
theorem d_M_give_109 : decode prog_8_method_7_code 109 = .ok (.iconst 1, 1) := by decide +kernel
theorem d_M_give_110 : decode prog_8_method_7_code 110 = .ok (.iadd, 1) := by decide +kernel
theorem d_M_give_111 : decode prog_8_method_7_code 111 = .ok (.iconst 0, 1) := by decide +kernel
theorem d_M_give_112 : decode prog_8_method_7_code 112 = .ok (.iastore, 1) := by decide +kernel
theorem d_M_give_113 : decode prog_8_method_7_code 113 = .ok (.iconst 0, 1) := by decide +kernel
theorem d_M_give_114 : decode prog_8_method_7_code 114 = .ok (.ireturn, 1) := by decide +kernel
theorem d_M_no_0 : decode prog_8_method_2_code 0 = .ok (.iload_n 1, 1) := by decide +kernel
theorem d_M_no_1 : decode prog_8_method_2_code 1 = .ok (.ifCond .lt 11, 3) := by decide +kernel
theorem d_M_no_4 : decode prog_8_method_2_code 4 = .ok (.iload_n 1, 1) := by decide +kernel
theorem d_M_no_5 : decode prog_8_method_2_code 5 = .ok (.aload_n 0, 1) := by decide +kernel
theorem d_M_no_6 : decode prog_8_method_2_code 6 = .ok (.getfield 7, 3) := by decide +kernel
theorem d_M_no_9 : decode prog_8_method_2_code 9 = .ok (.if_icmp .lt 7, 3) := by decide +kernel
theorem d_M_no_12 : decode prog_8_method_2_code 12 = .ok (.iconst 1, 1) := by decide +kernel
theorem d_M_no_13 : decode prog_8_method_2_code 13 = .ok (.goto 4, 3) := by decide +kernel
theorem d_M_no_16 : decode prog_8_method_2_code 16 = .ok (.iconst 0, 1) := by decide +kernel
theorem d_M_no_17 : decode prog_8_method_2_code 17 = .ok (.ireturn, 1) := by decide +kernel
theorem d_M_test_0 : decode prog_8_method_6_code 0 = .ok (.aload_n 0, 1) := by decide +kernel
theorem d_M_test_1 : decode prog_8_method_6_code 1 = .ok (.iload_n 1, 1) := by decide +kernel
theorem d_M_test_2 : decode prog_8_method_6_code 2 = .ok (.iconst 2, 1) := by decide +kernel
theorem d_M_test_3 : decode prog_8_method_6_code 3 = .ok (.iload_n 2, 1) := by decide +kernel
theorem d_M_test_4 : decode prog_8_method_6_code 4 = .ok (.iload_n 3, 1) := by decide +kernel
theorem d_M_test_5 : decode prog_8_method_6_code 5 = .ok (.invokevirtual 79, 3) := by decide +kernel
theorem d_M_test_8 : decode prog_8_method_6_code 8 = .ok (.ireturn, 1) := by decide +kernel
theorem d_M_walk_0 : decode prog_8_method_10_code 0 = .ok (.iload_n 1, 1) := by decide +kernel
theorem d_M_walk_1 : decode prog_8_method_10_code 1 = .ok (.ifCond .lt 8, 3) := by decide +kernel
theorem d_M_walk_4 : decode prog_8_method_10_code 4 = .ok (.iload_n 1, 1) := by decide +kernel
theorem d_M_walk_5 : decode prog_8_method_10_code 5 = .ok (.iconst 3, 1) := by decide +kernel
theorem d_M_walk_6 : decode prog_8_method_10_code 6 = .ok (.if_icmp .le 7, 3) := by decide +kernel
theorem d_M_walk_9 : decode prog_8_method_10_code 9 = .ok (.iconst (-1), 1) := by decide +kernel
theorem d_M_walk_10 : decode prog_8_method_10_code 10 = .ok (.goto 8, 3) := by decide +kernel
theorem d_M_walk_13 : decode prog_8_method_10_code 13 = .ok (.aload_n 0, 1) := by decide +kernel
theorem d_M_walk_14 : decode prog_8_method_10_code 14 = .ok (.iload_n 1, 1) := by decide +kernel
theorem d_M_walk_15 : decode prog_8_method_10_code 15 = .ok (.invokevirtual 88, 3) := by decide +kernel
theorem d_M_walk_18 : decode prog_8_method_10_code 18 = .ok (.istore_n 3, 1) := by decide +kernel
theorem d_M_walk_19 : decode prog_8_method_10_code 19 = .ok (.iconst 0, 1) := by decide +kernel
theorem d_M_walk_20 : decode prog_8_method_10_code 20 = .ok (.istore 4, 2) := by decide +kernel
theorem d_M_walk_22 : decode prog_8_method_10_code 22 = .ok (.iconst 0, 1) := by decide +kernel
theorem d_M_walk_23 : decode prog_8_method_10_code 23 = .ok (.istore 5, 2) := by decide +kernel
theorem d_M_walk_25 : decode prog_8_method_10_code 25 = .ok (.iload_n 3, 1) := by decide +kernel
theorem d_M_walk_26 : decode prog_8_method_10_code 26 = .ok (.ifCond .ge 5, 3) := by decide +kernel
theorem d_M_walk_29 : decode prog_8_method_10_code 29 = .ok (.iconst (-1), 1) := by decide +kernel
theorem d_M_walk_30 : decode prog_8_method_10_code 30 = .ok (.ireturn, 1) := by decide +kernel
theorem d_M_walk_31 : decode prog_8_method_10_code 31 = .ok (.aload_n 0, 1) := by decide +kernel
theorem d_M_walk_32 : decode prog_8_method_10_code 32 = .ok (.getfield 39, 3) := by decide +kernel
theorem d_M_walk_35 : decode prog_8_method_10_code 35 = .ok (.iload_n 3, 1) := by decide +kernel
theorem d_M_walk_36 : decode prog_8_method_10_code 36 = .ok (.aload_n 0, 1) := by decide +kernel
theorem d_M_walk_37 : decode prog_8_method_10_code 37 = .ok (.aload_n 0, 1) := by decide +kernel
theorem d_M_walk_38 : decode prog_8_method_10_code 38 = .ok (.getfield 39, 3) := by decide +kernel
theorem d_M_walk_41 : decode prog_8_method_10_code 41 = .ok (.iload_n 3, 1) := by decide +kernel
theorem d_M_walk_42 : decode prog_8_method_10_code 42 = .ok (.iaload, 1) := by decide +kernel
theorem d_M_walk_43 : decode prog_8_method_10_code 43 = .ok (.iconst 1, 1) := by decide +kernel
theorem d_M_walk_44 : decode prog_8_method_10_code 44 = .ok (.invokevirtual 92, 3) := by decide +kernel
theorem d_M_walk_47 : decode prog_8_method_10_code 47 = .ok (.iastore, 1) := by decide +kernel
theorem d_M_walk_48 : decode prog_8_method_10_code 48 = .ok (.iinc 4 1, 3) := by decide +kernel
theorem d_M_walk_51 : decode prog_8_method_10_code 51 = .ok (.aload_n 0, 1) := by decide +kernel
theorem d_M_walk_52 : decode prog_8_method_10_code 52 = .ok (.iload_n 3, 1) := by decide +kernel
theorem d_M_walk_53 : decode prog_8_method_10_code 53 = .ok (.iload 5, 2) := by decide +kernel
theorem d_M_walk_55 : decode prog_8_method_10_code 55 = .ok (.iload_n 2, 1) := by decide +kernel
theorem d_M_walk_56 : decode prog_8_method_10_code 56 = .ok (.invokevirtual 96, 3) := by decide +kernel
theorem d_M_walk_59 : decode prog_8_method_10_code 59 = .ok (.istore 6, 2) := by decide +kernel
theorem d_M_walk_61 : decode prog_8_method_10_code 61 = .ok (.iload 4, 2) := by decide +kernel
theorem d_M_walk_63 : decode prog_8_method_10_code 63 = .ok (.bipush 60, 2) := by decide +kernel
theorem d_M_walk_65 : decode prog_8_method_10_code 65 = .ok (.if_icmp .eq 8, 3) := by decide +kernel
theorem d_M_walk_68 : decode prog_8_method_10_code 68 = .ok (.iload 6, 2) := by decide +kernel
theorem d_M_walk_70 : decode prog_8_method_10_code 70 = .ok (.ifCond .ge 6, 3) := by decide +kernel
theorem d_M_walk_73 : decode prog_8_method_10_code 73 = .ok (.iload 4, 2) := by decide +kernel
theorem d_M_walk_75 : decode prog_8_method_10_code 75 = .ok (.ireturn, 1) := by decide +kernel
theorem d_M_walk_76 : decode prog_8_method_10_code 76 = .ok (.aload_n 0, 1) := by decide +kernel
theorem d_M_walk_77 : decode prog_8_method_10_code 77 = .ok (.getfield 33, 3) := by decide +kernel
theorem d_M_walk_80 : decode prog_8_method_10_code 80 = .ok (.iload_n 3, 1) := by decide +kernel
theorem d_M_walk_81 : decode prog_8_method_10_code 81 = .ok (.iaload, 1) := by decide +kernel
theorem d_M_walk_82 : decode prog_8_method_10_code 82 = .ok (.iconst 2, 1) := by decide +kernel
theorem d_M_walk_83 : decode prog_8_method_10_code 83 = .ok (.if_icmp .ne 6, 3) := by decide +kernel
theorem d_M_walk_86 : decode prog_8_method_10_code 86 = .ok (.iinc 5 1, 3) := by decide +kernel
theorem d_M_walk_89 : decode prog_8_method_10_code 89 = .ok (.aload_n 0, 1) := by decide +kernel
theorem d_M_walk_90 : decode prog_8_method_10_code 90 = .ok (.getfield 42, 3) := by decide +kernel
theorem d_M_walk_93 : decode prog_8_method_10_code 93 = .ok (.iload_n 3, 1) := by decide +kernel
theorem d_M_walk_94 : decode prog_8_method_10_code 94 = .ok (.iconst 2, 1) := by decide +kernel
theorem d_M_walk_95 : decode prog_8_method_10_code 95 = .ok (.imul, 1) := by decide +kernel
theorem d_M_walk_96 : decode prog_8_method_10_code 96 = .ok (.iload 6, 2) := by decide +kernel
theorem d_M_walk_98 : decode prog_8_method_10_code 98 = .ok (.iadd, 1) := by decide +kernel
theorem d_M_walk_99 : decode prog_8_method_10_code 99 = .ok (.aload_n 0, 1) := by decide +kernel
theorem d_M_walk_100 : decode prog_8_method_10_code 100 = .ok (.aload_n 0, 1) := by decide +kernel
theorem d_M_walk_101 : decode prog_8_method_10_code 101 = .ok (.getfield 42, 3) := by decide +kernel
theorem d_M_walk_104 : decode prog_8_method_10_code 104 = .ok (.iload_n 3, 1) := by decide +kernel
theorem d_M_walk_105 : decode prog_8_method_10_code 105 = .ok (.iconst 2, 1) := by decide +kernel
theorem d_M_walk_106 : decode prog_8_method_10_code 106 = .ok (.imul, 1) := by decide +kernel
theorem d_M_walk_107 : decode prog_8_method_10_code 107 = .ok (.iload 6, 2) := by decide +kernel
theorem d_M_walk_109 : decode prog_8_method_10_code 109 = .ok (.iadd, 1) := by decide +kernel
theorem d_M_walk_110 : decode prog_8_method_10_code 110 = .ok (.iaload, 1) := by decide +kernel
theorem d_M_walk_111 : decode prog_8_method_10_code 111 = .ok (.iconst 1, 1) := by decide +kernel
theorem d_M_walk_112 : decode prog_8_method_10_code 112 = .ok (.invokevirtual 92, 3) := by decide +kernel
theorem d_M_walk_115 : decode prog_8_method_10_code 115 = .ok (.iastore, 1) := by decide +kernel
theorem d_M_walk_116 : decode prog_8_method_10_code 116 = .ok (.aload_n 0, 1) := by decide +kernel
theorem d_M_walk_117 : decode prog_8_method_10_code 117 = .ok (.getfield 36, 3) := by decide +kernel
theorem d_M_walk_120 : decode prog_8_method_10_code 120 = .ok (.iload_n 3, 1) := by decide +kernel
theorem d_M_walk_121 : decode prog_8_method_10_code 121 = .ok (.iconst 2, 1) := by decide +kernel
theorem d_M_walk_122 : decode prog_8_method_10_code 122 = .ok (.imul, 1) := by decide +kernel
theorem d_M_walk_123 : decode prog_8_method_10_code 123 = .ok (.iload 6, 2) := by decide +kernel
theorem d_M_walk_125 : decode prog_8_method_10_code 125 = .ok (.iadd, 1) := by decide +kernel
theorem d_M_walk_126 : decode prog_8_method_10_code 126 = .ok (.iaload, 1) := by decide +kernel
theorem d_M_walk_127 : decode prog_8_method_10_code 127 = .ok (.istore_n 3, 1) := by decide +kernel
theorem d_M_walk_128 : decode prog_8_method_10_code 128 = .ok (.goto (-97), 3) := by decide +kernel
theorem d_M_entry_0 : decode prog_8_method_3_code 0 = .ok (.iconst 0, 1) := by decide +kernel
theorem d_M_entry_1 : decode prog_8_method_3_code 1 = .ok (.istore_n 2, 1) := by decide +kernel
theorem d_M_entry_2 : decode prog_8_method_3_code 2 = .ok (.iload_n 2, 1) := by decide +kernel
theorem d_M_entry_3 : decode prog_8_method_3_code 3 = .ok (.aload_n 0, 1) := by decide +kernel
theorem d_M_entry_4 : decode prog_8_method_3_code 4 = .ok (.getfield 7, 3) := by decide +kernel
theorem d_M_entry_7 : decode prog_8_method_3_code 7 = .ok (.if_icmp .ge 21, 3) := by decide +kernel
theorem d_M_entry_10 : decode prog_8_method_3_code 10 = .ok (.aload_n 0, 1) := by decide +kernel
theorem d_M_entry_11 : decode prog_8_method_3_code 11 = .ok (.getfield 26, 3) := by decide +kernel
theorem d_M_entry_14 : decode prog_8_method_3_code 14 = .ok (.iload_n 2, 1) := by decide +kernel
theorem d_M_entry_15 : decode prog_8_method_3_code 15 = .ok (.iaload, 1) := by decide +kernel
theorem d_M_entry_16 : decode prog_8_method_3_code 16 = .ok (.iload_n 1, 1) := by decide +kernel
theorem d_M_entry_17 : decode prog_8_method_3_code 17 = .ok (.if_icmp .ne 5, 3) := by decide +kernel
theorem d_M_entry_20 : decode prog_8_method_3_code 20 = .ok (.iload_n 2, 1) := by decide +kernel
theorem d_M_entry_21 : decode prog_8_method_3_code 21 = .ok (.ireturn, 1) := by decide +kernel
theorem d_M_entry_22 : decode prog_8_method_3_code 22 = .ok (.iinc 2 1, 3) := by decide +kernel
theorem d_M_entry_25 : decode prog_8_method_3_code 25 = .ok (.goto (-23), 3) := by decide +kernel
theorem d_M_entry_28 : decode prog_8_method_3_code 28 = .ok (.iconst (-1), 1) := by decide +kernel
theorem d_M_entry_29 : decode prog_8_method_3_code 29 = .ok (.ireturn, 1) := by decide +kernel
theorem d_M_warmer_0 : decode prog_8_method_8_code 0 = .ok (.iload_n 1, 1) := by decide +kernel
theorem d_M_warmer_1 : decode prog_8_method_8_code 1 = .ok (.iload_n 2, 1) := by decide +kernel
theorem d_M_warmer_2 : decode prog_8_method_8_code 2 = .ok (.iadd, 1) := by decide +kernel
theorem d_M_warmer_3 : decode prog_8_method_8_code 3 = .ok (.ldc 87, 2) := by decide +kernel
theorem d_M_warmer_5 : decode prog_8_method_8_code 5 = .ok (.if_icmp .le 8, 3) := by decide +kernel
theorem d_M_warmer_8 : decode prog_8_method_8_code 8 = .ok (.ldc 87, 2) := by decide +kernel
theorem d_M_warmer_10 : decode prog_8_method_8_code 10 = .ok (.goto 6, 3) := by decide +kernel
theorem d_M_warmer_13 : decode prog_8_method_8_code 13 = .ok (.iload_n 1, 1) := by decide +kernel
theorem d_M_warmer_14 : decode prog_8_method_8_code 14 = .ok (.iload_n 2, 1) := by decide +kernel
theorem d_M_warmer_15 : decode prog_8_method_8_code 15 = .ok (.iadd, 1) := by decide +kernel
theorem d_M_warmer_16 : decode prog_8_method_8_code 16 = .ok (.ireturn, 1) := by decide +kernel
theorem d_M_edge_0 : decode prog_8_method_9_code 0 = .ok (.aload_n 0, 1) := by decide +kernel
theorem d_M_edge_1 : decode prog_8_method_9_code 1 = .ok (.getfield 33, 3) := by decide +kernel
theorem d_M_edge_4 : decode prog_8_method_9_code 4 = .ok (.iload_n 1, 1) := by decide +kernel
theorem d_M_edge_5 : decode prog_8_method_9_code 5 = .ok (.iaload, 1) := by decide +kernel
theorem d_M_edge_6 : decode prog_8_method_9_code 6 = .ok (.iconst 2, 1) := by decide +kernel
theorem d_M_edge_7 : decode prog_8_method_9_code 7 = .ok (.if_icmp .ge 12, 3) := by decide +kernel
theorem d_M_edge_10 : decode prog_8_method_9_code 10 = .ok (.aload_n 0, 1) := by decide +kernel
theorem d_M_edge_11 : decode prog_8_method_9_code 11 = .ok (.getfield 33, 3) := by decide +kernel
theorem d_M_edge_14 : decode prog_8_method_9_code 14 = .ok (.iload_n 1, 1) := by decide +kernel
theorem d_M_edge_15 : decode prog_8_method_9_code 15 = .ok (.iaload, 1) := by decide +kernel
theorem d_M_edge_16 : decode prog_8_method_9_code 16 = .ok (.iconst 1, 1) := by decide +kernel
theorem d_M_edge_17 : decode prog_8_method_9_code 17 = .ok (.isub, 1) := by decide +kernel
theorem d_M_edge_18 : decode prog_8_method_9_code 18 = .ok (.ireturn, 1) := by decide +kernel
theorem d_M_edge_19 : decode prog_8_method_9_code 19 = .ok (.iload_n 2, 1) := by decide +kernel
theorem d_M_edge_20 : decode prog_8_method_9_code 20 = .ok (.bipush 32, 2) := by decide +kernel
theorem d_M_edge_22 : decode prog_8_method_9_code 22 = .ok (.if_icmp .ge 16, 3) := by decide +kernel
theorem d_M_edge_25 : decode prog_8_method_9_code 25 = .ok (.iload_n 3, 1) := by decide +kernel
theorem d_M_edge_26 : decode prog_8_method_9_code 26 = .ok (.iload_n 2, 1) := by decide +kernel
theorem d_M_edge_27 : decode prog_8_method_9_code 27 = .ok (.ishr, 1) := by decide +kernel
theorem d_M_edge_28 : decode prog_8_method_9_code 28 = .ok (.iconst 1, 1) := by decide +kernel
theorem d_M_edge_29 : decode prog_8_method_9_code 29 = .ok (.iand, 1) := by decide +kernel
theorem d_M_edge_30 : decode prog_8_method_9_code 30 = .ok (.iconst 1, 1) := by decide +kernel
theorem d_M_edge_31 : decode prog_8_method_9_code 31 = .ok (.if_icmp .ne 7, 3) := by decide +kernel
theorem d_M_edge_34 : decode prog_8_method_9_code 34 = .ok (.iconst 0, 1) := by decide +kernel
theorem d_M_edge_35 : decode prog_8_method_9_code 35 = .ok (.goto 4, 3) := by decide +kernel
theorem d_M_edge_38 : decode prog_8_method_9_code 38 = .ok (.iconst 1, 1) := by decide +kernel
theorem d_M_edge_39 : decode prog_8_method_9_code 39 = .ok (.ireturn, 1) := by decide +kernel
theorem d_M_heat_0 : decode prog_8_method_11_code 0 = .ok (.aload_n 0, 1) := by decide +kernel
theorem d_M_heat_1 : decode prog_8_method_11_code 1 = .ok (.iload_n 1, 1) := by decide +kernel
theorem d_M_heat_2 : decode prog_8_method_11_code 2 = .ok (.invokevirtual 83, 3) := by decide +kernel
theorem d_M_heat_5 : decode prog_8_method_11_code 5 = .ok (.ifCond .ne 28, 3) := by decide +kernel
theorem d_M_heat_8 : decode prog_8_method_11_code 8 = .ok (.iload_n 2, 1) := by decide +kernel
theorem d_M_heat_9 : decode prog_8_method_11_code 9 = .ok (.ifCond .lt 24, 3) := by decide +kernel
theorem d_M_heat_12 : decode prog_8_method_11_code 12 = .ok (.iload_n 2, 1) := by decide +kernel
theorem d_M_heat_13 : decode prog_8_method_11_code 13 = .ok (.aload_n 0, 1) := by decide +kernel
theorem d_M_heat_14 : decode prog_8_method_11_code 14 = .ok (.getfield 33, 3) := by decide +kernel
theorem d_M_heat_17 : decode prog_8_method_11_code 17 = .ok (.iload_n 1, 1) := by decide +kernel
theorem d_M_heat_18 : decode prog_8_method_11_code 18 = .ok (.iaload, 1) := by decide +kernel
theorem d_M_heat_19 : decode prog_8_method_11_code 19 = .ok (.if_icmp .ge 14, 3) := by decide +kernel
theorem d_M_heat_22 : decode prog_8_method_11_code 22 = .ok (.iload_n 3, 1) := by decide +kernel
theorem d_M_heat_23 : decode prog_8_method_11_code 23 = .ok (.iconst 1, 1) := by decide +kernel
theorem d_M_heat_24 : decode prog_8_method_11_code 24 = .ok (.if_icmp .lt 9, 3) := by decide +kernel
theorem d_M_heat_27 : decode prog_8_method_11_code 27 = .ok (.iload_n 3, 1) := by decide +kernel
theorem d_M_heat_28 : decode prog_8_method_11_code 28 = .ok (.ldc 100, 2) := by decide +kernel
theorem d_M_heat_30 : decode prog_8_method_11_code 30 = .ok (.if_icmp .le 5, 3) := by decide +kernel
theorem d_M_heat_33 : decode prog_8_method_11_code 33 = .ok (.iconst (-1), 1) := by decide +kernel
theorem d_M_heat_34 : decode prog_8_method_11_code 34 = .ok (.ireturn, 1) := by decide +kernel
theorem d_M_heat_35 : decode prog_8_method_11_code 35 = .ok (.iload_n 1, 1) := by decide +kernel
theorem d_M_heat_36 : decode prog_8_method_11_code 36 = .ok (.iconst 2, 1) := by decide +kernel
theorem d_M_heat_37 : decode prog_8_method_11_code 37 = .ok (.imul, 1) := by decide +kernel
theorem d_M_heat_38 : decode prog_8_method_11_code 38 = .ok (.iload_n 2, 1) := by decide +kernel
theorem d_M_heat_39 : decode prog_8_method_11_code 39 = .ok (.iadd, 1) := by decide +kernel
theorem d_M_heat_40 : decode prog_8_method_11_code 40 = .ok (.istore 4, 2) := by decide +kernel
theorem d_M_heat_42 : decode prog_8_method_11_code 42 = .ok (.aload_n 0, 1) := by decide +kernel
theorem d_M_heat_43 : decode prog_8_method_11_code 43 = .ok (.getfield 42, 3) := by decide +kernel
theorem d_M_heat_46 : decode prog_8_method_11_code 46 = .ok (.iload 4, 2) := by decide +kernel
theorem d_M_heat_48 : decode prog_8_method_11_code 48 = .ok (.aload_n 0, 1) := by decide +kernel
theorem d_M_heat_49 : decode prog_8_method_11_code 49 = .ok (.aload_n 0, 1) := by decide +kernel
theorem d_M_heat_50 : decode prog_8_method_11_code 50 = .ok (.getfield 42, 3) := by decide +kernel
theorem d_M_heat_53 : decode prog_8_method_11_code 53 = .ok (.iload 4, 2) := by decide +kernel
theorem d_M_heat_55 : decode prog_8_method_11_code 55 = .ok (.iaload, 1) := by decide +kernel
theorem d_M_heat_56 : decode prog_8_method_11_code 56 = .ok (.iload_n 3, 1) := by decide +kernel
theorem d_M_heat_57 : decode prog_8_method_11_code 57 = .ok (.invokevirtual 92, 3) := by decide +kernel
theorem d_M_heat_60 : decode prog_8_method_11_code 60 = .ok (.iastore, 1) := by decide +kernel
theorem d_M_heat_61 : decode prog_8_method_11_code 61 = .ok (.aload_n 0, 1) := by decide +kernel
theorem d_M_heat_62 : decode prog_8_method_11_code 62 = .ok (.getfield 39, 3) := by decide +kernel
theorem d_M_heat_65 : decode prog_8_method_11_code 65 = .ok (.aload_n 0, 1) := by decide +kernel
theorem d_M_heat_66 : decode prog_8_method_11_code 66 = .ok (.getfield 36, 3) := by decide +kernel
theorem d_M_heat_69 : decode prog_8_method_11_code 69 = .ok (.iload 4, 2) := by decide +kernel
theorem d_M_heat_71 : decode prog_8_method_11_code 71 = .ok (.iaload, 1) := by decide +kernel
theorem d_M_heat_72 : decode prog_8_method_11_code 72 = .ok (.aload_n 0, 1) := by decide +kernel
theorem d_M_heat_73 : decode prog_8_method_11_code 73 = .ok (.aload_n 0, 1) := by decide +kernel
theorem d_M_heat_74 : decode prog_8_method_11_code 74 = .ok (.getfield 39, 3) := by decide +kernel
theorem d_M_heat_77 : decode prog_8_method_11_code 77 = .ok (.aload_n 0, 1) := by decide +kernel
theorem d_M_heat_78 : decode prog_8_method_11_code 78 = .ok (.getfield 36, 3) := by decide +kernel
theorem d_M_heat_81 : decode prog_8_method_11_code 81 = .ok (.iload 4, 2) := by decide +kernel
theorem d_M_heat_83 : decode prog_8_method_11_code 83 = .ok (.iaload, 1) := by decide +kernel
theorem d_M_heat_84 : decode prog_8_method_11_code 84 = .ok (.iaload, 1) := by decide +kernel
theorem d_M_heat_85 : decode prog_8_method_11_code 85 = .ok (.iload_n 3, 1) := by decide +kernel
theorem d_M_heat_86 : decode prog_8_method_11_code 86 = .ok (.invokevirtual 92, 3) := by decide +kernel
theorem d_M_heat_89 : decode prog_8_method_11_code 89 = .ok (.iastore, 1) := by decide +kernel
theorem d_M_heat_90 : decode prog_8_method_11_code 90 = .ok (.aload_n 0, 1) := by decide +kernel
theorem d_M_heat_91 : decode prog_8_method_11_code 91 = .ok (.getfield 42, 3) := by decide +kernel
theorem d_M_heat_94 : decode prog_8_method_11_code 94 = .ok (.iload 4, 2) := by decide +kernel
theorem d_M_heat_96 : decode prog_8_method_11_code 96 = .ok (.iaload, 1) := by decide +kernel
theorem d_M_heat_97 : decode prog_8_method_11_code 97 = .ok (.ireturn, 1) := by decide +kernel
theorem d_M_cool_0 : decode prog_8_method_12_code 0 = .ok (.iconst 0, 1) := by decide +kernel
theorem d_M_cool_1 : decode prog_8_method_12_code 1 = .ok (.istore_n 1, 1) := by decide +kernel
theorem d_M_cool_2 : decode prog_8_method_12_code 2 = .ok (.iload_n 1, 1) := by decide +kernel
theorem d_M_cool_3 : decode prog_8_method_12_code 3 = .ok (.bipush 24, 2) := by decide +kernel
theorem d_M_cool_5 : decode prog_8_method_12_code 5 = .ok (.if_icmp .ge 16, 3) := by decide +kernel
theorem d_M_cool_8 : decode prog_8_method_12_code 8 = .ok (.aload_n 0, 1) := by decide +kernel
theorem d_M_cool_9 : decode prog_8_method_12_code 9 = .ok (.getfield 39, 3) := by decide +kernel
theorem d_M_cool_12 : decode prog_8_method_12_code 12 = .ok (.iload_n 1, 1) := by decide +kernel
theorem d_M_cool_13 : decode prog_8_method_12_code 13 = .ok (.iconst 0, 1) := by decide +kernel
theorem d_M_cool_14 : decode prog_8_method_12_code 14 = .ok (.iastore, 1) := by decide +kernel
theorem d_M_cool_15 : decode prog_8_method_12_code 15 = .ok (.iinc 1 1, 3) := by decide +kernel
theorem d_M_cool_18 : decode prog_8_method_12_code 18 = .ok (.goto (-16), 3) := by decide +kernel
theorem d_M_cool_21 : decode prog_8_method_12_code 21 = .ok (.iconst 0, 1) := by decide +kernel
theorem d_M_cool_22 : decode prog_8_method_12_code 22 = .ok (.istore_n 1, 1) := by decide +kernel
theorem d_M_cool_23 : decode prog_8_method_12_code 23 = .ok (.iload_n 1, 1) := by decide +kernel
theorem d_M_cool_24 : decode prog_8_method_12_code 24 = .ok (.bipush 48, 2) := by decide +kernel
theorem d_M_cool_26 : decode prog_8_method_12_code 26 = .ok (.if_icmp .ge 16, 3) := by decide +kernel
theorem d_M_cool_29 : decode prog_8_method_12_code 29 = .ok (.aload_n 0, 1) := by decide +kernel
theorem d_M_cool_30 : decode prog_8_method_12_code 30 = .ok (.getfield 42, 3) := by decide +kernel
theorem d_M_cool_33 : decode prog_8_method_12_code 33 = .ok (.iload_n 1, 1) := by decide +kernel
theorem d_M_cool_34 : decode prog_8_method_12_code 34 = .ok (.iconst 0, 1) := by decide +kernel
theorem d_M_cool_35 : decode prog_8_method_12_code 35 = .ok (.iastore, 1) := by decide +kernel
theorem d_M_cool_36 : decode prog_8_method_12_code 36 = .ok (.iinc 1 1, 3) := by decide +kernel
theorem d_M_cool_39 : decode prog_8_method_12_code 39 = .ok (.goto (-16), 3) := by decide +kernel
theorem d_M_cool_42 : decode prog_8_method_12_code 42 = .ok (.iconst 0, 1) := by decide +kernel
theorem d_M_cool_43 : decode prog_8_method_12_code 43 = .ok (.ireturn, 1) := by decide +kernel
theorem d_M_layout_0 : decode prog_8_method_26_code 0 = .ok (.iload_n 1, 1) := by decide +kernel
theorem d_M_layout_1 : decode prog_8_method_26_code 1 = .ok (.ifCond .eq 8, 3) := by decide +kernel
theorem d_M_layout_4 : decode prog_8_method_26_code 4 = .ok (.iload_n 1, 1) := by decide +kernel
theorem d_M_layout_5 : decode prog_8_method_26_code 5 = .ok (.iconst 1, 1) := by decide +kernel
theorem d_M_layout_6 : decode prog_8_method_26_code 6 = .ok (.if_icmp .ne 10, 3) := by decide +kernel
theorem d_M_layout_9 : decode prog_8_method_26_code 9 = .ok (.aload_n 0, 1) := by decide +kernel
theorem d_M_layout_10 : decode prog_8_method_26_code 10 = .ok (.getfield 7, 3) := by decide +kernel
theorem d_M_layout_13 : decode prog_8_method_26_code 13 = .ok (.ifCond .ne 5, 3) := by decide +kernel
theorem d_M_layout_16 : decode prog_8_method_26_code 16 = .ok (.iconst (-1), 1) := by decide +kernel
theorem d_M_layout_17 : decode prog_8_method_26_code 17 = .ok (.ireturn, 1) := by decide +kernel
theorem d_M_layout_18 : decode prog_8_method_26_code 18 = .ok (.aload_n 0, 1) := by decide +kernel
theorem d_M_layout_19 : decode prog_8_method_26_code 19 = .ok (.iconst 1, 1) := by decide +kernel
theorem d_M_layout_20 : decode prog_8_method_26_code 20 = .ok (.putfield 22, 3) := by decide +kernel
theorem d_M_layout_23 : decode prog_8_method_26_code 23 = .ok (.aload_n 0, 1) := by decide +kernel
theorem d_M_layout_24 : decode prog_8_method_26_code 24 = .ok (.iconst 0, 1) := by decide +kernel
theorem d_M_layout_25 : decode prog_8_method_26_code 25 = .ok (.putfield 13, 3) := by decide +kernel
theorem d_M_layout_28 : decode prog_8_method_26_code 28 = .ok (.aload_n 0, 1) := by decide +kernel
theorem d_M_layout_29 : decode prog_8_method_26_code 29 = .ok (.iload_n 1, 1) := by decide +kernel
theorem d_M_layout_30 : decode prog_8_method_26_code 30 = .ok (.invokevirtual 128, 3) := by decide +kernel
theorem d_M_layout_33 : decode prog_8_method_26_code 33 = .ok (.aload_n 0, 1) := by decide +kernel
theorem d_M_layout_34 : decode prog_8_method_26_code 34 = .ok (.iload_n 1, 1) := by decide +kernel
theorem d_M_layout_35 : decode prog_8_method_26_code 35 = .ok (.invokevirtual 132, 3) := by decide +kernel
theorem d_M_layout_38 : decode prog_8_method_26_code 38 = .ok (.iconst 0, 1) := by decide +kernel
theorem d_M_layout_39 : decode prog_8_method_26_code 39 = .ok (.istore_n 2, 1) := by decide +kernel
theorem d_M_layout_40 : decode prog_8_method_26_code 40 = .ok (.iload_n 2, 1) := by decide +kernel
theorem d_M_layout_41 : decode prog_8_method_26_code 41 = .ok (.aload_n 0, 1) := by decide +kernel
theorem d_M_layout_42 : decode prog_8_method_26_code 42 = .ok (.getfield 7, 3) := by decide +kernel
theorem d_M_layout_45 : decode prog_8_method_26_code 45 = .ok (.if_icmp .ge 41, 3) := by decide +kernel
theorem d_M_layout_48 : decode prog_8_method_26_code 48 = .ok (.aload_n 0, 1) := by decide +kernel
theorem d_M_layout_49 : decode prog_8_method_26_code 49 = .ok (.aload_n 0, 1) := by decide +kernel
theorem d_M_layout_50 : decode prog_8_method_26_code 50 = .ok (.getfield 58, 3) := by decide +kernel
theorem d_M_layout_53 : decode prog_8_method_26_code 53 = .ok (.iload_n 2, 1) := by decide +kernel
theorem d_M_layout_54 : decode prog_8_method_26_code 54 = .ok (.iaload, 1) := by decide +kernel
theorem d_M_layout_55 : decode prog_8_method_26_code 55 = .ok (.iload_n 2, 1) := by decide +kernel
theorem d_M_layout_56 : decode prog_8_method_26_code 56 = .ok (.iconst 1, 1) := by decide +kernel
theorem d_M_layout_57 : decode prog_8_method_26_code 57 = .ok (.iadd, 1) := by decide +kernel
theorem d_M_layout_58 : decode prog_8_method_26_code 58 = .ok (.aload_n 0, 1) := by decide +kernel
theorem d_M_layout_59 : decode prog_8_method_26_code 59 = .ok (.getfield 7, 3) := by decide +kernel
theorem d_M_layout_62 : decode prog_8_method_26_code 62 = .ok (.if_icmp .ge 14, 3) := by decide +kernel
theorem d_M_layout_65 : decode prog_8_method_26_code 65 = .ok (.aload_n 0, 1) := by decide +kernel
theorem d_M_layout_66 : decode prog_8_method_26_code 66 = .ok (.getfield 58, 3) := by decide +kernel
theorem d_M_layout_69 : decode prog_8_method_26_code 69 = .ok (.iload_n 2, 1) := by decide +kernel
theorem d_M_layout_70 : decode prog_8_method_26_code 70 = .ok (.iconst 1, 1) := by decide +kernel
theorem d_M_layout_71 : decode prog_8_method_26_code 71 = .ok (.iadd, 1) := by decide +kernel
theorem d_M_layout_72 : decode prog_8_method_26_code 72 = .ok (.iaload, 1) := by decide +kernel
theorem d_M_layout_73 : decode prog_8_method_26_code 73 = .ok (.goto 4, 3) := by decide +kernel
theorem d_M_layout_76 : decode prog_8_method_26_code 76 = .ok (.iconst (-1), 1) := by decide +kernel
theorem d_M_layout_77 : decode prog_8_method_26_code 77 = .ok (.invokevirtual 135, 3) := by decide +kernel
theorem d_M_layout_80 : decode prog_8_method_26_code 80 = .ok (.iinc 2 1, 3) := by decide +kernel
theorem d_M_layout_83 : decode prog_8_method_26_code 83 = .ok (.goto (-43), 3) := by decide +kernel
theorem d_M_layout_86 : decode prog_8_method_26_code 86 = .ok (.aload_n 0, 1) := by decide +kernel
theorem d_M_layout_87 : decode prog_8_method_26_code 87 = .ok (.invokevirtual 139, 3) := by decide +kernel
theorem d_M_layout_90 : decode prog_8_method_26_code 90 = .ok (.ifCond .eq 16, 3) := by decide +kernel
theorem d_M_layout_93 : decode prog_8_method_26_code 93 = .ok (.aload_n 0, 1) := by decide +kernel
theorem d_M_layout_94 : decode prog_8_method_26_code 94 = .ok (.dup, 1) := by decide +kernel
theorem d_M_layout_95 : decode prog_8_method_26_code 95 = .ok (.getfield 13, 3) := by decide +kernel
theorem d_M_layout_98 : decode prog_8_method_26_code 98 = .ok (.iconst 1, 1) := by decide +kernel
theorem d_M_layout_99 : decode prog_8_method_26_code 99 = .ok (.iadd, 1) := by decide +kernel
theorem d_M_layout_100 : decode prog_8_method_26_code 100 = .ok (.putfield 13, 3) := by decide +kernel
theorem d_M_layout_103 : decode prog_8_method_26_code 103 = .ok (.goto (-17), 3) := by decide +kernel
theorem d_M_layout_106 : decode prog_8_method_26_code 106 = .ok (.aload_n 0, 1) := by decide +kernel
theorem d_M_layout_107 : decode prog_8_method_26_code 107 = .ok (.invokevirtual 142, 3) := by decide +kernel
theorem d_M_layout_110 : decode prog_8_method_26_code 110 = .ok (.ireturn, 1) := by decide +kernel
theorem d_M_makeChains_0 : decode prog_8_method_15_code 0 = .ok (.iconst 0, 1) := by decide +kernel
theorem d_M_makeChains_1 : decode prog_8_method_15_code 1 = .ok (.istore_n 2, 1) := by decide +kernel
theorem d_M_makeChains_2 : decode prog_8_method_15_code 2 = .ok (.iload_n 2, 1) := by decide +kernel
theorem d_M_makeChains_3 : decode prog_8_method_15_code 3 = .ok (.aload_n 0, 1) := by decide +kernel
theorem d_M_makeChains_4 : decode prog_8_method_15_code 4 = .ok (.getfield 7, 3) := by decide +kernel
theorem d_M_makeChains_7 : decode prog_8_method_15_code 7 = .ok (.if_icmp .ge 43, 3) := by decide +kernel
theorem d_M_makeChains_10 : decode prog_8_method_15_code 10 = .ok (.aload_n 0, 1) := by decide +kernel
theorem d_M_makeChains_11 : decode prog_8_method_15_code 11 = .ok (.getfield 45, 3) := by decide +kernel
theorem d_M_makeChains_14 : decode prog_8_method_15_code 14 = .ok (.iload_n 2, 1) := by decide +kernel
theorem d_M_makeChains_15 : decode prog_8_method_15_code 15 = .ok (.iload_n 2, 1) := by decide +kernel
theorem d_M_makeChains_16 : decode prog_8_method_15_code 16 = .ok (.iastore, 1) := by decide +kernel
theorem d_M_makeChains_17 : decode prog_8_method_15_code 17 = .ok (.aload_n 0, 1) := by decide +kernel
theorem d_M_makeChains_18 : decode prog_8_method_15_code 18 = .ok (.getfield 48, 3) := by decide +kernel
theorem d_M_makeChains_21 : decode prog_8_method_15_code 21 = .ok (.iload_n 2, 1) := by decide +kernel
theorem d_M_makeChains_22 : decode prog_8_method_15_code 22 = .ok (.iconst 0, 1) := by decide +kernel
theorem d_M_makeChains_23 : decode prog_8_method_15_code 23 = .ok (.iastore, 1) := by decide +kernel
theorem d_M_makeChains_24 : decode prog_8_method_15_code 24 = .ok (.aload_n 0, 1) := by decide +kernel
theorem d_M_makeChains_25 : decode prog_8_method_15_code 25 = .ok (.getfield 51, 3) := by decide +kernel
theorem d_M_makeChains_28 : decode prog_8_method_15_code 28 = .ok (.iload_n 2, 1) := by decide +kernel
theorem d_M_makeChains_29 : decode prog_8_method_15_code 29 = .ok (.iconst 2, 1) := by decide +kernel
theorem d_M_makeChains_30 : decode prog_8_method_15_code 30 = .ok (.imul, 1) := by decide +kernel
theorem d_M_makeChains_31 : decode prog_8_method_15_code 31 = .ok (.iconst 0, 1) := by decide +kernel
theorem d_M_makeChains_32 : decode prog_8_method_15_code 32 = .ok (.bastore, 1) := by decide +kernel
theorem d_M_makeChains_33 : decode prog_8_method_15_code 33 = .ok (.aload_n 0, 1) := by decide +kernel
theorem d_M_makeChains_34 : decode prog_8_method_15_code 34 = .ok (.getfield 51, 3) := by decide +kernel
theorem d_M_makeChains_37 : decode prog_8_method_15_code 37 = .ok (.iload_n 2, 1) := by decide +kernel
theorem d_M_makeChains_38 : decode prog_8_method_15_code 38 = .ok (.iconst 2, 1) := by decide +kernel
theorem d_M_makeChains_39 : decode prog_8_method_15_code 39 = .ok (.imul, 1) := by decide +kernel
theorem d_M_makeChains_40 : decode prog_8_method_15_code 40 = .ok (.iconst 1, 1) := by decide +kernel
theorem d_M_makeChains_41 : decode prog_8_method_15_code 41 = .ok (.iadd, 1) := by decide +kernel
theorem d_M_makeChains_42 : decode prog_8_method_15_code 42 = .ok (.iconst 0, 1) := by decide +kernel
theorem d_M_makeChains_43 : decode prog_8_method_15_code 43 = .ok (.bastore, 1) := by decide +kernel
theorem d_M_makeChains_44 : decode prog_8_method_15_code 44 = .ok (.iinc 2 1, 3) := by decide +kernel
theorem d_M_makeChains_47 : decode prog_8_method_15_code 47 = .ok (.goto (-45), 3) := by decide +kernel
theorem d_M_makeChains_50 : decode prog_8_method_15_code 50 = .ok (.iload_n 1, 1) := by decide +kernel
theorem d_M_makeChains_51 : decode prog_8_method_15_code 51 = .ok (.iconst 1, 1) := by decide +kernel
theorem d_M_makeChains_52 : decode prog_8_method_15_code 52 = .ok (.if_icmp .ne 23, 3) := by decide +kernel
theorem d_M_makeChains_55 : decode prog_8_method_15_code 55 = .ok (.aload_n 0, 1) := by decide +kernel
theorem d_M_makeChains_56 : decode prog_8_method_15_code 56 = .ok (.invokevirtual 104, 3) := by decide +kernel
theorem d_M_makeChains_59 : decode prog_8_method_15_code 59 = .ok (.ifCond .eq 16, 3) := by decide +kernel
theorem d_M_makeChains_62 : decode prog_8_method_15_code 62 = .ok (.aload_n 0, 1) := by decide +kernel
theorem d_M_makeChains_63 : decode prog_8_method_15_code 63 = .ok (.dup, 1) := by decide +kernel
theorem d_M_makeChains_64 : decode prog_8_method_15_code 64 = .ok (.getfield 13, 3) := by decide +kernel
theorem d_M_makeChains_67 : decode prog_8_method_15_code 67 = .ok (.iconst 1, 1) := by decide +kernel
theorem d_M_makeChains_68 : decode prog_8_method_15_code 68 = .ok (.iadd, 1) := by decide +kernel
theorem d_M_makeChains_69 : decode prog_8_method_15_code 69 = .ok (.putfield 13, 3) := by decide +kernel
theorem d_M_makeChains_72 : decode prog_8_method_15_code 72 = .ok (.goto (-22), 3) := by decide +kernel
theorem d_M_makeChains_75 : decode prog_8_method_15_code 75 = .ok (.return_, 1) := by decide +kernel
theorem d_M_joinOne_0 : decode prog_8_method_14_code 0 = .ok (.iconst (-1), 1) := by decide +kernel
theorem d_M_joinOne_1 : decode prog_8_method_14_code 1 = .ok (.istore_n 1, 1) := by decide +kernel
theorem d_M_joinOne_2 : decode prog_8_method_14_code 2 = .ok (.iconst 0, 1) := by decide +kernel
theorem d_M_joinOne_3 : decode prog_8_method_14_code 3 = .ok (.istore_n 2, 1) := by decide +kernel
theorem d_M_joinOne_4 : decode prog_8_method_14_code 4 = .ok (.iload_n 2, 1) := by decide +kernel
theorem d_M_joinOne_5 : decode prog_8_method_14_code 5 = .ok (.aload_n 0, 1) := by decide +kernel
theorem d_M_joinOne_6 : decode prog_8_method_14_code 6 = .ok (.getfield 7, 3) := by decide +kernel
theorem d_M_joinOne_9 : decode prog_8_method_14_code 9 = .ok (.iconst 2, 1) := by decide +kernel
theorem d_M_joinOne_10 : decode prog_8_method_14_code 10 = .ok (.imul, 1) := by decide +kernel
theorem d_M_joinOne_11 : decode prog_8_method_14_code 11 = .ok (.if_icmp .ge 77, 3) := by decide +kernel
theorem d_M_joinOne_14 : decode prog_8_method_14_code 14 = .ok (.aload_n 0, 1) := by decide +kernel
theorem d_M_joinOne_15 : decode prog_8_method_14_code 15 = .ok (.getfield 51, 3) := by decide +kernel
theorem d_M_joinOne_18 : decode prog_8_method_14_code 18 = .ok (.iload_n 2, 1) := by decide +kernel
theorem d_M_joinOne_19 : decode prog_8_method_14_code 19 = .ok (.baload, 1) := by decide +kernel
theorem d_M_joinOne_20 : decode prog_8_method_14_code 20 = .ok (.ifCond .ne 62, 3) := by decide +kernel
theorem d_M_joinOne_23 : decode prog_8_method_14_code 23 = .ok (.iload_n 2, 1) := by decide +kernel
theorem d_M_joinOne_24 : decode prog_8_method_14_code 24 = .ok (.iconst 2, 1) := by decide +kernel
theorem d_M_joinOne_25 : decode prog_8_method_14_code 25 = .ok (.irem, 1) := by decide +kernel
theorem d_M_joinOne_26 : decode prog_8_method_14_code 26 = .ok (.aload_n 0, 1) := by decide +kernel
theorem d_M_joinOne_27 : decode prog_8_method_14_code 27 = .ok (.getfield 33, 3) := by decide +kernel
theorem d_M_joinOne_30 : decode prog_8_method_14_code 30 = .ok (.iload_n 2, 1) := by decide +kernel
theorem d_M_joinOne_31 : decode prog_8_method_14_code 31 = .ok (.iconst 2, 1) := by decide +kernel
theorem d_M_joinOne_32 : decode prog_8_method_14_code 32 = .ok (.idiv, 1) := by decide +kernel
theorem d_M_joinOne_33 : decode prog_8_method_14_code 33 = .ok (.iaload, 1) := by decide +kernel
theorem d_M_joinOne_34 : decode prog_8_method_14_code 34 = .ok (.if_icmp .ge 48, 3) := by decide +kernel
theorem d_M_joinOne_37 : decode prog_8_method_14_code 37 = .ok (.aload_n 0, 1) := by decide +kernel
theorem d_M_joinOne_38 : decode prog_8_method_14_code 38 = .ok (.getfield 42, 3) := by decide +kernel
theorem d_M_joinOne_41 : decode prog_8_method_14_code 41 = .ok (.iload_n 2, 1) := by decide +kernel
theorem d_M_joinOne_42 : decode prog_8_method_14_code 42 = .ok (.iaload, 1) := by decide +kernel
theorem d_M_joinOne_43 : decode prog_8_method_14_code 43 = .ok (.ifCond .eq 39, 3) := by decide +kernel
theorem d_M_joinOne_46 : decode prog_8_method_14_code 46 = .ok (.aload_n 0, 1) := by decide +kernel
theorem d_M_joinOne_47 : decode prog_8_method_14_code 47 = .ok (.getfield 36, 3) := by decide +kernel
theorem d_M_joinOne_50 : decode prog_8_method_14_code 50 = .ok (.iload_n 2, 1) := by decide +kernel
theorem d_M_joinOne_51 : decode prog_8_method_14_code 51 = .ok (.iaload, 1) := by decide +kernel
theorem d_M_joinOne_52 : decode prog_8_method_14_code 52 = .ok (.iload_n 2, 1) := by decide +kernel
theorem d_M_joinOne_53 : decode prog_8_method_14_code 53 = .ok (.iconst 2, 1) := by decide +kernel
theorem d_M_joinOne_54 : decode prog_8_method_14_code 54 = .ok (.idiv, 1) := by decide +kernel
theorem d_M_joinOne_55 : decode prog_8_method_14_code 55 = .ok (.if_icmp .ne 6, 3) := by decide +kernel
theorem d_M_joinOne_58 : decode prog_8_method_14_code 58 = .ok (.goto 24, 3) := by decide +kernel
theorem d_M_joinOne_61 : decode prog_8_method_14_code 61 = .ok (.iload_n 1, 1) := by decide +kernel
theorem d_M_joinOne_62 : decode prog_8_method_14_code 62 = .ok (.ifCond .lt 18, 3) := by decide +kernel
theorem d_M_joinOne_65 : decode prog_8_method_14_code 65 = .ok (.aload_n 0, 1) := by decide +kernel
theorem d_M_joinOne_66 : decode prog_8_method_14_code 66 = .ok (.getfield 42, 3) := by decide +kernel
theorem d_M_joinOne_69 : decode prog_8_method_14_code 69 = .ok (.iload_n 2, 1) := by decide +kernel
theorem d_M_joinOne_70 : decode prog_8_method_14_code 70 = .ok (.iaload, 1) := by decide +kernel
theorem d_M_joinOne_71 : decode prog_8_method_14_code 71 = .ok (.aload_n 0, 1) := by decide +kernel
theorem d_M_joinOne_72 : decode prog_8_method_14_code 72 = .ok (.getfield 42, 3) := by decide +kernel
theorem d_M_joinOne_75 : decode prog_8_method_14_code 75 = .ok (.iload_n 1, 1) := by decide +kernel
theorem d_M_joinOne_76 : decode prog_8_method_14_code 76 = .ok (.iaload, 1) := by decide +kernel
theorem d_M_joinOne_77 : decode prog_8_method_14_code 77 = .ok (.if_icmp .le 5, 3) := by decide +kernel
theorem d_M_joinOne_80 : decode prog_8_method_14_code 80 = .ok (.iload_n 2, 1) := by decide +kernel
theorem d_M_joinOne_81 : decode prog_8_method_14_code 81 = .ok (.istore_n 1, 1) := by decide +kernel
theorem d_M_joinOne_82 : decode prog_8_method_14_code 82 = .ok (.iinc 2 1, 3) := by decide +kernel
theorem d_M_joinOne_85 : decode prog_8_method_14_code 85 = .ok (.goto (-81), 3) := by decide +kernel
theorem d_M_joinOne_88 : decode prog_8_method_14_code 88 = .ok (.iload_n 1, 1) := by decide +kernel
theorem d_M_joinOne_89 : decode prog_8_method_14_code 89 = .ok (.ifCond .ge 5, 3) := by decide +kernel
theorem d_M_joinOne_92 : decode prog_8_method_14_code 92 = .ok (.iconst 0, 1) := by decide +kernel
theorem d_M_joinOne_93 : decode prog_8_method_14_code 93 = .ok (.ireturn, 1) := by decide +kernel
theorem d_M_joinOne_94 : decode prog_8_method_14_code 94 = .ok (.aload_n 0, 1) := by decide +kernel
theorem d_M_joinOne_95 : decode prog_8_method_14_code 95 = .ok (.getfield 51, 3) := by decide +kernel
theorem d_M_joinOne_98 : decode prog_8_method_14_code 98 = .ok (.iload_n 1, 1) := by decide +kernel
theorem d_M_joinOne_99 : decode prog_8_method_14_code 99 = .ok (.iconst 1, 1) := by decide +kernel
theorem d_M_joinOne_100 : decode prog_8_method_14_code 100 = .ok (.bastore, 1) := by decide +kernel
theorem d_M_joinOne_101 : decode prog_8_method_14_code 101 = .ok (.iload_n 1, 1) := by decide +kernel
theorem d_M_joinOne_102 : decode prog_8_method_14_code 102 = .ok (.iconst 2, 1) := by decide +kernel
theorem d_M_joinOne_103 : decode prog_8_method_14_code 103 = .ok (.idiv, 1) := by decide +kernel
theorem d_M_joinOne_104 : decode prog_8_method_14_code 104 = .ok (.istore_n 2, 1) := by decide +kernel
theorem d_M_joinOne_105 : decode prog_8_method_14_code 105 = .ok (.aload_n 0, 1) := by decide +kernel
theorem d_M_joinOne_106 : decode prog_8_method_14_code 106 = .ok (.getfield 36, 3) := by decide +kernel
theorem d_M_joinOne_109 : decode prog_8_method_14_code 109 = .ok (.iload_n 1, 1) := by decide +kernel
theorem d_M_joinOne_110 : decode prog_8_method_14_code 110 = .ok (.iaload, 1) := by decide +kernel
theorem d_M_joinOne_111 : decode prog_8_method_14_code 111 = .ok (.istore_n 3, 1) := by decide +kernel
theorem d_M_joinOne_112 : decode prog_8_method_14_code 112 = .ok (.aload_n 0, 1) := by decide +kernel
theorem d_M_joinOne_113 : decode prog_8_method_14_code 113 = .ok (.getfield 45, 3) := by decide +kernel
theorem d_M_joinOne_116 : decode prog_8_method_14_code 116 = .ok (.iload_n 2, 1) := by decide +kernel
theorem d_M_joinOne_117 : decode prog_8_method_14_code 117 = .ok (.iaload, 1) := by decide +kernel
theorem d_M_joinOne_118 : decode prog_8_method_14_code 118 = .ok (.istore 4, 2) := by decide +kernel
theorem d_M_joinOne_120 : decode prog_8_method_14_code 120 = .ok (.aload_n 0, 1) := by decide +kernel
theorem d_M_joinOne_121 : decode prog_8_method_14_code 121 = .ok (.getfield 45, 3) := by decide +kernel
theorem d_M_joinOne_124 : decode prog_8_method_14_code 124 = .ok (.iload_n 3, 1) := by decide +kernel
theorem d_M_joinOne_125 : decode prog_8_method_14_code 125 = .ok (.iaload, 1) := by decide +kernel
theorem d_M_joinOne_126 : decode prog_8_method_14_code 126 = .ok (.istore 5, 2) := by decide +kernel
theorem d_M_joinOne_128 : decode prog_8_method_14_code 128 = .ok (.aload_n 0, 1) := by decide +kernel
theorem d_M_joinOne_129 : decode prog_8_method_14_code 129 = .ok (.iload 4, 2) := by decide +kernel
theorem d_M_joinOne_131 : decode prog_8_method_14_code 131 = .ok (.invokevirtual 101, 3) := by decide +kernel
theorem d_M_joinOne_134 : decode prog_8_method_14_code 134 = .ok (.istore 6, 2) := by decide +kernel
theorem d_M_joinOne_136 : decode prog_8_method_14_code 136 = .ok (.aload_n 0, 1) := by decide +kernel
theorem d_M_joinOne_137 : decode prog_8_method_14_code 137 = .ok (.getfield 48, 3) := by decide +kernel
theorem d_M_joinOne_140 : decode prog_8_method_14_code 140 = .ok (.iload_n 2, 1) := by decide +kernel
theorem d_M_joinOne_141 : decode prog_8_method_14_code 141 = .ok (.iaload, 1) := by decide +kernel
theorem d_M_joinOne_142 : decode prog_8_method_14_code 142 = .ok (.iload 6, 2) := by decide +kernel
theorem d_M_joinOne_144 : decode prog_8_method_14_code 144 = .ok (.iconst 1, 1) := by decide +kernel
theorem d_M_joinOne_145 : decode prog_8_method_14_code 145 = .ok (.isub, 1) := by decide +kernel
theorem d_M_joinOne_146 : decode prog_8_method_14_code 146 = .ok (.if_icmp .ne 33, 3) := by decide +kernel
theorem d_M_joinOne_149 : decode prog_8_method_14_code 149 = .ok (.aload_n 0, 1) := by decide +kernel
theorem d_M_joinOne_150 : decode prog_8_method_14_code 150 = .ok (.getfield 48, 3) := by decide +kernel
theorem d_M_joinOne_153 : decode prog_8_method_14_code 153 = .ok (.iload_n 3, 1) := by decide +kernel
theorem d_M_joinOne_154 : decode prog_8_method_14_code 154 = .ok (.iaload, 1) := by decide +kernel
theorem d_M_joinOne_155 : decode prog_8_method_14_code 155 = .ok (.ifCond .ne 24, 3) := by decide +kernel
theorem d_M_joinOne_158 : decode prog_8_method_14_code 158 = .ok (.iload 4, 2) := by decide +kernel
theorem d_M_joinOne_160 : decode prog_8_method_14_code 160 = .ok (.iload 5, 2) := by decide +kernel
theorem d_M_joinOne_162 : decode prog_8_method_14_code 162 = .ok (.if_icmp .eq 17, 3) := by decide +kernel
theorem d_M_joinOne_165 : decode prog_8_method_14_code 165 = .ok (.iload_n 3, 1) := by decide +kernel
theorem d_M_joinOne_166 : decode prog_8_method_14_code 166 = .ok (.aload_n 0, 1) := by decide +kernel
theorem d_M_joinOne_167 : decode prog_8_method_14_code 167 = .ok (.aload_n 0, 1) := by decide +kernel
theorem d_M_joinOne_168 : decode prog_8_method_14_code 168 = .ok (.getfield 26, 3) := by decide +kernel
theorem d_M_joinOne_171 : decode prog_8_method_14_code 171 = .ok (.iload_n 3, 1) := by decide +kernel
theorem d_M_joinOne_172 : decode prog_8_method_14_code 172 = .ok (.iaload, 1) := by decide +kernel
theorem d_M_joinOne_173 : decode prog_8_method_14_code 173 = .ok (.invokevirtual 88, 3) := by decide +kernel
theorem d_M_joinOne_176 : decode prog_8_method_14_code 176 = .ok (.if_icmp .ne 5, 3) := by decide +kernel
theorem d_M_joinOne_179 : decode prog_8_method_14_code 179 = .ok (.iconst 1, 1) := by decide +kernel
theorem d_M_joinOne_180 : decode prog_8_method_14_code 180 = .ok (.ireturn, 1) := by decide +kernel
theorem d_M_joinOne_181 : decode prog_8_method_14_code 181 = .ok (.iconst 0, 1) := by decide +kernel
theorem d_M_joinOne_182 : decode prog_8_method_14_code 182 = .ok (.istore 7, 2) := by decide +kernel
theorem d_M_joinOne_184 : decode prog_8_method_14_code 184 = .ok (.iload 7, 2) := by decide +kernel
theorem d_M_joinOne_186 : decode prog_8_method_14_code 186 = .ok (.aload_n 0, 1) := by decide +kernel
theorem d_M_joinOne_187 : decode prog_8_method_14_code 187 = .ok (.getfield 7, 3) := by decide +kernel
theorem d_M_joinOne_190 : decode prog_8_method_14_code 190 = .ok (.if_icmp .ge 45, 3) := by decide +kernel
theorem d_M_joinOne_193 : decode prog_8_method_14_code 193 = .ok (.aload_n 0, 1) := by decide +kernel
theorem d_M_joinOne_194 : decode prog_8_method_14_code 194 = .ok (.getfield 45, 3) := by decide +kernel
theorem d_M_joinOne_197 : decode prog_8_method_14_code 197 = .ok (.iload 7, 2) := by decide +kernel
theorem d_M_joinOne_199 : decode prog_8_method_14_code 199 = .ok (.iaload, 1) := by decide +kernel
theorem d_M_joinOne_200 : decode prog_8_method_14_code 200 = .ok (.iload 5, 2) := by decide +kernel
theorem d_M_joinOne_202 : decode prog_8_method_14_code 202 = .ok (.if_icmp .eq 6, 3) := by decide +kernel
theorem d_M_joinOne_205 : decode prog_8_method_14_code 205 = .ok (.goto 24, 3) := by decide +kernel
theorem d_M_joinOne_208 : decode prog_8_method_14_code 208 = .ok (.aload_n 0, 1) := by decide +kernel
theorem d_M_joinOne_209 : decode prog_8_method_14_code 209 = .ok (.getfield 45, 3) := by decide +kernel
theorem d_M_joinOne_212 : decode prog_8_method_14_code 212 = .ok (.iload 7, 2) := by decide +kernel
theorem d_M_joinOne_214 : decode prog_8_method_14_code 214 = .ok (.iload 4, 2) := by decide +kernel
theorem d_M_joinOne_216 : decode prog_8_method_14_code 216 = .ok (.iastore, 1) := by decide +kernel
theorem d_M_joinOne_217 : decode prog_8_method_14_code 217 = .ok (.aload_n 0, 1) := by decide +kernel
theorem d_M_joinOne_218 : decode prog_8_method_14_code 218 = .ok (.getfield 48, 3) := by decide +kernel
theorem d_M_joinOne_221 : decode prog_8_method_14_code 221 = .ok (.iload 7, 2) := by decide +kernel
theorem d_M_joinOne_223 : decode prog_8_method_14_code 223 = .ok (.dup2, 1) := by decide +kernel
theorem d_M_joinOne_224 : decode prog_8_method_14_code 224 = .ok (.iaload, 1) := by decide +kernel
theorem d_M_joinOne_225 : decode prog_8_method_14_code 225 = .ok (.iload 6, 2) := by decide +kernel
theorem d_M_joinOne_227 : decode prog_8_method_14_code 227 = .ok (.iadd, 1) := by decide +kernel
theorem d_M_joinOne_228 : decode prog_8_method_14_code 228 = .ok (.iastore, 1) := by decide +kernel
theorem d_M_joinOne_229 : decode prog_8_method_14_code 229 = .ok (.iinc 7 1, 3) := by decide +kernel
theorem d_M_joinOne_232 : decode prog_8_method_14_code 232 = .ok (.goto (-48), 3) := by decide +kernel
theorem d_M_joinOne_235 : decode prog_8_method_14_code 235 = .ok (.iconst 1, 1) := by decide +kernel
theorem d_M_joinOne_236 : decode prog_8_method_14_code 236 = .ok (.ireturn, 1) := by decide +kernel
theorem d_M_size_0 : decode prog_8_method_13_code 0 = .ok (.iconst 0, 1) := by decide +kernel
theorem d_M_size_1 : decode prog_8_method_13_code 1 = .ok (.istore_n 2, 1) := by decide +kernel
theorem d_M_size_2 : decode prog_8_method_13_code 2 = .ok (.iconst 0, 1) := by decide +kernel
theorem d_M_size_3 : decode prog_8_method_13_code 3 = .ok (.istore_n 3, 1) := by decide +kernel
theorem d_M_size_4 : decode prog_8_method_13_code 4 = .ok (.iload_n 3, 1) := by decide +kernel
theorem d_M_size_5 : decode prog_8_method_13_code 5 = .ok (.aload_n 0, 1) := by decide +kernel
theorem d_M_size_6 : decode prog_8_method_13_code 6 = .ok (.getfield 7, 3) := by decide +kernel
theorem d_M_size_9 : decode prog_8_method_13_code 9 = .ok (.if_icmp .ge 22, 3) := by decide +kernel
theorem d_M_size_12 : decode prog_8_method_13_code 12 = .ok (.aload_n 0, 1) := by decide +kernel
theorem d_M_size_13 : decode prog_8_method_13_code 13 = .ok (.getfield 45, 3) := by decide +kernel
theorem d_M_size_16 : decode prog_8_method_13_code 16 = .ok (.iload_n 3, 1) := by decide +kernel
theorem d_M_size_17 : decode prog_8_method_13_code 17 = .ok (.iaload, 1) := by decide +kernel
theorem d_M_size_18 : decode prog_8_method_13_code 18 = .ok (.iload_n 1, 1) := by decide +kernel
theorem d_M_size_19 : decode prog_8_method_13_code 19 = .ok (.if_icmp .ne 6, 3) := by decide +kernel
theorem d_M_size_22 : decode prog_8_method_13_code 22 = .ok (.iinc 2 1, 3) := by decide +kernel
theorem d_M_size_25 : decode prog_8_method_13_code 25 = .ok (.iinc 3 1, 3) := by decide +kernel
theorem d_M_size_28 : decode prog_8_method_13_code 28 = .ok (.goto (-24), 3) := by decide +kernel
theorem d_M_size_31 : decode prog_8_method_13_code 31 = .ok (.iload_n 2, 1) := by decide +kernel
theorem d_M_size_32 : decode prog_8_method_13_code 32 = .ok (.ireturn, 1) := by decide +kernel
theorem d_M_putOrder_0 : decode prog_8_method_20_code 0 = .ok (.iconst 0, 1) := by decide +kernel
theorem d_M_putOrder_1 : decode prog_8_method_20_code 1 = .ok (.istore_n 2, 1) := by decide +kernel
theorem d_M_putOrder_2 : decode prog_8_method_20_code 2 = .ok (.aload_n 0, 1) := by decide +kernel
theorem d_M_putOrder_3 : decode prog_8_method_20_code 3 = .ok (.iconst 0, 1) := by decide +kernel
theorem d_M_putOrder_4 : decode prog_8_method_20_code 4 = .ok (.putfield 16, 3) := by decide +kernel
theorem d_M_putOrder_7 : decode prog_8_method_20_code 7 = .ok (.aload_n 0, 1) := by decide +kernel
theorem d_M_putOrder_8 : decode prog_8_method_20_code 8 = .ok (.iconst 0, 1) := by decide +kernel
theorem d_M_putOrder_9 : decode prog_8_method_20_code 9 = .ok (.putfield 19, 3) := by decide +kernel
theorem d_M_putOrder_12 : decode prog_8_method_20_code 12 = .ok (.iconst 0, 1) := by decide +kernel
theorem d_M_putOrder_13 : decode prog_8_method_20_code 13 = .ok (.istore_n 3, 1) := by decide +kernel
theorem d_M_putOrder_14 : decode prog_8_method_20_code 14 = .ok (.iload_n 3, 1) := by decide +kernel
theorem d_M_putOrder_15 : decode prog_8_method_20_code 15 = .ok (.aload_n 0, 1) := by decide +kernel
theorem d_M_putOrder_16 : decode prog_8_method_20_code 16 = .ok (.getfield 7, 3) := by decide +kernel
theorem d_M_putOrder_19 : decode prog_8_method_20_code 19 = .ok (.if_icmp .ge 16, 3) := by decide +kernel
theorem d_M_putOrder_22 : decode prog_8_method_20_code 22 = .ok (.aload_n 0, 1) := by decide +kernel
theorem d_M_putOrder_23 : decode prog_8_method_20_code 23 = .ok (.getfield 55, 3) := by decide +kernel
theorem d_M_putOrder_26 : decode prog_8_method_20_code 26 = .ok (.iload_n 3, 1) := by decide +kernel
theorem d_M_putOrder_27 : decode prog_8_method_20_code 27 = .ok (.iconst 0, 1) := by decide +kernel
theorem d_M_putOrder_28 : decode prog_8_method_20_code 28 = .ok (.bastore, 1) := by decide +kernel
theorem d_M_putOrder_29 : decode prog_8_method_20_code 29 = .ok (.iinc 3 1, 3) := by decide +kernel
theorem d_M_putOrder_32 : decode prog_8_method_20_code 32 = .ok (.goto (-18), 3) := by decide +kernel
theorem d_M_putOrder_35 : decode prog_8_method_20_code 35 = .ok (.iload_n 2, 1) := by decide +kernel
theorem d_M_putOrder_36 : decode prog_8_method_20_code 36 = .ok (.aload_n 0, 1) := by decide +kernel
theorem d_M_putOrder_37 : decode prog_8_method_20_code 37 = .ok (.getfield 7, 3) := by decide +kernel
theorem d_M_putOrder_40 : decode prog_8_method_20_code 40 = .ok (.if_icmp .ge 184, 3) := by decide +kernel
theorem d_M_putOrder_43 : decode prog_8_method_20_code 43 = .ok (.iconst (-1), 1) := by decide +kernel
theorem d_M_putOrder_44 : decode prog_8_method_20_code 44 = .ok (.istore_n 3, 1) := by decide +kernel
theorem d_M_putOrder_45 : decode prog_8_method_20_code 45 = .ok (.iconst 0, 1) := by decide +kernel
theorem d_M_putOrder_46 : decode prog_8_method_20_code 46 = .ok (.istore 4, 2) := by decide +kernel
theorem d_M_putOrder_48 : decode prog_8_method_20_code 48 = .ok (.iload 4, 2) := by decide +kernel
theorem d_M_putOrder_50 : decode prog_8_method_20_code 50 = .ok (.aload_n 0, 1) := by decide +kernel
theorem d_M_putOrder_51 : decode prog_8_method_20_code 51 = .ok (.getfield 7, 3) := by decide +kernel
theorem d_M_putOrder_54 : decode prog_8_method_20_code 54 = .ok (.if_icmp .ge 65, 3) := by decide +kernel
theorem d_M_putOrder_57 : decode prog_8_method_20_code 57 = .ok (.aload_n 0, 1) := by decide +kernel
theorem d_M_putOrder_58 : decode prog_8_method_20_code 58 = .ok (.getfield 55, 3) := by decide +kernel
theorem d_M_putOrder_61 : decode prog_8_method_20_code 61 = .ok (.iload 4, 2) := by decide +kernel
theorem d_M_putOrder_63 : decode prog_8_method_20_code 63 = .ok (.baload, 1) := by decide +kernel
theorem d_M_putOrder_64 : decode prog_8_method_20_code 64 = .ok (.ifCond .eq 6, 3) := by decide +kernel
theorem d_M_putOrder_67 : decode prog_8_method_20_code 67 = .ok (.goto 46, 3) := by decide +kernel
theorem d_M_putOrder_70 : decode prog_8_method_20_code 70 = .ok (.iload_n 3, 1) := by decide +kernel
theorem d_M_putOrder_71 : decode prog_8_method_20_code 71 = .ok (.ifCond .lt 34, 3) := by decide +kernel
theorem d_M_putOrder_74 : decode prog_8_method_20_code 74 = .ok (.iload_n 1, 1) := by decide +kernel
theorem d_M_putOrder_75 : decode prog_8_method_20_code 75 = .ok (.iconst 1, 1) := by decide +kernel
theorem d_M_putOrder_76 : decode prog_8_method_20_code 76 = .ok (.if_icmp .ne 37, 3) := by decide +kernel
theorem d_M_putOrder_79 : decode prog_8_method_20_code 79 = .ok (.aload_n 0, 1) := by decide +kernel
theorem d_M_putOrder_80 : decode prog_8_method_20_code 80 = .ok (.getfield 45, 3) := by decide +kernel
theorem d_M_putOrder_83 : decode prog_8_method_20_code 83 = .ok (.iload 4, 2) := by decide +kernel
theorem d_M_putOrder_85 : decode prog_8_method_20_code 85 = .ok (.iaload, 1) := by decide +kernel
theorem d_M_putOrder_86 : decode prog_8_method_20_code 86 = .ok (.iload_n 3, 1) := by decide +kernel
theorem d_M_putOrder_87 : decode prog_8_method_20_code 87 = .ok (.if_icmp .eq 26, 3) := by decide +kernel
theorem d_M_putOrder_90 : decode prog_8_method_20_code 90 = .ok (.aload_n 0, 1) := by decide +kernel
theorem d_M_putOrder_91 : decode prog_8_method_20_code 91 = .ok (.aload_n 0, 1) := by decide +kernel
theorem d_M_putOrder_92 : decode prog_8_method_20_code 92 = .ok (.getfield 45, 3) := by decide +kernel
theorem d_M_putOrder_95 : decode prog_8_method_20_code 95 = .ok (.iload 4, 2) := by decide +kernel
theorem d_M_putOrder_97 : decode prog_8_method_20_code 97 = .ok (.iaload, 1) := by decide +kernel
theorem d_M_putOrder_98 : decode prog_8_method_20_code 98 = .ok (.iload_n 3, 1) := by decide +kernel
theorem d_M_putOrder_99 : decode prog_8_method_20_code 99 = .ok (.invokevirtual 118, 3) := by decide +kernel
theorem d_M_putOrder_102 : decode prog_8_method_20_code 102 = .ok (.ifCond .eq 11, 3) := by decide +kernel
theorem d_M_putOrder_105 : decode prog_8_method_20_code 105 = .ok (.aload_n 0, 1) := by decide +kernel
theorem d_M_putOrder_106 : decode prog_8_method_20_code 106 = .ok (.getfield 45, 3) := by decide +kernel
theorem d_M_putOrder_109 : decode prog_8_method_20_code 109 = .ok (.iload 4, 2) := by decide +kernel
theorem d_M_putOrder_111 : decode prog_8_method_20_code 111 = .ok (.iaload, 1) := by decide +kernel
theorem d_M_putOrder_112 : decode prog_8_method_20_code 112 = .ok (.istore_n 3, 1) := by decide +kernel
theorem d_M_putOrder_113 : decode prog_8_method_20_code 113 = .ok (.iinc 4 1, 3) := by decide +kernel
theorem d_M_putOrder_116 : decode prog_8_method_20_code 116 = .ok (.goto (-68), 3) := by decide +kernel
theorem d_M_putOrder_119 : decode prog_8_method_20_code 119 = .ok (.aload_n 0, 1) := by decide +kernel
theorem d_M_putOrder_120 : decode prog_8_method_20_code 120 = .ok (.dup, 1) := by decide +kernel
theorem d_M_putOrder_121 : decode prog_8_method_20_code 121 = .ok (.getfield 19, 3) := by decide +kernel
theorem d_M_putOrder_124 : decode prog_8_method_20_code 124 = .ok (.iconst 1, 1) := by decide +kernel
theorem d_M_putOrder_125 : decode prog_8_method_20_code 125 = .ok (.iadd, 1) := by decide +kernel
theorem d_M_putOrder_126 : decode prog_8_method_20_code 126 = .ok (.putfield 19, 3) := by decide +kernel
theorem d_M_putOrder_129 : decode prog_8_method_20_code 129 = .ok (.aload_n 0, 1) := by decide +kernel
theorem d_M_putOrder_130 : decode prog_8_method_20_code 130 = .ok (.iload_n 3, 1) := by decide +kernel
theorem d_M_putOrder_131 : decode prog_8_method_20_code 131 = .ok (.invokevirtual 101, 3) := by decide +kernel
theorem d_M_putOrder_134 : decode prog_8_method_20_code 134 = .ok (.istore 4, 2) := by decide +kernel
theorem d_M_putOrder_136 : decode prog_8_method_20_code 136 = .ok (.iload_n 1, 1) := by decide +kernel
theorem d_M_putOrder_137 : decode prog_8_method_20_code 137 = .ok (.iconst 1, 1) := by decide +kernel
theorem d_M_putOrder_138 : decode prog_8_method_20_code 138 = .ok (.if_icmp .ne 22, 3) := by decide +kernel
theorem d_M_putOrder_141 : decode prog_8_method_20_code 141 = .ok (.aload_n 0, 1) := by decide +kernel
theorem d_M_putOrder_142 : decode prog_8_method_20_code 142 = .ok (.iload_n 3, 1) := by decide +kernel
theorem d_M_putOrder_143 : decode prog_8_method_20_code 143 = .ok (.invokevirtual 111, 3) := by decide +kernel
theorem d_M_putOrder_146 : decode prog_8_method_20_code 146 = .ok (.ifCond .eq 14, 3) := by decide +kernel
theorem d_M_putOrder_149 : decode prog_8_method_20_code 149 = .ok (.aload_n 0, 1) := by decide +kernel
theorem d_M_putOrder_150 : decode prog_8_method_20_code 150 = .ok (.dup, 1) := by decide +kernel
theorem d_M_putOrder_151 : decode prog_8_method_20_code 151 = .ok (.getfield 16, 3) := by decide +kernel
theorem d_M_putOrder_154 : decode prog_8_method_20_code 154 = .ok (.iload 4, 2) := by decide +kernel
theorem d_M_putOrder_156 : decode prog_8_method_20_code 156 = .ok (.iadd, 1) := by decide +kernel
theorem d_M_putOrder_157 : decode prog_8_method_20_code 157 = .ok (.putfield 16, 3) := by decide +kernel
theorem d_M_putOrder_160 : decode prog_8_method_20_code 160 = .ok (.iconst 0, 1) := by decide +kernel
theorem d_M_putOrder_161 : decode prog_8_method_20_code 161 = .ok (.istore 5, 2) := by decide +kernel
theorem d_M_putOrder_163 : decode prog_8_method_20_code 163 = .ok (.iload 5, 2) := by decide +kernel
theorem d_M_putOrder_165 : decode prog_8_method_20_code 165 = .ok (.aload_n 0, 1) := by decide +kernel
theorem d_M_putOrder_166 : decode prog_8_method_20_code 166 = .ok (.getfield 7, 3) := by decide +kernel
theorem d_M_putOrder_169 : decode prog_8_method_20_code 169 = .ok (.if_icmp .ge 47, 3) := by decide +kernel
theorem d_M_putOrder_172 : decode prog_8_method_20_code 172 = .ok (.aload_n 0, 1) := by decide +kernel
theorem d_M_putOrder_173 : decode prog_8_method_20_code 173 = .ok (.getfield 45, 3) := by decide +kernel
theorem d_M_putOrder_176 : decode prog_8_method_20_code 176 = .ok (.iload 5, 2) := by decide +kernel
theorem d_M_putOrder_178 : decode prog_8_method_20_code 178 = .ok (.iaload, 1) := by decide +kernel
theorem d_M_putOrder_179 : decode prog_8_method_20_code 179 = .ok (.iload_n 3, 1) := by decide +kernel
theorem d_M_putOrder_180 : decode prog_8_method_20_code 180 = .ok (.if_icmp .eq 6, 3) := by decide +kernel
theorem d_M_putOrder_183 : decode prog_8_method_20_code 183 = .ok (.goto 27, 3) := by decide +kernel
theorem d_M_putOrder_186 : decode prog_8_method_20_code 186 = .ok (.aload_n 0, 1) := by decide +kernel
theorem d_M_putOrder_187 : decode prog_8_method_20_code 187 = .ok (.getfield 58, 3) := by decide +kernel
theorem d_M_putOrder_190 : decode prog_8_method_20_code 190 = .ok (.iload_n 2, 1) := by decide +kernel
theorem d_M_putOrder_191 : decode prog_8_method_20_code 191 = .ok (.aload_n 0, 1) := by decide +kernel
theorem d_M_putOrder_192 : decode prog_8_method_20_code 192 = .ok (.getfield 48, 3) := by decide +kernel
theorem d_M_putOrder_195 : decode prog_8_method_20_code 195 = .ok (.iload 5, 2) := by decide +kernel
theorem d_M_putOrder_197 : decode prog_8_method_20_code 197 = .ok (.iaload, 1) := by decide +kernel
theorem d_M_putOrder_198 : decode prog_8_method_20_code 198 = .ok (.iadd, 1) := by decide +kernel
theorem d_M_putOrder_199 : decode prog_8_method_20_code 199 = .ok (.iload 5, 2) := by decide +kernel
theorem d_M_putOrder_201 : decode prog_8_method_20_code 201 = .ok (.iastore, 1) := by decide +kernel
theorem d_M_putOrder_202 : decode prog_8_method_20_code 202 = .ok (.aload_n 0, 1) := by decide +kernel
theorem d_M_putOrder_203 : decode prog_8_method_20_code 203 = .ok (.getfield 55, 3) := by decide +kernel
theorem d_M_putOrder_206 : decode prog_8_method_20_code 206 = .ok (.iload 5, 2) := by decide +kernel
theorem d_M_putOrder_208 : decode prog_8_method_20_code 208 = .ok (.iconst 1, 1) := by decide +kernel
theorem d_M_putOrder_209 : decode prog_8_method_20_code 209 = .ok (.bastore, 1) := by decide +kernel
theorem d_M_putOrder_210 : decode prog_8_method_20_code 210 = .ok (.iinc 5 1, 3) := by decide +kernel
theorem d_M_putOrder_213 : decode prog_8_method_20_code 213 = .ok (.goto (-50), 3) := by decide +kernel
theorem d_M_putOrder_216 : decode prog_8_method_20_code 216 = .ok (.iload_n 2, 1) := by decide +kernel
theorem d_M_putOrder_217 : decode prog_8_method_20_code 217 = .ok (.iload 4, 2) := by decide +kernel
theorem d_M_putOrder_219 : decode prog_8_method_20_code 219 = .ok (.iadd, 1) := by decide +kernel
theorem d_M_putOrder_220 : decode prog_8_method_20_code 220 = .ok (.istore_n 2, 1) := by decide +kernel
theorem d_M_putOrder_221 : decode prog_8_method_20_code 221 = .ok (.goto (-186), 3) := by decide +kernel
theorem d_M_putOrder_224 : decode prog_8_method_20_code 224 = .ok (.return_, 1) := by decide +kernel
