theorem d_M_before_0 : decode prog_8_method_19_code 0 = .ok (.aload_n 0, 1) := by decide +kernel
theorem d_M_before_1 : decode prog_8_method_19_code 1 = .ok (.iload_n 1, 1) := by decide +kernel
theorem d_M_before_2 : decode prog_8_method_19_code 2 = .ok (.invokevirtual 108, 3) := by decide +kernel
theorem d_M_before_5 : decode prog_8_method_19_code 5 = .ok (.istore_n 3, 1) := by decide +kernel
theorem d_M_before_6 : decode prog_8_method_19_code 6 = .ok (.aload_n 0, 1) := by decide +kernel
theorem d_M_before_7 : decode prog_8_method_19_code 7 = .ok (.iload_n 2, 1) := by decide +kernel
theorem d_M_before_8 : decode prog_8_method_19_code 8 = .ok (.invokevirtual 108, 3) := by decide +kernel
theorem d_M_before_11 : decode prog_8_method_19_code 11 = .ok (.istore 4, 2) := by decide +kernel
theorem d_M_before_13 : decode prog_8_method_19_code 13 = .ok (.aload_n 0, 1) := by decide +kernel
theorem d_M_before_14 : decode prog_8_method_19_code 14 = .ok (.getfield 26, 3) := by decide +kernel
theorem d_M_before_17 : decode prog_8_method_19_code 17 = .ok (.iload_n 3, 1) := by decide +kernel
theorem d_M_before_18 : decode prog_8_method_19_code 18 = .ok (.iaload, 1) := by decide +kernel
theorem d_M_before_19 : decode prog_8_method_19_code 19 = .ok (.istore 5, 2) := by decide +kernel
theorem d_M_before_21 : decode prog_8_method_19_code 21 = .ok (.aload_n 0, 1) := by decide +kernel
theorem d_M_before_22 : decode prog_8_method_19_code 22 = .ok (.getfield 26, 3) := by decide +kernel
theorem d_M_before_25 : decode prog_8_method_19_code 25 = .ok (.iload 4, 2) := by decide +kernel
theorem d_M_before_27 : decode prog_8_method_19_code 27 = .ok (.iaload, 1) := by decide +kernel
theorem d_M_before_28 : decode prog_8_method_19_code 28 = .ok (.istore 6, 2) := by decide +kernel
theorem d_M_before_30 : decode prog_8_method_19_code 30 = .ok (.aload_n 0, 1) := by decide +kernel
theorem d_M_before_31 : decode prog_8_method_19_code 31 = .ok (.iload_n 1, 1) := by decide +kernel
theorem d_M_before_32 : decode prog_8_method_19_code 32 = .ok (.invokevirtual 111, 3) := by decide +kernel
theorem d_M_before_35 : decode prog_8_method_19_code 35 = .ok (.aload_n 0, 1) := by decide +kernel
theorem d_M_before_36 : decode prog_8_method_19_code 36 = .ok (.iload_n 2, 1) := by decide +kernel
theorem d_M_before_37 : decode prog_8_method_19_code 37 = .ok (.invokevirtual 111, 3) := by decide +kernel
theorem d_M_before_40 : decode prog_8_method_19_code 40 = .ok (.if_icmp .eq 9, 3) := by decide +kernel
theorem d_M_before_43 : decode prog_8_method_19_code 43 = .ok (.aload_n 0, 1) := by decide +kernel
theorem d_M_before_44 : decode prog_8_method_19_code 44 = .ok (.iload_n 2, 1) := by decide +kernel
theorem d_M_before_45 : decode prog_8_method_19_code 45 = .ok (.invokevirtual 111, 3) := by decide +kernel
theorem d_M_before_48 : decode prog_8_method_19_code 48 = .ok (.ireturn, 1) := by decide +kernel
theorem d_M_before_49 : decode prog_8_method_19_code 49 = .ok (.iload 5, 2) := by decide +kernel
theorem d_M_before_51 : decode prog_8_method_19_code 51 = .ok (.iload 6, 2) := by decide +kernel
theorem d_M_before_53 : decode prog_8_method_19_code 53 = .ok (.if_icmp .eq 16, 3) := by decide +kernel
theorem d_M_before_56 : decode prog_8_method_19_code 56 = .ok (.iload 5, 2) := by decide +kernel
theorem d_M_before_58 : decode prog_8_method_19_code 58 = .ok (.iload 6, 2) := by decide +kernel
theorem d_M_before_60 : decode prog_8_method_19_code 60 = .ok (.if_icmp .ge 7, 3) := by decide +kernel
theorem d_M_before_63 : decode prog_8_method_19_code 63 = .ok (.iconst 1, 1) := by decide +kernel
theorem d_M_before_64 : decode prog_8_method_19_code 64 = .ok (.goto 4, 3) := by decide +kernel
theorem d_M_before_67 : decode prog_8_method_19_code 67 = .ok (.iconst 0, 1) := by decide +kernel
theorem d_M_before_68 : decode prog_8_method_19_code 68 = .ok (.ireturn, 1) := by decide +kernel
theorem d_M_before_69 : decode prog_8_method_19_code 69 = .ok (.aload_n 0, 1) := by decide +kernel
theorem d_M_before_70 : decode prog_8_method_19_code 70 = .ok (.iload_n 1, 1) := by decide +kernel
theorem d_M_before_71 : decode prog_8_method_19_code 71 = .ok (.invokevirtual 111, 3) := by decide +kernel
theorem d_M_before_74 : decode prog_8_method_19_code 74 = .ok (.ifCond .eq 15, 3) := by decide +kernel
theorem d_M_before_77 : decode prog_8_method_19_code 77 = .ok (.iload_n 3, 1) := by decide +kernel
theorem d_M_before_78 : decode prog_8_method_19_code 78 = .ok (.iload 4, 2) := by decide +kernel
theorem d_M_before_80 : decode prog_8_method_19_code 80 = .ok (.if_icmp .ge 7, 3) := by decide +kernel
theorem d_M_before_83 : decode prog_8_method_19_code 83 = .ok (.iconst 1, 1) := by decide +kernel
theorem d_M_before_84 : decode prog_8_method_19_code 84 = .ok (.goto 4, 3) := by decide +kernel
theorem d_M_before_87 : decode prog_8_method_19_code 87 = .ok (.iconst 0, 1) := by decide +kernel
theorem d_M_before_88 : decode prog_8_method_19_code 88 = .ok (.ireturn, 1) := by decide +kernel
theorem d_M_before_89 : decode prog_8_method_19_code 89 = .ok (.aload_n 0, 1) := by decide +kernel
theorem d_M_before_90 : decode prog_8_method_19_code 90 = .ok (.getfield 45, 3) := by decide +kernel
theorem d_M_before_93 : decode prog_8_method_19_code 93 = .ok (.aload_n 0, 1) := by decide +kernel
theorem d_M_before_94 : decode prog_8_method_19_code 94 = .ok (.iload 5, 2) := by decide +kernel
theorem d_M_before_96 : decode prog_8_method_19_code 96 = .ok (.invokevirtual 88, 3) := by decide +kernel
theorem d_M_before_99 : decode prog_8_method_19_code 99 = .ok (.iaload, 1) := by decide +kernel
theorem d_M_before_100 : decode prog_8_method_19_code 100 = .ok (.iload_n 1, 1) := by decide +kernel
theorem d_M_before_101 : decode prog_8_method_19_code 101 = .ok (.if_icmp .eq 18, 3) := by decide +kernel
theorem d_M_before_104 : decode prog_8_method_19_code 104 = .ok (.aload_n 0, 1) := by decide +kernel
theorem d_M_before_105 : decode prog_8_method_19_code 105 = .ok (.getfield 45, 3) := by decide +kernel
theorem d_M_before_108 : decode prog_8_method_19_code 108 = .ok (.aload_n 0, 1) := by decide +kernel
theorem d_M_before_109 : decode prog_8_method_19_code 109 = .ok (.iload 5, 2) := by decide +kernel
theorem d_M_before_111 : decode prog_8_method_19_code 111 = .ok (.invokevirtual 88, 3) := by decide +kernel
theorem d_M_before_114 : decode prog_8_method_19_code 114 = .ok (.iaload, 1) := by decide +kernel
theorem d_M_before_115 : decode prog_8_method_19_code 115 = .ok (.iload_n 2, 1) := by decide +kernel
theorem d_M_before_116 : decode prog_8_method_19_code 116 = .ok (.if_icmp .ne 24, 3) := by decide +kernel
theorem d_M_before_119 : decode prog_8_method_19_code 119 = .ok (.aload_n 0, 1) := by decide +kernel
theorem d_M_before_120 : decode prog_8_method_19_code 120 = .ok (.getfield 45, 3) := by decide +kernel
theorem d_M_before_123 : decode prog_8_method_19_code 123 = .ok (.aload_n 0, 1) := by decide +kernel
theorem d_M_before_124 : decode prog_8_method_19_code 124 = .ok (.iload 5, 2) := by decide +kernel
theorem d_M_before_126 : decode prog_8_method_19_code 126 = .ok (.invokevirtual 88, 3) := by decide +kernel
theorem d_M_before_129 : decode prog_8_method_19_code 129 = .ok (.iaload, 1) := by decide +kernel
theorem d_M_before_130 : decode prog_8_method_19_code 130 = .ok (.iload_n 1, 1) := by decide +kernel
theorem d_M_before_131 : decode prog_8_method_19_code 131 = .ok (.if_icmp .ne 7, 3) := by decide +kernel
theorem d_M_before_134 : decode prog_8_method_19_code 134 = .ok (.iconst 1, 1) := by decide +kernel
theorem d_M_before_135 : decode prog_8_method_19_code 135 = .ok (.goto 4, 3) := by decide +kernel
theorem d_M_before_138 : decode prog_8_method_19_code 138 = .ok (.iconst 0, 1) := by decide +kernel
theorem d_M_before_139 : decode prog_8_method_19_code 139 = .ok (.ireturn, 1) := by decide +kernel
theorem d_M_before_140 : decode prog_8_method_19_code 140 = .ok (.aload_n 0, 1) := by decide +kernel
theorem d_M_before_141 : decode prog_8_method_19_code 141 = .ok (.iload_n 1, 1) := by decide +kernel
theorem d_M_before_142 : decode prog_8_method_19_code 142 = .ok (.iconst 1, 1) := by decide +kernel
theorem d_M_before_143 : decode prog_8_method_19_code 143 = .ok (.invokevirtual 114, 3) := by decide +kernel
theorem d_M_before_146 : decode prog_8_method_19_code 146 = .ok (.aload_n 0, 1) := by decide +kernel
theorem d_M_before_147 : decode prog_8_method_19_code 147 = .ok (.iload_n 2, 1) := by decide +kernel
theorem d_M_before_148 : decode prog_8_method_19_code 148 = .ok (.iconst 0, 1) := by decide +kernel
theorem d_M_before_149 : decode prog_8_method_19_code 149 = .ok (.invokevirtual 114, 3) := by decide +kernel
theorem d_M_before_152 : decode prog_8_method_19_code 152 = .ok (.lmul, 1) := by decide +kernel
theorem d_M_before_153 : decode prog_8_method_19_code 153 = .ok (.lstore 7, 2) := by decide +kernel
theorem d_M_before_155 : decode prog_8_method_19_code 155 = .ok (.aload_n 0, 1) := by decide +kernel
theorem d_M_before_156 : decode prog_8_method_19_code 156 = .ok (.iload_n 2, 1) := by decide +kernel
theorem d_M_before_157 : decode prog_8_method_19_code 157 = .ok (.iconst 1, 1) := by decide +kernel
theorem d_M_before_158 : decode prog_8_method_19_code 158 = .ok (.invokevirtual 114, 3) := by decide +kernel
theorem d_M_before_161 : decode prog_8_method_19_code 161 = .ok (.aload_n 0, 1) := by decide +kernel
theorem d_M_before_162 : decode prog_8_method_19_code 162 = .ok (.iload_n 1, 1) := by decide +kernel
theorem d_M_before_163 : decode prog_8_method_19_code 163 = .ok (.iconst 0, 1) := by decide +kernel
theorem d_M_before_164 : decode prog_8_method_19_code 164 = .ok (.invokevirtual 114, 3) := by decide +kernel
theorem d_M_before_167 : decode prog_8_method_19_code 167 = .ok (.lmul, 1) := by decide +kernel
theorem d_M_before_168 : decode prog_8_method_19_code 168 = .ok (.lstore 9, 2) := by decide +kernel
theorem d_M_before_170 : decode prog_8_method_19_code 170 = .ok (.lload 7, 2) := by decide +kernel
theorem d_M_before_172 : decode prog_8_method_19_code 172 = .ok (.lload 9, 2) := by decide +kernel
theorem d_M_before_174 : decode prog_8_method_19_code 174 = .ok (.lcmp, 1) := by decide +kernel
theorem d_M_before_175 : decode prog_8_method_19_code 175 = .ok (.ifCond .ne 17, 3) := by decide +kernel
theorem d_M_before_178 : decode prog_8_method_19_code 178 = .ok (.iload_n 3, 1) := by decide +kernel
theorem d_M_before_179 : decode prog_8_method_19_code 179 = .ok (.iload 4, 2) := by decide +kernel
theorem d_M_before_181 : decode prog_8_method_19_code 181 = .ok (.if_icmp .ge 7, 3) := by decide +kernel
theorem d_M_before_184 : decode prog_8_method_19_code 184 = .ok (.iconst 1, 1) := by decide +kernel
theorem d_M_before_185 : decode prog_8_method_19_code 185 = .ok (.goto 20, 3) := by decide +kernel
theorem d_M_before_188 : decode prog_8_method_19_code 188 = .ok (.iconst 0, 1) := by decide +kernel
theorem d_M_before_189 : decode prog_8_method_19_code 189 = .ok (.goto 16, 3) := by decide +kernel
theorem d_M_before_192 : decode prog_8_method_19_code 192 = .ok (.lload 7, 2) := by decide +kernel
theorem d_M_before_194 : decode prog_8_method_19_code 194 = .ok (.lload 9, 2) := by decide +kernel
theorem d_M_before_196 : decode prog_8_method_19_code 196 = .ok (.lcmp, 1) := by decide +kernel
theorem d_M_before_197 : decode prog_8_method_19_code 197 = .ok (.ifCond .le 7, 3) := by decide +kernel
theorem d_M_before_200 : decode prog_8_method_19_code 200 = .ok (.iconst 1, 1) := by decide +kernel
theorem d_M_before_201 : decode prog_8_method_19_code 201 = .ok (.goto 4, 3) := by decide +kernel
theorem d_M_before_204 : decode prog_8_method_19_code 204 = .ok (.iconst 0, 1) := by decide +kernel
theorem d_M_before_205 : decode prog_8_method_19_code 205 = .ok (.ireturn, 1) := by decide +kernel
theorem d_M_head_0 : decode prog_8_method_17_code 0 = .ok (.iconst 0, 1) := by decide +kernel
theorem d_M_head_1 : decode prog_8_method_17_code 1 = .ok (.istore_n 2, 1) := by decide +kernel
theorem d_M_head_2 : decode prog_8_method_17_code 2 = .ok (.iload_n 2, 1) := by decide +kernel
theorem d_M_head_3 : decode prog_8_method_17_code 3 = .ok (.aload_n 0, 1) := by decide +kernel
theorem d_M_head_4 : decode prog_8_method_17_code 4 = .ok (.getfield 7, 3) := by decide +kernel
theorem d_M_head_7 : decode prog_8_method_17_code 7 = .ok (.if_icmp .ge 30, 3) := by decide +kernel
theorem d_M_head_10 : decode prog_8_method_17_code 10 = .ok (.aload_n 0, 1) := by decide +kernel
theorem d_M_head_11 : decode prog_8_method_17_code 11 = .ok (.getfield 45, 3) := by decide +kernel
theorem d_M_head_14 : decode prog_8_method_17_code 14 = .ok (.iload_n 2, 1) := by decide +kernel
theorem d_M_head_15 : decode prog_8_method_17_code 15 = .ok (.iaload, 1) := by decide +kernel
theorem d_M_head_16 : decode prog_8_method_17_code 16 = .ok (.iload_n 1, 1) := by decide +kernel
theorem d_M_head_17 : decode prog_8_method_17_code 17 = .ok (.if_icmp .ne 14, 3) := by decide +kernel
theorem d_M_head_20 : decode prog_8_method_17_code 20 = .ok (.aload_n 0, 1) := by decide +kernel
theorem d_M_head_21 : decode prog_8_method_17_code 21 = .ok (.getfield 48, 3) := by decide +kernel
theorem d_M_head_24 : decode prog_8_method_17_code 24 = .ok (.iload_n 2, 1) := by decide +kernel
theorem d_M_head_25 : decode prog_8_method_17_code 25 = .ok (.iaload, 1) := by decide +kernel
theorem d_M_head_26 : decode prog_8_method_17_code 26 = .ok (.ifCond .ne 5, 3) := by decide +kernel
theorem d_M_head_29 : decode prog_8_method_17_code 29 = .ok (.iload_n 2, 1) := by decide +kernel
theorem d_M_head_30 : decode prog_8_method_17_code 30 = .ok (.ireturn, 1) := by decide +kernel
theorem d_M_head_31 : decode prog_8_method_17_code 31 = .ok (.iinc 2 1, 3) := by decide +kernel
theorem d_M_head_34 : decode prog_8_method_17_code 34 = .ok (.goto (-32), 3) := by decide +kernel
theorem d_M_head_37 : decode prog_8_method_17_code 37 = .ok (.iconst (-1), 1) := by decide +kernel
theorem d_M_head_38 : decode prog_8_method_17_code 38 = .ok (.ireturn, 1) := by decide +kernel
theorem d_M_isCold_0 : decode prog_8_method_16_code 0 = .ok (.iconst 0, 1) := by decide +kernel
theorem d_M_isCold_1 : decode prog_8_method_16_code 1 = .ok (.istore_n 2, 1) := by decide +kernel
theorem d_M_isCold_2 : decode prog_8_method_16_code 2 = .ok (.iload_n 2, 1) := by decide +kernel
theorem d_M_isCold_3 : decode prog_8_method_16_code 3 = .ok (.aload_n 0, 1) := by decide +kernel
theorem d_M_isCold_4 : decode prog_8_method_16_code 4 = .ok (.getfield 7, 3) := by decide +kernel
theorem d_M_isCold_7 : decode prog_8_method_16_code 7 = .ok (.if_icmp .ge 44, 3) := by decide +kernel
theorem d_M_isCold_10 : decode prog_8_method_16_code 10 = .ok (.aload_n 0, 1) := by decide +kernel
theorem d_M_isCold_11 : decode prog_8_method_16_code 11 = .ok (.getfield 45, 3) := by decide +kernel
theorem d_M_isCold_14 : decode prog_8_method_16_code 14 = .ok (.iload_n 2, 1) := by decide +kernel
theorem d_M_isCold_15 : decode prog_8_method_16_code 15 = .ok (.iaload, 1) := by decide +kernel
theorem d_M_isCold_16 : decode prog_8_method_16_code 16 = .ok (.iload_n 1, 1) := by decide +kernel
theorem d_M_isCold_17 : decode prog_8_method_16_code 17 = .ok (.if_icmp .ne 28, 3) := by decide +kernel
theorem d_M_isCold_20 : decode prog_8_method_16_code 20 = .ok (.aload_n 0, 1) := by decide +kernel
theorem d_M_isCold_21 : decode prog_8_method_16_code 21 = .ok (.getfield 39, 3) := by decide +kernel
theorem d_M_isCold_24 : decode prog_8_method_16_code 24 = .ok (.iload_n 2, 1) := by decide +kernel
theorem d_M_isCold_25 : decode prog_8_method_16_code 25 = .ok (.iaload, 1) := by decide +kernel
theorem d_M_isCold_26 : decode prog_8_method_16_code 26 = .ok (.ifCond .gt 17, 3) := by decide +kernel
theorem d_M_isCold_29 : decode prog_8_method_16_code 29 = .ok (.iload_n 2, 1) := by decide +kernel
theorem d_M_isCold_30 : decode prog_8_method_16_code 30 = .ok (.aload_n 0, 1) := by decide +kernel
theorem d_M_isCold_31 : decode prog_8_method_16_code 31 = .ok (.aload_n 0, 1) := by decide +kernel
theorem d_M_isCold_32 : decode prog_8_method_16_code 32 = .ok (.getfield 26, 3) := by decide +kernel
theorem d_M_isCold_35 : decode prog_8_method_16_code 35 = .ok (.iload_n 2, 1) := by decide +kernel
theorem d_M_isCold_36 : decode prog_8_method_16_code 36 = .ok (.iaload, 1) := by decide +kernel
theorem d_M_isCold_37 : decode prog_8_method_16_code 37 = .ok (.invokevirtual 88, 3) := by decide +kernel
theorem d_M_isCold_40 : decode prog_8_method_16_code 40 = .ok (.if_icmp .ne 5, 3) := by decide +kernel
theorem d_M_isCold_43 : decode prog_8_method_16_code 43 = .ok (.iconst 0, 1) := by decide +kernel
theorem d_M_isCold_44 : decode prog_8_method_16_code 44 = .ok (.ireturn, 1) := by decide +kernel
theorem d_M_isCold_45 : decode prog_8_method_16_code 45 = .ok (.iinc 2 1, 3) := by decide +kernel
theorem d_M_isCold_48 : decode prog_8_method_16_code 48 = .ok (.goto (-46), 3) := by decide +kernel
theorem d_M_isCold_51 : decode prog_8_method_16_code 51 = .ok (.iconst 1, 1) := by decide +kernel
theorem d_M_isCold_52 : decode prog_8_method_16_code 52 = .ok (.ireturn, 1) := by decide +kernel
theorem d_M_sum_0 : decode prog_8_method_18_code 0 = .ok (.lconst 0, 1) := by decide +kernel
theorem d_M_sum_1 : decode prog_8_method_18_code 1 = .ok (.lstore_n 3, 1) := by decide +kernel
theorem d_M_sum_2 : decode prog_8_method_18_code 2 = .ok (.iconst 0, 1) := by decide +kernel
theorem d_M_sum_3 : decode prog_8_method_18_code 3 = .ok (.istore 5, 2) := by decide +kernel
theorem d_M_sum_5 : decode prog_8_method_18_code 5 = .ok (.iload 5, 2) := by decide +kernel
theorem d_M_sum_7 : decode prog_8_method_18_code 7 = .ok (.aload_n 0, 1) := by decide +kernel
theorem d_M_sum_8 : decode prog_8_method_18_code 8 = .ok (.getfield 7, 3) := by decide +kernel
theorem d_M_sum_11 : decode prog_8_method_18_code 11 = .ok (.if_icmp .ge 46, 3) := by decide +kernel
theorem d_M_sum_14 : decode prog_8_method_18_code 14 = .ok (.aload_n 0, 1) := by decide +kernel
theorem d_M_sum_15 : decode prog_8_method_18_code 15 = .ok (.getfield 45, 3) := by decide +kernel
theorem d_M_sum_18 : decode prog_8_method_18_code 18 = .ok (.iload 5, 2) := by decide +kernel
theorem d_M_sum_20 : decode prog_8_method_18_code 20 = .ok (.iaload, 1) := by decide +kernel
theorem d_M_sum_21 : decode prog_8_method_18_code 21 = .ok (.iload_n 1, 1) := by decide +kernel
theorem d_M_sum_22 : decode prog_8_method_18_code 22 = .ok (.if_icmp .ne 29, 3) := by decide +kernel
theorem d_M_sum_25 : decode prog_8_method_18_code 25 = .ok (.lload_n 3, 1) := by decide +kernel
theorem d_M_sum_26 : decode prog_8_method_18_code 26 = .ok (.iload_n 2, 1) := by decide +kernel
theorem d_M_sum_27 : decode prog_8_method_18_code 27 = .ok (.ifCond .eq 14, 3) := by decide +kernel
theorem d_M_sum_30 : decode prog_8_method_18_code 30 = .ok (.aload_n 0, 1) := by decide +kernel
theorem d_M_sum_31 : decode prog_8_method_18_code 31 = .ok (.getfield 39, 3) := by decide +kernel
theorem d_M_sum_34 : decode prog_8_method_18_code 34 = .ok (.iload 5, 2) := by decide +kernel
theorem d_M_sum_36 : decode prog_8_method_18_code 36 = .ok (.iaload, 1) := by decide +kernel
theorem d_M_sum_37 : decode prog_8_method_18_code 37 = .ok (.i2l, 1) := by decide +kernel
theorem d_M_sum_38 : decode prog_8_method_18_code 38 = .ok (.goto 11, 3) := by decide +kernel
theorem d_M_sum_41 : decode prog_8_method_18_code 41 = .ok (.aload_n 0, 1) := by decide +kernel
theorem d_M_sum_42 : decode prog_8_method_18_code 42 = .ok (.getfield 30, 3) := by decide +kernel
theorem d_M_sum_45 : decode prog_8_method_18_code 45 = .ok (.iload 5, 2) := by decide +kernel
theorem d_M_sum_47 : decode prog_8_method_18_code 47 = .ok (.iaload, 1) := by decide +kernel
theorem d_M_sum_48 : decode prog_8_method_18_code 48 = .ok (.i2l, 1) := by decide +kernel
theorem d_M_sum_49 : decode prog_8_method_18_code 49 = .ok (.ladd, 1) := by decide +kernel
theorem d_M_sum_50 : decode prog_8_method_18_code 50 = .ok (.lstore_n 3, 1) := by decide +kernel
theorem d_M_sum_51 : decode prog_8_method_18_code 51 = .ok (.iinc 5 1, 3) := by decide +kernel
theorem d_M_sum_54 : decode prog_8_method_18_code 54 = .ok (.goto (-49), 3) := by decide +kernel
theorem d_M_sum_57 : decode prog_8_method_18_code 57 = .ok (.lload_n 3, 1) := by decide +kernel
theorem d_M_sum_58 : decode prog_8_method_18_code 58 = .ok (.lreturn, 1) := by decide +kernel
theorem d_M_branchesOf_0 : decode prog_8_method_21_code 0 = .ok (.aload_n 0, 1) := by decide +kernel
theorem d_M_branchesOf_1 : decode prog_8_method_21_code 1 = .ok (.getfield 36, 3) := by decide +kernel
theorem d_M_branchesOf_4 : decode prog_8_method_21_code 4 = .ok (.iload_n 1, 1) := by decide +kernel
theorem d_M_branchesOf_5 : decode prog_8_method_21_code 5 = .ok (.iconst 2, 1) := by decide +kernel
theorem d_M_branchesOf_6 : decode prog_8_method_21_code 6 = .ok (.imul, 1) := by decide +kernel
theorem d_M_branchesOf_7 : decode prog_8_method_21_code 7 = .ok (.iaload, 1) := by decide +kernel
theorem d_M_branchesOf_8 : decode prog_8_method_21_code 8 = .ok (.istore_n 3, 1) := by decide +kernel
theorem d_M_branchesOf_9 : decode prog_8_method_21_code 9 = .ok (.aload_n 0, 1) := by decide +kernel
theorem d_M_branchesOf_10 : decode prog_8_method_21_code 10 = .ok (.getfield 36, 3) := by decide +kernel
theorem d_M_branchesOf_13 : decode prog_8_method_21_code 13 = .ok (.iload_n 1, 1) := by decide +kernel
theorem d_M_branchesOf_14 : decode prog_8_method_21_code 14 = .ok (.iconst 2, 1) := by decide +kernel
theorem d_M_branchesOf_15 : decode prog_8_method_21_code 15 = .ok (.imul, 1) := by decide +kernel
theorem d_M_branchesOf_16 : decode prog_8_method_21_code 16 = .ok (.iconst 1, 1) := by decide +kernel
theorem d_M_branchesOf_17 : decode prog_8_method_21_code 17 = .ok (.iadd, 1) := by decide +kernel
theorem d_M_branchesOf_18 : decode prog_8_method_21_code 18 = .ok (.iaload, 1) := by decide +kernel
theorem d_M_branchesOf_19 : decode prog_8_method_21_code 19 = .ok (.istore 4, 2) := by decide +kernel
theorem d_M_branchesOf_21 : decode prog_8_method_21_code 21 = .ok (.aload_n 0, 1) := by decide +kernel
theorem d_M_branchesOf_22 : decode prog_8_method_21_code 22 = .ok (.getfield 70, 3) := by decide +kernel
theorem d_M_branchesOf_25 : decode prog_8_method_21_code 25 = .ok (.iload_n 1, 1) := by decide +kernel
theorem d_M_branchesOf_26 : decode prog_8_method_21_code 26 = .ok (.iconst 0, 1) := by decide +kernel
theorem d_M_branchesOf_27 : decode prog_8_method_21_code 27 = .ok (.bastore, 1) := by decide +kernel
theorem d_M_branchesOf_28 : decode prog_8_method_21_code 28 = .ok (.aload_n 0, 1) := by decide +kernel
theorem d_M_branchesOf_29 : decode prog_8_method_21_code 29 = .ok (.getfield 61, 3) := by decide +kernel
theorem d_M_branchesOf_32 : decode prog_8_method_21_code 32 = .ok (.iload_n 1, 1) := by decide +kernel
theorem d_M_branchesOf_33 : decode prog_8_method_21_code 33 = .ok (.iconst 0, 1) := by decide +kernel
theorem d_M_branchesOf_34 : decode prog_8_method_21_code 34 = .ok (.iastore, 1) := by decide +kernel
theorem d_M_branchesOf_35 : decode prog_8_method_21_code 35 = .ok (.aload_n 0, 1) := by decide +kernel
theorem d_M_branchesOf_36 : decode prog_8_method_21_code 36 = .ok (.getfield 67, 3) := by decide +kernel
theorem d_M_branchesOf_39 : decode prog_8_method_21_code 39 = .ok (.iload_n 1, 1) := by decide +kernel
theorem d_M_branchesOf_40 : decode prog_8_method_21_code 40 = .ok (.iconst 2, 1) := by decide +kernel
theorem d_M_branchesOf_41 : decode prog_8_method_21_code 41 = .ok (.imul, 1) := by decide +kernel
theorem d_M_branchesOf_42 : decode prog_8_method_21_code 42 = .ok (.iconst 1, 1) := by decide +kernel
theorem d_M_branchesOf_43 : decode prog_8_method_21_code 43 = .ok (.iastore, 1) := by decide +kernel
theorem d_M_branchesOf_44 : decode prog_8_method_21_code 44 = .ok (.aload_n 0, 1) := by decide +kernel
theorem d_M_branchesOf_45 : decode prog_8_method_21_code 45 = .ok (.getfield 67, 3) := by decide +kernel
theorem d_M_branchesOf_48 : decode prog_8_method_21_code 48 = .ok (.iload_n 1, 1) := by decide +kernel
theorem d_M_branchesOf_49 : decode prog_8_method_21_code 49 = .ok (.iconst 2, 1) := by decide +kernel
theorem d_M_branchesOf_50 : decode prog_8_method_21_code 50 = .ok (.imul, 1) := by decide +kernel
theorem d_M_branchesOf_51 : decode prog_8_method_21_code 51 = .ok (.iconst 1, 1) := by decide +kernel
theorem d_M_branchesOf_52 : decode prog_8_method_21_code 52 = .ok (.iadd, 1) := by decide +kernel
theorem d_M_branchesOf_53 : decode prog_8_method_21_code 53 = .ok (.iconst 1, 1) := by decide +kernel
theorem d_M_branchesOf_54 : decode prog_8_method_21_code 54 = .ok (.iastore, 1) := by decide +kernel
theorem d_M_branchesOf_55 : decode prog_8_method_21_code 55 = .ok (.aload_n 0, 1) := by decide +kernel
theorem d_M_branchesOf_56 : decode prog_8_method_21_code 56 = .ok (.getfield 64, 3) := by decide +kernel
theorem d_M_branchesOf_59 : decode prog_8_method_21_code 59 = .ok (.iload_n 1, 1) := by decide +kernel
theorem d_M_branchesOf_60 : decode prog_8_method_21_code 60 = .ok (.iconst 2, 1) := by decide +kernel
theorem d_M_branchesOf_61 : decode prog_8_method_21_code 61 = .ok (.imul, 1) := by decide +kernel
theorem d_M_branchesOf_62 : decode prog_8_method_21_code 62 = .ok (.iload_n 3, 1) := by decide +kernel
theorem d_M_branchesOf_63 : decode prog_8_method_21_code 63 = .ok (.iastore, 1) := by decide +kernel
theorem d_M_branchesOf_64 : decode prog_8_method_21_code 64 = .ok (.aload_n 0, 1) := by decide +kernel
theorem d_M_branchesOf_65 : decode prog_8_method_21_code 65 = .ok (.getfield 64, 3) := by decide +kernel
theorem d_M_branchesOf_68 : decode prog_8_method_21_code 68 = .ok (.iload_n 1, 1) := by decide +kernel
theorem d_M_branchesOf_69 : decode prog_8_method_21_code 69 = .ok (.iconst 2, 1) := by decide +kernel
theorem d_M_branchesOf_70 : decode prog_8_method_21_code 70 = .ok (.imul, 1) := by decide +kernel
theorem d_M_branchesOf_71 : decode prog_8_method_21_code 71 = .ok (.iconst 1, 1) := by decide +kernel
theorem d_M_branchesOf_72 : decode prog_8_method_21_code 72 = .ok (.iadd, 1) := by decide +kernel
theorem d_M_branchesOf_73 : decode prog_8_method_21_code 73 = .ok (.iload 4, 2) := by decide +kernel
theorem d_M_branchesOf_75 : decode prog_8_method_21_code 75 = .ok (.iastore, 1) := by decide +kernel
theorem d_M_branchesOf_76 : decode prog_8_method_21_code 76 = .ok (.aload_n 0, 1) := by decide +kernel
theorem d_M_branchesOf_77 : decode prog_8_method_21_code 77 = .ok (.getfield 33, 3) := by decide +kernel
theorem d_M_branchesOf_80 : decode prog_8_method_21_code 80 = .ok (.iload_n 1, 1) := by decide +kernel
theorem d_M_branchesOf_81 : decode prog_8_method_21_code 81 = .ok (.iaload, 1) := by decide +kernel
theorem d_M_branchesOf_82 : decode prog_8_method_21_code 82 = .ok (.iconst 1, 1) := by decide +kernel
theorem d_M_branchesOf_83 : decode prog_8_method_21_code 83 = .ok (.if_icmp .ne 19, 3) := by decide +kernel
theorem d_M_branchesOf_86 : decode prog_8_method_21_code 86 = .ok (.aload_n 0, 1) := by decide +kernel
theorem d_M_branchesOf_87 : decode prog_8_method_21_code 87 = .ok (.getfield 61, 3) := by decide +kernel
theorem d_M_branchesOf_90 : decode prog_8_method_21_code 90 = .ok (.iload_n 1, 1) := by decide +kernel
theorem d_M_branchesOf_91 : decode prog_8_method_21_code 91 = .ok (.iload_n 3, 1) := by decide +kernel
theorem d_M_branchesOf_92 : decode prog_8_method_21_code 92 = .ok (.iload_n 2, 1) := by decide +kernel
theorem d_M_branchesOf_93 : decode prog_8_method_21_code 93 = .ok (.if_icmp .ne 7, 3) := by decide +kernel
theorem d_M_branchesOf_96 : decode prog_8_method_21_code 96 = .ok (.iconst 0, 1) := by decide +kernel
theorem d_M_branchesOf_97 : decode prog_8_method_21_code 97 = .ok (.goto 4, 3) := by decide +kernel
theorem d_M_branchesOf_100 : decode prog_8_method_21_code 100 = .ok (.iconst 1, 1) := by decide +kernel
theorem d_M_branchesOf_101 : decode prog_8_method_21_code 101 = .ok (.iastore, 1) := by decide +kernel
theorem d_M_branchesOf_102 : decode prog_8_method_21_code 102 = .ok (.aload_n 0, 1) := by decide +kernel
theorem d_M_branchesOf_103 : decode prog_8_method_21_code 103 = .ok (.getfield 33, 3) := by decide +kernel
theorem d_M_branchesOf_106 : decode prog_8_method_21_code 106 = .ok (.iload_n 1, 1) := by decide +kernel
theorem d_M_branchesOf_107 : decode prog_8_method_21_code 107 = .ok (.iaload, 1) := by decide +kernel
theorem d_M_branchesOf_108 : decode prog_8_method_21_code 108 = .ok (.iconst 2, 1) := by decide +kernel
theorem d_M_branchesOf_109 : decode prog_8_method_21_code 109 = .ok (.if_icmp .eq 4, 3) := by decide +kernel
theorem d_M_branchesOf_112 : decode prog_8_method_21_code 112 = .ok (.return_, 1) := by decide +kernel
theorem d_M_branchesOf_113 : decode prog_8_method_21_code 113 = .ok (.aload_n 0, 1) := by decide +kernel
theorem d_M_branchesOf_114 : decode prog_8_method_21_code 114 = .ok (.getfield 61, 3) := by decide +kernel
theorem d_M_branchesOf_117 : decode prog_8_method_21_code 117 = .ok (.iload_n 1, 1) := by decide +kernel
theorem d_M_branchesOf_118 : decode prog_8_method_21_code 118 = .ok (.iload 4, 2) := by decide +kernel
theorem d_M_branchesOf_120 : decode prog_8_method_21_code 120 = .ok (.iload_n 2, 1) := by decide +kernel
theorem d_M_branchesOf_121 : decode prog_8_method_21_code 121 = .ok (.if_icmp .eq 8, 3) := by decide +kernel
theorem d_M_branchesOf_124 : decode prog_8_method_21_code 124 = .ok (.iload_n 3, 1) := by decide +kernel
theorem d_M_branchesOf_125 : decode prog_8_method_21_code 125 = .ok (.iload_n 2, 1) := by decide +kernel
theorem d_M_branchesOf_126 : decode prog_8_method_21_code 126 = .ok (.if_icmp .ne 7, 3) := by decide +kernel
theorem d_M_branchesOf_129 : decode prog_8_method_21_code 129 = .ok (.iconst 1, 1) := by decide +kernel
theorem d_M_branchesOf_130 : decode prog_8_method_21_code 130 = .ok (.goto 4, 3) := by decide +kernel
theorem d_M_branchesOf_133 : decode prog_8_method_21_code 133 = .ok (.iconst 2, 1) := by decide +kernel
theorem d_M_branchesOf_134 : decode prog_8_method_21_code 134 = .ok (.iastore, 1) := by decide +kernel
theorem d_M_branchesOf_135 : decode prog_8_method_21_code 135 = .ok (.aload_n 0, 1) := by decide +kernel
theorem d_M_branchesOf_136 : decode prog_8_method_21_code 136 = .ok (.getfield 70, 3) := by decide +kernel
theorem d_M_branchesOf_139 : decode prog_8_method_21_code 139 = .ok (.iload_n 1, 1) := by decide +kernel
theorem d_M_branchesOf_140 : decode prog_8_method_21_code 140 = .ok (.iload 4, 2) := by decide +kernel
theorem d_M_branchesOf_142 : decode prog_8_method_21_code 142 = .ok (.iload_n 2, 1) := by decide +kernel
theorem d_M_branchesOf_143 : decode prog_8_method_21_code 143 = .ok (.if_icmp .eq 12, 3) := by decide +kernel
theorem d_M_branchesOf_146 : decode prog_8_method_21_code 146 = .ok (.iload_n 3, 1) := by decide +kernel
theorem d_M_branchesOf_147 : decode prog_8_method_21_code 147 = .ok (.iload_n 2, 1) := by decide +kernel
theorem d_M_branchesOf_148 : decode prog_8_method_21_code 148 = .ok (.if_icmp .ne 7, 3) := by decide +kernel
theorem d_M_branchesOf_151 : decode prog_8_method_21_code 151 = .ok (.iconst 1, 1) := by decide +kernel
theorem d_M_branchesOf_152 : decode prog_8_method_21_code 152 = .ok (.goto 4, 3) := by decide +kernel
theorem d_M_branchesOf_155 : decode prog_8_method_21_code 155 = .ok (.iconst 0, 1) := by decide +kernel
theorem d_M_branchesOf_156 : decode prog_8_method_21_code 156 = .ok (.bastore, 1) := by decide +kernel
theorem d_M_branchesOf_157 : decode prog_8_method_21_code 157 = .ok (.aload_n 0, 1) := by decide +kernel
theorem d_M_branchesOf_158 : decode prog_8_method_21_code 158 = .ok (.getfield 70, 3) := by decide +kernel
theorem d_M_branchesOf_161 : decode prog_8_method_21_code 161 = .ok (.iload_n 1, 1) := by decide +kernel
theorem d_M_branchesOf_162 : decode prog_8_method_21_code 162 = .ok (.baload, 1) := by decide +kernel
theorem d_M_branchesOf_163 : decode prog_8_method_21_code 163 = .ok (.ifCond .eq 13, 3) := by decide +kernel
theorem d_M_branchesOf_166 : decode prog_8_method_21_code 166 = .ok (.aload_n 0, 1) := by decide +kernel
theorem d_M_branchesOf_167 : decode prog_8_method_21_code 167 = .ok (.getfield 64, 3) := by decide +kernel
theorem d_M_branchesOf_170 : decode prog_8_method_21_code 170 = .ok (.iload_n 1, 1) := by decide +kernel
theorem d_M_branchesOf_171 : decode prog_8_method_21_code 171 = .ok (.iconst 2, 1) := by decide +kernel
theorem d_M_branchesOf_172 : decode prog_8_method_21_code 172 = .ok (.imul, 1) := by decide +kernel
theorem d_M_branchesOf_173 : decode prog_8_method_21_code 173 = .ok (.iload 4, 2) := by decide +kernel
theorem d_M_branchesOf_175 : decode prog_8_method_21_code 175 = .ok (.iastore, 1) := by decide +kernel
theorem d_M_branchesOf_176 : decode prog_8_method_21_code 176 = .ok (.return_, 1) := by decide +kernel
theorem d_M_lengthen_0 : decode prog_8_method_24_code 0 = .ok (.iconst 0, 1) := by decide +kernel
theorem d_M_lengthen_1 : decode prog_8_method_24_code 1 = .ok (.istore_n 1, 1) := by decide +kernel
theorem d_M_lengthen_2 : decode prog_8_method_24_code 2 = .ok (.iconst 0, 1) := by decide +kernel
theorem d_M_lengthen_3 : decode prog_8_method_24_code 3 = .ok (.istore_n 2, 1) := by decide +kernel
theorem d_M_lengthen_4 : decode prog_8_method_24_code 4 = .ok (.iload_n 2, 1) := by decide +kernel
theorem d_M_lengthen_5 : decode prog_8_method_24_code 5 = .ok (.aload_n 0, 1) := by decide +kernel
theorem d_M_lengthen_6 : decode prog_8_method_24_code 6 = .ok (.getfield 7, 3) := by decide +kernel
theorem d_M_lengthen_9 : decode prog_8_method_24_code 9 = .ok (.iconst 2, 1) := by decide +kernel
theorem d_M_lengthen_10 : decode prog_8_method_24_code 10 = .ok (.imul, 1) := by decide +kernel
theorem d_M_lengthen_11 : decode prog_8_method_24_code 11 = .ok (.if_icmp .ge 134, 3) := by decide +kernel
theorem d_M_lengthen_14 : decode prog_8_method_24_code 14 = .ok (.iload_n 2, 1) := by decide +kernel
theorem d_M_lengthen_15 : decode prog_8_method_24_code 15 = .ok (.iconst 2, 1) := by decide +kernel
theorem d_M_lengthen_16 : decode prog_8_method_24_code 16 = .ok (.idiv, 1) := by decide +kernel
theorem d_M_lengthen_17 : decode prog_8_method_24_code 17 = .ok (.istore_n 3, 1) := by decide +kernel
theorem d_M_lengthen_18 : decode prog_8_method_24_code 18 = .ok (.iload_n 2, 1) := by decide +kernel
theorem d_M_lengthen_19 : decode prog_8_method_24_code 19 = .ok (.iconst 2, 1) := by decide +kernel
theorem d_M_lengthen_20 : decode prog_8_method_24_code 20 = .ok (.irem, 1) := by decide +kernel
theorem d_M_lengthen_21 : decode prog_8_method_24_code 21 = .ok (.istore 4, 2) := by decide +kernel
theorem d_M_lengthen_23 : decode prog_8_method_24_code 23 = .ok (.aload_n 0, 1) := by decide +kernel
theorem d_M_lengthen_24 : decode prog_8_method_24_code 24 = .ok (.getfield 73, 3) := by decide +kernel
theorem d_M_lengthen_27 : decode prog_8_method_24_code 27 = .ok (.iload_n 2, 1) := by decide +kernel
theorem d_M_lengthen_28 : decode prog_8_method_24_code 28 = .ok (.iconst 0, 1) := by decide +kernel
theorem d_M_lengthen_29 : decode prog_8_method_24_code 29 = .ok (.bastore, 1) := by decide +kernel
theorem d_M_lengthen_30 : decode prog_8_method_24_code 30 = .ok (.iload 4, 2) := by decide +kernel
theorem d_M_lengthen_32 : decode prog_8_method_24_code 32 = .ok (.aload_n 0, 1) := by decide +kernel
theorem d_M_lengthen_33 : decode prog_8_method_24_code 33 = .ok (.getfield 61, 3) := by decide +kernel
theorem d_M_lengthen_36 : decode prog_8_method_24_code 36 = .ok (.iload_n 3, 1) := by decide +kernel
theorem d_M_lengthen_37 : decode prog_8_method_24_code 37 = .ok (.iaload, 1) := by decide +kernel
theorem d_M_lengthen_38 : decode prog_8_method_24_code 38 = .ok (.if_icmp .ge 101, 3) := by decide +kernel
theorem d_M_lengthen_41 : decode prog_8_method_24_code 41 = .ok (.aload_n 0, 1) := by decide +kernel
theorem d_M_lengthen_42 : decode prog_8_method_24_code 42 = .ok (.getfield 67, 3) := by decide +kernel
theorem d_M_lengthen_45 : decode prog_8_method_24_code 45 = .ok (.iload_n 2, 1) := by decide +kernel
theorem d_M_lengthen_46 : decode prog_8_method_24_code 46 = .ok (.iaload, 1) := by decide +kernel
theorem d_M_lengthen_47 : decode prog_8_method_24_code 47 = .ok (.iconst 2, 1) := by decide +kernel
theorem d_M_lengthen_48 : decode prog_8_method_24_code 48 = .ok (.if_icmp .ne 6, 3) := by decide +kernel
theorem d_M_lengthen_51 : decode prog_8_method_24_code 51 = .ok (.goto 88, 3) := by decide +kernel
theorem d_M_lengthen_54 : decode prog_8_method_24_code 54 = .ok (.aload_n 0, 1) := by decide +kernel
theorem d_M_lengthen_55 : decode prog_8_method_24_code 55 = .ok (.iload_n 3, 1) := by decide +kernel
theorem d_M_lengthen_56 : decode prog_8_method_24_code 56 = .ok (.invokevirtual 125, 3) := by decide +kernel
theorem d_M_lengthen_59 : decode prog_8_method_24_code 59 = .ok (.aload_n 0, 1) := by decide +kernel
theorem d_M_lengthen_60 : decode prog_8_method_24_code 60 = .ok (.getfield 30, 3) := by decide +kernel
theorem d_M_lengthen_63 : decode prog_8_method_24_code 63 = .ok (.iload_n 3, 1) := by decide +kernel
theorem d_M_lengthen_64 : decode prog_8_method_24_code 64 = .ok (.iaload, 1) := by decide +kernel
theorem d_M_lengthen_65 : decode prog_8_method_24_code 65 = .ok (.iadd, 1) := by decide +kernel
theorem d_M_lengthen_66 : decode prog_8_method_24_code 66 = .ok (.iload 4, 2) := by decide +kernel
theorem d_M_lengthen_68 : decode prog_8_method_24_code 68 = .ok (.iconst 1, 1) := by decide +kernel
theorem d_M_lengthen_69 : decode prog_8_method_24_code 69 = .ok (.if_icmp .ne 14, 3) := by decide +kernel
theorem d_M_lengthen_72 : decode prog_8_method_24_code 72 = .ok (.aload_n 0, 1) := by decide +kernel
theorem d_M_lengthen_73 : decode prog_8_method_24_code 73 = .ok (.getfield 67, 3) := by decide +kernel
theorem d_M_lengthen_76 : decode prog_8_method_24_code 76 = .ok (.iload_n 2, 1) := by decide +kernel
theorem d_M_lengthen_77 : decode prog_8_method_24_code 77 = .ok (.iconst 1, 1) := by decide +kernel
theorem d_M_lengthen_78 : decode prog_8_method_24_code 78 = .ok (.isub, 1) := by decide +kernel
theorem d_M_lengthen_79 : decode prog_8_method_24_code 79 = .ok (.iaload, 1) := by decide +kernel
theorem d_M_lengthen_80 : decode prog_8_method_24_code 80 = .ok (.goto 4, 3) := by decide +kernel
theorem d_M_lengthen_83 : decode prog_8_method_24_code 83 = .ok (.iconst 0, 1) := by decide +kernel
theorem d_M_lengthen_84 : decode prog_8_method_24_code 84 = .ok (.iadd, 1) := by decide +kernel
theorem d_M_lengthen_85 : decode prog_8_method_24_code 85 = .ok (.aload_n 0, 1) := by decide +kernel
theorem d_M_lengthen_86 : decode prog_8_method_24_code 86 = .ok (.aload_n 0, 1) := by decide +kernel
theorem d_M_lengthen_87 : decode prog_8_method_24_code 87 = .ok (.getfield 64, 3) := by decide +kernel
theorem d_M_lengthen_90 : decode prog_8_method_24_code 90 = .ok (.iload_n 2, 1) := by decide +kernel
theorem d_M_lengthen_91 : decode prog_8_method_24_code 91 = .ok (.iaload, 1) := by decide +kernel
theorem d_M_lengthen_92 : decode prog_8_method_24_code 92 = .ok (.invokevirtual 125, 3) := by decide +kernel
theorem d_M_lengthen_95 : decode prog_8_method_24_code 95 = .ok (.isub, 1) := by decide +kernel
theorem d_M_lengthen_96 : decode prog_8_method_24_code 96 = .ok (.istore 5, 2) := by decide +kernel
theorem d_M_lengthen_98 : decode prog_8_method_24_code 98 = .ok (.aload_n 0, 1) := by decide +kernel
theorem d_M_lengthen_99 : decode prog_8_method_24_code 99 = .ok (.getfield 73, 3) := by decide +kernel
theorem d_M_lengthen_102 : decode prog_8_method_24_code 102 = .ok (.iload_n 2, 1) := by decide +kernel
theorem d_M_lengthen_103 : decode prog_8_method_24_code 103 = .ok (.iload 5, 2) := by decide +kernel
theorem d_M_lengthen_105 : decode prog_8_method_24_code 105 = .ok (.aload_n 0, 1) := by decide +kernel
theorem d_M_lengthen_106 : decode prog_8_method_24_code 106 = .ok (.getfield 76, 3) := by decide +kernel
theorem d_M_lengthen_109 : decode prog_8_method_24_code 109 = .ok (.if_icmp .gt 13, 3) := by decide +kernel
theorem d_M_lengthen_112 : decode prog_8_method_24_code 112 = .ok (.iload 5, 2) := by decide +kernel
theorem d_M_lengthen_114 : decode prog_8_method_24_code 114 = .ok (.aload_n 0, 1) := by decide +kernel
theorem d_M_lengthen_115 : decode prog_8_method_24_code 115 = .ok (.getfield 76, 3) := by decide +kernel
theorem d_M_lengthen_118 : decode prog_8_method_24_code 118 = .ok (.ineg, 1) := by decide +kernel
theorem d_M_lengthen_119 : decode prog_8_method_24_code 119 = .ok (.if_icmp .ge 7, 3) := by decide +kernel
theorem d_M_lengthen_122 : decode prog_8_method_24_code 122 = .ok (.iconst 1, 1) := by decide +kernel
theorem d_M_lengthen_123 : decode prog_8_method_24_code 123 = .ok (.goto 4, 3) := by decide +kernel
theorem d_M_lengthen_126 : decode prog_8_method_24_code 126 = .ok (.iconst 0, 1) := by decide +kernel
theorem d_M_lengthen_127 : decode prog_8_method_24_code 127 = .ok (.bastore, 1) := by decide +kernel
theorem d_M_lengthen_128 : decode prog_8_method_24_code 128 = .ok (.aload_n 0, 1) := by decide +kernel
theorem d_M_lengthen_129 : decode prog_8_method_24_code 129 = .ok (.getfield 73, 3) := by decide +kernel
theorem d_M_lengthen_132 : decode prog_8_method_24_code 132 = .ok (.iload_n 2, 1) := by decide +kernel
theorem d_M_lengthen_133 : decode prog_8_method_24_code 133 = .ok (.baload, 1) := by decide +kernel
theorem d_M_lengthen_134 : decode prog_8_method_24_code 134 = .ok (.ifCond .eq 5, 3) := by decide +kernel
theorem d_M_lengthen_137 : decode prog_8_method_24_code 137 = .ok (.iconst 1, 1) := by decide +kernel
theorem d_M_lengthen_138 : decode prog_8_method_24_code 138 = .ok (.istore_n 1, 1) := by decide +kernel
theorem d_M_lengthen_139 : decode prog_8_method_24_code 139 = .ok (.iinc 2 1, 3) := by decide +kernel
theorem d_M_lengthen_142 : decode prog_8_method_24_code 142 = .ok (.goto (-138), 3) := by decide +kernel
theorem d_M_lengthen_145 : decode prog_8_method_24_code 145 = .ok (.iconst 0, 1) := by decide +kernel
theorem d_M_lengthen_146 : decode prog_8_method_24_code 146 = .ok (.istore_n 2, 1) := by decide +kernel
theorem d_M_lengthen_147 : decode prog_8_method_24_code 147 = .ok (.iload_n 2, 1) := by decide +kernel
theorem d_M_lengthen_148 : decode prog_8_method_24_code 148 = .ok (.aload_n 0, 1) := by decide +kernel
theorem d_M_lengthen_149 : decode prog_8_method_24_code 149 = .ok (.getfield 7, 3) := by decide +kernel
theorem d_M_lengthen_152 : decode prog_8_method_24_code 152 = .ok (.iconst 2, 1) := by decide +kernel
theorem d_M_lengthen_153 : decode prog_8_method_24_code 153 = .ok (.imul, 1) := by decide +kernel
theorem d_M_lengthen_154 : decode prog_8_method_24_code 154 = .ok (.if_icmp .ge 25, 3) := by decide +kernel
theorem d_M_lengthen_157 : decode prog_8_method_24_code 157 = .ok (.aload_n 0, 1) := by decide +kernel
theorem d_M_lengthen_158 : decode prog_8_method_24_code 158 = .ok (.getfield 73, 3) := by decide +kernel
theorem d_M_lengthen_161 : decode prog_8_method_24_code 161 = .ok (.iload_n 2, 1) := by decide +kernel
theorem d_M_lengthen_162 : decode prog_8_method_24_code 162 = .ok (.baload, 1) := by decide +kernel
theorem d_M_lengthen_163 : decode prog_8_method_24_code 163 = .ok (.ifCond .eq 10, 3) := by decide +kernel
theorem d_M_lengthen_166 : decode prog_8_method_24_code 166 = .ok (.aload_n 0, 1) := by decide +kernel
theorem d_M_lengthen_167 : decode prog_8_method_24_code 167 = .ok (.getfield 67, 3) := by decide +kernel
theorem d_M_lengthen_170 : decode prog_8_method_24_code 170 = .ok (.iload_n 2, 1) := by decide +kernel
theorem d_M_lengthen_171 : decode prog_8_method_24_code 171 = .ok (.iconst 2, 1) := by decide +kernel
theorem d_M_lengthen_172 : decode prog_8_method_24_code 172 = .ok (.iastore, 1) := by decide +kernel
theorem d_M_lengthen_173 : decode prog_8_method_24_code 173 = .ok (.iinc 2 1, 3) := by decide +kernel
theorem d_M_lengthen_176 : decode prog_8_method_24_code 176 = .ok (.goto (-29), 3) := by decide +kernel
theorem d_M_lengthen_179 : decode prog_8_method_24_code 179 = .ok (.iload_n 1, 1) := by decide +kernel
theorem d_M_lengthen_180 : decode prog_8_method_24_code 180 = .ok (.ireturn, 1) := by decide +kernel
theorem d_M_addressOf_0 : decode prog_8_method_23_code 0 = .ok (.iconst 0, 1) := by decide +kernel
theorem d_M_addressOf_1 : decode prog_8_method_23_code 1 = .ok (.istore_n 2, 1) := by decide +kernel
theorem d_M_addressOf_2 : decode prog_8_method_23_code 2 = .ok (.iconst 0, 1) := by decide +kernel
theorem d_M_addressOf_3 : decode prog_8_method_23_code 3 = .ok (.istore_n 3, 1) := by decide +kernel
theorem d_M_addressOf_4 : decode prog_8_method_23_code 4 = .ok (.aload_n 0, 1) := by decide +kernel
theorem d_M_addressOf_5 : decode prog_8_method_23_code 5 = .ok (.getfield 58, 3) := by decide +kernel
theorem d_M_addressOf_8 : decode prog_8_method_23_code 8 = .ok (.iload_n 3, 1) := by decide +kernel
theorem d_M_addressOf_9 : decode prog_8_method_23_code 9 = .ok (.iaload, 1) := by decide +kernel
theorem d_M_addressOf_10 : decode prog_8_method_23_code 10 = .ok (.iload_n 1, 1) := by decide +kernel
theorem d_M_addressOf_11 : decode prog_8_method_23_code 11 = .ok (.if_icmp .eq 22, 3) := by decide +kernel
theorem d_M_addressOf_14 : decode prog_8_method_23_code 14 = .ok (.iload_n 2, 1) := by decide +kernel
theorem d_M_addressOf_15 : decode prog_8_method_23_code 15 = .ok (.aload_n 0, 1) := by decide +kernel
theorem d_M_addressOf_16 : decode prog_8_method_23_code 16 = .ok (.aload_n 0, 1) := by decide +kernel
theorem d_M_addressOf_17 : decode prog_8_method_23_code 17 = .ok (.getfield 58, 3) := by decide +kernel
theorem d_M_addressOf_20 : decode prog_8_method_23_code 20 = .ok (.iload_n 3, 1) := by decide +kernel
theorem d_M_addressOf_21 : decode prog_8_method_23_code 21 = .ok (.iaload, 1) := by decide +kernel
theorem d_M_addressOf_22 : decode prog_8_method_23_code 22 = .ok (.invokevirtual 122, 3) := by decide +kernel
theorem d_M_addressOf_25 : decode prog_8_method_23_code 25 = .ok (.iadd, 1) := by decide +kernel
theorem d_M_addressOf_26 : decode prog_8_method_23_code 26 = .ok (.istore_n 2, 1) := by decide +kernel
theorem d_M_addressOf_27 : decode prog_8_method_23_code 27 = .ok (.iinc 3 1, 3) := by decide +kernel
theorem d_M_addressOf_30 : decode prog_8_method_23_code 30 = .ok (.goto (-26), 3) := by decide +kernel
theorem d_M_addressOf_33 : decode prog_8_method_23_code 33 = .ok (.iload_n 2, 1) := by decide +kernel
theorem d_M_addressOf_34 : decode prog_8_method_23_code 34 = .ok (.ireturn, 1) := by decide +kernel
theorem d_M_units_0 : decode prog_8_method_22_code 0 = .ok (.aload_n 0, 1) := by decide +kernel
theorem d_M_units_1 : decode prog_8_method_22_code 1 = .ok (.getfield 30, 3) := by decide +kernel
theorem d_M_units_4 : decode prog_8_method_22_code 4 = .ok (.iload_n 1, 1) := by decide +kernel
theorem d_M_units_5 : decode prog_8_method_22_code 5 = .ok (.iaload, 1) := by decide +kernel
theorem d_M_units_6 : decode prog_8_method_22_code 6 = .ok (.aload_n 0, 1) := by decide +kernel
theorem d_M_units_7 : decode prog_8_method_22_code 7 = .ok (.getfield 33, 3) := by decide +kernel
theorem d_M_units_10 : decode prog_8_method_22_code 10 = .ok (.iload_n 1, 1) := by decide +kernel
theorem d_M_units_11 : decode prog_8_method_22_code 11 = .ok (.iaload, 1) := by decide +kernel
theorem d_M_units_12 : decode prog_8_method_22_code 12 = .ok (.ifCond .ne 7, 3) := by decide +kernel
theorem d_M_units_15 : decode prog_8_method_22_code 15 = .ok (.iconst 1, 1) := by decide +kernel
theorem d_M_units_16 : decode prog_8_method_22_code 16 = .ok (.goto 4, 3) := by decide +kernel
theorem d_M_units_19 : decode prog_8_method_22_code 19 = .ok (.iconst 0, 1) := by decide +kernel
theorem d_M_units_20 : decode prog_8_method_22_code 20 = .ok (.iadd, 1) := by decide +kernel
theorem d_M_units_21 : decode prog_8_method_22_code 21 = .ok (.istore_n 2, 1) := by decide +kernel
theorem d_M_units_22 : decode prog_8_method_22_code 22 = .ok (.iconst 0, 1) := by decide +kernel
theorem d_M_units_23 : decode prog_8_method_22_code 23 = .ok (.istore_n 3, 1) := by decide +kernel
theorem d_M_units_24 : decode prog_8_method_22_code 24 = .ok (.iload_n 3, 1) := by decide +kernel
theorem d_M_units_25 : decode prog_8_method_22_code 25 = .ok (.aload_n 0, 1) := by decide +kernel
theorem d_M_units_26 : decode prog_8_method_22_code 26 = .ok (.getfield 61, 3) := by decide +kernel
theorem d_M_units_29 : decode prog_8_method_22_code 29 = .ok (.iload_n 1, 1) := by decide +kernel
theorem d_M_units_30 : decode prog_8_method_22_code 30 = .ok (.iaload, 1) := by decide +kernel
theorem d_M_units_31 : decode prog_8_method_22_code 31 = .ok (.if_icmp .ge 22, 3) := by decide +kernel
theorem d_M_units_34 : decode prog_8_method_22_code 34 = .ok (.iload_n 2, 1) := by decide +kernel
theorem d_M_units_35 : decode prog_8_method_22_code 35 = .ok (.aload_n 0, 1) := by decide +kernel
theorem d_M_units_36 : decode prog_8_method_22_code 36 = .ok (.getfield 67, 3) := by decide +kernel
theorem d_M_units_39 : decode prog_8_method_22_code 39 = .ok (.iload_n 1, 1) := by decide +kernel
theorem d_M_units_40 : decode prog_8_method_22_code 40 = .ok (.iconst 2, 1) := by decide +kernel
theorem d_M_units_41 : decode prog_8_method_22_code 41 = .ok (.imul, 1) := by decide +kernel
theorem d_M_units_42 : decode prog_8_method_22_code 42 = .ok (.iload_n 3, 1) := by decide +kernel
theorem d_M_units_43 : decode prog_8_method_22_code 43 = .ok (.iadd, 1) := by decide +kernel
theorem d_M_units_44 : decode prog_8_method_22_code 44 = .ok (.iaload, 1) := by decide +kernel
theorem d_M_units_45 : decode prog_8_method_22_code 45 = .ok (.iadd, 1) := by decide +kernel
theorem d_M_units_46 : decode prog_8_method_22_code 46 = .ok (.istore_n 2, 1) := by decide +kernel
theorem d_M_units_47 : decode prog_8_method_22_code 47 = .ok (.iinc 3 1, 3) := by decide +kernel
theorem d_M_units_50 : decode prog_8_method_22_code 50 = .ok (.goto (-26), 3) := by decide +kernel
theorem d_M_units_53 : decode prog_8_method_22_code 53 = .ok (.iload_n 2, 1) := by decide +kernel
theorem d_M_units_54 : decode prog_8_method_22_code 54 = .ok (.ireturn, 1) := by decide +kernel
theorem d_M_total_0 : decode prog_8_method_25_code 0 = .ok (.iconst 0, 1) := by decide +kernel
theorem d_M_total_1 : decode prog_8_method_25_code 1 = .ok (.istore_n 1, 1) := by decide +kernel
theorem d_M_total_2 : decode prog_8_method_25_code 2 = .ok (.iconst 0, 1) := by decide +kernel
theorem d_M_total_3 : decode prog_8_method_25_code 3 = .ok (.istore_n 2, 1) := by decide +kernel
theorem d_M_total_4 : decode prog_8_method_25_code 4 = .ok (.iload_n 2, 1) := by decide +kernel
theorem d_M_total_5 : decode prog_8_method_25_code 5 = .ok (.aload_n 0, 1) := by decide +kernel
theorem d_M_total_6 : decode prog_8_method_25_code 6 = .ok (.getfield 7, 3) := by decide +kernel
theorem d_M_total_9 : decode prog_8_method_25_code 9 = .ok (.if_icmp .ge 17, 3) := by decide +kernel
theorem d_M_total_12 : decode prog_8_method_25_code 12 = .ok (.iload_n 1, 1) := by decide +kernel
theorem d_M_total_13 : decode prog_8_method_25_code 13 = .ok (.aload_n 0, 1) := by decide +kernel
theorem d_M_total_14 : decode prog_8_method_25_code 14 = .ok (.iload_n 2, 1) := by decide +kernel
theorem d_M_total_15 : decode prog_8_method_25_code 15 = .ok (.invokevirtual 122, 3) := by decide +kernel
theorem d_M_total_18 : decode prog_8_method_25_code 18 = .ok (.iadd, 1) := by decide +kernel
theorem d_M_total_19 : decode prog_8_method_25_code 19 = .ok (.istore_n 1, 1) := by decide +kernel
theorem d_M_total_20 : decode prog_8_method_25_code 20 = .ok (.iinc 2 1, 3) := by decide +kernel
theorem d_M_total_23 : decode prog_8_method_25_code 23 = .ok (.goto (-19), 3) := by decide +kernel
theorem d_M_total_26 : decode prog_8_method_25_code 26 = .ok (.iload_n 1, 1) := by decide +kernel
theorem d_M_total_27 : decode prog_8_method_25_code 27 = .ok (.ireturn, 1) := by decide +kernel
theorem d_M_at_0 : decode prog_8_method_27_code 0 = .ok (.aload_n 0, 1) := by decide +kernel
theorem d_M_at_1 : decode prog_8_method_27_code 1 = .ok (.getfield 22, 3) := by decide +kernel
theorem d_M_at_4 : decode prog_8_method_27_code 4 = .ok (.ifCond .eq 11, 3) := by decide +kernel
theorem d_M_at_7 : decode prog_8_method_27_code 7 = .ok (.aload_n 0, 1) := by decide +kernel
theorem d_M_at_8 : decode prog_8_method_27_code 8 = .ok (.iload_n 1, 1) := by decide +kernel
theorem d_M_at_9 : decode prog_8_method_27_code 9 = .ok (.invokevirtual 83, 3) := by decide +kernel
theorem d_M_at_12 : decode prog_8_method_27_code 12 = .ok (.ifCond .eq 8, 3) := by decide +kernel
theorem d_M_at_15 : decode prog_8_method_27_code 15 = .ok (.bipush (-3), 2) := by decide +kernel
theorem d_M_at_17 : decode prog_8_method_27_code 17 = .ok (.goto 9, 3) := by decide +kernel
theorem d_M_at_20 : decode prog_8_method_27_code 20 = .ok (.aload_n 0, 1) := by decide +kernel
theorem d_M_at_21 : decode prog_8_method_27_code 21 = .ok (.getfield 58, 3) := by decide +kernel
theorem d_M_at_24 : decode prog_8_method_27_code 24 = .ok (.iload_n 1, 1) := by decide +kernel
theorem d_M_at_25 : decode prog_8_method_27_code 25 = .ok (.iaload, 1) := by decide +kernel
theorem d_M_at_26 : decode prog_8_method_27_code 26 = .ok (.ireturn, 1) := by decide +kernel
theorem d_M_address_0 : decode prog_8_method_28_code 0 = .ok (.aload_n 0, 1) := by decide +kernel
theorem d_M_address_1 : decode prog_8_method_28_code 1 = .ok (.getfield 22, 3) := by decide +kernel
theorem d_M_address_4 : decode prog_8_method_28_code 4 = .ok (.ifCond .eq 11, 3) := by decide +kernel
theorem d_M_address_7 : decode prog_8_method_28_code 7 = .ok (.aload_n 0, 1) := by decide +kernel
theorem d_M_address_8 : decode prog_8_method_28_code 8 = .ok (.iload_n 1, 1) := by decide +kernel
theorem d_M_address_9 : decode prog_8_method_28_code 9 = .ok (.invokevirtual 83, 3) := by decide +kernel
theorem d_M_address_12 : decode prog_8_method_28_code 12 = .ok (.ifCond .eq 8, 3) := by decide +kernel
theorem d_M_address_15 : decode prog_8_method_28_code 15 = .ok (.bipush (-3), 2) := by decide +kernel
theorem d_M_address_17 : decode prog_8_method_28_code 17 = .ok (.goto 8, 3) := by decide +kernel
theorem d_M_address_20 : decode prog_8_method_28_code 20 = .ok (.aload_n 0, 1) := by decide +kernel
theorem d_M_address_21 : decode prog_8_method_28_code 21 = .ok (.iload_n 1, 1) := by decide +kernel
theorem d_M_address_22 : decode prog_8_method_28_code 22 = .ok (.invokevirtual 125, 3) := by decide +kernel
theorem d_M_address_25 : decode prog_8_method_28_code 25 = .ok (.ireturn, 1) := by decide +kernel
theorem d_M_branch_0 : decode prog_8_method_30_code 0 = .ok (.aload_n 0, 1) := by decide +kernel
theorem d_M_branch_1 : decode prog_8_method_30_code 1 = .ok (.iload_n 1, 1) := by decide +kernel
theorem d_M_branch_2 : decode prog_8_method_30_code 2 = .ok (.iload_n 2, 1) := by decide +kernel
theorem d_M_branch_3 : decode prog_8_method_30_code 3 = .ok (.invokevirtual 146, 3) := by decide +kernel
theorem d_M_branch_6 : decode prog_8_method_30_code 6 = .ok (.ifCond .eq 8, 3) := by decide +kernel
theorem d_M_branch_9 : decode prog_8_method_30_code 9 = .ok (.bipush (-3), 2) := by decide +kernel
theorem d_M_branch_11 : decode prog_8_method_30_code 11 = .ok (.goto 13, 3) := by decide +kernel
theorem d_M_branch_14 : decode prog_8_method_30_code 14 = .ok (.aload_n 0, 1) := by decide +kernel
theorem d_M_branch_15 : decode prog_8_method_30_code 15 = .ok (.getfield 67, 3) := by decide +kernel
theorem d_M_branch_18 : decode prog_8_method_30_code 18 = .ok (.iload_n 1, 1) := by decide +kernel
theorem d_M_branch_19 : decode prog_8_method_30_code 19 = .ok (.iconst 2, 1) := by decide +kernel
theorem d_M_branch_20 : decode prog_8_method_30_code 20 = .ok (.imul, 1) := by decide +kernel
theorem d_M_branch_21 : decode prog_8_method_30_code 21 = .ok (.iload_n 2, 1) := by decide +kernel
theorem d_M_branch_22 : decode prog_8_method_30_code 22 = .ok (.iadd, 1) := by decide +kernel
theorem d_M_branch_23 : decode prog_8_method_30_code 23 = .ok (.iaload, 1) := by decide +kernel
theorem d_M_branch_24 : decode prog_8_method_30_code 24 = .ok (.ireturn, 1) := by decide +kernel
theorem d_M_noBranch_0 : decode prog_8_method_29_code 0 = .ok (.aload_n 0, 1) := by decide +kernel
theorem d_M_noBranch_1 : decode prog_8_method_29_code 1 = .ok (.getfield 22, 3) := by decide +kernel
theorem d_M_noBranch_4 : decode prog_8_method_29_code 4 = .ok (.ifCond .eq 25, 3) := by decide +kernel
theorem d_M_noBranch_7 : decode prog_8_method_29_code 7 = .ok (.aload_n 0, 1) := by decide +kernel
theorem d_M_noBranch_8 : decode prog_8_method_29_code 8 = .ok (.iload_n 1, 1) := by decide +kernel
theorem d_M_noBranch_9 : decode prog_8_method_29_code 9 = .ok (.invokevirtual 83, 3) := by decide +kernel
theorem d_M_noBranch_12 : decode prog_8_method_29_code 12 = .ok (.ifCond .ne 17, 3) := by decide +kernel
theorem d_M_noBranch_15 : decode prog_8_method_29_code 15 = .ok (.iload_n 2, 1) := by decide +kernel
theorem d_M_noBranch_16 : decode prog_8_method_29_code 16 = .ok (.ifCond .lt 13, 3) := by decide +kernel
theorem d_M_noBranch_19 : decode prog_8_method_29_code 19 = .ok (.iload_n 2, 1) := by decide +kernel
theorem d_M_noBranch_20 : decode prog_8_method_29_code 20 = .ok (.aload_n 0, 1) := by decide +kernel
theorem d_M_noBranch_21 : decode prog_8_method_29_code 21 = .ok (.getfield 61, 3) := by decide +kernel
theorem d_M_noBranch_24 : decode prog_8_method_29_code 24 = .ok (.iload_n 1, 1) := by decide +kernel
theorem d_M_noBranch_25 : decode prog_8_method_29_code 25 = .ok (.iaload, 1) := by decide +kernel
theorem d_M_noBranch_26 : decode prog_8_method_29_code 26 = .ok (.if_icmp .lt 7, 3) := by decide +kernel
theorem d_M_noBranch_29 : decode prog_8_method_29_code 29 = .ok (.iconst 1, 1) := by decide +kernel
theorem d_M_noBranch_30 : decode prog_8_method_29_code 30 = .ok (.goto 4, 3) := by decide +kernel
theorem d_M_noBranch_33 : decode prog_8_method_29_code 33 = .ok (.iconst 0, 1) := by decide +kernel
theorem d_M_noBranch_34 : decode prog_8_method_29_code 34 = .ok (.ireturn, 1) := by decide +kernel
theorem d_M_target_0 : decode prog_8_method_31_code 0 = .ok (.aload_n 0, 1) := by decide +kernel
theorem d_M_target_1 : decode prog_8_method_31_code 1 = .ok (.iload_n 1, 1) := by decide +kernel
theorem d_M_target_2 : decode prog_8_method_31_code 2 = .ok (.iload_n 2, 1) := by decide +kernel
theorem d_M_target_3 : decode prog_8_method_31_code 3 = .ok (.invokevirtual 146, 3) := by decide +kernel
theorem d_M_target_6 : decode prog_8_method_31_code 6 = .ok (.ifCond .eq 8, 3) := by decide +kernel
theorem d_M_target_9 : decode prog_8_method_31_code 9 = .ok (.bipush (-3), 2) := by decide +kernel
theorem d_M_target_11 : decode prog_8_method_31_code 11 = .ok (.goto 13, 3) := by decide +kernel
theorem d_M_target_14 : decode prog_8_method_31_code 14 = .ok (.aload_n 0, 1) := by decide +kernel
theorem d_M_target_15 : decode prog_8_method_31_code 15 = .ok (.getfield 64, 3) := by decide +kernel
theorem d_M_target_18 : decode prog_8_method_31_code 18 = .ok (.iload_n 1, 1) := by decide +kernel
theorem d_M_target_19 : decode prog_8_method_31_code 19 = .ok (.iconst 2, 1) := by decide +kernel
theorem d_M_target_20 : decode prog_8_method_31_code 20 = .ok (.imul, 1) := by decide +kernel
theorem d_M_target_21 : decode prog_8_method_31_code 21 = .ok (.iload_n 2, 1) := by decide +kernel
theorem d_M_target_22 : decode prog_8_method_31_code 22 = .ok (.iadd, 1) := by decide +kernel
theorem d_M_target_23 : decode prog_8_method_31_code 23 = .ok (.iaload, 1) := by decide +kernel
theorem d_M_target_24 : decode prog_8_method_31_code 24 = .ok (.ireturn, 1) := by decide +kernel
theorem d_M_cost_0 : decode prog_8_method_33_code 0 = .ok (.iload_n 1, 1) := by decide +kernel
theorem d_M_cost_1 : decode prog_8_method_33_code 1 = .ok (.ifCond .lt 8, 3) := by decide +kernel
theorem d_M_cost_4 : decode prog_8_method_33_code 4 = .ok (.iload_n 1, 1) := by decide +kernel
theorem d_M_cost_5 : decode prog_8_method_33_code 5 = .ok (.iconst 3, 1) := by decide +kernel
theorem d_M_cost_6 : decode prog_8_method_33_code 6 = .ok (.if_icmp .le 7, 3) := by decide +kernel
theorem d_M_cost_9 : decode prog_8_method_33_code 9 = .ok (.iconst (-1), 1) := by decide +kernel
theorem d_M_cost_10 : decode prog_8_method_33_code 10 = .ok (.goto 8, 3) := by decide +kernel
theorem d_M_cost_13 : decode prog_8_method_33_code 13 = .ok (.aload_n 0, 1) := by decide +kernel
theorem d_M_cost_14 : decode prog_8_method_33_code 14 = .ok (.iload_n 1, 1) := by decide +kernel
theorem d_M_cost_15 : decode prog_8_method_33_code 15 = .ok (.invokevirtual 88, 3) := by decide +kernel
theorem d_M_cost_18 : decode prog_8_method_33_code 18 = .ok (.istore_n 3, 1) := by decide +kernel
theorem d_M_cost_19 : decode prog_8_method_33_code 19 = .ok (.iconst 0, 1) := by decide +kernel
theorem d_M_cost_20 : decode prog_8_method_33_code 20 = .ok (.istore 4, 2) := by decide +kernel
theorem d_M_cost_22 : decode prog_8_method_33_code 22 = .ok (.iconst 0, 1) := by decide +kernel
theorem d_M_cost_23 : decode prog_8_method_33_code 23 = .ok (.istore 5, 2) := by decide +kernel
theorem d_M_cost_25 : decode prog_8_method_33_code 25 = .ok (.iconst 0, 1) := by decide +kernel
theorem d_M_cost_26 : decode prog_8_method_33_code 26 = .ok (.istore 6, 2) := by decide +kernel
theorem d_M_cost_28 : decode prog_8_method_33_code 28 = .ok (.iload_n 3, 1) := by decide +kernel
theorem d_M_cost_29 : decode prog_8_method_33_code 29 = .ok (.ifCond .lt 10, 3) := by decide +kernel
theorem d_M_cost_32 : decode prog_8_method_33_code 32 = .ok (.aload_n 0, 1) := by decide +kernel
theorem d_M_cost_33 : decode prog_8_method_33_code 33 = .ok (.getfield 22, 3) := by decide +kernel
theorem d_M_cost_36 : decode prog_8_method_33_code 36 = .ok (.ifCond .ne 5, 3) := by decide +kernel
theorem d_M_cost_39 : decode prog_8_method_33_code 39 = .ok (.iconst (-1), 1) := by decide +kernel
theorem d_M_cost_40 : decode prog_8_method_33_code 40 = .ok (.ireturn, 1) := by decide +kernel
theorem d_M_cost_41 : decode prog_8_method_33_code 41 = .ok (.iinc 4 1, 3) := by decide +kernel
theorem d_M_cost_44 : decode prog_8_method_33_code 44 = .ok (.aload_n 0, 1) := by decide +kernel
theorem d_M_cost_45 : decode prog_8_method_33_code 45 = .ok (.iload_n 3, 1) := by decide +kernel
theorem d_M_cost_46 : decode prog_8_method_33_code 46 = .ok (.iload 5, 2) := by decide +kernel
theorem d_M_cost_48 : decode prog_8_method_33_code 48 = .ok (.iload_n 2, 1) := by decide +kernel
theorem d_M_cost_49 : decode prog_8_method_33_code 49 = .ok (.invokevirtual 96, 3) := by decide +kernel
theorem d_M_cost_52 : decode prog_8_method_33_code 52 = .ok (.istore 7, 2) := by decide +kernel
theorem d_M_cost_54 : decode prog_8_method_33_code 54 = .ok (.iload 6, 2) := by decide +kernel
theorem d_M_cost_56 : decode prog_8_method_33_code 56 = .ok (.aload_n 0, 1) := by decide +kernel
theorem d_M_cost_57 : decode prog_8_method_33_code 57 = .ok (.iload_n 3, 1) := by decide +kernel
theorem d_M_cost_58 : decode prog_8_method_33_code 58 = .ok (.iload 7, 2) := by decide +kernel
theorem d_M_cost_60 : decode prog_8_method_33_code 60 = .ok (.invokevirtual 149, 3) := by decide +kernel
theorem d_M_cost_63 : decode prog_8_method_33_code 63 = .ok (.iadd, 1) := by decide +kernel
theorem d_M_cost_64 : decode prog_8_method_33_code 64 = .ok (.istore 6, 2) := by decide +kernel
theorem d_M_cost_66 : decode prog_8_method_33_code 66 = .ok (.iload 4, 2) := by decide +kernel
theorem d_M_cost_68 : decode prog_8_method_33_code 68 = .ok (.bipush 60, 2) := by decide +kernel
theorem d_M_cost_70 : decode prog_8_method_33_code 70 = .ok (.if_icmp .eq 8, 3) := by decide +kernel
theorem d_M_cost_73 : decode prog_8_method_33_code 73 = .ok (.iload 7, 2) := by decide +kernel
theorem d_M_cost_75 : decode prog_8_method_33_code 75 = .ok (.ifCond .ge 6, 3) := by decide +kernel
theorem d_M_cost_78 : decode prog_8_method_33_code 78 = .ok (.iload 6, 2) := by decide +kernel
theorem d_M_cost_80 : decode prog_8_method_33_code 80 = .ok (.ireturn, 1) := by decide +kernel
theorem d_M_cost_81 : decode prog_8_method_33_code 81 = .ok (.aload_n 0, 1) := by decide +kernel
theorem d_M_cost_82 : decode prog_8_method_33_code 82 = .ok (.getfield 33, 3) := by decide +kernel
theorem d_M_cost_85 : decode prog_8_method_33_code 85 = .ok (.iload_n 3, 1) := by decide +kernel
theorem d_M_cost_86 : decode prog_8_method_33_code 86 = .ok (.iaload, 1) := by decide +kernel
theorem d_M_cost_87 : decode prog_8_method_33_code 87 = .ok (.iconst 2, 1) := by decide +kernel
theorem d_M_cost_88 : decode prog_8_method_33_code 88 = .ok (.if_icmp .ne 6, 3) := by decide +kernel
theorem d_M_cost_91 : decode prog_8_method_33_code 91 = .ok (.iinc 5 1, 3) := by decide +kernel
theorem d_M_cost_94 : decode prog_8_method_33_code 94 = .ok (.aload_n 0, 1) := by decide +kernel
theorem d_M_cost_95 : decode prog_8_method_33_code 95 = .ok (.getfield 36, 3) := by decide +kernel
theorem d_M_cost_98 : decode prog_8_method_33_code 98 = .ok (.iload_n 3, 1) := by decide +kernel
theorem d_M_cost_99 : decode prog_8_method_33_code 99 = .ok (.iconst 2, 1) := by decide +kernel
theorem d_M_cost_100 : decode prog_8_method_33_code 100 = .ok (.imul, 1) := by decide +kernel
theorem d_M_cost_101 : decode prog_8_method_33_code 101 = .ok (.iload 7, 2) := by decide +kernel
theorem d_M_cost_103 : decode prog_8_method_33_code 103 = .ok (.iadd, 1) := by decide +kernel
theorem d_M_cost_104 : decode prog_8_method_33_code 104 = .ok (.iaload, 1) := by decide +kernel
theorem d_M_cost_105 : decode prog_8_method_33_code 105 = .ok (.istore_n 3, 1) := by decide +kernel
theorem d_M_cost_106 : decode prog_8_method_33_code 106 = .ok (.goto (-65), 3) := by decide +kernel
theorem d_M_leaving_0 : decode prog_8_method_32_code 0 = .ok (.iload_n 1, 1) := by decide +kernel
theorem d_M_leaving_1 : decode prog_8_method_32_code 1 = .ok (.iconst 2, 1) := by decide +kernel
theorem d_M_leaving_2 : decode prog_8_method_32_code 2 = .ok (.imul, 1) := by decide +kernel
theorem d_M_leaving_3 : decode prog_8_method_32_code 3 = .ok (.istore_n 3, 1) := by decide +kernel
theorem d_M_leaving_4 : decode prog_8_method_32_code 4 = .ok (.aload_n 0, 1) := by decide +kernel
theorem d_M_leaving_5 : decode prog_8_method_32_code 5 = .ok (.getfield 33, 3) := by decide +kernel
theorem d_M_leaving_8 : decode prog_8_method_32_code 8 = .ok (.iload_n 1, 1) := by decide +kernel
theorem d_M_leaving_9 : decode prog_8_method_32_code 9 = .ok (.iaload, 1) := by decide +kernel
theorem d_M_leaving_10 : decode prog_8_method_32_code 10 = .ok (.ifCond .ne 5, 3) := by decide +kernel
theorem d_M_leaving_13 : decode prog_8_method_32_code 13 = .ok (.iconst 1, 1) := by decide +kernel
theorem d_M_leaving_14 : decode prog_8_method_32_code 14 = .ok (.ireturn, 1) := by decide +kernel
theorem d_M_leaving_15 : decode prog_8_method_32_code 15 = .ok (.aload_n 0, 1) := by decide +kernel
theorem d_M_leaving_16 : decode prog_8_method_32_code 16 = .ok (.getfield 33, 3) := by decide +kernel
theorem d_M_leaving_19 : decode prog_8_method_32_code 19 = .ok (.iload_n 1, 1) := by decide +kernel
theorem d_M_leaving_20 : decode prog_8_method_32_code 20 = .ok (.iaload, 1) := by decide +kernel
theorem d_M_leaving_21 : decode prog_8_method_32_code 21 = .ok (.iconst 1, 1) := by decide +kernel
theorem d_M_leaving_22 : decode prog_8_method_32_code 22 = .ok (.if_icmp .ne 25, 3) := by decide +kernel
theorem d_M_leaving_25 : decode prog_8_method_32_code 25 = .ok (.aload_n 0, 1) := by decide +kernel
theorem d_M_leaving_26 : decode prog_8_method_32_code 26 = .ok (.getfield 61, 3) := by decide +kernel
theorem d_M_leaving_29 : decode prog_8_method_32_code 29 = .ok (.iload_n 1, 1) := by decide +kernel
theorem d_M_leaving_30 : decode prog_8_method_32_code 30 = .ok (.iaload, 1) := by decide +kernel
theorem d_M_leaving_31 : decode prog_8_method_32_code 31 = .ok (.ifCond .ne 7, 3) := by decide +kernel
theorem d_M_leaving_34 : decode prog_8_method_32_code 34 = .ok (.iconst 0, 1) := by decide +kernel
theorem d_M_leaving_35 : decode prog_8_method_32_code 35 = .ok (.goto 11, 3) := by decide +kernel
theorem d_M_leaving_38 : decode prog_8_method_32_code 38 = .ok (.iconst 1, 1) := by decide +kernel
theorem d_M_leaving_39 : decode prog_8_method_32_code 39 = .ok (.aload_n 0, 1) := by decide +kernel
theorem d_M_leaving_40 : decode prog_8_method_32_code 40 = .ok (.getfield 67, 3) := by decide +kernel
theorem d_M_leaving_43 : decode prog_8_method_32_code 43 = .ok (.iload_n 3, 1) := by decide +kernel
theorem d_M_leaving_44 : decode prog_8_method_32_code 44 = .ok (.iaload, 1) := by decide +kernel
theorem d_M_leaving_45 : decode prog_8_method_32_code 45 = .ok (.iadd, 1) := by decide +kernel
theorem d_M_leaving_46 : decode prog_8_method_32_code 46 = .ok (.ireturn, 1) := by decide +kernel
theorem d_M_leaving_47 : decode prog_8_method_32_code 47 = .ok (.iload_n 2, 1) := by decide +kernel
theorem d_M_leaving_48 : decode prog_8_method_32_code 48 = .ok (.ifCond .ne 7, 3) := by decide +kernel
theorem d_M_leaving_51 : decode prog_8_method_32_code 51 = .ok (.iconst 1, 1) := by decide +kernel
theorem d_M_leaving_52 : decode prog_8_method_32_code 52 = .ok (.goto 4, 3) := by decide +kernel
theorem d_M_leaving_55 : decode prog_8_method_32_code 55 = .ok (.iconst 0, 1) := by decide +kernel
theorem d_M_leaving_56 : decode prog_8_method_32_code 56 = .ok (.aload_n 0, 1) := by decide +kernel
theorem d_M_leaving_57 : decode prog_8_method_32_code 57 = .ok (.getfield 70, 3) := by decide +kernel
theorem d_M_leaving_60 : decode prog_8_method_32_code 60 = .ok (.iload_n 1, 1) := by decide +kernel
theorem d_M_leaving_61 : decode prog_8_method_32_code 61 = .ok (.baload, 1) := by decide +kernel
theorem d_M_leaving_62 : decode prog_8_method_32_code 62 = .ok (.if_icmp .eq 7, 3) := by decide +kernel
theorem d_M_leaving_65 : decode prog_8_method_32_code 65 = .ok (.iconst 1, 1) := by decide +kernel
theorem d_M_leaving_66 : decode prog_8_method_32_code 66 = .ok (.goto 4, 3) := by decide +kernel
theorem d_M_leaving_69 : decode prog_8_method_32_code 69 = .ok (.iconst 0, 1) := by decide +kernel
theorem d_M_leaving_70 : decode prog_8_method_32_code 70 = .ok (.istore 4, 2) := by decide +kernel
theorem d_M_leaving_72 : decode prog_8_method_32_code 72 = .ok (.iload 4, 2) := by decide +kernel
theorem d_M_leaving_74 : decode prog_8_method_32_code 74 = .ok (.ifCond .eq 12, 3) := by decide +kernel
theorem d_M_leaving_77 : decode prog_8_method_32_code 77 = .ok (.iconst 1, 1) := by decide +kernel
theorem d_M_leaving_78 : decode prog_8_method_32_code 78 = .ok (.aload_n 0, 1) := by decide +kernel
theorem d_M_leaving_79 : decode prog_8_method_32_code 79 = .ok (.getfield 67, 3) := by decide +kernel
theorem d_M_leaving_82 : decode prog_8_method_32_code 82 = .ok (.iload_n 3, 1) := by decide +kernel
theorem d_M_leaving_83 : decode prog_8_method_32_code 83 = .ok (.iaload, 1) := by decide +kernel
theorem d_M_leaving_84 : decode prog_8_method_32_code 84 = .ok (.iadd, 1) := by decide +kernel
theorem d_M_leaving_85 : decode prog_8_method_32_code 85 = .ok (.ireturn, 1) := by decide +kernel
theorem d_M_leaving_86 : decode prog_8_method_32_code 86 = .ok (.aload_n 0, 1) := by decide +kernel
theorem d_M_leaving_87 : decode prog_8_method_32_code 87 = .ok (.getfield 61, 3) := by decide +kernel
theorem d_M_leaving_90 : decode prog_8_method_32_code 90 = .ok (.iload_n 1, 1) := by decide +kernel
theorem d_M_leaving_91 : decode prog_8_method_32_code 91 = .ok (.iaload, 1) := by decide +kernel
theorem d_M_leaving_92 : decode prog_8_method_32_code 92 = .ok (.iconst 1, 1) := by decide +kernel
theorem d_M_leaving_93 : decode prog_8_method_32_code 93 = .ok (.if_icmp .ne 7, 3) := by decide +kernel
theorem d_M_leaving_96 : decode prog_8_method_32_code 96 = .ok (.iconst 1, 1) := by decide +kernel
theorem d_M_leaving_97 : decode prog_8_method_32_code 97 = .ok (.goto 13, 3) := by decide +kernel
theorem d_M_leaving_100 : decode prog_8_method_32_code 100 = .ok (.iconst 2, 1) := by decide +kernel
theorem d_M_leaving_101 : decode prog_8_method_32_code 101 = .ok (.aload_n 0, 1) := by decide +kernel
theorem d_M_leaving_102 : decode prog_8_method_32_code 102 = .ok (.getfield 67, 3) := by decide +kernel
theorem d_M_leaving_105 : decode prog_8_method_32_code 105 = .ok (.iload_n 3, 1) := by decide +kernel
theorem d_M_leaving_106 : decode prog_8_method_32_code 106 = .ok (.iconst 1, 1) := by decide +kernel
theorem d_M_leaving_107 : decode prog_8_method_32_code 107 = .ok (.iadd, 1) := by decide +kernel
theorem d_M_leaving_108 : decode prog_8_method_32_code 108 = .ok (.iaload, 1) := by decide +kernel
theorem d_M_leaving_109 : decode prog_8_method_32_code 109 = .ok (.iadd, 1) := by decide +kernel
theorem d_M_leaving_110 : decode prog_8_method_32_code 110 = .ok (.ireturn, 1) := by decide +kernel
theorem d_M_heatOf_0 : decode prog_8_method_34_code 0 = .ok (.aload_n 0, 1) := by decide +kernel
theorem d_M_heatOf_1 : decode prog_8_method_34_code 1 = .ok (.iload_n 1, 1) := by decide +kernel
theorem d_M_heatOf_2 : decode prog_8_method_34_code 2 = .ok (.invokevirtual 83, 3) := by decide +kernel
theorem d_M_heatOf_5 : decode prog_8_method_34_code 5 = .ok (.ifCond .ne 18, 3) := by decide +kernel
theorem d_M_heatOf_8 : decode prog_8_method_34_code 8 = .ok (.iload_n 2, 1) := by decide +kernel
theorem d_M_heatOf_9 : decode prog_8_method_34_code 9 = .ok (.iconst (-1), 1) := by decide +kernel
theorem d_M_heatOf_10 : decode prog_8_method_34_code 10 = .ok (.if_icmp .lt 13, 3) := by decide +kernel
theorem d_M_heatOf_13 : decode prog_8_method_34_code 13 = .ok (.iload_n 2, 1) := by decide +kernel
theorem d_M_heatOf_14 : decode prog_8_method_34_code 14 = .ok (.aload_n 0, 1) := by decide +kernel
theorem d_M_heatOf_15 : decode prog_8_method_34_code 15 = .ok (.getfield 33, 3) := by decide +kernel
theorem d_M_heatOf_18 : decode prog_8_method_34_code 18 = .ok (.iload_n 1, 1) := by decide +kernel
theorem d_M_heatOf_19 : decode prog_8_method_34_code 19 = .ok (.iaload, 1) := by decide +kernel
theorem d_M_heatOf_20 : decode prog_8_method_34_code 20 = .ok (.if_icmp .lt 6, 3) := by decide +kernel
theorem d_M_heatOf_23 : decode prog_8_method_34_code 23 = .ok (.bipush (-3), 2) := by decide +kernel
theorem d_M_heatOf_25 : decode prog_8_method_34_code 25 = .ok (.ireturn, 1) := by decide +kernel
theorem d_M_heatOf_26 : decode prog_8_method_34_code 26 = .ok (.iload_n 2, 1) := by decide +kernel
theorem d_M_heatOf_27 : decode prog_8_method_34_code 27 = .ok (.ifCond .ge 12, 3) := by decide +kernel
theorem d_M_heatOf_30 : decode prog_8_method_34_code 30 = .ok (.aload_n 0, 1) := by decide +kernel
theorem d_M_heatOf_31 : decode prog_8_method_34_code 31 = .ok (.getfield 39, 3) := by decide +kernel
theorem d_M_heatOf_34 : decode prog_8_method_34_code 34 = .ok (.iload_n 1, 1) := by decide +kernel
theorem d_M_heatOf_35 : decode prog_8_method_34_code 35 = .ok (.iaload, 1) := by decide +kernel
theorem d_M_heatOf_36 : decode prog_8_method_34_code 36 = .ok (.goto 13, 3) := by decide +kernel
theorem d_M_heatOf_39 : decode prog_8_method_34_code 39 = .ok (.aload_n 0, 1) := by decide +kernel
theorem d_M_heatOf_40 : decode prog_8_method_34_code 40 = .ok (.getfield 42, 3) := by decide +kernel
theorem d_M_heatOf_43 : decode prog_8_method_34_code 43 = .ok (.iload_n 1, 1) := by decide +kernel
theorem d_M_heatOf_44 : decode prog_8_method_34_code 44 = .ok (.iconst 2, 1) := by decide +kernel
theorem d_M_heatOf_45 : decode prog_8_method_34_code 45 = .ok (.imul, 1) := by decide +kernel
theorem d_M_heatOf_46 : decode prog_8_method_34_code 46 = .ok (.iload_n 2, 1) := by decide +kernel
theorem d_M_heatOf_47 : decode prog_8_method_34_code 47 = .ok (.iadd, 1) := by decide +kernel
theorem d_M_heatOf_48 : decode prog_8_method_34_code 48 = .ok (.iaload, 1) := by decide +kernel
theorem d_M_heatOf_49 : decode prog_8_method_34_code 49 = .ok (.ireturn, 1) := by decide +kernel
theorem d_M_count_0 : decode prog_8_method_35_code 0 = .ok (.iconst 0, 1) := by decide +kernel
theorem d_M_count_1 : decode prog_8_method_35_code 1 = .ok (.istore_n 2, 1) := by decide +kernel
theorem d_M_count_2 : decode prog_8_method_35_code 2 = .ok (.iconst 0, 1) := by decide +kernel
theorem d_M_count_3 : decode prog_8_method_35_code 3 = .ok (.istore_n 3, 1) := by decide +kernel
theorem d_M_count_4 : decode prog_8_method_35_code 4 = .ok (.iconst 0, 1) := by decide +kernel
theorem d_M_count_5 : decode prog_8_method_35_code 5 = .ok (.istore 4, 2) := by decide +kernel
theorem d_M_count_7 : decode prog_8_method_35_code 7 = .ok (.iload 4, 2) := by decide +kernel
theorem d_M_count_9 : decode prog_8_method_35_code 9 = .ok (.aload_n 0, 1) := by decide +kernel
theorem d_M_count_10 : decode prog_8_method_35_code 10 = .ok (.getfield 7, 3) := by decide +kernel
theorem d_M_count_13 : decode prog_8_method_35_code 13 = .ok (.if_icmp .ge 66, 3) := by decide +kernel
theorem d_M_count_16 : decode prog_8_method_35_code 16 = .ok (.aload_n 0, 1) := by decide +kernel
theorem d_M_count_17 : decode prog_8_method_35_code 17 = .ok (.getfield 22, 3) := by decide +kernel
theorem d_M_count_20 : decode prog_8_method_35_code 20 = .ok (.ifCond .eq 59, 3) := by decide +kernel
theorem d_M_count_23 : decode prog_8_method_35_code 23 = .ok (.iload_n 2, 1) := by decide +kernel
theorem d_M_count_24 : decode prog_8_method_35_code 24 = .ok (.aload_n 0, 1) := by decide +kernel
theorem d_M_count_25 : decode prog_8_method_35_code 25 = .ok (.getfield 61, 3) := by decide +kernel
theorem d_M_count_28 : decode prog_8_method_35_code 28 = .ok (.iload 4, 2) := by decide +kernel
theorem d_M_count_30 : decode prog_8_method_35_code 30 = .ok (.iaload, 1) := by decide +kernel
theorem d_M_count_31 : decode prog_8_method_35_code 31 = .ok (.iadd, 1) := by decide +kernel
theorem d_M_count_32 : decode prog_8_method_35_code 32 = .ok (.istore_n 2, 1) := by decide +kernel
theorem d_M_count_33 : decode prog_8_method_35_code 33 = .ok (.iconst 0, 1) := by decide +kernel
theorem d_M_count_34 : decode prog_8_method_35_code 34 = .ok (.istore 5, 2) := by decide +kernel
theorem d_M_count_36 : decode prog_8_method_35_code 36 = .ok (.iload 5, 2) := by decide +kernel
theorem d_M_count_38 : decode prog_8_method_35_code 38 = .ok (.aload_n 0, 1) := by decide +kernel
theorem d_M_count_39 : decode prog_8_method_35_code 39 = .ok (.getfield 61, 3) := by decide +kernel
theorem d_M_count_42 : decode prog_8_method_35_code 42 = .ok (.iload 4, 2) := by decide +kernel
theorem d_M_count_44 : decode prog_8_method_35_code 44 = .ok (.iaload, 1) := by decide +kernel
theorem d_M_count_45 : decode prog_8_method_35_code 45 = .ok (.if_icmp .ge 28, 3) := by decide +kernel
theorem d_M_count_48 : decode prog_8_method_35_code 48 = .ok (.aload_n 0, 1) := by decide +kernel
theorem d_M_count_49 : decode prog_8_method_35_code 49 = .ok (.getfield 67, 3) := by decide +kernel
theorem d_M_count_52 : decode prog_8_method_35_code 52 = .ok (.iload 4, 2) := by decide +kernel
theorem d_M_count_54 : decode prog_8_method_35_code 54 = .ok (.iconst 2, 1) := by decide +kernel
theorem d_M_count_55 : decode prog_8_method_35_code 55 = .ok (.imul, 1) := by decide +kernel
theorem d_M_count_56 : decode prog_8_method_35_code 56 = .ok (.iload 5, 2) := by decide +kernel
theorem d_M_count_58 : decode prog_8_method_35_code 58 = .ok (.iadd, 1) := by decide +kernel
theorem d_M_count_59 : decode prog_8_method_35_code 59 = .ok (.iaload, 1) := by decide +kernel
theorem d_M_count_60 : decode prog_8_method_35_code 60 = .ok (.iconst 2, 1) := by decide +kernel
theorem d_M_count_61 : decode prog_8_method_35_code 61 = .ok (.if_icmp .ne 6, 3) := by decide +kernel
theorem d_M_count_64 : decode prog_8_method_35_code 64 = .ok (.iinc 3 1, 3) := by decide +kernel
theorem d_M_count_67 : decode prog_8_method_35_code 67 = .ok (.iinc 5 1, 3) := by decide +kernel
theorem d_M_count_70 : decode prog_8_method_35_code 70 = .ok (.goto (-34), 3) := by decide +kernel
theorem d_M_count_73 : decode prog_8_method_35_code 73 = .ok (.iinc 4 1, 3) := by decide +kernel
theorem d_M_count_76 : decode prog_8_method_35_code 76 = .ok (.goto (-69), 3) := by decide +kernel
theorem d_M_count_79 : decode prog_8_method_35_code 79 = .ok (.iload_n 1, 1) := by decide +kernel
theorem d_M_count_80 : decode prog_8_method_35_code 80 = .ok (.ifCond .ne 8, 3) := by decide +kernel
theorem d_M_count_83 : decode prog_8_method_35_code 83 = .ok (.aload_n 0, 1) := by decide +kernel
theorem d_M_count_84 : decode prog_8_method_35_code 84 = .ok (.getfield 7, 3) := by decide +kernel
theorem d_M_count_87 : decode prog_8_method_35_code 87 = .ok (.ireturn, 1) := by decide +kernel
theorem d_M_count_88 : decode prog_8_method_35_code 88 = .ok (.iload_n 1, 1) := by decide +kernel
theorem d_M_count_89 : decode prog_8_method_35_code 89 = .ok (.iconst 1, 1) := by decide +kernel
theorem d_M_count_90 : decode prog_8_method_35_code 90 = .ok (.if_icmp .lt 8, 3) := by decide +kernel
theorem d_M_count_93 : decode prog_8_method_35_code 93 = .ok (.iload_n 1, 1) := by decide +kernel
theorem d_M_count_94 : decode prog_8_method_35_code 94 = .ok (.iconst 5, 1) := by decide +kernel
theorem d_M_count_95 : decode prog_8_method_35_code 95 = .ok (.if_icmp .le 5, 3) := by decide +kernel
theorem d_M_count_98 : decode prog_8_method_35_code 98 = .ok (.iconst (-1), 1) := by decide +kernel
theorem d_M_count_99 : decode prog_8_method_35_code 99 = .ok (.ireturn, 1) := by decide +kernel
theorem d_M_count_100 : decode prog_8_method_35_code 100 = .ok (.aload_n 0, 1) := by decide +kernel
theorem d_M_count_101 : decode prog_8_method_35_code 101 = .ok (.getfield 22, 3) := by decide +kernel
theorem d_M_count_104 : decode prog_8_method_35_code 104 = .ok (.ifCond .ne 5, 3) := by decide +kernel
theorem d_M_count_107 : decode prog_8_method_35_code 107 = .ok (.iconst 0, 1) := by decide +kernel
theorem d_M_count_108 : decode prog_8_method_35_code 108 = .ok (.ireturn, 1) := by decide +kernel
theorem d_M_count_109 : decode prog_8_method_35_code 109 = .ok (.iload_n 1, 1) := by decide +kernel
theorem d_M_count_110 : decode prog_8_method_35_code 110 = .ok (.iconst 1, 1) := by decide +kernel
theorem d_M_count_111 : decode prog_8_method_35_code 111 = .ok (.if_icmp .ne 10, 3) := by decide +kernel
theorem d_M_count_114 : decode prog_8_method_35_code 114 = .ok (.aload_n 0, 1) := by decide +kernel
theorem d_M_count_115 : decode prog_8_method_35_code 115 = .ok (.invokevirtual 142, 3) := by decide +kernel
theorem d_M_count_118 : decode prog_8_method_35_code 118 = .ok (.goto 37, 3) := by decide +kernel
theorem d_M_count_121 : decode prog_8_method_35_code 121 = .ok (.iload_n 1, 1) := by decide +kernel
theorem d_M_count_122 : decode prog_8_method_35_code 122 = .ok (.iconst 2, 1) := by decide +kernel
theorem d_M_count_123 : decode prog_8_method_35_code 123 = .ok (.if_icmp .ne 7, 3) := by decide +kernel
theorem d_M_count_126 : decode prog_8_method_35_code 126 = .ok (.iload_n 2, 1) := by decide +kernel
theorem d_M_count_127 : decode prog_8_method_35_code 127 = .ok (.goto 28, 3) := by decide +kernel
theorem d_M_count_130 : decode prog_8_method_35_code 130 = .ok (.iload_n 1, 1) := by decide +kernel
theorem d_M_count_131 : decode prog_8_method_35_code 131 = .ok (.iconst 3, 1) := by decide +kernel
theorem d_M_count_132 : decode prog_8_method_35_code 132 = .ok (.if_icmp .ne 7, 3) := by decide +kernel
theorem d_M_count_135 : decode prog_8_method_35_code 135 = .ok (.iload_n 3, 1) := by decide +kernel
theorem d_M_count_136 : decode prog_8_method_35_code 136 = .ok (.goto 19, 3) := by decide +kernel
theorem d_M_count_139 : decode prog_8_method_35_code 139 = .ok (.iload_n 1, 1) := by decide +kernel
theorem d_M_count_140 : decode prog_8_method_35_code 140 = .ok (.iconst 4, 1) := by decide +kernel
theorem d_M_count_141 : decode prog_8_method_35_code 141 = .ok (.if_icmp .ne 10, 3) := by decide +kernel
theorem d_M_count_144 : decode prog_8_method_35_code 144 = .ok (.aload_n 0, 1) := by decide +kernel
theorem d_M_count_145 : decode prog_8_method_35_code 145 = .ok (.getfield 16, 3) := by decide +kernel
theorem d_M_count_148 : decode prog_8_method_35_code 148 = .ok (.goto 7, 3) := by decide +kernel
theorem d_M_count_151 : decode prog_8_method_35_code 151 = .ok (.aload_n 0, 1) := by decide +kernel
theorem d_M_count_152 : decode prog_8_method_35_code 152 = .ok (.getfield 19, 3) := by decide +kernel
theorem d_M_count_155 : decode prog_8_method_35_code 155 = .ok (.ireturn, 1) := by decide +kernel
